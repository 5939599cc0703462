section
-- ===== PART A: goes FIRST, ahead of the names: the tables' words, and 'selects' of the private methods out of them =====
/-- a private method of a class that the tables say can be made, by its rows of tables_1 -/
def lw_okq (q : MethodName × Nat) : Prop := (q.1.cls ≠ "java/lang/invoke/MethodHandle" ∧ q.1.cls ≠ "java/lang/invoke/VarHandle") ∧ Cond.instantiable q.1.cls q.2 ∈ tables_1 ∧ Cond.privateMethod q.1 ∈ tables_1 ∧ Cond.instanceMethod q.1 ∈ tables_1
theorem lw_p0 : lw_okq (⟨"java/lang/Throwable", "fillInStackTrace", "(I)Ljava/lang/Throwable;"⟩, 6) := ⟨⟨by decide +kernel, by decide +kernel⟩, List.mem_of_getElem? (i := 156) (by decide +kernel), List.mem_of_getElem? (i := 154) (by decide +kernel), List.mem_of_getElem? (i := 155) (by decide +kernel)⟩
theorem lw_p1 : lw_okq (⟨"FlakeTriage", "needTest", "(I)V"⟩, 15) := ⟨⟨by decide +kernel, by decide +kernel⟩, List.mem_of_getElem? (i := 13) (by decide +kernel), List.mem_of_getElem? (i := 262) (by decide +kernel), List.mem_of_getElem? (i := 263) (by decide +kernel)⟩
theorem lw_p2 : lw_okq (⟨"FlakeTriage", "needCommit", "(I)V"⟩, 15) := ⟨⟨by decide +kernel, by decide +kernel⟩, List.mem_of_getElem? (i := 13) (by decide +kernel), List.mem_of_getElem? (i := 267) (by decide +kernel), List.mem_of_getElem? (i := 268) (by decide +kernel)⟩
theorem lw_p3 : lw_okq (⟨"FlakeTriage", "candidatesOf", "(I)J"⟩, 15) := ⟨⟨by decide +kernel, by decide +kernel⟩, List.mem_of_getElem? (i := 13) (by decide +kernel), List.mem_of_getElem? (i := 289) (by decide +kernel), List.mem_of_getElem? (i := 290) (by decide +kernel)⟩
theorem lw_p4 : lw_okq (⟨"FlakeTriage", "suspectsOf", "(I)J"⟩, 15) := ⟨⟨by decide +kernel, by decide +kernel⟩, List.mem_of_getElem? (i := 13) (by decide +kernel), List.mem_of_getElem? (i := 293) (by decide +kernel), List.mem_of_getElem? (i := 294) (by decide +kernel)⟩
theorem lw_p5 : lw_okq (⟨"FlakeTriage", "allPartsOf", "(I)I"⟩, 15) := ⟨⟨by decide +kernel, by decide +kernel⟩, List.mem_of_getElem? (i := 13) (by decide +kernel), List.mem_of_getElem? (i := 297) (by decide +kernel), List.mem_of_getElem? (i := 298) (by decide +kernel)⟩
theorem lw_p6 : lw_okq (⟨"FlakeTriage", "needTriage", "(I)V"⟩, 15) := ⟨⟨by decide +kernel, by decide +kernel⟩, List.mem_of_getElem? (i := 13) (by decide +kernel), List.mem_of_getElem? (i := 325) (by decide +kernel), List.mem_of_getElem? (i := 326) (by decide +kernel)⟩
theorem lw_p7 : lw_okq (⟨"FlakeTriage", "likeliestOf", "(I)I"⟩, 15) := ⟨⟨by decide +kernel, by decide +kernel⟩, List.mem_of_getElem? (i := 13) (by decide +kernel), List.mem_of_getElem? (i := 330) (by decide +kernel), List.mem_of_getElem? (i := 331) (by decide +kernel)⟩
theorem lw_p8 : lw_okq (⟨"FlakeTriage", "leaveQueue", "(I)V"⟩, 15) := ⟨⟨by decide +kernel, by decide +kernel⟩, List.mem_of_getElem? (i := 13) (by decide +kernel), List.mem_of_getElem? (i := 334) (by decide +kernel), List.mem_of_getElem? (i := 335) (by decide +kernel)⟩
theorem lw_p9 : lw_okq (⟨"FlakeTriage", "joinQueue", "(I)V"⟩, 15) := ⟨⟨by decide +kernel, by decide +kernel⟩, List.mem_of_getElem? (i := 13) (by decide +kernel), List.mem_of_getElem? (i := 346) (by decide +kernel), List.mem_of_getElem? (i := 347) (by decide +kernel)⟩
theorem lw_p10 : lw_okq (⟨"FlakeTriage", "firstInQueue", "()I"⟩, 15) := ⟨⟨by decide +kernel, by decide +kernel⟩, List.mem_of_getElem? (i := 13) (by decide +kernel), List.mem_of_getElem? (i := 365) (by decide +kernel), List.mem_of_getElem? (i := 366) (by decide +kernel)⟩
theorem lw_p11 : lw_okq (⟨"FlakeTriage", "isUnsteady", "(I)Z"⟩, 15) := ⟨⟨by decide +kernel, by decide +kernel⟩, List.mem_of_getElem? (i := 13) (by decide +kernel), List.mem_of_getElem? (i := 421) (by decide +kernel), List.mem_of_getElem? (i := 422) (by decide +kernel)⟩
theorem lw_p12 : lw_okq (⟨"FlakeTriageModel", "goes", "(ZZ)Z"⟩, 16) := ⟨⟨by decide +kernel, by decide +kernel⟩, List.mem_of_getElem? (i := 481) (by decide +kernel), List.mem_of_getElem? (i := 551) (by decide +kernel), List.mem_of_getElem? (i := 552) (by decide +kernel)⟩
theorem lw_p13 : lw_okq (⟨"FlakeTriageModel", "isTest", "(I)Z"⟩, 16) := ⟨⟨by decide +kernel, by decide +kernel⟩, List.mem_of_getElem? (i := 481) (by decide +kernel), List.mem_of_getElem? (i := 575) (by decide +kernel), List.mem_of_getElem? (i := 576) (by decide +kernel)⟩
theorem lw_p14 : lw_okq (⟨"FlakeTriageModel", "isCommit", "(I)Z"⟩, 16) := ⟨⟨by decide +kernel, by decide +kernel⟩, List.mem_of_getElem? (i := 481) (by decide +kernel), List.mem_of_getElem? (i := 579) (by decide +kernel), List.mem_of_getElem? (i := 580) (by decide +kernel)⟩
theorem lw_p15 : lw_okq (⟨"FlakeTriageModel", "allRuns", "(I)I"⟩, 16) := ⟨⟨by decide +kernel, by decide +kernel⟩, List.mem_of_getElem? (i := 481) (by decide +kernel), List.mem_of_getElem? (i := 583) (by decide +kernel), List.mem_of_getElem? (i := 584) (by decide +kernel)⟩
def lw_privs_1 : List (MethodName × Nat) := [(⟨"java/lang/Throwable", "fillInStackTrace", "(I)Ljava/lang/Throwable;"⟩, 6), (⟨"FlakeTriage", "needTest", "(I)V"⟩, 15), (⟨"FlakeTriage", "needCommit", "(I)V"⟩, 15), (⟨"FlakeTriage", "candidatesOf", "(I)J"⟩, 15), (⟨"FlakeTriage", "suspectsOf", "(I)J"⟩, 15), (⟨"FlakeTriage", "allPartsOf", "(I)I"⟩, 15), (⟨"FlakeTriage", "needTriage", "(I)V"⟩, 15), (⟨"FlakeTriage", "likeliestOf", "(I)I"⟩, 15), (⟨"FlakeTriage", "leaveQueue", "(I)V"⟩, 15), (⟨"FlakeTriage", "joinQueue", "(I)V"⟩, 15), (⟨"FlakeTriage", "firstInQueue", "()I"⟩, 15), (⟨"FlakeTriage", "isUnsteady", "(I)Z"⟩, 15), (⟨"FlakeTriageModel", "goes", "(ZZ)Z"⟩, 16), (⟨"FlakeTriageModel", "isTest", "(I)Z"⟩, 16), (⟨"FlakeTriageModel", "isCommit", "(I)Z"⟩, 16), (⟨"FlakeTriageModel", "allRuns", "(I)I"⟩, 16)]
theorem lw_r1 : ∀ q ∈ lw_privs_1, lw_okq q := List.forall_mem_cons.mpr ⟨lw_p0, List.forall_mem_cons.mpr ⟨lw_p1, List.forall_mem_cons.mpr ⟨lw_p2, List.forall_mem_cons.mpr ⟨lw_p3, List.forall_mem_cons.mpr ⟨lw_p4, List.forall_mem_cons.mpr ⟨lw_p5, List.forall_mem_cons.mpr ⟨lw_p6, List.forall_mem_cons.mpr ⟨lw_p7, List.forall_mem_cons.mpr ⟨lw_p8, List.forall_mem_cons.mpr ⟨lw_p9, List.forall_mem_cons.mpr ⟨lw_p10, List.forall_mem_cons.mpr ⟨lw_p11, List.forall_mem_cons.mpr ⟨lw_p12, List.forall_mem_cons.mpr ⟨lw_p13, List.forall_mem_cons.mpr ⟨lw_p14, List.forall_mem_cons.mpr ⟨lw_p15, fun _ h => absurd h List.not_mem_nil⟩⟩⟩⟩⟩⟩⟩⟩⟩⟩⟩⟩⟩⟩⟩⟩
theorem lw_p16 : lw_okq (⟨"FlakeTriageModel", "all", "(I[I)I"⟩, 16) := ⟨⟨by decide +kernel, by decide +kernel⟩, List.mem_of_getElem? (i := 481) (by decide +kernel), List.mem_of_getElem? (i := 587) (by decide +kernel), List.mem_of_getElem? (i := 588) (by decide +kernel)⟩
theorem lw_p17 : lw_okq (⟨"FlakeTriageModel", "verdictOf", "(II)I"⟩, 16) := ⟨⟨by decide +kernel, by decide +kernel⟩, List.mem_of_getElem? (i := 481) (by decide +kernel), List.mem_of_getElem? (i := 591) (by decide +kernel), List.mem_of_getElem? (i := 592) (by decide +kernel)⟩
theorem lw_p18 : lw_okq (⟨"FlakeTriageModel", "candidatesOf", "(I)I"⟩, 16) := ⟨⟨by decide +kernel, by decide +kernel⟩, List.mem_of_getElem? (i := 481) (by decide +kernel), List.mem_of_getElem? (i := 599) (by decide +kernel), List.mem_of_getElem? (i := 600) (by decide +kernel)⟩
theorem lw_p19 : lw_okq (⟨"FlakeTriageModel", "counts", "(III)I"⟩, 16) := ⟨⟨by decide +kernel, by decide +kernel⟩, List.mem_of_getElem? (i := 481) (by decide +kernel), List.mem_of_getElem? (i := 603) (by decide +kernel), List.mem_of_getElem? (i := 604) (by decide +kernel)⟩
theorem lw_p20 : lw_okq (⟨"FlakeTriageModel", "isCandidate", "(II)Z"⟩, 16) := ⟨⟨by decide +kernel, by decide +kernel⟩, List.mem_of_getElem? (i := 481) (by decide +kernel), List.mem_of_getElem? (i := 607) (by decide +kernel), List.mem_of_getElem? (i := 608) (by decide +kernel)⟩
theorem lw_p21 : lw_okq (⟨"FlakeTriageModel", "isSuspect", "(II)Z"⟩, 16) := ⟨⟨by decide +kernel, by decide +kernel⟩, List.mem_of_getElem? (i := 481) (by decide +kernel), List.mem_of_getElem? (i := 611) (by decide +kernel), List.mem_of_getElem? (i := 612) (by decide +kernel)⟩
theorem lw_p22 : lw_okq (⟨"FlakeTriageModel", "reach", "(I)I"⟩, 16) := ⟨⟨by decide +kernel, by decide +kernel⟩, List.mem_of_getElem? (i := 481) (by decide +kernel), List.mem_of_getElem? (i := 615) (by decide +kernel), List.mem_of_getElem? (i := 616) (by decide +kernel)⟩
theorem lw_p23 : lw_okq (⟨"FlakeTriageModel", "against", "(II)I"⟩, 16) := ⟨⟨by decide +kernel, by decide +kernel⟩, List.mem_of_getElem? (i := 481) (by decide +kernel), List.mem_of_getElem? (i := 619) (by decide +kernel), List.mem_of_getElem? (i := 620) (by decide +kernel)⟩
theorem lw_p24 : lw_okq (⟨"FlakeTriageModel", "isInTriage", "(I)Z"⟩, 16) := ⟨⟨by decide +kernel, by decide +kernel⟩, List.mem_of_getElem? (i := 481) (by decide +kernel), List.mem_of_getElem? (i := 627) (by decide +kernel), List.mem_of_getElem? (i := 628) (by decide +kernel)⟩
theorem lw_p25 : lw_okq (⟨"FlakeTriageModel", "only", "(I)I"⟩, 16) := ⟨⟨by decide +kernel, by decide +kernel⟩, List.mem_of_getElem? (i := 481) (by decide +kernel), List.mem_of_getElem? (i := 631) (by decide +kernel), List.mem_of_getElem? (i := 632) (by decide +kernel)⟩
theorem lw_p26 : lw_okq (⟨"FlakeTriageModel", "placeOf", "(I)I"⟩, 16) := ⟨⟨by decide +kernel, by decide +kernel⟩, List.mem_of_getElem? (i := 481) (by decide +kernel), List.mem_of_getElem? (i := 635) (by decide +kernel), List.mem_of_getElem? (i := 636) (by decide +kernel)⟩
theorem lw_p27 : lw_okq (⟨"FlakeTriageModel", "leaves", "(I)V"⟩, 16) := ⟨⟨by decide +kernel, by decide +kernel⟩, List.mem_of_getElem? (i := 481) (by decide +kernel), List.mem_of_getElem? (i := 639) (by decide +kernel), List.mem_of_getElem? (i := 640) (by decide +kernel)⟩
theorem lw_p28 : lw_okq (⟨"FlakeTriageModel", "joins", "(I)V"⟩, 16) := ⟨⟨by decide +kernel, by decide +kernel⟩, List.mem_of_getElem? (i := 481) (by decide +kernel), List.mem_of_getElem? (i := 647) (by decide +kernel), List.mem_of_getElem? (i := 648) (by decide +kernel)⟩
theorem lw_p29 : lw_okq (⟨"FlakeTriageModel", "told", "(I)I"⟩, 16) := ⟨⟨by decide +kernel, by decide +kernel⟩, List.mem_of_getElem? (i := 481) (by decide +kernel), List.mem_of_getElem? (i := 663) (by decide +kernel), List.mem_of_getElem? (i := 664) (by decide +kernel)⟩
theorem lw_p30 : lw_okq (⟨"FlakeTriageModel", "isUnsteady", "(I)Z"⟩, 16) := ⟨⟨by decide +kernel, by decide +kernel⟩, List.mem_of_getElem? (i := 481) (by decide +kernel), List.mem_of_getElem? (i := 703) (by decide +kernel), List.mem_of_getElem? (i := 704) (by decide +kernel)⟩
def lw_privs_2 : List (MethodName × Nat) := [(⟨"FlakeTriageModel", "all", "(I[I)I"⟩, 16), (⟨"FlakeTriageModel", "verdictOf", "(II)I"⟩, 16), (⟨"FlakeTriageModel", "candidatesOf", "(I)I"⟩, 16), (⟨"FlakeTriageModel", "counts", "(III)I"⟩, 16), (⟨"FlakeTriageModel", "isCandidate", "(II)Z"⟩, 16), (⟨"FlakeTriageModel", "isSuspect", "(II)Z"⟩, 16), (⟨"FlakeTriageModel", "reach", "(I)I"⟩, 16), (⟨"FlakeTriageModel", "against", "(II)I"⟩, 16), (⟨"FlakeTriageModel", "isInTriage", "(I)Z"⟩, 16), (⟨"FlakeTriageModel", "only", "(I)I"⟩, 16), (⟨"FlakeTriageModel", "placeOf", "(I)I"⟩, 16), (⟨"FlakeTriageModel", "leaves", "(I)V"⟩, 16), (⟨"FlakeTriageModel", "joins", "(I)V"⟩, 16), (⟨"FlakeTriageModel", "told", "(I)I"⟩, 16), (⟨"FlakeTriageModel", "isUnsteady", "(I)Z"⟩, 16)]
theorem lw_r2 : ∀ q ∈ lw_privs_2, lw_okq q := List.forall_mem_cons.mpr ⟨lw_p16, List.forall_mem_cons.mpr ⟨lw_p17, List.forall_mem_cons.mpr ⟨lw_p18, List.forall_mem_cons.mpr ⟨lw_p19, List.forall_mem_cons.mpr ⟨lw_p20, List.forall_mem_cons.mpr ⟨lw_p21, List.forall_mem_cons.mpr ⟨lw_p22, List.forall_mem_cons.mpr ⟨lw_p23, List.forall_mem_cons.mpr ⟨lw_p24, List.forall_mem_cons.mpr ⟨lw_p25, List.forall_mem_cons.mpr ⟨lw_p26, List.forall_mem_cons.mpr ⟨lw_p27, List.forall_mem_cons.mpr ⟨lw_p28, List.forall_mem_cons.mpr ⟨lw_p29, List.forall_mem_cons.mpr ⟨lw_p30, fun _ h => absurd h List.not_mem_nil⟩⟩⟩⟩⟩⟩⟩⟩⟩⟩⟩⟩⟩⟩⟩
def lw_privs : List (MethodName × Nat) := lw_privs_1 ++ (lw_privs_2)
def lw_tbl : List Cond := k2_sels lw_privs ++ tables_1
theorem lw_privs_ok : ∀ q ∈ lw_privs, lw_okq q := by
  show ∀ q ∈ lw_privs_1 ++ (lw_privs_2), lw_okq q
  exact List.forall_mem_append.mpr ⟨lw_r1, lw_r2⟩
-- ===== end of PART A; then your names; then what follows =====
end
section
/-! ===== BEGIN words of one list among another's, by their places ===== -/
theorem goodIn_r {big : List Cond} (ws : List Cond) (ps : List Nat) (hp : ws = ps.filterMap (fun i => big[i]?)) (h : ws.all goodWord = true) : GoodIn big ws := by
  intro w hw
  have h1 := List.all_eq_true.mp h w hw
  rw [hp] at hw
  obtain ⟨i, -, hi⟩ := List.mem_filterMap.mp hw
  have hm : w ∈ big := by first | exact List.mem_of_getElem? hi | exact List.getElem?_mem hi
  exact ⟨hm, good_of_word h1⟩
theorem goodIn_app {big a b : List Cond} (ha : GoodIn big a) (hb : GoodIn big b) : GoodIn big (a ++ b) := fun w h => (List.mem_append.mp h).elim (ha w) (hb w)
theorem goodIn_ca {big a b : List Cond} {c : Cond} (ha : GoodIn big (c :: a)) (hb : GoodIn big b) : GoodIn big (c :: (a ++ b)) := fun w h => (List.mem_cons.mp h).elim (fun e => ha w (List.mem_cons.mpr (Or.inl e))) (fun h => (List.mem_append.mp h).elim (fun h => ha w (List.mem_cons.mpr (Or.inr h))) (hb w))
theorem goodIn_sub {big ws : List Cond} (hm : ∀ w ∈ ws, w ∈ big) (h : ws.all goodWord = true) : GoodIn big ws := fun w hw => ⟨hm w hw, good_of_word (List.all_eq_true.mp h w hw)⟩
/-! ===== END ===== -/

/-! the word of an array over arrays (wanting in the printed names: written here) -/
def va_AOA (t : FieldType) (U : State) : Prop := (Cond.arrayOver (.array t)).before #[] U = true
theorem va_AOA.of {t : FieldType} {A : Array Value} {U : State} (h : (Cond.arrayOver (.array t)).before A U = true) : va_AOA t U := h
theorem va_AOA.use {t : FieldType} {A : Array Value} {U : State} (h : va_AOA t U) : (Cond.arrayOver (.array t)).before A U = true := h
theorem va_AOA.moved {t : FieldType} {u U : State} (hvm : u.vm.Alike U.vm) (h : va_AOA t u) : va_AOA t U := over_moved (a := #[]) (a' := #[]) hvm h
/-! ===== BEGIN new T[n][m]: the outer array a place, the inner ones among the pooled ===== -/
/-- f, but v at every address of l -/
def vr_up {α : Type} (f : Nat → α) (l : List Nat) (v : α) : Nat → α := fun a => if a ∈ l then v else f a
theorem vr_up_in {α : Type} {f : Nat → α} {l : List Nat} {v : α} {a : Nat} (h : a ∈ l) : vr_up f l v a = v := if_pos h
theorem vr_up_ne {α : Type} {f : Nat → α} {l : List Nat} {v : α} {a : Nat} (h : a ∉ l) : vr_up f l v a = f a := if_neg h
theorem vr_rows {L l : List Nat} {f : Nat → va_E} {e : va_E} (h : ∀ a, a ∈ l → a ∉ L) : va_pl L f ++ l.map (fun a => (a, e)) = va_pl (L ++ l) (vr_up f l e) := by
  unfold va_pl
  rw [List.map_append]
  congr 1
  · apply List.map_congr_left
    intro a ha
    rw [vr_up_ne (fun q => h a q ha)]
  · apply List.map_congr_left
    intro a ha
    rw [vr_up_in ha]
theorem vr_lay {X rows : va_W} {x : Nat × va_E} {pl : va_W} {D : va_G} {cl : List vw_C} {H : Heap} (hP : va_P D cl (((X ++ pl) ++ [x]) ++ rows) H) : va_P D cl ((X ++ [x]) ++ (pl ++ rows)) H := by
  rw [List.append_assoc (X ++ pl)] at hP
  have h := va_P.swap hP
  rw [← List.append_assoc X] at h
  have h2 := va_P.swap h
  rw [List.append_assoc (X ++ [x])] at h2
  exact h2
theorem vr_layD {X rows : va_W} {x : Nat × va_E} {pl : va_W} {A : Nat → Prop} (hD : va_D A (((X ++ pl) ++ [x]) ++ rows)) : va_D A ((X ++ [x]) ++ (pl ++ rows)) := by
  rw [List.append_assoc (X ++ pl)] at hD
  have h := va_D.swap hD
  rw [← List.append_assoc X] at h
  have h2 := va_D.swap h
  rw [List.append_assoc (X ++ [x])] at h2
  exact h2
theorem vr_outer (c : ClassId) (N h0 : Nat) : ∀ i : Nat, Jvm.Free.Multi.outerC c N h0 i = arrV c N (fun j => va_rf (if j < i then some (h0 + 1 + j) else none))
  | 0 => by
    show ({ cls := c, slots := Array.replicate N .null, vm := .none } : Cell) = _
    rw [arrV_new]
    refine congrArg (arrV c N) (funext fun j => ?_)
    simp [va_rf]
  | i + 1 => by
    show (Jvm.Free.Multi.outerC c N h0 i).setSlot i (.ref (h0 + 1 + i)) = _
    rw [vr_outer c N h0 i, arrV_store]
    refine congrArg (arrV c N) (funext fun j => ?_)
    by_cases e : j = i
    · subst e
      simp [updV, va_rf]
    · by_cases h : j < i
      · simp [updV, e, h, Nat.lt_succ_of_lt h]
      · simp [updV, e, h, show ¬ j < i + 1 by omega]
section VGM
variable {p : Program} {l : Launch} {e : Env} {R : Room} {s : State} {m : MethodId} {args : Array Value} {below : List Frame} {meth : Method} {c : Code} {H : Heap} {locs : List Loc} {cells slots : Nat} {Q : State → Prop}
variable {cc : ByteArray} {pc : Nat} {ls : Array Slot} {rest : List Value} {D : va_G} {cl : List vw_C} {A : Nat → Prop} {a : Nat} {tys : List (ClassId × FieldType)} {ws : va_W} {H0 : Heap}
theorem va_mna {X : va_W} {L : List Nat} {f : Nat → va_E} {cc : ByteArray} (hexec : p.tables.exec = Jvm.exec) (hb : c.code = cc) {own : String} {index : Nat} {ty : FieldType} {cy : ClassId} (hown : s.vm.findClass own = some m.cls) (hclink : (Cond.classLink own index ("[" ++ (FieldType.array ty).toString)).before args s = true) (hover : va_AOA ty s) (harr : (Cond.arrayClass ty).before args s = true) (hcy : s.vm.findClass (FieldType.array ty).toString = some cy)
    (hK : va_K D cl tys s) (hP : va_P D cl (X ++ va_pl L f) H) (hD : va_D A (X ++ va_pl L f)) (hS : va_S A H0 H locs) (hA : ∀ q, H0.size ≤ q → A q) {n k : Int32} {N' K' : Nat} {z : vp_A} (hn : ¬ n < 0) (hk : ¬ k < 0) (hN : n.toNatClampNeg = N') (hM : k.toNatClampNeg = K')
    (hb1 : N' * 4 ≤ 536870912) (hb2 : K' * componentBytes ty ≤ 536870912) (hb3 : K' ≤ 536870912) (hdf : fits ty (defaultValue ty) = true) (hdd : (defaultValue ty).isDefault = true) (hcells : cells + (1 + N') ≤ R.cells) (hslots : slots + (N' + N' * K') ≤ R.slots) (hz : ∀ c : ClassId, Jvm.Free.Multi.innerC c K' (defaultValue ty) = vp_cell c z) (hdg : decode cc pc = .ok (.multianewarray index 2, 4))
    (kk : ∀ (q : Nat) (r : Nat → Nat) (cA : ClassId) (H1 : Heap), (∀ i j : Nat, i < N' → j < N' → r i = r j → i = j) → (∀ i : Nat, i < N' → r i ∉ L) → va_K D cl (tys ++ [(cA, .array ty)]) s →
      va_P D cl ((X ++ [(q, .inl (cA, N', .inr (.inr (.inr (.inr (fun i => if i < N' then some (r i) else none))))))]) ++ va_pl (L ++ (List.range N').map r) (vr_up f ((List.range N').map r) (.inl (cy, z)))) H1 → va_D A ((X ++ [(q, .inl (cA, N', .inr (.inr (.inr (.inr (fun i => if i < N' then some (r i) else none))))))]) ++ va_pl (L ++ (List.range N').map r) (vr_up f ((List.range N').map r) (.inl (cy, z)))) → va_S A H0 H1 locs →
      W p l e R s m args below meth c H1 locs (cells + 1 + N') (slots + N' + N' * K') Q (F0 m (pc + 4) ls (.ref q :: rest))) : W p l e R s m args below meth c H locs cells slots Q (F0 m pc ls (.int k :: .int n :: rest)) := by
  subst hN
  subst hM
  intro T hT Xs
  obtain ⟨vm₁, cA, comp, -, fA, fC, hO, -, X', step⟩ := Xs.multianewarray2F hexec hown hclink (va_AOA.use hover) harr (g := F0 m pc ls (.int k :: .int n :: rest)) rfl (by rw [hb]; exact hdg) rfl hn hk hb1 hb2 hb3 hdf hdd hcells hslots
  have ec : some cy = some comp := hcy.symm.trans fC
  cases ec
  generalize hF : Jvm.Free.Multi.fill (T.setVm vm₁) cA cy n.toNatClampNeg k.toNatClampNeg (defaultValue ty) n.toNatClampNeg = F at X' step
  have hTh : (T.setVm vm₁).heap = H := hT
  obtain ⟨f1, f2, -, -⟩ := Jvm.Free.Multi.fill_facts (T.setVm vm₁) cA cy n.toNatClampNeg k.toNatClampNeg (defaultValue ty) n.toNatClampNeg
  rw [hF, hTh] at f1 f2
  have hold : ∀ x : Nat, x < H.size → F.heap[x]? = H[x]? := fun x hx => by
    have := Jvm.Free.Multi.fill_old (T.setVm vm₁) cA cy n.toNatClampNeg k.toNatClampNeg (defaultValue ty) (a := x) (by rw [hTh]; exact hx) n.toNatClampNeg
    rw [hF, hTh] at this
    exact this
  have hrow : ∀ j : Nat, j < n.toNatClampNeg → F.heap[H.size + 1 + j]? = some (vp_cell cy z) := fun j hj => by
    have := Jvm.Free.Multi.fill_inner (T.setVm vm₁) cA cy n.toNatClampNeg k.toNatClampNeg (defaultValue ty) n.toNatClampNeg j hj
    rw [hF, hTh, hz] at this
    exact this
  have hout : Jvm.Free.Multi.outerC cA n.toNatClampNeg H.size n.toNatClampNeg = vp_cell cA (n.toNatClampNeg, .inr (.inr (.inr (.inr (fun i => if i < n.toNatClampNeg then some (H.size + 1 + i) else none))))) := by
    rw [vp_cell_q]
    exact vr_outer cA n.toNatClampNeg H.size n.toNatClampNeg
  rw [hout] at f2
  have hlt : ∀ a, a ∈ L → a < H.size := fun a ha => by
    obtain ⟨k9, hk9⟩ := va_pl_get (X := X) (f := f) ha
    exact (hP k9 _ hk9).lt
  have hnl : ∀ i : Nat, i < n.toNatClampNeg → H.size + 1 + i ∉ L := fun i _ h => by
    have := hlt _ h
    omega
  have hnm : ∀ a, a ∈ (List.range n.toNatClampNeg).map (fun i => H.size + 1 + i) → a ∉ L := fun a ha h => by
    obtain ⟨i, -, rfl⟩ := List.mem_map.mp ha
    have := hlt _ h
    omega
  have hP0 : va_P D cl (X ++ va_pl L f) F.heap := hP.kept (fun k9 x hx => hold x.1 ((hP k9 x hx).lt))
  have hP1 : va_P D cl ((X ++ va_pl L f) ++ [(H.size, .inl (cA, n.toNatClampNeg, .inr (.inr (.inr (.inr (fun i => if i < n.toNatClampNeg then some (H.size + 1 + i) else none))))))]) F.heap := hP0.app (fun k9 x hx => by
    have h0 : k9 < 1 := (List.getElem?_eq_some_iff.mp hx).1
    rw [show k9 = 0 by omega] at hx
    cases hx
    exact f2)
  have hP2 : va_P D cl (((X ++ va_pl L f) ++ [(H.size, .inl (cA, n.toNatClampNeg, .inr (.inr (.inr (.inr (fun i => if i < n.toNatClampNeg then some (H.size + 1 + i) else none))))))]) ++ ((List.range n.toNatClampNeg).map (fun i => H.size + 1 + i)).map (fun a => (a, .inl (cy, z)))) F.heap := hP1.app (fun k9 x hx => by
    obtain ⟨a, ha, rfl⟩ := List.mem_map.mp (List.mem_of_getElem? hx)
    obtain ⟨i, hi, rfl⟩ := List.mem_map.mp ha
    exact hrow i (List.mem_range.mp hi))
  have hD2 : va_D A (((X ++ va_pl L f) ++ [(H.size, .inl (cA, n.toNatClampNeg, .inr (.inr (.inr (.inr (fun i => if i < n.toNatClampNeg then some (H.size + 1 + i) else none))))))]) ++ ((List.range n.toNatClampNeg).map (fun i => H.size + 1 + i)).map (fun a => (a, .inl (cy, z)))) := by
    have hD1 := hD.push (e := .inl (cA, n.toNatClampNeg, .inr (.inr (.inr (.inr (fun i => if i < n.toNatClampNeg then some (H.size + 1 + i) else none)))))) hP rfl (hA _ hS.1)
    generalize hW1 : (X ++ va_pl L f) ++ [(H.size, .inl (cA, n.toNatClampNeg, .inr (.inr (.inr (.inr (fun i => if i < n.toNatClampNeg then some (H.size + 1 + i) else none))))))] = W1 at hD1 hP1 ⊢
    have hle : ∀ (k9 : Nat) (x : Nat × va_E), W1[k9]? = some x → x.1 ≤ H.size := fun k9 x hx => by
      rw [← hW1] at hx
      by_cases hl : k9 < (X ++ va_pl L f).length
      · rw [List.getElem?_append_left hl] at hx
        exact Nat.le_of_lt ((hP k9 x hx).lt)
      · rw [List.getElem?_append_right (by omega)] at hx
        have h0 : k9 - (X ++ va_pl L f).length < 1 := (List.getElem?_eq_some_iff.mp hx).1
        rw [show k9 - (X ++ va_pl L f).length = 0 by omega] at hx
        cases hx
        exact Nat.le_refl _
    have hr : ∀ (k9 : Nat) (x : Nat × va_E), (((List.range n.toNatClampNeg).map (fun i => H.size + 1 + i)).map (fun a => ((a, .inl (cy, z)) : Nat × va_E)))[k9]? = some x → x.1 = H.size + 1 + k9 := fun k9 x hx => by
      rw [List.getElem?_map, List.getElem?_map] at hx
      by_cases h9 : k9 < n.toNatClampNeg
      · rw [List.getElem?_range h9] at hx
        cases hx
        rfl
      · have hn0 : (List.range n.toNatClampNeg)[k9]? = none := List.getElem?_eq_none (by rw [List.length_range]; omega)
        rw [hn0] at hx
        cases hx
    refine ⟨fun i j x y hi hj hxy => ?_, fun k9 x hx => ?_⟩
    · by_cases h1 : i < W1.length <;> by_cases h2 : j < W1.length
      · rw [List.getElem?_append_left h1] at hi
        rw [List.getElem?_append_left h2] at hj
        exact hD1.1 i j x y hi hj hxy
      · rw [List.getElem?_append_left h1] at hi
        rw [List.getElem?_append_right (by omega)] at hj
        have := hle _ _ hi
        have := hr _ _ hj
        omega
      · rw [List.getElem?_append_right (by omega)] at hi
        rw [List.getElem?_append_left h2] at hj
        have := hle _ _ hj
        have := hr _ _ hi
        omega
      · rw [List.getElem?_append_right (by omega)] at hi hj
        have := hr _ _ hi
        have := hr _ _ hj
        omega
    · by_cases h1 : k9 < W1.length
      · rw [List.getElem?_append_left h1] at hx
        exact hD1.2 k9 x hx
      · rw [List.getElem?_append_right (by omega)] at hx
        have := hr _ _ hx
        exact hA _ (by have := hS.1; omega)
  have hAr : ArrOfT s cA (.array ty) := fun N9 z9 => by
    obtain ⟨-, k9, hk9, cm9, hkk9⟩ := (hO 0 0 0).1
    exact ⟨(fun q hq => by cases hq), k9, hk9, cm9, hkk9⟩
  have hK2 : va_K D cl (tys ++ [(cA, .array ty)]) s := ⟨hK.1, fun k9 x hx => by
    by_cases hl : k9 < tys.length
    · rw [List.getElem?_append_left hl] at hx
      exact hK.2 k9 x hx
    · rw [List.getElem?_append_right (by omega)] at hx
      have h0 : k9 - tys.length < 1 := (List.getElem?_eq_some_iff.mp hx).1
      rw [show k9 - tys.length = 0 by omega] at hx
      cases hx
      exact ⟨hAr, fA⟩⟩
  obtain ⟨t, a1, b1⟩ := kk H.size (fun i => H.size + 1 + i) cA F.heap (fun i j _ _ h => by have h9 : H.size + 1 + i = H.size + 1 + j := h; omega) hnl hK2 (by rw [← vr_rows hnm]; exact vr_lay hP2) (by rw [← vr_rows hnm]; exact vr_layD hD2) ⟨by rw [f1]; have := hS.1; omega, fun x h1 h2 => (hold x (Nat.lt_of_lt_of_le h1 hS.1)).trans (hS.2.1 x h1 h2), hS.2.2⟩ F rfl X'
  refine ⟨t, step t ?_, b1⟩
  have e : T.heap.size = H.size := by rw [hT]
  rw [e]
  exact a1
end VGM
/-! ===== END ===== -/

/-! ===== BEGIN exceptions that leave a method, and their catching by the caller (launches without stack traces) ===== -/
section VXA
/-! The laws vx_back, vx_callV, vx_callS, vx_callSW, vx_throw0, vx_throwS follow proofs of the library, with one case more: JvmDerived/Free/Laws.lean (Back.of_free), Shelf42/LK1.lean (callV, callS), Shelf/KitTraced.lean (throwNew0V, throwNewS). -/
/-- where a method has thrown q: the class by its name, the cell, what was written, the world -/
def vx_T (XC : String → State → State → Prop) (st : State) (q : Addr) (t : State) (mc ms : Nat) (free : Addr → Prop) : Prop :=
  ∃ (E : String) (ce : Cell) (L : List Loc), XC E st t ∧ t.heap[q]? = some ce ∧ ce.vm = .none ∧ st.vm.findClass E = some ce.cls ∧ st.WarmedH t.vm ∧ st.sameButNew ({ t with vm := st.vm } : State) L mc ms ∧ ∀ z ∈ L, free z.base
def vx_Q (Qc : Array Value → State → Outcome → State → Prop) (XC : String → State → State → Prop) (mc ms : Nat) (free : Addr → Prop) : Array Value → State → Outcome → State → Prop := fun a st o t =>
  (Qc a st o t ∧ ∃ L, FrameEnd st o t L mc ms ∧ ∀ q ∈ L, free q.base) ∨ ∃ q, o = .threw q ∧ vx_T XC st q t mc ms free
/-- a callee that returns or throws -/
def vx_Met (l : Launch) (y : MethodName) (ws : List Cond) (rm : Room) (Pc : Array Value → State → Prop) (Qc : Array Value → State → Outcome → State → Prop) (XC : String → State → State → Prop) (mc ms : Nat) (free : Addr → Prop) : Prop :=
  MetFree l y (headSpec ws rm) Pc (fun _ _ _ _ _ => True) (vx_Q Qc XC mc ms free)
def vx_Post (XC : String → State → State → Prop) (mc ms : Nat) (free : Addr → Prop) : Pt → Array Value → Addr → Pt → Prop := fun A a q B =>
  ∃ (g : JFrame) (mk : MethodId) (t : State) (L : List Loc) (E : String) (ce : Cell), B.U.heap = t.heap ∧ B.U.vm = t.vm ∧ XC E (A.U.calling g mk a) t ∧ t.heap[q]? = some ce ∧ ce.vm = .none ∧ A.U.vm.findClass E = some ce.cls ∧ B.locs = A.locs ++ L ∧ (∀ z ∈ L, free z.base) ∧ B.cells = A.cells + mc ∧ B.slots = A.slots + ms
def vx_Back (l : Launch) (R : Room) (p : Program) (e : Env) (below : List Frame) (s : State) (sargs : Array Value) (y : MethodName) (len W9 : Nat)
    (Pre : Pt → Array Value → Prop) (Post : Pt → Array Value → Option Value → Pt → Prop) (PostX : Pt → Array Value → Addr → Pt → Prop) : Prop :=
  ∀ (m : MethodId) (meth : Method) (c : Code) (A : Pt) (g : JFrame) (ig : Instr) (mk : MethodId) (a : Array Value),
    Stand p l e R s m sargs below meth c A.U A.locs A.cells A.slots → g.method = m → g.locals.size = c.maxLocals → decode c.code g.pc = .ok (ig, len) →
    2 * g.monitorRoom + (g.stack.map fun v => v.category).sum ≤ W9 → A.U.methodNamed? y = some mk → Pre A a →
    (∃ (v : Option Value) (B : Pt), Stand p l e R s m sargs below meth c B.U B.locs B.cells B.slots ∧ Post A a v B ∧
      Steps p.tables e below (doInvoke e (A.U.setTop g) [] mk a).1 (B.U.setTop { g with pc := g.pc + len, stack := v.toList ++ g.stack })) ∨
    (∃ (q : Addr) (B : Pt), Stand p l e R s m sargs below meth c B.U B.locs B.cells B.slots ∧ PostX A a q B ∧
      Steps p.tables e below (doInvoke e (A.U.setTop g) [] mk a).1 ((B.U.setTop g).pushFrame (.throwing q)))
section Payer
variable {l : Launch} {R : Room} {p : Program} {e : Env} {below : List Frame} {s : State} {sargs : Array Value} {y : MethodName} {len W9 : Nat}
theorem vx_back {ws : List Cond} {rm : Room} {Pc : Array Value → State → Prop} {Qc : Array Value → State → Outcome → State → Prop} {XC : String → State → State → Prop} {mc ms : Nat} {free : Addr → Prop} {bytes : ByteArray} {maxL : Nat} {ret : Option FieldType}
    (hM : vx_Met l y ws rm Pc Qc XC mc ms free) (hblind : FrameBlind Pc) (hrc : rm.cells = mc) (hrs : rm.slots = ms)
    (hframes : rm.frames + 1 ≤ R.frames) (hlocals : W9 + (maxL + 11) + rm.locals ≤ R.locals)
    (hws : ∀ w ∈ ws, ∀ a' U, s.WarmedH U.vm → w.before a' U = true) (hcode : Cond.code y bytes maxL ret ∈ ws) (hinit : ∀ a' U, s.WarmedH U.vm → (Cond.initialized y.cls).before a' U = true) :
    vx_Back l R p e below s sargs y len W9 (PreOf R mc ms Pc) (PostOf Qc mc ms free) (vx_Post XC mc ms free) := by
  intro m meth c A g ig mk a X hg hsize hdg hW hn hp
  have h1 : (headSpec ws rm).pre.before a A.U = true := atoms_intro fun w hw => hws w hw _ _ X.warmed
  have h2 : (Cond.code y bytes maxL ret).before a A.U = true := hws _ hcode _ _ X.warmed
  have h3 : (Cond.initialized y.cls).before a A.U = true := hinit _ _ X.warmed
  have h4 : A.cells + (headSpec ws rm).room.cells ≤ R.cells := by rw [show (headSpec ws rm).room.cells = mc from hrc]; exact hp.1
  have h5 : A.slots + (headSpec ws rm).room.slots ≤ R.slots := by rw [show (headSpec ws rm).room.slots = ms from hrs]; exact hp.2.1
  have hPc : Pc a (A.U.calling g mk a) := hblind _ _ _ _ hp.2.2
  obtain ⟨U, Ls, c0, s0⟩ := A
  dsimp only [Pt.U, Pt.locs, Pt.cells, Pt.slots] at h1 h2 h3 h4 h5 X hn hPc ⊢
  obtain ⟨methY, cY, hmY, hcY, -, hlY, -, -, -, -⟩ := Cond.code_spec hn h2
  obtain ⟨kY, hkY, -⟩ := className_of_methodNamed hn
  have hinitY : kY.init = .initialized := Cond.initialized_spec (findClass_of_methodNamed hn) hkY h3
  have h : At U g.method c below := by rw [hg]; exact X.here
  have hlocals9 : W9 + (maxL + 11) + (headSpec ws rm).room.locals ≤ R.locals := hlocals
  have happ : (headSpec ws rm).appliesLoose y e.platform (U.calling g mk a) = true :=
    Spec.appliesLoose_calling (g := g) h hdg hn hkY hinitY
      (X.room_calling (g := g) (R' := (headSpec ws rm).room) hsize hmY hcY hframes (by rw [hlY]; omega) h4 h5) h1
  obtain ⟨mid, hmid⟩ := h.above
  have hfr : (U.setTop g).frames = (.java g :: mid) ++ below := by rw [State.frames_setTop' g h.top, hmid]; rfl
  obtain ⟨o, s₂, hsteps, -, hend, hq⟩ := Steps.callFree hM p X.admits X.cas X.clock (acts := []) hfr happ hPc trivial
  have hq' : vx_Q Qc XC mc ms free a (U.calling g mk a) o s₂ := hq
  rw [State.frames_setTop' g h.top] at hend
  obtain ⟨g₀, hg0⟩ := Option.isSome_iff_exists.mp h.top
  obtain ⟨r, hr⟩ := State.topJava?_eq_some.mp hg0
  have hr' : (({ U with heap := s₂.heap, slotsUsed := s₂.slotsUsed } : State).setVm s₂.vm).frames = .java g₀ :: r := hr
  rcases hq' with ⟨hqc, L, hfe, hL⟩ | ⟨q, rfl, E, ce, L, hx, hce, hcv, hcl, hW₂, hsm, hL⟩
  · obtain ⟨⟨v, rfl⟩, hW₂, e2, q2, q3, q4, q5, q6⟩ := id hfe
    have e3 : s₂ = ({ (U.calling g mk a).setFrames s₂.frames with heap := s₂.heap, slotsUsed := s₂.slotsUsed } : State).setVm s₂.vm := by
      have : s₂ = ({ s₂ with vm := (U.calling g mk a).vm } : State).setVm s₂.vm := rfl
      rw [e2] at this
      exact this
    obtain ⟨c₂, i₂, len₂, hc₂, hd₂, hf₂⟩ := hend
    have hW' : U.WarmedH s₂.vm := hW₂
    have hcc : c₂ = c := by
      have h1 : s₂.code? g.method = U.code? g.method := by
        rw [State.code?_eq, State.code?_eq, hW'.alike.method?]
      exact Option.some.inj (hc₂.symm.trans (h1.trans h.code))
    subst hcc
    have hlen : len₂ = len := by rw [hdg] at hd₂; cases hd₂; rfl
    subst hlen
    have hs₂ : s₂ = (({ U with heap := s₂.heap, slotsUsed := s₂.slotsUsed } : State).setVm s₂.vm).setTop { g with pc := g.pc + len₂, stack := v.toList ++ g.stack } := by
      refine e3.trans ?_
      rw [hf₂, State.calling_eq h.top, State.setFrames_setFrames, State.setTop_of_frames _ hr', hr]
      rfl
    have hsame : U.sameButNew ({ U with heap := s₂.heap, slotsUsed := s₂.slotsUsed } : State) L mc ms := by
      refine ⟨?_, q2, q3, q4, q5, q6⟩
      obtain ⟨t, ht, -⟩ := State.frames_cons hr
      show ({ U with heap := s₂.heap, slotsUsed := s₂.slotsUsed } : State) = { U.setFrames U.frames with heap := s₂.heap, slotsUsed := s₂.slotsUsed }
      rw [State.setFrames_self ht]
    subst hg
    refine Or.inl ⟨v, ⟨(({ U with heap := s₂.heap, slotsUsed := s₂.slotsUsed } : State).setVm s₂.vm), Ls ++ L, c0 + mc, s0 + ms⟩,
      ⟨X.admits, X.cas, X.clock, X.frames, X.room, X.hears, X.method, X.code, (X.here.setHeapUsed s₂.heap s₂.slotsUsed).setVm hW'.alike, X.tail, State.WarmedH.trans X.warmed hW', X.limits, X.bytes, X.same.trans (hsame.setVm s.vm)⟩,
      ⟨g, mk, s₂, L, rfl, rfl, hqc, rfl, hL, rfl, rfl⟩, ?_⟩
    show Steps p.tables e below _ ((({ U with heap := s₂.heap, slotsUsed := s₂.slotsUsed } : State).setVm s₂.vm).setTop { g with pc := g.pc + len₂, stack := v.toList ++ g.stack })
    rw [← hs₂]
    exact hsteps
  · obtain ⟨e2, q2, q3, q4, q5, q6⟩ := id hsm
    have e3 : s₂ = ({ (U.calling g mk a).setFrames s₂.frames with heap := s₂.heap, slotsUsed := s₂.slotsUsed } : State).setVm s₂.vm := by
      have : s₂ = ({ s₂ with vm := (U.calling g mk a).vm } : State).setVm s₂.vm := rfl
      rw [e2] at this
      exact this
    have hf₂ : s₂.frames = .throwing q :: .java g :: U.frames.tail := hend
    have hW' : U.WarmedH s₂.vm := hW₂
    have hs₂ : s₂ = ((({ U with heap := s₂.heap, slotsUsed := s₂.slotsUsed } : State).setVm s₂.vm).setTop g).pushFrame (.throwing q) := by
      refine e3.trans ?_
      rw [hf₂, State.calling_eq h.top, State.setFrames_setFrames, State.pushFrame, State.frames_setTop _ hr', State.setTop_of_frames _ hr', State.setFrames_setFrames, hr]
      rfl
    have hsame : U.sameButNew ({ U with heap := s₂.heap, slotsUsed := s₂.slotsUsed } : State) L mc ms := by
      refine ⟨?_, q2, q3, q4, q5, q6⟩
      obtain ⟨t, ht, -⟩ := State.frames_cons hr
      show ({ U with heap := s₂.heap, slotsUsed := s₂.slotsUsed } : State) = { U.setFrames U.frames with heap := s₂.heap, slotsUsed := s₂.slotsUsed }
      rw [State.setFrames_self ht]
    subst hg
    refine Or.inr ⟨q, ⟨(({ U with heap := s₂.heap, slotsUsed := s₂.slotsUsed } : State).setVm s₂.vm), Ls ++ L, c0 + mc, s0 + ms⟩,
      ⟨X.admits, X.cas, X.clock, X.frames, X.room, X.hears, X.method, X.code, (X.here.setHeapUsed s₂.heap s₂.slotsUsed).setVm hW'.alike, X.tail, State.WarmedH.trans X.warmed hW', X.limits, X.bytes, X.same.trans (hsame.setVm s.vm)⟩,
      ⟨g, mk, s₂, L, E, ce, rfl, rfl, hx, hce, hcv, hcl, rfl, hL, rfl, rfl⟩, ?_⟩
    show Steps p.tables e below _ (((({ U with heap := s₂.heap, slotsUsed := s₂.slotsUsed } : State).setVm s₂.vm).setTop g).pushFrame (.throwing q))
    rw [← hs₂]
    exact hsteps
end Payer
section Calls
variable {p : Program} {l : Launch} {e : Env} {R : Room} {s : State} {m : MethodId} {args : Array Value} {below : List Frame} {meth : Method} {c : Code} {T : State} {locs : List Loc} {cells slots : Nat}
theorem vx_callV (X : Stand p l e R s m args below meth c T locs cells slots) (hexec : p.tables.exec = Jvm.exec) {own C : String} {index : Nat} {y : MethodName} {bytes : ByteArray} {maxL : Nat} {ret : Option FieldType}
    (hown : s.vm.findClass own = some m.cls) (hlink : (Cond.methodLink own index y).before args s = true) (hinst : (Cond.instanceMethod y).before args s = true) (hsel : (Cond.selects C y y).before args s = true)
    (hcode : (Cond.code y bytes maxL ret).before args s = true) (hy : y.cls ≠ "java/lang/invoke/MethodHandle" ∧ y.cls ≠ "java/lang/invoke/VarHandle")
    {W9 : Nat} {Pre : Pt → Array Value → Prop} {Post : Pt → Array Value → Option Value → Pt → Prop} {PostX : Pt → Array Value → Addr → Pt → Prop} (hK : vx_Back l R p e below s args y 3 W9 Pre Post PostX)
    {b : Addr} {cellB : Cell} (hcell : T.heap[b]? = some cellB) (hobj : cellB.vm.isStatics = false) (hcls : s.vm.findClass C = some cellB.cls)
    {g : JFrame} (hg : g.method = m) (hsize : g.locals.size = c.maxLocals) {argsL rest : List Value} (hlen : ∀ sig, parseMethodDescriptor y.desc = some sig → argsL.length = sig.parameters.length)
    (hstack : g.stack = argsL.reverse ++ .ref b :: rest) (hW : 2 * g.monitorRoom + (rest.map fun v => v.category).sum ≤ W9) (hdg : decode c.code g.pc = .ok (.invokevirtual index, 3))
    (hpre : ∀ vm₁, s.WarmedH vm₁ → Pre ⟨T.setVm vm₁, locs, cells, slots⟩ (Value.ref b :: argsL).toArray) :
    (∃ (v : Option Value) (vm₁ : Vm) (B : Pt), s.WarmedH vm₁ ∧ Stand p l e R s m args below meth c B.U B.locs B.cells B.slots ∧ Post ⟨T.setVm vm₁, locs, cells, slots⟩ (Value.ref b :: argsL).toArray v B ∧
      ∀ target, Steps p.tables e below (B.U.setTop { g with pc := g.pc + 3, stack := v.toList ++ rest }) target → Steps p.tables e below (T.setTop g) target) ∨
    (∃ (q : Addr) (vm₁ : Vm) (B : Pt), s.WarmedH vm₁ ∧ Stand p l e R s m args below meth c B.U B.locs B.cells B.slots ∧ PostX ⟨T.setVm vm₁, locs, cells, slots⟩ (Value.ref b :: argsL).toArray q B ∧
      Steps p.tables e below (T.setTop g) ((B.U.setTop { g with stack := rest }).pushFrame (.throwing q))) := by
  obtain ⟨mk, methM, hnamed, hmethM, hstM, habM⟩ := Cond.instanceMethod_spec hinst
  obtain ⟨methM', cM, hmethM', -, -, -, -, -, -, hsigM⟩ := Cond.code_spec hnamed hcode
  cases hmethM.symm.trans hmethM'
  obtain ⟨c2, r2, m2, q1, q2, q3, q4, kP, hkP, hkPi⟩ := Cond.selects_spec hsel
  cases hcls.symm.trans q1
  cases (State.methodFound?_of_named hnamed hy).symm.trans q2
  cases hnamed.symm.trans q3
  have hselP : selectMethod e.platform s.vm cellB.cls mk = .method mk := by rw [Launch.admits_selectMethod X.admits]; exact q4
  obtain ⟨vm₁, X₁, hstep₁⟩ := X.invokevirtual hexec hown hlink hnamed hmethM hstM hkP hkPi hy (a := b) (cell := cellB) hcell
    (fun z h => by rw [h] at hobj; cases hobj) hselP hmethM habM hkP hkPi (g := g) hg (argsL := argsL) (rest := rest) (hlen _ hsigM) hstack hdg
  rcases hK m meth c ⟨T.setVm vm₁, locs, cells, slots⟩ { g with stack := rest } (.invokevirtual index) mk (Value.ref b :: argsL).toArray X₁ hg hsize hdg hW (X₁.named hnamed) (hpre vm₁ X₁.warmed) with ⟨v, B, X', hpost, hsteps⟩ | ⟨q, B, X', hpost, hsteps⟩
  · exact Or.inl ⟨v, vm₁, B, X₁.warmed, X', hpost, fun target h => hstep₁ _ fun acts => by rw [doInvoke_state]; exact hsteps.trans h⟩
  · exact Or.inr ⟨q, vm₁, B, X₁.warmed, X', hpost, hstep₁ _ fun acts => by rw [doInvoke_state]; exact hsteps⟩
theorem vx_callS (X : Stand p l e R s m args below meth c T locs cells slots) (hexec : p.tables.exec = Jvm.exec) {own : String} {index : Nat} {y : MethodName} {bytes : ByteArray} {maxL : Nat} {ret : Option FieldType}
    (hown : s.vm.findClass own = some m.cls) (hlink : (Cond.methodLink own index y).before args s = true) (hstat : (Cond.static y).before args s = true) (hinit : (Cond.initialized y.cls).before args s = true)
    (hcode : (Cond.code y bytes maxL ret).before args s = true) (hy : y.cls ≠ "java/lang/invoke/MethodHandle" ∧ y.cls ≠ "java/lang/invoke/VarHandle")
    {W9 : Nat} {Pre : Pt → Array Value → Prop} {Post : Pt → Array Value → Option Value → Pt → Prop} {PostX : Pt → Array Value → Addr → Pt → Prop} (hK : vx_Back l R p e below s args y 3 W9 Pre Post PostX)
    {g : JFrame} (hg : g.method = m) (hsize : g.locals.size = c.maxLocals) {argsL rest : List Value} (hlen : ∀ sig, parseMethodDescriptor y.desc = some sig → argsL.length = sig.parameters.length)
    (hstack : g.stack = argsL.reverse ++ rest) (hW : 2 * g.monitorRoom + (rest.map fun v => v.category).sum ≤ W9) (hdg : decode c.code g.pc = .ok (.invokestatic index, 3))
    (hpre : ∀ vm₁, s.WarmedH vm₁ → Pre ⟨T.setVm vm₁, locs, cells, slots⟩ argsL.toArray) :
    (∃ (v : Option Value) (vm₁ : Vm) (B : Pt), s.WarmedH vm₁ ∧ Stand p l e R s m args below meth c B.U B.locs B.cells B.slots ∧ Post ⟨T.setVm vm₁, locs, cells, slots⟩ argsL.toArray v B ∧
      ∀ target, Steps p.tables e below (B.U.setTop { g with pc := g.pc + 3, stack := v.toList ++ rest }) target → Steps p.tables e below (T.setTop g) target) ∨
    (∃ (q : Addr) (vm₁ : Vm) (B : Pt), s.WarmedH vm₁ ∧ Stand p l e R s m args below meth c B.U B.locs B.cells B.slots ∧ PostX ⟨T.setVm vm₁, locs, cells, slots⟩ argsL.toArray q B ∧
      Steps p.tables e below (T.setTop g) ((B.U.setTop { g with stack := rest }).pushFrame (.throwing q))) := by
  obtain ⟨mk, hnamed⟩ := Cond.code_named hcode
  obtain ⟨methM, cM, hmethM, -, -, -, -, -, -, hsigM⟩ := Cond.code_spec hnamed hcode
  have hstatic : methM.isStatic = true := Cond.static_spec hnamed hmethM hstat
  obtain ⟨kP, hkP, -⟩ := className_of_methodNamed hnamed
  have hinitP : kP.init = .initialized := Cond.initialized_spec (findClass_of_methodNamed hnamed) hkP hinit
  obtain ⟨vm₁, X₁, hstep₁⟩ := X.invokestatic hexec hown hlink hnamed hmethM hstatic hkP hinitP hy (g := g) hg (argsL := argsL) (rest := rest) (hlen _ hsigM) hstack hdg
  rcases hK m meth c ⟨T.setVm vm₁, locs, cells, slots⟩ { g with stack := rest } (.invokestatic index) mk argsL.toArray X₁ hg hsize hdg hW (X₁.named hnamed) (hpre vm₁ X₁.warmed) with ⟨v, B, X', hpost, hsteps⟩ | ⟨q, B, X', hpost, hsteps⟩
  · exact Or.inl ⟨v, vm₁, B, X₁.warmed, X', hpost, fun target h => hstep₁ _ fun acts => by rw [doInvoke_state]; exact hsteps.trans h⟩
  · exact Or.inr ⟨q, vm₁, B, X₁.warmed, X', hpost, hstep₁ _ fun acts => by rw [doInvoke_state]; exact hsteps⟩
end Calls
theorem vx_cls {s : State} {T : State} {vm₁ : Vm} {E : String} {k : ClassId} (hW : s.WarmedH vm₁) (h : (T.setVm vm₁).vm.findClass E = some k) : s.vm.findClass E = some k := by
  have h1 : vm₁.findClass E = some k := h
  rw [hW.alike.findClass] at h1
  exact h1
/-- the method's frame g, with q thrown over it -/
def vx_W (p : Program) (l : Launch) (e : Env) (R : Room) (s : State) (m : MethodId) (args : Array Value) (below : List Frame) (meth : Method) (c : Code) (H : Heap) (locs : List Loc) (cells slots : Nat) (Q : State → Prop) (g : JFrame) (q : Addr) : Prop :=
  ∀ T : State, T.heap = H → Stand p l e R s m args below meth c T locs cells slots → ∃ t, Steps p.tables e below ((T.setTop g).pushFrame (.throwing q)) t ∧ Q t
def vx_Run (p : Program) (l : Launch) (e : Env) (R : Room) (s : State) (m : MethodId) (args : Array Value) (below : List Frame) (meth : Method) (c : Code) (H : Heap) (locs : List Loc) (cells slots mc ms : Nat) (g : JFrame) (rest : List Value) (Qa : State → Outcome → State → Prop) (XC : String → State → State → Prop) (free : Addr → Prop) : Prop :=
  ∀ T : State, T.heap = H → Stand p l e R s m args below meth c T locs cells slots →
    (∃ (v : Option Value) (st₀ t T' : State) (L : List Loc), st₀.heap = H ∧ Stand p l e R s m args below meth c T' (locs ++ L) (cells + mc) (slots + ms) ∧ (∀ q ∈ L, free q.base) ∧ T'.heap = t.heap ∧ T'.vm = t.vm ∧ Qa st₀ (.returned v) t ∧
      Goes p e below T g T' { g with pc := g.pc + 3, stack := v.toList ++ rest }) ∨
    (∃ (q : Addr) (st₀ t T' : State) (L : List Loc) (E : String) (ce : Cell), st₀.heap = H ∧ Stand p l e R s m args below meth c T' (locs ++ L) (cells + mc) (slots + ms) ∧ (∀ z ∈ L, free z.base) ∧ T'.heap = t.heap ∧ T'.vm = t.vm ∧ XC E st₀ t ∧ t.heap[q]? = some ce ∧ ce.vm = .none ∧ s.vm.findClass E = some ce.cls ∧
      Steps p.tables e below (T.setTop g) ((T'.setTop { g with stack := rest }).pushFrame (.throwing q)))
def vx_X {S : Type} (px : S → Prop) (B : String → S → State → Prop) (A : Nat → Prop) : String → State → State → Prop := fun E st t => ∃ u : S, px u ∧ B E u t ∧ va_F A st t
section Runs
variable {p : Program} {l : Launch} {e : Env} {R : Room} {s : State} {m : MethodId} {args : Array Value} {below : List Frame} {meth : Method} {c : Code} {H : Heap} {locs : List Loc} {cells slots : Nat}
variable {y : MethodName} {bytes cc : ByteArray} {maxL nL mc ms n index : Nat} {ret : Option FieldType} {ws : List Cond} {rm : Room} {Pc : Array Value → State → Prop} {Qc : Array Value → State → Outcome → State → Prop} {XC : String → State → State → Prop} {free : Addr → Prop} {Ts : List Cond} {own C : String} {b : Addr} {As rest : List Value} {g : JFrame}
theorem vx_callBack (cb : CallB R s args own index y bytes maxL ret ws rm mc ms n) (hM : vx_Met l y ws rm Pc Qc XC mc ms free) (hbl : FrameBlind Pc) : vx_Back l R p e below s args y 3 8 (PreOf R mc ms Pc) (PostOf Qc mc ms free) (vx_Post XC mc ms free) := by
  obtain ⟨hrc, hrs, hfr, hlo, hws, hcw, -, hini, -⟩ := cb
  exact vx_back (bytes := bytes) (maxL := maxL) (ret := ret) hM hbl hrc hrs hfr hlo hws hcw (fun a' U hW => word_at hW (Or.inl (by first | rfl | simp [Cond.onTables, Cond.keeps, Cond.steady])) hini)
theorem vx_runV (S : CallFix p m c cc nL s args Ts own) (hM : vx_Met l y ws rm Pc Qc XC mc ms free) (cw : CallW R s args own C index y bytes maxL ret ws rm mc ms n) (hp : PreV s H C b Pc As)
    (hg : g.method = m) (hn : As.length = n) (hsize : g.locals.size = nL) (hstack : g.stack = As.reverse ++ .ref b :: rest) (hW : 2 * g.monitorRoom + (rest.map fun v => v.category).sum ≤ 8) (hdg : decode cc g.pc = .ok (.invokevirtual index, 3)) (hf : cells + mc ≤ R.cells ∧ slots + ms ≤ R.slots) :
    vx_Run p l e R s m args below meth c H locs cells slots mc ms g rest (Qc (Value.ref b :: As).toArray) XC free := by
  have hK : vx_Back l R p e below s args y 3 8 (PreOf R mc ms Pc) (PostOf Qc mc ms free) (vx_Post XC mc ms free) := vx_callBack cw.1 hM hp.1
  obtain ⟨⟨-, -, -, -, -, -, hcode, -, hy, hlen, hl⟩, hin, hse⟩ := cw
  obtain ⟨hx, hb, hml, ho, -⟩ := S
  obtain ⟨-, ⟨cellB, hcB, hoB, hclB⟩, hPc⟩ := hp
  intro T hT X
  rcases vx_callV X hx (C := C) (bytes := bytes) (maxL := maxL) (ret := ret) ho hl hin hse hcode hy hK (by rw [hT]; exact hcB) hoB hclB hg (hsize.trans hml.symm) (argsL := As) (rest := rest) (fun sig h => hn.trans (hlen sig h)) hstack hW (by rw [hb]; exact hdg)
    (fun vm₁ hW₁ => ⟨hf.1, hf.2, hPc (T.setVm vm₁) hT hW₁⟩) with ⟨v, vm₁, ⟨U', l2, c2, s2⟩, hW₁, X', ⟨g', mk, t, L, e1, e2, hq, h1, hL, h2, h3⟩, st⟩ | ⟨q, vm₁, ⟨U', l2, c2, s2⟩, hW₁, X', ⟨g', mk, t, L, E, ce, e1, e2, hq, hce, hcv, hcl, h1, hL, h2, h3⟩, st⟩
  · dsimp only [Pt.U, Pt.locs, Pt.cells, Pt.slots] at X' e1 e2 h1 h2 h3 st
    subst h1; subst h2; subst h3
    exact Or.inl ⟨v, (T.setVm vm₁).calling g' mk (Value.ref b :: As).toArray, t, U', L, hT, X', hL, e1, e2, hq, st⟩
  · dsimp only [Pt.U, Pt.locs, Pt.cells, Pt.slots] at X' e1 e2 h1 h2 h3 st hcl
    subst h1; subst h2; subst h3
    exact Or.inr ⟨q, (T.setVm vm₁).calling g' mk (Value.ref b :: As).toArray, t, U', L, E, ce, hT, X', hL, e1, e2, hq, hce, hcv, vx_cls hW₁ hcl, st⟩
theorem vx_runS (S : CallFix p m c cc nL s args Ts own) (hM : vx_Met l y ws rm Pc Qc XC mc ms free) (cw : CallB R s args own index y bytes maxL ret ws rm mc ms n ∧ (Cond.static y).before args s = true) (hp : PreS s H Pc As)
    (hg : g.method = m) (hn : As.length = n) (hsize : g.locals.size = nL) (hstack : g.stack = As.reverse ++ rest) (hW : 2 * g.monitorRoom + (rest.map fun v => v.category).sum ≤ 8) (hdg : decode cc g.pc = .ok (.invokestatic index, 3)) (hf : cells + mc ≤ R.cells ∧ slots + ms ≤ R.slots) :
    vx_Run p l e R s m args below meth c H locs cells slots mc ms g rest (Qc As.toArray) XC free := by
  have hK : vx_Back l R p e below s args y 3 8 (PreOf R mc ms Pc) (PostOf Qc mc ms free) (vx_Post XC mc ms free) := vx_callBack cw.1 hM hp.1
  obtain ⟨⟨-, -, -, -, -, -, hcode, hini, hy, hlen, hl⟩, hstt⟩ := cw
  obtain ⟨hx, hb, hml, ho, -⟩ := S
  intro T hT X
  rcases vx_callS X hx (bytes := bytes) (maxL := maxL) (ret := ret) ho hl hstt hini hcode hy hK hg (hsize.trans hml.symm) (argsL := As) (rest := rest) (fun sig h => hn.trans (hlen sig h)) hstack hW (by rw [hb]; exact hdg)
    (fun vm₁ hW₁ => ⟨hf.1, hf.2, hp.2 (T.setVm vm₁) hT hW₁⟩) with ⟨v, vm₁, ⟨U', l2, c2, s2⟩, hW₁, X', ⟨g', mk, t, L, e1, e2, hq, h1, hL, h2, h3⟩, st⟩ | ⟨q, vm₁, ⟨U', l2, c2, s2⟩, hW₁, X', ⟨g', mk, t, L, E, ce, e1, e2, hq, hce, hcv, hcl, h1, hL, h2, h3⟩, st⟩
  · dsimp only [Pt.U, Pt.locs, Pt.cells, Pt.slots] at X' e1 e2 h1 h2 h3 st
    subst h1; subst h2; subst h3
    exact Or.inl ⟨v, (T.setVm vm₁).calling g' mk As.toArray, t, U', L, hT, X', hL, e1, e2, hq, st⟩
  · dsimp only [Pt.U, Pt.locs, Pt.cells, Pt.slots] at X' e1 e2 h1 h2 h3 st hcl
    subst h1; subst h2; subst h3
    exact Or.inr ⟨q, (T.setVm vm₁).calling g' mk As.toArray, t, U', L, E, ce, hT, X', hL, e1, e2, hq, hce, hcv, vx_cls hW₁ hcl, st⟩
end Runs
section Rows
variable {p : Program} {l : Launch} {e : Env} {R : Room} {s : State} {m : MethodId} {args : Array Value} {below : List Frame} {meth : Method} {c : Code} {H : Heap} {locs : List Loc} {cells slots : Nat} {Q : State → Prop}
variable {mc ms : Nat} {free : Addr → Prop} {A0 A1 : Nat → Prop} {H0 : Heap} {a : Array Value} {pc : Nat} {ls : Array Slot} {st0 rest : List Value}
theorem vx_keep {st₀ t T' : State} {L : List Loc} (h0 : st₀.heap = H) (e1 : T'.heap = t.heap) (hS : va_S A0 H0 H locs) (hA : ∀ q, q < H.size → A1 q → A0 q) (hf : ∀ q, free q → A0 q) (hL : ∀ q ∈ L, free q.base) (hF : va_F A1 st₀ t) :
    H.size ≤ T'.heap.size ∧ (∀ q : Nat, q < H.size → ¬ A1 q → T'.heap[q]? = H[q]?) ∧ va_S A0 H0 T'.heap (locs ++ L) := by
  obtain ⟨hz, hk⟩ := hF
  rw [h0] at hz hk
  exact ⟨by rw [e1]; exact hz, fun q h1 h2 => by rw [e1]; exact hk q h1 h2,
    ⟨Nat.le_trans hS.1 (by rw [e1]; exact hz), fun q h1 h2 => by rw [e1, hk q (Nat.lt_of_lt_of_le h1 hS.1) (fun z => h2 (hA q (Nat.lt_of_lt_of_le h1 hS.1) z))]; exact hS.2.1 q h1 h2, fun q hq => by
      rcases List.mem_append.mp hq with h | h
      · exact hS.2.2 q h
      · exact hf _ (hL q h)⟩⟩
theorem vx_calli {S SX : Type} {post : Int32 → S → Prop} {px : SX → Prop} {B : S → State → Prop} {BX : String → SX → State → Prop} {AX : Nat → Prop} (hr : vx_Run p l e R s m args below meth c H locs cells slots mc ms (F0 m pc ls st0) rest (va_Qi post B A1 a) (vx_X px BX AX) free) (hS : va_S A0 H0 H locs) (hA : ∀ q, q < H.size → A1 q → A0 q) (hf : ∀ q, free q → A0 q) (hAX : ∀ q, q < H.size → AX q → A0 q)
    (kx : ∀ (E : String) (ce : Cell) (q9 : Addr) (u : SX) (t : State) (H1 : Heap) (locs1 : List Loc), t.heap = H1 → s.vm.Alike t.vm → px u → BX E u t → H.size ≤ H1.size → (∀ q : Nat, q < H.size → ¬ AX q → H1[q]? = H[q]?) → va_S A0 H0 H1 locs1 → H1[q9]? = some ce → ce.vm = .none → s.vm.findClass E = some ce.cls → vx_W p l e R s m args below meth c H1 locs1 (cells + mc) (slots + ms) Q (F0 m pc ls rest) q9)
    (kk : ∀ (r : Int32) (u : S) (t : State) (H1 : Heap) (locs1 : List Loc), t.heap = H1 → s.vm.Alike t.vm → post r u → B u t → H.size ≤ H1.size → (∀ q : Nat, q < H.size → ¬ A1 q → H1[q]? = H[q]?) → va_S A0 H0 H1 locs1 → W p l e R s m args below meth c H1 locs1 (cells + mc) (slots + ms) Q (F0 m (pc + 3) ls (.int r :: rest))) : W p l e R s m args below meth c H locs cells slots Q (F0 m pc ls st0) := by
  intro T hT X
  rcases hr T hT X with ⟨v, st₀, t, T', L, h0, X', hL, e1, e2, ⟨⟨r, u, hv, hp, hb⟩, hF⟩, st⟩ | ⟨q, st₀, t, T', L, E, ce, h0, X', hL, e1, e2, ⟨u, hp, hb, hF⟩, hce, hcv, hcl, st⟩
  · cases hv
    obtain ⟨k1, k2, k3⟩ := vx_keep h0 e1 hS hA hf hL hF
    obtain ⟨t2, a1, b1⟩ := kk r u t T'.heap (locs ++ L) e1.symm (by rw [← e2]; exact X'.warmed.alike) hp hb k1 k2 k3 T' rfl X'
    exact ⟨t2, st t2 a1, b1⟩
  · obtain ⟨k1, k2, k3⟩ := vx_keep h0 e1 hS hAX hf hL hF
    obtain ⟨t2, a1, b1⟩ := kx E ce q u t T'.heap (locs ++ L) e1.symm (by rw [← e2]; exact X'.warmed.alike) hp hb k1 k2 k3 (by rw [e1]; exact hce) hcv hcl T' rfl X'
    exact ⟨t2, st.trans a1, b1⟩
theorem vx_calll {S SX : Type} {post : Int64 → S → Prop} {px : SX → Prop} {B : S → State → Prop} {BX : String → SX → State → Prop} {AX : Nat → Prop} (hr : vx_Run p l e R s m args below meth c H locs cells slots mc ms (F0 m pc ls st0) rest (va_Ql post B A1 a) (vx_X px BX AX) free) (hS : va_S A0 H0 H locs) (hA : ∀ q, q < H.size → A1 q → A0 q) (hf : ∀ q, free q → A0 q) (hAX : ∀ q, q < H.size → AX q → A0 q)
    (kx : ∀ (E : String) (ce : Cell) (q9 : Addr) (u : SX) (t : State) (H1 : Heap) (locs1 : List Loc), t.heap = H1 → s.vm.Alike t.vm → px u → BX E u t → H.size ≤ H1.size → (∀ q : Nat, q < H.size → ¬ AX q → H1[q]? = H[q]?) → va_S A0 H0 H1 locs1 → H1[q9]? = some ce → ce.vm = .none → s.vm.findClass E = some ce.cls → vx_W p l e R s m args below meth c H1 locs1 (cells + mc) (slots + ms) Q (F0 m pc ls rest) q9)
    (kk : ∀ (r : Int64) (u : S) (t : State) (H1 : Heap) (locs1 : List Loc), t.heap = H1 → s.vm.Alike t.vm → post r u → B u t → H.size ≤ H1.size → (∀ q : Nat, q < H.size → ¬ A1 q → H1[q]? = H[q]?) → va_S A0 H0 H1 locs1 → W p l e R s m args below meth c H1 locs1 (cells + mc) (slots + ms) Q (F0 m (pc + 3) ls (.long r :: rest))) : W p l e R s m args below meth c H locs cells slots Q (F0 m pc ls st0) := by
  intro T hT X
  rcases hr T hT X with ⟨v, st₀, t, T', L, h0, X', hL, e1, e2, ⟨⟨r, u, hv, hp, hb⟩, hF⟩, st⟩ | ⟨q, st₀, t, T', L, E, ce, h0, X', hL, e1, e2, ⟨u, hp, hb, hF⟩, hce, hcv, hcl, st⟩
  · cases hv
    obtain ⟨k1, k2, k3⟩ := vx_keep h0 e1 hS hA hf hL hF
    obtain ⟨t2, a1, b1⟩ := kk r u t T'.heap (locs ++ L) e1.symm (by rw [← e2]; exact X'.warmed.alike) hp hb k1 k2 k3 T' rfl X'
    exact ⟨t2, st t2 a1, b1⟩
  · obtain ⟨k1, k2, k3⟩ := vx_keep h0 e1 hS hAX hf hL hF
    obtain ⟨t2, a1, b1⟩ := kx E ce q u t T'.heap (locs ++ L) e1.symm (by rw [← e2]; exact X'.warmed.alike) hp hb k1 k2 k3 (by rw [e1]; exact hce) hcv hcl T' rfl X'
    exact ⟨t2, st.trans a1, b1⟩
theorem vx_callf {S SX : Type} {post : UInt32 → S → Prop} {px : SX → Prop} {B : S → State → Prop} {BX : String → SX → State → Prop} {AX : Nat → Prop} (hr : vx_Run p l e R s m args below meth c H locs cells slots mc ms (F0 m pc ls st0) rest (va_Qf post B A1 a) (vx_X px BX AX) free) (hS : va_S A0 H0 H locs) (hA : ∀ q, q < H.size → A1 q → A0 q) (hf : ∀ q, free q → A0 q) (hAX : ∀ q, q < H.size → AX q → A0 q)
    (kx : ∀ (E : String) (ce : Cell) (q9 : Addr) (u : SX) (t : State) (H1 : Heap) (locs1 : List Loc), t.heap = H1 → s.vm.Alike t.vm → px u → BX E u t → H.size ≤ H1.size → (∀ q : Nat, q < H.size → ¬ AX q → H1[q]? = H[q]?) → va_S A0 H0 H1 locs1 → H1[q9]? = some ce → ce.vm = .none → s.vm.findClass E = some ce.cls → vx_W p l e R s m args below meth c H1 locs1 (cells + mc) (slots + ms) Q (F0 m pc ls rest) q9)
    (kk : ∀ (r : UInt32) (u : S) (t : State) (H1 : Heap) (locs1 : List Loc), t.heap = H1 → s.vm.Alike t.vm → post r u → B u t → H.size ≤ H1.size → (∀ q : Nat, q < H.size → ¬ A1 q → H1[q]? = H[q]?) → va_S A0 H0 H1 locs1 → W p l e R s m args below meth c H1 locs1 (cells + mc) (slots + ms) Q (F0 m (pc + 3) ls (.float r :: rest))) : W p l e R s m args below meth c H locs cells slots Q (F0 m pc ls st0) := by
  intro T hT X
  rcases hr T hT X with ⟨v, st₀, t, T', L, h0, X', hL, e1, e2, ⟨⟨r, u, hv, hp, hb⟩, hF⟩, st⟩ | ⟨q, st₀, t, T', L, E, ce, h0, X', hL, e1, e2, ⟨u, hp, hb, hF⟩, hce, hcv, hcl, st⟩
  · cases hv
    obtain ⟨k1, k2, k3⟩ := vx_keep h0 e1 hS hA hf hL hF
    obtain ⟨t2, a1, b1⟩ := kk r u t T'.heap (locs ++ L) e1.symm (by rw [← e2]; exact X'.warmed.alike) hp hb k1 k2 k3 T' rfl X'
    exact ⟨t2, st t2 a1, b1⟩
  · obtain ⟨k1, k2, k3⟩ := vx_keep h0 e1 hS hAX hf hL hF
    obtain ⟨t2, a1, b1⟩ := kx E ce q u t T'.heap (locs ++ L) e1.symm (by rw [← e2]; exact X'.warmed.alike) hp hb k1 k2 k3 (by rw [e1]; exact hce) hcv hcl T' rfl X'
    exact ⟨t2, st.trans a1, b1⟩
theorem vx_calld {S SX : Type} {post : UInt64 → S → Prop} {px : SX → Prop} {B : S → State → Prop} {BX : String → SX → State → Prop} {AX : Nat → Prop} (hr : vx_Run p l e R s m args below meth c H locs cells slots mc ms (F0 m pc ls st0) rest (va_Qd post B A1 a) (vx_X px BX AX) free) (hS : va_S A0 H0 H locs) (hA : ∀ q, q < H.size → A1 q → A0 q) (hf : ∀ q, free q → A0 q) (hAX : ∀ q, q < H.size → AX q → A0 q)
    (kx : ∀ (E : String) (ce : Cell) (q9 : Addr) (u : SX) (t : State) (H1 : Heap) (locs1 : List Loc), t.heap = H1 → s.vm.Alike t.vm → px u → BX E u t → H.size ≤ H1.size → (∀ q : Nat, q < H.size → ¬ AX q → H1[q]? = H[q]?) → va_S A0 H0 H1 locs1 → H1[q9]? = some ce → ce.vm = .none → s.vm.findClass E = some ce.cls → vx_W p l e R s m args below meth c H1 locs1 (cells + mc) (slots + ms) Q (F0 m pc ls rest) q9)
    (kk : ∀ (r : UInt64) (u : S) (t : State) (H1 : Heap) (locs1 : List Loc), t.heap = H1 → s.vm.Alike t.vm → post r u → B u t → H.size ≤ H1.size → (∀ q : Nat, q < H.size → ¬ A1 q → H1[q]? = H[q]?) → va_S A0 H0 H1 locs1 → W p l e R s m args below meth c H1 locs1 (cells + mc) (slots + ms) Q (F0 m (pc + 3) ls (.double r :: rest))) : W p l e R s m args below meth c H locs cells slots Q (F0 m pc ls st0) := by
  intro T hT X
  rcases hr T hT X with ⟨v, st₀, t, T', L, h0, X', hL, e1, e2, ⟨⟨r, u, hv, hp, hb⟩, hF⟩, st⟩ | ⟨q, st₀, t, T', L, E, ce, h0, X', hL, e1, e2, ⟨u, hp, hb, hF⟩, hce, hcv, hcl, st⟩
  · cases hv
    obtain ⟨k1, k2, k3⟩ := vx_keep h0 e1 hS hA hf hL hF
    obtain ⟨t2, a1, b1⟩ := kk r u t T'.heap (locs ++ L) e1.symm (by rw [← e2]; exact X'.warmed.alike) hp hb k1 k2 k3 T' rfl X'
    exact ⟨t2, st t2 a1, b1⟩
  · obtain ⟨k1, k2, k3⟩ := vx_keep h0 e1 hS hAX hf hL hF
    obtain ⟨t2, a1, b1⟩ := kx E ce q u t T'.heap (locs ++ L) e1.symm (by rw [← e2]; exact X'.warmed.alike) hp hb k1 k2 k3 (by rw [e1]; exact hce) hcv hcl T' rfl X'
    exact ⟨t2, st.trans a1, b1⟩
theorem vx_callv {S SX : Type} {post : S → Prop} {px : SX → Prop} {B : S → State → Prop} {BX : String → SX → State → Prop} {AX : Nat → Prop} (hr : vx_Run p l e R s m args below meth c H locs cells slots mc ms (F0 m pc ls st0) rest (va_Qv post B A1 a) (vx_X px BX AX) free) (hS : va_S A0 H0 H locs) (hA : ∀ q, q < H.size → A1 q → A0 q) (hf : ∀ q, free q → A0 q) (hAX : ∀ q, q < H.size → AX q → A0 q)
    (kx : ∀ (E : String) (ce : Cell) (q9 : Addr) (u : SX) (t : State) (H1 : Heap) (locs1 : List Loc), t.heap = H1 → s.vm.Alike t.vm → px u → BX E u t → H.size ≤ H1.size → (∀ q : Nat, q < H.size → ¬ AX q → H1[q]? = H[q]?) → va_S A0 H0 H1 locs1 → H1[q9]? = some ce → ce.vm = .none → s.vm.findClass E = some ce.cls → vx_W p l e R s m args below meth c H1 locs1 (cells + mc) (slots + ms) Q (F0 m pc ls rest) q9)
    (kk : ∀ (u : S) (t : State) (H1 : Heap) (locs1 : List Loc), t.heap = H1 → s.vm.Alike t.vm → post u → B u t → H.size ≤ H1.size → (∀ q : Nat, q < H.size → ¬ A1 q → H1[q]? = H[q]?) → va_S A0 H0 H1 locs1 → W p l e R s m args below meth c H1 locs1 (cells + mc) (slots + ms) Q (F0 m (pc + 3) ls (rest))) : W p l e R s m args below meth c H locs cells slots Q (F0 m pc ls st0) := by
  intro T hT X
  rcases hr T hT X with ⟨v, st₀, t, T', L, h0, X', hL, e1, e2, ⟨⟨u, hv, hp, hb⟩, hF⟩, st⟩ | ⟨q, st₀, t, T', L, E, ce, h0, X', hL, e1, e2, ⟨u, hp, hb, hF⟩, hce, hcv, hcl, st⟩
  · cases hv
    obtain ⟨k1, k2, k3⟩ := vx_keep h0 e1 hS hA hf hL hF
    obtain ⟨t2, a1, b1⟩ := kk u t T'.heap (locs ++ L) e1.symm (by rw [← e2]; exact X'.warmed.alike) hp hb k1 k2 k3 T' rfl X'
    exact ⟨t2, st t2 a1, b1⟩
  · obtain ⟨k1, k2, k3⟩ := vx_keep h0 e1 hS hAX hf hL hF
    obtain ⟨t2, a1, b1⟩ := kx E ce q u t T'.heap (locs ++ L) e1.symm (by rw [← e2]; exact X'.warmed.alike) hp hb k1 k2 k3 (by rw [e1]; exact hce) hcv hcl T' rfl X'
    exact ⟨t2, st.trans a1, b1⟩
/-- caught by the row x of this method's table; the rows ahead don't take it -/
theorem vx_catch {own name : String} {E : String} {ce : Cell} {q : Addr} (hown : s.vm.findClass own = some m.cls) (pre : List ExceptionTableEntry) (x : ExceptionTableEntry) (suf : List ExceptionTableEntry) (hsplit : c.exceptionTable.toList = pre ++ x :: suf)
    (hpass : ∀ z ∈ pre, covers z pc = false ∨ (z.catchType ≠ 0 ∧ ∃ nm : String, (Cond.classLink own z.catchType nm).before args s = true ∧ va_Nc E nm s)) (hx : covers x pc = true) (h0 : x.catchType ≠ 0)
    (hlink : (Cond.classLink own x.catchType name).before args s = true) (hcast : (Cond.castable E name).before args s = true) (hcell : H[q]? = some ce) (hv : ce.vm = .none) (hcl : s.vm.findClass E = some ce.cls)
    (kk : W p l e R s m args below meth c H locs cells slots Q (F0 m x.handlerPc ls [.ref q])) : vx_W p l e R s m args below meth c H locs cells slots Q (F0 m pc ls rest) q := by
  intro T hT X
  have hpl : e.platform.magicAccessors = ({} : Platform).magicAccessors := by rw [X.admits.platform]
  obtain ⟨c3, c4, hc3, hc4, hasg⟩ := Cond.castable_spec hcast
  cases Option.some.inj (hc3.symm.trans hcl)
  obtain ⟨c5, hc5, hcl5⟩ := Cond.classLink_spec hown hlink e.platform hpl
  cases Option.some.inj (hc4.symm.trans hc5)
  obtain ⟨vm', X', st⟩ := X.thenCaughtThrough q (g := F0 m pc ls rest) rfl (Steps.refl _) (by rw [hT]; exact hcell) (by rw [hv]; rfl) (by obtain ⟨k9, h9, -⟩ := Vm.findClass_spec hcl; exact ⟨k9, h9⟩) pre x suf hsplit
    (fun z hz => by
      rcases hpass z hz with h | ⟨hz0, nm, hl1, hn1⟩
      · exact Or.inl h
      · obtain ⟨c6, hc6, hcl6⟩ := Cond.classLink_spec hown hl1 e.platform hpl
        obtain ⟨a8, b8, h1, h2, h3⟩ := hn1
        cases Option.some.inj (h1.symm.trans hcl)
        cases Option.some.inj (h2.symm.trans hc6)
        exact Or.inr ⟨hz0, _, hcl6, h3⟩) hx (Or.inr ⟨h0, c4, hcl5, hasg⟩)
  obtain ⟨t, a1, b1⟩ := kk (T.setVm vm') hT X'
  exact ⟨t, st.trans a1, b1⟩
end Rows
section Ends
variable {p : Program} {l : Launch} {e : Env} {R : Room} {s : State} {m : MethodId} {args : Array Value} {below : List Frame} {meth : Method} {c : Code} {H : Heap} {locs : List Loc} {cells slots : Nat} {Q : State → Prop}
variable {mc ms : Nat} {free : Addr → Prop} {A0 A1 : Nat → Prop} {H0 : Heap} {a : Array Value} {ls : Array Slot} {st0 rest : List Value}
variable {Qc : Array Value → State → Outcome → State → Prop} {XC : String → State → State → Prop}
/-- what a body that may throw owes at its end -/
def vx_MQ (below : List Frame) (Qc : Array Value → State → Outcome → State → Prop) (XC : String → State → State → Prop) (a : Array Value) (s : State) (mc ms : Nat) (free : Addr → Prop) : State → Prop := fun t =>
  ∃ o, t.status = .running ∧ Ended t below o ∧ vx_Q Qc XC mc ms free a s o t
theorem vx_ret {g : JFrame} {mc ms : Nat} (k : W p l e R s m args below meth c H locs cells slots (MQ below Qc args s mc ms free) g) : W p l e R s m args below meth c H locs cells slots (vx_MQ below Qc XC args s mc ms free) g := by
  intro T hT X
  obtain ⟨t, a1, o, b1, b2, b3, b4⟩ := k T hT X
  exact ⟨t, a1, o, b1, b2, Or.inl ⟨b3, b4⟩⟩
/-- not caught here: it goes on to the caller -/
theorem vx_widen {g : JFrame} {q : Addr} {k n : Nat} (h1 : cells ≤ k) (h2 : slots ≤ n) (kk : vx_W p l e R s m args below meth c H locs k n Q g q) : vx_W p l e R s m args below meth c H locs cells slots Q g q := fun T hT X => kk T hT (stand_widen X h1 h2)
theorem vx_out {pc : Nat} {E : String} {ce : Cell} {q : Addr} {mc ms : Nat} (hout : ∀ x ∈ c.exceptionTable.toList, covers x pc = false) (hlocks : meth.locks = false) (hcell : H[q]? = some ce) (hv : ce.vm = .none) (hcl : s.vm.findClass E = some ce.cls)
    (hx : ∀ t : State, t.heap = H → s.vm.Alike t.vm → XC E s t) (hf : ∀ z ∈ locs, free z.base) (hc : cells ≤ mc) (hs : slots ≤ ms) :
    vx_W p l e R s m args below meth c H locs cells slots (vx_MQ below Qc XC args s mc ms free) (F0 m pc ls rest) q := by
  intro T hT X
  obtain ⟨st1, hrun, hend, hW, hsm⟩ := X.leaveThrown q (g := F0 m pc ls rest) rfl rfl rfl hout hlocks
  have hcell9 : (T.setFrames (.throwing q :: below)).heap[q]? = some ce := by
    show T.heap[q]? = some ce
    rw [hT]; exact hcell
  exact ⟨_, st1, .threw q, hrun, hend, Or.inr ⟨q, rfl, E, ce, locs, hx _ hT hW.alike, hcell9, hv, hcl, hW, hsm.mono hc hs, hf⟩⟩
theorem vx_frame {U : State} {k n : Nat} (h : s.sameButNew ({ U with vm := s.vm } : State) locs k n) : s.heap.size ≤ U.heap.size ∧ ∀ q : Nat, q < s.heap.size → (∀ z ∈ locs, z.base ≠ q) → U.heap[q]? = s.heap[q]? := by
  obtain ⟨-, h2, -, -, -, h6⟩ := h
  refine ⟨h2, fun q hq hz => ?_⟩
  obtain ⟨c9, e1, e2, e3, e4⟩ := h6 q _ (Array.getElem?_eq_getElem hq)
  have hs : c9.slots = (s.heap[q]).slots := Array.ext_getElem? fun i => e4 i fun hm => hz _ hm rfl
  have h9 : c9 = s.heap[q] := by
    rw [hs] at e2
    exact e2
  have e5 : U.heap[q]? = some c9 := e1
  rw [e5, h9, Array.getElem?_eq_getElem hq]
/-- the words of a throw but the four that speak of the heap -/
def vx_no (w : Cond) : Bool := decide (w ≠ .isRef (.static Bundle.tN "UNASSIGNED_STACK" Bundle.steD)) && decide (w ≠ .isRef (.static Bundle.tN "SUPPRESSED_SENTINEL" Bundle.listD)) && decide (w ≠ .laysStatic Bundle.tN "UNASSIGNED_STACK" Bundle.steD) && decide (w ≠ .laysStatic Bundle.tN "SUPPRESSED_SENTINEL" Bundle.listD)
def vx_at0 (own : String) (ic : Nat) (X : String) (names : List String) : List Cond := (Bundle.ownAtoms0 own ic X names).filter vx_no
def vx_atS (own : String) (ic : Nat) (X : String) (names : List String) : List Cond := (Bundle.ownAtoms own ic X names).filter vx_no
/-- a word that the tables alone decide, or a good one -/
def vx_ot (w : Cond) : Bool := w.onTables || goodWord w
theorem vx_ot_at {args a' : Array Value} {s U : State} {w : Cond} (hW : s.WarmedH U.vm) (hvm : s.vm = U.vm) (hg : vx_ot w = true) (h : w.before args s = true) : w.before a' U = true := by
  simp only [vx_ot, Bool.or_eq_true] at hg
  rcases hg with hg | hg
  · exact va_tabs hg hvm h
  · exact word_at hW (good_of_word hg) h
/-- a list's words: the good ones out of the method's own list, the others by premises of their own -/
theorem vx_hat {args : Array Value} {s : State} {L B : List Cond} (h1 : ∀ w ∈ L.filter goodWord, w.before args s = true) (h2 : ∀ w ∈ L.filter (fun w => !goodWord w), w ∈ B) (h3 : ∀ w ∈ B, w.before args s = true) : ∀ w ∈ L, w.before args s = true := by
  intro w hw
  by_cases g : goodWord w = true
  · exact h1 w (List.mem_filter.mpr ⟨hw, g⟩)
  · refine h3 w (h2 w (List.mem_filter.mpr ⟨hw, ?_⟩))
    show (!goodWord w) = true
    cases hgw : goodWord w
    · rfl
    · exact absurd hgw g
theorem vx_c {args : Array Value} {s : State} {w : Cond} {B : List Cond} (h : w.before args s = true) (t : ∀ w ∈ B, w.before args s = true) : ∀ w' ∈ w :: B, w'.before args s = true := fun w' h' => (List.mem_cons.mp h').elim (fun e => by rw [e]; exact h) (t w')
theorem vx_n {args : Array Value} {s : State} : ∀ w ∈ ([] : List Cond), w.before args s = true := fun _ h => nomatch h
theorem vx_own {args : Array Value} {s : State} {L : List Cond} (h1 : ∀ w ∈ L.filter vx_no, w.before args s = true)
    (hU : (Cond.isRef (.static Bundle.tN "UNASSIGNED_STACK" Bundle.steD)).before args s = true) (hN : (Cond.isRef (.static Bundle.tN "SUPPRESSED_SENTINEL" Bundle.listD)).before args s = true)
    (lU : (Cond.laysStatic Bundle.tN "UNASSIGNED_STACK" Bundle.steD).before args s = true) (lN : (Cond.laysStatic Bundle.tN "SUPPRESSED_SENTINEL" Bundle.listD).before args s = true) : ∀ w ∈ L, w.before args s = true := by
  intro w hw
  by_cases e1 : w = .isRef (.static Bundle.tN "UNASSIGNED_STACK" Bundle.steD)
  · rw [e1]; exact hU
  · by_cases e2 : w = .isRef (.static Bundle.tN "SUPPRESSED_SENTINEL" Bundle.listD)
    · rw [e2]; exact hN
    · by_cases e3 : w = .laysStatic Bundle.tN "UNASSIGNED_STACK" Bundle.steD
      · rw [e3]; exact lU
      · by_cases e4 : w = .laysStatic Bundle.tN "SUPPRESSED_SENTINEL" Bundle.listD
        · rw [e4]; exact lN
        · exact h1 w (List.mem_filter.mpr ⟨hw, by unfold vx_no; rw [decide_eq_true e1, decide_eq_true e2, decide_eq_true e3, decide_eq_true e4]; rfl⟩)
/-- where a static field lies, its class's statics cell in H -/
def vx_L (C n d : String) (A : Nat → Prop) (U : State) (H : Heap) : Prop := ∃ (c : ClassId) (k : Class) (i : Nat) (f : Field) (a : Nat) (cell : Cell), U.vm.findClass C = some c ∧ U.fieldFound? C n d = some (c, k, i, f) ∧ f.isStatic = true ∧ k.statics = some a ∧ H[a]? = some cell ∧ cell.vm.isStatics = true ∧ cell.cls = c ∧ f.slot < cell.slots.size ∧ k.staticTypes[f.slot]? = some f.type ∧ ¬ A a
theorem vx_L.moved {C n d : String} {A : Nat → Prop} {u U : State} {H : Heap} (hvm : u.vm.Alike U.vm) (h : vx_L C n d A u H) : vx_L C n d A U H := by
  obtain ⟨c, k, i, f, a, cell, h1, h2, h3, h4, h5, h6, h7, h8, h9, h10⟩ := h
  obtain ⟨k', hi', he⟩ := State.fieldFound?_setVm hvm h2
  exact ⟨c, k', i, f, a, cell, by rw [hvm.findClass]; exact h1, hi', h3, by rw [he]; exact h4, h5, h6, h7, h8, by rw [he]; exact h9, h10⟩
theorem vx_L.kept {C n d : String} {A : Nat → Prop} {U : State} {H H1 : Heap} (h : vx_L C n d A U H) (hq : ∀ a : Nat, a < H.size → ¬ A a → H1[a]? = H[a]?) : vx_L C n d A U H1 := by
  obtain ⟨c, k, i, f, a, cell, h1, h2, h3, h4, h5, h6, h7, h8, h9, h10⟩ := h
  exact ⟨c, k, i, f, a, cell, h1, h2, h3, h4, by rw [hq a (Array.getElem?_eq_some_iff.mp h5).1 h10]; exact h5, h6, h7, h8, h9, h10⟩
theorem vx_L.narrow {C n d : String} {A B : Nat → Prop} {U : State} {H : Heap} (h : vx_L C n d A U H) (hAB : ∀ q, B q → A q) : vx_L C n d B U H := by
  obtain ⟨c, k, i, f, a, cell, h1, h2, h3, h4, h5, h6, h7, h8, h9, h10⟩ := h
  exact ⟨c, k, i, f, a, cell, h1, h2, h3, h4, h5, h6, h7, h8, h9, fun z => h10 (hAB _ z)⟩
theorem vx_L.word {C n d : String} {A : Nat → Prop} {s : State} {args : Array Value} (h : vx_L C n d A s s.heap) : (Cond.laysStatic C n d).before args s = true := by
  obtain ⟨c, k, i, f, a, cell, h1, h2, h3, h4, h5, h6, h7, h8, h9, -⟩ := h
  show (Cond.laysStatic C n d).holds args s none s [] = true
  exact Cond.laysStatic_of h1 h2 h3 h4 h5 h6 h7 h8 h9
/-- .. and what it holds: null or some reference -/
def vx_Zq (C n d : String) (A : Nat → Prop) (U : State) (H : Heap) : Prop := va_Zq C n d A U H ∧ vx_L C n d A U H
theorem vx_Zq.moved {C n d : String} {A : Nat → Prop} {u U : State} {H : Heap} (hvm : u.vm.Alike U.vm) (h : vx_Zq C n d A u H) : vx_Zq C n d A U H := ⟨va_Zq.moved hvm h.1, vx_L.moved hvm h.2⟩
theorem vx_Zq.kept {C n d : String} {A : Nat → Prop} {U : State} {H H1 : Heap} (h : vx_Zq C n d A U H) (hq : ∀ a : Nat, a < H.size → ¬ A a → H1[a]? = H[a]?) : vx_Zq C n d A U H1 := ⟨va_Zq.kept h.1 hq, vx_L.kept h.2 hq⟩
theorem vx_Zq.narrow {C n d : String} {A B : Nat → Prop} {U : State} {H : Heap} (h : vx_Zq C n d A U H) (hAB : ∀ q, B q → A q) : vx_Zq C n d B U H := ⟨va_Zq.narrow h.1 hAB, vx_L.narrow h.2 hAB⟩
theorem vx_Zqof {args : Array Value} {s : State} {C n d : String} {A : Nat → Prop} (hl : (Cond.laysStatic C n d).before args s = true) (hini : (Cond.initialized C).before args s = true) (h : (Cond.isRef (.static C n d)).before args s = true) (hA : ∀ a : Nat, a < s.heap.size → ¬ A a) : vx_Zq C n d A s s.heap := by
  refine ⟨va_Zqof hl hini h hA, ?_⟩
  obtain ⟨c, k, i, f, a, cell, h1, h2, h3, h4, h5, h6, h7, h8, h9⟩ := Cond.laysStatic_spec hl
  exact ⟨c, k, i, f, a, cell, h1, h2, h3, h4, h5, h6, h7, h8, h9, hA a (Array.getElem?_eq_some_iff.mp h5).1⟩
theorem vx_isRef {C n d : String} {v : Value} {A : Nat → Prop} {s : State} {args : Array Value} (h : va_Z C n d v A s s.heap) (hv : v.isRef = true) : (Cond.isRef (.static C n d)).before args s = true := by
  obtain ⟨cf, kf, fi, f, a, cell, h1, h2, h3, h4, h5, h6, h7, -⟩ := h
  have he : (Term.static C n d).eval args s none [] s = some v := by
    simp [Term.eval, State.fieldNamed?, h1, h2, h4, h5, h6, h7]
  simp only [Cond.before, Cond.holds, Cond.value, he]
  cases v <;> simp_all [Value.isRef]
theorem vx_isRefq {C n d : String} {A : Nat → Prop} {s : State} {args : Array Value} (h : va_Zq C n d A s s.heap) : (Cond.isRef (.static C n d)).before args s = true := by
  rcases h with h | ⟨t, h⟩
  · exact vx_isRef h rfl
  · exact vx_isRef h rfl
/-- the same frame, seen from here: as if the method were called anew in this heap -/
theorem vx_rebase {T : State} (X : Stand p l e R s m args below meth c T locs cells slots) {R' : Room} (hf : R'.frames ≤ R.frames) (hl : R'.locals ≤ R.locals) (hc : cells + R'.cells ≤ R.cells) (hs : slots + R'.slots ≤ R.slots) :
    Stand p l e R' ((T.setVm s.vm).setFrames (.invoking m args :: below)) m args below meth c T [] 0 0 := by
  have htop : (T.setVm s.vm).topJava?.isSome := X.here.top
  have hF : ((T.setVm s.vm).setFrames (.invoking m args :: below)).frames = .invoking m args :: below := State.frames_setFrames _ (State.cur_lt_of_top htop)
  obtain ⟨g₀, hg0⟩ := Option.isSome_iff_exists.mp htop
  obtain ⟨r, hr⟩ := State.topJava?_eq_some.mp hg0
  have hl9 : e.platform.stackLimits (T.setVm s.vm).me = e.platform.stackLimits s.me := X.limits
  have hb9 : (T.setVm s.vm).me.stackBytes = s.me.stackBytes := X.bytes
  refine ⟨X.admits, X.cas, X.clock, hF, ?_, X.hears, X.method, X.code, X.here, X.tail, X.warmed, ?_, ?_, ?_⟩
  · have h := X.room
    have hU : ((T.setVm s.vm).setFrames (.invoking m args :: below)).localsInUse = s.localsInUse := by
      rw [State.localsInUse_invoking hF (meth := meth) (c := c) X.method X.code, State.localsInUse_invoking X.frames X.method X.code]
    simp only [State.hasRoom, Bool.and_eq_true, decide_eq_true_eq] at h ⊢
    obtain ⟨⟨⟨⟨h1, h2, h3, h4, h5, h6⟩, h7⟩, h8⟩, h9⟩ := h
    rw [X.frames, List.length_cons] at h2 h3
    have q1 := X.heapSize
    have q2 := X.used
    simp only [hF, hU, List.length_cons, State.stackLimits_setFrames, State.stackBytes_setFrames, hl9, hb9]
    refine ⟨⟨⟨⟨by omega, by omega, by omega, by omega, by omega, h6⟩, ?_⟩, ?_⟩, X.book⟩
    · show T.heap.size + R'.cells ≤ e.platform.maxCells
      omega
    · show T.slotsUsed + R'.slots ≤ e.platform.maxSlots
      omega
  · rw [State.stackLimits_setFrames]; rfl
  · rw [State.stackBytes_setFrames]; rfl
  · refine ⟨?_, Nat.le_refl _, Nat.le_refl _, ?_, ?_, fun a c9 h9 => ⟨c9, h9, rfl, rfl, fun _ _ => rfl⟩⟩
    · obtain ⟨t, ht, -⟩ := State.frames_cons hr
      show T.setVm s.vm = { ((T.setVm s.vm).setFrames (.invoking m args :: below)).setFrames (T.setVm s.vm).frames with heap := T.heap, slotsUsed := T.slotsUsed }
      rw [State.setFrames_setFrames, State.setFrames_self ht]
      rfl
    · show T.slotsUsed = T.slotsUsed + ((T.heap.toList.drop T.heap.size).map (·.slots.size)).sum
      rw [List.drop_eq_nil_of_le (Nat.le_of_eq Array.length_toList)]
      rfl
    · show ((T.heap.toList.drop T.heap.size).map (·.slots.size)).sum ≤ 0
      rw [List.drop_eq_nil_of_le (Nat.le_of_eq Array.length_toList)]
      exact Nat.le_refl _
/-- 'throw new E()': new; dup; invokespecial; athrow -/
theorem vx_throw0 {cc : ByteArray} {pc : Nat} (hexec : p.tables.exec = Jvm.exec) (hb : c.code = cc) (hl : l.stackTraces = false) {own cls : String} {names : List String} {ik ic mc ms : Nat} {A : Nat → Prop}
    (hown : s.vm.findClass own = some m.cls) (hcls : Bundle.fit cls = true) (hnames : ∀ n ∈ names, Bundle.fit n = true)
    (hk : (Cond.classLink own ik cls).before args s = true) (hini : (Cond.initialized cls).before args s = true) (hat : ∀ w ∈ vx_at0 own ic cls names, w.before args s = true)
    (hgood : ∀ w ∈ Cond.classLink own ik cls :: Cond.initialized cls :: vx_at0 own ic cls names, vx_ot w = true)
    (hU : vx_Zq Bundle.tN "UNASSIGNED_STACK" Bundle.steD A s s.heap) (hN : vx_Zq Bundle.tN "SUPPRESSED_SENTINEL" Bundle.listD A s s.heap) (hS : va_S A s.heap H locs) (hsize : ls.size = c.maxLocals)
    (d0 : decode cc pc = .ok (.new ik, 3)) (d3 : decode cc (pc + 3) = .ok (.dup, 1)) (d4 : decode cc (pc + 4) = .ok (.invokespecial ic, 3)) (d7 : decode cc (pc + 7) = .ok (.athrow, 1))
    (hout : ∀ x ∈ c.exceptionTable.toList, covers x (pc + 7) = false)
    (hRframes : names.length + 3 < R.frames) (hRlocals : (rest.map fun v => v.category).sum + (13 * (names.length + 1) + 42) ≤ R.locals) (hRcells : cells + 1 ≤ R.cells) (hRslots : slots + 6 ≤ R.slots) (hlocks : meth.locks = false)
    (hx : ∀ t : State, s.vm.Alike t.vm → H.size ≤ t.heap.size → (∀ q : Nat, q < H.size → t.heap[q]? = H[q]?) → XC cls s t)
    (hf : ∀ z ∈ locs, free z.base) (hc : cells + 1 ≤ mc) (hs : slots + 6 ≤ ms) :
    W p l e R s m args below meth c H locs cells slots (vx_MQ below Qc XC args s mc ms free) (F0 m pc ls rest) := by
  intro T hT X
  have htr : e.platform.stackTraces = false := (show e.platform.stackTraces = l.stackTraces by rw [X.admits.platform]).trans hl
  have Y := vx_rebase X (R' := { frames := R.frames, locals := R.locals, cells := 1, slots := 6 }) (Nat.le_refl _) (Nat.le_refl _) hRcells hRslots
  obtain ⟨s', hA⟩ : ∃ z, z = (T.setVm s.vm).setFrames (.invoking m args :: below) := ⟨_, rfl⟩
  rw [← hA] at Y
  have hvm : s'.vm = s.vm := by rw [hA]; rfl
  have hhp : s'.heap = H := by rw [hA]; exact hT
  have hW0 : s.WarmedH s'.vm := by rw [hvm]; exact State.WarmedH.refl s
  have hat' : ∀ w ∈ vx_at0 own ic cls names, w.before args s' = true := fun w hw => vx_ot_at hW0 hvm.symm (hgood w (List.mem_cons_of_mem _ (List.mem_cons_of_mem _ hw))) (hat w hw)
  have hk' : (Cond.classLink own ik cls).before args s' = true := vx_ot_at hW0 hvm.symm (hgood _ List.mem_cons_self) hk
  have hini' : (Cond.initialized cls).before args s' = true := vx_ot_at hW0 hvm.symm (hgood _ (List.mem_cons_of_mem _ List.mem_cons_self)) hini
  have hU' : vx_Zq Bundle.tN "UNASSIGNED_STACK" Bundle.steD A s' s'.heap := by rw [hhp]; exact vx_Zq.moved hW0.alike (hU.kept hS.2.1)
  have hN' : vx_Zq Bundle.tN "SUPPRESSED_SENTINEL" Bundle.listD A s' s'.heap := by rw [hhp]; exact vx_Zq.moved hW0.alike (hN.kept hS.2.1)
  have h : ∀ w ∈ Bundle.ownAtoms0 own ic cls names, w.before args s' = true := vx_own hat' (vx_isRefq hU'.1) (vx_isRefq hN'.1) hU'.2.word hN'.2.word
  have hown' : s'.vm.findClass own = some m.cls := by rw [hvm]; exact hown
  have hins : (Cond.instantiable cls 6).before args s' = true := h _ (by simp [Bundle.ownAtoms0])
  obtain ⟨vm₁, cX, kX, hfX, hkX, -, -, X₁, st1⟩ := Y.newCold hexec (own := own) (C := cls) (index := ik) (n := 6) hown' hk' hins hini'
    (g := F0 m pc ls rest) rfl (by rw [hb]; exact d0) (Nat.le_refl _) (Nat.le_refl _)
  generalize hT1 : (T.setVm vm₁).pushCell { cls := cX, slots := kX.instanceTypes.map defaultValue, vm := .none } = T1 at X₁ st1
  have hcat : (Value.ref T.heap.size).category = 1 := rfl
  have hcellA : T1.heap[T.heap.size]? = some (freshCell cX kX) := by rw [← hT1]; exact State.heap_pushCell_size _ _
  have d3' : decode c.code (pc + 3) = .ok (.dup, 1) := by rw [hb]; exact d3
  obtain ⟨U, hsteps, hrun, hend, hW, hsame, ce, hce, hO⟩ := X₁.ctorThrow0 hexec htr (own := own) (cls := cls) (names := names) (ic := ic) hown' hcls hnames h (fun x hx => nomatch hx) hfX hkX hcellA (by rw [hhp, hT]; exact Nat.le_refl _)
    (g := { method := m, pc := pc + 4, locals := ls, stack := .ref T.heap.size :: .ref T.heap.size :: rest, locked := none }) rfl hsize rfl rfl (rest := rest) rfl
    (by rw [hb]; exact d4) (by rw [hb]; exact d7) hout hRframes (by simp only [List.map_cons, List.sum_cons, hcat]; omega) hlocks
  obtain ⟨f1, f2⟩ := vx_frame hsame
  rw [hhp] at f1 f2
  have hWs : s.WarmedH U.vm := State.WarmedH.trans hW0 hW
  have hcl : s.vm.findClass cls = some ce.cls := by
    have h9 := hO.cls
    rw [hvm] at h9
    exact h9
  have hall : s.sameButNew ({ U with vm := s.vm } : State) locs mc ms := by
    subst hA
    obtain ⟨e1, e2⟩ := hsame
    rw [State.setFrames_setFrames] at e1
    have h2 : (T.setVm s.vm).sameButNew ({ U with vm := s.vm } : State) [] (0 + 1) (0 + 6) := ⟨e1, e2⟩
    have h3 := X.same.trans h2
    rw [List.append_nil] at h3
    exact h3.mono hc hs
  refine ⟨U, ?_, .threw T.heap.size, hrun, hend, Or.inr ⟨T.heap.size, rfl, cls, ce, locs, hx U hWs.alike f1 (fun q hq => f2 q hq (fun z hz => nomatch hz)), hce, hO.vm, hcl, hWs, hall, hf⟩⟩
  refine st1 _ ?_
  show Steps p.tables e below (T1.setTop { method := m, pc := pc + 3, locals := ls, stack := .ref T.heap.size :: rest, locked := none }) _
  jvm_step X₁.here [X₁.here.top, hexec, d3', Value.category]
  exact hsteps
/-- 'throw new E("text")': new; dup; ldc; invokespecial; athrow -/
theorem vx_throwS {cc : ByteArray} {pc : Nat} (hexec : p.tables.exec = Jvm.exec) (hb : c.code = cc) (hl : l.stackTraces = false) {own cls text : String} {names : List String} {ik is ic mc ms sa : Nat} {A : Nat → Prop}
    (hown : s.vm.findClass own = some m.cls) (hcls : Bundle.fit cls = true) (hnames : ∀ n ∈ names, Bundle.fit n = true)
    (hk : (Cond.classLink own ik cls).before args s = true) (hini : (Cond.initialized cls).before args s = true) (hstr : vk_R own is text sa s) (hat : ∀ w ∈ vx_atS own ic cls names, w.before args s = true)
    (hgood : ∀ w ∈ Cond.classLink own ik cls :: Cond.initialized cls :: vx_atS own ic cls names, vx_ot w = true)
    (hU : vx_Zq Bundle.tN "UNASSIGNED_STACK" Bundle.steD A s s.heap) (hN : vx_Zq Bundle.tN "SUPPRESSED_SENTINEL" Bundle.listD A s s.heap) (hS : va_S A s.heap H locs) (hsize : ls.size = c.maxLocals)
    (d0 : decode cc pc = .ok (.new ik, 3)) (d3 : decode cc (pc + 3) = .ok (.dup, 1)) (d4 : decode cc (pc + 4) = .ok (.ldc is, 2)) (d6 : decode cc (pc + 6) = .ok (.invokespecial ic, 3)) (d9 : decode cc (pc + 9) = .ok (.athrow, 1))
    (hout : ∀ x ∈ c.exceptionTable.toList, covers x (pc + 9) = false)
    (hRframes : names.length + 3 < R.frames) (hRlocals : (rest.map fun v => v.category).sum + (13 * (names.length + 1) + 43) ≤ R.locals) (hRcells : cells + 1 ≤ R.cells) (hRslots : slots + 6 ≤ R.slots) (hlocks : meth.locks = false)
    (hx : ∀ t : State, s.vm.Alike t.vm → H.size ≤ t.heap.size → (∀ q : Nat, q < H.size → t.heap[q]? = H[q]?) → XC cls s t)
    (hf : ∀ z ∈ locs, free z.base) (hc : cells + 1 ≤ mc) (hs : slots + 6 ≤ ms) :
    W p l e R s m args below meth c H locs cells slots (vx_MQ below Qc XC args s mc ms free) (F0 m pc ls rest) := by
  intro T hT X
  have htr : e.platform.stackTraces = false := (show e.platform.stackTraces = l.stackTraces by rw [X.admits.platform]).trans hl
  have Y := vx_rebase X (R' := { frames := R.frames, locals := R.locals, cells := 1, slots := 6 }) (Nat.le_refl _) (Nat.le_refl _) hRcells hRslots
  obtain ⟨s', hA⟩ : ∃ z, z = (T.setVm s.vm).setFrames (.invoking m args :: below) := ⟨_, rfl⟩
  rw [← hA] at Y
  have hvm : s'.vm = s.vm := by rw [hA]; rfl
  have hhp : s'.heap = H := by rw [hA]; exact hT
  have hW0 : s.WarmedH s'.vm := by rw [hvm]; exact State.WarmedH.refl s
  have hat' : ∀ w ∈ vx_atS own ic cls names, w.before args s' = true := fun w hw => vx_ot_at hW0 hvm.symm (hgood w (List.mem_cons_of_mem _ (List.mem_cons_of_mem _ hw))) (hat w hw)
  have hk' : (Cond.classLink own ik cls).before args s' = true := vx_ot_at hW0 hvm.symm (hgood _ List.mem_cons_self) hk
  have hini' : (Cond.initialized cls).before args s' = true := vx_ot_at hW0 hvm.symm (hgood _ (List.mem_cons_of_mem _ List.mem_cons_self)) hini
  have hU' : vx_Zq Bundle.tN "UNASSIGNED_STACK" Bundle.steD A s' s'.heap := by rw [hhp]; exact vx_Zq.moved hW0.alike (hU.kept hS.2.1)
  have hN' : vx_Zq Bundle.tN "SUPPRESSED_SENTINEL" Bundle.listD A s' s'.heap := by rw [hhp]; exact vx_Zq.moved hW0.alike (hN.kept hS.2.1)
  have h : ∀ w ∈ Bundle.ownAtoms own ic cls names, w.before args s' = true := vx_own hat' (vx_isRefq hU'.1) (vx_isRefq hN'.1) hU'.2.word hN'.2.word
  have hown' : s'.vm.findClass own = some m.cls := by rw [hvm]; exact hown
  have hins : (Cond.instantiable cls 6).before args s' = true := h _ (by simp [Bundle.ownAtoms])
  obtain ⟨vm₁, cX, kX, hfX, hkX, -, -, X₁, st1⟩ := Y.newCold hexec (own := own) (C := cls) (index := ik) (n := 6) hown' hk' hins hini'
    (g := F0 m pc ls rest) rfl (by rw [hb]; exact d0) (Nat.le_refl _) (Nat.le_refl _)
  generalize hT1 : (T.setVm vm₁).pushCell { cls := cX, slots := kX.instanceTypes.map defaultValue, vm := .none } = T1 at X₁ st1
  have hcat : (Value.ref T.heap.size).category = 1 := rfl
  have hcellA : T1.heap[T.heap.size]? = some (freshCell cX kX) := by rw [← hT1]; exact State.heap_pushCell_size _ _
  have d3' : decode c.code (pc + 3) = .ok (.dup, 1) := by rw [hb]; exact d3
  have d4' : decode c.code (pc + 4) = .ok (.ldc is, 2) := by rw [hb]; exact d4
  have hstr' : vk_R own is text sa s' := vk_R.warm hW0 hstr
  obtain ⟨U, hsteps, hrun, hend, hW, hsame, ce, hce, hO⟩ := X₁.ctorThrowS hexec htr (own := own) (cls := cls) (names := names) (ic := ic) hown' hcls hnames h (fun x hx => nomatch hx) hfX hkX hcellA (by rw [hhp, hT]; exact Nat.le_refl _) (msg := .ref sa) rfl
    (g := { method := m, pc := pc + 6, locals := ls, stack := .ref sa :: .ref T.heap.size :: .ref T.heap.size :: rest, locked := none }) rfl hsize rfl rfl (rest := rest) rfl
    (by rw [hb]; exact d6) (by rw [hb]; exact d9) hout hRframes (by simp only [List.map_cons, List.sum_cons, hcat]; omega) hlocks
  obtain ⟨f1, f2⟩ := vx_frame hsame
  rw [hhp] at f1 f2
  have hWs : s.WarmedH U.vm := State.WarmedH.trans hW0 hW
  have hcl : s.vm.findClass cls = some ce.cls := by
    have h9 := hO.cls
    rw [hvm] at h9
    exact h9
  have hall : s.sameButNew ({ U with vm := s.vm } : State) locs mc ms := by
    subst hA
    obtain ⟨e1, e2⟩ := hsame
    rw [State.setFrames_setFrames] at e1
    have h2 : (T.setVm s.vm).sameButNew ({ U with vm := s.vm } : State) [] (0 + 1) (0 + 6) := ⟨e1, e2⟩
    have h3 := X.same.trans h2
    rw [List.append_nil] at h3
    exact h3.mono hc hs
  refine ⟨U, ?_, .threw T.heap.size, hrun, hend, Or.inr ⟨T.heap.size, rfl, cls, ce, locs, hx U hWs.alike f1 (fun q hq => f2 q hq (fun z hz => nomatch hz)), hce, hO.vm, hcl, hWs, hall, hf⟩⟩
  refine st1 _ ?_
  show Steps p.tables e below (T1.setTop { method := m, pc := pc + 3, locals := ls, stack := .ref T.heap.size :: rest, locked := none }) _
  jvm_step X₁.here [X₁.here.top, hexec, d3', Value.category]
  exact X₁.ldcString hexec (own := own) (text := text) (index := is) (a := sa) hown' hstr'.1 hstr'.2
    (g := { method := m, pc := pc + 4, locals := ls, stack := .ref T.heap.size :: .ref T.heap.size :: rest, locked := none }) rfl d4' _ hsteps
/-- 'throw new E("text")', the text by a wide index -/
theorem vx_throwSW {cc : ByteArray} {pc : Nat} (hexec : p.tables.exec = Jvm.exec) (hb : c.code = cc) (hl : l.stackTraces = false) {own cls text : String} {names : List String} {ik is ic mc ms sa : Nat} {A : Nat → Prop}
    (hown : s.vm.findClass own = some m.cls) (hcls : Bundle.fit cls = true) (hnames : ∀ n ∈ names, Bundle.fit n = true)
    (hk : (Cond.classLink own ik cls).before args s = true) (hini : (Cond.initialized cls).before args s = true) (hstr : vk_R own is text sa s) (hat : ∀ w ∈ vx_atS own ic cls names, w.before args s = true)
    (hgood : ∀ w ∈ Cond.classLink own ik cls :: Cond.initialized cls :: vx_atS own ic cls names, vx_ot w = true)
    (hU : vx_Zq Bundle.tN "UNASSIGNED_STACK" Bundle.steD A s s.heap) (hN : vx_Zq Bundle.tN "SUPPRESSED_SENTINEL" Bundle.listD A s s.heap) (hS : va_S A s.heap H locs) (hsize : ls.size = c.maxLocals)
    (d0 : decode cc pc = .ok (.new ik, 3)) (d3 : decode cc (pc + 3) = .ok (.dup, 1)) (d4 : decode cc (pc + 4) = .ok (.ldc_w is, 3)) (d7 : decode cc (pc + 7) = .ok (.invokespecial ic, 3)) (d10 : decode cc (pc + 10) = .ok (.athrow, 1))
    (hout : ∀ x ∈ c.exceptionTable.toList, covers x (pc + 10) = false)
    (hRframes : names.length + 3 < R.frames) (hRlocals : (rest.map fun v => v.category).sum + (13 * (names.length + 1) + 43) ≤ R.locals) (hRcells : cells + 1 ≤ R.cells) (hRslots : slots + 6 ≤ R.slots) (hlocks : meth.locks = false)
    (hx : ∀ t : State, s.vm.Alike t.vm → H.size ≤ t.heap.size → (∀ q : Nat, q < H.size → t.heap[q]? = H[q]?) → XC cls s t)
    (hf : ∀ z ∈ locs, free z.base) (hc : cells + 1 ≤ mc) (hs : slots + 6 ≤ ms) :
    W p l e R s m args below meth c H locs cells slots (vx_MQ below Qc XC args s mc ms free) (F0 m pc ls rest) := by
  intro T hT X
  have htr : e.platform.stackTraces = false := (show e.platform.stackTraces = l.stackTraces by rw [X.admits.platform]).trans hl
  have Y := vx_rebase X (R' := { frames := R.frames, locals := R.locals, cells := 1, slots := 6 }) (Nat.le_refl _) (Nat.le_refl _) hRcells hRslots
  obtain ⟨s', hA⟩ : ∃ z, z = (T.setVm s.vm).setFrames (.invoking m args :: below) := ⟨_, rfl⟩
  rw [← hA] at Y
  have hvm : s'.vm = s.vm := by rw [hA]; rfl
  have hhp : s'.heap = H := by rw [hA]; exact hT
  have hW0 : s.WarmedH s'.vm := by rw [hvm]; exact State.WarmedH.refl s
  have hat' : ∀ w ∈ vx_atS own ic cls names, w.before args s' = true := fun w hw => vx_ot_at hW0 hvm.symm (hgood w (List.mem_cons_of_mem _ (List.mem_cons_of_mem _ hw))) (hat w hw)
  have hk' : (Cond.classLink own ik cls).before args s' = true := vx_ot_at hW0 hvm.symm (hgood _ List.mem_cons_self) hk
  have hini' : (Cond.initialized cls).before args s' = true := vx_ot_at hW0 hvm.symm (hgood _ (List.mem_cons_of_mem _ List.mem_cons_self)) hini
  have hU' : vx_Zq Bundle.tN "UNASSIGNED_STACK" Bundle.steD A s' s'.heap := by rw [hhp]; exact vx_Zq.moved hW0.alike (hU.kept hS.2.1)
  have hN' : vx_Zq Bundle.tN "SUPPRESSED_SENTINEL" Bundle.listD A s' s'.heap := by rw [hhp]; exact vx_Zq.moved hW0.alike (hN.kept hS.2.1)
  have h : ∀ w ∈ Bundle.ownAtoms own ic cls names, w.before args s' = true := vx_own hat' (vx_isRefq hU'.1) (vx_isRefq hN'.1) hU'.2.word hN'.2.word
  have hown' : s'.vm.findClass own = some m.cls := by rw [hvm]; exact hown
  have hins : (Cond.instantiable cls 6).before args s' = true := h _ (by simp [Bundle.ownAtoms])
  obtain ⟨vm₁, cX, kX, hfX, hkX, -, -, X₁, st1⟩ := Y.newCold hexec (own := own) (C := cls) (index := ik) (n := 6) hown' hk' hins hini'
    (g := F0 m pc ls rest) rfl (by rw [hb]; exact d0) (Nat.le_refl _) (Nat.le_refl _)
  generalize hT1 : (T.setVm vm₁).pushCell { cls := cX, slots := kX.instanceTypes.map defaultValue, vm := .none } = T1 at X₁ st1
  have hcat : (Value.ref T.heap.size).category = 1 := rfl
  have hcellA : T1.heap[T.heap.size]? = some (freshCell cX kX) := by rw [← hT1]; exact State.heap_pushCell_size _ _
  have d3' : decode c.code (pc + 3) = .ok (.dup, 1) := by rw [hb]; exact d3
  have d4' : decode c.code (pc + 4) = .ok (.ldc_w is, 3) := by rw [hb]; exact d4
  have hstr' : vk_R own is text sa s' := vk_R.warm hW0 hstr
  obtain ⟨U, hsteps, hrun, hend, hW, hsame, ce, hce, hO⟩ := X₁.ctorThrowS hexec htr (own := own) (cls := cls) (names := names) (ic := ic) hown' hcls hnames h (fun x hx => nomatch hx) hfX hkX hcellA (by rw [hhp, hT]; exact Nat.le_refl _) (msg := .ref sa) rfl
    (g := { method := m, pc := pc + 7, locals := ls, stack := .ref sa :: .ref T.heap.size :: .ref T.heap.size :: rest, locked := none }) rfl hsize rfl rfl (rest := rest) rfl
    (by rw [hb]; exact d7) (by rw [hb]; exact d10) hout hRframes (by simp only [List.map_cons, List.sum_cons, hcat]; omega) hlocks
  obtain ⟨f1, f2⟩ := vx_frame hsame
  rw [hhp] at f1 f2
  have hWs : s.WarmedH U.vm := State.WarmedH.trans hW0 hW
  have hcl : s.vm.findClass cls = some ce.cls := by
    have h9 := hO.cls
    rw [hvm] at h9
    exact h9
  have hall : s.sameButNew ({ U with vm := s.vm } : State) locs mc ms := by
    subst hA
    obtain ⟨e1, e2⟩ := hsame
    rw [State.setFrames_setFrames] at e1
    have h2 : (T.setVm s.vm).sameButNew ({ U with vm := s.vm } : State) [] (0 + 1) (0 + 6) := ⟨e1, e2⟩
    have h3 := X.same.trans h2
    rw [List.append_nil] at h3
    exact h3.mono hc hs
  refine ⟨U, ?_, .threw T.heap.size, hrun, hend, Or.inr ⟨T.heap.size, rfl, cls, ce, locs, hx U hWs.alike f1 (fun q hq => f2 q hq (fun z hz => nomatch hz)), hce, hO.vm, hcl, hWs, hall, hf⟩⟩
  refine st1 _ ?_
  show Steps p.tables e below (T1.setTop { method := m, pc := pc + 3, locals := ls, stack := .ref T.heap.size :: rest, locked := none }) _
  jvm_step X₁.here [X₁.here.top, hexec, d3', Value.category]
  exact X₁.ldcStringW hexec (own := own) (text := text) (index := is) (a := sa) hown' hstr'.1 hstr'.2
    (g := { method := m, pc := pc + 4, locals := ls, stack := .ref T.heap.size :: .ref T.heap.size :: rest, locked := none }) rfl d4' _ hsteps
end Ends
section Bodies
variable {l : Launch}
theorem vx_ofW {y : MethodName} {ws ws' : List Cond} {rm : Room} {Pc : Array Value → State → Prop} {Qc : Array Value → State → Outcome → State → Prop} {XC : String → State → State → Prop} {mc ms : Nat} {free : Addr → Prop} {cc : ByteArray} {maxL : Nat} {ret : Option FieldType}
    (hy : plainName y.cls = true) (hw : ws = Cond.code y cc maxL ret :: ws')
    (body : ∀ p e s m args below meth c s₁, BodyLoose p l y (headSpec ws rm) cc maxL ret e s m args below meth c s₁ → c.maxLocals = maxL → (∀ x ∈ c.exceptionTable.toList, False) → Pc args s →
      W p l e (headSpec ws rm).room s m args below meth c s.heap [] 0 0 (vx_MQ below Qc XC args s mc ms free) (entryFrame m args maxL)) : vx_Met l y ws rm Pc Qc XC mc ms free := by
  refine MetFree.of_bodyS (code := cc) (maxLocals := maxL) (ret := ret) hy ?_ ?_
  · intro args s m h hn
    obtain ⟨meth, c, h1, h2, h3, h4, h5, h6, -, -⟩ := Cond.code_spec hn (atoms_spec (ws := ws) h _ (by rw [hw]; exact List.mem_cons_self))
    exact ⟨meth, c, h1, h2, h3, h4, h5, h6⟩
  · intro p e s m args below meth c s₁ B hml hP _
    have hh0 : s₁.heap = s.heap := by rw [B.state]; rfl
    have ht : ∀ x ∈ c.exceptionTable.toList, False := by
      obtain ⟨meth9, c9, h1, h2, -, -, -, -, h7, -⟩ := Cond.code_spec B.named (atoms_spec (ws := ws) B.pre _ (by rw [hw]; exact List.mem_cons_self))
      cases Option.some.inj (h1.symm.trans B.method)
      cases Option.some.inj (h2.symm.trans (Stand.of_body B).code)
      intro x hx
      rw [Array.isEmpty_iff.mp h7] at hx
      cases hx
    obtain ⟨t, a1, o, b1, b2, b3⟩ := body p e s m args below meth c s₁ B hml ht hP s₁ hh0 (Stand.of_body B)
    exact ⟨t, o, a1, b1, b2, b3⟩
/-- the table of a body with handlers -/
theorem vx_table {p : Program} {x y : MethodName} {S : Spec} {cc bytes : ByteArray} {maxL maxL' : Nat} {ret ret' : Option FieldType} {e : Env} {s s₁ : State} {m : MethodId} {args : Array Value} {below : List Frame} {meth : Method} {c : Code} {hh : List (Nat × Nat × Nat × Nat)}
    (B : BodyLoose p l y S cc maxL ret e s m args below meth c s₁) (h : (Cond.codeWith y bytes maxL' ret' hh).before args s = true) : c.exceptionTable.toList = tableOf hh := by
  obtain ⟨m9, meth9, c9, hn9, h1, h2, -, -, h6, -⟩ := Cond.codeWith_spec h
  cases Option.some.inj (hn9.symm.trans B.named)
  cases Option.some.inj (h1.symm.trans B.method)
  cases Option.some.inj (h2.symm.trans (Stand.of_body B).code)
  rw [← h6, table_eq]
end Bodies
end VXA
/-! ===== END ===== -/
/-! ===== BEGIN a static call of a method with an exception table ===== -/
section VXS
variable {p : Program} {l : Launch} {e : Env} {R : Room} {s : State} {m : MethodId} {args : Array Value} {below : List Frame} {meth : Method} {c : Code} {T : State} {H : Heap} {locs : List Loc} {cells slots : Nat}
abbrev vx_CSW (R : Room) (s : State) (args : Array Value) (own : String) (index : Nat) (y : MethodName) (bytes : ByteArray) (maxL : Nat) (ret : Option FieldType) (hh : List (Nat × Nat × Nat × Nat)) (ws : List Cond) (rm : Room) (mc ms n : Nat) : Prop :=
  (rm.cells = mc ∧ rm.slots = ms ∧ rm.frames + 1 ≤ R.frames ∧ 8 + (maxL + 11) + rm.locals ≤ R.locals ∧ (∀ w ∈ ws, ∀ (a' : Array Value) (U : State), s.WarmedH U.vm → w.before a' U = true) ∧ Cond.codeWith y bytes maxL ret hh ∈ ws) ∧
  (Cond.codeWith y bytes maxL ret hh).before args s = true ∧ (Cond.initialized y.cls).before args s = true ∧ (y.cls ≠ "java/lang/invoke/MethodHandle" ∧ y.cls ≠ "java/lang/invoke/VarHandle") ∧
  (∀ sig, parseMethodDescriptor y.desc = some sig → n = sig.parameters.length) ∧ (Cond.methodLink own index y).before args s = true ∧ (Cond.static y).before args s = true
theorem vx_cwSW {own : String} {index maxL mc ms : Nat} {y : MethodName} {bytes : ByteArray} {ret : Option FieldType} {hh : List (Nat × Nat × Nat × Nat)} {Ts ws ws' : List Cond} {rm : Room} (n : Nat) (ht : ∀ w ∈ Ts, w.before args s = true) (hT : GoodIn Ts (va_wsS own index y ws)) (hw : ws = Cond.codeWith y bytes maxL ret hh :: ws') (hrc : rm.cells = mc) (hrs : rm.slots = ms)
    (hd : y.cls ≠ "java/lang/invoke/MethodHandle" ∧ y.cls ≠ "java/lang/invoke/VarHandle" ∧ (parseMethodDescriptor y.desc).map (fun d => d.parameters.length) = some n) (hR : rm.frames + 1 ≤ R.frames ∧ 8 + (maxL + 11) + rm.locals ≤ R.locals) :
    vx_CSW R s args own index y bytes maxL ret hh ws rm mc ms n := by
  have ok : ∀ w ∈ va_wsS own index y ws, w.before args s = true := fun w h => ht w (hT w h).1
  have hG : GoodIn Ts ws := fun w h => hT w (by unfold va_wsS; exact List.mem_append_right _ h)
  have hc : Cond.codeWith y bytes maxL ret hh ∈ ws := by rw [hw]; exact List.mem_cons_self
  refine ⟨⟨hrc, hrs, hR.1, hR.2, pay_in ht hG, hc⟩, ht _ (hG _ hc).1, ok _ (by simp [va_wsS]), ⟨hd.1, hd.2.1⟩, fun sig h => ?_, ok _ (by simp [va_wsS]), ok _ (by simp [va_wsS])⟩
  have h2 := hd.2.2
  rw [h] at h2
  exact (Option.some.inj h2).symm
theorem vx_callSW (X : Stand p l e R s m args below meth c T locs cells slots) (hexec : p.tables.exec = Jvm.exec) {own : String} {index : Nat} {y : MethodName} {bytes : ByteArray} {maxL : Nat} {ret : Option FieldType} {hh : List (Nat × Nat × Nat × Nat)}
    (hown : s.vm.findClass own = some m.cls) (hlink : (Cond.methodLink own index y).before args s = true) (hstat : (Cond.static y).before args s = true) (hinit : (Cond.initialized y.cls).before args s = true)
    (hcode : (Cond.codeWith y bytes maxL ret hh).before args s = true) (hy : y.cls ≠ "java/lang/invoke/MethodHandle" ∧ y.cls ≠ "java/lang/invoke/VarHandle")
    {W9 : Nat} {Pre : Pt → Array Value → Prop} {Post : Pt → Array Value → Option Value → Pt → Prop} (hK : Back l R p e below s args y 3 W9 Pre Post)
    {g : JFrame} (hg : g.method = m) (hsize : g.locals.size = c.maxLocals) {argsL rest : List Value} (hlen : ∀ sig, parseMethodDescriptor y.desc = some sig → argsL.length = sig.parameters.length)
    (hstack : g.stack = argsL.reverse ++ rest) (hW : 2 * g.monitorRoom + (rest.map fun v => v.category).sum ≤ W9) (hdg : decode c.code g.pc = .ok (.invokestatic index, 3))
    (hpre : ∀ vm₁, s.WarmedH vm₁ → Pre ⟨T.setVm vm₁, locs, cells, slots⟩ argsL.toArray) :
    ∃ (v : Option Value) (vm₁ : Vm) (B : Pt), s.WarmedH vm₁ ∧ Stand p l e R s m args below meth c B.U B.locs B.cells B.slots ∧ Post ⟨T.setVm vm₁, locs, cells, slots⟩ argsL.toArray v B ∧
      ∀ target, Steps p.tables e below (B.U.setTop { g with pc := g.pc + 3, stack := v.toList ++ rest }) target → Steps p.tables e below (T.setTop g) target := by
  obtain ⟨mk, methM, cM, hnamed, hmethM, -, -, -, -, -, -, hsigM⟩ := Cond.codeWith_spec hcode
  have hstatic : methM.isStatic = true := Cond.static_spec hnamed hmethM hstat
  obtain ⟨kP, hkP, -⟩ := className_of_methodNamed hnamed
  have hinitP : kP.init = .initialized := Cond.initialized_spec (findClass_of_methodNamed hnamed) hkP hinit
  obtain ⟨vm₁, X₁, hstep₁⟩ := X.invokestatic hexec hown hlink hnamed hmethM hstatic hkP hinitP hy (g := g) hg (argsL := argsL) (rest := rest) (hlen _ hsigM) hstack hdg
  obtain ⟨v, B, X', hpost, hsteps⟩ := hK m meth c ⟨T.setVm vm₁, locs, cells, slots⟩ { g with stack := rest } (.invokestatic index) mk argsL.toArray X₁ hg hsize hdg hW (X₁.named hnamed) (hpre vm₁ X₁.warmed)
  exact ⟨v, vm₁, B, X₁.warmed, X', hpost, fun target h => hstep₁ _ fun acts => by rw [doInvoke_state]; exact hsteps.trans h⟩
theorem vx_runSW {y : MethodName} {bytes cc : ByteArray} {maxL nL mc ms n index : Nat} {ret : Option FieldType} {hh : List (Nat × Nat × Nat × Nat)} {ws : List Cond} {rm : Room} {Pc : Array Value → State → Prop} {Qc : Array Value → State → Outcome → State → Prop} {free : Addr → Prop} {Ts : List Cond} {own : String} {As rest : List Value} {g : JFrame}
    (S : CallFix p m c cc nL s args Ts own) (hM : Met l y ws rm Pc Qc mc ms free) (cw : vx_CSW R s args own index y bytes maxL ret hh ws rm mc ms n) (hp : PreS s H Pc As)
    (hg : g.method = m) (hn : As.length = n) (hsize : g.locals.size = nL) (hstack : g.stack = As.reverse ++ rest) (hW : 2 * g.monitorRoom + (rest.map fun v => v.category).sum ≤ 8) (hdg : decode cc g.pc = .ok (.invokestatic index, 3)) (hf : cells + mc ≤ R.cells ∧ slots + ms ≤ R.slots) :
    va_Run p l e R s m args below meth c H locs cells slots mc ms g rest (Qc As.toArray) (free) := by
  obtain ⟨⟨hrc, hrs, hfr, hlo, hws, hcw⟩, hcode, hini, hy, hlen, hl, hstt⟩ := cw
  have hK : Back l R p e below s args y 3 8 (PreOf R mc ms Pc) (PostOf Qc mc ms free) := va_backW (hh := hh) (bytes := bytes) (maxL := maxL) (ret := ret) hM hp.1 hrc hrs hfr hlo hws hcw (fun a' U hW => word_at hW (Or.inl (by first | rfl | simp [Cond.onTables, Cond.keeps, Cond.steady])) hini)
  obtain ⟨hx, hb, hml, ho, -⟩ := S
  intro T hT X
  obtain ⟨v, vm₁, ⟨U', l2, c2, s2⟩, hW₁, X', ⟨g', mk, t, L, e1, e2, hq, h1, hL, h2, h3⟩, st⟩ := vx_callSW X hx (hh := hh) (bytes := bytes) (maxL := maxL) (ret := ret) ho hl hstt hini hcode hy hK hg (hsize.trans hml.symm) (argsL := As) (rest := rest) (fun sig h => hn.trans (hlen sig h)) hstack hW (by rw [hb]; exact hdg)
    (fun vm₁ hW₁ => ⟨hf.1, hf.2, hp.2 (T.setVm vm₁) hT hW₁⟩)
  dsimp only [Pt.U, Pt.locs, Pt.cells, Pt.slots] at X' e1 e2 h1 h2 h3 st
  subst h1; subst h2; subst h3
  exact ⟨v, (T.setVm vm₁).calling g' mk As.toArray, t, U', L, hT, X', hL, e1, e2, hq, st⟩
/-- not caught here, past rows that name other classes: it goes on to the caller -/
theorem vx_outP {p : Program} {l : Launch} {e : Env} {R : Room} {s : State} {m : MethodId} {args : Array Value} {below : List Frame} {meth : Method} {c : Code} {H : Heap} {locs : List Loc} {cells slots : Nat} {free : Addr → Prop} {ls : Array Slot} {rest : List Value} {Qc : Array Value → State → Outcome → State → Prop} {XC : String → State → State → Prop}
    {pc : Nat} {own E : String} {ce : Cell} {q : Addr} {mc ms : Nat} (hown : s.vm.findClass own = some m.cls) (hlocks : meth.locks = false)
    (hpass : ∀ z ∈ c.exceptionTable.toList, covers z pc = false ∨ (z.catchType ≠ 0 ∧ ∃ nm : String, (Cond.classLink own z.catchType nm).before args s = true ∧ va_Nc E nm s)) (hcell : H[q]? = some ce) (hv : ce.vm = .none) (hcl : s.vm.findClass E = some ce.cls)
    (hx : ∀ t : State, t.heap = H → s.vm.Alike t.vm → XC E s t) (hf : ∀ z ∈ locs, free z.base) (hc : cells ≤ mc) (hs : slots ≤ ms) :
    vx_W p l e R s m args below meth c H locs cells slots (vx_MQ below Qc XC args s mc ms free) (F0 m pc ls rest) q := by
  intro T hT X
  have hpl : e.platform.magicAccessors = ({} : Platform).magicAccessors := by rw [X.admits.platform]
  obtain ⟨vm', hW', X', st⟩ := X.outThrough hlocks q (g := F0 m pc ls rest) rfl rfl rfl (cell := ce) (by rw [hT]; exact hcell) (by rw [hv]; rfl)
    (by obtain ⟨k9, h9, -⟩ := Vm.findClass_spec hcl; exact ⟨k9, h9⟩) (fun z hz => by
      rcases hpass z hz with h | ⟨hz0, nm, hl1, hn1⟩
      · exact Or.inl h
      · obtain ⟨c6, hc6, hcl6⟩ := Cond.classLink_spec hown hl1 e.platform hpl
        obtain ⟨a8, b8, h1, h2, h3⟩ := hn1
        cases Option.some.inj (h1.symm.trans hcl)
        cases Option.some.inj (h2.symm.trans hc6)
        exact Or.inr ⟨hz0, _, hcl6, h3⟩)
  obtain ⟨g₀, hfr⟩ := X'.frames_eq
  have hcell9 : ((T.setVm vm').setFrames (.throwing q :: below)).heap[q]? = some ce := by
    show T.heap[q]? = some ce
    rw [hT]; exact hcell
  have hend : Ended ((T.setVm vm').setFrames (.throwing q :: below)) below (.threw q) := State.frames_setFrames _ (State.cur_lt_of_frames hfr)
  refine ⟨(T.setVm vm').setFrames (.throwing q :: below), ?_, .threw q, X'.here.running, hend, Or.inr ⟨q, rfl, E, ce, locs, hx _ hT (X'.ends _).1.alike, hcell9, hv, hcl, (X'.ends _).1, (X'.ends _).2.mono hc hs, hf⟩⟩
  rw [X.pushThrowing_eq]
  exact st
/-- a thing of a world lies in the heap -/
theorem vx_lt {D : va_G} {cl : List vw_C} {ws : va_W} {H1 : Heap} (h : va_P D cl ws H1) {k : Nat} {q : Nat × va_E} (hk : ws[k]? = some q) : q.1 < H1.size := (h k q hk).lt
end VXS
/-! ===== END ===== -/
/-! ===== BEGIN methods with a table of their own: called by a name, returning or throwing ===== -/
section VXH
/-! vx_backW, vx_callVX, vx_callSX, vx_callVW, vx_runVW, vx_runVX, vx_runSX, vx_ofWH follow the same proofs as their sisters above (Free/Laws.lean, Shelf42/LK1.lean); vx_outP calls Shelf42/NT130.lean (outThrough). -/
section
variable {l : Launch} {R : Room} {p : Program} {e : Env} {below : List Frame} {s : State} {sargs : Array Value} {y : MethodName} {len W9 : Nat}
theorem vx_backW {ws : List Cond} {rm : Room} {Pc : Array Value → State → Prop} {Qc : Array Value → State → Outcome → State → Prop} {XC : String → State → State → Prop} {mc ms : Nat} {free : Addr → Prop} {bytes : ByteArray} {maxL : Nat} {ret : Option FieldType} {hh : List (Nat × Nat × Nat × Nat)}
    (hM : vx_Met l y ws rm Pc Qc XC mc ms free) (hblind : FrameBlind Pc) (hrc : rm.cells = mc) (hrs : rm.slots = ms)
    (hframes : rm.frames + 1 ≤ R.frames) (hlocals : W9 + (maxL + 11) + rm.locals ≤ R.locals)
    (hws : ∀ w ∈ ws, ∀ a' U, s.WarmedH U.vm → w.before a' U = true) (hcode : Cond.codeWith y bytes maxL ret hh ∈ ws) (hinit : ∀ a' U, s.WarmedH U.vm → (Cond.initialized y.cls).before a' U = true) :
    vx_Back l R p e below s sargs y len W9 (PreOf R mc ms Pc) (PostOf Qc mc ms free) (vx_Post XC mc ms free) := by
  intro m meth c A g ig mk a X hg hsize hdg hW hn hp
  have h1 : (headSpec ws rm).pre.before a A.U = true := atoms_intro fun w hw => hws w hw _ _ X.warmed
  have h2 : (Cond.codeWith y bytes maxL ret hh).before a A.U = true := hws _ hcode _ _ X.warmed
  have h3 : (Cond.initialized y.cls).before a A.U = true := hinit _ _ X.warmed
  have h4 : A.cells + (headSpec ws rm).room.cells ≤ R.cells := by rw [show (headSpec ws rm).room.cells = mc from hrc]; exact hp.1
  have h5 : A.slots + (headSpec ws rm).room.slots ≤ R.slots := by rw [show (headSpec ws rm).room.slots = ms from hrs]; exact hp.2.1
  have hPc : Pc a (A.U.calling g mk a) := hblind _ _ _ _ hp.2.2
  obtain ⟨U, Ls, c0, s0⟩ := A
  dsimp only [Pt.U, Pt.locs, Pt.cells, Pt.slots] at h1 h2 h3 h4 h5 X hn hPc ⊢
  obtain ⟨m9, methY, cY, hn9, hmY, hcY, -, hlY, -⟩ := Cond.codeWith_spec h2
  cases Option.some.inj (hn9.symm.trans hn)
  obtain ⟨kY, hkY, -⟩ := className_of_methodNamed hn
  have hinitY : kY.init = .initialized := Cond.initialized_spec (findClass_of_methodNamed hn) hkY h3
  have h : At U g.method c below := by rw [hg]; exact X.here
  have hlocals9 : W9 + (maxL + 11) + (headSpec ws rm).room.locals ≤ R.locals := hlocals
  have happ : (headSpec ws rm).appliesLoose y e.platform (U.calling g mk a) = true :=
    Spec.appliesLoose_calling (g := g) h hdg hn hkY hinitY
      (X.room_calling (g := g) (R' := (headSpec ws rm).room) hsize hmY hcY hframes (by rw [hlY]; omega) h4 h5) h1
  obtain ⟨mid, hmid⟩ := h.above
  have hfr : (U.setTop g).frames = (.java g :: mid) ++ below := by rw [State.frames_setTop' g h.top, hmid]; rfl
  obtain ⟨o, s₂, hsteps, -, hend, hq⟩ := Steps.callFree hM p X.admits X.cas X.clock (acts := []) hfr happ hPc trivial
  have hq' : vx_Q Qc XC mc ms free a (U.calling g mk a) o s₂ := hq
  rw [State.frames_setTop' g h.top] at hend
  obtain ⟨g₀, hg0⟩ := Option.isSome_iff_exists.mp h.top
  obtain ⟨r, hr⟩ := State.topJava?_eq_some.mp hg0
  have hr' : (({ U with heap := s₂.heap, slotsUsed := s₂.slotsUsed } : State).setVm s₂.vm).frames = .java g₀ :: r := hr
  rcases hq' with ⟨hqc, L, hfe, hL⟩ | ⟨q, rfl, E, ce, L, hx, hce, hcv, hcl, hW₂, hsm, hL⟩
  · obtain ⟨⟨v, rfl⟩, hW₂, e2, q2, q3, q4, q5, q6⟩ := id hfe
    have e3 : s₂ = ({ (U.calling g mk a).setFrames s₂.frames with heap := s₂.heap, slotsUsed := s₂.slotsUsed } : State).setVm s₂.vm := by
      have : s₂ = ({ s₂ with vm := (U.calling g mk a).vm } : State).setVm s₂.vm := rfl
      rw [e2] at this
      exact this
    obtain ⟨c₂, i₂, len₂, hc₂, hd₂, hf₂⟩ := hend
    have hW' : U.WarmedH s₂.vm := hW₂
    have hcc : c₂ = c := by
      have h1 : s₂.code? g.method = U.code? g.method := by
        rw [State.code?_eq, State.code?_eq, hW'.alike.method?]
      exact Option.some.inj (hc₂.symm.trans (h1.trans h.code))
    subst hcc
    have hlen : len₂ = len := by rw [hdg] at hd₂; cases hd₂; rfl
    subst hlen
    have hs₂ : s₂ = (({ U with heap := s₂.heap, slotsUsed := s₂.slotsUsed } : State).setVm s₂.vm).setTop { g with pc := g.pc + len₂, stack := v.toList ++ g.stack } := by
      refine e3.trans ?_
      rw [hf₂, State.calling_eq h.top, State.setFrames_setFrames, State.setTop_of_frames _ hr', hr]
      rfl
    have hsame : U.sameButNew ({ U with heap := s₂.heap, slotsUsed := s₂.slotsUsed } : State) L mc ms := by
      refine ⟨?_, q2, q3, q4, q5, q6⟩
      obtain ⟨t, ht, -⟩ := State.frames_cons hr
      show ({ U with heap := s₂.heap, slotsUsed := s₂.slotsUsed } : State) = { U.setFrames U.frames with heap := s₂.heap, slotsUsed := s₂.slotsUsed }
      rw [State.setFrames_self ht]
    subst hg
    refine Or.inl ⟨v, ⟨(({ U with heap := s₂.heap, slotsUsed := s₂.slotsUsed } : State).setVm s₂.vm), Ls ++ L, c0 + mc, s0 + ms⟩,
      ⟨X.admits, X.cas, X.clock, X.frames, X.room, X.hears, X.method, X.code, (X.here.setHeapUsed s₂.heap s₂.slotsUsed).setVm hW'.alike, X.tail, State.WarmedH.trans X.warmed hW', X.limits, X.bytes, X.same.trans (hsame.setVm s.vm)⟩,
      ⟨g, mk, s₂, L, rfl, rfl, hqc, rfl, hL, rfl, rfl⟩, ?_⟩
    show Steps p.tables e below _ ((({ U with heap := s₂.heap, slotsUsed := s₂.slotsUsed } : State).setVm s₂.vm).setTop { g with pc := g.pc + len₂, stack := v.toList ++ g.stack })
    rw [← hs₂]
    exact hsteps
  · obtain ⟨e2, q2, q3, q4, q5, q6⟩ := id hsm
    have e3 : s₂ = ({ (U.calling g mk a).setFrames s₂.frames with heap := s₂.heap, slotsUsed := s₂.slotsUsed } : State).setVm s₂.vm := by
      have : s₂ = ({ s₂ with vm := (U.calling g mk a).vm } : State).setVm s₂.vm := rfl
      rw [e2] at this
      exact this
    have hf₂ : s₂.frames = .throwing q :: .java g :: U.frames.tail := hend
    have hW' : U.WarmedH s₂.vm := hW₂
    have hs₂ : s₂ = ((({ U with heap := s₂.heap, slotsUsed := s₂.slotsUsed } : State).setVm s₂.vm).setTop g).pushFrame (.throwing q) := by
      refine e3.trans ?_
      rw [hf₂, State.calling_eq h.top, State.setFrames_setFrames, State.pushFrame, State.frames_setTop _ hr', State.setTop_of_frames _ hr', State.setFrames_setFrames, hr]
      rfl
    have hsame : U.sameButNew ({ U with heap := s₂.heap, slotsUsed := s₂.slotsUsed } : State) L mc ms := by
      refine ⟨?_, q2, q3, q4, q5, q6⟩
      obtain ⟨t, ht, -⟩ := State.frames_cons hr
      show ({ U with heap := s₂.heap, slotsUsed := s₂.slotsUsed } : State) = { U.setFrames U.frames with heap := s₂.heap, slotsUsed := s₂.slotsUsed }
      rw [State.setFrames_self ht]
    subst hg
    refine Or.inr ⟨q, ⟨(({ U with heap := s₂.heap, slotsUsed := s₂.slotsUsed } : State).setVm s₂.vm), Ls ++ L, c0 + mc, s0 + ms⟩,
      ⟨X.admits, X.cas, X.clock, X.frames, X.room, X.hears, X.method, X.code, (X.here.setHeapUsed s₂.heap s₂.slotsUsed).setVm hW'.alike, X.tail, State.WarmedH.trans X.warmed hW', X.limits, X.bytes, X.same.trans (hsame.setVm s.vm)⟩,
      ⟨g, mk, s₂, L, E, ce, rfl, rfl, hx, hce, hcv, hcl, rfl, hL, rfl, rfl⟩, ?_⟩
    show Steps p.tables e below _ (((({ U with heap := s₂.heap, slotsUsed := s₂.slotsUsed } : State).setVm s₂.vm).setTop g).pushFrame (.throwing q))
    rw [← hs₂]
    exact hsteps
end
variable {p : Program} {l : Launch} {e : Env} {R : Room} {s : State} {m : MethodId} {args : Array Value} {below : List Frame} {meth : Method} {c : Code} {T : State} {H : Heap} {locs : List Loc} {cells slots : Nat}
theorem vx_callVX (X : Stand p l e R s m args below meth c T locs cells slots) (hexec : p.tables.exec = Jvm.exec) {own C : String} {index : Nat} {y : MethodName} {bytes : ByteArray} {maxL : Nat} {ret : Option FieldType} {hh : List (Nat × Nat × Nat × Nat)}
    (hown : s.vm.findClass own = some m.cls) (hlink : (Cond.methodLink own index y).before args s = true) (hinst : (Cond.instanceMethod y).before args s = true) (hsel : (Cond.selects C y y).before args s = true)
    (hcode : (Cond.codeWith y bytes maxL ret hh).before args s = true) (hy : y.cls ≠ "java/lang/invoke/MethodHandle" ∧ y.cls ≠ "java/lang/invoke/VarHandle")
    {W9 : Nat} {Pre : Pt → Array Value → Prop} {Post : Pt → Array Value → Option Value → Pt → Prop} {PostX : Pt → Array Value → Addr → Pt → Prop} (hK : vx_Back l R p e below s args y 3 W9 Pre Post PostX)
    {b : Addr} {cellB : Cell} (hcell : T.heap[b]? = some cellB) (hobj : cellB.vm.isStatics = false) (hcls : s.vm.findClass C = some cellB.cls)
    {g : JFrame} (hg : g.method = m) (hsize : g.locals.size = c.maxLocals) {argsL rest : List Value} (hlen : ∀ sig, parseMethodDescriptor y.desc = some sig → argsL.length = sig.parameters.length)
    (hstack : g.stack = argsL.reverse ++ .ref b :: rest) (hW : 2 * g.monitorRoom + (rest.map fun v => v.category).sum ≤ W9) (hdg : decode c.code g.pc = .ok (.invokevirtual index, 3))
    (hpre : ∀ vm₁, s.WarmedH vm₁ → Pre ⟨T.setVm vm₁, locs, cells, slots⟩ (Value.ref b :: argsL).toArray) :
    (∃ (v : Option Value) (vm₁ : Vm) (B : Pt), s.WarmedH vm₁ ∧ Stand p l e R s m args below meth c B.U B.locs B.cells B.slots ∧ Post ⟨T.setVm vm₁, locs, cells, slots⟩ (Value.ref b :: argsL).toArray v B ∧
      ∀ target, Steps p.tables e below (B.U.setTop { g with pc := g.pc + 3, stack := v.toList ++ rest }) target → Steps p.tables e below (T.setTop g) target) ∨
    (∃ (q : Addr) (vm₁ : Vm) (B : Pt), s.WarmedH vm₁ ∧ Stand p l e R s m args below meth c B.U B.locs B.cells B.slots ∧ PostX ⟨T.setVm vm₁, locs, cells, slots⟩ (Value.ref b :: argsL).toArray q B ∧
      Steps p.tables e below (T.setTop g) ((B.U.setTop { g with stack := rest }).pushFrame (.throwing q))) := by
  obtain ⟨mk, methM, hnamed, hmethM, hstM, habM⟩ := Cond.instanceMethod_spec hinst
  obtain ⟨m8, methM', cM, hn8, hmethM', -, -, -, -, -, -, hsigM⟩ := Cond.codeWith_spec hcode
  cases Option.some.inj (hn8.symm.trans hnamed)
  cases hmethM.symm.trans hmethM'
  obtain ⟨c2, r2, m2, q1, q2, q3, q4, kP, hkP, hkPi⟩ := Cond.selects_spec hsel
  cases hcls.symm.trans q1
  cases (State.methodFound?_of_named hnamed hy).symm.trans q2
  cases hnamed.symm.trans q3
  have hselP : selectMethod e.platform s.vm cellB.cls mk = .method mk := by rw [Launch.admits_selectMethod X.admits]; exact q4
  obtain ⟨vm₁, X₁, hstep₁⟩ := X.invokevirtual hexec hown hlink hnamed hmethM hstM hkP hkPi hy (a := b) (cell := cellB) hcell
    (fun z h => by rw [h] at hobj; cases hobj) hselP hmethM habM hkP hkPi (g := g) hg (argsL := argsL) (rest := rest) (hlen _ hsigM) hstack hdg
  rcases hK m meth c ⟨T.setVm vm₁, locs, cells, slots⟩ { g with stack := rest } (.invokevirtual index) mk (Value.ref b :: argsL).toArray X₁ hg hsize hdg hW (X₁.named hnamed) (hpre vm₁ X₁.warmed) with ⟨v, B, X', hpost, hsteps⟩ | ⟨q, B, X', hpost, hsteps⟩
  · exact Or.inl ⟨v, vm₁, B, X₁.warmed, X', hpost, fun target h => hstep₁ _ fun acts => by rw [doInvoke_state]; exact hsteps.trans h⟩
  · exact Or.inr ⟨q, vm₁, B, X₁.warmed, X', hpost, hstep₁ _ fun acts => by rw [doInvoke_state]; exact hsteps⟩
theorem vx_callSX (X : Stand p l e R s m args below meth c T locs cells slots) (hexec : p.tables.exec = Jvm.exec) {own : String} {index : Nat} {y : MethodName} {bytes : ByteArray} {maxL : Nat} {ret : Option FieldType} {hh : List (Nat × Nat × Nat × Nat)}
    (hown : s.vm.findClass own = some m.cls) (hlink : (Cond.methodLink own index y).before args s = true) (hstat : (Cond.static y).before args s = true) (hinit : (Cond.initialized y.cls).before args s = true)
    (hcode : (Cond.codeWith y bytes maxL ret hh).before args s = true) (hy : y.cls ≠ "java/lang/invoke/MethodHandle" ∧ y.cls ≠ "java/lang/invoke/VarHandle")
    {W9 : Nat} {Pre : Pt → Array Value → Prop} {Post : Pt → Array Value → Option Value → Pt → Prop} {PostX : Pt → Array Value → Addr → Pt → Prop} (hK : vx_Back l R p e below s args y 3 W9 Pre Post PostX)
    {g : JFrame} (hg : g.method = m) (hsize : g.locals.size = c.maxLocals) {argsL rest : List Value} (hlen : ∀ sig, parseMethodDescriptor y.desc = some sig → argsL.length = sig.parameters.length)
    (hstack : g.stack = argsL.reverse ++ rest) (hW : 2 * g.monitorRoom + (rest.map fun v => v.category).sum ≤ W9) (hdg : decode c.code g.pc = .ok (.invokestatic index, 3))
    (hpre : ∀ vm₁, s.WarmedH vm₁ → Pre ⟨T.setVm vm₁, locs, cells, slots⟩ argsL.toArray) :
    (∃ (v : Option Value) (vm₁ : Vm) (B : Pt), s.WarmedH vm₁ ∧ Stand p l e R s m args below meth c B.U B.locs B.cells B.slots ∧ Post ⟨T.setVm vm₁, locs, cells, slots⟩ argsL.toArray v B ∧
      ∀ target, Steps p.tables e below (B.U.setTop { g with pc := g.pc + 3, stack := v.toList ++ rest }) target → Steps p.tables e below (T.setTop g) target) ∨
    (∃ (q : Addr) (vm₁ : Vm) (B : Pt), s.WarmedH vm₁ ∧ Stand p l e R s m args below meth c B.U B.locs B.cells B.slots ∧ PostX ⟨T.setVm vm₁, locs, cells, slots⟩ argsL.toArray q B ∧
      Steps p.tables e below (T.setTop g) ((B.U.setTop { g with stack := rest }).pushFrame (.throwing q))) := by
  obtain ⟨mk, methM, cM, hnamed, hmethM, -, -, -, -, -, -, hsigM⟩ := Cond.codeWith_spec hcode
  have hstatic : methM.isStatic = true := Cond.static_spec hnamed hmethM hstat
  obtain ⟨kP, hkP, -⟩ := className_of_methodNamed hnamed
  have hinitP : kP.init = .initialized := Cond.initialized_spec (findClass_of_methodNamed hnamed) hkP hinit
  obtain ⟨vm₁, X₁, hstep₁⟩ := X.invokestatic hexec hown hlink hnamed hmethM hstatic hkP hinitP hy (g := g) hg (argsL := argsL) (rest := rest) (hlen _ hsigM) hstack hdg
  rcases hK m meth c ⟨T.setVm vm₁, locs, cells, slots⟩ { g with stack := rest } (.invokestatic index) mk argsL.toArray X₁ hg hsize hdg hW (X₁.named hnamed) (hpre vm₁ X₁.warmed) with ⟨v, B, X', hpost, hsteps⟩ | ⟨q, B, X', hpost, hsteps⟩
  · exact Or.inl ⟨v, vm₁, B, X₁.warmed, X', hpost, fun target h => hstep₁ _ fun acts => by rw [doInvoke_state]; exact hsteps.trans h⟩
  · exact Or.inr ⟨q, vm₁, B, X₁.warmed, X', hpost, hstep₁ _ fun acts => by rw [doInvoke_state]; exact hsteps⟩
theorem vx_callVW (X : Stand p l e R s m args below meth c T locs cells slots) (hexec : p.tables.exec = Jvm.exec) {own C : String} {index : Nat} {y : MethodName} {bytes : ByteArray} {maxL : Nat} {ret : Option FieldType} {hh : List (Nat × Nat × Nat × Nat)}
    (hown : s.vm.findClass own = some m.cls) (hlink : (Cond.methodLink own index y).before args s = true) (hinst : (Cond.instanceMethod y).before args s = true) (hsel : (Cond.selects C y y).before args s = true)
    (hcode : (Cond.codeWith y bytes maxL ret hh).before args s = true) (hy : y.cls ≠ "java/lang/invoke/MethodHandle" ∧ y.cls ≠ "java/lang/invoke/VarHandle")
    {W9 : Nat} {Pre : Pt → Array Value → Prop} {Post : Pt → Array Value → Option Value → Pt → Prop} (hK : Back l R p e below s args y 3 W9 Pre Post)
    {b : Addr} {cellB : Cell} (hcell : T.heap[b]? = some cellB) (hobj : cellB.vm.isStatics = false) (hcls : s.vm.findClass C = some cellB.cls)
    {g : JFrame} (hg : g.method = m) (hsize : g.locals.size = c.maxLocals) {argsL rest : List Value} (hlen : ∀ sig, parseMethodDescriptor y.desc = some sig → argsL.length = sig.parameters.length)
    (hstack : g.stack = argsL.reverse ++ .ref b :: rest) (hW : 2 * g.monitorRoom + (rest.map fun v => v.category).sum ≤ W9) (hdg : decode c.code g.pc = .ok (.invokevirtual index, 3))
    (hpre : ∀ vm₁, s.WarmedH vm₁ → Pre ⟨T.setVm vm₁, locs, cells, slots⟩ (Value.ref b :: argsL).toArray) :
    ∃ (v : Option Value) (vm₁ : Vm) (B : Pt), s.WarmedH vm₁ ∧ Stand p l e R s m args below meth c B.U B.locs B.cells B.slots ∧ Post ⟨T.setVm vm₁, locs, cells, slots⟩ (Value.ref b :: argsL).toArray v B ∧
      ∀ target, Steps p.tables e below (B.U.setTop { g with pc := g.pc + 3, stack := v.toList ++ rest }) target → Steps p.tables e below (T.setTop g) target := by
  obtain ⟨mk, methM, hnamed, hmethM, hstM, habM⟩ := Cond.instanceMethod_spec hinst
  obtain ⟨m8, methM', cM, hn8, hmethM', -, -, -, -, -, -, hsigM⟩ := Cond.codeWith_spec hcode
  cases Option.some.inj (hn8.symm.trans hnamed)
  cases hmethM.symm.trans hmethM'
  obtain ⟨c2, r2, m2, q1, q2, q3, q4, kP, hkP, hkPi⟩ := Cond.selects_spec hsel
  cases hcls.symm.trans q1
  cases (State.methodFound?_of_named hnamed hy).symm.trans q2
  cases hnamed.symm.trans q3
  have hselP : selectMethod e.platform s.vm cellB.cls mk = .method mk := by rw [Launch.admits_selectMethod X.admits]; exact q4
  obtain ⟨vm₁, X₁, hstep₁⟩ := X.invokevirtual hexec hown hlink hnamed hmethM hstM hkP hkPi hy (a := b) (cell := cellB) hcell
    (fun z h => by rw [h] at hobj; cases hobj) hselP hmethM habM hkP hkPi (g := g) hg (argsL := argsL) (rest := rest) (hlen _ hsigM) hstack hdg
  obtain ⟨v, B, X', hpost, hsteps⟩ := hK m meth c ⟨T.setVm vm₁, locs, cells, slots⟩ { g with stack := rest } (.invokevirtual index) mk (Value.ref b :: argsL).toArray X₁ hg hsize hdg hW (X₁.named hnamed) (hpre vm₁ X₁.warmed)
  exact ⟨v, vm₁, B, X₁.warmed, X', hpost, fun target h => hstep₁ _ fun acts => by rw [doInvoke_state]; exact hsteps.trans h⟩
abbrev vx_CVW (R : Room) (s : State) (args : Array Value) (own C : String) (index : Nat) (y : MethodName) (bytes : ByteArray) (maxL : Nat) (ret : Option FieldType) (hh : List (Nat × Nat × Nat × Nat)) (ws : List Cond) (rm : Room) (mc ms n : Nat) : Prop :=
  (rm.cells = mc ∧ rm.slots = ms ∧ rm.frames + 1 ≤ R.frames ∧ 8 + (maxL + 11) + rm.locals ≤ R.locals ∧ (∀ w ∈ ws, ∀ (a' : Array Value) (U : State), s.WarmedH U.vm → w.before a' U = true) ∧ Cond.codeWith y bytes maxL ret hh ∈ ws) ∧
  (Cond.codeWith y bytes maxL ret hh).before args s = true ∧ (Cond.initialized y.cls).before args s = true ∧ (y.cls ≠ "java/lang/invoke/MethodHandle" ∧ y.cls ≠ "java/lang/invoke/VarHandle") ∧
  (∀ sig, parseMethodDescriptor y.desc = some sig → n = sig.parameters.length) ∧ (Cond.methodLink own index y).before args s = true ∧ (Cond.instanceMethod y).before args s = true ∧ (Cond.selects C y y).before args s = true
theorem vx_cwVW {own C : String} {index maxL mc ms : Nat} {y : MethodName} {bytes : ByteArray} {ret : Option FieldType} {hh : List (Nat × Nat × Nat × Nat)} {Ts ws ws' : List Cond} {rm : Room} (n : Nat) (ht : ∀ w ∈ Ts, w.before args s = true) (hT : GoodIn Ts (wsV own index C y ws)) (hw : ws = Cond.codeWith y bytes maxL ret hh :: ws') (hrc : rm.cells = mc) (hrs : rm.slots = ms)
    (hd : y.cls = C ∧ y.cls ≠ "java/lang/invoke/MethodHandle" ∧ y.cls ≠ "java/lang/invoke/VarHandle" ∧ (parseMethodDescriptor y.desc).map (fun d => d.parameters.length) = some n) (hR : rm.frames + 1 ≤ R.frames ∧ 8 + (maxL + 11) + rm.locals ≤ R.locals) :
    vx_CVW R s args own C index y bytes maxL ret hh ws rm mc ms n := by
  obtain ⟨hC, hd⟩ := hd
  subst hC
  have ok : ∀ w ∈ wsV own index y.cls y ws, w.before args s = true := fun w h => ht w (hT w h).1
  have hG : GoodIn Ts ws := fun w h => hT w (by unfold wsV; exact List.mem_append_right _ h)
  have hc : Cond.codeWith y bytes maxL ret hh ∈ ws := by rw [hw]; exact List.mem_cons_self
  refine ⟨⟨hrc, hrs, hR.1, hR.2, pay_in ht hG, hc⟩, ht _ (hG _ hc).1, ok _ (by simp [wsV]), ⟨hd.1, hd.2.1⟩, fun sig h => ?_, ok _ (by simp [wsV]), ok _ (by simp [wsV]), ok _ (by simp [wsV])⟩
  have h2 := hd.2.2
  rw [h] at h2
  exact (Option.some.inj h2).symm
theorem vx_runVW {y : MethodName} {bytes cc : ByteArray} {maxL nL mc ms n index : Nat} {ret : Option FieldType} {hh : List (Nat × Nat × Nat × Nat)} {ws : List Cond} {rm : Room} {Pc : Array Value → State → Prop} {Qc : Array Value → State → Outcome → State → Prop} {free : Addr → Prop} {Ts : List Cond} {own C : String} {b : Addr} {As rest : List Value} {g : JFrame}
    (S : CallFix p m c cc nL s args Ts own) (hM : Met l y ws rm Pc Qc mc ms free) (cw : vx_CVW R s args own C index y bytes maxL ret hh ws rm mc ms n) (hp : PreV s H C b Pc As)
    (hg : g.method = m) (hn : As.length = n) (hsize : g.locals.size = nL) (hstack : g.stack = As.reverse ++ .ref b :: rest) (hW : 2 * g.monitorRoom + (rest.map fun v => v.category).sum ≤ 8) (hdg : decode cc g.pc = .ok (.invokevirtual index, 3)) (hf : cells + mc ≤ R.cells ∧ slots + ms ≤ R.slots) :
    va_Run p l e R s m args below meth c H locs cells slots mc ms g rest (Qc (Value.ref b :: As).toArray) free := by
  obtain ⟨⟨hrc, hrs, hfr, hlo, hws, hcw⟩, hcode, hini, hy, hlen, hl, hin, hse⟩ := cw
  have hK : Back l R p e below s args y 3 8 (PreOf R mc ms Pc) (PostOf Qc mc ms free) := va_backW (hh := hh) (bytes := bytes) (maxL := maxL) (ret := ret) hM hp.1 hrc hrs hfr hlo hws hcw (fun a' U hW => word_at hW (Or.inl (by first | rfl | simp [Cond.onTables, Cond.keeps, Cond.steady])) hini)
  obtain ⟨hx, hb, hml, ho, -⟩ := S
  obtain ⟨-, ⟨cellB, hcB, hoB, hclB⟩, hPc⟩ := hp
  intro T hT X
  obtain ⟨v, vm₁, ⟨U', l2, c2, s2⟩, hW₁, X', ⟨g', mk, t, L, e1, e2, hq, h1, hL, h2, h3⟩, st⟩ := vx_callVW X hx (C := C) (hh := hh) (bytes := bytes) (maxL := maxL) (ret := ret) ho hl hin hse hcode hy hK (by rw [hT]; exact hcB) hoB hclB hg (hsize.trans hml.symm) (argsL := As) (rest := rest) (fun sig h => hn.trans (hlen sig h)) hstack hW (by rw [hb]; exact hdg)
    (fun vm₁ hW₁ => ⟨hf.1, hf.2, hPc (T.setVm vm₁) hT hW₁⟩)
  dsimp only [Pt.U, Pt.locs, Pt.cells, Pt.slots] at X' e1 e2 h1 h2 h3 st
  subst h1; subst h2; subst h3
  exact ⟨v, (T.setVm vm₁).calling g' mk (Value.ref b :: As).toArray, t, U', L, hT, X', hL, e1, e2, hq, st⟩
section
variable {y : MethodName} {bytes cc : ByteArray} {maxL nL mc ms n index : Nat} {ret : Option FieldType} {ws : List Cond} {rm : Room} {Pc : Array Value → State → Prop} {Qc : Array Value → State → Outcome → State → Prop} {XC : String → State → State → Prop} {free : Addr → Prop} {Ts : List Cond} {own C : String} {b : Addr} {As rest : List Value} {g : JFrame}
theorem vx_runVX {hh : List (Nat × Nat × Nat × Nat)} (S : CallFix p m c cc nL s args Ts own) (hM : vx_Met l y ws rm Pc Qc XC mc ms free) (cw : vx_CVW R s args own C index y bytes maxL ret hh ws rm mc ms n) (hp : PreV s H C b Pc As)
    (hg : g.method = m) (hn : As.length = n) (hsize : g.locals.size = nL) (hstack : g.stack = As.reverse ++ .ref b :: rest) (hW : 2 * g.monitorRoom + (rest.map fun v => v.category).sum ≤ 8) (hdg : decode cc g.pc = .ok (.invokevirtual index, 3)) (hf : cells + mc ≤ R.cells ∧ slots + ms ≤ R.slots) :
    vx_Run p l e R s m args below meth c H locs cells slots mc ms g rest (Qc (Value.ref b :: As).toArray) XC free := by
  obtain ⟨⟨hrc, hrs, hfr, hlo, hws, hcw⟩, hcode, hini, hy, hlen, hl, hin, hse⟩ := cw
  have hK : vx_Back l R p e below s args y 3 8 (PreOf R mc ms Pc) (PostOf Qc mc ms free) (vx_Post XC mc ms free) := vx_backW (hh := hh) (bytes := bytes) (maxL := maxL) (ret := ret) hM hp.1 hrc hrs hfr hlo hws hcw (fun a' U hW => word_at hW (Or.inl (by first | rfl | simp [Cond.onTables, Cond.keeps, Cond.steady])) hini)
  obtain ⟨hx, hb, hml, ho, -⟩ := S
  obtain ⟨-, ⟨cellB, hcB, hoB, hclB⟩, hPc⟩ := hp
  intro T hT X
  rcases vx_callVX X hx (C := C) (hh := hh) (bytes := bytes) (maxL := maxL) (ret := ret) ho hl hin hse hcode hy hK (by rw [hT]; exact hcB) hoB hclB hg (hsize.trans hml.symm) (argsL := As) (rest := rest) (fun sig h => hn.trans (hlen sig h)) hstack hW (by rw [hb]; exact hdg)
    (fun vm₁ hW₁ => ⟨hf.1, hf.2, hPc (T.setVm vm₁) hT hW₁⟩) with ⟨v, vm₁, ⟨U', l2, c2, s2⟩, hW₁, X', ⟨g', mk, t, L, e1, e2, hq, h1, hL, h2, h3⟩, st⟩ | ⟨q, vm₁, ⟨U', l2, c2, s2⟩, hW₁, X', ⟨g', mk, t, L, E, ce, e1, e2, hq, hce, hcv, hcl, h1, hL, h2, h3⟩, st⟩
  · dsimp only [Pt.U, Pt.locs, Pt.cells, Pt.slots] at X' e1 e2 h1 h2 h3 st
    subst h1; subst h2; subst h3
    exact Or.inl ⟨v, (T.setVm vm₁).calling g' mk (Value.ref b :: As).toArray, t, U', L, hT, X', hL, e1, e2, hq, st⟩
  · dsimp only [Pt.U, Pt.locs, Pt.cells, Pt.slots] at X' e1 e2 h1 h2 h3 st hcl
    subst h1; subst h2; subst h3
    exact Or.inr ⟨q, (T.setVm vm₁).calling g' mk (Value.ref b :: As).toArray, t, U', L, E, ce, hT, X', hL, e1, e2, hq, hce, hcv, vx_cls hW₁ hcl, st⟩
theorem vx_runSX {hh : List (Nat × Nat × Nat × Nat)} (S : CallFix p m c cc nL s args Ts own) (hM : vx_Met l y ws rm Pc Qc XC mc ms free) (cw : vx_CSW R s args own index y bytes maxL ret hh ws rm mc ms n) (hp : PreS s H Pc As)
    (hg : g.method = m) (hn : As.length = n) (hsize : g.locals.size = nL) (hstack : g.stack = As.reverse ++ rest) (hW : 2 * g.monitorRoom + (rest.map fun v => v.category).sum ≤ 8) (hdg : decode cc g.pc = .ok (.invokestatic index, 3)) (hf : cells + mc ≤ R.cells ∧ slots + ms ≤ R.slots) :
    vx_Run p l e R s m args below meth c H locs cells slots mc ms g rest (Qc As.toArray) XC free := by
  obtain ⟨⟨hrc, hrs, hfr, hlo, hws, hcw⟩, hcode, hini, hy, hlen, hl, hstt⟩ := cw
  have hK : vx_Back l R p e below s args y 3 8 (PreOf R mc ms Pc) (PostOf Qc mc ms free) (vx_Post XC mc ms free) := vx_backW (hh := hh) (bytes := bytes) (maxL := maxL) (ret := ret) hM hp.1 hrc hrs hfr hlo hws hcw (fun a' U hW => word_at hW (Or.inl (by first | rfl | simp [Cond.onTables, Cond.keeps, Cond.steady])) hini)
  obtain ⟨hx, hb, hml, ho, -⟩ := S
  intro T hT X
  rcases vx_callSX X hx (hh := hh) (bytes := bytes) (maxL := maxL) (ret := ret) ho hl hstt hini hcode hy hK hg (hsize.trans hml.symm) (argsL := As) (rest := rest) (fun sig h => hn.trans (hlen sig h)) hstack hW (by rw [hb]; exact hdg)
    (fun vm₁ hW₁ => ⟨hf.1, hf.2, hp.2 (T.setVm vm₁) hT hW₁⟩) with ⟨v, vm₁, ⟨U', l2, c2, s2⟩, hW₁, X', ⟨g', mk, t, L, e1, e2, hq, h1, hL, h2, h3⟩, st⟩ | ⟨q, vm₁, ⟨U', l2, c2, s2⟩, hW₁, X', ⟨g', mk, t, L, E, ce, e1, e2, hq, hce, hcv, hcl, h1, hL, h2, h3⟩, st⟩
  · dsimp only [Pt.U, Pt.locs, Pt.cells, Pt.slots] at X' e1 e2 h1 h2 h3 st
    subst h1; subst h2; subst h3
    exact Or.inl ⟨v, (T.setVm vm₁).calling g' mk As.toArray, t, U', L, hT, X', hL, e1, e2, hq, st⟩
  · dsimp only [Pt.U, Pt.locs, Pt.cells, Pt.slots] at X' e1 e2 h1 h2 h3 st hcl
    subst h1; subst h2; subst h3
    exact Or.inr ⟨q, (T.setVm vm₁).calling g' mk As.toArray, t, U', L, E, ce, hT, X', hL, e1, e2, hq, hce, hcv, vx_cls hW₁ hcl, st⟩
end
end VXH
theorem vx_ofWH {l : Launch} {y : MethodName} {ws ws' : List Cond} {rm : Room} {Pc : Array Value → State → Prop} {Qc : Array Value → State → Outcome → State → Prop} {XC : String → State → State → Prop} {mc ms : Nat} {free : Addr → Prop} {cc : ByteArray} {maxL : Nat} {ret : Option FieldType} {hh : List (Nat × Nat × Nat × Nat)}
    (hy : plainName y.cls = true) (hw : ws = Cond.codeWith y cc maxL ret hh :: ws')
    (body : ∀ p e s m args below meth c s₁, BodyLoose p l y (headSpec ws rm) cc maxL ret e s m args below meth c s₁ → c.maxLocals = maxL → Pc args s →
      W p l e (headSpec ws rm).room s m args below meth c s.heap [] 0 0 (vx_MQ below Qc XC args s mc ms free) (entryFrame m args maxL)) : vx_Met l y ws rm Pc Qc XC mc ms free := by
  refine MetFree.of_bodyS (code := cc) (maxLocals := maxL) (ret := ret) hy ?_ ?_
  · intro args s m h hn
    obtain ⟨m9, meth, c, hn9, h1, h2, h3, h4, -, h5, h6, -⟩ := Cond.codeWith_spec (atoms_spec (ws := ws) h _ (by rw [hw]; exact List.mem_cons_self))
    cases hn.symm.trans hn9
    exact ⟨meth, c, h1, h2, h3, h4, h5, h6⟩
  · intro p e s m args below meth c s₁ B hml hP _
    have hh0 : s₁.heap = s.heap := by rw [B.state]; rfl
    obtain ⟨t, a1, o, b1, b2, b3⟩ := body p e s m args below meth c s₁ B hml hP s₁ hh0 (Stand.of_body B)
    exact ⟨t, o, a1, b1, b2, b3⟩
/-! ===== END ===== -/
end
section
/-! ===== BEGIN printed: names, fields, word lists, decode rows ===== -/
def RX0 : String := "FlakeTriage$RunLog"
def TX0 : u_T := fun k => match k with
  | 0 => ("FlakeTriage$RunLog", "count", "[I", true)
  | 1 => ("FlakeTriage$RunLog", "commitOfRun", "[[I", true)
  | 2 => ("FlakeTriage$RunLog", "passedOfRun", "[[I", true)
  | 3 => ("FlakeTriage$RunLog", "passes", "[[I", true)
  | _ => ("FlakeTriage$RunLog", "failures", "[[I", true)
def tyX0 : Nat → FieldType := fun k => match k with
  | 0 => .array .int
  | 1 => .array (.array .int)
  | 2 => .array (.array .int)
  | 3 => .array (.array .int)
  | _ => .array (.array .int)
abbrev wsX00 : List Cond := u_ws RX0 TX0 5
theorem nmX0 : ∀ a, a < 5 → ∀ b, b < 5 → a ≠ b → (TX0 a).2.1 ≠ (TX0 b).2.1 := by decide +kernel
theorem tyX0_ok : ∀ k, k < 5 → parseFieldDescriptor (TX0 k).2.2.1 = some (tyX0 k) := by decide +kernel
abbrev cX0_init : ByteArray := prog_2_method_1_code
def yX0_init : MethodName := ⟨RX0, "<init>", "()V"⟩
abbrev cX0_add : ByteArray := prog_2_method_2_code
def yX0_add : MethodName := ⟨RX0, "add", "(IIZ)Z"⟩
abbrev cX0_countOf : ByteArray := prog_2_method_3_code
def yX0_countOf : MethodName := ⟨RX0, "countOf", "(I)I"⟩
abbrev cX0_countAt : ByteArray := prog_2_method_4_code
def yX0_countAt : MethodName := ⟨RX0, "countAt", "(II)I"⟩
abbrev cX0_failuresOf : ByteArray := prog_2_method_5_code
def yX0_failuresOf : MethodName := ⟨RX0, "failuresOf", "(I)I"⟩
abbrev cX0_verdictAt : ByteArray := prog_2_method_6_code
def yX0_verdictAt : MethodName := ⟨RX0, "verdictAt", "(II)I"⟩
abbrev cX0_contradicting : ByteArray := prog_2_method_7_code
def yX0_contradicting : MethodName := ⟨RX0, "contradicting", "(IIII)I"⟩
abbrev cX0_passesWithin : ByteArray := prog_2_method_8_code
def yX0_passesWithin : MethodName := ⟨RX0, "passesWithin", "(III)I"⟩
abbrev cX0_riseBehind : ByteArray := prog_2_method_9_code
def yX0_riseBehind : MethodName := ⟨RX0, "riseBehind", "(II)I"⟩
def RX1 : String := "FlakeTriage"
def TX1 : u_T := fun k => match k with
  | 0 => ("FlakeTriage", "usedByPart", "[I", true)
  | 1 => ("FlakeTriage", "changedBy", "[I", true)
  | 2 => ("FlakeTriage", "usedByTest", "[I", true)
  | 3 => ("FlakeTriage", "log", "LFlakeTriage$RunLog;", true)
  | 4 => ("FlakeTriage", "inTriage", "[Z", true)
  | 5 => ("FlakeTriage", "goodOf", "[I", true)
  | 6 => ("FlakeTriage", "badOf", "[I", true)
  | 7 => ("FlakeTriage", "placeOf", "[I", true)
  | 8 => ("FlakeTriage", "queueLength", "I", false)
  | 9 => ("FlakeTriage", "commitCount", "I", false)
  | 10 => ("FlakeTriage", "testCount", "I", false)
  | 11 => ("FlakeTriage", "limit", "I", false)
  | 12 => ("FlakeTriage", "window", "I", false)
  | 13 => ("FlakeTriage", "noise", "I", false)
  | _ => ("FlakeTriage", "budgetLeft", "I", false)
def tyX1 : Nat → FieldType := fun k => match k with
  | 0 => .array .int
  | 1 => .array .int
  | 2 => .array .int
  | 3 => .object "FlakeTriage$RunLog"
  | 4 => .array .boolean
  | 5 => .array .int
  | 6 => .array .int
  | 7 => .array .int
  | 8 => .int
  | 9 => .int
  | 10 => .int
  | 11 => .int
  | 12 => .int
  | 13 => .int
  | _ => .int
abbrev wsX10 : List Cond := u_ws RX1 TX1 15
theorem nmX1 : ∀ a, a < 15 → ∀ b, b < 15 → a ≠ b → (TX1 a).2.1 ≠ (TX1 b).2.1 := by decide +kernel
theorem tyX1_ok : ∀ k, k < 15 → parseFieldDescriptor (TX1 k).2.2.1 = some (tyX1 k) := by decide +kernel
abbrev cX1_init : ByteArray := prog_1_method_1_code
def yX1_init : MethodName := ⟨RX1, "<init>", "()V"⟩
abbrev cX1_setUses : ByteArray := prog_1_method_2_code
def yX1_setUses : MethodName := ⟨RX1, "setUses", "(II)I"⟩
abbrev cX1_addCommit : ByteArray := prog_1_method_3_code
def yX1_addCommit : MethodName := ⟨RX1, "addCommit", "(I)I"⟩
abbrev cX1_addTest : ByteArray := prog_1_method_4_code
def yX1_addTest : MethodName := ⟨RX1, "addTest", "(I)I"⟩
abbrev cX1_setQuarantine : ByteArray := prog_1_method_5_code
def yX1_setQuarantine : MethodName := ⟨RX1, "setQuarantine", "(II)V"⟩
abbrev cX1_setNoise : ByteArray := prog_1_method_6_code
def yX1_setNoise : MethodName := ⟨RX1, "setNoise", "(I)I"⟩
abbrev cX1_record : ByteArray := prog_1_method_7_code
def yX1_record : MethodName := ⟨RX1, "record", "(IIZ)I"⟩
abbrev cX1_triage : ByteArray := prog_1_method_8_code
def yX1_triage : MethodName := ⟨RX1, "triage", "(III)I"⟩
abbrev cX1_close : ByteArray := prog_1_method_9_code
def yX1_close : MethodName := ⟨RX1, "close", "(I)I"⟩
abbrev cX1_enqueue : ByteArray := prog_1_method_10_code
def yX1_enqueue : MethodName := ⟨RX1, "enqueue", "(I)I"⟩
abbrev cX1_newDay : ByteArray := prog_1_method_11_code
def yX1_newDay : MethodName := ⟨RX1, "newDay", "(I)I"⟩
abbrev cX1_take : ByteArray := prog_1_method_12_code
def yX1_take : MethodName := ⟨RX1, "take", "()I"⟩
abbrev cX1_commits : ByteArray := prog_1_method_13_code
def yX1_commits : MethodName := ⟨RX1, "commits", "()I"⟩
abbrev cX1_tests : ByteArray := prog_1_method_14_code
def yX1_tests : MethodName := ⟨RX1, "tests", "()I"⟩
abbrev cX1_budget : ByteArray := prog_1_method_15_code
def yX1_budget : MethodName := ⟨RX1, "budget", "()I"⟩
abbrev cX1_queued : ByteArray := prog_1_method_16_code
def yX1_queued : MethodName := ⟨RX1, "queued", "()I"⟩
abbrev cX1_partsOf : ByteArray := prog_1_method_17_code
def yX1_partsOf : MethodName := ⟨RX1, "partsOf", "(I)I"⟩
abbrev cX1_touches : ByteArray := prog_1_method_18_code
def yX1_touches : MethodName := ⟨RX1, "touches", "(I)I"⟩
abbrev cX1_runs : ByteArray := prog_1_method_19_code
def yX1_runs : MethodName := ⟨RX1, "runs", "(I)I"⟩
abbrev cX1_verdict : ByteArray := prog_1_method_20_code
def yX1_verdict : MethodName := ⟨RX1, "verdict", "(II)I"⟩
abbrev cX1_failing : ByteArray := prog_1_method_21_code
def yX1_failing : MethodName := ⟨RX1, "failing", "(I)I"⟩
abbrev cX1_isQuarantined : ByteArray := prog_1_method_22_code
def yX1_isQuarantined : MethodName := ⟨RX1, "isQuarantined", "(I)Z"⟩
abbrev cX1_broken : ByteArray := prog_1_method_23_code
def yX1_broken : MethodName := ⟨RX1, "broken", "(I)I"⟩
abbrev cX1_suspects : ByteArray := prog_1_method_24_code
def yX1_suspects : MethodName := ⟨RX1, "suspects", "(I)J"⟩
abbrev cX1_contradictions : ByteArray := prog_1_method_25_code
def yX1_contradictions : MethodName := ⟨RX1, "contradictions", "(II)I"⟩
abbrev cX1_candidates : ByteArray := prog_1_method_26_code
def yX1_candidates : MethodName := ⟨RX1, "candidates", "(I)J"⟩
abbrev cX1_likeliest : ByteArray := prog_1_method_27_code
def yX1_likeliest : MethodName := ⟨RX1, "likeliest", "(I)I"⟩
abbrev cX1_next : ByteArray := prog_1_method_28_code
def yX1_next : MethodName := ⟨RX1, "next", "(I)I"⟩
abbrev cX1_needParts : ByteArray := prog_1_method_29_code
def yX1_needParts : MethodName := ⟨RX1, "needParts", "(I)V"⟩
abbrev cX1_needTest : ByteArray := prog_1_method_30_code
def yX1_needTest : MethodName := ⟨RX1, "needTest", "(I)V"⟩
abbrev cX1_needCommit : ByteArray := prog_1_method_31_code
def yX1_needCommit : MethodName := ⟨RX1, "needCommit", "(I)V"⟩
abbrev cX1_needTriage : ByteArray := prog_1_method_32_code
def yX1_needTriage : MethodName := ⟨RX1, "needTriage", "(I)V"⟩
abbrev cX1_has : ByteArray := prog_1_method_33_code
def yX1_has : MethodName := ⟨RX1, "has", "(JI)Z"⟩
abbrev cX1_allPartsOf : ByteArray := prog_1_method_34_code
def yX1_allPartsOf : MethodName := ⟨RX1, "allPartsOf", "(I)I"⟩
abbrev cX1_isUnsteady : ByteArray := prog_1_method_35_code
def yX1_isUnsteady : MethodName := ⟨RX1, "isUnsteady", "(I)Z"⟩
abbrev cX1_suspectsOf : ByteArray := prog_1_method_36_code
def yX1_suspectsOf : MethodName := ⟨RX1, "suspectsOf", "(I)J"⟩
abbrev cX1_candidatesOf : ByteArray := prog_1_method_37_code
def yX1_candidatesOf : MethodName := ⟨RX1, "candidatesOf", "(I)J"⟩
abbrev cX1_likeliestOf : ByteArray := prog_1_method_38_code
def yX1_likeliestOf : MethodName := ⟨RX1, "likeliestOf", "(I)I"⟩
abbrev cX1_weightAt : ByteArray := prog_1_method_39_code
def yX1_weightAt : MethodName := ⟨RX1, "weightAt", "(JI)I"⟩
abbrev cX1_firstInQueue : ByteArray := prog_1_method_40_code
def yX1_firstInQueue : MethodName := ⟨RX1, "firstInQueue", "()I"⟩
abbrev cX1_joinQueue : ByteArray := prog_1_method_41_code
def yX1_joinQueue : MethodName := ⟨RX1, "joinQueue", "(I)V"⟩
abbrev cX1_leaveQueue : ByteArray := prog_1_method_42_code
def yX1_leaveQueue : MethodName := ⟨RX1, "leaveQueue", "(I)V"⟩
def RX2 : String := "FlakeTriageModel"
def TX2 : u_T := fun k => match k with
  | 0 => ("FlakeTriageModel", "commits", "I", false)
  | 1 => ("FlakeTriageModel", "tests", "I", false)
  | 2 => ("FlakeTriageModel", "limit", "I", false)
  | 3 => ("FlakeTriageModel", "window", "I", false)
  | 4 => ("FlakeTriageModel", "noise", "I", false)
  | 5 => ("FlakeTriageModel", "budget", "I", false)
  | 6 => ("FlakeTriageModel", "uses", "[I", true)
  | 7 => ("FlakeTriageModel", "changes", "[I", true)
  | 8 => ("FlakeTriageModel", "direct", "[I", true)
  | 9 => ("FlakeTriageModel", "passes", "[I", true)
  | 10 => ("FlakeTriageModel", "fails", "[I", true)
  | 11 => ("FlakeTriageModel", "good", "[I", true)
  | 12 => ("FlakeTriageModel", "bad", "[I", true)
  | 13 => ("FlakeTriageModel", "queue", "[I", true)
  | 14 => ("FlakeTriageModel", "queued", "I", false)
  | _ => ("FlakeTriageModel", "thrown", "I", false)
def tyX2 : Nat → FieldType := fun k => match k with
  | 0 => .int
  | 1 => .int
  | 2 => .int
  | 3 => .int
  | 4 => .int
  | 5 => .int
  | 6 => .array .int
  | 7 => .array .int
  | 8 => .array .int
  | 9 => .array .int
  | 10 => .array .int
  | 11 => .array .int
  | 12 => .array .int
  | 13 => .array .int
  | 14 => .int
  | _ => .int
abbrev wsX20 : List Cond := u_ws RX2 TX2 16
theorem nmX2 : ∀ a, a < 16 → ∀ b, b < 16 → a ≠ b → (TX2 a).2.1 ≠ (TX2 b).2.1 := by decide +kernel
theorem tyX2_ok : ∀ k, k < 16 → parseFieldDescriptor (TX2 k).2.2.1 = some (tyX2 k) := by decide +kernel
abbrev cX2_init : ByteArray := prog_4_method_1_code
def yX2_init : MethodName := ⟨RX2, "<init>", "()V"⟩
abbrev cX2_thrown : ByteArray := prog_4_method_2_code
def yX2_thrown : MethodName := ⟨RX2, "thrown", "()I"⟩
abbrev cX2_in : ByteArray := prog_4_method_3_code
def yX2_in : MethodName := ⟨RX2, "in", "(III)Z"⟩
abbrev cX2_goes : ByteArray := prog_4_method_4_code
def yX2_goes : MethodName := ⟨RX2, "goes", "(ZZ)Z"⟩
abbrev cX2_told : ByteArray := prog_4_method_5_code
def yX2_told : MethodName := ⟨RX2, "told", "(I)I"⟩
abbrev cX2_areParts : ByteArray := prog_4_method_6_code
def yX2_areParts : MethodName := ⟨RX2, "areParts", "(I)Z"⟩
abbrev cX2_isTest : ByteArray := prog_4_method_7_code
def yX2_isTest : MethodName := ⟨RX2, "isTest", "(I)Z"⟩
abbrev cX2_isCommit : ByteArray := prog_4_method_8_code
def yX2_isCommit : MethodName := ⟨RX2, "isCommit", "(I)Z"⟩
abbrev cX2_isInTriage : ByteArray := prog_4_method_9_code
def yX2_isInTriage : MethodName := ⟨RX2, "isInTriage", "(I)Z"⟩
abbrev cX2_setUses : ByteArray := prog_4_method_10_code
def yX2_setUses : MethodName := ⟨RX2, "setUses", "(II)I"⟩
abbrev cX2_addCommit : ByteArray := prog_4_method_11_code
def yX2_addCommit : MethodName := ⟨RX2, "addCommit", "(I)I"⟩
abbrev cX2_addTest : ByteArray := prog_4_method_12_code
def yX2_addTest : MethodName := ⟨RX2, "addTest", "(I)I"⟩
abbrev cX2_setQuarantine : ByteArray := prog_4_method_13_code
def yX2_setQuarantine : MethodName := ⟨RX2, "setQuarantine", "(II)V"⟩
abbrev cX2_setNoise : ByteArray := prog_4_method_14_code
def yX2_setNoise : MethodName := ⟨RX2, "setNoise", "(I)I"⟩
abbrev cX2_reach : ByteArray := prog_4_method_15_code
def yX2_reach : MethodName := ⟨RX2, "reach", "(I)I"⟩
abbrev cX2_verdictOf : ByteArray := prog_4_method_16_code
def yX2_verdictOf : MethodName := ⟨RX2, "verdictOf", "(II)I"⟩
abbrev cX2_all : ByteArray := prog_4_method_17_code
def yX2_all : MethodName := ⟨RX2, "all", "(I[I)I"⟩
abbrev cX2_allRuns : ByteArray := prog_4_method_18_code
def yX2_allRuns : MethodName := ⟨RX2, "allRuns", "(I)I"⟩
abbrev cX2_isUnsteady : ByteArray := prog_4_method_19_code
def yX2_isUnsteady : MethodName := ⟨RX2, "isUnsteady", "(I)Z"⟩
abbrev cX2_isSuspect : ByteArray := prog_4_method_20_code
def yX2_isSuspect : MethodName := ⟨RX2, "isSuspect", "(II)Z"⟩
abbrev cX2_against : ByteArray := prog_4_method_21_code
def yX2_against : MethodName := ⟨RX2, "against", "(II)I"⟩
abbrev cX2_isCandidate : ByteArray := prog_4_method_22_code
def yX2_isCandidate : MethodName := ⟨RX2, "isCandidate", "(II)Z"⟩
abbrev cX2_counts : ByteArray := prog_4_method_23_code
def yX2_counts : MethodName := ⟨RX2, "counts", "(III)I"⟩
abbrev cX2_candidatesOf : ByteArray := prog_4_method_24_code
def yX2_candidatesOf : MethodName := ⟨RX2, "candidatesOf", "(I)I"⟩
abbrev cX2_record : ByteArray := prog_4_method_25_code
def yX2_record : MethodName := ⟨RX2, "record", "(IIZ)I"⟩
abbrev cX2_triage : ByteArray := prog_4_method_26_code
def yX2_triage : MethodName := ⟨RX2, "triage", "(III)I"⟩
abbrev cX2_placeOf : ByteArray := prog_4_method_27_code
def yX2_placeOf : MethodName := ⟨RX2, "placeOf", "(I)I"⟩
abbrev cX2_leaves : ByteArray := prog_4_method_28_code
def yX2_leaves : MethodName := ⟨RX2, "leaves", "(I)V"⟩
abbrev cX2_joins : ByteArray := prog_4_method_29_code
def yX2_joins : MethodName := ⟨RX2, "joins", "(I)V"⟩
abbrev cX2_only : ByteArray := prog_4_method_30_code
def yX2_only : MethodName := ⟨RX2, "only", "(I)I"⟩
abbrev cX2_close : ByteArray := prog_4_method_31_code
def yX2_close : MethodName := ⟨RX2, "close", "(I)I"⟩
abbrev cX2_enqueue : ByteArray := prog_4_method_32_code
def yX2_enqueue : MethodName := ⟨RX2, "enqueue", "(I)I"⟩
abbrev cX2_newDay : ByteArray := prog_4_method_33_code
def yX2_newDay : MethodName := ⟨RX2, "newDay", "(I)I"⟩
abbrev cX2_take : ByteArray := prog_4_method_34_code
def yX2_take : MethodName := ⟨RX2, "take", "()I"⟩
abbrev cX2_commits : ByteArray := prog_4_method_35_code
def yX2_commits : MethodName := ⟨RX2, "commits", "()I"⟩
abbrev cX2_tests : ByteArray := prog_4_method_36_code
def yX2_tests : MethodName := ⟨RX2, "tests", "()I"⟩
abbrev cX2_budget : ByteArray := prog_4_method_37_code
def yX2_budget : MethodName := ⟨RX2, "budget", "()I"⟩
abbrev cX2_queued : ByteArray := prog_4_method_38_code
def yX2_queued : MethodName := ⟨RX2, "queued", "()I"⟩
abbrev cX2_partsOf : ByteArray := prog_4_method_39_code
def yX2_partsOf : MethodName := ⟨RX2, "partsOf", "(I)I"⟩
abbrev cX2_touches : ByteArray := prog_4_method_40_code
def yX2_touches : MethodName := ⟨RX2, "touches", "(I)I"⟩
abbrev cX2_runs : ByteArray := prog_4_method_41_code
def yX2_runs : MethodName := ⟨RX2, "runs", "(I)I"⟩
abbrev cX2_verdict : ByteArray := prog_4_method_42_code
def yX2_verdict : MethodName := ⟨RX2, "verdict", "(II)I"⟩
abbrev cX2_failing : ByteArray := prog_4_method_43_code
def yX2_failing : MethodName := ⟨RX2, "failing", "(I)I"⟩
abbrev cX2_isQuarantined : ByteArray := prog_4_method_44_code
def yX2_isQuarantined : MethodName := ⟨RX2, "isQuarantined", "(I)Z"⟩
abbrev cX2_broken : ByteArray := prog_4_method_45_code
def yX2_broken : MethodName := ⟨RX2, "broken", "(I)I"⟩
abbrev cX2_suspects : ByteArray := prog_4_method_46_code
def yX2_suspects : MethodName := ⟨RX2, "suspects", "(I)J"⟩
abbrev cX2_contradictions : ByteArray := prog_4_method_47_code
def yX2_contradictions : MethodName := ⟨RX2, "contradictions", "(II)I"⟩
abbrev cX2_candidates : ByteArray := prog_4_method_48_code
def yX2_candidates : MethodName := ⟨RX2, "candidates", "(I)J"⟩
abbrev cX2_likeliest : ByteArray := prog_4_method_49_code
def yX2_likeliest : MethodName := ⟨RX2, "likeliest", "(I)I"⟩
abbrev cX2_next : ByteArray := prog_4_method_50_code
def yX2_next : MethodName := ⟨RX2, "next", "(I)I"⟩
def RJ13 : String := "java/lang/Long"
def TJ13 : u_T := fun k => match k with
  | _ => ("", "", "", false)
def tyJ13 : Nat → FieldType := fun k => match k with
  | _ => .int
abbrev wsJ130 : List Cond := u_ws RJ13 TJ13 0
theorem nmJ13 : ∀ a, a < 0 → ∀ b, b < 0 → a ≠ b → (TJ13 a).2.1 ≠ (TJ13 b).2.1 := by decide +kernel
theorem tyJ13_ok : ∀ k, k < 0 → parseFieldDescriptor (TJ13 k).2.2.1 = some (tyJ13 k) := by decide +kernel
abbrev cJ13_bitCount_95d88 : ByteArray := prog_9_method_50_code
def yJ13_bitCount_95d88 : MethodName := ⟨RJ13, "bitCount", "(J)I"⟩
def RJ9 : String := "java/lang/Math"
def TJ9 : u_T := fun k => match k with
  | _ => ("", "", "", false)
def tyJ9 : Nat → FieldType := fun k => match k with
  | _ => .int
abbrev wsJ90 : List Cond := u_ws RJ9 TJ9 0
theorem nmJ9 : ∀ a, a < 0 → ∀ b, b < 0 → a ≠ b → (TJ9 a).2.1 ≠ (TJ9 b).2.1 := by decide +kernel
theorem tyJ9_ok : ∀ k, k < 0 → parseFieldDescriptor (TJ9 k).2.2.1 = some (tyJ9 k) := by decide +kernel
abbrev cJ9_max_7cf53 : ByteArray := prog_10_method_65_code
def yJ9_max_7cf53 : MethodName := ⟨RJ9, "max", "(II)I"⟩
def RJ0 : String := "java/lang/String"
def TJ0 : u_T := fun k => match k with
  | _ => ("", "", "", false)
def tyJ0 : Nat → FieldType := fun k => match k with
  | _ => .int
abbrev wsJ00 : List Cond := u_ws RJ0 TJ0 0
theorem nmJ0 : ∀ a, a < 0 → ∀ b, b < 0 → a ≠ b → (TJ0 a).2.1 ≠ (TJ0 b).2.1 := by decide +kernel
theorem tyJ0_ok : ∀ k, k < 0 → parseFieldDescriptor (TJ0 k).2.2.1 = some (tyJ0 k) := by decide +kernel
def RL : String := "FlakeTriageLaw"
abbrev cL_setUses : ByteArray := method_3_code
def yL_setUses : MethodName := ⟨RL, "setUses", "(LFlakeTriage;II[J)I"⟩
abbrev cL_addCommit : ByteArray := method_4_code
def yL_addCommit : MethodName := ⟨RL, "addCommit", "(LFlakeTriage;I[J)I"⟩
abbrev cL_addTest : ByteArray := method_5_code
def yL_addTest : MethodName := ⟨RL, "addTest", "(LFlakeTriage;I[J)I"⟩
abbrev cL_setQuarantine : ByteArray := method_6_code
def yL_setQuarantine : MethodName := ⟨RL, "setQuarantine", "(LFlakeTriage;II)I"⟩
abbrev cL_setNoise : ByteArray := method_7_code
def yL_setNoise : MethodName := ⟨RL, "setNoise", "(LFlakeTriage;I[J)I"⟩
abbrev cL_record : ByteArray := method_8_code
def yL_record : MethodName := ⟨RL, "record", "(LFlakeTriage;IIZ[J)I"⟩
abbrev cL_triage : ByteArray := method_9_code
def yL_triage : MethodName := ⟨RL, "triage", "(LFlakeTriage;III[J)I"⟩
abbrev cL_close : ByteArray := method_10_code
def yL_close : MethodName := ⟨RL, "close", "(LFlakeTriage;I[J)I"⟩
abbrev cL_enqueue : ByteArray := method_11_code
def yL_enqueue : MethodName := ⟨RL, "enqueue", "(LFlakeTriage;I[J)I"⟩
abbrev cL_newDay : ByteArray := method_12_code
def yL_newDay : MethodName := ⟨RL, "newDay", "(LFlakeTriage;I[J)I"⟩
abbrev cL_take : ByteArray := method_13_code
def yL_take : MethodName := ⟨RL, "take", "(LFlakeTriage;[J)I"⟩
abbrev cL_partsOf : ByteArray := method_14_code
def yL_partsOf : MethodName := ⟨RL, "partsOf", "(LFlakeTriage;I[J)I"⟩
abbrev cL_touches : ByteArray := method_15_code
def yL_touches : MethodName := ⟨RL, "touches", "(LFlakeTriage;I[J)I"⟩
abbrev cL_runs : ByteArray := method_16_code
def yL_runs : MethodName := ⟨RL, "runs", "(LFlakeTriage;I[J)I"⟩
abbrev cL_verdict : ByteArray := method_17_code
def yL_verdict : MethodName := ⟨RL, "verdict", "(LFlakeTriage;II[J)I"⟩
abbrev cL_failing : ByteArray := method_18_code
def yL_failing : MethodName := ⟨RL, "failing", "(LFlakeTriage;I[J)I"⟩
abbrev cL_isQuarantined : ByteArray := method_19_code
def yL_isQuarantined : MethodName := ⟨RL, "isQuarantined", "(LFlakeTriage;I[J)I"⟩
abbrev cL_broken : ByteArray := method_20_code
def yL_broken : MethodName := ⟨RL, "broken", "(LFlakeTriage;I[J)I"⟩
abbrev cL_suspects : ByteArray := method_21_code
def yL_suspects : MethodName := ⟨RL, "suspects", "(LFlakeTriage;I[J)I"⟩
abbrev cL_contradictions : ByteArray := method_22_code
def yL_contradictions : MethodName := ⟨RL, "contradictions", "(LFlakeTriage;II[J)I"⟩
abbrev cL_candidates : ByteArray := method_23_code
def yL_candidates : MethodName := ⟨RL, "candidates", "(LFlakeTriage;I[J)I"⟩
abbrev cL_likeliest : ByteArray := method_24_code
def yL_likeliest : MethodName := ⟨RL, "likeliest", "(LFlakeTriage;I[J)I"⟩
abbrev cL_next : ByteArray := method_25_code
def yL_next : MethodName := ⟨RL, "next", "(LFlakeTriage;I[J)I"⟩
abbrev cL_law : ByteArray := code
def yL_law : MethodName := ⟨RL, "law", "([I)Z"⟩
def wsX0_init : List Cond := .code yX0_init cX0_init 1 none :: ([.methodLink RX0 3 objectInit, .instanceMethod objectInit, .code objectInit ⟨#[0xb1]⟩ 1 none, .arrayClass .int, .fieldLink RX0 9 "FlakeTriage$RunLog" "count" "[I", .classLink RX0 15 "[[I", .fieldLink RX0 17 "FlakeTriage$RunLog" "commitOfRun" "[[I", .fieldLink RX0 20 "FlakeTriage$RunLog" "passedOfRun" "[[I", .fieldLink RX0 23 "FlakeTriage$RunLog" "passes" "[[I", .fieldLink RX0 26 "FlakeTriage$RunLog" "failures" "[[I"] ++ wsX00)
def wsX0_add : List Cond := .code yX0_add cX0_add 5 (some .boolean) :: ([.fieldLink RX0 9 "FlakeTriage$RunLog" "count" "[I", .fieldLink RX0 17 "FlakeTriage$RunLog" "commitOfRun" "[[I", .fieldLink RX0 20 "FlakeTriage$RunLog" "passedOfRun" "[[I", .fieldLink RX0 23 "FlakeTriage$RunLog" "passes" "[[I", .fieldLink RX0 26 "FlakeTriage$RunLog" "failures" "[[I"] ++ wsX00)
def wsX0_countOf : List Cond := .code yX0_countOf cX0_countOf 2 (some .int) :: ([.fieldLink RX0 9 "FlakeTriage$RunLog" "count" "[I"] ++ wsX00)
def wsX0_countAt : List Cond := .code yX0_countAt cX0_countAt 3 (some .int) :: ([.fieldLink RX0 23 "FlakeTriage$RunLog" "passes" "[[I", .fieldLink RX0 26 "FlakeTriage$RunLog" "failures" "[[I"] ++ wsX00)
def wsX0_failuresOf : List Cond := .code yX0_failuresOf cX0_failuresOf 4 (some .int) :: ([.fieldLink RX0 26 "FlakeTriage$RunLog" "failures" "[[I"] ++ wsX00)
def wsX0_verdictAt : List Cond := .code yX0_verdictAt cX0_verdictAt 3 (some .int) :: ([.fieldLink RX0 23 "FlakeTriage$RunLog" "passes" "[[I", .fieldLink RX0 26 "FlakeTriage$RunLog" "failures" "[[I"] ++ wsX00)
def wsX0_contradicting : List Cond := .code yX0_contradicting cX0_contradicting 11 (some .int) :: ([.fieldLink RX0 9 "FlakeTriage$RunLog" "count" "[I", .fieldLink RX0 17 "FlakeTriage$RunLog" "commitOfRun" "[[I", .fieldLink RX0 20 "FlakeTriage$RunLog" "passedOfRun" "[[I"] ++ wsX00)
def wsX0_passesWithin : List Cond := .code yX0_passesWithin cX0_passesWithin 6 (some .int) :: ([.fieldLink RX0 23 "FlakeTriage$RunLog" "passes" "[[I"] ++ wsX00)
def wsX0_riseBehind : List Cond := .code yX0_riseBehind cX0_riseBehind 3 (some .int) :: ([.fieldLink RX0 26 "FlakeTriage$RunLog" "failures" "[[I", .fieldLink RX0 23 "FlakeTriage$RunLog" "passes" "[[I"] ++ wsX00)
def wsX1_init_r1 : List Cond := [Cond.methodLink RX1 1 objectInit, Cond.instanceMethod objectInit, Cond.code objectInit ⟨#[0xb1]⟩ 1 none, Cond.arrayClass .int, Cond.fieldLink RX1 9 "FlakeTriage" "usedByPart" "[I", Cond.fieldLink RX1 13 "FlakeTriage" "changedBy" "[I", Cond.fieldLink RX1 16 "FlakeTriage" "usedByTest" "[I", Cond.classLink RX1 19 RX0, Cond.instantiable RX0 5, Cond.initialized RX0, Cond.fieldLink RX1 22 "FlakeTriage" "log" "LFlakeTriage$RunLog;", Cond.arrayClass .boolean, Cond.fieldLink RX1 26 "FlakeTriage" "inTriage" "[Z", Cond.fieldLink RX1 30 "FlakeTriage" "goodOf" "[I", Cond.fieldLink RX1 33 "FlakeTriage" "badOf" "[I", Cond.fieldLink RX1 36 "FlakeTriage" "placeOf" "[I", Cond.fieldLink RX1 39 "FlakeTriage" "queueLength" "I", Cond.fieldLink RX1 43 "FlakeTriage" "commitCount" "I", Cond.fieldLink RX1 46 "FlakeTriage" "testCount" "I", Cond.fieldLink RX1 49 "FlakeTriage" "limit" "I", Cond.fieldLink RX1 52 "FlakeTriage" "window" "I", Cond.fieldLink RX1 55 "FlakeTriage" "noise" "I", Cond.fieldLink RX1 58 "FlakeTriage" "budgetLeft" "I", Cond.instanceMethod yX0_init]
def wsX1_init_r2 : List Cond := [Cond.code yX0_init cX0_init 1 none, Cond.methodLink RX0 3 objectInit, Cond.fieldLink RX0 9 "FlakeTriage$RunLog" "count" "[I", Cond.classLink RX0 15 "[[I", Cond.fieldLink RX0 17 "FlakeTriage$RunLog" "commitOfRun" "[[I", Cond.fieldLink RX0 20 "FlakeTriage$RunLog" "passedOfRun" "[[I", Cond.fieldLink RX0 23 "FlakeTriage$RunLog" "passes" "[[I", Cond.fieldLink RX0 26 "FlakeTriage$RunLog" "failures" "[[I"]
def wsX1_init : List Cond := .code yX1_init cX1_init 1 none :: ((wsX1_init_r1 ++ wsX1_init_r2) ++ wsX10 ++ wsX00)
def wsX1_needParts : List Cond := .code yX1_needParts cX1_needParts 1 none :: ([.classLink RX1 79 "java/lang/IllegalArgumentException", .initialized "java/lang/IllegalArgumentException", .constant RX1 172 (65535)] ++ (vx_atS RX1 83 "java/lang/IllegalArgumentException" ["java/lang/RuntimeException", "java/lang/Exception"]).filter goodWord)
def wsX1_setUses : List Cond := .code yX1_setUses cX1_setUses 4 (some .int) :: ([.classLink RX1 61 "java/lang/IndexOutOfBoundsException", .initialized "java/lang/IndexOutOfBoundsException", .fieldLink RX1 9 "FlakeTriage" "usedByPart" "[I", .methodLink RX1 68 yX1_needParts, .static yX1_needParts, .initialized RX1, .code yX1_needParts cX1_needParts 1 none, .classLink RX1 79 "java/lang/IllegalArgumentException", .initialized "java/lang/IllegalArgumentException", .constant RX1 172 (65535)] ++ wsX10 ++ (vx_atS RX1 65 "java/lang/IndexOutOfBoundsException" ["java/lang/RuntimeException", "java/lang/Exception"]).filter goodWord ++ (vx_atS RX1 83 "java/lang/IllegalArgumentException" ["java/lang/RuntimeException", "java/lang/Exception"]).filter goodWord)
def wsX1_addCommit : List Cond := .code yX1_addCommit cX1_addCommit 3 (some .int) :: ([.classLink RX1 72 "java/lang/IllegalStateException", .initialized "java/lang/IllegalStateException", .fieldLink RX1 43 "FlakeTriage" "commitCount" "I", .fieldLink RX1 13 "FlakeTriage" "changedBy" "[I", .methodLink RX1 68 yX1_needParts, .static yX1_needParts, .initialized RX1, .code yX1_needParts cX1_needParts 1 none, .classLink RX1 79 "java/lang/IllegalArgumentException", .initialized "java/lang/IllegalArgumentException", .constant RX1 172 (65535)] ++ wsX10 ++ (vx_atS RX1 76 "java/lang/IllegalStateException" ["java/lang/RuntimeException", "java/lang/Exception"]).filter goodWord ++ (vx_atS RX1 83 "java/lang/IllegalArgumentException" ["java/lang/RuntimeException", "java/lang/Exception"]).filter goodWord)
def wsX1_addTest : List Cond := .code yX1_addTest cX1_addTest 3 (some .int) :: ([.classLink RX1 72 "java/lang/IllegalStateException", .initialized "java/lang/IllegalStateException", .fieldLink RX1 46 "FlakeTriage" "testCount" "I", .fieldLink RX1 16 "FlakeTriage" "usedByTest" "[I", .methodLink RX1 68 yX1_needParts, .static yX1_needParts, .initialized RX1, .code yX1_needParts cX1_needParts 1 none, .classLink RX1 79 "java/lang/IllegalArgumentException", .initialized "java/lang/IllegalArgumentException", .constant RX1 172 (65535)] ++ wsX10 ++ (vx_atS RX1 76 "java/lang/IllegalStateException" ["java/lang/RuntimeException", "java/lang/Exception"]).filter goodWord ++ (vx_atS RX1 83 "java/lang/IllegalArgumentException" ["java/lang/RuntimeException", "java/lang/Exception"]).filter goodWord)
def wsX1_setQuarantine : List Cond := .code yX1_setQuarantine cX1_setQuarantine 3 none :: ([.classLink RX1 79 "java/lang/IllegalArgumentException", .initialized "java/lang/IllegalArgumentException", .fieldLink RX1 49 "FlakeTriage" "limit" "I", .fieldLink RX1 52 "FlakeTriage" "window" "I"] ++ wsX10 ++ (vx_atS RX1 83 "java/lang/IllegalArgumentException" ["java/lang/RuntimeException", "java/lang/Exception"]).filter goodWord)
def wsX1_setNoise : List Cond := .code yX1_setNoise cX1_setNoise 3 (some .int) :: ([.classLink RX1 79 "java/lang/IllegalArgumentException", .initialized "java/lang/IllegalArgumentException", .fieldLink RX1 55 "FlakeTriage" "noise" "I"] ++ wsX10 ++ (vx_atS RX1 83 "java/lang/IllegalArgumentException" ["java/lang/RuntimeException", "java/lang/Exception"]).filter goodWord)
def wsX1_needTest : List Cond := .code yX1_needTest cX1_needTest 2 none :: ([.classLink RX1 61 "java/lang/IndexOutOfBoundsException", .initialized "java/lang/IndexOutOfBoundsException", .fieldLink RX1 46 "FlakeTriage" "testCount" "I"] ++ wsX10 ++ (vx_atS RX1 65 "java/lang/IndexOutOfBoundsException" ["java/lang/RuntimeException", "java/lang/Exception"]).filter goodWord)
def wsX1_needCommit : List Cond := .code yX1_needCommit cX1_needCommit 2 none :: ([.classLink RX1 61 "java/lang/IndexOutOfBoundsException", .initialized "java/lang/IndexOutOfBoundsException", .fieldLink RX1 43 "FlakeTriage" "commitCount" "I"] ++ wsX10 ++ (vx_atS RX1 65 "java/lang/IndexOutOfBoundsException" ["java/lang/RuntimeException", "java/lang/Exception"]).filter goodWord)
def wsX1_record_r1 : List Cond := [Cond.classLink RX1 72 "java/lang/IllegalStateException", Cond.initialized "java/lang/IllegalStateException", Cond.fieldLink RX1 22 "FlakeTriage" "log" "LFlakeTriage$RunLog;", Cond.methodLink RX1 88 yX1_needTest, Cond.instanceMethod yX1_needTest, Cond.selects RX1 yX1_needTest yX1_needTest, Cond.initialized RX1, Cond.code yX1_needTest cX1_needTest 2 none, Cond.classLink RX1 61 "java/lang/IndexOutOfBoundsException", Cond.initialized "java/lang/IndexOutOfBoundsException", Cond.fieldLink RX1 46 "FlakeTriage" "testCount" "I", Cond.methodLink RX1 91 yX1_needCommit, Cond.instanceMethod yX1_needCommit, Cond.selects RX1 yX1_needCommit yX1_needCommit, Cond.code yX1_needCommit cX1_needCommit 2 none, Cond.fieldLink RX1 43 "FlakeTriage" "commitCount" "I", Cond.methodLink RX1 94 yX0_add, Cond.instanceMethod yX0_add, Cond.selects RX0 yX0_add yX0_add, Cond.initialized RX0, Cond.code yX0_add cX0_add 5 (some .boolean), Cond.fieldLink RX0 9 "FlakeTriage$RunLog" "count" "[I", Cond.fieldLink RX0 17 "FlakeTriage$RunLog" "commitOfRun" "[[I", Cond.fieldLink RX0 20 "FlakeTriage$RunLog" "passedOfRun" "[[I"]
def wsX1_record_r2 : List Cond := [Cond.fieldLink RX0 23 "FlakeTriage$RunLog" "passes" "[[I", Cond.fieldLink RX0 26 "FlakeTriage$RunLog" "failures" "[[I", Cond.methodLink RX1 100 yX0_verdictAt, Cond.instanceMethod yX0_verdictAt, Cond.selects RX0 yX0_verdictAt yX0_verdictAt, Cond.code yX0_verdictAt cX0_verdictAt 3 (some .int)]
def wsX1_record : List Cond := .code yX1_record cX1_record 4 (some .int) :: ((wsX1_record_r1 ++ wsX1_record_r2) ++ wsX10 ++ wsX00 ++ (vx_atS RX1 76 "java/lang/IllegalStateException" ["java/lang/RuntimeException", "java/lang/Exception"]).filter goodWord ++ (vx_atS RX1 65 "java/lang/IndexOutOfBoundsException" ["java/lang/RuntimeException", "java/lang/Exception"]).filter goodWord)
def wsX1_has : List Cond := .code yX1_has cX1_has 3 (some .boolean) :: ([])
def wsX1_allPartsOf : List Cond := .code yX1_allPartsOf cX1_allPartsOf 6 (some .int) :: ([.fieldLink RX1 16 "FlakeTriage" "usedByTest" "[I", .fieldLink RX1 9 "FlakeTriage" "usedByPart" "[I", .methodLink RX1 157 yX1_has, .static yX1_has, .initialized RX1, .code yX1_has cX1_has 3 (some .boolean)] ++ wsX10)
def wsX1_suspectsOf : List Cond := .code yX1_suspectsOf cX1_suspectsOf 6 (some .long) :: ([.fieldLink RX1 30 "FlakeTriage" "goodOf" "[I", .fieldLink RX1 33 "FlakeTriage" "badOf" "[I", .fieldLink RX1 13 "FlakeTriage" "changedBy" "[I", .methodLink RX1 141 yX1_allPartsOf, .instanceMethod yX1_allPartsOf, .selects RX1 yX1_allPartsOf yX1_allPartsOf, .initialized RX1, .code yX1_allPartsOf cX1_allPartsOf 6 (some .int), .fieldLink RX1 16 "FlakeTriage" "usedByTest" "[I", .fieldLink RX1 9 "FlakeTriage" "usedByPart" "[I", .methodLink RX1 157 yX1_has, .static yX1_has, .code yX1_has cX1_has 3 (some .boolean)] ++ wsX10)
def wsX1_candidatesOf_r1 : List Cond := [Cond.fieldLink RX1 30 "FlakeTriage" "goodOf" "[I", Cond.fieldLink RX1 33 "FlakeTriage" "badOf" "[I", Cond.fieldLink RX1 22 "FlakeTriage" "log" "LFlakeTriage$RunLog;", Cond.fieldLink RX1 55 "FlakeTriage" "noise" "I", Cond.methodLink RX1 154 yX1_suspectsOf, Cond.instanceMethod yX1_suspectsOf, Cond.selects RX1 yX1_suspectsOf yX1_suspectsOf, Cond.initialized RX1, Cond.code yX1_suspectsOf cX1_suspectsOf 6 (some .long), Cond.fieldLink RX1 13 "FlakeTriage" "changedBy" "[I", Cond.methodLink RX1 141 yX1_allPartsOf, Cond.instanceMethod yX1_allPartsOf, Cond.selects RX1 yX1_allPartsOf yX1_allPartsOf, Cond.code yX1_allPartsOf cX1_allPartsOf 6 (some .int), Cond.fieldLink RX1 16 "FlakeTriage" "usedByTest" "[I", Cond.fieldLink RX1 9 "FlakeTriage" "usedByPart" "[I", Cond.methodLink RX1 157 yX1_has, Cond.static yX1_has, Cond.code yX1_has cX1_has 3 (some .boolean), Cond.methodLink RX1 186 yX0_passesWithin, Cond.instanceMethod yX0_passesWithin, Cond.selects RX0 yX0_passesWithin yX0_passesWithin, Cond.initialized RX0, Cond.code yX0_passesWithin cX0_passesWithin 6 (some .int)]
def wsX1_candidatesOf_r2 : List Cond := [Cond.fieldLink RX0 23 "FlakeTriage$RunLog" "passes" "[[I", Cond.methodLink RX1 190 yX0_riseBehind, Cond.instanceMethod yX0_riseBehind, Cond.selects RX0 yX0_riseBehind yX0_riseBehind, Cond.code yX0_riseBehind cX0_riseBehind 3 (some .int), Cond.fieldLink RX0 26 "FlakeTriage$RunLog" "failures" "[[I"]
def wsX1_candidatesOf : List Cond := .code yX1_candidatesOf cX1_candidatesOf 10 (some .long) :: ((wsX1_candidatesOf_r1 ++ wsX1_candidatesOf_r2) ++ wsX10 ++ wsX00)
def wsJ13_bitCount_95d88 : List Cond := .code yJ13_bitCount_95d88 cJ13_bitCount_95d88 2 (some .int) :: ([.constantLong RJ13 314 (6148914691236517205), .constantLong RJ13 316 (3689348814741910323), .constantLong RJ13 318 (1085102592571150095)])
def wsX1_triage_r1 : List Cond := [Cond.classLink RX1 79 "java/lang/IllegalArgumentException", Cond.initialized "java/lang/IllegalArgumentException", Cond.fieldLink RX1 26 "FlakeTriage" "inTriage" "[Z", Cond.fieldLink RX1 30 "FlakeTriage" "goodOf" "[I", Cond.fieldLink RX1 33 "FlakeTriage" "badOf" "[I", Cond.methodLink RX1 88 yX1_needTest, Cond.instanceMethod yX1_needTest, Cond.selects RX1 yX1_needTest yX1_needTest, Cond.initialized RX1, Cond.code yX1_needTest cX1_needTest 2 none, Cond.classLink RX1 61 "java/lang/IndexOutOfBoundsException", Cond.initialized "java/lang/IndexOutOfBoundsException", Cond.fieldLink RX1 46 "FlakeTriage" "testCount" "I", Cond.methodLink RX1 91 yX1_needCommit, Cond.instanceMethod yX1_needCommit, Cond.selects RX1 yX1_needCommit yX1_needCommit, Cond.code yX1_needCommit cX1_needCommit 2 none, Cond.fieldLink RX1 43 "FlakeTriage" "commitCount" "I", Cond.methodLink RX1 106 yX1_candidatesOf, Cond.instanceMethod yX1_candidatesOf, Cond.selects RX1 yX1_candidatesOf yX1_candidatesOf, Cond.code yX1_candidatesOf cX1_candidatesOf 10 (some .long), Cond.fieldLink RX1 22 "FlakeTriage" "log" "LFlakeTriage$RunLog;", Cond.fieldLink RX1 55 "FlakeTriage" "noise" "I"]
def wsX1_triage_r2 : List Cond := [Cond.methodLink RX1 154 yX1_suspectsOf, Cond.instanceMethod yX1_suspectsOf, Cond.selects RX1 yX1_suspectsOf yX1_suspectsOf, Cond.code yX1_suspectsOf cX1_suspectsOf 6 (some .long), Cond.fieldLink RX1 13 "FlakeTriage" "changedBy" "[I", Cond.methodLink RX1 141 yX1_allPartsOf, Cond.instanceMethod yX1_allPartsOf, Cond.selects RX1 yX1_allPartsOf yX1_allPartsOf, Cond.code yX1_allPartsOf cX1_allPartsOf 6 (some .int), Cond.fieldLink RX1 16 "FlakeTriage" "usedByTest" "[I", Cond.fieldLink RX1 9 "FlakeTriage" "usedByPart" "[I", Cond.methodLink RX1 157 yX1_has, Cond.static yX1_has, Cond.code yX1_has cX1_has 3 (some .boolean), Cond.methodLink RX1 186 yX0_passesWithin, Cond.instanceMethod yX0_passesWithin, Cond.selects RX0 yX0_passesWithin yX0_passesWithin, Cond.initialized RX0, Cond.code yX0_passesWithin cX0_passesWithin 6 (some .int), Cond.fieldLink RX0 23 "FlakeTriage$RunLog" "passes" "[[I", Cond.methodLink RX1 190 yX0_riseBehind, Cond.instanceMethod yX0_riseBehind, Cond.selects RX0 yX0_riseBehind yX0_riseBehind, Cond.code yX0_riseBehind cX0_riseBehind 3 (some .int)]
def wsX1_triage_r3 : List Cond := [Cond.fieldLink RX0 26 "FlakeTriage$RunLog" "failures" "[[I", Cond.methodLink RX1 110 yJ13_bitCount_95d88, Cond.static yJ13_bitCount_95d88, Cond.initialized RJ13, Cond.code yJ13_bitCount_95d88 cJ13_bitCount_95d88 2 (some .int), Cond.constantLong RJ13 314 (6148914691236517205), Cond.constantLong RJ13 316 (3689348814741910323), Cond.constantLong RJ13 318 (1085102592571150095)]
def wsX1_triage : List Cond := .code yX1_triage cX1_triage 4 (some .int) :: ((wsX1_triage_r1 ++ (wsX1_triage_r2 ++ wsX1_triage_r3)) ++ wsX10 ++ wsX00 ++ (vx_atS RX1 83 "java/lang/IllegalArgumentException" ["java/lang/RuntimeException", "java/lang/Exception"]).filter goodWord ++ (vx_atS RX1 65 "java/lang/IndexOutOfBoundsException" ["java/lang/RuntimeException", "java/lang/Exception"]).filter goodWord)
def wsX1_needTriage : List Cond := .code yX1_needTriage cX1_needTriage 2 none :: ([.classLink RX1 72 "java/lang/IllegalStateException", .initialized "java/lang/IllegalStateException", .fieldLink RX1 26 "FlakeTriage" "inTriage" "[Z"] ++ wsX10 ++ (vx_atS RX1 76 "java/lang/IllegalStateException" ["java/lang/RuntimeException", "java/lang/Exception"]).filter goodWord)
def wsX1_likeliestOf_r1 : List Cond := [Cond.fieldLink RX1 30 "FlakeTriage" "goodOf" "[I", Cond.fieldLink RX1 33 "FlakeTriage" "badOf" "[I", Cond.fieldLink RX1 22 "FlakeTriage" "log" "LFlakeTriage$RunLog;", Cond.methodLink RX1 154 yX1_suspectsOf, Cond.instanceMethod yX1_suspectsOf, Cond.selects RX1 yX1_suspectsOf yX1_suspectsOf, Cond.initialized RX1, Cond.code yX1_suspectsOf cX1_suspectsOf 6 (some .long), Cond.fieldLink RX1 13 "FlakeTriage" "changedBy" "[I", Cond.methodLink RX1 141 yX1_allPartsOf, Cond.instanceMethod yX1_allPartsOf, Cond.selects RX1 yX1_allPartsOf yX1_allPartsOf, Cond.code yX1_allPartsOf cX1_allPartsOf 6 (some .int), Cond.fieldLink RX1 16 "FlakeTriage" "usedByTest" "[I", Cond.fieldLink RX1 9 "FlakeTriage" "usedByPart" "[I", Cond.methodLink RX1 157 yX1_has, Cond.static yX1_has, Cond.code yX1_has cX1_has 3 (some .boolean), Cond.methodLink RX1 186 yX0_passesWithin, Cond.instanceMethod yX0_passesWithin, Cond.selects RX0 yX0_passesWithin yX0_passesWithin, Cond.initialized RX0, Cond.code yX0_passesWithin cX0_passesWithin 6 (some .int), Cond.fieldLink RX0 23 "FlakeTriage$RunLog" "passes" "[[I"]
def wsX1_likeliestOf_r2 : List Cond := [Cond.methodLink RX1 190 yX0_riseBehind, Cond.instanceMethod yX0_riseBehind, Cond.selects RX0 yX0_riseBehind yX0_riseBehind, Cond.code yX0_riseBehind cX0_riseBehind 3 (some .int), Cond.fieldLink RX0 26 "FlakeTriage$RunLog" "failures" "[[I"]
def wsX1_likeliestOf : List Cond := .code yX1_likeliestOf cX1_likeliestOf 10 (some .int) :: ((wsX1_likeliestOf_r1 ++ wsX1_likeliestOf_r2) ++ wsX10 ++ wsX00)
def wsX1_leaveQueue : List Cond := .code yX1_leaveQueue cX1_leaveQueue 4 none :: ([.fieldLink RX1 36 "FlakeTriage" "placeOf" "[I", .fieldLink RX1 46 "FlakeTriage" "testCount" "I", .fieldLink RX1 39 "FlakeTriage" "queueLength" "I"] ++ wsX10)
def wsX1_close_r1 : List Cond := [Cond.fieldLink RX1 26 "FlakeTriage" "inTriage" "[Z", Cond.methodLink RX1 88 yX1_needTest, Cond.instanceMethod yX1_needTest, Cond.selects RX1 yX1_needTest yX1_needTest, Cond.initialized RX1, Cond.code yX1_needTest cX1_needTest 2 none, Cond.classLink RX1 61 "java/lang/IndexOutOfBoundsException", Cond.initialized "java/lang/IndexOutOfBoundsException", Cond.fieldLink RX1 46 "FlakeTriage" "testCount" "I", Cond.methodLink RX1 116 yX1_needTriage, Cond.instanceMethod yX1_needTriage, Cond.selects RX1 yX1_needTriage yX1_needTriage, Cond.code yX1_needTriage cX1_needTriage 2 none, Cond.classLink RX1 72 "java/lang/IllegalStateException", Cond.initialized "java/lang/IllegalStateException", Cond.methodLink RX1 106 yX1_candidatesOf, Cond.instanceMethod yX1_candidatesOf, Cond.selects RX1 yX1_candidatesOf yX1_candidatesOf, Cond.code yX1_candidatesOf cX1_candidatesOf 10 (some .long), Cond.fieldLink RX1 30 "FlakeTriage" "goodOf" "[I", Cond.fieldLink RX1 33 "FlakeTriage" "badOf" "[I", Cond.fieldLink RX1 22 "FlakeTriage" "log" "LFlakeTriage$RunLog;", Cond.fieldLink RX1 55 "FlakeTriage" "noise" "I", Cond.methodLink RX1 154 yX1_suspectsOf]
def wsX1_close_r2 : List Cond := [Cond.instanceMethod yX1_suspectsOf, Cond.selects RX1 yX1_suspectsOf yX1_suspectsOf, Cond.code yX1_suspectsOf cX1_suspectsOf 6 (some .long), Cond.fieldLink RX1 13 "FlakeTriage" "changedBy" "[I", Cond.methodLink RX1 141 yX1_allPartsOf, Cond.instanceMethod yX1_allPartsOf, Cond.selects RX1 yX1_allPartsOf yX1_allPartsOf, Cond.code yX1_allPartsOf cX1_allPartsOf 6 (some .int), Cond.fieldLink RX1 16 "FlakeTriage" "usedByTest" "[I", Cond.fieldLink RX1 9 "FlakeTriage" "usedByPart" "[I", Cond.methodLink RX1 157 yX1_has, Cond.static yX1_has, Cond.code yX1_has cX1_has 3 (some .boolean), Cond.methodLink RX1 186 yX0_passesWithin, Cond.instanceMethod yX0_passesWithin, Cond.selects RX0 yX0_passesWithin yX0_passesWithin, Cond.initialized RX0, Cond.code yX0_passesWithin cX0_passesWithin 6 (some .int), Cond.fieldLink RX0 23 "FlakeTriage$RunLog" "passes" "[[I", Cond.methodLink RX1 190 yX0_riseBehind, Cond.instanceMethod yX0_riseBehind, Cond.selects RX0 yX0_riseBehind yX0_riseBehind, Cond.code yX0_riseBehind cX0_riseBehind 3 (some .int), Cond.fieldLink RX0 26 "FlakeTriage$RunLog" "failures" "[[I"]
def wsX1_close_r3 : List Cond := [Cond.methodLink RX1 110 yJ13_bitCount_95d88, Cond.static yJ13_bitCount_95d88, Cond.initialized RJ13, Cond.code yJ13_bitCount_95d88 cJ13_bitCount_95d88 2 (some .int), Cond.constantLong RJ13 314 (6148914691236517205), Cond.constantLong RJ13 316 (3689348814741910323), Cond.constantLong RJ13 318 (1085102592571150095), Cond.methodLink RX1 119 yX1_likeliestOf, Cond.instanceMethod yX1_likeliestOf, Cond.selects RX1 yX1_likeliestOf yX1_likeliestOf, Cond.code yX1_likeliestOf cX1_likeliestOf 10 (some .int), Cond.methodLink RX1 123 yX1_leaveQueue, Cond.instanceMethod yX1_leaveQueue, Cond.selects RX1 yX1_leaveQueue yX1_leaveQueue, Cond.code yX1_leaveQueue cX1_leaveQueue 4 none, Cond.fieldLink RX1 36 "FlakeTriage" "placeOf" "[I", Cond.fieldLink RX1 39 "FlakeTriage" "queueLength" "I"]
def wsX1_close : List Cond := .code yX1_close cX1_close 3 (some .int) :: ((wsX1_close_r1 ++ (wsX1_close_r2 ++ wsX1_close_r3)) ++ wsX10 ++ wsX00 ++ (vx_atS RX1 65 "java/lang/IndexOutOfBoundsException" ["java/lang/RuntimeException", "java/lang/Exception"]).filter goodWord ++ (vx_atS RX1 76 "java/lang/IllegalStateException" ["java/lang/RuntimeException", "java/lang/Exception"]).filter goodWord)
def wsX1_joinQueue : List Cond := .code yX1_joinQueue cX1_joinQueue 2 none :: ([.fieldLink RX1 39 "FlakeTriage" "queueLength" "I", .fieldLink RX1 36 "FlakeTriage" "placeOf" "[I"] ++ wsX10)
def wsX1_enqueue : List Cond := .code yX1_enqueue cX1_enqueue 2 (some .int) :: ([.classLink RX1 72 "java/lang/IllegalStateException", .initialized "java/lang/IllegalStateException", .fieldLink RX1 36 "FlakeTriage" "placeOf" "[I", .fieldLink RX1 39 "FlakeTriage" "queueLength" "I", .methodLink RX1 88 yX1_needTest, .instanceMethod yX1_needTest, .selects RX1 yX1_needTest yX1_needTest, .initialized RX1, .code yX1_needTest cX1_needTest 2 none, .classLink RX1 61 "java/lang/IndexOutOfBoundsException", .initialized "java/lang/IndexOutOfBoundsException", .fieldLink RX1 46 "FlakeTriage" "testCount" "I", .methodLink RX1 116 yX1_needTriage, .instanceMethod yX1_needTriage, .selects RX1 yX1_needTriage yX1_needTriage, .code yX1_needTriage cX1_needTriage 2 none, .fieldLink RX1 26 "FlakeTriage" "inTriage" "[Z", .methodLink RX1 128 yX1_joinQueue, .instanceMethod yX1_joinQueue, .selects RX1 yX1_joinQueue yX1_joinQueue, .code yX1_joinQueue cX1_joinQueue 2 none] ++ wsX10 ++ (vx_atS RX1 76 "java/lang/IllegalStateException" ["java/lang/RuntimeException", "java/lang/Exception"]).filter goodWord ++ (vx_atS RX1 65 "java/lang/IndexOutOfBoundsException" ["java/lang/RuntimeException", "java/lang/Exception"]).filter goodWord)
def wsX1_newDay : List Cond := .code yX1_newDay cX1_newDay 3 (some .int) :: ([.classLink RX1 79 "java/lang/IllegalArgumentException", .initialized "java/lang/IllegalArgumentException", .fieldLink RX1 58 "FlakeTriage" "budgetLeft" "I"] ++ wsX10 ++ (vx_atS RX1 83 "java/lang/IllegalArgumentException" ["java/lang/RuntimeException", "java/lang/Exception"]).filter goodWord)
def wsX1_firstInQueue : List Cond := .code yX1_firstInQueue cX1_firstInQueue 2 (some .int) :: ([.fieldLink RX1 46 "FlakeTriage" "testCount" "I", .fieldLink RX1 36 "FlakeTriage" "placeOf" "[I"] ++ wsX10)
def wsX1_take_r1 : List Cond := [Cond.classLink RX1 72 "java/lang/IllegalStateException", Cond.initialized "java/lang/IllegalStateException", Cond.fieldLink RX1 58 "FlakeTriage" "budgetLeft" "I", Cond.methodLink RX1 133 yX1_firstInQueue, Cond.instanceMethod yX1_firstInQueue, Cond.selects RX1 yX1_firstInQueue yX1_firstInQueue, Cond.initialized RX1, Cond.code yX1_firstInQueue cX1_firstInQueue 2 (some .int), Cond.fieldLink RX1 46 "FlakeTriage" "testCount" "I", Cond.fieldLink RX1 36 "FlakeTriage" "placeOf" "[I", Cond.methodLink RX1 123 yX1_leaveQueue, Cond.instanceMethod yX1_leaveQueue, Cond.selects RX1 yX1_leaveQueue yX1_leaveQueue, Cond.code yX1_leaveQueue cX1_leaveQueue 4 none, Cond.fieldLink RX1 39 "FlakeTriage" "queueLength" "I", Cond.methodLink RX1 106 yX1_candidatesOf, Cond.instanceMethod yX1_candidatesOf, Cond.selects RX1 yX1_candidatesOf yX1_candidatesOf, Cond.code yX1_candidatesOf cX1_candidatesOf 10 (some .long), Cond.fieldLink RX1 30 "FlakeTriage" "goodOf" "[I", Cond.fieldLink RX1 33 "FlakeTriage" "badOf" "[I", Cond.fieldLink RX1 22 "FlakeTriage" "log" "LFlakeTriage$RunLog;", Cond.fieldLink RX1 55 "FlakeTriage" "noise" "I", Cond.methodLink RX1 154 yX1_suspectsOf]
def wsX1_take_r2 : List Cond := [Cond.instanceMethod yX1_suspectsOf, Cond.selects RX1 yX1_suspectsOf yX1_suspectsOf, Cond.code yX1_suspectsOf cX1_suspectsOf 6 (some .long), Cond.fieldLink RX1 13 "FlakeTriage" "changedBy" "[I", Cond.methodLink RX1 141 yX1_allPartsOf, Cond.instanceMethod yX1_allPartsOf, Cond.selects RX1 yX1_allPartsOf yX1_allPartsOf, Cond.code yX1_allPartsOf cX1_allPartsOf 6 (some .int), Cond.fieldLink RX1 16 "FlakeTriage" "usedByTest" "[I", Cond.fieldLink RX1 9 "FlakeTriage" "usedByPart" "[I", Cond.methodLink RX1 157 yX1_has, Cond.static yX1_has, Cond.code yX1_has cX1_has 3 (some .boolean), Cond.methodLink RX1 186 yX0_passesWithin, Cond.instanceMethod yX0_passesWithin, Cond.selects RX0 yX0_passesWithin yX0_passesWithin, Cond.initialized RX0, Cond.code yX0_passesWithin cX0_passesWithin 6 (some .int), Cond.fieldLink RX0 23 "FlakeTriage$RunLog" "passes" "[[I", Cond.methodLink RX1 190 yX0_riseBehind, Cond.instanceMethod yX0_riseBehind, Cond.selects RX0 yX0_riseBehind yX0_riseBehind, Cond.code yX0_riseBehind cX0_riseBehind 3 (some .int), Cond.fieldLink RX0 26 "FlakeTriage$RunLog" "failures" "[[I"]
def wsX1_take_r3 : List Cond := [Cond.methodLink RX1 110 yJ13_bitCount_95d88, Cond.static yJ13_bitCount_95d88, Cond.initialized RJ13, Cond.code yJ13_bitCount_95d88 cJ13_bitCount_95d88 2 (some .int), Cond.constantLong RJ13 314 (6148914691236517205), Cond.constantLong RJ13 316 (3689348814741910323), Cond.constantLong RJ13 318 (1085102592571150095), Cond.methodLink RX1 128 yX1_joinQueue, Cond.instanceMethod yX1_joinQueue, Cond.selects RX1 yX1_joinQueue yX1_joinQueue, Cond.code yX1_joinQueue cX1_joinQueue 2 none]
def wsX1_take : List Cond := .code yX1_take cX1_take 2 (some .int) :: ((wsX1_take_r1 ++ (wsX1_take_r2 ++ wsX1_take_r3)) ++ wsX10 ++ wsX00 ++ (vx_atS RX1 76 "java/lang/IllegalStateException" ["java/lang/RuntimeException", "java/lang/Exception"]).filter goodWord)
def wsX1_commits : List Cond := .code yX1_commits cX1_commits 1 (some .int) :: ([.fieldLink RX1 43 "FlakeTriage" "commitCount" "I"] ++ wsX10)
def wsX1_tests : List Cond := .code yX1_tests cX1_tests 1 (some .int) :: ([.fieldLink RX1 46 "FlakeTriage" "testCount" "I"] ++ wsX10)
def wsX1_budget : List Cond := .code yX1_budget cX1_budget 1 (some .int) :: ([.fieldLink RX1 58 "FlakeTriage" "budgetLeft" "I"] ++ wsX10)
def wsX1_queued : List Cond := .code yX1_queued cX1_queued 1 (some .int) :: ([.fieldLink RX1 39 "FlakeTriage" "queueLength" "I"] ++ wsX10)
def wsX1_partsOf : List Cond := .code yX1_partsOf cX1_partsOf 2 (some .int) :: ([.methodLink RX1 88 yX1_needTest, .instanceMethod yX1_needTest, .selects RX1 yX1_needTest yX1_needTest, .initialized RX1, .code yX1_needTest cX1_needTest 2 none, .classLink RX1 61 "java/lang/IndexOutOfBoundsException", .initialized "java/lang/IndexOutOfBoundsException", .fieldLink RX1 46 "FlakeTriage" "testCount" "I", .methodLink RX1 141 yX1_allPartsOf, .instanceMethod yX1_allPartsOf, .selects RX1 yX1_allPartsOf yX1_allPartsOf, .code yX1_allPartsOf cX1_allPartsOf 6 (some .int), .fieldLink RX1 16 "FlakeTriage" "usedByTest" "[I", .fieldLink RX1 9 "FlakeTriage" "usedByPart" "[I", .methodLink RX1 157 yX1_has, .static yX1_has, .code yX1_has cX1_has 3 (some .boolean)] ++ wsX10 ++ (vx_atS RX1 65 "java/lang/IndexOutOfBoundsException" ["java/lang/RuntimeException", "java/lang/Exception"]).filter goodWord)
def wsX1_touches : List Cond := .code yX1_touches cX1_touches 4 (some .int) :: ([.fieldLink RX1 46 "FlakeTriage" "testCount" "I", .fieldLink RX1 13 "FlakeTriage" "changedBy" "[I", .methodLink RX1 91 yX1_needCommit, .instanceMethod yX1_needCommit, .selects RX1 yX1_needCommit yX1_needCommit, .initialized RX1, .code yX1_needCommit cX1_needCommit 2 none, .classLink RX1 61 "java/lang/IndexOutOfBoundsException", .initialized "java/lang/IndexOutOfBoundsException", .fieldLink RX1 43 "FlakeTriage" "commitCount" "I", .methodLink RX1 141 yX1_allPartsOf, .instanceMethod yX1_allPartsOf, .selects RX1 yX1_allPartsOf yX1_allPartsOf, .code yX1_allPartsOf cX1_allPartsOf 6 (some .int), .fieldLink RX1 16 "FlakeTriage" "usedByTest" "[I", .fieldLink RX1 9 "FlakeTriage" "usedByPart" "[I", .methodLink RX1 157 yX1_has, .static yX1_has, .code yX1_has cX1_has 3 (some .boolean)] ++ wsX10 ++ (vx_atS RX1 65 "java/lang/IndexOutOfBoundsException" ["java/lang/RuntimeException", "java/lang/Exception"]).filter goodWord)
def wsX1_runs : List Cond := .code yX1_runs cX1_runs 2 (some .int) :: ([.fieldLink RX1 22 "FlakeTriage" "log" "LFlakeTriage$RunLog;", .methodLink RX1 88 yX1_needTest, .instanceMethod yX1_needTest, .selects RX1 yX1_needTest yX1_needTest, .initialized RX1, .code yX1_needTest cX1_needTest 2 none, .classLink RX1 61 "java/lang/IndexOutOfBoundsException", .initialized "java/lang/IndexOutOfBoundsException", .fieldLink RX1 46 "FlakeTriage" "testCount" "I", .methodLink RX1 144 yX0_countOf, .instanceMethod yX0_countOf, .selects RX0 yX0_countOf yX0_countOf, .initialized RX0, .code yX0_countOf cX0_countOf 2 (some .int), .fieldLink RX0 9 "FlakeTriage$RunLog" "count" "[I"] ++ wsX10 ++ wsX00 ++ (vx_atS RX1 65 "java/lang/IndexOutOfBoundsException" ["java/lang/RuntimeException", "java/lang/Exception"]).filter goodWord)
def wsX1_verdict : List Cond := .code yX1_verdict cX1_verdict 3 (some .int) :: ([.fieldLink RX1 22 "FlakeTriage" "log" "LFlakeTriage$RunLog;", .methodLink RX1 88 yX1_needTest, .instanceMethod yX1_needTest, .selects RX1 yX1_needTest yX1_needTest, .initialized RX1, .code yX1_needTest cX1_needTest 2 none, .classLink RX1 61 "java/lang/IndexOutOfBoundsException", .initialized "java/lang/IndexOutOfBoundsException", .fieldLink RX1 46 "FlakeTriage" "testCount" "I", .methodLink RX1 91 yX1_needCommit, .instanceMethod yX1_needCommit, .selects RX1 yX1_needCommit yX1_needCommit, .code yX1_needCommit cX1_needCommit 2 none, .fieldLink RX1 43 "FlakeTriage" "commitCount" "I", .methodLink RX1 100 yX0_verdictAt, .instanceMethod yX0_verdictAt, .selects RX0 yX0_verdictAt yX0_verdictAt, .initialized RX0, .code yX0_verdictAt cX0_verdictAt 3 (some .int), .fieldLink RX0 23 "FlakeTriage$RunLog" "passes" "[[I", .fieldLink RX0 26 "FlakeTriage$RunLog" "failures" "[[I"] ++ wsX10 ++ wsX00 ++ (vx_atS RX1 65 "java/lang/IndexOutOfBoundsException" ["java/lang/RuntimeException", "java/lang/Exception"]).filter goodWord)
def wsX1_failing : List Cond := .code yX1_failing cX1_failing 3 (some .int) :: ([.fieldLink RX1 22 "FlakeTriage" "log" "LFlakeTriage$RunLog;", .methodLink RX1 88 yX1_needTest, .instanceMethod yX1_needTest, .selects RX1 yX1_needTest yX1_needTest, .initialized RX1, .code yX1_needTest cX1_needTest 2 none, .classLink RX1 61 "java/lang/IndexOutOfBoundsException", .initialized "java/lang/IndexOutOfBoundsException", .fieldLink RX1 46 "FlakeTriage" "testCount" "I", .methodLink RX1 144 yX0_countOf, .instanceMethod yX0_countOf, .selects RX0 yX0_countOf yX0_countOf, .initialized RX0, .code yX0_countOf cX0_countOf 2 (some .int), .fieldLink RX0 9 "FlakeTriage$RunLog" "count" "[I", .methodLink RX1 147 yX0_failuresOf, .instanceMethod yX0_failuresOf, .selects RX0 yX0_failuresOf yX0_failuresOf, .code yX0_failuresOf cX0_failuresOf 4 (some .int), .fieldLink RX0 26 "FlakeTriage$RunLog" "failures" "[[I"] ++ wsX10 ++ wsX00 ++ (vx_atS RX1 65 "java/lang/IndexOutOfBoundsException" ["java/lang/RuntimeException", "java/lang/Exception"]).filter goodWord)
def wsX1_isUnsteady : List Cond := .code yX1_isUnsteady cX1_isUnsteady 4 (some .boolean) :: ([.fieldLink RX1 43 "FlakeTriage" "commitCount" "I", .fieldLink RX1 52 "FlakeTriage" "window" "I", .methodLink RX1 181 Lib.Math.max.name, .static Lib.Math.max.name, .initialized "java/lang/Math", .code Lib.Math.max.name Lib.Math.max.code 2 (some .int), .fieldLink RX1 22 "FlakeTriage" "log" "LFlakeTriage$RunLog;", .fieldLink RX1 49 "FlakeTriage" "limit" "I", .methodLink RX1 100 yX0_verdictAt, .instanceMethod yX0_verdictAt, .selects RX0 yX0_verdictAt yX0_verdictAt, .initialized RX0, .code yX0_verdictAt cX0_verdictAt 3 (some .int), .fieldLink RX0 23 "FlakeTriage$RunLog" "passes" "[[I", .fieldLink RX0 26 "FlakeTriage$RunLog" "failures" "[[I"] ++ wsX10 ++ wsX00)
def wsX1_isQuarantined_r1 : List Cond := [Cond.methodLink RX1 88 yX1_needTest, Cond.instanceMethod yX1_needTest, Cond.selects RX1 yX1_needTest yX1_needTest, Cond.initialized RX1, Cond.code yX1_needTest cX1_needTest 2 none, Cond.classLink RX1 61 "java/lang/IndexOutOfBoundsException", Cond.initialized "java/lang/IndexOutOfBoundsException", Cond.fieldLink RX1 46 "FlakeTriage" "testCount" "I", Cond.methodLink RX1 150 yX1_isUnsteady, Cond.instanceMethod yX1_isUnsteady, Cond.selects RX1 yX1_isUnsteady yX1_isUnsteady, Cond.code yX1_isUnsteady cX1_isUnsteady 4 (some .boolean), Cond.fieldLink RX1 43 "FlakeTriage" "commitCount" "I", Cond.fieldLink RX1 52 "FlakeTriage" "window" "I", Cond.methodLink RX1 181 Lib.Math.max.name, Cond.static Lib.Math.max.name, Cond.initialized "java/lang/Math", Cond.code Lib.Math.max.name Lib.Math.max.code 2 (some .int), Cond.fieldLink RX1 22 "FlakeTriage" "log" "LFlakeTriage$RunLog;", Cond.fieldLink RX1 49 "FlakeTriage" "limit" "I", Cond.methodLink RX1 100 yX0_verdictAt, Cond.instanceMethod yX0_verdictAt, Cond.selects RX0 yX0_verdictAt yX0_verdictAt, Cond.initialized RX0]
def wsX1_isQuarantined_r2 : List Cond := [Cond.code yX0_verdictAt cX0_verdictAt 3 (some .int), Cond.fieldLink RX0 23 "FlakeTriage$RunLog" "passes" "[[I", Cond.fieldLink RX0 26 "FlakeTriage$RunLog" "failures" "[[I"]
def wsX1_isQuarantined : List Cond := .code yX1_isQuarantined cX1_isQuarantined 2 (some .boolean) :: ((wsX1_isQuarantined_r1 ++ wsX1_isQuarantined_r2) ++ wsX10 ++ wsX00 ++ (vx_atS RX1 65 "java/lang/IndexOutOfBoundsException" ["java/lang/RuntimeException", "java/lang/Exception"]).filter goodWord)
def wsX1_broken_r1 : List Cond := [Cond.fieldLink RX1 46 "FlakeTriage" "testCount" "I", Cond.fieldLink RX1 22 "FlakeTriage" "log" "LFlakeTriage$RunLog;", Cond.methodLink RX1 91 yX1_needCommit, Cond.instanceMethod yX1_needCommit, Cond.selects RX1 yX1_needCommit yX1_needCommit, Cond.initialized RX1, Cond.code yX1_needCommit cX1_needCommit 2 none, Cond.classLink RX1 61 "java/lang/IndexOutOfBoundsException", Cond.initialized "java/lang/IndexOutOfBoundsException", Cond.fieldLink RX1 43 "FlakeTriage" "commitCount" "I", Cond.methodLink RX1 100 yX0_verdictAt, Cond.instanceMethod yX0_verdictAt, Cond.selects RX0 yX0_verdictAt yX0_verdictAt, Cond.initialized RX0, Cond.code yX0_verdictAt cX0_verdictAt 3 (some .int), Cond.fieldLink RX0 23 "FlakeTriage$RunLog" "passes" "[[I", Cond.fieldLink RX0 26 "FlakeTriage$RunLog" "failures" "[[I", Cond.methodLink RX1 150 yX1_isUnsteady, Cond.instanceMethod yX1_isUnsteady, Cond.selects RX1 yX1_isUnsteady yX1_isUnsteady, Cond.code yX1_isUnsteady cX1_isUnsteady 4 (some .boolean), Cond.fieldLink RX1 52 "FlakeTriage" "window" "I", Cond.methodLink RX1 181 Lib.Math.max.name, Cond.static Lib.Math.max.name]
def wsX1_broken_r2 : List Cond := [Cond.initialized "java/lang/Math", Cond.code Lib.Math.max.name Lib.Math.max.code 2 (some .int), Cond.fieldLink RX1 49 "FlakeTriage" "limit" "I"]
def wsX1_broken : List Cond := .code yX1_broken cX1_broken 4 (some .int) :: ((wsX1_broken_r1 ++ wsX1_broken_r2) ++ wsX10 ++ wsX00 ++ (vx_atS RX1 65 "java/lang/IndexOutOfBoundsException" ["java/lang/RuntimeException", "java/lang/Exception"]).filter goodWord)
def wsX1_suspects_r1 : List Cond := [Cond.methodLink RX1 88 yX1_needTest, Cond.instanceMethod yX1_needTest, Cond.selects RX1 yX1_needTest yX1_needTest, Cond.initialized RX1, Cond.code yX1_needTest cX1_needTest 2 none, Cond.classLink RX1 61 "java/lang/IndexOutOfBoundsException", Cond.initialized "java/lang/IndexOutOfBoundsException", Cond.fieldLink RX1 46 "FlakeTriage" "testCount" "I", Cond.methodLink RX1 116 yX1_needTriage, Cond.instanceMethod yX1_needTriage, Cond.selects RX1 yX1_needTriage yX1_needTriage, Cond.code yX1_needTriage cX1_needTriage 2 none, Cond.classLink RX1 72 "java/lang/IllegalStateException", Cond.initialized "java/lang/IllegalStateException", Cond.fieldLink RX1 26 "FlakeTriage" "inTriage" "[Z", Cond.methodLink RX1 154 yX1_suspectsOf, Cond.instanceMethod yX1_suspectsOf, Cond.selects RX1 yX1_suspectsOf yX1_suspectsOf, Cond.code yX1_suspectsOf cX1_suspectsOf 6 (some .long), Cond.fieldLink RX1 30 "FlakeTriage" "goodOf" "[I", Cond.fieldLink RX1 33 "FlakeTriage" "badOf" "[I", Cond.fieldLink RX1 13 "FlakeTriage" "changedBy" "[I", Cond.methodLink RX1 141 yX1_allPartsOf, Cond.instanceMethod yX1_allPartsOf]
def wsX1_suspects_r2 : List Cond := [Cond.selects RX1 yX1_allPartsOf yX1_allPartsOf, Cond.code yX1_allPartsOf cX1_allPartsOf 6 (some .int), Cond.fieldLink RX1 16 "FlakeTriage" "usedByTest" "[I", Cond.fieldLink RX1 9 "FlakeTriage" "usedByPart" "[I", Cond.methodLink RX1 157 yX1_has, Cond.static yX1_has, Cond.code yX1_has cX1_has 3 (some .boolean)]
def wsX1_suspects : List Cond := .code yX1_suspects cX1_suspects 2 (some .long) :: ((wsX1_suspects_r1 ++ wsX1_suspects_r2) ++ wsX10 ++ (vx_atS RX1 65 "java/lang/IndexOutOfBoundsException" ["java/lang/RuntimeException", "java/lang/Exception"]).filter goodWord ++ (vx_atS RX1 76 "java/lang/IllegalStateException" ["java/lang/RuntimeException", "java/lang/Exception"]).filter goodWord)
def wsX1_contradictions_r1 : List Cond := [Cond.fieldLink RX1 22 "FlakeTriage" "log" "LFlakeTriage$RunLog;", Cond.fieldLink RX1 30 "FlakeTriage" "goodOf" "[I", Cond.fieldLink RX1 33 "FlakeTriage" "badOf" "[I", Cond.methodLink RX1 88 yX1_needTest, Cond.instanceMethod yX1_needTest, Cond.selects RX1 yX1_needTest yX1_needTest, Cond.initialized RX1, Cond.code yX1_needTest cX1_needTest 2 none, Cond.classLink RX1 61 "java/lang/IndexOutOfBoundsException", Cond.initialized "java/lang/IndexOutOfBoundsException", Cond.fieldLink RX1 46 "FlakeTriage" "testCount" "I", Cond.methodLink RX1 91 yX1_needCommit, Cond.instanceMethod yX1_needCommit, Cond.selects RX1 yX1_needCommit yX1_needCommit, Cond.code yX1_needCommit cX1_needCommit 2 none, Cond.fieldLink RX1 43 "FlakeTriage" "commitCount" "I", Cond.methodLink RX1 116 yX1_needTriage, Cond.instanceMethod yX1_needTriage, Cond.selects RX1 yX1_needTriage yX1_needTriage, Cond.code yX1_needTriage cX1_needTriage 2 none, Cond.classLink RX1 72 "java/lang/IllegalStateException", Cond.initialized "java/lang/IllegalStateException", Cond.fieldLink RX1 26 "FlakeTriage" "inTriage" "[Z", Cond.methodLink RX1 154 yX1_suspectsOf]
def wsX1_contradictions_r2 : List Cond := [Cond.instanceMethod yX1_suspectsOf, Cond.selects RX1 yX1_suspectsOf yX1_suspectsOf, Cond.code yX1_suspectsOf cX1_suspectsOf 6 (some .long), Cond.fieldLink RX1 13 "FlakeTriage" "changedBy" "[I", Cond.methodLink RX1 141 yX1_allPartsOf, Cond.instanceMethod yX1_allPartsOf, Cond.selects RX1 yX1_allPartsOf yX1_allPartsOf, Cond.code yX1_allPartsOf cX1_allPartsOf 6 (some .int), Cond.fieldLink RX1 16 "FlakeTriage" "usedByTest" "[I", Cond.fieldLink RX1 9 "FlakeTriage" "usedByPart" "[I", Cond.methodLink RX1 157 yX1_has, Cond.static yX1_has, Cond.code yX1_has cX1_has 3 (some .boolean), Cond.methodLink RX1 161 yX0_contradicting, Cond.instanceMethod yX0_contradicting, Cond.selects RX0 yX0_contradicting yX0_contradicting, Cond.initialized RX0, Cond.code yX0_contradicting cX0_contradicting 11 (some .int), Cond.fieldLink RX0 9 "FlakeTriage$RunLog" "count" "[I", Cond.fieldLink RX0 17 "FlakeTriage$RunLog" "commitOfRun" "[[I", Cond.fieldLink RX0 20 "FlakeTriage$RunLog" "passedOfRun" "[[I"]
def wsX1_contradictions : List Cond := .code yX1_contradictions cX1_contradictions 3 (some .int) :: ((wsX1_contradictions_r1 ++ wsX1_contradictions_r2) ++ wsX10 ++ wsX00 ++ (vx_atS RX1 65 "java/lang/IndexOutOfBoundsException" ["java/lang/RuntimeException", "java/lang/Exception"]).filter goodWord ++ (vx_atS RX1 76 "java/lang/IllegalStateException" ["java/lang/RuntimeException", "java/lang/Exception"]).filter goodWord)
def wsX1_candidates_r1 : List Cond := [Cond.methodLink RX1 88 yX1_needTest, Cond.instanceMethod yX1_needTest, Cond.selects RX1 yX1_needTest yX1_needTest, Cond.initialized RX1, Cond.code yX1_needTest cX1_needTest 2 none, Cond.classLink RX1 61 "java/lang/IndexOutOfBoundsException", Cond.initialized "java/lang/IndexOutOfBoundsException", Cond.fieldLink RX1 46 "FlakeTriage" "testCount" "I", Cond.methodLink RX1 116 yX1_needTriage, Cond.instanceMethod yX1_needTriage, Cond.selects RX1 yX1_needTriage yX1_needTriage, Cond.code yX1_needTriage cX1_needTriage 2 none, Cond.classLink RX1 72 "java/lang/IllegalStateException", Cond.initialized "java/lang/IllegalStateException", Cond.fieldLink RX1 26 "FlakeTriage" "inTriage" "[Z", Cond.methodLink RX1 106 yX1_candidatesOf, Cond.instanceMethod yX1_candidatesOf, Cond.selects RX1 yX1_candidatesOf yX1_candidatesOf, Cond.code yX1_candidatesOf cX1_candidatesOf 10 (some .long), Cond.fieldLink RX1 30 "FlakeTriage" "goodOf" "[I", Cond.fieldLink RX1 33 "FlakeTriage" "badOf" "[I", Cond.fieldLink RX1 22 "FlakeTriage" "log" "LFlakeTriage$RunLog;", Cond.fieldLink RX1 55 "FlakeTriage" "noise" "I", Cond.methodLink RX1 154 yX1_suspectsOf]
def wsX1_candidates_r2 : List Cond := [Cond.instanceMethod yX1_suspectsOf, Cond.selects RX1 yX1_suspectsOf yX1_suspectsOf, Cond.code yX1_suspectsOf cX1_suspectsOf 6 (some .long), Cond.fieldLink RX1 13 "FlakeTriage" "changedBy" "[I", Cond.methodLink RX1 141 yX1_allPartsOf, Cond.instanceMethod yX1_allPartsOf, Cond.selects RX1 yX1_allPartsOf yX1_allPartsOf, Cond.code yX1_allPartsOf cX1_allPartsOf 6 (some .int), Cond.fieldLink RX1 16 "FlakeTriage" "usedByTest" "[I", Cond.fieldLink RX1 9 "FlakeTriage" "usedByPart" "[I", Cond.methodLink RX1 157 yX1_has, Cond.static yX1_has, Cond.code yX1_has cX1_has 3 (some .boolean), Cond.methodLink RX1 186 yX0_passesWithin, Cond.instanceMethod yX0_passesWithin, Cond.selects RX0 yX0_passesWithin yX0_passesWithin, Cond.initialized RX0, Cond.code yX0_passesWithin cX0_passesWithin 6 (some .int), Cond.fieldLink RX0 23 "FlakeTriage$RunLog" "passes" "[[I", Cond.methodLink RX1 190 yX0_riseBehind, Cond.instanceMethod yX0_riseBehind, Cond.selects RX0 yX0_riseBehind yX0_riseBehind, Cond.code yX0_riseBehind cX0_riseBehind 3 (some .int), Cond.fieldLink RX0 26 "FlakeTriage$RunLog" "failures" "[[I"]
def wsX1_candidates : List Cond := .code yX1_candidates cX1_candidates 2 (some .long) :: ((wsX1_candidates_r1 ++ wsX1_candidates_r2) ++ wsX10 ++ wsX00 ++ (vx_atS RX1 65 "java/lang/IndexOutOfBoundsException" ["java/lang/RuntimeException", "java/lang/Exception"]).filter goodWord ++ (vx_atS RX1 76 "java/lang/IllegalStateException" ["java/lang/RuntimeException", "java/lang/Exception"]).filter goodWord)
def wsX1_likeliest_r1 : List Cond := [Cond.methodLink RX1 88 yX1_needTest, Cond.instanceMethod yX1_needTest, Cond.selects RX1 yX1_needTest yX1_needTest, Cond.initialized RX1, Cond.code yX1_needTest cX1_needTest 2 none, Cond.classLink RX1 61 "java/lang/IndexOutOfBoundsException", Cond.initialized "java/lang/IndexOutOfBoundsException", Cond.fieldLink RX1 46 "FlakeTriage" "testCount" "I", Cond.methodLink RX1 116 yX1_needTriage, Cond.instanceMethod yX1_needTriage, Cond.selects RX1 yX1_needTriage yX1_needTriage, Cond.code yX1_needTriage cX1_needTriage 2 none, Cond.classLink RX1 72 "java/lang/IllegalStateException", Cond.initialized "java/lang/IllegalStateException", Cond.fieldLink RX1 26 "FlakeTriage" "inTriage" "[Z", Cond.methodLink RX1 119 yX1_likeliestOf, Cond.instanceMethod yX1_likeliestOf, Cond.selects RX1 yX1_likeliestOf yX1_likeliestOf, Cond.code yX1_likeliestOf cX1_likeliestOf 10 (some .int), Cond.fieldLink RX1 30 "FlakeTriage" "goodOf" "[I", Cond.fieldLink RX1 33 "FlakeTriage" "badOf" "[I", Cond.fieldLink RX1 22 "FlakeTriage" "log" "LFlakeTriage$RunLog;", Cond.methodLink RX1 154 yX1_suspectsOf, Cond.instanceMethod yX1_suspectsOf]
def wsX1_likeliest_r2 : List Cond := [Cond.selects RX1 yX1_suspectsOf yX1_suspectsOf, Cond.code yX1_suspectsOf cX1_suspectsOf 6 (some .long), Cond.fieldLink RX1 13 "FlakeTriage" "changedBy" "[I", Cond.methodLink RX1 141 yX1_allPartsOf, Cond.instanceMethod yX1_allPartsOf, Cond.selects RX1 yX1_allPartsOf yX1_allPartsOf, Cond.code yX1_allPartsOf cX1_allPartsOf 6 (some .int), Cond.fieldLink RX1 16 "FlakeTriage" "usedByTest" "[I", Cond.fieldLink RX1 9 "FlakeTriage" "usedByPart" "[I", Cond.methodLink RX1 157 yX1_has, Cond.static yX1_has, Cond.code yX1_has cX1_has 3 (some .boolean), Cond.methodLink RX1 186 yX0_passesWithin, Cond.instanceMethod yX0_passesWithin, Cond.selects RX0 yX0_passesWithin yX0_passesWithin, Cond.initialized RX0, Cond.code yX0_passesWithin cX0_passesWithin 6 (some .int), Cond.fieldLink RX0 23 "FlakeTriage$RunLog" "passes" "[[I", Cond.methodLink RX1 190 yX0_riseBehind, Cond.instanceMethod yX0_riseBehind, Cond.selects RX0 yX0_riseBehind yX0_riseBehind, Cond.code yX0_riseBehind cX0_riseBehind 3 (some .int), Cond.fieldLink RX0 26 "FlakeTriage$RunLog" "failures" "[[I"]
def wsX1_likeliest : List Cond := .code yX1_likeliest cX1_likeliest 2 (some .int) :: ((wsX1_likeliest_r1 ++ wsX1_likeliest_r2) ++ wsX10 ++ wsX00 ++ (vx_atS RX1 65 "java/lang/IndexOutOfBoundsException" ["java/lang/RuntimeException", "java/lang/Exception"]).filter goodWord ++ (vx_atS RX1 76 "java/lang/IllegalStateException" ["java/lang/RuntimeException", "java/lang/Exception"]).filter goodWord)
def wsX1_weightAt : List Cond := .code yX1_weightAt cX1_weightAt 5 (some .int) :: ([.methodLink RX1 181 Lib.Math.max.name, .static Lib.Math.max.name, .initialized "java/lang/Math", .code Lib.Math.max.name Lib.Math.max.code 2 (some .int), .methodLink RX1 110 yJ13_bitCount_95d88, .static yJ13_bitCount_95d88, .initialized RJ13, .code yJ13_bitCount_95d88 cJ13_bitCount_95d88 2 (some .int), .constantLong RJ13 314 (6148914691236517205), .constantLong RJ13 316 (3689348814741910323), .constantLong RJ13 318 (1085102592571150095)])
def wsX1_next_r1 : List Cond := [Cond.fieldLink RX1 30 "FlakeTriage" "goodOf" "[I", Cond.fieldLink RX1 33 "FlakeTriage" "badOf" "[I", Cond.fieldLink RX1 22 "FlakeTriage" "log" "LFlakeTriage$RunLog;", Cond.methodLink RX1 88 yX1_needTest, Cond.instanceMethod yX1_needTest, Cond.selects RX1 yX1_needTest yX1_needTest, Cond.initialized RX1, Cond.code yX1_needTest cX1_needTest 2 none, Cond.classLink RX1 61 "java/lang/IndexOutOfBoundsException", Cond.initialized "java/lang/IndexOutOfBoundsException", Cond.fieldLink RX1 46 "FlakeTriage" "testCount" "I", Cond.methodLink RX1 116 yX1_needTriage, Cond.instanceMethod yX1_needTriage, Cond.selects RX1 yX1_needTriage yX1_needTriage, Cond.code yX1_needTriage cX1_needTriage 2 none, Cond.classLink RX1 72 "java/lang/IllegalStateException", Cond.initialized "java/lang/IllegalStateException", Cond.fieldLink RX1 26 "FlakeTriage" "inTriage" "[Z", Cond.methodLink RX1 106 yX1_candidatesOf, Cond.instanceMethod yX1_candidatesOf, Cond.selects RX1 yX1_candidatesOf yX1_candidatesOf, Cond.code yX1_candidatesOf cX1_candidatesOf 10 (some .long), Cond.fieldLink RX1 55 "FlakeTriage" "noise" "I", Cond.methodLink RX1 154 yX1_suspectsOf]
def wsX1_next_r2 : List Cond := [Cond.instanceMethod yX1_suspectsOf, Cond.selects RX1 yX1_suspectsOf yX1_suspectsOf, Cond.code yX1_suspectsOf cX1_suspectsOf 6 (some .long), Cond.fieldLink RX1 13 "FlakeTriage" "changedBy" "[I", Cond.methodLink RX1 141 yX1_allPartsOf, Cond.instanceMethod yX1_allPartsOf, Cond.selects RX1 yX1_allPartsOf yX1_allPartsOf, Cond.code yX1_allPartsOf cX1_allPartsOf 6 (some .int), Cond.fieldLink RX1 16 "FlakeTriage" "usedByTest" "[I", Cond.fieldLink RX1 9 "FlakeTriage" "usedByPart" "[I", Cond.methodLink RX1 157 yX1_has, Cond.static yX1_has, Cond.code yX1_has cX1_has 3 (some .boolean), Cond.methodLink RX1 186 yX0_passesWithin, Cond.instanceMethod yX0_passesWithin, Cond.selects RX0 yX0_passesWithin yX0_passesWithin, Cond.initialized RX0, Cond.code yX0_passesWithin cX0_passesWithin 6 (some .int), Cond.fieldLink RX0 23 "FlakeTriage$RunLog" "passes" "[[I", Cond.methodLink RX1 190 yX0_riseBehind, Cond.instanceMethod yX0_riseBehind, Cond.selects RX0 yX0_riseBehind yX0_riseBehind, Cond.code yX0_riseBehind cX0_riseBehind 3 (some .int), Cond.fieldLink RX0 26 "FlakeTriage$RunLog" "failures" "[[I"]
def wsX1_next_r3 : List Cond := [Cond.methodLink RX1 165 yX1_weightAt, Cond.static yX1_weightAt, Cond.code yX1_weightAt cX1_weightAt 5 (some .int), Cond.methodLink RX1 181 Lib.Math.max.name, Cond.static Lib.Math.max.name, Cond.initialized "java/lang/Math", Cond.code Lib.Math.max.name Lib.Math.max.code 2 (some .int), Cond.methodLink RX1 110 yJ13_bitCount_95d88, Cond.static yJ13_bitCount_95d88, Cond.initialized RJ13, Cond.code yJ13_bitCount_95d88 cJ13_bitCount_95d88 2 (some .int), Cond.constantLong RJ13 314 (6148914691236517205), Cond.constantLong RJ13 316 (3689348814741910323), Cond.constantLong RJ13 318 (1085102592571150095), Cond.methodLink RX1 169 yX0_countAt, Cond.instanceMethod yX0_countAt, Cond.selects RX0 yX0_countAt yX0_countAt, Cond.code yX0_countAt cX0_countAt 3 (some .int)]
def wsX1_next : List Cond := .code yX1_next cX1_next 10 (some .int) :: ((wsX1_next_r1 ++ (wsX1_next_r2 ++ wsX1_next_r3)) ++ wsX10 ++ wsX00 ++ (vx_atS RX1 65 "java/lang/IndexOutOfBoundsException" ["java/lang/RuntimeException", "java/lang/Exception"]).filter goodWord ++ (vx_atS RX1 76 "java/lang/IllegalStateException" ["java/lang/RuntimeException", "java/lang/Exception"]).filter goodWord)
def wsX2_init : List Cond := .code yX2_init cX2_init 2 none :: ([.methodLink RX2 1 objectInit, .instanceMethod objectInit, .code objectInit ⟨#[0xb1]⟩ 1 none, .fieldLink RX2 7 "FlakeTriageModel" "limit" "I", .fieldLink RX2 13 "FlakeTriageModel" "window" "I", .arrayClass .int, .fieldLink RX2 16 "FlakeTriageModel" "uses" "[I", .fieldLink RX2 20 "FlakeTriageModel" "changes" "[I", .fieldLink RX2 23 "FlakeTriageModel" "direct" "[I", .fieldLink RX2 26 "FlakeTriageModel" "passes" "[I", .fieldLink RX2 29 "FlakeTriageModel" "fails" "[I", .fieldLink RX2 32 "FlakeTriageModel" "good" "[I", .fieldLink RX2 35 "FlakeTriageModel" "bad" "[I", .fieldLink RX2 38 "FlakeTriageModel" "queue" "[I"] ++ wsX20)
def wsX2_thrown : List Cond := .code yX2_thrown cX2_thrown 1 (some .int) :: ([.fieldLink RX2 41 "FlakeTriageModel" "thrown" "I"] ++ wsX20)
def wsX2_in : List Cond := .code yX2_in cX2_in 3 (some .boolean) :: ([])
def wsX2_goes : List Cond := .code yX2_goes cX2_goes 3 (some .boolean) :: ([.fieldLink RX2 41 "FlakeTriageModel" "thrown" "I"] ++ wsX20)
def wsX2_told : List Cond := .code yX2_told cX2_told 2 (some .int) :: ([.fieldLink RX2 41 "FlakeTriageModel" "thrown" "I"] ++ wsX20)
def wsX2_areParts : List Cond := .code yX2_areParts cX2_areParts 1 (some .boolean) :: ([.constant RX2 44 (65535), .methodLink RX2 45 yX2_in, .static yX2_in, .initialized RX2, .code yX2_in cX2_in 3 (some .boolean)])
def wsX2_isTest : List Cond := .code yX2_isTest cX2_isTest 2 (some .boolean) :: ([.fieldLink RX2 49 "FlakeTriageModel" "tests" "I", .methodLink RX2 45 yX2_in, .static yX2_in, .initialized RX2, .code yX2_in cX2_in 3 (some .boolean)] ++ wsX20)
def wsX2_isCommit : List Cond := .code yX2_isCommit cX2_isCommit 2 (some .boolean) :: ([.fieldLink RX2 52 "FlakeTriageModel" "commits" "I", .methodLink RX2 45 yX2_in, .static yX2_in, .initialized RX2, .code yX2_in cX2_in 3 (some .boolean)] ++ wsX20)
def wsX2_isInTriage : List Cond := .code yX2_isInTriage cX2_isInTriage 2 (some .boolean) :: ([.fieldLink RX2 32 "FlakeTriageModel" "good" "[I", .methodLink RX2 55 yX2_isTest, .instanceMethod yX2_isTest, .selects RX2 yX2_isTest yX2_isTest, .initialized RX2, .code yX2_isTest cX2_isTest 2 (some .boolean), .fieldLink RX2 49 "FlakeTriageModel" "tests" "I", .methodLink RX2 45 yX2_in, .static yX2_in, .code yX2_in cX2_in 3 (some .boolean)] ++ wsX20)
def wsX2_setUses : List Cond := .code yX2_setUses cX2_setUses 4 (some .int) :: ([.fieldLink RX2 16 "FlakeTriageModel" "uses" "[I", .methodLink RX2 45 yX2_in, .static yX2_in, .initialized RX2, .code yX2_in cX2_in 3 (some .boolean), .methodLink RX2 59 yX2_areParts, .static yX2_areParts, .code yX2_areParts cX2_areParts 1 (some .boolean), .constant RX2 44 (65535), .methodLink RX2 62 yX2_goes, .instanceMethod yX2_goes, .selects RX2 yX2_goes yX2_goes, .code yX2_goes cX2_goes 3 (some .boolean), .fieldLink RX2 41 "FlakeTriageModel" "thrown" "I"] ++ wsX20)
def wsX2_addCommit : List Cond := .code yX2_addCommit cX2_addCommit 2 (some .int) :: ([.fieldLink RX2 52 "FlakeTriageModel" "commits" "I", .fieldLink RX2 20 "FlakeTriageModel" "changes" "[I", .methodLink RX2 59 yX2_areParts, .static yX2_areParts, .initialized RX2, .code yX2_areParts cX2_areParts 1 (some .boolean), .constant RX2 44 (65535), .methodLink RX2 45 yX2_in, .static yX2_in, .code yX2_in cX2_in 3 (some .boolean), .methodLink RX2 62 yX2_goes, .instanceMethod yX2_goes, .selects RX2 yX2_goes yX2_goes, .code yX2_goes cX2_goes 3 (some .boolean), .fieldLink RX2 41 "FlakeTriageModel" "thrown" "I"] ++ wsX20)
def wsX2_addTest : List Cond := .code yX2_addTest cX2_addTest 2 (some .int) :: ([.fieldLink RX2 49 "FlakeTriageModel" "tests" "I", .fieldLink RX2 23 "FlakeTriageModel" "direct" "[I", .methodLink RX2 59 yX2_areParts, .static yX2_areParts, .initialized RX2, .code yX2_areParts cX2_areParts 1 (some .boolean), .constant RX2 44 (65535), .methodLink RX2 45 yX2_in, .static yX2_in, .code yX2_in cX2_in 3 (some .boolean), .methodLink RX2 62 yX2_goes, .instanceMethod yX2_goes, .selects RX2 yX2_goes yX2_goes, .code yX2_goes cX2_goes 3 (some .boolean), .fieldLink RX2 41 "FlakeTriageModel" "thrown" "I"] ++ wsX20)
def wsX2_setQuarantine : List Cond := .code yX2_setQuarantine cX2_setQuarantine 3 none :: ([.fieldLink RX2 7 "FlakeTriageModel" "limit" "I", .fieldLink RX2 13 "FlakeTriageModel" "window" "I", .methodLink RX2 45 yX2_in, .static yX2_in, .initialized RX2, .code yX2_in cX2_in 3 (some .boolean), .methodLink RX2 62 yX2_goes, .instanceMethod yX2_goes, .selects RX2 yX2_goes yX2_goes, .code yX2_goes cX2_goes 3 (some .boolean), .fieldLink RX2 41 "FlakeTriageModel" "thrown" "I"] ++ wsX20)
def wsX2_setNoise : List Cond := .code yX2_setNoise cX2_setNoise 3 (some .int) :: ([.fieldLink RX2 66 "FlakeTriageModel" "noise" "I", .methodLink RX2 45 yX2_in, .static yX2_in, .initialized RX2, .code yX2_in cX2_in 3 (some .boolean), .methodLink RX2 62 yX2_goes, .instanceMethod yX2_goes, .selects RX2 yX2_goes yX2_goes, .code yX2_goes cX2_goes 3 (some .boolean), .fieldLink RX2 41 "FlakeTriageModel" "thrown" "I"] ++ wsX20)
def wsX2_reach : List Cond := .code yX2_reach cX2_reach 5 (some .int) :: ([.fieldLink RX2 23 "FlakeTriageModel" "direct" "[I", .fieldLink RX2 16 "FlakeTriageModel" "uses" "[I"] ++ wsX20)
def wsX2_verdictOf : List Cond := .code yX2_verdictOf cX2_verdictOf 4 (some .int) :: ([.fieldLink RX2 26 "FlakeTriageModel" "passes" "[I", .fieldLink RX2 29 "FlakeTriageModel" "fails" "[I"] ++ wsX20)
def wsX2_all : List Cond := .code yX2_all cX2_all 5 (some .int) :: ([])
def wsX2_allRuns : List Cond := .code yX2_allRuns cX2_allRuns 2 (some .int) :: ([.fieldLink RX2 26 "FlakeTriageModel" "passes" "[I", .fieldLink RX2 29 "FlakeTriageModel" "fails" "[I", .methodLink RX2 69 yX2_all, .instanceMethod yX2_all, .selects RX2 yX2_all yX2_all, .initialized RX2, .code yX2_all cX2_all 5 (some .int)] ++ wsX20)
def wsX2_isUnsteady : List Cond := .code yX2_isUnsteady cX2_isUnsteady 4 (some .boolean) :: ([.fieldLink RX2 52 "FlakeTriageModel" "commits" "I", .fieldLink RX2 13 "FlakeTriageModel" "window" "I", .fieldLink RX2 7 "FlakeTriageModel" "limit" "I", .methodLink RX2 73 yX2_verdictOf, .instanceMethod yX2_verdictOf, .selects RX2 yX2_verdictOf yX2_verdictOf, .initialized RX2, .code yX2_verdictOf cX2_verdictOf 4 (some .int), .fieldLink RX2 26 "FlakeTriageModel" "passes" "[I", .fieldLink RX2 29 "FlakeTriageModel" "fails" "[I"] ++ wsX20)
def wsX2_isSuspect : List Cond := .code yX2_isSuspect cX2_isSuspect 3 (some .boolean) :: ([.fieldLink RX2 32 "FlakeTriageModel" "good" "[I", .fieldLink RX2 35 "FlakeTriageModel" "bad" "[I", .fieldLink RX2 20 "FlakeTriageModel" "changes" "[I", .methodLink RX2 77 yX2_reach, .instanceMethod yX2_reach, .selects RX2 yX2_reach yX2_reach, .initialized RX2, .code yX2_reach cX2_reach 5 (some .int), .fieldLink RX2 23 "FlakeTriageModel" "direct" "[I", .fieldLink RX2 16 "FlakeTriageModel" "uses" "[I"] ++ wsX20)
def wsX2_against : List Cond := .code yX2_against cX2_against 5 (some .int) :: ([.fieldLink RX2 32 "FlakeTriageModel" "good" "[I", .fieldLink RX2 35 "FlakeTriageModel" "bad" "[I", .fieldLink RX2 29 "FlakeTriageModel" "fails" "[I", .fieldLink RX2 26 "FlakeTriageModel" "passes" "[I"] ++ wsX20)
def wsX2_isCandidate : List Cond := .code yX2_isCandidate cX2_isCandidate 3 (some .boolean) :: ([.fieldLink RX2 66 "FlakeTriageModel" "noise" "I", .methodLink RX2 81 yX2_isSuspect, .instanceMethod yX2_isSuspect, .selects RX2 yX2_isSuspect yX2_isSuspect, .initialized RX2, .code yX2_isSuspect cX2_isSuspect 3 (some .boolean), .fieldLink RX2 32 "FlakeTriageModel" "good" "[I", .fieldLink RX2 35 "FlakeTriageModel" "bad" "[I", .fieldLink RX2 20 "FlakeTriageModel" "changes" "[I", .methodLink RX2 77 yX2_reach, .instanceMethod yX2_reach, .selects RX2 yX2_reach yX2_reach, .code yX2_reach cX2_reach 5 (some .int), .fieldLink RX2 23 "FlakeTriageModel" "direct" "[I", .fieldLink RX2 16 "FlakeTriageModel" "uses" "[I", .methodLink RX2 85 yX2_against, .instanceMethod yX2_against, .selects RX2 yX2_against yX2_against, .code yX2_against cX2_against 5 (some .int), .fieldLink RX2 29 "FlakeTriageModel" "fails" "[I", .fieldLink RX2 26 "FlakeTriageModel" "passes" "[I"] ++ wsX20)
def wsX2_counts_r1 : List Cond := [Cond.methodLink RX2 88 yX2_isCandidate, Cond.instanceMethod yX2_isCandidate, Cond.selects RX2 yX2_isCandidate yX2_isCandidate, Cond.initialized RX2, Cond.code yX2_isCandidate cX2_isCandidate 3 (some .boolean), Cond.fieldLink RX2 66 "FlakeTriageModel" "noise" "I", Cond.methodLink RX2 81 yX2_isSuspect, Cond.instanceMethod yX2_isSuspect, Cond.selects RX2 yX2_isSuspect yX2_isSuspect, Cond.code yX2_isSuspect cX2_isSuspect 3 (some .boolean), Cond.fieldLink RX2 32 "FlakeTriageModel" "good" "[I", Cond.fieldLink RX2 35 "FlakeTriageModel" "bad" "[I", Cond.fieldLink RX2 20 "FlakeTriageModel" "changes" "[I", Cond.methodLink RX2 77 yX2_reach, Cond.instanceMethod yX2_reach, Cond.selects RX2 yX2_reach yX2_reach, Cond.code yX2_reach cX2_reach 5 (some .int), Cond.fieldLink RX2 23 "FlakeTriageModel" "direct" "[I", Cond.fieldLink RX2 16 "FlakeTriageModel" "uses" "[I", Cond.methodLink RX2 85 yX2_against, Cond.instanceMethod yX2_against, Cond.selects RX2 yX2_against yX2_against, Cond.code yX2_against cX2_against 5 (some .int), Cond.fieldLink RX2 29 "FlakeTriageModel" "fails" "[I"]
def wsX2_counts_r2 : List Cond := [Cond.fieldLink RX2 26 "FlakeTriageModel" "passes" "[I"]
def wsX2_counts : List Cond := .code yX2_counts cX2_counts 6 (some .int) :: ((wsX2_counts_r1 ++ wsX2_counts_r2) ++ wsX20)
def wsX2_candidatesOf_r1 : List Cond := [Cond.fieldLink RX2 32 "FlakeTriageModel" "good" "[I", Cond.fieldLink RX2 35 "FlakeTriageModel" "bad" "[I", Cond.methodLink RX2 91 yX2_counts, Cond.instanceMethod yX2_counts, Cond.selects RX2 yX2_counts yX2_counts, Cond.initialized RX2, Cond.code yX2_counts cX2_counts 6 (some .int), Cond.methodLink RX2 88 yX2_isCandidate, Cond.instanceMethod yX2_isCandidate, Cond.selects RX2 yX2_isCandidate yX2_isCandidate, Cond.code yX2_isCandidate cX2_isCandidate 3 (some .boolean), Cond.fieldLink RX2 66 "FlakeTriageModel" "noise" "I", Cond.methodLink RX2 81 yX2_isSuspect, Cond.instanceMethod yX2_isSuspect, Cond.selects RX2 yX2_isSuspect yX2_isSuspect, Cond.code yX2_isSuspect cX2_isSuspect 3 (some .boolean), Cond.fieldLink RX2 20 "FlakeTriageModel" "changes" "[I", Cond.methodLink RX2 77 yX2_reach, Cond.instanceMethod yX2_reach, Cond.selects RX2 yX2_reach yX2_reach, Cond.code yX2_reach cX2_reach 5 (some .int), Cond.fieldLink RX2 23 "FlakeTriageModel" "direct" "[I", Cond.fieldLink RX2 16 "FlakeTriageModel" "uses" "[I", Cond.methodLink RX2 85 yX2_against]
def wsX2_candidatesOf_r2 : List Cond := [Cond.instanceMethod yX2_against, Cond.selects RX2 yX2_against yX2_against, Cond.code yX2_against cX2_against 5 (some .int), Cond.fieldLink RX2 29 "FlakeTriageModel" "fails" "[I", Cond.fieldLink RX2 26 "FlakeTriageModel" "passes" "[I"]
def wsX2_candidatesOf : List Cond := .code yX2_candidatesOf cX2_candidatesOf 2 (some .int) :: ((wsX2_candidatesOf_r1 ++ wsX2_candidatesOf_r2) ++ wsX20)
def wsX2_record_r1 : List Cond := [Cond.fieldLink RX2 26 "FlakeTriageModel" "passes" "[I", Cond.fieldLink RX2 29 "FlakeTriageModel" "fails" "[I", Cond.methodLink RX2 55 yX2_isTest, Cond.instanceMethod yX2_isTest, Cond.selects RX2 yX2_isTest yX2_isTest, Cond.initialized RX2, Cond.code yX2_isTest cX2_isTest 2 (some .boolean), Cond.fieldLink RX2 49 "FlakeTriageModel" "tests" "I", Cond.methodLink RX2 45 yX2_in, Cond.static yX2_in, Cond.code yX2_in cX2_in 3 (some .boolean), Cond.methodLink RX2 95 yX2_isCommit, Cond.instanceMethod yX2_isCommit, Cond.selects RX2 yX2_isCommit yX2_isCommit, Cond.code yX2_isCommit cX2_isCommit 2 (some .boolean), Cond.fieldLink RX2 52 "FlakeTriageModel" "commits" "I", Cond.methodLink RX2 98 yX2_allRuns, Cond.instanceMethod yX2_allRuns, Cond.selects RX2 yX2_allRuns yX2_allRuns, Cond.code yX2_allRuns cX2_allRuns 2 (some .int), Cond.methodLink RX2 69 yX2_all, Cond.instanceMethod yX2_all, Cond.selects RX2 yX2_all yX2_all, Cond.code yX2_all cX2_all 5 (some .int)]
def wsX2_record_r2 : List Cond := [Cond.methodLink RX2 62 yX2_goes, Cond.instanceMethod yX2_goes, Cond.selects RX2 yX2_goes yX2_goes, Cond.code yX2_goes cX2_goes 3 (some .boolean), Cond.fieldLink RX2 41 "FlakeTriageModel" "thrown" "I", Cond.methodLink RX2 73 yX2_verdictOf, Cond.instanceMethod yX2_verdictOf, Cond.selects RX2 yX2_verdictOf yX2_verdictOf, Cond.code yX2_verdictOf cX2_verdictOf 4 (some .int)]
def wsX2_record : List Cond := .code yX2_record cX2_record 5 (some .int) :: ((wsX2_record_r1 ++ wsX2_record_r2) ++ wsX20)
def wsX2_triage_r1 : List Cond := [Cond.fieldLink RX2 32 "FlakeTriageModel" "good" "[I", Cond.fieldLink RX2 35 "FlakeTriageModel" "bad" "[I", Cond.methodLink RX2 55 yX2_isTest, Cond.instanceMethod yX2_isTest, Cond.selects RX2 yX2_isTest yX2_isTest, Cond.initialized RX2, Cond.code yX2_isTest cX2_isTest 2 (some .boolean), Cond.fieldLink RX2 49 "FlakeTriageModel" "tests" "I", Cond.methodLink RX2 45 yX2_in, Cond.static yX2_in, Cond.code yX2_in cX2_in 3 (some .boolean), Cond.methodLink RX2 95 yX2_isCommit, Cond.instanceMethod yX2_isCommit, Cond.selects RX2 yX2_isCommit yX2_isCommit, Cond.code yX2_isCommit cX2_isCommit 2 (some .boolean), Cond.fieldLink RX2 52 "FlakeTriageModel" "commits" "I", Cond.methodLink RX2 62 yX2_goes, Cond.instanceMethod yX2_goes, Cond.selects RX2 yX2_goes yX2_goes, Cond.code yX2_goes cX2_goes 3 (some .boolean), Cond.fieldLink RX2 41 "FlakeTriageModel" "thrown" "I", Cond.methodLink RX2 101 yX2_candidatesOf, Cond.instanceMethod yX2_candidatesOf, Cond.selects RX2 yX2_candidatesOf yX2_candidatesOf]
def wsX2_triage_r2 : List Cond := [Cond.code yX2_candidatesOf cX2_candidatesOf 2 (some .int), Cond.methodLink RX2 91 yX2_counts, Cond.instanceMethod yX2_counts, Cond.selects RX2 yX2_counts yX2_counts, Cond.code yX2_counts cX2_counts 6 (some .int), Cond.methodLink RX2 88 yX2_isCandidate, Cond.instanceMethod yX2_isCandidate, Cond.selects RX2 yX2_isCandidate yX2_isCandidate, Cond.code yX2_isCandidate cX2_isCandidate 3 (some .boolean), Cond.fieldLink RX2 66 "FlakeTriageModel" "noise" "I", Cond.methodLink RX2 81 yX2_isSuspect, Cond.instanceMethod yX2_isSuspect, Cond.selects RX2 yX2_isSuspect yX2_isSuspect, Cond.code yX2_isSuspect cX2_isSuspect 3 (some .boolean), Cond.fieldLink RX2 20 "FlakeTriageModel" "changes" "[I", Cond.methodLink RX2 77 yX2_reach, Cond.instanceMethod yX2_reach, Cond.selects RX2 yX2_reach yX2_reach, Cond.code yX2_reach cX2_reach 5 (some .int), Cond.fieldLink RX2 23 "FlakeTriageModel" "direct" "[I", Cond.fieldLink RX2 16 "FlakeTriageModel" "uses" "[I", Cond.methodLink RX2 85 yX2_against, Cond.instanceMethod yX2_against, Cond.selects RX2 yX2_against yX2_against]
def wsX2_triage_r3 : List Cond := [Cond.code yX2_against cX2_against 5 (some .int), Cond.fieldLink RX2 29 "FlakeTriageModel" "fails" "[I", Cond.fieldLink RX2 26 "FlakeTriageModel" "passes" "[I"]
def wsX2_triage : List Cond := .code yX2_triage cX2_triage 4 (some .int) :: ((wsX2_triage_r1 ++ (wsX2_triage_r2 ++ wsX2_triage_r3)) ++ wsX20)
def wsX2_placeOf : List Cond := .code yX2_placeOf cX2_placeOf 4 (some .int) :: ([.fieldLink RX2 104 "FlakeTriageModel" "queued" "I", .fieldLink RX2 38 "FlakeTriageModel" "queue" "[I"] ++ wsX20)
def wsX2_leaves : List Cond := .code yX2_leaves cX2_leaves 3 none :: ([.fieldLink RX2 104 "FlakeTriageModel" "queued" "I", .fieldLink RX2 38 "FlakeTriageModel" "queue" "[I"] ++ wsX20)
def wsX2_joins : List Cond := .code yX2_joins cX2_joins 2 none :: ([.fieldLink RX2 38 "FlakeTriageModel" "queue" "[I", .fieldLink RX2 104 "FlakeTriageModel" "queued" "I"] ++ wsX20)
def wsX2_only_r1 : List Cond := [Cond.fieldLink RX2 32 "FlakeTriageModel" "good" "[I", Cond.fieldLink RX2 35 "FlakeTriageModel" "bad" "[I", Cond.methodLink RX2 88 yX2_isCandidate, Cond.instanceMethod yX2_isCandidate, Cond.selects RX2 yX2_isCandidate yX2_isCandidate, Cond.initialized RX2, Cond.code yX2_isCandidate cX2_isCandidate 3 (some .boolean), Cond.fieldLink RX2 66 "FlakeTriageModel" "noise" "I", Cond.methodLink RX2 81 yX2_isSuspect, Cond.instanceMethod yX2_isSuspect, Cond.selects RX2 yX2_isSuspect yX2_isSuspect, Cond.code yX2_isSuspect cX2_isSuspect 3 (some .boolean), Cond.fieldLink RX2 20 "FlakeTriageModel" "changes" "[I", Cond.methodLink RX2 77 yX2_reach, Cond.instanceMethod yX2_reach, Cond.selects RX2 yX2_reach yX2_reach, Cond.code yX2_reach cX2_reach 5 (some .int), Cond.fieldLink RX2 23 "FlakeTriageModel" "direct" "[I", Cond.fieldLink RX2 16 "FlakeTriageModel" "uses" "[I", Cond.methodLink RX2 85 yX2_against, Cond.instanceMethod yX2_against, Cond.selects RX2 yX2_against yX2_against, Cond.code yX2_against cX2_against 5 (some .int), Cond.fieldLink RX2 29 "FlakeTriageModel" "fails" "[I"]
def wsX2_only_r2 : List Cond := [Cond.fieldLink RX2 26 "FlakeTriageModel" "passes" "[I", Cond.methodLink RX2 101 yX2_candidatesOf, Cond.instanceMethod yX2_candidatesOf, Cond.selects RX2 yX2_candidatesOf yX2_candidatesOf, Cond.code yX2_candidatesOf cX2_candidatesOf 2 (some .int), Cond.methodLink RX2 91 yX2_counts, Cond.instanceMethod yX2_counts, Cond.selects RX2 yX2_counts yX2_counts, Cond.code yX2_counts cX2_counts 6 (some .int)]
def wsX2_only : List Cond := .code yX2_only cX2_only 4 (some .int) :: ((wsX2_only_r1 ++ wsX2_only_r2) ++ wsX20)
def wsX2_close_r1 : List Cond := [Cond.fieldLink RX2 32 "FlakeTriageModel" "good" "[I", Cond.methodLink RX2 55 yX2_isTest, Cond.instanceMethod yX2_isTest, Cond.selects RX2 yX2_isTest yX2_isTest, Cond.initialized RX2, Cond.code yX2_isTest cX2_isTest 2 (some .boolean), Cond.fieldLink RX2 49 "FlakeTriageModel" "tests" "I", Cond.methodLink RX2 45 yX2_in, Cond.static yX2_in, Cond.code yX2_in cX2_in 3 (some .boolean), Cond.methodLink RX2 107 yX2_isInTriage, Cond.instanceMethod yX2_isInTriage, Cond.selects RX2 yX2_isInTriage yX2_isInTriage, Cond.code yX2_isInTriage cX2_isInTriage 2 (some .boolean), Cond.methodLink RX2 62 yX2_goes, Cond.instanceMethod yX2_goes, Cond.selects RX2 yX2_goes yX2_goes, Cond.code yX2_goes cX2_goes 3 (some .boolean), Cond.fieldLink RX2 41 "FlakeTriageModel" "thrown" "I", Cond.methodLink RX2 110 yX2_only, Cond.instanceMethod yX2_only, Cond.selects RX2 yX2_only yX2_only, Cond.code yX2_only cX2_only 4 (some .int), Cond.fieldLink RX2 35 "FlakeTriageModel" "bad" "[I"]
def wsX2_close_r2 : List Cond := [Cond.methodLink RX2 88 yX2_isCandidate, Cond.instanceMethod yX2_isCandidate, Cond.selects RX2 yX2_isCandidate yX2_isCandidate, Cond.code yX2_isCandidate cX2_isCandidate 3 (some .boolean), Cond.fieldLink RX2 66 "FlakeTriageModel" "noise" "I", Cond.methodLink RX2 81 yX2_isSuspect, Cond.instanceMethod yX2_isSuspect, Cond.selects RX2 yX2_isSuspect yX2_isSuspect, Cond.code yX2_isSuspect cX2_isSuspect 3 (some .boolean), Cond.fieldLink RX2 20 "FlakeTriageModel" "changes" "[I", Cond.methodLink RX2 77 yX2_reach, Cond.instanceMethod yX2_reach, Cond.selects RX2 yX2_reach yX2_reach, Cond.code yX2_reach cX2_reach 5 (some .int), Cond.fieldLink RX2 23 "FlakeTriageModel" "direct" "[I", Cond.fieldLink RX2 16 "FlakeTriageModel" "uses" "[I", Cond.methodLink RX2 85 yX2_against, Cond.instanceMethod yX2_against, Cond.selects RX2 yX2_against yX2_against, Cond.code yX2_against cX2_against 5 (some .int), Cond.fieldLink RX2 29 "FlakeTriageModel" "fails" "[I", Cond.fieldLink RX2 26 "FlakeTriageModel" "passes" "[I", Cond.methodLink RX2 101 yX2_candidatesOf, Cond.instanceMethod yX2_candidatesOf]
def wsX2_close_r3 : List Cond := [Cond.selects RX2 yX2_candidatesOf yX2_candidatesOf, Cond.code yX2_candidatesOf cX2_candidatesOf 2 (some .int), Cond.methodLink RX2 91 yX2_counts, Cond.instanceMethod yX2_counts, Cond.selects RX2 yX2_counts yX2_counts, Cond.code yX2_counts cX2_counts 6 (some .int), Cond.methodLink RX2 113 yX2_placeOf, Cond.instanceMethod yX2_placeOf, Cond.selects RX2 yX2_placeOf yX2_placeOf, Cond.code yX2_placeOf cX2_placeOf 4 (some .int), Cond.fieldLink RX2 104 "FlakeTriageModel" "queued" "I", Cond.fieldLink RX2 38 "FlakeTriageModel" "queue" "[I", Cond.methodLink RX2 116 yX2_leaves, Cond.instanceMethod yX2_leaves, Cond.selects RX2 yX2_leaves yX2_leaves, Cond.code yX2_leaves cX2_leaves 3 none]
def wsX2_close : List Cond := .code yX2_close cX2_close 3 (some .int) :: ((wsX2_close_r1 ++ (wsX2_close_r2 ++ wsX2_close_r3)) ++ wsX20)
def wsX2_enqueue_r1 : List Cond := [Cond.fieldLink RX2 104 "FlakeTriageModel" "queued" "I", Cond.methodLink RX2 55 yX2_isTest, Cond.instanceMethod yX2_isTest, Cond.selects RX2 yX2_isTest yX2_isTest, Cond.initialized RX2, Cond.code yX2_isTest cX2_isTest 2 (some .boolean), Cond.fieldLink RX2 49 "FlakeTriageModel" "tests" "I", Cond.methodLink RX2 45 yX2_in, Cond.static yX2_in, Cond.code yX2_in cX2_in 3 (some .boolean), Cond.methodLink RX2 107 yX2_isInTriage, Cond.instanceMethod yX2_isInTriage, Cond.selects RX2 yX2_isInTriage yX2_isInTriage, Cond.code yX2_isInTriage cX2_isInTriage 2 (some .boolean), Cond.fieldLink RX2 32 "FlakeTriageModel" "good" "[I", Cond.methodLink RX2 113 yX2_placeOf, Cond.instanceMethod yX2_placeOf, Cond.selects RX2 yX2_placeOf yX2_placeOf, Cond.code yX2_placeOf cX2_placeOf 4 (some .int), Cond.fieldLink RX2 38 "FlakeTriageModel" "queue" "[I", Cond.methodLink RX2 62 yX2_goes, Cond.instanceMethod yX2_goes, Cond.selects RX2 yX2_goes yX2_goes, Cond.code yX2_goes cX2_goes 3 (some .boolean)]
def wsX2_enqueue_r2 : List Cond := [Cond.fieldLink RX2 41 "FlakeTriageModel" "thrown" "I", Cond.methodLink RX2 120 yX2_joins, Cond.instanceMethod yX2_joins, Cond.selects RX2 yX2_joins yX2_joins, Cond.code yX2_joins cX2_joins 2 none]
def wsX2_enqueue : List Cond := .code yX2_enqueue cX2_enqueue 2 (some .int) :: ((wsX2_enqueue_r1 ++ wsX2_enqueue_r2) ++ wsX20)
def wsX2_newDay : List Cond := .code yX2_newDay cX2_newDay 3 (some .int) :: ([.fieldLink RX2 123 "FlakeTriageModel" "budget" "I", .methodLink RX2 45 yX2_in, .static yX2_in, .initialized RX2, .code yX2_in cX2_in 3 (some .boolean), .methodLink RX2 62 yX2_goes, .instanceMethod yX2_goes, .selects RX2 yX2_goes yX2_goes, .code yX2_goes cX2_goes 3 (some .boolean), .fieldLink RX2 41 "FlakeTriageModel" "thrown" "I"] ++ wsX20)
def wsX2_take_r1 : List Cond := [Cond.fieldLink RX2 104 "FlakeTriageModel" "queued" "I", Cond.fieldLink RX2 123 "FlakeTriageModel" "budget" "I", Cond.fieldLink RX2 38 "FlakeTriageModel" "queue" "[I", Cond.methodLink RX2 62 yX2_goes, Cond.instanceMethod yX2_goes, Cond.selects RX2 yX2_goes yX2_goes, Cond.initialized RX2, Cond.code yX2_goes cX2_goes 3 (some .boolean), Cond.fieldLink RX2 41 "FlakeTriageModel" "thrown" "I", Cond.methodLink RX2 116 yX2_leaves, Cond.instanceMethod yX2_leaves, Cond.selects RX2 yX2_leaves yX2_leaves, Cond.code yX2_leaves cX2_leaves 3 none, Cond.methodLink RX2 101 yX2_candidatesOf, Cond.instanceMethod yX2_candidatesOf, Cond.selects RX2 yX2_candidatesOf yX2_candidatesOf, Cond.code yX2_candidatesOf cX2_candidatesOf 2 (some .int), Cond.fieldLink RX2 32 "FlakeTriageModel" "good" "[I", Cond.fieldLink RX2 35 "FlakeTriageModel" "bad" "[I", Cond.methodLink RX2 91 yX2_counts, Cond.instanceMethod yX2_counts, Cond.selects RX2 yX2_counts yX2_counts, Cond.code yX2_counts cX2_counts 6 (some .int), Cond.methodLink RX2 88 yX2_isCandidate]
def wsX2_take_r2 : List Cond := [Cond.instanceMethod yX2_isCandidate, Cond.selects RX2 yX2_isCandidate yX2_isCandidate, Cond.code yX2_isCandidate cX2_isCandidate 3 (some .boolean), Cond.fieldLink RX2 66 "FlakeTriageModel" "noise" "I", Cond.methodLink RX2 81 yX2_isSuspect, Cond.instanceMethod yX2_isSuspect, Cond.selects RX2 yX2_isSuspect yX2_isSuspect, Cond.code yX2_isSuspect cX2_isSuspect 3 (some .boolean), Cond.fieldLink RX2 20 "FlakeTriageModel" "changes" "[I", Cond.methodLink RX2 77 yX2_reach, Cond.instanceMethod yX2_reach, Cond.selects RX2 yX2_reach yX2_reach, Cond.code yX2_reach cX2_reach 5 (some .int), Cond.fieldLink RX2 23 "FlakeTriageModel" "direct" "[I", Cond.fieldLink RX2 16 "FlakeTriageModel" "uses" "[I", Cond.methodLink RX2 85 yX2_against, Cond.instanceMethod yX2_against, Cond.selects RX2 yX2_against yX2_against, Cond.code yX2_against cX2_against 5 (some .int), Cond.fieldLink RX2 29 "FlakeTriageModel" "fails" "[I", Cond.fieldLink RX2 26 "FlakeTriageModel" "passes" "[I", Cond.methodLink RX2 120 yX2_joins, Cond.instanceMethod yX2_joins, Cond.selects RX2 yX2_joins yX2_joins]
def wsX2_take_r3 : List Cond := [Cond.code yX2_joins cX2_joins 2 none]
def wsX2_take : List Cond := .code yX2_take cX2_take 2 (some .int) :: ((wsX2_take_r1 ++ (wsX2_take_r2 ++ wsX2_take_r3)) ++ wsX20)
def wsX2_commits : List Cond := .code yX2_commits cX2_commits 1 (some .int) :: ([.fieldLink RX2 52 "FlakeTriageModel" "commits" "I", .methodLink RX2 126 yX2_told, .instanceMethod yX2_told, .selects RX2 yX2_told yX2_told, .initialized RX2, .code yX2_told cX2_told 2 (some .int), .fieldLink RX2 41 "FlakeTriageModel" "thrown" "I"] ++ wsX20)
def wsX2_tests : List Cond := .code yX2_tests cX2_tests 1 (some .int) :: ([.fieldLink RX2 49 "FlakeTriageModel" "tests" "I", .methodLink RX2 126 yX2_told, .instanceMethod yX2_told, .selects RX2 yX2_told yX2_told, .initialized RX2, .code yX2_told cX2_told 2 (some .int), .fieldLink RX2 41 "FlakeTriageModel" "thrown" "I"] ++ wsX20)
def wsX2_budget : List Cond := .code yX2_budget cX2_budget 1 (some .int) :: ([.fieldLink RX2 123 "FlakeTriageModel" "budget" "I", .methodLink RX2 126 yX2_told, .instanceMethod yX2_told, .selects RX2 yX2_told yX2_told, .initialized RX2, .code yX2_told cX2_told 2 (some .int), .fieldLink RX2 41 "FlakeTriageModel" "thrown" "I"] ++ wsX20)
def wsX2_queued : List Cond := .code yX2_queued cX2_queued 1 (some .int) :: ([.fieldLink RX2 104 "FlakeTriageModel" "queued" "I", .methodLink RX2 126 yX2_told, .instanceMethod yX2_told, .selects RX2 yX2_told yX2_told, .initialized RX2, .code yX2_told cX2_told 2 (some .int), .fieldLink RX2 41 "FlakeTriageModel" "thrown" "I"] ++ wsX20)
def wsX2_partsOf : List Cond := .code yX2_partsOf cX2_partsOf 2 (some .int) :: ([.methodLink RX2 55 yX2_isTest, .instanceMethod yX2_isTest, .selects RX2 yX2_isTest yX2_isTest, .initialized RX2, .code yX2_isTest cX2_isTest 2 (some .boolean), .fieldLink RX2 49 "FlakeTriageModel" "tests" "I", .methodLink RX2 45 yX2_in, .static yX2_in, .code yX2_in cX2_in 3 (some .boolean), .methodLink RX2 62 yX2_goes, .instanceMethod yX2_goes, .selects RX2 yX2_goes yX2_goes, .code yX2_goes cX2_goes 3 (some .boolean), .fieldLink RX2 41 "FlakeTriageModel" "thrown" "I", .methodLink RX2 77 yX2_reach, .instanceMethod yX2_reach, .selects RX2 yX2_reach yX2_reach, .code yX2_reach cX2_reach 5 (some .int), .fieldLink RX2 23 "FlakeTriageModel" "direct" "[I", .fieldLink RX2 16 "FlakeTriageModel" "uses" "[I"] ++ wsX20)
def wsX2_touches : List Cond := .code yX2_touches cX2_touches 5 (some .int) :: ([.fieldLink RX2 49 "FlakeTriageModel" "tests" "I", .fieldLink RX2 20 "FlakeTriageModel" "changes" "[I", .methodLink RX2 95 yX2_isCommit, .instanceMethod yX2_isCommit, .selects RX2 yX2_isCommit yX2_isCommit, .initialized RX2, .code yX2_isCommit cX2_isCommit 2 (some .boolean), .fieldLink RX2 52 "FlakeTriageModel" "commits" "I", .methodLink RX2 45 yX2_in, .static yX2_in, .code yX2_in cX2_in 3 (some .boolean), .methodLink RX2 62 yX2_goes, .instanceMethod yX2_goes, .selects RX2 yX2_goes yX2_goes, .code yX2_goes cX2_goes 3 (some .boolean), .fieldLink RX2 41 "FlakeTriageModel" "thrown" "I", .methodLink RX2 77 yX2_reach, .instanceMethod yX2_reach, .selects RX2 yX2_reach yX2_reach, .code yX2_reach cX2_reach 5 (some .int), .fieldLink RX2 23 "FlakeTriageModel" "direct" "[I", .fieldLink RX2 16 "FlakeTriageModel" "uses" "[I"] ++ wsX20)
def wsX2_runs : List Cond := .code yX2_runs cX2_runs 2 (some .int) :: ([.methodLink RX2 55 yX2_isTest, .instanceMethod yX2_isTest, .selects RX2 yX2_isTest yX2_isTest, .initialized RX2, .code yX2_isTest cX2_isTest 2 (some .boolean), .fieldLink RX2 49 "FlakeTriageModel" "tests" "I", .methodLink RX2 45 yX2_in, .static yX2_in, .code yX2_in cX2_in 3 (some .boolean), .methodLink RX2 62 yX2_goes, .instanceMethod yX2_goes, .selects RX2 yX2_goes yX2_goes, .code yX2_goes cX2_goes 3 (some .boolean), .fieldLink RX2 41 "FlakeTriageModel" "thrown" "I", .methodLink RX2 98 yX2_allRuns, .instanceMethod yX2_allRuns, .selects RX2 yX2_allRuns yX2_allRuns, .code yX2_allRuns cX2_allRuns 2 (some .int), .fieldLink RX2 26 "FlakeTriageModel" "passes" "[I", .fieldLink RX2 29 "FlakeTriageModel" "fails" "[I", .methodLink RX2 69 yX2_all, .instanceMethod yX2_all, .selects RX2 yX2_all yX2_all, .code yX2_all cX2_all 5 (some .int)] ++ wsX20)
def wsX2_verdict_r1 : List Cond := [Cond.methodLink RX2 55 yX2_isTest, Cond.instanceMethod yX2_isTest, Cond.selects RX2 yX2_isTest yX2_isTest, Cond.initialized RX2, Cond.code yX2_isTest cX2_isTest 2 (some .boolean), Cond.fieldLink RX2 49 "FlakeTriageModel" "tests" "I", Cond.methodLink RX2 45 yX2_in, Cond.static yX2_in, Cond.code yX2_in cX2_in 3 (some .boolean), Cond.methodLink RX2 95 yX2_isCommit, Cond.instanceMethod yX2_isCommit, Cond.selects RX2 yX2_isCommit yX2_isCommit, Cond.code yX2_isCommit cX2_isCommit 2 (some .boolean), Cond.fieldLink RX2 52 "FlakeTriageModel" "commits" "I", Cond.methodLink RX2 62 yX2_goes, Cond.instanceMethod yX2_goes, Cond.selects RX2 yX2_goes yX2_goes, Cond.code yX2_goes cX2_goes 3 (some .boolean), Cond.fieldLink RX2 41 "FlakeTriageModel" "thrown" "I", Cond.methodLink RX2 73 yX2_verdictOf, Cond.instanceMethod yX2_verdictOf, Cond.selects RX2 yX2_verdictOf yX2_verdictOf, Cond.code yX2_verdictOf cX2_verdictOf 4 (some .int), Cond.fieldLink RX2 26 "FlakeTriageModel" "passes" "[I"]
def wsX2_verdict_r2 : List Cond := [Cond.fieldLink RX2 29 "FlakeTriageModel" "fails" "[I"]
def wsX2_verdict : List Cond := .code yX2_verdict cX2_verdict 3 (some .int) :: ((wsX2_verdict_r1 ++ wsX2_verdict_r2) ++ wsX20)
def wsX2_failing : List Cond := .code yX2_failing cX2_failing 2 (some .int) :: ([.fieldLink RX2 29 "FlakeTriageModel" "fails" "[I", .methodLink RX2 55 yX2_isTest, .instanceMethod yX2_isTest, .selects RX2 yX2_isTest yX2_isTest, .initialized RX2, .code yX2_isTest cX2_isTest 2 (some .boolean), .fieldLink RX2 49 "FlakeTriageModel" "tests" "I", .methodLink RX2 45 yX2_in, .static yX2_in, .code yX2_in cX2_in 3 (some .boolean), .methodLink RX2 62 yX2_goes, .instanceMethod yX2_goes, .selects RX2 yX2_goes yX2_goes, .code yX2_goes cX2_goes 3 (some .boolean), .fieldLink RX2 41 "FlakeTriageModel" "thrown" "I", .methodLink RX2 98 yX2_allRuns, .instanceMethod yX2_allRuns, .selects RX2 yX2_allRuns yX2_allRuns, .code yX2_allRuns cX2_allRuns 2 (some .int), .fieldLink RX2 26 "FlakeTriageModel" "passes" "[I", .methodLink RX2 69 yX2_all, .instanceMethod yX2_all, .selects RX2 yX2_all yX2_all, .code yX2_all cX2_all 5 (some .int)] ++ wsX20)
def wsX2_isQuarantined_r1 : List Cond := [Cond.methodLink RX2 55 yX2_isTest, Cond.instanceMethod yX2_isTest, Cond.selects RX2 yX2_isTest yX2_isTest, Cond.initialized RX2, Cond.code yX2_isTest cX2_isTest 2 (some .boolean), Cond.fieldLink RX2 49 "FlakeTriageModel" "tests" "I", Cond.methodLink RX2 45 yX2_in, Cond.static yX2_in, Cond.code yX2_in cX2_in 3 (some .boolean), Cond.methodLink RX2 62 yX2_goes, Cond.instanceMethod yX2_goes, Cond.selects RX2 yX2_goes yX2_goes, Cond.code yX2_goes cX2_goes 3 (some .boolean), Cond.fieldLink RX2 41 "FlakeTriageModel" "thrown" "I", Cond.methodLink RX2 129 yX2_isUnsteady, Cond.instanceMethod yX2_isUnsteady, Cond.selects RX2 yX2_isUnsteady yX2_isUnsteady, Cond.code yX2_isUnsteady cX2_isUnsteady 4 (some .boolean), Cond.fieldLink RX2 52 "FlakeTriageModel" "commits" "I", Cond.fieldLink RX2 13 "FlakeTriageModel" "window" "I", Cond.fieldLink RX2 7 "FlakeTriageModel" "limit" "I", Cond.methodLink RX2 73 yX2_verdictOf, Cond.instanceMethod yX2_verdictOf, Cond.selects RX2 yX2_verdictOf yX2_verdictOf]
def wsX2_isQuarantined_r2 : List Cond := [Cond.code yX2_verdictOf cX2_verdictOf 4 (some .int), Cond.fieldLink RX2 26 "FlakeTriageModel" "passes" "[I", Cond.fieldLink RX2 29 "FlakeTriageModel" "fails" "[I"]
def wsX2_isQuarantined : List Cond := .code yX2_isQuarantined cX2_isQuarantined 2 (some .boolean) :: ((wsX2_isQuarantined_r1 ++ wsX2_isQuarantined_r2) ++ wsX20)
def wsX2_broken_r1 : List Cond := [Cond.fieldLink RX2 49 "FlakeTriageModel" "tests" "I", Cond.methodLink RX2 95 yX2_isCommit, Cond.instanceMethod yX2_isCommit, Cond.selects RX2 yX2_isCommit yX2_isCommit, Cond.initialized RX2, Cond.code yX2_isCommit cX2_isCommit 2 (some .boolean), Cond.fieldLink RX2 52 "FlakeTriageModel" "commits" "I", Cond.methodLink RX2 45 yX2_in, Cond.static yX2_in, Cond.code yX2_in cX2_in 3 (some .boolean), Cond.methodLink RX2 62 yX2_goes, Cond.instanceMethod yX2_goes, Cond.selects RX2 yX2_goes yX2_goes, Cond.code yX2_goes cX2_goes 3 (some .boolean), Cond.fieldLink RX2 41 "FlakeTriageModel" "thrown" "I", Cond.methodLink RX2 73 yX2_verdictOf, Cond.instanceMethod yX2_verdictOf, Cond.selects RX2 yX2_verdictOf yX2_verdictOf, Cond.code yX2_verdictOf cX2_verdictOf 4 (some .int), Cond.fieldLink RX2 26 "FlakeTriageModel" "passes" "[I", Cond.fieldLink RX2 29 "FlakeTriageModel" "fails" "[I", Cond.methodLink RX2 129 yX2_isUnsteady, Cond.instanceMethod yX2_isUnsteady, Cond.selects RX2 yX2_isUnsteady yX2_isUnsteady]
def wsX2_broken_r2 : List Cond := [Cond.code yX2_isUnsteady cX2_isUnsteady 4 (some .boolean), Cond.fieldLink RX2 13 "FlakeTriageModel" "window" "I", Cond.fieldLink RX2 7 "FlakeTriageModel" "limit" "I"]
def wsX2_broken : List Cond := .code yX2_broken cX2_broken 5 (some .int) :: ((wsX2_broken_r1 ++ wsX2_broken_r2) ++ wsX20)
def wsX2_suspects_r1 : List Cond := [Cond.fieldLink RX2 52 "FlakeTriageModel" "commits" "I", Cond.methodLink RX2 55 yX2_isTest, Cond.instanceMethod yX2_isTest, Cond.selects RX2 yX2_isTest yX2_isTest, Cond.initialized RX2, Cond.code yX2_isTest cX2_isTest 2 (some .boolean), Cond.fieldLink RX2 49 "FlakeTriageModel" "tests" "I", Cond.methodLink RX2 45 yX2_in, Cond.static yX2_in, Cond.code yX2_in cX2_in 3 (some .boolean), Cond.methodLink RX2 107 yX2_isInTriage, Cond.instanceMethod yX2_isInTriage, Cond.selects RX2 yX2_isInTriage yX2_isInTriage, Cond.code yX2_isInTriage cX2_isInTriage 2 (some .boolean), Cond.fieldLink RX2 32 "FlakeTriageModel" "good" "[I", Cond.methodLink RX2 62 yX2_goes, Cond.instanceMethod yX2_goes, Cond.selects RX2 yX2_goes yX2_goes, Cond.code yX2_goes cX2_goes 3 (some .boolean), Cond.fieldLink RX2 41 "FlakeTriageModel" "thrown" "I", Cond.methodLink RX2 81 yX2_isSuspect, Cond.instanceMethod yX2_isSuspect, Cond.selects RX2 yX2_isSuspect yX2_isSuspect, Cond.code yX2_isSuspect cX2_isSuspect 3 (some .boolean)]
def wsX2_suspects_r2 : List Cond := [Cond.fieldLink RX2 35 "FlakeTriageModel" "bad" "[I", Cond.fieldLink RX2 20 "FlakeTriageModel" "changes" "[I", Cond.methodLink RX2 77 yX2_reach, Cond.instanceMethod yX2_reach, Cond.selects RX2 yX2_reach yX2_reach, Cond.code yX2_reach cX2_reach 5 (some .int), Cond.fieldLink RX2 23 "FlakeTriageModel" "direct" "[I", Cond.fieldLink RX2 16 "FlakeTriageModel" "uses" "[I"]
def wsX2_suspects : List Cond := .code yX2_suspects cX2_suspects 6 (some .long) :: ((wsX2_suspects_r1 ++ wsX2_suspects_r2) ++ wsX20)
def wsX2_contradictions_r1 : List Cond := [Cond.methodLink RX2 55 yX2_isTest, Cond.instanceMethod yX2_isTest, Cond.selects RX2 yX2_isTest yX2_isTest, Cond.initialized RX2, Cond.code yX2_isTest cX2_isTest 2 (some .boolean), Cond.fieldLink RX2 49 "FlakeTriageModel" "tests" "I", Cond.methodLink RX2 45 yX2_in, Cond.static yX2_in, Cond.code yX2_in cX2_in 3 (some .boolean), Cond.methodLink RX2 95 yX2_isCommit, Cond.instanceMethod yX2_isCommit, Cond.selects RX2 yX2_isCommit yX2_isCommit, Cond.code yX2_isCommit cX2_isCommit 2 (some .boolean), Cond.fieldLink RX2 52 "FlakeTriageModel" "commits" "I", Cond.methodLink RX2 107 yX2_isInTriage, Cond.instanceMethod yX2_isInTriage, Cond.selects RX2 yX2_isInTriage yX2_isInTriage, Cond.code yX2_isInTriage cX2_isInTriage 2 (some .boolean), Cond.fieldLink RX2 32 "FlakeTriageModel" "good" "[I", Cond.methodLink RX2 62 yX2_goes, Cond.instanceMethod yX2_goes, Cond.selects RX2 yX2_goes yX2_goes, Cond.code yX2_goes cX2_goes 3 (some .boolean), Cond.fieldLink RX2 41 "FlakeTriageModel" "thrown" "I"]
def wsX2_contradictions_r2 : List Cond := [Cond.methodLink RX2 81 yX2_isSuspect, Cond.instanceMethod yX2_isSuspect, Cond.selects RX2 yX2_isSuspect yX2_isSuspect, Cond.code yX2_isSuspect cX2_isSuspect 3 (some .boolean), Cond.fieldLink RX2 35 "FlakeTriageModel" "bad" "[I", Cond.fieldLink RX2 20 "FlakeTriageModel" "changes" "[I", Cond.methodLink RX2 77 yX2_reach, Cond.instanceMethod yX2_reach, Cond.selects RX2 yX2_reach yX2_reach, Cond.code yX2_reach cX2_reach 5 (some .int), Cond.fieldLink RX2 23 "FlakeTriageModel" "direct" "[I", Cond.fieldLink RX2 16 "FlakeTriageModel" "uses" "[I", Cond.methodLink RX2 85 yX2_against, Cond.instanceMethod yX2_against, Cond.selects RX2 yX2_against yX2_against, Cond.code yX2_against cX2_against 5 (some .int), Cond.fieldLink RX2 29 "FlakeTriageModel" "fails" "[I", Cond.fieldLink RX2 26 "FlakeTriageModel" "passes" "[I"]
def wsX2_contradictions : List Cond := .code yX2_contradictions cX2_contradictions 3 (some .int) :: ((wsX2_contradictions_r1 ++ wsX2_contradictions_r2) ++ wsX20)
def wsX2_candidates_r1 : List Cond := [Cond.fieldLink RX2 52 "FlakeTriageModel" "commits" "I", Cond.methodLink RX2 55 yX2_isTest, Cond.instanceMethod yX2_isTest, Cond.selects RX2 yX2_isTest yX2_isTest, Cond.initialized RX2, Cond.code yX2_isTest cX2_isTest 2 (some .boolean), Cond.fieldLink RX2 49 "FlakeTriageModel" "tests" "I", Cond.methodLink RX2 45 yX2_in, Cond.static yX2_in, Cond.code yX2_in cX2_in 3 (some .boolean), Cond.methodLink RX2 107 yX2_isInTriage, Cond.instanceMethod yX2_isInTriage, Cond.selects RX2 yX2_isInTriage yX2_isInTriage, Cond.code yX2_isInTriage cX2_isInTriage 2 (some .boolean), Cond.fieldLink RX2 32 "FlakeTriageModel" "good" "[I", Cond.methodLink RX2 62 yX2_goes, Cond.instanceMethod yX2_goes, Cond.selects RX2 yX2_goes yX2_goes, Cond.code yX2_goes cX2_goes 3 (some .boolean), Cond.fieldLink RX2 41 "FlakeTriageModel" "thrown" "I", Cond.methodLink RX2 88 yX2_isCandidate, Cond.instanceMethod yX2_isCandidate, Cond.selects RX2 yX2_isCandidate yX2_isCandidate, Cond.code yX2_isCandidate cX2_isCandidate 3 (some .boolean)]
def wsX2_candidates_r2 : List Cond := [Cond.fieldLink RX2 66 "FlakeTriageModel" "noise" "I", Cond.methodLink RX2 81 yX2_isSuspect, Cond.instanceMethod yX2_isSuspect, Cond.selects RX2 yX2_isSuspect yX2_isSuspect, Cond.code yX2_isSuspect cX2_isSuspect 3 (some .boolean), Cond.fieldLink RX2 35 "FlakeTriageModel" "bad" "[I", Cond.fieldLink RX2 20 "FlakeTriageModel" "changes" "[I", Cond.methodLink RX2 77 yX2_reach, Cond.instanceMethod yX2_reach, Cond.selects RX2 yX2_reach yX2_reach, Cond.code yX2_reach cX2_reach 5 (some .int), Cond.fieldLink RX2 23 "FlakeTriageModel" "direct" "[I", Cond.fieldLink RX2 16 "FlakeTriageModel" "uses" "[I", Cond.methodLink RX2 85 yX2_against, Cond.instanceMethod yX2_against, Cond.selects RX2 yX2_against yX2_against, Cond.code yX2_against cX2_against 5 (some .int), Cond.fieldLink RX2 29 "FlakeTriageModel" "fails" "[I", Cond.fieldLink RX2 26 "FlakeTriageModel" "passes" "[I"]
def wsX2_candidates : List Cond := .code yX2_candidates cX2_candidates 6 (some .long) :: ((wsX2_candidates_r1 ++ wsX2_candidates_r2) ++ wsX20)
def wsX2_likeliest_r1 : List Cond := [Cond.fieldLink RX2 35 "FlakeTriageModel" "bad" "[I", Cond.fieldLink RX2 32 "FlakeTriageModel" "good" "[I", Cond.methodLink RX2 55 yX2_isTest, Cond.instanceMethod yX2_isTest, Cond.selects RX2 yX2_isTest yX2_isTest, Cond.initialized RX2, Cond.code yX2_isTest cX2_isTest 2 (some .boolean), Cond.fieldLink RX2 49 "FlakeTriageModel" "tests" "I", Cond.methodLink RX2 45 yX2_in, Cond.static yX2_in, Cond.code yX2_in cX2_in 3 (some .boolean), Cond.methodLink RX2 107 yX2_isInTriage, Cond.instanceMethod yX2_isInTriage, Cond.selects RX2 yX2_isInTriage yX2_isInTriage, Cond.code yX2_isInTriage cX2_isInTriage 2 (some .boolean), Cond.methodLink RX2 62 yX2_goes, Cond.instanceMethod yX2_goes, Cond.selects RX2 yX2_goes yX2_goes, Cond.code yX2_goes cX2_goes 3 (some .boolean), Cond.fieldLink RX2 41 "FlakeTriageModel" "thrown" "I", Cond.methodLink RX2 81 yX2_isSuspect, Cond.instanceMethod yX2_isSuspect, Cond.selects RX2 yX2_isSuspect yX2_isSuspect, Cond.code yX2_isSuspect cX2_isSuspect 3 (some .boolean)]
def wsX2_likeliest_r2 : List Cond := [Cond.fieldLink RX2 20 "FlakeTriageModel" "changes" "[I", Cond.methodLink RX2 77 yX2_reach, Cond.instanceMethod yX2_reach, Cond.selects RX2 yX2_reach yX2_reach, Cond.code yX2_reach cX2_reach 5 (some .int), Cond.fieldLink RX2 23 "FlakeTriageModel" "direct" "[I", Cond.fieldLink RX2 16 "FlakeTriageModel" "uses" "[I", Cond.methodLink RX2 85 yX2_against, Cond.instanceMethod yX2_against, Cond.selects RX2 yX2_against yX2_against, Cond.code yX2_against cX2_against 5 (some .int), Cond.fieldLink RX2 29 "FlakeTriageModel" "fails" "[I", Cond.fieldLink RX2 26 "FlakeTriageModel" "passes" "[I"]
def wsX2_likeliest : List Cond := .code yX2_likeliest cX2_likeliest 5 (some .int) :: ((wsX2_likeliest_r1 ++ wsX2_likeliest_r2) ++ wsX20)
def wsX2_next_r1 : List Cond := [Cond.fieldLink RX2 32 "FlakeTriageModel" "good" "[I", Cond.fieldLink RX2 35 "FlakeTriageModel" "bad" "[I", Cond.fieldLink RX2 26 "FlakeTriageModel" "passes" "[I", Cond.fieldLink RX2 29 "FlakeTriageModel" "fails" "[I", Cond.methodLink RX2 55 yX2_isTest, Cond.instanceMethod yX2_isTest, Cond.selects RX2 yX2_isTest yX2_isTest, Cond.initialized RX2, Cond.code yX2_isTest cX2_isTest 2 (some .boolean), Cond.fieldLink RX2 49 "FlakeTriageModel" "tests" "I", Cond.methodLink RX2 45 yX2_in, Cond.static yX2_in, Cond.code yX2_in cX2_in 3 (some .boolean), Cond.methodLink RX2 107 yX2_isInTriage, Cond.instanceMethod yX2_isInTriage, Cond.selects RX2 yX2_isInTriage yX2_isInTriage, Cond.code yX2_isInTriage cX2_isInTriage 2 (some .boolean), Cond.methodLink RX2 62 yX2_goes, Cond.instanceMethod yX2_goes, Cond.selects RX2 yX2_goes yX2_goes, Cond.code yX2_goes cX2_goes 3 (some .boolean), Cond.fieldLink RX2 41 "FlakeTriageModel" "thrown" "I", Cond.methodLink RX2 91 yX2_counts, Cond.instanceMethod yX2_counts]
def wsX2_next_r2 : List Cond := [Cond.selects RX2 yX2_counts yX2_counts, Cond.code yX2_counts cX2_counts 6 (some .int), Cond.methodLink RX2 88 yX2_isCandidate, Cond.instanceMethod yX2_isCandidate, Cond.selects RX2 yX2_isCandidate yX2_isCandidate, Cond.code yX2_isCandidate cX2_isCandidate 3 (some .boolean), Cond.fieldLink RX2 66 "FlakeTriageModel" "noise" "I", Cond.methodLink RX2 81 yX2_isSuspect, Cond.instanceMethod yX2_isSuspect, Cond.selects RX2 yX2_isSuspect yX2_isSuspect, Cond.code yX2_isSuspect cX2_isSuspect 3 (some .boolean), Cond.fieldLink RX2 20 "FlakeTriageModel" "changes" "[I", Cond.methodLink RX2 77 yX2_reach, Cond.instanceMethod yX2_reach, Cond.selects RX2 yX2_reach yX2_reach, Cond.code yX2_reach cX2_reach 5 (some .int), Cond.fieldLink RX2 23 "FlakeTriageModel" "direct" "[I", Cond.fieldLink RX2 16 "FlakeTriageModel" "uses" "[I", Cond.methodLink RX2 85 yX2_against, Cond.instanceMethod yX2_against, Cond.selects RX2 yX2_against yX2_against, Cond.code yX2_against cX2_against 5 (some .int)]
def wsX2_next : List Cond := .code yX2_next cX2_next 9 (some .int) :: ((wsX2_next_r1 ++ wsX2_next_r2) ++ wsX20)
def wsJ9_max_7cf53 : List Cond := .code yJ9_max_7cf53 cJ9_max_7cf53 2 (some .int) :: ([])
def wsL_setUses : List Cond := .codeWith yL_setUses cL_setUses 5 (some .int) [(0, 10, 13, 13), (0, 10, 17, 15)] :: ([.classLink RL 13 "java/lang/IndexOutOfBoundsException", .classLink RL 15 "java/lang/IllegalArgumentException", .methodLink RL 7 yX1_setUses, .instanceMethod yX1_setUses, .selects RX1 yX1_setUses yX1_setUses, .initialized RX1, .code yX1_setUses cX1_setUses 4 (some .int), .classLink RX1 61 "java/lang/IndexOutOfBoundsException", .initialized "java/lang/IndexOutOfBoundsException", .fieldLink RX1 9 "FlakeTriage" "usedByPart" "[I", .methodLink RX1 68 yX1_needParts, .static yX1_needParts, .code yX1_needParts cX1_needParts 1 none, .classLink RX1 79 "java/lang/IllegalArgumentException", .initialized "java/lang/IllegalArgumentException", .constant RX1 172 (65535)] ++ wsX10 ++ (vx_atS RX1 65 "java/lang/IndexOutOfBoundsException" ["java/lang/RuntimeException", "java/lang/Exception"]).filter goodWord ++ (vx_atS RX1 83 "java/lang/IllegalArgumentException" ["java/lang/RuntimeException", "java/lang/Exception"]).filter goodWord)
def wsL_addCommit : List Cond := .codeWith yL_addCommit cL_addCommit 4 (some .int) [(0, 9, 12, 15), (0, 9, 15, 21)] :: ([.classLink RL 15 "java/lang/IllegalArgumentException", .classLink RL 21 "java/lang/IllegalStateException", .methodLink RL 17 yX1_addCommit, .instanceMethod yX1_addCommit, .selects RX1 yX1_addCommit yX1_addCommit, .initialized RX1, .code yX1_addCommit cX1_addCommit 3 (some .int), .classLink RX1 72 "java/lang/IllegalStateException", .initialized "java/lang/IllegalStateException", .fieldLink RX1 43 "FlakeTriage" "commitCount" "I", .fieldLink RX1 13 "FlakeTriage" "changedBy" "[I", .methodLink RX1 68 yX1_needParts, .static yX1_needParts, .code yX1_needParts cX1_needParts 1 none, .classLink RX1 79 "java/lang/IllegalArgumentException", .initialized "java/lang/IllegalArgumentException", .constant RX1 172 (65535)] ++ wsX10 ++ (vx_atS RX1 76 "java/lang/IllegalStateException" ["java/lang/RuntimeException", "java/lang/Exception"]).filter goodWord ++ (vx_atS RX1 83 "java/lang/IllegalArgumentException" ["java/lang/RuntimeException", "java/lang/Exception"]).filter goodWord)
def wsL_addTest : List Cond := .codeWith yL_addTest cL_addTest 4 (some .int) [(0, 9, 12, 15), (0, 9, 15, 21)] :: ([.classLink RL 15 "java/lang/IllegalArgumentException", .classLink RL 21 "java/lang/IllegalStateException", .methodLink RL 23 yX1_addTest, .instanceMethod yX1_addTest, .selects RX1 yX1_addTest yX1_addTest, .initialized RX1, .code yX1_addTest cX1_addTest 3 (some .int), .classLink RX1 72 "java/lang/IllegalStateException", .initialized "java/lang/IllegalStateException", .fieldLink RX1 46 "FlakeTriage" "testCount" "I", .fieldLink RX1 16 "FlakeTriage" "usedByTest" "[I", .methodLink RX1 68 yX1_needParts, .static yX1_needParts, .code yX1_needParts cX1_needParts 1 none, .classLink RX1 79 "java/lang/IllegalArgumentException", .initialized "java/lang/IllegalArgumentException", .constant RX1 172 (65535)] ++ wsX10 ++ (vx_atS RX1 76 "java/lang/IllegalStateException" ["java/lang/RuntimeException", "java/lang/Exception"]).filter goodWord ++ (vx_atS RX1 83 "java/lang/IllegalArgumentException" ["java/lang/RuntimeException", "java/lang/Exception"]).filter goodWord)
def wsL_setQuarantine : List Cond := .codeWith yL_setQuarantine cL_setQuarantine 4 (some .int) [(0, 6, 9, 15)] :: ([.classLink RL 15 "java/lang/IllegalArgumentException", .methodLink RL 26 yX1_setQuarantine, .instanceMethod yX1_setQuarantine, .selects RX1 yX1_setQuarantine yX1_setQuarantine, .initialized RX1, .code yX1_setQuarantine cX1_setQuarantine 3 none, .classLink RX1 79 "java/lang/IllegalArgumentException", .initialized "java/lang/IllegalArgumentException", .fieldLink RX1 49 "FlakeTriage" "limit" "I", .fieldLink RX1 52 "FlakeTriage" "window" "I"] ++ wsX10 ++ (vx_atS RX1 83 "java/lang/IllegalArgumentException" ["java/lang/RuntimeException", "java/lang/Exception"]).filter goodWord)
def wsL_setNoise : List Cond := .codeWith yL_setNoise cL_setNoise 4 (some .int) [(0, 9, 12, 15)] :: ([.classLink RL 15 "java/lang/IllegalArgumentException", .methodLink RL 30 yX1_setNoise, .instanceMethod yX1_setNoise, .selects RX1 yX1_setNoise yX1_setNoise, .initialized RX1, .code yX1_setNoise cX1_setNoise 3 (some .int), .classLink RX1 79 "java/lang/IllegalArgumentException", .initialized "java/lang/IllegalArgumentException", .fieldLink RX1 55 "FlakeTriage" "noise" "I"] ++ wsX10 ++ (vx_atS RX1 83 "java/lang/IllegalArgumentException" ["java/lang/RuntimeException", "java/lang/Exception"]).filter goodWord)
def wsL_record_r1 : List Cond := [Cond.classLink RL 13 "java/lang/IndexOutOfBoundsException", Cond.classLink RL 21 "java/lang/IllegalStateException", Cond.methodLink RL 33 yX1_record, Cond.instanceMethod yX1_record, Cond.selects RX1 yX1_record yX1_record, Cond.initialized RX1, Cond.code yX1_record cX1_record 4 (some .int), Cond.classLink RX1 72 "java/lang/IllegalStateException", Cond.initialized "java/lang/IllegalStateException", Cond.fieldLink RX1 22 "FlakeTriage" "log" "LFlakeTriage$RunLog;", Cond.methodLink RX1 88 yX1_needTest, Cond.instanceMethod yX1_needTest, Cond.selects RX1 yX1_needTest yX1_needTest, Cond.code yX1_needTest cX1_needTest 2 none, Cond.classLink RX1 61 "java/lang/IndexOutOfBoundsException", Cond.initialized "java/lang/IndexOutOfBoundsException", Cond.fieldLink RX1 46 "FlakeTriage" "testCount" "I", Cond.methodLink RX1 91 yX1_needCommit, Cond.instanceMethod yX1_needCommit, Cond.selects RX1 yX1_needCommit yX1_needCommit, Cond.code yX1_needCommit cX1_needCommit 2 none, Cond.fieldLink RX1 43 "FlakeTriage" "commitCount" "I", Cond.methodLink RX1 94 yX0_add, Cond.instanceMethod yX0_add]
def wsL_record_r2 : List Cond := [Cond.selects RX0 yX0_add yX0_add, Cond.initialized RX0, Cond.code yX0_add cX0_add 5 (some .boolean), Cond.fieldLink RX0 9 "FlakeTriage$RunLog" "count" "[I", Cond.fieldLink RX0 17 "FlakeTriage$RunLog" "commitOfRun" "[[I", Cond.fieldLink RX0 20 "FlakeTriage$RunLog" "passedOfRun" "[[I", Cond.fieldLink RX0 23 "FlakeTriage$RunLog" "passes" "[[I", Cond.fieldLink RX0 26 "FlakeTriage$RunLog" "failures" "[[I", Cond.methodLink RX1 100 yX0_verdictAt, Cond.instanceMethod yX0_verdictAt, Cond.selects RX0 yX0_verdictAt yX0_verdictAt, Cond.code yX0_verdictAt cX0_verdictAt 3 (some .int)]
def wsL_record : List Cond := .codeWith yL_record cL_record 6 (some .int) [(0, 12, 15, 13), (0, 12, 19, 21)] :: ((wsL_record_r1 ++ wsL_record_r2) ++ wsX10 ++ wsX00 ++ (vx_atS RX1 76 "java/lang/IllegalStateException" ["java/lang/RuntimeException", "java/lang/Exception"]).filter goodWord ++ (vx_atS RX1 65 "java/lang/IndexOutOfBoundsException" ["java/lang/RuntimeException", "java/lang/Exception"]).filter goodWord)
def wsL_triage_r1 : List Cond := [Cond.classLink RL 13 "java/lang/IndexOutOfBoundsException", Cond.classLink RL 15 "java/lang/IllegalArgumentException", Cond.methodLink RL 37 yX1_triage, Cond.instanceMethod yX1_triage, Cond.selects RX1 yX1_triage yX1_triage, Cond.initialized RX1, Cond.code yX1_triage cX1_triage 4 (some .int), Cond.classLink RX1 79 "java/lang/IllegalArgumentException", Cond.initialized "java/lang/IllegalArgumentException", Cond.fieldLink RX1 26 "FlakeTriage" "inTriage" "[Z", Cond.fieldLink RX1 30 "FlakeTriage" "goodOf" "[I", Cond.fieldLink RX1 33 "FlakeTriage" "badOf" "[I", Cond.methodLink RX1 88 yX1_needTest, Cond.instanceMethod yX1_needTest, Cond.selects RX1 yX1_needTest yX1_needTest, Cond.code yX1_needTest cX1_needTest 2 none, Cond.classLink RX1 61 "java/lang/IndexOutOfBoundsException", Cond.initialized "java/lang/IndexOutOfBoundsException", Cond.fieldLink RX1 46 "FlakeTriage" "testCount" "I", Cond.methodLink RX1 91 yX1_needCommit, Cond.instanceMethod yX1_needCommit, Cond.selects RX1 yX1_needCommit yX1_needCommit, Cond.code yX1_needCommit cX1_needCommit 2 none, Cond.fieldLink RX1 43 "FlakeTriage" "commitCount" "I"]
def wsL_triage_r2 : List Cond := [Cond.methodLink RX1 106 yX1_candidatesOf, Cond.instanceMethod yX1_candidatesOf, Cond.selects RX1 yX1_candidatesOf yX1_candidatesOf, Cond.code yX1_candidatesOf cX1_candidatesOf 10 (some .long), Cond.fieldLink RX1 22 "FlakeTriage" "log" "LFlakeTriage$RunLog;", Cond.fieldLink RX1 55 "FlakeTriage" "noise" "I", Cond.methodLink RX1 154 yX1_suspectsOf, Cond.instanceMethod yX1_suspectsOf, Cond.selects RX1 yX1_suspectsOf yX1_suspectsOf, Cond.code yX1_suspectsOf cX1_suspectsOf 6 (some .long), Cond.fieldLink RX1 13 "FlakeTriage" "changedBy" "[I", Cond.methodLink RX1 141 yX1_allPartsOf, Cond.instanceMethod yX1_allPartsOf, Cond.selects RX1 yX1_allPartsOf yX1_allPartsOf, Cond.code yX1_allPartsOf cX1_allPartsOf 6 (some .int), Cond.fieldLink RX1 16 "FlakeTriage" "usedByTest" "[I", Cond.fieldLink RX1 9 "FlakeTriage" "usedByPart" "[I", Cond.methodLink RX1 157 yX1_has, Cond.static yX1_has, Cond.code yX1_has cX1_has 3 (some .boolean), Cond.methodLink RX1 186 yX0_passesWithin, Cond.instanceMethod yX0_passesWithin, Cond.selects RX0 yX0_passesWithin yX0_passesWithin, Cond.initialized RX0]
def wsL_triage_r3 : List Cond := [Cond.code yX0_passesWithin cX0_passesWithin 6 (some .int), Cond.fieldLink RX0 23 "FlakeTriage$RunLog" "passes" "[[I", Cond.methodLink RX1 190 yX0_riseBehind, Cond.instanceMethod yX0_riseBehind, Cond.selects RX0 yX0_riseBehind yX0_riseBehind, Cond.code yX0_riseBehind cX0_riseBehind 3 (some .int), Cond.fieldLink RX0 26 "FlakeTriage$RunLog" "failures" "[[I", Cond.methodLink RX1 110 yJ13_bitCount_95d88, Cond.static yJ13_bitCount_95d88, Cond.initialized RJ13, Cond.code yJ13_bitCount_95d88 cJ13_bitCount_95d88 2 (some .int), Cond.constantLong RJ13 314 (6148914691236517205), Cond.constantLong RJ13 316 (3689348814741910323), Cond.constantLong RJ13 318 (1085102592571150095)]
def wsL_triage : List Cond := .codeWith yL_triage cL_triage 6 (some .int) [(0, 12, 15, 13), (0, 12, 19, 15)] :: ((wsL_triage_r1 ++ (wsL_triage_r2 ++ wsL_triage_r3)) ++ wsX10 ++ wsX00 ++ (vx_atS RX1 83 "java/lang/IllegalArgumentException" ["java/lang/RuntimeException", "java/lang/Exception"]).filter goodWord ++ (vx_atS RX1 65 "java/lang/IndexOutOfBoundsException" ["java/lang/RuntimeException", "java/lang/Exception"]).filter goodWord)
def wsL_close_r1 : List Cond := [Cond.classLink RL 13 "java/lang/IndexOutOfBoundsException", Cond.classLink RL 21 "java/lang/IllegalStateException", Cond.methodLink RL 41 yX1_close, Cond.instanceMethod yX1_close, Cond.selects RX1 yX1_close yX1_close, Cond.initialized RX1, Cond.code yX1_close cX1_close 3 (some .int), Cond.fieldLink RX1 26 "FlakeTriage" "inTriage" "[Z", Cond.methodLink RX1 88 yX1_needTest, Cond.instanceMethod yX1_needTest, Cond.selects RX1 yX1_needTest yX1_needTest, Cond.code yX1_needTest cX1_needTest 2 none, Cond.classLink RX1 61 "java/lang/IndexOutOfBoundsException", Cond.initialized "java/lang/IndexOutOfBoundsException", Cond.fieldLink RX1 46 "FlakeTriage" "testCount" "I", Cond.methodLink RX1 116 yX1_needTriage, Cond.instanceMethod yX1_needTriage, Cond.selects RX1 yX1_needTriage yX1_needTriage, Cond.code yX1_needTriage cX1_needTriage 2 none, Cond.classLink RX1 72 "java/lang/IllegalStateException", Cond.initialized "java/lang/IllegalStateException", Cond.methodLink RX1 106 yX1_candidatesOf, Cond.instanceMethod yX1_candidatesOf, Cond.selects RX1 yX1_candidatesOf yX1_candidatesOf]
def wsL_close_r2 : List Cond := [Cond.code yX1_candidatesOf cX1_candidatesOf 10 (some .long), Cond.fieldLink RX1 30 "FlakeTriage" "goodOf" "[I", Cond.fieldLink RX1 33 "FlakeTriage" "badOf" "[I", Cond.fieldLink RX1 22 "FlakeTriage" "log" "LFlakeTriage$RunLog;", Cond.fieldLink RX1 55 "FlakeTriage" "noise" "I", Cond.methodLink RX1 154 yX1_suspectsOf, Cond.instanceMethod yX1_suspectsOf, Cond.selects RX1 yX1_suspectsOf yX1_suspectsOf, Cond.code yX1_suspectsOf cX1_suspectsOf 6 (some .long), Cond.fieldLink RX1 13 "FlakeTriage" "changedBy" "[I", Cond.methodLink RX1 141 yX1_allPartsOf, Cond.instanceMethod yX1_allPartsOf, Cond.selects RX1 yX1_allPartsOf yX1_allPartsOf, Cond.code yX1_allPartsOf cX1_allPartsOf 6 (some .int), Cond.fieldLink RX1 16 "FlakeTriage" "usedByTest" "[I", Cond.fieldLink RX1 9 "FlakeTriage" "usedByPart" "[I", Cond.methodLink RX1 157 yX1_has, Cond.static yX1_has, Cond.code yX1_has cX1_has 3 (some .boolean), Cond.methodLink RX1 186 yX0_passesWithin, Cond.instanceMethod yX0_passesWithin, Cond.selects RX0 yX0_passesWithin yX0_passesWithin, Cond.initialized RX0, Cond.code yX0_passesWithin cX0_passesWithin 6 (some .int)]
def wsL_close_r3 : List Cond := [Cond.fieldLink RX0 23 "FlakeTriage$RunLog" "passes" "[[I", Cond.methodLink RX1 190 yX0_riseBehind, Cond.instanceMethod yX0_riseBehind, Cond.selects RX0 yX0_riseBehind yX0_riseBehind, Cond.code yX0_riseBehind cX0_riseBehind 3 (some .int), Cond.fieldLink RX0 26 "FlakeTriage$RunLog" "failures" "[[I", Cond.methodLink RX1 110 yJ13_bitCount_95d88, Cond.static yJ13_bitCount_95d88, Cond.initialized RJ13, Cond.code yJ13_bitCount_95d88 cJ13_bitCount_95d88 2 (some .int), Cond.constantLong RJ13 314 (6148914691236517205), Cond.constantLong RJ13 316 (3689348814741910323), Cond.constantLong RJ13 318 (1085102592571150095), Cond.methodLink RX1 119 yX1_likeliestOf, Cond.instanceMethod yX1_likeliestOf, Cond.selects RX1 yX1_likeliestOf yX1_likeliestOf, Cond.code yX1_likeliestOf cX1_likeliestOf 10 (some .int), Cond.methodLink RX1 123 yX1_leaveQueue, Cond.instanceMethod yX1_leaveQueue, Cond.selects RX1 yX1_leaveQueue yX1_leaveQueue, Cond.code yX1_leaveQueue cX1_leaveQueue 4 none, Cond.fieldLink RX1 36 "FlakeTriage" "placeOf" "[I", Cond.fieldLink RX1 39 "FlakeTriage" "queueLength" "I"]
def wsL_close : List Cond := .codeWith yL_close cL_close 4 (some .int) [(0, 9, 12, 13), (0, 9, 15, 21)] :: ((wsL_close_r1 ++ (wsL_close_r2 ++ wsL_close_r3)) ++ wsX10 ++ wsX00 ++ (vx_atS RX1 65 "java/lang/IndexOutOfBoundsException" ["java/lang/RuntimeException", "java/lang/Exception"]).filter goodWord ++ (vx_atS RX1 76 "java/lang/IllegalStateException" ["java/lang/RuntimeException", "java/lang/Exception"]).filter goodWord)
def wsL_enqueue_r1 : List Cond := [Cond.classLink RL 13 "java/lang/IndexOutOfBoundsException", Cond.classLink RL 21 "java/lang/IllegalStateException", Cond.methodLink RL 44 yX1_enqueue, Cond.instanceMethod yX1_enqueue, Cond.selects RX1 yX1_enqueue yX1_enqueue, Cond.initialized RX1, Cond.code yX1_enqueue cX1_enqueue 2 (some .int), Cond.classLink RX1 72 "java/lang/IllegalStateException", Cond.initialized "java/lang/IllegalStateException", Cond.fieldLink RX1 36 "FlakeTriage" "placeOf" "[I", Cond.fieldLink RX1 39 "FlakeTriage" "queueLength" "I", Cond.methodLink RX1 88 yX1_needTest, Cond.instanceMethod yX1_needTest, Cond.selects RX1 yX1_needTest yX1_needTest, Cond.code yX1_needTest cX1_needTest 2 none, Cond.classLink RX1 61 "java/lang/IndexOutOfBoundsException", Cond.initialized "java/lang/IndexOutOfBoundsException", Cond.fieldLink RX1 46 "FlakeTriage" "testCount" "I", Cond.methodLink RX1 116 yX1_needTriage, Cond.instanceMethod yX1_needTriage, Cond.selects RX1 yX1_needTriage yX1_needTriage, Cond.code yX1_needTriage cX1_needTriage 2 none, Cond.fieldLink RX1 26 "FlakeTriage" "inTriage" "[Z", Cond.methodLink RX1 128 yX1_joinQueue]
def wsL_enqueue_r2 : List Cond := [Cond.instanceMethod yX1_joinQueue, Cond.selects RX1 yX1_joinQueue yX1_joinQueue, Cond.code yX1_joinQueue cX1_joinQueue 2 none]
def wsL_enqueue : List Cond := .codeWith yL_enqueue cL_enqueue 4 (some .int) [(0, 9, 12, 13), (0, 9, 15, 21)] :: ((wsL_enqueue_r1 ++ wsL_enqueue_r2) ++ wsX10 ++ (vx_atS RX1 76 "java/lang/IllegalStateException" ["java/lang/RuntimeException", "java/lang/Exception"]).filter goodWord ++ (vx_atS RX1 65 "java/lang/IndexOutOfBoundsException" ["java/lang/RuntimeException", "java/lang/Exception"]).filter goodWord)
def wsL_newDay : List Cond := .codeWith yL_newDay cL_newDay 4 (some .int) [(0, 9, 12, 15)] :: ([.classLink RL 15 "java/lang/IllegalArgumentException", .methodLink RL 47 yX1_newDay, .instanceMethod yX1_newDay, .selects RX1 yX1_newDay yX1_newDay, .initialized RX1, .code yX1_newDay cX1_newDay 3 (some .int), .classLink RX1 79 "java/lang/IllegalArgumentException", .initialized "java/lang/IllegalArgumentException", .fieldLink RX1 58 "FlakeTriage" "budgetLeft" "I"] ++ wsX10 ++ (vx_atS RX1 83 "java/lang/IllegalArgumentException" ["java/lang/RuntimeException", "java/lang/Exception"]).filter goodWord)
def wsL_take_r1 : List Cond := [Cond.classLink RL 21 "java/lang/IllegalStateException", Cond.methodLink RL 50 yX1_take, Cond.instanceMethod yX1_take, Cond.selects RX1 yX1_take yX1_take, Cond.initialized RX1, Cond.code yX1_take cX1_take 2 (some .int), Cond.classLink RX1 72 "java/lang/IllegalStateException", Cond.initialized "java/lang/IllegalStateException", Cond.fieldLink RX1 58 "FlakeTriage" "budgetLeft" "I", Cond.methodLink RX1 133 yX1_firstInQueue, Cond.instanceMethod yX1_firstInQueue, Cond.selects RX1 yX1_firstInQueue yX1_firstInQueue, Cond.code yX1_firstInQueue cX1_firstInQueue 2 (some .int), Cond.fieldLink RX1 46 "FlakeTriage" "testCount" "I", Cond.fieldLink RX1 36 "FlakeTriage" "placeOf" "[I", Cond.methodLink RX1 123 yX1_leaveQueue, Cond.instanceMethod yX1_leaveQueue, Cond.selects RX1 yX1_leaveQueue yX1_leaveQueue, Cond.code yX1_leaveQueue cX1_leaveQueue 4 none, Cond.fieldLink RX1 39 "FlakeTriage" "queueLength" "I", Cond.methodLink RX1 106 yX1_candidatesOf, Cond.instanceMethod yX1_candidatesOf, Cond.selects RX1 yX1_candidatesOf yX1_candidatesOf, Cond.code yX1_candidatesOf cX1_candidatesOf 10 (some .long)]
def wsL_take_r2 : List Cond := [Cond.fieldLink RX1 30 "FlakeTriage" "goodOf" "[I", Cond.fieldLink RX1 33 "FlakeTriage" "badOf" "[I", Cond.fieldLink RX1 22 "FlakeTriage" "log" "LFlakeTriage$RunLog;", Cond.fieldLink RX1 55 "FlakeTriage" "noise" "I", Cond.methodLink RX1 154 yX1_suspectsOf, Cond.instanceMethod yX1_suspectsOf, Cond.selects RX1 yX1_suspectsOf yX1_suspectsOf, Cond.code yX1_suspectsOf cX1_suspectsOf 6 (some .long), Cond.fieldLink RX1 13 "FlakeTriage" "changedBy" "[I", Cond.methodLink RX1 141 yX1_allPartsOf, Cond.instanceMethod yX1_allPartsOf, Cond.selects RX1 yX1_allPartsOf yX1_allPartsOf, Cond.code yX1_allPartsOf cX1_allPartsOf 6 (some .int), Cond.fieldLink RX1 16 "FlakeTriage" "usedByTest" "[I", Cond.fieldLink RX1 9 "FlakeTriage" "usedByPart" "[I", Cond.methodLink RX1 157 yX1_has, Cond.static yX1_has, Cond.code yX1_has cX1_has 3 (some .boolean), Cond.methodLink RX1 186 yX0_passesWithin, Cond.instanceMethod yX0_passesWithin, Cond.selects RX0 yX0_passesWithin yX0_passesWithin, Cond.initialized RX0, Cond.code yX0_passesWithin cX0_passesWithin 6 (some .int), Cond.fieldLink RX0 23 "FlakeTriage$RunLog" "passes" "[[I"]
def wsL_take_r3 : List Cond := [Cond.methodLink RX1 190 yX0_riseBehind, Cond.instanceMethod yX0_riseBehind, Cond.selects RX0 yX0_riseBehind yX0_riseBehind, Cond.code yX0_riseBehind cX0_riseBehind 3 (some .int), Cond.fieldLink RX0 26 "FlakeTriage$RunLog" "failures" "[[I", Cond.methodLink RX1 110 yJ13_bitCount_95d88, Cond.static yJ13_bitCount_95d88, Cond.initialized RJ13, Cond.code yJ13_bitCount_95d88 cJ13_bitCount_95d88 2 (some .int), Cond.constantLong RJ13 314 (6148914691236517205), Cond.constantLong RJ13 316 (3689348814741910323), Cond.constantLong RJ13 318 (1085102592571150095), Cond.methodLink RX1 128 yX1_joinQueue, Cond.instanceMethod yX1_joinQueue, Cond.selects RX1 yX1_joinQueue yX1_joinQueue, Cond.code yX1_joinQueue cX1_joinQueue 2 none]
def wsL_take : List Cond := .codeWith yL_take cL_take 3 (some .int) [(0, 8, 11, 21)] :: ((wsL_take_r1 ++ (wsL_take_r2 ++ wsL_take_r3)) ++ wsX10 ++ wsX00 ++ (vx_atS RX1 76 "java/lang/IllegalStateException" ["java/lang/RuntimeException", "java/lang/Exception"]).filter goodWord)
def wsL_partsOf : List Cond := .codeWith yL_partsOf cL_partsOf 4 (some .int) [(0, 9, 12, 13)] :: ([.classLink RL 13 "java/lang/IndexOutOfBoundsException", .methodLink RL 54 yX1_partsOf, .instanceMethod yX1_partsOf, .selects RX1 yX1_partsOf yX1_partsOf, .initialized RX1, .code yX1_partsOf cX1_partsOf 2 (some .int), .methodLink RX1 88 yX1_needTest, .instanceMethod yX1_needTest, .selects RX1 yX1_needTest yX1_needTest, .code yX1_needTest cX1_needTest 2 none, .classLink RX1 61 "java/lang/IndexOutOfBoundsException", .initialized "java/lang/IndexOutOfBoundsException", .fieldLink RX1 46 "FlakeTriage" "testCount" "I", .methodLink RX1 141 yX1_allPartsOf, .instanceMethod yX1_allPartsOf, .selects RX1 yX1_allPartsOf yX1_allPartsOf, .code yX1_allPartsOf cX1_allPartsOf 6 (some .int), .fieldLink RX1 16 "FlakeTriage" "usedByTest" "[I", .fieldLink RX1 9 "FlakeTriage" "usedByPart" "[I", .methodLink RX1 157 yX1_has, .static yX1_has, .code yX1_has cX1_has 3 (some .boolean)] ++ wsX10 ++ (vx_atS RX1 65 "java/lang/IndexOutOfBoundsException" ["java/lang/RuntimeException", "java/lang/Exception"]).filter goodWord)
def wsL_touches : List Cond := .codeWith yL_touches cL_touches 4 (some .int) [(0, 9, 12, 13)] :: ([.classLink RL 13 "java/lang/IndexOutOfBoundsException", .methodLink RL 57 yX1_touches, .instanceMethod yX1_touches, .selects RX1 yX1_touches yX1_touches, .initialized RX1, .code yX1_touches cX1_touches 4 (some .int), .fieldLink RX1 46 "FlakeTriage" "testCount" "I", .fieldLink RX1 13 "FlakeTriage" "changedBy" "[I", .methodLink RX1 91 yX1_needCommit, .instanceMethod yX1_needCommit, .selects RX1 yX1_needCommit yX1_needCommit, .code yX1_needCommit cX1_needCommit 2 none, .classLink RX1 61 "java/lang/IndexOutOfBoundsException", .initialized "java/lang/IndexOutOfBoundsException", .fieldLink RX1 43 "FlakeTriage" "commitCount" "I", .methodLink RX1 141 yX1_allPartsOf, .instanceMethod yX1_allPartsOf, .selects RX1 yX1_allPartsOf yX1_allPartsOf, .code yX1_allPartsOf cX1_allPartsOf 6 (some .int), .fieldLink RX1 16 "FlakeTriage" "usedByTest" "[I", .fieldLink RX1 9 "FlakeTriage" "usedByPart" "[I", .methodLink RX1 157 yX1_has, .static yX1_has, .code yX1_has cX1_has 3 (some .boolean)] ++ wsX10 ++ (vx_atS RX1 65 "java/lang/IndexOutOfBoundsException" ["java/lang/RuntimeException", "java/lang/Exception"]).filter goodWord)
def wsL_runs : List Cond := .codeWith yL_runs cL_runs 4 (some .int) [(0, 9, 12, 13)] :: ([.classLink RL 13 "java/lang/IndexOutOfBoundsException", .methodLink RL 60 yX1_runs, .instanceMethod yX1_runs, .selects RX1 yX1_runs yX1_runs, .initialized RX1, .code yX1_runs cX1_runs 2 (some .int), .fieldLink RX1 22 "FlakeTriage" "log" "LFlakeTriage$RunLog;", .methodLink RX1 88 yX1_needTest, .instanceMethod yX1_needTest, .selects RX1 yX1_needTest yX1_needTest, .code yX1_needTest cX1_needTest 2 none, .classLink RX1 61 "java/lang/IndexOutOfBoundsException", .initialized "java/lang/IndexOutOfBoundsException", .fieldLink RX1 46 "FlakeTriage" "testCount" "I", .methodLink RX1 144 yX0_countOf, .instanceMethod yX0_countOf, .selects RX0 yX0_countOf yX0_countOf, .initialized RX0, .code yX0_countOf cX0_countOf 2 (some .int), .fieldLink RX0 9 "FlakeTriage$RunLog" "count" "[I"] ++ wsX10 ++ wsX00 ++ (vx_atS RX1 65 "java/lang/IndexOutOfBoundsException" ["java/lang/RuntimeException", "java/lang/Exception"]).filter goodWord)
def wsL_verdict_r1 : List Cond := [Cond.classLink RL 13 "java/lang/IndexOutOfBoundsException", Cond.methodLink RL 63 yX1_verdict, Cond.instanceMethod yX1_verdict, Cond.selects RX1 yX1_verdict yX1_verdict, Cond.initialized RX1, Cond.code yX1_verdict cX1_verdict 3 (some .int), Cond.fieldLink RX1 22 "FlakeTriage" "log" "LFlakeTriage$RunLog;", Cond.methodLink RX1 88 yX1_needTest, Cond.instanceMethod yX1_needTest, Cond.selects RX1 yX1_needTest yX1_needTest, Cond.code yX1_needTest cX1_needTest 2 none, Cond.classLink RX1 61 "java/lang/IndexOutOfBoundsException", Cond.initialized "java/lang/IndexOutOfBoundsException", Cond.fieldLink RX1 46 "FlakeTriage" "testCount" "I", Cond.methodLink RX1 91 yX1_needCommit, Cond.instanceMethod yX1_needCommit, Cond.selects RX1 yX1_needCommit yX1_needCommit, Cond.code yX1_needCommit cX1_needCommit 2 none, Cond.fieldLink RX1 43 "FlakeTriage" "commitCount" "I", Cond.methodLink RX1 100 yX0_verdictAt, Cond.instanceMethod yX0_verdictAt, Cond.selects RX0 yX0_verdictAt yX0_verdictAt, Cond.initialized RX0, Cond.code yX0_verdictAt cX0_verdictAt 3 (some .int)]
def wsL_verdict_r2 : List Cond := [Cond.fieldLink RX0 23 "FlakeTriage$RunLog" "passes" "[[I", Cond.fieldLink RX0 26 "FlakeTriage$RunLog" "failures" "[[I"]
def wsL_verdict : List Cond := .codeWith yL_verdict cL_verdict 5 (some .int) [(0, 10, 13, 13)] :: ((wsL_verdict_r1 ++ wsL_verdict_r2) ++ wsX10 ++ wsX00 ++ (vx_atS RX1 65 "java/lang/IndexOutOfBoundsException" ["java/lang/RuntimeException", "java/lang/Exception"]).filter goodWord)
def wsL_failing_r1 : List Cond := [Cond.classLink RL 13 "java/lang/IndexOutOfBoundsException", Cond.methodLink RL 66 yX1_failing, Cond.instanceMethod yX1_failing, Cond.selects RX1 yX1_failing yX1_failing, Cond.initialized RX1, Cond.code yX1_failing cX1_failing 3 (some .int), Cond.fieldLink RX1 22 "FlakeTriage" "log" "LFlakeTriage$RunLog;", Cond.methodLink RX1 88 yX1_needTest, Cond.instanceMethod yX1_needTest, Cond.selects RX1 yX1_needTest yX1_needTest, Cond.code yX1_needTest cX1_needTest 2 none, Cond.classLink RX1 61 "java/lang/IndexOutOfBoundsException", Cond.initialized "java/lang/IndexOutOfBoundsException", Cond.fieldLink RX1 46 "FlakeTriage" "testCount" "I", Cond.methodLink RX1 144 yX0_countOf, Cond.instanceMethod yX0_countOf, Cond.selects RX0 yX0_countOf yX0_countOf, Cond.initialized RX0, Cond.code yX0_countOf cX0_countOf 2 (some .int), Cond.fieldLink RX0 9 "FlakeTriage$RunLog" "count" "[I", Cond.methodLink RX1 147 yX0_failuresOf, Cond.instanceMethod yX0_failuresOf, Cond.selects RX0 yX0_failuresOf yX0_failuresOf, Cond.code yX0_failuresOf cX0_failuresOf 4 (some .int)]
def wsL_failing_r2 : List Cond := [Cond.fieldLink RX0 26 "FlakeTriage$RunLog" "failures" "[[I"]
def wsL_failing : List Cond := .codeWith yL_failing cL_failing 4 (some .int) [(0, 9, 12, 13)] :: ((wsL_failing_r1 ++ wsL_failing_r2) ++ wsX10 ++ wsX00 ++ (vx_atS RX1 65 "java/lang/IndexOutOfBoundsException" ["java/lang/RuntimeException", "java/lang/Exception"]).filter goodWord)
def wsL_isQuarantined_r1 : List Cond := [Cond.classLink RL 13 "java/lang/IndexOutOfBoundsException", Cond.methodLink RL 69 yX1_isQuarantined, Cond.instanceMethod yX1_isQuarantined, Cond.selects RX1 yX1_isQuarantined yX1_isQuarantined, Cond.initialized RX1, Cond.code yX1_isQuarantined cX1_isQuarantined 2 (some .boolean), Cond.methodLink RX1 88 yX1_needTest, Cond.instanceMethod yX1_needTest, Cond.selects RX1 yX1_needTest yX1_needTest, Cond.code yX1_needTest cX1_needTest 2 none, Cond.classLink RX1 61 "java/lang/IndexOutOfBoundsException", Cond.initialized "java/lang/IndexOutOfBoundsException", Cond.fieldLink RX1 46 "FlakeTriage" "testCount" "I", Cond.methodLink RX1 150 yX1_isUnsteady, Cond.instanceMethod yX1_isUnsteady, Cond.selects RX1 yX1_isUnsteady yX1_isUnsteady, Cond.code yX1_isUnsteady cX1_isUnsteady 4 (some .boolean), Cond.fieldLink RX1 43 "FlakeTriage" "commitCount" "I", Cond.fieldLink RX1 52 "FlakeTriage" "window" "I", Cond.methodLink RX1 181 Lib.Math.max.name, Cond.static Lib.Math.max.name, Cond.initialized "java/lang/Math", Cond.code Lib.Math.max.name Lib.Math.max.code 2 (some .int), Cond.fieldLink RX1 22 "FlakeTriage" "log" "LFlakeTriage$RunLog;"]
def wsL_isQuarantined_r2 : List Cond := [Cond.fieldLink RX1 49 "FlakeTriage" "limit" "I", Cond.methodLink RX1 100 yX0_verdictAt, Cond.instanceMethod yX0_verdictAt, Cond.selects RX0 yX0_verdictAt yX0_verdictAt, Cond.initialized RX0, Cond.code yX0_verdictAt cX0_verdictAt 3 (some .int), Cond.fieldLink RX0 23 "FlakeTriage$RunLog" "passes" "[[I", Cond.fieldLink RX0 26 "FlakeTriage$RunLog" "failures" "[[I"]
def wsL_isQuarantined : List Cond := .codeWith yL_isQuarantined cL_isQuarantined 4 (some .int) [(0, 16, 19, 13)] :: ((wsL_isQuarantined_r1 ++ wsL_isQuarantined_r2) ++ wsX10 ++ wsX00 ++ (vx_atS RX1 65 "java/lang/IndexOutOfBoundsException" ["java/lang/RuntimeException", "java/lang/Exception"]).filter goodWord)
def wsL_broken_r1 : List Cond := [Cond.classLink RL 13 "java/lang/IndexOutOfBoundsException", Cond.methodLink RL 73 yX1_broken, Cond.instanceMethod yX1_broken, Cond.selects RX1 yX1_broken yX1_broken, Cond.initialized RX1, Cond.code yX1_broken cX1_broken 4 (some .int), Cond.fieldLink RX1 46 "FlakeTriage" "testCount" "I", Cond.fieldLink RX1 22 "FlakeTriage" "log" "LFlakeTriage$RunLog;", Cond.methodLink RX1 91 yX1_needCommit, Cond.instanceMethod yX1_needCommit, Cond.selects RX1 yX1_needCommit yX1_needCommit, Cond.code yX1_needCommit cX1_needCommit 2 none, Cond.classLink RX1 61 "java/lang/IndexOutOfBoundsException", Cond.initialized "java/lang/IndexOutOfBoundsException", Cond.fieldLink RX1 43 "FlakeTriage" "commitCount" "I", Cond.methodLink RX1 100 yX0_verdictAt, Cond.instanceMethod yX0_verdictAt, Cond.selects RX0 yX0_verdictAt yX0_verdictAt, Cond.initialized RX0, Cond.code yX0_verdictAt cX0_verdictAt 3 (some .int), Cond.fieldLink RX0 23 "FlakeTriage$RunLog" "passes" "[[I", Cond.fieldLink RX0 26 "FlakeTriage$RunLog" "failures" "[[I", Cond.methodLink RX1 150 yX1_isUnsteady, Cond.instanceMethod yX1_isUnsteady]
def wsL_broken_r2 : List Cond := [Cond.selects RX1 yX1_isUnsteady yX1_isUnsteady, Cond.code yX1_isUnsteady cX1_isUnsteady 4 (some .boolean), Cond.fieldLink RX1 52 "FlakeTriage" "window" "I", Cond.methodLink RX1 181 Lib.Math.max.name, Cond.static Lib.Math.max.name, Cond.initialized "java/lang/Math", Cond.code Lib.Math.max.name Lib.Math.max.code 2 (some .int), Cond.fieldLink RX1 49 "FlakeTriage" "limit" "I"]
def wsL_broken : List Cond := .codeWith yL_broken cL_broken 4 (some .int) [(0, 9, 12, 13)] :: ((wsL_broken_r1 ++ wsL_broken_r2) ++ wsX10 ++ wsX00 ++ (vx_atS RX1 65 "java/lang/IndexOutOfBoundsException" ["java/lang/RuntimeException", "java/lang/Exception"]).filter goodWord)
def wsL_suspects_r1 : List Cond := [Cond.classLink RL 13 "java/lang/IndexOutOfBoundsException", Cond.classLink RL 21 "java/lang/IllegalStateException", Cond.methodLink RL 76 yX1_suspects, Cond.instanceMethod yX1_suspects, Cond.selects RX1 yX1_suspects yX1_suspects, Cond.initialized RX1, Cond.code yX1_suspects cX1_suspects 2 (some .long), Cond.methodLink RX1 88 yX1_needTest, Cond.instanceMethod yX1_needTest, Cond.selects RX1 yX1_needTest yX1_needTest, Cond.code yX1_needTest cX1_needTest 2 none, Cond.classLink RX1 61 "java/lang/IndexOutOfBoundsException", Cond.initialized "java/lang/IndexOutOfBoundsException", Cond.fieldLink RX1 46 "FlakeTriage" "testCount" "I", Cond.methodLink RX1 116 yX1_needTriage, Cond.instanceMethod yX1_needTriage, Cond.selects RX1 yX1_needTriage yX1_needTriage, Cond.code yX1_needTriage cX1_needTriage 2 none, Cond.classLink RX1 72 "java/lang/IllegalStateException", Cond.initialized "java/lang/IllegalStateException", Cond.fieldLink RX1 26 "FlakeTriage" "inTriage" "[Z", Cond.methodLink RX1 154 yX1_suspectsOf, Cond.instanceMethod yX1_suspectsOf, Cond.selects RX1 yX1_suspectsOf yX1_suspectsOf]
def wsL_suspects_r2 : List Cond := [Cond.code yX1_suspectsOf cX1_suspectsOf 6 (some .long), Cond.fieldLink RX1 30 "FlakeTriage" "goodOf" "[I", Cond.fieldLink RX1 33 "FlakeTriage" "badOf" "[I", Cond.fieldLink RX1 13 "FlakeTriage" "changedBy" "[I", Cond.methodLink RX1 141 yX1_allPartsOf, Cond.instanceMethod yX1_allPartsOf, Cond.selects RX1 yX1_allPartsOf yX1_allPartsOf, Cond.code yX1_allPartsOf cX1_allPartsOf 6 (some .int), Cond.fieldLink RX1 16 "FlakeTriage" "usedByTest" "[I", Cond.fieldLink RX1 9 "FlakeTriage" "usedByPart" "[I", Cond.methodLink RX1 157 yX1_has, Cond.static yX1_has, Cond.code yX1_has cX1_has 3 (some .boolean)]
def wsL_suspects : List Cond := .codeWith yL_suspects cL_suspects 4 (some .int) [(0, 8, 11, 13), (0, 8, 14, 21)] :: ((wsL_suspects_r1 ++ wsL_suspects_r2) ++ wsX10 ++ (vx_atS RX1 65 "java/lang/IndexOutOfBoundsException" ["java/lang/RuntimeException", "java/lang/Exception"]).filter goodWord ++ (vx_atS RX1 76 "java/lang/IllegalStateException" ["java/lang/RuntimeException", "java/lang/Exception"]).filter goodWord)
def wsL_contradictions_r1 : List Cond := [Cond.classLink RL 13 "java/lang/IndexOutOfBoundsException", Cond.classLink RL 21 "java/lang/IllegalStateException", Cond.methodLink RL 80 yX1_contradictions, Cond.instanceMethod yX1_contradictions, Cond.selects RX1 yX1_contradictions yX1_contradictions, Cond.initialized RX1, Cond.code yX1_contradictions cX1_contradictions 3 (some .int), Cond.fieldLink RX1 22 "FlakeTriage" "log" "LFlakeTriage$RunLog;", Cond.fieldLink RX1 30 "FlakeTriage" "goodOf" "[I", Cond.fieldLink RX1 33 "FlakeTriage" "badOf" "[I", Cond.methodLink RX1 88 yX1_needTest, Cond.instanceMethod yX1_needTest, Cond.selects RX1 yX1_needTest yX1_needTest, Cond.code yX1_needTest cX1_needTest 2 none, Cond.classLink RX1 61 "java/lang/IndexOutOfBoundsException", Cond.initialized "java/lang/IndexOutOfBoundsException", Cond.fieldLink RX1 46 "FlakeTriage" "testCount" "I", Cond.methodLink RX1 91 yX1_needCommit, Cond.instanceMethod yX1_needCommit, Cond.selects RX1 yX1_needCommit yX1_needCommit, Cond.code yX1_needCommit cX1_needCommit 2 none, Cond.fieldLink RX1 43 "FlakeTriage" "commitCount" "I", Cond.methodLink RX1 116 yX1_needTriage, Cond.instanceMethod yX1_needTriage]
def wsL_contradictions_r2 : List Cond := [Cond.selects RX1 yX1_needTriage yX1_needTriage, Cond.code yX1_needTriage cX1_needTriage 2 none, Cond.classLink RX1 72 "java/lang/IllegalStateException", Cond.initialized "java/lang/IllegalStateException", Cond.fieldLink RX1 26 "FlakeTriage" "inTriage" "[Z", Cond.methodLink RX1 154 yX1_suspectsOf, Cond.instanceMethod yX1_suspectsOf, Cond.selects RX1 yX1_suspectsOf yX1_suspectsOf, Cond.code yX1_suspectsOf cX1_suspectsOf 6 (some .long), Cond.fieldLink RX1 13 "FlakeTriage" "changedBy" "[I", Cond.methodLink RX1 141 yX1_allPartsOf, Cond.instanceMethod yX1_allPartsOf, Cond.selects RX1 yX1_allPartsOf yX1_allPartsOf, Cond.code yX1_allPartsOf cX1_allPartsOf 6 (some .int), Cond.fieldLink RX1 16 "FlakeTriage" "usedByTest" "[I", Cond.fieldLink RX1 9 "FlakeTriage" "usedByPart" "[I", Cond.methodLink RX1 157 yX1_has, Cond.static yX1_has, Cond.code yX1_has cX1_has 3 (some .boolean), Cond.methodLink RX1 161 yX0_contradicting, Cond.instanceMethod yX0_contradicting, Cond.selects RX0 yX0_contradicting yX0_contradicting, Cond.initialized RX0, Cond.code yX0_contradicting cX0_contradicting 11 (some .int)]
def wsL_contradictions_r3 : List Cond := [Cond.fieldLink RX0 9 "FlakeTriage$RunLog" "count" "[I", Cond.fieldLink RX0 17 "FlakeTriage$RunLog" "commitOfRun" "[[I", Cond.fieldLink RX0 20 "FlakeTriage$RunLog" "passedOfRun" "[[I"]
def wsL_contradictions : List Cond := .codeWith yL_contradictions cL_contradictions 5 (some .int) [(0, 10, 13, 13), (0, 10, 17, 21)] :: ((wsL_contradictions_r1 ++ (wsL_contradictions_r2 ++ wsL_contradictions_r3)) ++ wsX10 ++ wsX00 ++ (vx_atS RX1 65 "java/lang/IndexOutOfBoundsException" ["java/lang/RuntimeException", "java/lang/Exception"]).filter goodWord ++ (vx_atS RX1 76 "java/lang/IllegalStateException" ["java/lang/RuntimeException", "java/lang/Exception"]).filter goodWord)
def wsL_candidates_r1 : List Cond := [Cond.classLink RL 13 "java/lang/IndexOutOfBoundsException", Cond.classLink RL 21 "java/lang/IllegalStateException", Cond.methodLink RL 83 yX1_candidates, Cond.instanceMethod yX1_candidates, Cond.selects RX1 yX1_candidates yX1_candidates, Cond.initialized RX1, Cond.code yX1_candidates cX1_candidates 2 (some .long), Cond.methodLink RX1 88 yX1_needTest, Cond.instanceMethod yX1_needTest, Cond.selects RX1 yX1_needTest yX1_needTest, Cond.code yX1_needTest cX1_needTest 2 none, Cond.classLink RX1 61 "java/lang/IndexOutOfBoundsException", Cond.initialized "java/lang/IndexOutOfBoundsException", Cond.fieldLink RX1 46 "FlakeTriage" "testCount" "I", Cond.methodLink RX1 116 yX1_needTriage, Cond.instanceMethod yX1_needTriage, Cond.selects RX1 yX1_needTriage yX1_needTriage, Cond.code yX1_needTriage cX1_needTriage 2 none, Cond.classLink RX1 72 "java/lang/IllegalStateException", Cond.initialized "java/lang/IllegalStateException", Cond.fieldLink RX1 26 "FlakeTriage" "inTriage" "[Z", Cond.methodLink RX1 106 yX1_candidatesOf, Cond.instanceMethod yX1_candidatesOf, Cond.selects RX1 yX1_candidatesOf yX1_candidatesOf]
def wsL_candidates_r2 : List Cond := [Cond.code yX1_candidatesOf cX1_candidatesOf 10 (some .long), Cond.fieldLink RX1 30 "FlakeTriage" "goodOf" "[I", Cond.fieldLink RX1 33 "FlakeTriage" "badOf" "[I", Cond.fieldLink RX1 22 "FlakeTriage" "log" "LFlakeTriage$RunLog;", Cond.fieldLink RX1 55 "FlakeTriage" "noise" "I", Cond.methodLink RX1 154 yX1_suspectsOf, Cond.instanceMethod yX1_suspectsOf, Cond.selects RX1 yX1_suspectsOf yX1_suspectsOf, Cond.code yX1_suspectsOf cX1_suspectsOf 6 (some .long), Cond.fieldLink RX1 13 "FlakeTriage" "changedBy" "[I", Cond.methodLink RX1 141 yX1_allPartsOf, Cond.instanceMethod yX1_allPartsOf, Cond.selects RX1 yX1_allPartsOf yX1_allPartsOf, Cond.code yX1_allPartsOf cX1_allPartsOf 6 (some .int), Cond.fieldLink RX1 16 "FlakeTriage" "usedByTest" "[I", Cond.fieldLink RX1 9 "FlakeTriage" "usedByPart" "[I", Cond.methodLink RX1 157 yX1_has, Cond.static yX1_has, Cond.code yX1_has cX1_has 3 (some .boolean), Cond.methodLink RX1 186 yX0_passesWithin, Cond.instanceMethod yX0_passesWithin, Cond.selects RX0 yX0_passesWithin yX0_passesWithin, Cond.initialized RX0, Cond.code yX0_passesWithin cX0_passesWithin 6 (some .int)]
def wsL_candidates_r3 : List Cond := [Cond.fieldLink RX0 23 "FlakeTriage$RunLog" "passes" "[[I", Cond.methodLink RX1 190 yX0_riseBehind, Cond.instanceMethod yX0_riseBehind, Cond.selects RX0 yX0_riseBehind yX0_riseBehind, Cond.code yX0_riseBehind cX0_riseBehind 3 (some .int), Cond.fieldLink RX0 26 "FlakeTriage$RunLog" "failures" "[[I"]
def wsL_candidates : List Cond := .codeWith yL_candidates cL_candidates 4 (some .int) [(0, 8, 11, 13), (0, 8, 14, 21)] :: ((wsL_candidates_r1 ++ (wsL_candidates_r2 ++ wsL_candidates_r3)) ++ wsX10 ++ wsX00 ++ (vx_atS RX1 65 "java/lang/IndexOutOfBoundsException" ["java/lang/RuntimeException", "java/lang/Exception"]).filter goodWord ++ (vx_atS RX1 76 "java/lang/IllegalStateException" ["java/lang/RuntimeException", "java/lang/Exception"]).filter goodWord)
def wsL_likeliest_r1 : List Cond := [Cond.classLink RL 13 "java/lang/IndexOutOfBoundsException", Cond.classLink RL 21 "java/lang/IllegalStateException", Cond.methodLink RL 86 yX1_likeliest, Cond.instanceMethod yX1_likeliest, Cond.selects RX1 yX1_likeliest yX1_likeliest, Cond.initialized RX1, Cond.code yX1_likeliest cX1_likeliest 2 (some .int), Cond.methodLink RX1 88 yX1_needTest, Cond.instanceMethod yX1_needTest, Cond.selects RX1 yX1_needTest yX1_needTest, Cond.code yX1_needTest cX1_needTest 2 none, Cond.classLink RX1 61 "java/lang/IndexOutOfBoundsException", Cond.initialized "java/lang/IndexOutOfBoundsException", Cond.fieldLink RX1 46 "FlakeTriage" "testCount" "I", Cond.methodLink RX1 116 yX1_needTriage, Cond.instanceMethod yX1_needTriage, Cond.selects RX1 yX1_needTriage yX1_needTriage, Cond.code yX1_needTriage cX1_needTriage 2 none, Cond.classLink RX1 72 "java/lang/IllegalStateException", Cond.initialized "java/lang/IllegalStateException", Cond.fieldLink RX1 26 "FlakeTriage" "inTriage" "[Z", Cond.methodLink RX1 119 yX1_likeliestOf, Cond.instanceMethod yX1_likeliestOf, Cond.selects RX1 yX1_likeliestOf yX1_likeliestOf]
def wsL_likeliest_r2 : List Cond := [Cond.code yX1_likeliestOf cX1_likeliestOf 10 (some .int), Cond.fieldLink RX1 30 "FlakeTriage" "goodOf" "[I", Cond.fieldLink RX1 33 "FlakeTriage" "badOf" "[I", Cond.fieldLink RX1 22 "FlakeTriage" "log" "LFlakeTriage$RunLog;", Cond.methodLink RX1 154 yX1_suspectsOf, Cond.instanceMethod yX1_suspectsOf, Cond.selects RX1 yX1_suspectsOf yX1_suspectsOf, Cond.code yX1_suspectsOf cX1_suspectsOf 6 (some .long), Cond.fieldLink RX1 13 "FlakeTriage" "changedBy" "[I", Cond.methodLink RX1 141 yX1_allPartsOf, Cond.instanceMethod yX1_allPartsOf, Cond.selects RX1 yX1_allPartsOf yX1_allPartsOf, Cond.code yX1_allPartsOf cX1_allPartsOf 6 (some .int), Cond.fieldLink RX1 16 "FlakeTriage" "usedByTest" "[I", Cond.fieldLink RX1 9 "FlakeTriage" "usedByPart" "[I", Cond.methodLink RX1 157 yX1_has, Cond.static yX1_has, Cond.code yX1_has cX1_has 3 (some .boolean), Cond.methodLink RX1 186 yX0_passesWithin, Cond.instanceMethod yX0_passesWithin, Cond.selects RX0 yX0_passesWithin yX0_passesWithin, Cond.initialized RX0, Cond.code yX0_passesWithin cX0_passesWithin 6 (some .int), Cond.fieldLink RX0 23 "FlakeTriage$RunLog" "passes" "[[I"]
def wsL_likeliest_r3 : List Cond := [Cond.methodLink RX1 190 yX0_riseBehind, Cond.instanceMethod yX0_riseBehind, Cond.selects RX0 yX0_riseBehind yX0_riseBehind, Cond.code yX0_riseBehind cX0_riseBehind 3 (some .int), Cond.fieldLink RX0 26 "FlakeTriage$RunLog" "failures" "[[I"]
def wsL_likeliest : List Cond := .codeWith yL_likeliest cL_likeliest 4 (some .int) [(0, 9, 12, 13), (0, 9, 15, 21)] :: ((wsL_likeliest_r1 ++ (wsL_likeliest_r2 ++ wsL_likeliest_r3)) ++ wsX10 ++ wsX00 ++ (vx_atS RX1 65 "java/lang/IndexOutOfBoundsException" ["java/lang/RuntimeException", "java/lang/Exception"]).filter goodWord ++ (vx_atS RX1 76 "java/lang/IllegalStateException" ["java/lang/RuntimeException", "java/lang/Exception"]).filter goodWord)
def wsL_next_r1 : List Cond := [Cond.classLink RL 13 "java/lang/IndexOutOfBoundsException", Cond.classLink RL 21 "java/lang/IllegalStateException", Cond.methodLink RL 89 yX1_next, Cond.instanceMethod yX1_next, Cond.selects RX1 yX1_next yX1_next, Cond.initialized RX1, Cond.code yX1_next cX1_next 10 (some .int), Cond.fieldLink RX1 30 "FlakeTriage" "goodOf" "[I", Cond.fieldLink RX1 33 "FlakeTriage" "badOf" "[I", Cond.fieldLink RX1 22 "FlakeTriage" "log" "LFlakeTriage$RunLog;", Cond.methodLink RX1 88 yX1_needTest, Cond.instanceMethod yX1_needTest, Cond.selects RX1 yX1_needTest yX1_needTest, Cond.code yX1_needTest cX1_needTest 2 none, Cond.classLink RX1 61 "java/lang/IndexOutOfBoundsException", Cond.initialized "java/lang/IndexOutOfBoundsException", Cond.fieldLink RX1 46 "FlakeTriage" "testCount" "I", Cond.methodLink RX1 116 yX1_needTriage, Cond.instanceMethod yX1_needTriage, Cond.selects RX1 yX1_needTriage yX1_needTriage, Cond.code yX1_needTriage cX1_needTriage 2 none, Cond.classLink RX1 72 "java/lang/IllegalStateException", Cond.initialized "java/lang/IllegalStateException", Cond.fieldLink RX1 26 "FlakeTriage" "inTriage" "[Z"]
def wsL_next_r2 : List Cond := [Cond.methodLink RX1 106 yX1_candidatesOf, Cond.instanceMethod yX1_candidatesOf, Cond.selects RX1 yX1_candidatesOf yX1_candidatesOf, Cond.code yX1_candidatesOf cX1_candidatesOf 10 (some .long), Cond.fieldLink RX1 55 "FlakeTriage" "noise" "I", Cond.methodLink RX1 154 yX1_suspectsOf, Cond.instanceMethod yX1_suspectsOf, Cond.selects RX1 yX1_suspectsOf yX1_suspectsOf, Cond.code yX1_suspectsOf cX1_suspectsOf 6 (some .long), Cond.fieldLink RX1 13 "FlakeTriage" "changedBy" "[I", Cond.methodLink RX1 141 yX1_allPartsOf, Cond.instanceMethod yX1_allPartsOf, Cond.selects RX1 yX1_allPartsOf yX1_allPartsOf, Cond.code yX1_allPartsOf cX1_allPartsOf 6 (some .int), Cond.fieldLink RX1 16 "FlakeTriage" "usedByTest" "[I", Cond.fieldLink RX1 9 "FlakeTriage" "usedByPart" "[I", Cond.methodLink RX1 157 yX1_has, Cond.static yX1_has, Cond.code yX1_has cX1_has 3 (some .boolean), Cond.methodLink RX1 186 yX0_passesWithin, Cond.instanceMethod yX0_passesWithin, Cond.selects RX0 yX0_passesWithin yX0_passesWithin, Cond.initialized RX0, Cond.code yX0_passesWithin cX0_passesWithin 6 (some .int)]
def wsL_next_r3 : List Cond := [Cond.fieldLink RX0 23 "FlakeTriage$RunLog" "passes" "[[I", Cond.methodLink RX1 190 yX0_riseBehind, Cond.instanceMethod yX0_riseBehind, Cond.selects RX0 yX0_riseBehind yX0_riseBehind, Cond.code yX0_riseBehind cX0_riseBehind 3 (some .int), Cond.fieldLink RX0 26 "FlakeTriage$RunLog" "failures" "[[I", Cond.methodLink RX1 165 yX1_weightAt, Cond.static yX1_weightAt, Cond.code yX1_weightAt cX1_weightAt 5 (some .int), Cond.methodLink RX1 181 Lib.Math.max.name, Cond.static Lib.Math.max.name, Cond.initialized "java/lang/Math", Cond.code Lib.Math.max.name Lib.Math.max.code 2 (some .int), Cond.methodLink RX1 110 yJ13_bitCount_95d88, Cond.static yJ13_bitCount_95d88, Cond.initialized RJ13, Cond.code yJ13_bitCount_95d88 cJ13_bitCount_95d88 2 (some .int), Cond.constantLong RJ13 314 (6148914691236517205), Cond.constantLong RJ13 316 (3689348814741910323), Cond.constantLong RJ13 318 (1085102592571150095), Cond.methodLink RX1 169 yX0_countAt, Cond.instanceMethod yX0_countAt, Cond.selects RX0 yX0_countAt yX0_countAt, Cond.code yX0_countAt cX0_countAt 3 (some .int)]
def wsL_next : List Cond := .codeWith yL_next cL_next 4 (some .int) [(0, 9, 12, 13), (0, 9, 15, 21)] :: ((wsL_next_r1 ++ (wsL_next_r2 ++ wsL_next_r3)) ++ wsX10 ++ wsX00 ++ (vx_atS RX1 65 "java/lang/IndexOutOfBoundsException" ["java/lang/RuntimeException", "java/lang/Exception"]).filter goodWord ++ (vx_atS RX1 76 "java/lang/IllegalStateException" ["java/lang/RuntimeException", "java/lang/Exception"]).filter goodWord)
def wsL_law0_r1 : List Cond := [Cond.classLink RL 8 RX1, Cond.instantiable RX1 15, Cond.initialized RX1, Cond.classLink RL 93 RX2, Cond.instantiable RX2 16, Cond.initialized RX2, Cond.arrayClass .long, Cond.methodLink RL 92 yX1_init, Cond.instanceMethod yX1_init, Cond.code yX1_init cX1_init 1 none, Cond.methodLink RX1 1 objectInit, Cond.instanceMethod objectInit, Cond.code objectInit ⟨#[0xb1]⟩ 1 none, Cond.arrayClass .int, Cond.fieldLink RX1 9 "FlakeTriage" "usedByPart" "[I", Cond.fieldLink RX1 13 "FlakeTriage" "changedBy" "[I", Cond.fieldLink RX1 16 "FlakeTriage" "usedByTest" "[I", Cond.classLink RX1 19 RX0, Cond.instantiable RX0 5, Cond.initialized RX0, Cond.fieldLink RX1 22 "FlakeTriage" "log" "LFlakeTriage$RunLog;", Cond.arrayClass .boolean, Cond.fieldLink RX1 26 "FlakeTriage" "inTriage" "[Z", Cond.fieldLink RX1 30 "FlakeTriage" "goodOf" "[I"]
def wsL_law0_r2 : List Cond := [Cond.fieldLink RX1 33 "FlakeTriage" "badOf" "[I", Cond.fieldLink RX1 36 "FlakeTriage" "placeOf" "[I", Cond.fieldLink RX1 39 "FlakeTriage" "queueLength" "I", Cond.fieldLink RX1 43 "FlakeTriage" "commitCount" "I", Cond.fieldLink RX1 46 "FlakeTriage" "testCount" "I", Cond.fieldLink RX1 49 "FlakeTriage" "limit" "I", Cond.fieldLink RX1 52 "FlakeTriage" "window" "I", Cond.fieldLink RX1 55 "FlakeTriage" "noise" "I", Cond.fieldLink RX1 58 "FlakeTriage" "budgetLeft" "I", Cond.instanceMethod yX0_init, Cond.code yX0_init cX0_init 1 none, Cond.methodLink RX0 3 objectInit, Cond.fieldLink RX0 9 "FlakeTriage$RunLog" "count" "[I", Cond.classLink RX0 15 "[[I", Cond.fieldLink RX0 17 "FlakeTriage$RunLog" "commitOfRun" "[[I", Cond.fieldLink RX0 20 "FlakeTriage$RunLog" "passedOfRun" "[[I", Cond.fieldLink RX0 23 "FlakeTriage$RunLog" "passes" "[[I", Cond.fieldLink RX0 26 "FlakeTriage$RunLog" "failures" "[[I", Cond.methodLink RL 95 yX2_init, Cond.instanceMethod yX2_init, Cond.code yX2_init cX2_init 2 none, Cond.methodLink RX2 1 objectInit, Cond.fieldLink RX2 7 "FlakeTriageModel" "limit" "I", Cond.fieldLink RX2 13 "FlakeTriageModel" "window" "I"]
def wsL_law0_r3 : List Cond := [Cond.fieldLink RX2 16 "FlakeTriageModel" "uses" "[I", Cond.fieldLink RX2 20 "FlakeTriageModel" "changes" "[I", Cond.fieldLink RX2 23 "FlakeTriageModel" "direct" "[I", Cond.fieldLink RX2 26 "FlakeTriageModel" "passes" "[I", Cond.fieldLink RX2 29 "FlakeTriageModel" "fails" "[I", Cond.fieldLink RX2 32 "FlakeTriageModel" "good" "[I", Cond.fieldLink RX2 35 "FlakeTriageModel" "bad" "[I", Cond.fieldLink RX2 38 "FlakeTriageModel" "queue" "[I", Cond.methodLink RL 96 yL_setUses, Cond.static yL_setUses, Cond.initialized RL, Cond.codeWith yL_setUses cL_setUses 5 (some .int) [(0, 10, 13, 13), (0, 10, 17, 15)], Cond.classLink RL 13 "java/lang/IndexOutOfBoundsException", Cond.classLink RL 15 "java/lang/IllegalArgumentException", Cond.methodLink RL 7 yX1_setUses, Cond.instanceMethod yX1_setUses, Cond.selects RX1 yX1_setUses yX1_setUses, Cond.code yX1_setUses cX1_setUses 4 (some .int), Cond.classLink RX1 61 "java/lang/IndexOutOfBoundsException", Cond.initialized "java/lang/IndexOutOfBoundsException", Cond.methodLink RX1 68 yX1_needParts, Cond.static yX1_needParts, Cond.code yX1_needParts cX1_needParts 1 none, Cond.classLink RX1 79 "java/lang/IllegalArgumentException"]
def wsL_law0_r4 : List Cond := [Cond.initialized "java/lang/IllegalArgumentException", Cond.constant RX1 172 (65535), Cond.methodLink RL 101 yX2_setUses, Cond.instanceMethod yX2_setUses, Cond.selects RX2 yX2_setUses yX2_setUses, Cond.code yX2_setUses cX2_setUses 4 (some .int), Cond.methodLink RX2 45 yX2_in, Cond.static yX2_in, Cond.code yX2_in cX2_in 3 (some .boolean), Cond.methodLink RX2 59 yX2_areParts, Cond.static yX2_areParts, Cond.code yX2_areParts cX2_areParts 1 (some .boolean), Cond.constant RX2 44 (65535), Cond.methodLink RX2 62 yX2_goes, Cond.instanceMethod yX2_goes, Cond.selects RX2 yX2_goes yX2_goes, Cond.code yX2_goes cX2_goes 3 (some .boolean), Cond.fieldLink RX2 41 "FlakeTriageModel" "thrown" "I", Cond.methodLink RL 102 yX2_thrown, Cond.instanceMethod yX2_thrown, Cond.selects RX2 yX2_thrown yX2_thrown, Cond.code yX2_thrown cX2_thrown 1 (some .int), Cond.methodLink RL 105 yL_addCommit, Cond.static yL_addCommit]
def wsL_law0_r5 : List Cond := [Cond.codeWith yL_addCommit cL_addCommit 4 (some .int) [(0, 9, 12, 15), (0, 9, 15, 21)], Cond.classLink RL 21 "java/lang/IllegalStateException", Cond.methodLink RL 17 yX1_addCommit, Cond.instanceMethod yX1_addCommit, Cond.selects RX1 yX1_addCommit yX1_addCommit, Cond.code yX1_addCommit cX1_addCommit 3 (some .int), Cond.classLink RX1 72 "java/lang/IllegalStateException", Cond.initialized "java/lang/IllegalStateException", Cond.methodLink RL 108 yX2_addCommit, Cond.instanceMethod yX2_addCommit, Cond.selects RX2 yX2_addCommit yX2_addCommit, Cond.code yX2_addCommit cX2_addCommit 2 (some .int), Cond.fieldLink RX2 52 "FlakeTriageModel" "commits" "I", Cond.methodLink RL 109 yL_addTest, Cond.static yL_addTest, Cond.codeWith yL_addTest cL_addTest 4 (some .int) [(0, 9, 12, 15), (0, 9, 15, 21)], Cond.methodLink RL 23 yX1_addTest, Cond.instanceMethod yX1_addTest, Cond.selects RX1 yX1_addTest yX1_addTest, Cond.code yX1_addTest cX1_addTest 3 (some .int), Cond.methodLink RL 111 yX2_addTest, Cond.instanceMethod yX2_addTest, Cond.selects RX2 yX2_addTest yX2_addTest, Cond.code yX2_addTest cX2_addTest 2 (some .int)]
def wsL_law0_r6 : List Cond := [Cond.fieldLink RX2 49 "FlakeTriageModel" "tests" "I", Cond.methodLink RL 112 yL_setQuarantine, Cond.static yL_setQuarantine, Cond.codeWith yL_setQuarantine cL_setQuarantine 4 (some .int) [(0, 6, 9, 15)], Cond.methodLink RL 26 yX1_setQuarantine, Cond.instanceMethod yX1_setQuarantine, Cond.selects RX1 yX1_setQuarantine yX1_setQuarantine, Cond.code yX1_setQuarantine cX1_setQuarantine 3 none, Cond.methodLink RL 115 yX2_setQuarantine, Cond.instanceMethod yX2_setQuarantine, Cond.selects RX2 yX2_setQuarantine yX2_setQuarantine, Cond.code yX2_setQuarantine cX2_setQuarantine 3 none, Cond.methodLink RL 116 yL_setNoise, Cond.static yL_setNoise, Cond.codeWith yL_setNoise cL_setNoise 4 (some .int) [(0, 9, 12, 15)], Cond.methodLink RL 30 yX1_setNoise, Cond.instanceMethod yX1_setNoise, Cond.selects RX1 yX1_setNoise yX1_setNoise, Cond.code yX1_setNoise cX1_setNoise 3 (some .int), Cond.methodLink RL 118 yX2_setNoise, Cond.instanceMethod yX2_setNoise, Cond.selects RX2 yX2_setNoise yX2_setNoise, Cond.code yX2_setNoise cX2_setNoise 3 (some .int), Cond.fieldLink RX2 66 "FlakeTriageModel" "noise" "I"]
def wsL_law0_r7 : List Cond := [Cond.methodLink RL 119 yL_record, Cond.static yL_record, Cond.codeWith yL_record cL_record 6 (some .int) [(0, 12, 15, 13), (0, 12, 19, 21)], Cond.methodLink RL 33 yX1_record, Cond.instanceMethod yX1_record, Cond.selects RX1 yX1_record yX1_record, Cond.code yX1_record cX1_record 4 (some .int), Cond.methodLink RX1 88 yX1_needTest, Cond.instanceMethod yX1_needTest, Cond.selects RX1 yX1_needTest yX1_needTest, Cond.code yX1_needTest cX1_needTest 2 none, Cond.methodLink RX1 91 yX1_needCommit, Cond.instanceMethod yX1_needCommit, Cond.selects RX1 yX1_needCommit yX1_needCommit, Cond.code yX1_needCommit cX1_needCommit 2 none, Cond.methodLink RX1 94 yX0_add, Cond.instanceMethod yX0_add, Cond.selects RX0 yX0_add yX0_add, Cond.code yX0_add cX0_add 5 (some .boolean), Cond.methodLink RX1 100 yX0_verdictAt, Cond.instanceMethod yX0_verdictAt, Cond.selects RX0 yX0_verdictAt yX0_verdictAt, Cond.code yX0_verdictAt cX0_verdictAt 3 (some .int), Cond.methodLink RL 122 yX2_record]
def wsL_law0_r8 : List Cond := [Cond.instanceMethod yX2_record, Cond.selects RX2 yX2_record yX2_record, Cond.code yX2_record cX2_record 5 (some .int), Cond.methodLink RX2 55 yX2_isTest, Cond.instanceMethod yX2_isTest, Cond.selects RX2 yX2_isTest yX2_isTest, Cond.code yX2_isTest cX2_isTest 2 (some .boolean), Cond.methodLink RX2 95 yX2_isCommit, Cond.instanceMethod yX2_isCommit, Cond.selects RX2 yX2_isCommit yX2_isCommit, Cond.code yX2_isCommit cX2_isCommit 2 (some .boolean), Cond.methodLink RX2 98 yX2_allRuns, Cond.instanceMethod yX2_allRuns, Cond.selects RX2 yX2_allRuns yX2_allRuns, Cond.code yX2_allRuns cX2_allRuns 2 (some .int), Cond.methodLink RX2 69 yX2_all, Cond.instanceMethod yX2_all, Cond.selects RX2 yX2_all yX2_all, Cond.code yX2_all cX2_all 5 (some .int), Cond.methodLink RX2 73 yX2_verdictOf, Cond.instanceMethod yX2_verdictOf, Cond.selects RX2 yX2_verdictOf yX2_verdictOf, Cond.code yX2_verdictOf cX2_verdictOf 4 (some .int), Cond.methodLink RL 123 yL_triage]
def wsL_law0_r9 : List Cond := [Cond.static yL_triage, Cond.codeWith yL_triage cL_triage 6 (some .int) [(0, 12, 15, 13), (0, 12, 19, 15)], Cond.methodLink RL 37 yX1_triage, Cond.instanceMethod yX1_triage, Cond.selects RX1 yX1_triage yX1_triage, Cond.code yX1_triage cX1_triage 4 (some .int), Cond.methodLink RX1 106 yX1_candidatesOf, Cond.instanceMethod yX1_candidatesOf, Cond.selects RX1 yX1_candidatesOf yX1_candidatesOf, Cond.code yX1_candidatesOf cX1_candidatesOf 10 (some .long), Cond.methodLink RX1 154 yX1_suspectsOf, Cond.instanceMethod yX1_suspectsOf, Cond.selects RX1 yX1_suspectsOf yX1_suspectsOf, Cond.code yX1_suspectsOf cX1_suspectsOf 6 (some .long), Cond.methodLink RX1 141 yX1_allPartsOf, Cond.instanceMethod yX1_allPartsOf, Cond.selects RX1 yX1_allPartsOf yX1_allPartsOf, Cond.code yX1_allPartsOf cX1_allPartsOf 6 (some .int), Cond.methodLink RX1 157 yX1_has, Cond.static yX1_has, Cond.code yX1_has cX1_has 3 (some .boolean), Cond.methodLink RX1 186 yX0_passesWithin, Cond.instanceMethod yX0_passesWithin, Cond.selects RX0 yX0_passesWithin yX0_passesWithin]
def wsL_law0_r10 : List Cond := [Cond.code yX0_passesWithin cX0_passesWithin 6 (some .int), Cond.methodLink RX1 190 yX0_riseBehind, Cond.instanceMethod yX0_riseBehind, Cond.selects RX0 yX0_riseBehind yX0_riseBehind, Cond.code yX0_riseBehind cX0_riseBehind 3 (some .int), Cond.methodLink RX1 110 yJ13_bitCount_95d88, Cond.static yJ13_bitCount_95d88, Cond.initialized RJ13, Cond.code yJ13_bitCount_95d88 cJ13_bitCount_95d88 2 (some .int), Cond.constantLong RJ13 314 (6148914691236517205), Cond.constantLong RJ13 316 (3689348814741910323), Cond.constantLong RJ13 318 (1085102592571150095), Cond.methodLink RL 126 yX2_triage, Cond.instanceMethod yX2_triage, Cond.selects RX2 yX2_triage yX2_triage, Cond.code yX2_triage cX2_triage 4 (some .int), Cond.methodLink RX2 101 yX2_candidatesOf, Cond.instanceMethod yX2_candidatesOf, Cond.selects RX2 yX2_candidatesOf yX2_candidatesOf, Cond.code yX2_candidatesOf cX2_candidatesOf 2 (some .int), Cond.methodLink RX2 91 yX2_counts, Cond.instanceMethod yX2_counts, Cond.selects RX2 yX2_counts yX2_counts, Cond.code yX2_counts cX2_counts 6 (some .int)]
def wsL_law0_r11 : List Cond := [Cond.methodLink RX2 88 yX2_isCandidate, Cond.instanceMethod yX2_isCandidate, Cond.selects RX2 yX2_isCandidate yX2_isCandidate, Cond.code yX2_isCandidate cX2_isCandidate 3 (some .boolean), Cond.methodLink RX2 81 yX2_isSuspect, Cond.instanceMethod yX2_isSuspect, Cond.selects RX2 yX2_isSuspect yX2_isSuspect, Cond.code yX2_isSuspect cX2_isSuspect 3 (some .boolean), Cond.methodLink RX2 77 yX2_reach, Cond.instanceMethod yX2_reach, Cond.selects RX2 yX2_reach yX2_reach, Cond.code yX2_reach cX2_reach 5 (some .int), Cond.methodLink RX2 85 yX2_against, Cond.instanceMethod yX2_against, Cond.selects RX2 yX2_against yX2_against, Cond.code yX2_against cX2_against 5 (some .int), Cond.methodLink RL 127 yL_close, Cond.static yL_close, Cond.codeWith yL_close cL_close 4 (some .int) [(0, 9, 12, 13), (0, 9, 15, 21)], Cond.methodLink RL 41 yX1_close, Cond.instanceMethod yX1_close, Cond.selects RX1 yX1_close yX1_close, Cond.code yX1_close cX1_close 3 (some .int), Cond.methodLink RX1 116 yX1_needTriage]
def wsL_law0_r12 : List Cond := [Cond.instanceMethod yX1_needTriage, Cond.selects RX1 yX1_needTriage yX1_needTriage, Cond.code yX1_needTriage cX1_needTriage 2 none, Cond.methodLink RX1 119 yX1_likeliestOf, Cond.instanceMethod yX1_likeliestOf, Cond.selects RX1 yX1_likeliestOf yX1_likeliestOf, Cond.code yX1_likeliestOf cX1_likeliestOf 10 (some .int), Cond.methodLink RX1 123 yX1_leaveQueue, Cond.instanceMethod yX1_leaveQueue, Cond.selects RX1 yX1_leaveQueue yX1_leaveQueue, Cond.code yX1_leaveQueue cX1_leaveQueue 4 none, Cond.methodLink RL 129 yX2_close, Cond.instanceMethod yX2_close, Cond.selects RX2 yX2_close yX2_close, Cond.code yX2_close cX2_close 3 (some .int), Cond.methodLink RX2 107 yX2_isInTriage, Cond.instanceMethod yX2_isInTriage, Cond.selects RX2 yX2_isInTriage yX2_isInTriage, Cond.code yX2_isInTriage cX2_isInTriage 2 (some .boolean), Cond.methodLink RX2 110 yX2_only, Cond.instanceMethod yX2_only, Cond.selects RX2 yX2_only yX2_only, Cond.code yX2_only cX2_only 4 (some .int), Cond.methodLink RX2 113 yX2_placeOf]
def wsL_law0_r13 : List Cond := [Cond.instanceMethod yX2_placeOf, Cond.selects RX2 yX2_placeOf yX2_placeOf, Cond.code yX2_placeOf cX2_placeOf 4 (some .int), Cond.fieldLink RX2 104 "FlakeTriageModel" "queued" "I", Cond.methodLink RX2 116 yX2_leaves, Cond.instanceMethod yX2_leaves, Cond.selects RX2 yX2_leaves yX2_leaves, Cond.code yX2_leaves cX2_leaves 3 none, Cond.methodLink RL 130 yL_enqueue, Cond.static yL_enqueue, Cond.codeWith yL_enqueue cL_enqueue 4 (some .int) [(0, 9, 12, 13), (0, 9, 15, 21)], Cond.methodLink RL 44 yX1_enqueue, Cond.instanceMethod yX1_enqueue, Cond.selects RX1 yX1_enqueue yX1_enqueue, Cond.code yX1_enqueue cX1_enqueue 2 (some .int), Cond.methodLink RX1 128 yX1_joinQueue, Cond.instanceMethod yX1_joinQueue, Cond.selects RX1 yX1_joinQueue yX1_joinQueue, Cond.code yX1_joinQueue cX1_joinQueue 2 none, Cond.methodLink RL 132 yX2_enqueue, Cond.instanceMethod yX2_enqueue, Cond.selects RX2 yX2_enqueue yX2_enqueue, Cond.code yX2_enqueue cX2_enqueue 2 (some .int), Cond.methodLink RX2 120 yX2_joins]
def wsL_law0_r14 : List Cond := [Cond.instanceMethod yX2_joins, Cond.selects RX2 yX2_joins yX2_joins, Cond.code yX2_joins cX2_joins 2 none, Cond.methodLink RL 133 yL_newDay, Cond.static yL_newDay, Cond.codeWith yL_newDay cL_newDay 4 (some .int) [(0, 9, 12, 15)], Cond.methodLink RL 47 yX1_newDay, Cond.instanceMethod yX1_newDay, Cond.selects RX1 yX1_newDay yX1_newDay, Cond.code yX1_newDay cX1_newDay 3 (some .int), Cond.methodLink RL 135 yX2_newDay, Cond.instanceMethod yX2_newDay, Cond.selects RX2 yX2_newDay yX2_newDay, Cond.code yX2_newDay cX2_newDay 3 (some .int), Cond.fieldLink RX2 123 "FlakeTriageModel" "budget" "I", Cond.methodLink RL 136 yL_take, Cond.static yL_take, Cond.codeWith yL_take cL_take 3 (some .int) [(0, 8, 11, 21)], Cond.methodLink RL 50 yX1_take, Cond.instanceMethod yX1_take, Cond.selects RX1 yX1_take yX1_take, Cond.code yX1_take cX1_take 2 (some .int), Cond.methodLink RX1 133 yX1_firstInQueue, Cond.instanceMethod yX1_firstInQueue]
def wsL_law0_r15 : List Cond := [Cond.selects RX1 yX1_firstInQueue yX1_firstInQueue, Cond.code yX1_firstInQueue cX1_firstInQueue 2 (some .int), Cond.methodLink RL 139 yX2_take, Cond.instanceMethod yX2_take, Cond.selects RX2 yX2_take yX2_take, Cond.code yX2_take cX2_take 2 (some .int), Cond.methodLink RL 140 yX1_commits, Cond.instanceMethod yX1_commits, Cond.selects RX1 yX1_commits yX1_commits, Cond.code yX1_commits cX1_commits 1 (some .int), Cond.methodLink RL 143 yX2_commits, Cond.instanceMethod yX2_commits, Cond.selects RX2 yX2_commits yX2_commits, Cond.code yX2_commits cX2_commits 1 (some .int), Cond.methodLink RX2 126 yX2_told, Cond.instanceMethod yX2_told, Cond.selects RX2 yX2_told yX2_told, Cond.code yX2_told cX2_told 2 (some .int), Cond.methodLink RL 144 yX1_tests, Cond.instanceMethod yX1_tests, Cond.selects RX1 yX1_tests yX1_tests, Cond.code yX1_tests cX1_tests 1 (some .int), Cond.methodLink RL 147 yX2_tests, Cond.instanceMethod yX2_tests]
def wsL_law0_r16 : List Cond := [Cond.selects RX2 yX2_tests yX2_tests, Cond.code yX2_tests cX2_tests 1 (some .int), Cond.methodLink RL 148 yX1_budget, Cond.instanceMethod yX1_budget, Cond.selects RX1 yX1_budget yX1_budget, Cond.code yX1_budget cX1_budget 1 (some .int), Cond.methodLink RL 151 yX2_budget, Cond.instanceMethod yX2_budget, Cond.selects RX2 yX2_budget yX2_budget, Cond.code yX2_budget cX2_budget 1 (some .int), Cond.methodLink RL 152 yX1_queued, Cond.instanceMethod yX1_queued, Cond.selects RX1 yX1_queued yX1_queued, Cond.code yX1_queued cX1_queued 1 (some .int), Cond.methodLink RL 155 yX2_queued, Cond.instanceMethod yX2_queued, Cond.selects RX2 yX2_queued yX2_queued, Cond.code yX2_queued cX2_queued 1 (some .int), Cond.methodLink RL 156 yL_partsOf, Cond.static yL_partsOf, Cond.codeWith yL_partsOf cL_partsOf 4 (some .int) [(0, 9, 12, 13)], Cond.methodLink RL 54 yX1_partsOf, Cond.instanceMethod yX1_partsOf, Cond.selects RX1 yX1_partsOf yX1_partsOf]
def wsL_law0_r17 : List Cond := [Cond.code yX1_partsOf cX1_partsOf 2 (some .int), Cond.methodLink RL 158 yX2_partsOf, Cond.instanceMethod yX2_partsOf, Cond.selects RX2 yX2_partsOf yX2_partsOf, Cond.code yX2_partsOf cX2_partsOf 2 (some .int), Cond.methodLink RL 159 yL_touches, Cond.static yL_touches, Cond.codeWith yL_touches cL_touches 4 (some .int) [(0, 9, 12, 13)], Cond.methodLink RL 57 yX1_touches, Cond.instanceMethod yX1_touches, Cond.selects RX1 yX1_touches yX1_touches, Cond.code yX1_touches cX1_touches 4 (some .int), Cond.methodLink RL 161 yX2_touches, Cond.instanceMethod yX2_touches, Cond.selects RX2 yX2_touches yX2_touches, Cond.code yX2_touches cX2_touches 5 (some .int), Cond.methodLink RL 162 yL_runs, Cond.static yL_runs, Cond.codeWith yL_runs cL_runs 4 (some .int) [(0, 9, 12, 13)], Cond.methodLink RL 60 yX1_runs, Cond.instanceMethod yX1_runs, Cond.selects RX1 yX1_runs yX1_runs, Cond.code yX1_runs cX1_runs 2 (some .int), Cond.methodLink RX1 144 yX0_countOf]
def wsL_law0_r18 : List Cond := [Cond.instanceMethod yX0_countOf, Cond.selects RX0 yX0_countOf yX0_countOf, Cond.code yX0_countOf cX0_countOf 2 (some .int), Cond.methodLink RL 164 yX2_runs, Cond.instanceMethod yX2_runs, Cond.selects RX2 yX2_runs yX2_runs, Cond.code yX2_runs cX2_runs 2 (some .int), Cond.methodLink RL 165 yL_verdict, Cond.static yL_verdict, Cond.codeWith yL_verdict cL_verdict 5 (some .int) [(0, 10, 13, 13)], Cond.methodLink RL 63 yX1_verdict, Cond.instanceMethod yX1_verdict, Cond.selects RX1 yX1_verdict yX1_verdict, Cond.code yX1_verdict cX1_verdict 3 (some .int), Cond.methodLink RL 167 yX2_verdict, Cond.instanceMethod yX2_verdict, Cond.selects RX2 yX2_verdict yX2_verdict, Cond.code yX2_verdict cX2_verdict 3 (some .int), Cond.methodLink RL 168 yL_failing, Cond.static yL_failing, Cond.codeWith yL_failing cL_failing 4 (some .int) [(0, 9, 12, 13)], Cond.methodLink RL 66 yX1_failing, Cond.instanceMethod yX1_failing, Cond.selects RX1 yX1_failing yX1_failing]
def wsL_law0_r19 : List Cond := [Cond.code yX1_failing cX1_failing 3 (some .int), Cond.methodLink RX1 147 yX0_failuresOf, Cond.instanceMethod yX0_failuresOf, Cond.selects RX0 yX0_failuresOf yX0_failuresOf, Cond.code yX0_failuresOf cX0_failuresOf 4 (some .int), Cond.methodLink RL 170 yX2_failing, Cond.instanceMethod yX2_failing, Cond.selects RX2 yX2_failing yX2_failing, Cond.code yX2_failing cX2_failing 2 (some .int), Cond.methodLink RL 171 yL_isQuarantined, Cond.static yL_isQuarantined, Cond.codeWith yL_isQuarantined cL_isQuarantined 4 (some .int) [(0, 16, 19, 13)], Cond.methodLink RL 69 yX1_isQuarantined, Cond.instanceMethod yX1_isQuarantined, Cond.selects RX1 yX1_isQuarantined yX1_isQuarantined, Cond.code yX1_isQuarantined cX1_isQuarantined 2 (some .boolean), Cond.methodLink RX1 150 yX1_isUnsteady, Cond.instanceMethod yX1_isUnsteady, Cond.selects RX1 yX1_isUnsteady yX1_isUnsteady, Cond.code yX1_isUnsteady cX1_isUnsteady 4 (some .boolean), Cond.methodLink RX1 181 Lib.Math.max.name, Cond.static Lib.Math.max.name, Cond.initialized "java/lang/Math", Cond.code Lib.Math.max.name Lib.Math.max.code 2 (some .int)]
def wsL_law0_r20 : List Cond := [Cond.methodLink RL 173 yX2_isQuarantined, Cond.instanceMethod yX2_isQuarantined, Cond.selects RX2 yX2_isQuarantined yX2_isQuarantined, Cond.code yX2_isQuarantined cX2_isQuarantined 2 (some .boolean), Cond.methodLink RX2 129 yX2_isUnsteady, Cond.instanceMethod yX2_isUnsteady, Cond.selects RX2 yX2_isUnsteady yX2_isUnsteady, Cond.code yX2_isUnsteady cX2_isUnsteady 4 (some .boolean), Cond.methodLink RL 174 yL_broken, Cond.static yL_broken, Cond.codeWith yL_broken cL_broken 4 (some .int) [(0, 9, 12, 13)], Cond.methodLink RL 73 yX1_broken, Cond.instanceMethod yX1_broken, Cond.selects RX1 yX1_broken yX1_broken, Cond.code yX1_broken cX1_broken 4 (some .int), Cond.methodLink RL 176 yX2_broken, Cond.instanceMethod yX2_broken, Cond.selects RX2 yX2_broken yX2_broken, Cond.code yX2_broken cX2_broken 5 (some .int), Cond.methodLink RL 177 yL_suspects, Cond.static yL_suspects, Cond.codeWith yL_suspects cL_suspects 4 (some .int) [(0, 8, 11, 13), (0, 8, 14, 21)], Cond.methodLink RL 76 yX1_suspects, Cond.instanceMethod yX1_suspects]
def wsL_law0_r21 : List Cond := [Cond.selects RX1 yX1_suspects yX1_suspects, Cond.code yX1_suspects cX1_suspects 2 (some .long), Cond.methodLink RL 179 yX2_suspects, Cond.instanceMethod yX2_suspects, Cond.selects RX2 yX2_suspects yX2_suspects, Cond.code yX2_suspects cX2_suspects 6 (some .long), Cond.methodLink RL 180 yL_contradictions, Cond.static yL_contradictions, Cond.codeWith yL_contradictions cL_contradictions 5 (some .int) [(0, 10, 13, 13), (0, 10, 17, 21)], Cond.methodLink RL 80 yX1_contradictions, Cond.instanceMethod yX1_contradictions, Cond.selects RX1 yX1_contradictions yX1_contradictions, Cond.code yX1_contradictions cX1_contradictions 3 (some .int), Cond.methodLink RX1 161 yX0_contradicting, Cond.instanceMethod yX0_contradicting, Cond.selects RX0 yX0_contradicting yX0_contradicting, Cond.code yX0_contradicting cX0_contradicting 11 (some .int), Cond.methodLink RL 182 yX2_contradictions, Cond.instanceMethod yX2_contradictions, Cond.selects RX2 yX2_contradictions yX2_contradictions, Cond.code yX2_contradictions cX2_contradictions 3 (some .int), Cond.methodLink RL 183 yL_candidates, Cond.static yL_candidates, Cond.codeWith yL_candidates cL_candidates 4 (some .int) [(0, 8, 11, 13), (0, 8, 14, 21)]]
def wsL_law0_r22 : List Cond := [Cond.methodLink RL 83 yX1_candidates, Cond.instanceMethod yX1_candidates, Cond.selects RX1 yX1_candidates yX1_candidates, Cond.code yX1_candidates cX1_candidates 2 (some .long), Cond.methodLink RL 185 yX2_candidates, Cond.instanceMethod yX2_candidates, Cond.selects RX2 yX2_candidates yX2_candidates, Cond.code yX2_candidates cX2_candidates 6 (some .long), Cond.methodLink RL 186 yL_likeliest, Cond.static yL_likeliest, Cond.codeWith yL_likeliest cL_likeliest 4 (some .int) [(0, 9, 12, 13), (0, 9, 15, 21)], Cond.methodLink RL 86 yX1_likeliest, Cond.instanceMethod yX1_likeliest, Cond.selects RX1 yX1_likeliest yX1_likeliest, Cond.code yX1_likeliest cX1_likeliest 2 (some .int), Cond.methodLink RL 188 yX2_likeliest, Cond.instanceMethod yX2_likeliest, Cond.selects RX2 yX2_likeliest yX2_likeliest, Cond.code yX2_likeliest cX2_likeliest 5 (some .int), Cond.methodLink RL 189 yL_next, Cond.static yL_next, Cond.codeWith yL_next cL_next 4 (some .int) [(0, 9, 12, 13), (0, 9, 15, 21)], Cond.methodLink RL 89 yX1_next, Cond.instanceMethod yX1_next]
def wsL_law0_r23 : List Cond := [Cond.selects RX1 yX1_next yX1_next, Cond.code yX1_next cX1_next 10 (some .int), Cond.methodLink RX1 165 yX1_weightAt, Cond.static yX1_weightAt, Cond.code yX1_weightAt cX1_weightAt 5 (some .int), Cond.methodLink RX1 169 yX0_countAt, Cond.instanceMethod yX0_countAt, Cond.selects RX0 yX0_countAt yX0_countAt, Cond.code yX0_countAt cX0_countAt 3 (some .int), Cond.methodLink RL 191 yX2_next, Cond.instanceMethod yX2_next, Cond.selects RX2 yX2_next yX2_next, Cond.code yX2_next cX2_next 9 (some .int)]
def wsL_law0 : List Cond := (wsL_law0_r1 ++ (wsL_law0_r2 ++ (wsL_law0_r3 ++ (wsL_law0_r4 ++ (wsL_law0_r5 ++ (wsL_law0_r6 ++ (wsL_law0_r7 ++ (wsL_law0_r8 ++ (wsL_law0_r9 ++ (wsL_law0_r10 ++ (wsL_law0_r11 ++ (wsL_law0_r12 ++ (wsL_law0_r13 ++ (wsL_law0_r14 ++ (wsL_law0_r15 ++ (wsL_law0_r16 ++ (wsL_law0_r17 ++ (wsL_law0_r18 ++ (wsL_law0_r19 ++ (wsL_law0_r20 ++ (wsL_law0_r21 ++ (wsL_law0_r22 ++ wsL_law0_r23)))))))))))))))))))))) ++ wsX10 ++ wsX20 ++ wsX00 ++ ([] : List Cond)
def wsL_law : List Cond := wsL_law0 ++ (vx_atS RX1 65 "java/lang/IndexOutOfBoundsException" ["java/lang/RuntimeException", "java/lang/Exception"]).filter goodWord ++ (vx_atS RX1 83 "java/lang/IllegalArgumentException" ["java/lang/RuntimeException", "java/lang/Exception"]).filter goodWord ++ (vx_atS RX1 76 "java/lang/IllegalStateException" ["java/lang/RuntimeException", "java/lang/Exception"]).filter goodWord
end
section
set_option maxRecDepth 20000 in
theorem wsL_law_in0_r1 : ∀ w ∈ wsL_law0_r1, w ∈ lw_tbl := fun w h => (goodIn_r (big := lw_tbl) wsL_law0_r1 [43, 44, 32, 511, 512, 34, 761, 45, 46, 47, 48, 49, 50, 75, 76, 77, 78, 51, 52, 33, 79, 122, 80, 81] (by decide +kernel) (by decide +kernel) w h).1
set_option maxRecDepth 20000 in
theorem wsL_law_in0_r2 : ∀ w ∈ wsL_law0_r2, w ∈ lw_tbl := fun w h => (goodIn_r (big := lw_tbl) wsL_law0_r2 [82, 83, 84, 85, 86, 87, 88, 89, 90, 54, 55, 56, 59, 57, 60, 61, 62, 63, 513, 514, 515, 516, 519, 520] (by decide +kernel) (by decide +kernel) w h).1
set_option maxRecDepth 20000 in
theorem wsL_law_in0_r3 : ∀ w ∈ wsL_law0_r3, w ∈ lw_tbl := fun w h => (goodIn_r (big := lw_tbl) wsL_law0_r3 [523, 524, 525, 526, 527, 528, 529, 530, 139, 140, 31, 141, 142, 143, 144, 145, 146, 147, 148, 38, 216, 217, 218, 220] (by decide +kernel) (by decide +kernel) w h).1
set_option maxRecDepth 20000 in
theorem wsL_law_in0_r4 : ∀ w ∈ wsL_law0_r4, w ∈ lw_tbl := fun w h => (goodIn_r (big := lw_tbl) wsL_law0_r4 [39, 219, 570, 571, 572, 573, 574, 575, 576, 577, 578, 579, 580, 581, 583, 12, 584, 532, 566, 567, 568, 569, 236, 237] (by decide +kernel) (by decide +kernel) w h).1
set_option maxRecDepth 20000 in
theorem wsL_law_in0_r5 : ∀ w ∈ wsL_law0_r5, w ∈ lw_tbl := fun w h => (goodIn_r (big := lw_tbl) wsL_law0_r5 [238, 239, 240, 241, 242, 243, 244, 40, 585, 586, 587, 588, 517, 260, 261, 262, 263, 264, 265, 266, 589, 590, 591, 592] (by decide +kernel) (by decide +kernel) w h).1
set_option maxRecDepth 20000 in
theorem wsL_law_in0_r6 : ∀ w ∈ wsL_law0_r6, w ∈ lw_tbl := fun w h => (goodIn_r (big := lw_tbl) wsL_law0_r6 [518, 268, 269, 270, 271, 272, 273, 274, 593, 594, 595, 596, 277, 278, 279, 280, 281, 282, 283, 597, 598, 599, 600, 521] (by decide +kernel) (by decide +kernel) w h).1
set_option maxRecDepth 20000 in
theorem wsL_law_in0_r7 : ∀ w ∈ wsL_law0_r7, w ∈ lw_tbl := fun w h => (goodIn_r (big := lw_tbl) wsL_law0_r7 [285, 286, 287, 288, 289, 290, 291, 292, 294, 1, 295, 297, 299, 2, 300, 302, 303, 304, 305, 307, 308, 309, 310, 601] (by decide +kernel) (by decide +kernel) w h).1
set_option maxRecDepth 20000 in
theorem wsL_law_in0_r8 : ∀ w ∈ wsL_law0_r8, w ∈ lw_tbl := fun w h => (goodIn_r (big := lw_tbl) wsL_law0_r8 [602, 603, 604, 605, 607, 13, 608, 609, 611, 14, 612, 613, 615, 15, 616, 617, 619, 16, 620, 621, 623, 17, 624, 311] (by decide +kernel) (by decide +kernel) w h).1
set_option maxRecDepth 20000 in
theorem wsL_law_in0_r9 : ∀ w ∈ wsL_law0_r9, w ∈ lw_tbl := fun w h => (goodIn_r (big := lw_tbl) wsL_law0_r9 [312, 313, 314, 315, 316, 317, 319, 321, 3, 322, 323, 325, 4, 326, 327, 329, 5, 330, 331, 332, 333, 334, 335, 336] (by decide +kernel) (by decide +kernel) w h).1
set_option maxRecDepth 20000 in
theorem wsL_law_in0_r10 : ∀ w ∈ wsL_law0_r10, w ∈ lw_tbl := fun w h => (goodIn_r (big := lw_tbl) wsL_law0_r10 [337, 338, 339, 340, 341, 342, 343, 41, 344, 345, 346, 347, 625, 626, 627, 628, 629, 631, 18, 632, 633, 635, 19, 636] (by decide +kernel) (by decide +kernel) w h).1
set_option maxRecDepth 20000 in
theorem wsL_law_in0_r11 : ∀ w ∈ wsL_law0_r11, w ∈ lw_tbl := fun w h => (goodIn_r (big := lw_tbl) wsL_law0_r11 [637, 639, 20, 640, 641, 643, 21, 644, 645, 647, 22, 648, 649, 651, 23, 652, 348, 349, 350, 351, 352, 353, 354, 355] (by decide +kernel) (by decide +kernel) w h).1
set_option maxRecDepth 20000 in
theorem wsL_law_in0_r12 : ∀ w ∈ wsL_law0_r12, w ∈ lw_tbl := fun w h => (goodIn_r (big := lw_tbl) wsL_law0_r12 [357, 6, 358, 360, 362, 7, 363, 364, 366, 8, 367, 653, 654, 655, 656, 657, 659, 24, 660, 661, 663, 25, 664, 665] (by decide +kernel) (by decide +kernel) w h).1
set_option maxRecDepth 20000 in
theorem wsL_law_in0_r13 : ∀ w ∈ wsL_law0_r13, w ∈ lw_tbl := fun w h => (goodIn_r (big := lw_tbl) wsL_law0_r13 [667, 26, 668, 531, 669, 671, 27, 672, 368, 369, 370, 371, 372, 373, 374, 376, 378, 9, 379, 673, 674, 675, 676, 677] (by decide +kernel) (by decide +kernel) w h).1
set_option maxRecDepth 20000 in
theorem wsL_law_in0_r14 : ∀ w ∈ wsL_law0_r14, w ∈ lw_tbl := fun w h => (goodIn_r (big := lw_tbl) wsL_law0_r14 [679, 28, 680, 380, 381, 382, 383, 384, 385, 386, 681, 682, 683, 684, 522, 388, 389, 390, 391, 392, 393, 394, 395, 397] (by decide +kernel) (by decide +kernel) w h).1
set_option maxRecDepth 20000 in
theorem wsL_law_in0_r15 : ∀ w ∈ wsL_law0_r15, w ∈ lw_tbl := fun w h => (goodIn_r (big := lw_tbl) wsL_law0_r15 [10, 398, 685, 686, 687, 688, 123, 124, 125, 126, 689, 690, 691, 692, 693, 695, 29, 696, 127, 128, 129, 130, 697, 698] (by decide +kernel) (by decide +kernel) w h).1
set_option maxRecDepth 20000 in
theorem wsL_law_in0_r16 : ∀ w ∈ wsL_law0_r16, w ∈ lw_tbl := fun w h => (goodIn_r (big := lw_tbl) wsL_law0_r16 [699, 700, 131, 132, 133, 134, 701, 702, 703, 704, 135, 136, 137, 138, 705, 706, 707, 708, 401, 402, 403, 404, 405, 406] (by decide +kernel) (by decide +kernel) w h).1
set_option maxRecDepth 20000 in
theorem wsL_law_in0_r17 : ∀ w ∈ wsL_law0_r17, w ∈ lw_tbl := fun w h => (goodIn_r (big := lw_tbl) wsL_law0_r17 [407, 709, 710, 711, 712, 408, 409, 410, 411, 412, 413, 414, 713, 714, 715, 716, 415, 416, 417, 418, 419, 420, 421, 422] (by decide +kernel) (by decide +kernel) w h).1
set_option maxRecDepth 20000 in
theorem wsL_law_in0_r18 : ∀ w ∈ wsL_law0_r18, w ∈ lw_tbl := fun w h => (goodIn_r (big := lw_tbl) wsL_law0_r18 [423, 424, 425, 717, 718, 719, 720, 426, 427, 428, 429, 430, 431, 432, 721, 722, 723, 724, 433, 434, 435, 436, 437, 438] (by decide +kernel) (by decide +kernel) w h).1
set_option maxRecDepth 20000 in
theorem wsL_law_in0_r19 : ∀ w ∈ wsL_law0_r19, w ∈ lw_tbl := fun w h => (goodIn_r (big := lw_tbl) wsL_law0_r19 [439, 440, 441, 442, 443, 725, 726, 727, 728, 444, 445, 446, 447, 448, 449, 450, 451, 453, 11, 454, 455, 456, 42, 457] (by decide +kernel) (by decide +kernel) w h).1
set_option maxRecDepth 20000 in
theorem wsL_law_in0_r20 : ∀ w ∈ wsL_law0_r20, w ∈ lw_tbl := fun w h => (goodIn_r (big := lw_tbl) wsL_law0_r20 [729, 730, 731, 732, 733, 735, 30, 736, 458, 459, 460, 461, 462, 463, 464, 737, 738, 739, 740, 465, 466, 467, 468, 469] (by decide +kernel) (by decide +kernel) w h).1
set_option maxRecDepth 20000 in
theorem wsL_law_in0_r21 : ∀ w ∈ wsL_law0_r21, w ∈ lw_tbl := fun w h => (goodIn_r (big := lw_tbl) wsL_law0_r21 [470, 471, 741, 742, 743, 744, 472, 473, 474, 475, 476, 477, 478, 479, 480, 481, 482, 745, 746, 747, 748, 483, 484, 485] (by decide +kernel) (by decide +kernel) w h).1
set_option maxRecDepth 20000 in
theorem wsL_law_in0_r22 : ∀ w ∈ wsL_law0_r22, w ∈ lw_tbl := fun w h => (goodIn_r (big := lw_tbl) wsL_law0_r22 [486, 487, 488, 489, 749, 750, 751, 752, 490, 491, 492, 493, 494, 495, 496, 753, 754, 755, 756, 497, 498, 499, 500, 501] (by decide +kernel) (by decide +kernel) w h).1
set_option maxRecDepth 20000 in
theorem wsL_law_in0_r23 : ∀ w ∈ wsL_law0_r23, w ∈ lw_tbl := fun w h => (goodIn_r (big := lw_tbl) wsL_law0_r23 [502, 503, 504, 505, 506, 507, 508, 509, 510, 757, 758, 759, 760] (by decide +kernel) (by decide +kernel) w h).1
set_option maxRecDepth 20000 in
theorem wsL_law_in0_X1 : ∀ w ∈ wsX10, w ∈ lw_tbl := fun w h => (goodIn_r (big := lw_tbl) wsX10 [91, 93, 95, 97, 99, 101, 103, 105, 107, 109, 111, 113, 115, 117, 119] (by decide +kernel) (by decide +kernel) w h).1
set_option maxRecDepth 20000 in
theorem wsL_law_in0_X2 : ∀ w ∈ wsX20, w ∈ lw_tbl := fun w h => (goodIn_r (big := lw_tbl) wsX20 [533, 535, 537, 539, 541, 543, 545, 547, 549, 551, 553, 555, 557, 559, 561, 563] (by decide +kernel) (by decide +kernel) w h).1
set_option maxRecDepth 20000 in
theorem wsL_law_in0_X0 : ∀ w ∈ wsX00, w ∈ lw_tbl := fun w h => (goodIn_r (big := lw_tbl) wsX00 [64, 66, 68, 70, 72] (by decide +kernel) (by decide +kernel) w h).1
theorem wsL_law_in0 : ∀ w ∈ wsL_law0, w ∈ lw_tbl := fun w h => (List.mem_append.mp h).elim (fun h => (List.mem_append.mp h).elim (fun h => (List.mem_append.mp h).elim (fun h => (List.mem_append.mp h).elim (fun h => (fun w h => (List.mem_append.mp h).elim (wsL_law_in0_r1 w) ((fun w h => (List.mem_append.mp h).elim (wsL_law_in0_r2 w) ((fun w h => (List.mem_append.mp h).elim (wsL_law_in0_r3 w) ((fun w h => (List.mem_append.mp h).elim (wsL_law_in0_r4 w) ((fun w h => (List.mem_append.mp h).elim (wsL_law_in0_r5 w) ((fun w h => (List.mem_append.mp h).elim (wsL_law_in0_r6 w) ((fun w h => (List.mem_append.mp h).elim (wsL_law_in0_r7 w) ((fun w h => (List.mem_append.mp h).elim (wsL_law_in0_r8 w) ((fun w h => (List.mem_append.mp h).elim (wsL_law_in0_r9 w) ((fun w h => (List.mem_append.mp h).elim (wsL_law_in0_r10 w) ((fun w h => (List.mem_append.mp h).elim (wsL_law_in0_r11 w) ((fun w h => (List.mem_append.mp h).elim (wsL_law_in0_r12 w) ((fun w h => (List.mem_append.mp h).elim (wsL_law_in0_r13 w) ((fun w h => (List.mem_append.mp h).elim (wsL_law_in0_r14 w) ((fun w h => (List.mem_append.mp h).elim (wsL_law_in0_r15 w) ((fun w h => (List.mem_append.mp h).elim (wsL_law_in0_r16 w) ((fun w h => (List.mem_append.mp h).elim (wsL_law_in0_r17 w) ((fun w h => (List.mem_append.mp h).elim (wsL_law_in0_r18 w) ((fun w h => (List.mem_append.mp h).elim (wsL_law_in0_r19 w) ((fun w h => (List.mem_append.mp h).elim (wsL_law_in0_r20 w) ((fun w h => (List.mem_append.mp h).elim (wsL_law_in0_r21 w) ((fun w h => (List.mem_append.mp h).elim (wsL_law_in0_r22 w) ((fun w h => wsL_law_in0_r23 w h) w)) w)) w)) w)) w)) w)) w)) w)) w)) w)) w)) w)) w)) w)) w)) w)) w)) w)) w)) w)) w)) w)) w h) (fun h => wsL_law_in0_X1 w h)) (fun h => wsL_law_in0_X2 w h)) (fun h => wsL_law_in0_X0 w h)) (fun h => absurd h List.not_mem_nil)
theorem wsL_law_x0 : ∀ w ∈ (vx_atS RX1 65 "java/lang/IndexOutOfBoundsException" ["java/lang/RuntimeException", "java/lang/Exception"]).filter goodWord, w ∈ lw_tbl := by decide +kernel
theorem wsL_law_x1 : ∀ w ∈ (vx_atS RX1 83 "java/lang/IllegalArgumentException" ["java/lang/RuntimeException", "java/lang/Exception"]).filter goodWord, w ∈ lw_tbl := by decide +kernel
theorem wsL_law_x2 : ∀ w ∈ (vx_atS RX1 76 "java/lang/IllegalStateException" ["java/lang/RuntimeException", "java/lang/Exception"]).filter goodWord, w ∈ lw_tbl := by decide +kernel
theorem wsL_law_in : ∀ w ∈ wsL_law, w ∈ lw_tbl := fun w h => (List.mem_append.mp h).elim (fun h => (List.mem_append.mp h).elim (fun h => (List.mem_append.mp h).elim (fun h => wsL_law_in0 w h) (fun h => wsL_law_x0 w h)) (fun h => wsL_law_x1 w h)) (fun h => wsL_law_x2 w h)
theorem inlX0 : ∀ w ∈ wsX00, w ∈ wsL_law := fun _ h => List.mem_append_left _ (List.mem_append_left _ (List.mem_append_left _ (List.mem_append_left _ (List.mem_append_right _ h))))
theorem inX0 : ∀ w ∈ wsX00, w ∈ lw_tbl := fun w h => wsL_law_in w (inlX0 w h)
theorem inlX1 : ∀ w ∈ wsX10, w ∈ wsL_law := fun _ h => List.mem_append_left _ (List.mem_append_left _ (List.mem_append_left _ (List.mem_append_left _ (List.mem_append_left _ (List.mem_append_left _ (List.mem_append_right _ h))))))
theorem inX1 : ∀ w ∈ wsX10, w ∈ lw_tbl := fun w h => wsL_law_in w (inlX1 w h)
theorem inlX2 : ∀ w ∈ wsX20, w ∈ wsL_law := fun _ h => List.mem_append_left _ (List.mem_append_left _ (List.mem_append_left _ (List.mem_append_left _ (List.mem_append_left _ (List.mem_append_right _ h)))))
theorem inX2 : ∀ w ∈ wsX20, w ∈ lw_tbl := fun w h => wsL_law_in w (inlX2 w h)
theorem inJ13 : ∀ w ∈ wsJ130, w ∈ lw_tbl := by decide +kernel
theorem inJ9 : ∀ w ∈ wsJ90, w ∈ lw_tbl := by decide +kernel
theorem inJ0 : ∀ w ∈ wsJ00, w ∈ lw_tbl := by decide +kernel
end
section
theorem dX0_init_0 : decode cX0_init 0 = .ok (.aload_n 0, 1) := by decide +kernel
theorem dX0_init_1 : decode cX0_init 1 = .ok (.invokespecial 3, 3) := by decide +kernel
theorem dX0_init_4 : decode cX0_init 4 = .ok (.aload_n 0, 1) := by decide +kernel
theorem dX0_init_5 : decode cX0_init 5 = .ok (.bipush 12, 2) := by decide +kernel
theorem dX0_init_7 : decode cX0_init 7 = .ok (.newarray .int, 2) := by decide +kernel
theorem dX0_init_9 : decode cX0_init 9 = .ok (.putfield 9, 3) := by decide +kernel
theorem dX0_init_12 : decode cX0_init 12 = .ok (.aload_n 0, 1) := by decide +kernel
theorem dX0_init_13 : decode cX0_init 13 = .ok (.bipush 12, 2) := by decide +kernel
theorem dX0_init_15 : decode cX0_init 15 = .ok (.sipush 200, 3) := by decide +kernel
theorem dX0_init_18 : decode cX0_init 18 = .ok (.multianewarray 15 2, 4) := by decide +kernel
theorem dX0_init_22 : decode cX0_init 22 = .ok (.putfield 17, 3) := by decide +kernel
theorem dX0_init_25 : decode cX0_init 25 = .ok (.aload_n 0, 1) := by decide +kernel
theorem dX0_init_26 : decode cX0_init 26 = .ok (.bipush 12, 2) := by decide +kernel
theorem dX0_init_28 : decode cX0_init 28 = .ok (.sipush 200, 3) := by decide +kernel
theorem dX0_init_31 : decode cX0_init 31 = .ok (.multianewarray 15 2, 4) := by decide +kernel
theorem dX0_init_35 : decode cX0_init 35 = .ok (.putfield 20, 3) := by decide +kernel
theorem dX0_init_38 : decode cX0_init 38 = .ok (.aload_n 0, 1) := by decide +kernel
theorem dX0_init_39 : decode cX0_init 39 = .ok (.bipush 12, 2) := by decide +kernel
theorem dX0_init_41 : decode cX0_init 41 = .ok (.bipush 40, 2) := by decide +kernel
theorem dX0_init_43 : decode cX0_init 43 = .ok (.multianewarray 15 2, 4) := by decide +kernel
theorem dX0_init_47 : decode cX0_init 47 = .ok (.putfield 23, 3) := by decide +kernel
theorem dX0_init_50 : decode cX0_init 50 = .ok (.aload_n 0, 1) := by decide +kernel
theorem dX0_init_51 : decode cX0_init 51 = .ok (.bipush 12, 2) := by decide +kernel
theorem dX0_init_53 : decode cX0_init 53 = .ok (.bipush 40, 2) := by decide +kernel
theorem dX0_init_55 : decode cX0_init 55 = .ok (.multianewarray 15 2, 4) := by decide +kernel
theorem dX0_init_59 : decode cX0_init 59 = .ok (.putfield 26, 3) := by decide +kernel
theorem dX0_init_62 : decode cX0_init 62 = .ok (.return_, 1) := by decide +kernel
theorem dX0_add_0 : decode cX0_add 0 = .ok (.aload_n 0, 1) := by decide +kernel
theorem dX0_add_1 : decode cX0_add 1 = .ok (.getfield 9, 3) := by decide +kernel
theorem dX0_add_4 : decode cX0_add 4 = .ok (.iload_n 1, 1) := by decide +kernel
theorem dX0_add_5 : decode cX0_add 5 = .ok (.iaload, 1) := by decide +kernel
theorem dX0_add_6 : decode cX0_add 6 = .ok (.istore 4, 2) := by decide +kernel
theorem dX0_add_8 : decode cX0_add 8 = .ok (.iload 4, 2) := by decide +kernel
theorem dX0_add_10 : decode cX0_add 10 = .ok (.sipush 200, 3) := by decide +kernel
theorem dX0_add_13 : decode cX0_add 13 = .ok (.if_icmp .lt 5, 3) := by decide +kernel
theorem dX0_add_16 : decode cX0_add 16 = .ok (.iconst 0, 1) := by decide +kernel
theorem dX0_add_17 : decode cX0_add 17 = .ok (.ireturn, 1) := by decide +kernel
theorem dX0_add_18 : decode cX0_add 18 = .ok (.aload_n 0, 1) := by decide +kernel
theorem dX0_add_19 : decode cX0_add 19 = .ok (.getfield 17, 3) := by decide +kernel
theorem dX0_add_22 : decode cX0_add 22 = .ok (.iload_n 1, 1) := by decide +kernel
theorem dX0_add_23 : decode cX0_add 23 = .ok (.aaload, 1) := by decide +kernel
theorem dX0_add_24 : decode cX0_add 24 = .ok (.iload 4, 2) := by decide +kernel
theorem dX0_add_26 : decode cX0_add 26 = .ok (.iload_n 2, 1) := by decide +kernel
theorem dX0_add_27 : decode cX0_add 27 = .ok (.iastore, 1) := by decide +kernel
theorem dX0_add_28 : decode cX0_add 28 = .ok (.aload_n 0, 1) := by decide +kernel
theorem dX0_add_29 : decode cX0_add 29 = .ok (.getfield 20, 3) := by decide +kernel
theorem dX0_add_32 : decode cX0_add 32 = .ok (.iload_n 1, 1) := by decide +kernel
theorem dX0_add_33 : decode cX0_add 33 = .ok (.aaload, 1) := by decide +kernel
theorem dX0_add_34 : decode cX0_add 34 = .ok (.iload 4, 2) := by decide +kernel
theorem dX0_add_36 : decode cX0_add 36 = .ok (.iload_n 3, 1) := by decide +kernel
theorem dX0_add_37 : decode cX0_add 37 = .ok (.ifCond .eq 7, 3) := by decide +kernel
theorem dX0_add_40 : decode cX0_add 40 = .ok (.iconst 1, 1) := by decide +kernel
theorem dX0_add_41 : decode cX0_add 41 = .ok (.goto 4, 3) := by decide +kernel
theorem dX0_add_44 : decode cX0_add 44 = .ok (.iconst 0, 1) := by decide +kernel
theorem dX0_add_45 : decode cX0_add 45 = .ok (.iastore, 1) := by decide +kernel
theorem dX0_add_46 : decode cX0_add 46 = .ok (.iload_n 3, 1) := by decide +kernel
theorem dX0_add_47 : decode cX0_add 47 = .ok (.ifCond .eq 18, 3) := by decide +kernel
theorem dX0_add_50 : decode cX0_add 50 = .ok (.aload_n 0, 1) := by decide +kernel
theorem dX0_add_51 : decode cX0_add 51 = .ok (.getfield 23, 3) := by decide +kernel
theorem dX0_add_54 : decode cX0_add 54 = .ok (.iload_n 1, 1) := by decide +kernel
theorem dX0_add_55 : decode cX0_add 55 = .ok (.aaload, 1) := by decide +kernel
theorem dX0_add_56 : decode cX0_add 56 = .ok (.iload_n 2, 1) := by decide +kernel
theorem dX0_add_57 : decode cX0_add 57 = .ok (.dup2, 1) := by decide +kernel
theorem dX0_add_58 : decode cX0_add 58 = .ok (.iaload, 1) := by decide +kernel
theorem dX0_add_59 : decode cX0_add 59 = .ok (.iconst 1, 1) := by decide +kernel
theorem dX0_add_60 : decode cX0_add 60 = .ok (.iadd, 1) := by decide +kernel
theorem dX0_add_61 : decode cX0_add 61 = .ok (.iastore, 1) := by decide +kernel
theorem dX0_add_62 : decode cX0_add 62 = .ok (.goto 15, 3) := by decide +kernel
theorem dX0_add_65 : decode cX0_add 65 = .ok (.aload_n 0, 1) := by decide +kernel
theorem dX0_add_66 : decode cX0_add 66 = .ok (.getfield 26, 3) := by decide +kernel
theorem dX0_add_69 : decode cX0_add 69 = .ok (.iload_n 1, 1) := by decide +kernel
theorem dX0_add_70 : decode cX0_add 70 = .ok (.aaload, 1) := by decide +kernel
theorem dX0_add_71 : decode cX0_add 71 = .ok (.iload_n 2, 1) := by decide +kernel
theorem dX0_add_72 : decode cX0_add 72 = .ok (.dup2, 1) := by decide +kernel
theorem dX0_add_73 : decode cX0_add 73 = .ok (.iaload, 1) := by decide +kernel
theorem dX0_add_74 : decode cX0_add 74 = .ok (.iconst 1, 1) := by decide +kernel
theorem dX0_add_75 : decode cX0_add 75 = .ok (.iadd, 1) := by decide +kernel
theorem dX0_add_76 : decode cX0_add 76 = .ok (.iastore, 1) := by decide +kernel
theorem dX0_add_77 : decode cX0_add 77 = .ok (.aload_n 0, 1) := by decide +kernel
theorem dX0_add_78 : decode cX0_add 78 = .ok (.getfield 9, 3) := by decide +kernel
theorem dX0_add_81 : decode cX0_add 81 = .ok (.iload_n 1, 1) := by decide +kernel
theorem dX0_add_82 : decode cX0_add 82 = .ok (.iload 4, 2) := by decide +kernel
theorem dX0_add_84 : decode cX0_add 84 = .ok (.iconst 1, 1) := by decide +kernel
theorem dX0_add_85 : decode cX0_add 85 = .ok (.iadd, 1) := by decide +kernel
theorem dX0_add_86 : decode cX0_add 86 = .ok (.iastore, 1) := by decide +kernel
theorem dX0_add_87 : decode cX0_add 87 = .ok (.iconst 1, 1) := by decide +kernel
theorem dX0_add_88 : decode cX0_add 88 = .ok (.ireturn, 1) := by decide +kernel
theorem dX0_countOf_0 : decode cX0_countOf 0 = .ok (.aload_n 0, 1) := by decide +kernel
theorem dX0_countOf_1 : decode cX0_countOf 1 = .ok (.getfield 9, 3) := by decide +kernel
theorem dX0_countOf_4 : decode cX0_countOf 4 = .ok (.iload_n 1, 1) := by decide +kernel
theorem dX0_countOf_5 : decode cX0_countOf 5 = .ok (.iaload, 1) := by decide +kernel
theorem dX0_countOf_6 : decode cX0_countOf 6 = .ok (.ireturn, 1) := by decide +kernel
theorem dX0_countAt_0 : decode cX0_countAt 0 = .ok (.aload_n 0, 1) := by decide +kernel
theorem dX0_countAt_1 : decode cX0_countAt 1 = .ok (.getfield 23, 3) := by decide +kernel
theorem dX0_countAt_4 : decode cX0_countAt 4 = .ok (.iload_n 1, 1) := by decide +kernel
theorem dX0_countAt_5 : decode cX0_countAt 5 = .ok (.aaload, 1) := by decide +kernel
theorem dX0_countAt_6 : decode cX0_countAt 6 = .ok (.iload_n 2, 1) := by decide +kernel
theorem dX0_countAt_7 : decode cX0_countAt 7 = .ok (.iaload, 1) := by decide +kernel
theorem dX0_countAt_8 : decode cX0_countAt 8 = .ok (.aload_n 0, 1) := by decide +kernel
theorem dX0_countAt_9 : decode cX0_countAt 9 = .ok (.getfield 26, 3) := by decide +kernel
theorem dX0_countAt_12 : decode cX0_countAt 12 = .ok (.iload_n 1, 1) := by decide +kernel
theorem dX0_countAt_13 : decode cX0_countAt 13 = .ok (.aaload, 1) := by decide +kernel
theorem dX0_countAt_14 : decode cX0_countAt 14 = .ok (.iload_n 2, 1) := by decide +kernel
theorem dX0_countAt_15 : decode cX0_countAt 15 = .ok (.iaload, 1) := by decide +kernel
theorem dX0_countAt_16 : decode cX0_countAt 16 = .ok (.iadd, 1) := by decide +kernel
theorem dX0_countAt_17 : decode cX0_countAt 17 = .ok (.ireturn, 1) := by decide +kernel
theorem dX0_failuresOf_0 : decode cX0_failuresOf 0 = .ok (.iconst 0, 1) := by decide +kernel
theorem dX0_failuresOf_1 : decode cX0_failuresOf 1 = .ok (.istore_n 2, 1) := by decide +kernel
theorem dX0_failuresOf_2 : decode cX0_failuresOf 2 = .ok (.iconst 0, 1) := by decide +kernel
theorem dX0_failuresOf_3 : decode cX0_failuresOf 3 = .ok (.istore_n 3, 1) := by decide +kernel
theorem dX0_failuresOf_4 : decode cX0_failuresOf 4 = .ok (.iload_n 3, 1) := by decide +kernel
theorem dX0_failuresOf_5 : decode cX0_failuresOf 5 = .ok (.bipush 40, 2) := by decide +kernel
theorem dX0_failuresOf_7 : decode cX0_failuresOf 7 = .ok (.if_icmp .ge 20, 3) := by decide +kernel
theorem dX0_failuresOf_10 : decode cX0_failuresOf 10 = .ok (.iload_n 2, 1) := by decide +kernel
theorem dX0_failuresOf_11 : decode cX0_failuresOf 11 = .ok (.aload_n 0, 1) := by decide +kernel
theorem dX0_failuresOf_12 : decode cX0_failuresOf 12 = .ok (.getfield 26, 3) := by decide +kernel
theorem dX0_failuresOf_15 : decode cX0_failuresOf 15 = .ok (.iload_n 1, 1) := by decide +kernel
theorem dX0_failuresOf_16 : decode cX0_failuresOf 16 = .ok (.aaload, 1) := by decide +kernel
theorem dX0_failuresOf_17 : decode cX0_failuresOf 17 = .ok (.iload_n 3, 1) := by decide +kernel
theorem dX0_failuresOf_18 : decode cX0_failuresOf 18 = .ok (.iaload, 1) := by decide +kernel
theorem dX0_failuresOf_19 : decode cX0_failuresOf 19 = .ok (.iadd, 1) := by decide +kernel
theorem dX0_failuresOf_20 : decode cX0_failuresOf 20 = .ok (.istore_n 2, 1) := by decide +kernel
theorem dX0_failuresOf_21 : decode cX0_failuresOf 21 = .ok (.iinc 3 1, 3) := by decide +kernel
theorem dX0_failuresOf_24 : decode cX0_failuresOf 24 = .ok (.goto (-20), 3) := by decide +kernel
theorem dX0_failuresOf_27 : decode cX0_failuresOf 27 = .ok (.iload_n 2, 1) := by decide +kernel
theorem dX0_failuresOf_28 : decode cX0_failuresOf 28 = .ok (.ireturn, 1) := by decide +kernel
theorem dX0_verdictAt_0 : decode cX0_verdictAt 0 = .ok (.aload_n 0, 1) := by decide +kernel
theorem dX0_verdictAt_1 : decode cX0_verdictAt 1 = .ok (.getfield 23, 3) := by decide +kernel
theorem dX0_verdictAt_4 : decode cX0_verdictAt 4 = .ok (.iload_n 1, 1) := by decide +kernel
theorem dX0_verdictAt_5 : decode cX0_verdictAt 5 = .ok (.aaload, 1) := by decide +kernel
theorem dX0_verdictAt_6 : decode cX0_verdictAt 6 = .ok (.iload_n 2, 1) := by decide +kernel
theorem dX0_verdictAt_7 : decode cX0_verdictAt 7 = .ok (.iaload, 1) := by decide +kernel
theorem dX0_verdictAt_8 : decode cX0_verdictAt 8 = .ok (.ifCond .le 7, 3) := by decide +kernel
theorem dX0_verdictAt_11 : decode cX0_verdictAt 11 = .ok (.iconst 1, 1) := by decide +kernel
theorem dX0_verdictAt_12 : decode cX0_verdictAt 12 = .ok (.goto 4, 3) := by decide +kernel
theorem dX0_verdictAt_15 : decode cX0_verdictAt 15 = .ok (.iconst 0, 1) := by decide +kernel
theorem dX0_verdictAt_16 : decode cX0_verdictAt 16 = .ok (.aload_n 0, 1) := by decide +kernel
theorem dX0_verdictAt_17 : decode cX0_verdictAt 17 = .ok (.getfield 26, 3) := by decide +kernel
theorem dX0_verdictAt_20 : decode cX0_verdictAt 20 = .ok (.iload_n 1, 1) := by decide +kernel
theorem dX0_verdictAt_21 : decode cX0_verdictAt 21 = .ok (.aaload, 1) := by decide +kernel
theorem dX0_verdictAt_22 : decode cX0_verdictAt 22 = .ok (.iload_n 2, 1) := by decide +kernel
theorem dX0_verdictAt_23 : decode cX0_verdictAt 23 = .ok (.iaload, 1) := by decide +kernel
theorem dX0_verdictAt_24 : decode cX0_verdictAt 24 = .ok (.ifCond .le 7, 3) := by decide +kernel
theorem dX0_verdictAt_27 : decode cX0_verdictAt 27 = .ok (.iconst 2, 1) := by decide +kernel
theorem dX0_verdictAt_28 : decode cX0_verdictAt 28 = .ok (.goto 4, 3) := by decide +kernel
theorem dX0_verdictAt_31 : decode cX0_verdictAt 31 = .ok (.iconst 0, 1) := by decide +kernel
theorem dX0_verdictAt_32 : decode cX0_verdictAt 32 = .ok (.iadd, 1) := by decide +kernel
theorem dX0_verdictAt_33 : decode cX0_verdictAt 33 = .ok (.ireturn, 1) := by decide +kernel
theorem dX0_contradicting_0 : decode cX0_contradicting 0 = .ok (.iconst 0, 1) := by decide +kernel
theorem dX0_contradicting_1 : decode cX0_contradicting 1 = .ok (.istore 5, 2) := by decide +kernel
theorem dX0_contradicting_3 : decode cX0_contradicting 3 = .ok (.iconst 0, 1) := by decide +kernel
theorem dX0_contradicting_4 : decode cX0_contradicting 4 = .ok (.istore 6, 2) := by decide +kernel
theorem dX0_contradicting_6 : decode cX0_contradicting 6 = .ok (.iload 6, 2) := by decide +kernel
theorem dX0_contradicting_8 : decode cX0_contradicting 8 = .ok (.aload_n 0, 1) := by decide +kernel
theorem dX0_contradicting_9 : decode cX0_contradicting 9 = .ok (.getfield 9, 3) := by decide +kernel
theorem dX0_contradicting_12 : decode cX0_contradicting 12 = .ok (.iload_n 1, 1) := by decide +kernel
theorem dX0_contradicting_13 : decode cX0_contradicting 13 = .ok (.iaload, 1) := by decide +kernel
theorem dX0_contradicting_14 : decode cX0_contradicting 14 = .ok (.if_icmp .ge 88, 3) := by decide +kernel
theorem dX0_contradicting_17 : decode cX0_contradicting 17 = .ok (.aload_n 0, 1) := by decide +kernel
theorem dX0_contradicting_18 : decode cX0_contradicting 18 = .ok (.getfield 17, 3) := by decide +kernel
theorem dX0_contradicting_21 : decode cX0_contradicting 21 = .ok (.iload_n 1, 1) := by decide +kernel
theorem dX0_contradicting_22 : decode cX0_contradicting 22 = .ok (.aaload, 1) := by decide +kernel
theorem dX0_contradicting_23 : decode cX0_contradicting 23 = .ok (.iload 6, 2) := by decide +kernel
theorem dX0_contradicting_25 : decode cX0_contradicting 25 = .ok (.iaload, 1) := by decide +kernel
theorem dX0_contradicting_26 : decode cX0_contradicting 26 = .ok (.istore 7, 2) := by decide +kernel
theorem dX0_contradicting_28 : decode cX0_contradicting 28 = .ok (.iload 7, 2) := by decide +kernel
theorem dX0_contradicting_30 : decode cX0_contradicting 30 = .ok (.iload_n 2, 1) := by decide +kernel
theorem dX0_contradicting_31 : decode cX0_contradicting 31 = .ok (.if_icmp .lt 13, 3) := by decide +kernel
theorem dX0_contradicting_34 : decode cX0_contradicting 34 = .ok (.iload 7, 2) := by decide +kernel
theorem dX0_contradicting_36 : decode cX0_contradicting 36 = .ok (.iload_n 3, 1) := by decide +kernel
theorem dX0_contradicting_37 : decode cX0_contradicting 37 = .ok (.if_icmp .gt 7, 3) := by decide +kernel
theorem dX0_contradicting_40 : decode cX0_contradicting 40 = .ok (.iconst 1, 1) := by decide +kernel
theorem dX0_contradicting_41 : decode cX0_contradicting 41 = .ok (.goto 4, 3) := by decide +kernel
theorem dX0_contradicting_44 : decode cX0_contradicting 44 = .ok (.iconst 0, 1) := by decide +kernel
theorem dX0_contradicting_45 : decode cX0_contradicting 45 = .ok (.istore 8, 2) := by decide +kernel
theorem dX0_contradicting_47 : decode cX0_contradicting 47 = .ok (.aload_n 0, 1) := by decide +kernel
theorem dX0_contradicting_48 : decode cX0_contradicting 48 = .ok (.getfield 20, 3) := by decide +kernel
theorem dX0_contradicting_51 : decode cX0_contradicting 51 = .ok (.iload_n 1, 1) := by decide +kernel
theorem dX0_contradicting_52 : decode cX0_contradicting 52 = .ok (.aaload, 1) := by decide +kernel
theorem dX0_contradicting_53 : decode cX0_contradicting 53 = .ok (.iload 6, 2) := by decide +kernel
theorem dX0_contradicting_55 : decode cX0_contradicting 55 = .ok (.iaload, 1) := by decide +kernel
theorem dX0_contradicting_56 : decode cX0_contradicting 56 = .ok (.iconst 1, 1) := by decide +kernel
theorem dX0_contradicting_57 : decode cX0_contradicting 57 = .ok (.if_icmp .ne 7, 3) := by decide +kernel
theorem dX0_contradicting_60 : decode cX0_contradicting 60 = .ok (.iconst 1, 1) := by decide +kernel
theorem dX0_contradicting_61 : decode cX0_contradicting 61 = .ok (.goto 4, 3) := by decide +kernel
theorem dX0_contradicting_64 : decode cX0_contradicting 64 = .ok (.iconst 0, 1) := by decide +kernel
theorem dX0_contradicting_65 : decode cX0_contradicting 65 = .ok (.istore 9, 2) := by decide +kernel
theorem dX0_contradicting_67 : decode cX0_contradicting 67 = .ok (.iload 7, 2) := by decide +kernel
theorem dX0_contradicting_69 : decode cX0_contradicting 69 = .ok (.iload 4, 2) := by decide +kernel
theorem dX0_contradicting_71 : decode cX0_contradicting 71 = .ok (.if_icmp .lt 7, 3) := by decide +kernel
theorem dX0_contradicting_74 : decode cX0_contradicting 74 = .ok (.iconst 1, 1) := by decide +kernel
theorem dX0_contradicting_75 : decode cX0_contradicting 75 = .ok (.goto 4, 3) := by decide +kernel
theorem dX0_contradicting_78 : decode cX0_contradicting 78 = .ok (.iconst 0, 1) := by decide +kernel
theorem dX0_contradicting_79 : decode cX0_contradicting 79 = .ok (.istore 10, 2) := by decide +kernel
theorem dX0_contradicting_81 : decode cX0_contradicting 81 = .ok (.iload 8, 2) := by decide +kernel
theorem dX0_contradicting_83 : decode cX0_contradicting 83 = .ok (.ifCond .eq 13, 3) := by decide +kernel
theorem dX0_contradicting_86 : decode cX0_contradicting 86 = .ok (.iload 9, 2) := by decide +kernel
theorem dX0_contradicting_88 : decode cX0_contradicting 88 = .ok (.iload 10, 2) := by decide +kernel
theorem dX0_contradicting_90 : decode cX0_contradicting 90 = .ok (.if_icmp .ne 6, 3) := by decide +kernel
theorem dX0_contradicting_93 : decode cX0_contradicting 93 = .ok (.iinc 5 1, 3) := by decide +kernel
theorem dX0_contradicting_96 : decode cX0_contradicting 96 = .ok (.iinc 6 1, 3) := by decide +kernel
theorem dX0_contradicting_99 : decode cX0_contradicting 99 = .ok (.goto (-93), 3) := by decide +kernel
theorem dX0_contradicting_102 : decode cX0_contradicting 102 = .ok (.iload 5, 2) := by decide +kernel
theorem dX0_contradicting_104 : decode cX0_contradicting 104 = .ok (.ireturn, 1) := by decide +kernel
theorem dX0_passesWithin_0 : decode cX0_passesWithin 0 = .ok (.iconst 0, 1) := by decide +kernel
theorem dX0_passesWithin_1 : decode cX0_passesWithin 1 = .ok (.istore 4, 2) := by decide +kernel
theorem dX0_passesWithin_3 : decode cX0_passesWithin 3 = .ok (.iload_n 2, 1) := by decide +kernel
theorem dX0_passesWithin_4 : decode cX0_passesWithin 4 = .ok (.istore 5, 2) := by decide +kernel
theorem dX0_passesWithin_6 : decode cX0_passesWithin 6 = .ok (.iload 5, 2) := by decide +kernel
theorem dX0_passesWithin_8 : decode cX0_passesWithin 8 = .ok (.iload_n 3, 1) := by decide +kernel
theorem dX0_passesWithin_9 : decode cX0_passesWithin 9 = .ok (.if_icmp .gt 23, 3) := by decide +kernel
theorem dX0_passesWithin_12 : decode cX0_passesWithin 12 = .ok (.iload 4, 2) := by decide +kernel
theorem dX0_passesWithin_14 : decode cX0_passesWithin 14 = .ok (.aload_n 0, 1) := by decide +kernel
theorem dX0_passesWithin_15 : decode cX0_passesWithin 15 = .ok (.getfield 23, 3) := by decide +kernel
theorem dX0_passesWithin_18 : decode cX0_passesWithin 18 = .ok (.iload_n 1, 1) := by decide +kernel
theorem dX0_passesWithin_19 : decode cX0_passesWithin 19 = .ok (.aaload, 1) := by decide +kernel
theorem dX0_passesWithin_20 : decode cX0_passesWithin 20 = .ok (.iload 5, 2) := by decide +kernel
theorem dX0_passesWithin_22 : decode cX0_passesWithin 22 = .ok (.iaload, 1) := by decide +kernel
theorem dX0_passesWithin_23 : decode cX0_passesWithin 23 = .ok (.iadd, 1) := by decide +kernel
theorem dX0_passesWithin_24 : decode cX0_passesWithin 24 = .ok (.istore 4, 2) := by decide +kernel
theorem dX0_passesWithin_26 : decode cX0_passesWithin 26 = .ok (.iinc 5 1, 3) := by decide +kernel
theorem dX0_passesWithin_29 : decode cX0_passesWithin 29 = .ok (.goto (-23), 3) := by decide +kernel
theorem dX0_passesWithin_32 : decode cX0_passesWithin 32 = .ok (.iload 4, 2) := by decide +kernel
theorem dX0_passesWithin_34 : decode cX0_passesWithin 34 = .ok (.ireturn, 1) := by decide +kernel
theorem dX0_riseBehind_0 : decode cX0_riseBehind 0 = .ok (.aload_n 0, 1) := by decide +kernel
theorem dX0_riseBehind_1 : decode cX0_riseBehind 1 = .ok (.getfield 26, 3) := by decide +kernel
theorem dX0_riseBehind_4 : decode cX0_riseBehind 4 = .ok (.iload_n 1, 1) := by decide +kernel
theorem dX0_riseBehind_5 : decode cX0_riseBehind 5 = .ok (.aaload, 1) := by decide +kernel
theorem dX0_riseBehind_6 : decode cX0_riseBehind 6 = .ok (.iload_n 2, 1) := by decide +kernel
theorem dX0_riseBehind_7 : decode cX0_riseBehind 7 = .ok (.iaload, 1) := by decide +kernel
theorem dX0_riseBehind_8 : decode cX0_riseBehind 8 = .ok (.aload_n 0, 1) := by decide +kernel
theorem dX0_riseBehind_9 : decode cX0_riseBehind 9 = .ok (.getfield 23, 3) := by decide +kernel
theorem dX0_riseBehind_12 : decode cX0_riseBehind 12 = .ok (.iload_n 1, 1) := by decide +kernel
theorem dX0_riseBehind_13 : decode cX0_riseBehind 13 = .ok (.aaload, 1) := by decide +kernel
theorem dX0_riseBehind_14 : decode cX0_riseBehind 14 = .ok (.iload_n 2, 1) := by decide +kernel
theorem dX0_riseBehind_15 : decode cX0_riseBehind 15 = .ok (.iaload, 1) := by decide +kernel
theorem dX0_riseBehind_16 : decode cX0_riseBehind 16 = .ok (.isub, 1) := by decide +kernel
theorem dX0_riseBehind_17 : decode cX0_riseBehind 17 = .ok (.ireturn, 1) := by decide +kernel
theorem dX1_init_0 : decode cX1_init 0 = .ok (.aload_n 0, 1) := by decide +kernel
theorem dX1_init_1 : decode cX1_init 1 = .ok (.invokespecial 1, 3) := by decide +kernel
theorem dX1_init_4 : decode cX1_init 4 = .ok (.aload_n 0, 1) := by decide +kernel
theorem dX1_init_5 : decode cX1_init 5 = .ok (.bipush 16, 2) := by decide +kernel
theorem dX1_init_7 : decode cX1_init 7 = .ok (.newarray .int, 2) := by decide +kernel
theorem dX1_init_9 : decode cX1_init 9 = .ok (.putfield 9, 3) := by decide +kernel
theorem dX1_init_12 : decode cX1_init 12 = .ok (.aload_n 0, 1) := by decide +kernel
theorem dX1_init_13 : decode cX1_init 13 = .ok (.bipush 40, 2) := by decide +kernel
theorem dX1_init_15 : decode cX1_init 15 = .ok (.newarray .int, 2) := by decide +kernel
theorem dX1_init_17 : decode cX1_init 17 = .ok (.putfield 13, 3) := by decide +kernel
theorem dX1_init_20 : decode cX1_init 20 = .ok (.aload_n 0, 1) := by decide +kernel
theorem dX1_init_21 : decode cX1_init 21 = .ok (.bipush 12, 2) := by decide +kernel
theorem dX1_init_23 : decode cX1_init 23 = .ok (.newarray .int, 2) := by decide +kernel
theorem dX1_init_25 : decode cX1_init 25 = .ok (.putfield 16, 3) := by decide +kernel
theorem dX1_init_28 : decode cX1_init 28 = .ok (.aload_n 0, 1) := by decide +kernel
theorem dX1_init_29 : decode cX1_init 29 = .ok (.new 19, 3) := by decide +kernel
theorem dX1_init_32 : decode cX1_init 32 = .ok (.dup, 1) := by decide +kernel
theorem dX1_init_33 : decode cX1_init 33 = .ok (.invokespecial 21, 3) := by decide +kernel
theorem dX1_init_36 : decode cX1_init 36 = .ok (.putfield 22, 3) := by decide +kernel
theorem dX1_init_39 : decode cX1_init 39 = .ok (.aload_n 0, 1) := by decide +kernel
theorem dX1_init_40 : decode cX1_init 40 = .ok (.bipush 12, 2) := by decide +kernel
theorem dX1_init_42 : decode cX1_init 42 = .ok (.newarray .boolean, 2) := by decide +kernel
theorem dX1_init_44 : decode cX1_init 44 = .ok (.putfield 26, 3) := by decide +kernel
theorem dX1_init_47 : decode cX1_init 47 = .ok (.aload_n 0, 1) := by decide +kernel
theorem dX1_init_48 : decode cX1_init 48 = .ok (.bipush 12, 2) := by decide +kernel
theorem dX1_init_50 : decode cX1_init 50 = .ok (.newarray .int, 2) := by decide +kernel
theorem dX1_init_52 : decode cX1_init 52 = .ok (.putfield 30, 3) := by decide +kernel
theorem dX1_init_55 : decode cX1_init 55 = .ok (.aload_n 0, 1) := by decide +kernel
theorem dX1_init_56 : decode cX1_init 56 = .ok (.bipush 12, 2) := by decide +kernel
theorem dX1_init_58 : decode cX1_init 58 = .ok (.newarray .int, 2) := by decide +kernel
theorem dX1_init_60 : decode cX1_init 60 = .ok (.putfield 33, 3) := by decide +kernel
theorem dX1_init_63 : decode cX1_init 63 = .ok (.aload_n 0, 1) := by decide +kernel
theorem dX1_init_64 : decode cX1_init 64 = .ok (.bipush 12, 2) := by decide +kernel
theorem dX1_init_66 : decode cX1_init 66 = .ok (.newarray .int, 2) := by decide +kernel
theorem dX1_init_68 : decode cX1_init 68 = .ok (.putfield 36, 3) := by decide +kernel
theorem dX1_init_71 : decode cX1_init 71 = .ok (.aload_n 0, 1) := by decide +kernel
theorem dX1_init_72 : decode cX1_init 72 = .ok (.iconst 0, 1) := by decide +kernel
theorem dX1_init_73 : decode cX1_init 73 = .ok (.putfield 39, 3) := by decide +kernel
theorem dX1_init_76 : decode cX1_init 76 = .ok (.aload_n 0, 1) := by decide +kernel
theorem dX1_init_77 : decode cX1_init 77 = .ok (.iconst 0, 1) := by decide +kernel
theorem dX1_init_78 : decode cX1_init 78 = .ok (.putfield 43, 3) := by decide +kernel
theorem dX1_init_81 : decode cX1_init 81 = .ok (.aload_n 0, 1) := by decide +kernel
theorem dX1_init_82 : decode cX1_init 82 = .ok (.iconst 0, 1) := by decide +kernel
theorem dX1_init_83 : decode cX1_init 83 = .ok (.putfield 46, 3) := by decide +kernel
theorem dX1_init_86 : decode cX1_init 86 = .ok (.aload_n 0, 1) := by decide +kernel
theorem dX1_init_87 : decode cX1_init 87 = .ok (.iconst 2, 1) := by decide +kernel
theorem dX1_init_88 : decode cX1_init 88 = .ok (.putfield 49, 3) := by decide +kernel
theorem dX1_init_91 : decode cX1_init 91 = .ok (.aload_n 0, 1) := by decide +kernel
theorem dX1_init_92 : decode cX1_init 92 = .ok (.bipush 10, 2) := by decide +kernel
theorem dX1_init_94 : decode cX1_init 94 = .ok (.putfield 52, 3) := by decide +kernel
theorem dX1_init_97 : decode cX1_init 97 = .ok (.aload_n 0, 1) := by decide +kernel
theorem dX1_init_98 : decode cX1_init 98 = .ok (.iconst 0, 1) := by decide +kernel
theorem dX1_init_99 : decode cX1_init 99 = .ok (.putfield 55, 3) := by decide +kernel
theorem dX1_init_102 : decode cX1_init 102 = .ok (.aload_n 0, 1) := by decide +kernel
theorem dX1_init_103 : decode cX1_init 103 = .ok (.iconst 0, 1) := by decide +kernel
theorem dX1_init_104 : decode cX1_init 104 = .ok (.putfield 58, 3) := by decide +kernel
theorem dX1_init_107 : decode cX1_init 107 = .ok (.return_, 1) := by decide +kernel
theorem dX1_setUses_0 : decode cX1_setUses 0 = .ok (.iload_n 1, 1) := by decide +kernel
theorem dX1_setUses_1 : decode cX1_setUses 1 = .ok (.ifCond .lt 9, 3) := by decide +kernel
theorem dX1_setUses_4 : decode cX1_setUses 4 = .ok (.iload_n 1, 1) := by decide +kernel
theorem dX1_setUses_5 : decode cX1_setUses 5 = .ok (.bipush 16, 2) := by decide +kernel
theorem dX1_setUses_7 : decode cX1_setUses 7 = .ok (.if_icmp .lt 13, 3) := by decide +kernel
theorem dX1_setUses_10 : decode cX1_setUses 10 = .ok (.new 61, 3) := by decide +kernel
theorem dX1_setUses_13 : decode cX1_setUses 13 = .ok (.dup, 1) := by decide +kernel
theorem dX1_setUses_14 : decode cX1_setUses 14 = .ok (.ldc 63, 2) := by decide +kernel
theorem dX1_setUses_16 : decode cX1_setUses 16 = .ok (.invokespecial 65, 3) := by decide +kernel
theorem dX1_setUses_19 : decode cX1_setUses 19 = .ok (.athrow, 1) := by decide +kernel
theorem dX1_setUses_20 : decode cX1_setUses 20 = .ok (.iload_n 2, 1) := by decide +kernel
theorem dX1_setUses_21 : decode cX1_setUses 21 = .ok (.invokestatic 68, 3) := by decide +kernel
theorem dX1_setUses_24 : decode cX1_setUses 24 = .ok (.aload_n 0, 1) := by decide +kernel
theorem dX1_setUses_25 : decode cX1_setUses 25 = .ok (.getfield 9, 3) := by decide +kernel
theorem dX1_setUses_28 : decode cX1_setUses 28 = .ok (.iload_n 1, 1) := by decide +kernel
theorem dX1_setUses_29 : decode cX1_setUses 29 = .ok (.iaload, 1) := by decide +kernel
theorem dX1_setUses_30 : decode cX1_setUses 30 = .ok (.istore_n 3, 1) := by decide +kernel
theorem dX1_setUses_31 : decode cX1_setUses 31 = .ok (.aload_n 0, 1) := by decide +kernel
theorem dX1_setUses_32 : decode cX1_setUses 32 = .ok (.getfield 9, 3) := by decide +kernel
theorem dX1_setUses_35 : decode cX1_setUses 35 = .ok (.iload_n 1, 1) := by decide +kernel
theorem dX1_setUses_36 : decode cX1_setUses 36 = .ok (.iload_n 2, 1) := by decide +kernel
theorem dX1_setUses_37 : decode cX1_setUses 37 = .ok (.iastore, 1) := by decide +kernel
theorem dX1_setUses_38 : decode cX1_setUses 38 = .ok (.iload_n 3, 1) := by decide +kernel
theorem dX1_setUses_39 : decode cX1_setUses 39 = .ok (.ireturn, 1) := by decide +kernel
theorem dX1_addCommit_0 : decode cX1_addCommit 0 = .ok (.iload_n 1, 1) := by decide +kernel
theorem dX1_addCommit_1 : decode cX1_addCommit 1 = .ok (.invokestatic 68, 3) := by decide +kernel
theorem dX1_addCommit_4 : decode cX1_addCommit 4 = .ok (.aload_n 0, 1) := by decide +kernel
theorem dX1_addCommit_5 : decode cX1_addCommit 5 = .ok (.getfield 43, 3) := by decide +kernel
theorem dX1_addCommit_8 : decode cX1_addCommit 8 = .ok (.istore_n 2, 1) := by decide +kernel
theorem dX1_addCommit_9 : decode cX1_addCommit 9 = .ok (.iload_n 2, 1) := by decide +kernel
theorem dX1_addCommit_10 : decode cX1_addCommit 10 = .ok (.bipush 40, 2) := by decide +kernel
theorem dX1_addCommit_12 : decode cX1_addCommit 12 = .ok (.if_icmp .lt 13, 3) := by decide +kernel
theorem dX1_addCommit_15 : decode cX1_addCommit 15 = .ok (.new 72, 3) := by decide +kernel
theorem dX1_addCommit_18 : decode cX1_addCommit 18 = .ok (.dup, 1) := by decide +kernel
theorem dX1_addCommit_19 : decode cX1_addCommit 19 = .ok (.ldc 74, 2) := by decide +kernel
theorem dX1_addCommit_21 : decode cX1_addCommit 21 = .ok (.invokespecial 76, 3) := by decide +kernel
theorem dX1_addCommit_24 : decode cX1_addCommit 24 = .ok (.athrow, 1) := by decide +kernel
theorem dX1_addCommit_25 : decode cX1_addCommit 25 = .ok (.aload_n 0, 1) := by decide +kernel
theorem dX1_addCommit_26 : decode cX1_addCommit 26 = .ok (.getfield 13, 3) := by decide +kernel
theorem dX1_addCommit_29 : decode cX1_addCommit 29 = .ok (.iload_n 2, 1) := by decide +kernel
theorem dX1_addCommit_30 : decode cX1_addCommit 30 = .ok (.iload_n 1, 1) := by decide +kernel
theorem dX1_addCommit_31 : decode cX1_addCommit 31 = .ok (.iastore, 1) := by decide +kernel
theorem dX1_addCommit_32 : decode cX1_addCommit 32 = .ok (.aload_n 0, 1) := by decide +kernel
theorem dX1_addCommit_33 : decode cX1_addCommit 33 = .ok (.iload_n 2, 1) := by decide +kernel
theorem dX1_addCommit_34 : decode cX1_addCommit 34 = .ok (.iconst 1, 1) := by decide +kernel
theorem dX1_addCommit_35 : decode cX1_addCommit 35 = .ok (.iadd, 1) := by decide +kernel
theorem dX1_addCommit_36 : decode cX1_addCommit 36 = .ok (.putfield 43, 3) := by decide +kernel
theorem dX1_addCommit_39 : decode cX1_addCommit 39 = .ok (.iload_n 2, 1) := by decide +kernel
theorem dX1_addCommit_40 : decode cX1_addCommit 40 = .ok (.ireturn, 1) := by decide +kernel
theorem dX1_addTest_0 : decode cX1_addTest 0 = .ok (.iload_n 1, 1) := by decide +kernel
theorem dX1_addTest_1 : decode cX1_addTest 1 = .ok (.invokestatic 68, 3) := by decide +kernel
theorem dX1_addTest_4 : decode cX1_addTest 4 = .ok (.aload_n 0, 1) := by decide +kernel
theorem dX1_addTest_5 : decode cX1_addTest 5 = .ok (.getfield 46, 3) := by decide +kernel
theorem dX1_addTest_8 : decode cX1_addTest 8 = .ok (.istore_n 2, 1) := by decide +kernel
theorem dX1_addTest_9 : decode cX1_addTest 9 = .ok (.iload_n 2, 1) := by decide +kernel
theorem dX1_addTest_10 : decode cX1_addTest 10 = .ok (.bipush 12, 2) := by decide +kernel
theorem dX1_addTest_12 : decode cX1_addTest 12 = .ok (.if_icmp .lt 13, 3) := by decide +kernel
theorem dX1_addTest_15 : decode cX1_addTest 15 = .ok (.new 72, 3) := by decide +kernel
theorem dX1_addTest_18 : decode cX1_addTest 18 = .ok (.dup, 1) := by decide +kernel
theorem dX1_addTest_19 : decode cX1_addTest 19 = .ok (.ldc 77, 2) := by decide +kernel
theorem dX1_addTest_21 : decode cX1_addTest 21 = .ok (.invokespecial 76, 3) := by decide +kernel
theorem dX1_addTest_24 : decode cX1_addTest 24 = .ok (.athrow, 1) := by decide +kernel
theorem dX1_addTest_25 : decode cX1_addTest 25 = .ok (.aload_n 0, 1) := by decide +kernel
theorem dX1_addTest_26 : decode cX1_addTest 26 = .ok (.getfield 16, 3) := by decide +kernel
theorem dX1_addTest_29 : decode cX1_addTest 29 = .ok (.iload_n 2, 1) := by decide +kernel
theorem dX1_addTest_30 : decode cX1_addTest 30 = .ok (.iload_n 1, 1) := by decide +kernel
theorem dX1_addTest_31 : decode cX1_addTest 31 = .ok (.iastore, 1) := by decide +kernel
theorem dX1_addTest_32 : decode cX1_addTest 32 = .ok (.aload_n 0, 1) := by decide +kernel
theorem dX1_addTest_33 : decode cX1_addTest 33 = .ok (.iload_n 2, 1) := by decide +kernel
theorem dX1_addTest_34 : decode cX1_addTest 34 = .ok (.iconst 1, 1) := by decide +kernel
theorem dX1_addTest_35 : decode cX1_addTest 35 = .ok (.iadd, 1) := by decide +kernel
theorem dX1_addTest_36 : decode cX1_addTest 36 = .ok (.putfield 46, 3) := by decide +kernel
theorem dX1_addTest_39 : decode cX1_addTest 39 = .ok (.iload_n 2, 1) := by decide +kernel
theorem dX1_addTest_40 : decode cX1_addTest 40 = .ok (.ireturn, 1) := by decide +kernel
theorem dX1_setQuarantine_0 : decode cX1_setQuarantine 0 = .ok (.iload_n 1, 1) := by decide +kernel
theorem dX1_setQuarantine_1 : decode cX1_setQuarantine 1 = .ok (.iconst 1, 1) := by decide +kernel
theorem dX1_setQuarantine_2 : decode cX1_setQuarantine 2 = .ok (.if_icmp .lt 9, 3) := by decide +kernel
theorem dX1_setQuarantine_5 : decode cX1_setQuarantine 5 = .ok (.iload_n 1, 1) := by decide +kernel
theorem dX1_setQuarantine_6 : decode cX1_setQuarantine 6 = .ok (.bipush 10, 2) := by decide +kernel
theorem dX1_setQuarantine_8 : decode cX1_setQuarantine 8 = .ok (.if_icmp .le 13, 3) := by decide +kernel
theorem dX1_setQuarantine_11 : decode cX1_setQuarantine 11 = .ok (.new 79, 3) := by decide +kernel
theorem dX1_setQuarantine_14 : decode cX1_setQuarantine 14 = .ok (.dup, 1) := by decide +kernel
theorem dX1_setQuarantine_15 : decode cX1_setQuarantine 15 = .ok (.ldc 81, 2) := by decide +kernel
theorem dX1_setQuarantine_17 : decode cX1_setQuarantine 17 = .ok (.invokespecial 83, 3) := by decide +kernel
theorem dX1_setQuarantine_20 : decode cX1_setQuarantine 20 = .ok (.athrow, 1) := by decide +kernel
theorem dX1_setQuarantine_21 : decode cX1_setQuarantine 21 = .ok (.iload_n 2, 1) := by decide +kernel
theorem dX1_setQuarantine_22 : decode cX1_setQuarantine 22 = .ok (.iconst 1, 1) := by decide +kernel
theorem dX1_setQuarantine_23 : decode cX1_setQuarantine 23 = .ok (.if_icmp .lt 9, 3) := by decide +kernel
theorem dX1_setQuarantine_26 : decode cX1_setQuarantine 26 = .ok (.iload_n 2, 1) := by decide +kernel
theorem dX1_setQuarantine_27 : decode cX1_setQuarantine 27 = .ok (.bipush 40, 2) := by decide +kernel
theorem dX1_setQuarantine_29 : decode cX1_setQuarantine 29 = .ok (.if_icmp .le 13, 3) := by decide +kernel
theorem dX1_setQuarantine_32 : decode cX1_setQuarantine 32 = .ok (.new 79, 3) := by decide +kernel
theorem dX1_setQuarantine_35 : decode cX1_setQuarantine 35 = .ok (.dup, 1) := by decide +kernel
theorem dX1_setQuarantine_36 : decode cX1_setQuarantine 36 = .ok (.ldc 84, 2) := by decide +kernel
theorem dX1_setQuarantine_38 : decode cX1_setQuarantine 38 = .ok (.invokespecial 83, 3) := by decide +kernel
theorem dX1_setQuarantine_41 : decode cX1_setQuarantine 41 = .ok (.athrow, 1) := by decide +kernel
theorem dX1_setQuarantine_42 : decode cX1_setQuarantine 42 = .ok (.aload_n 0, 1) := by decide +kernel
theorem dX1_setQuarantine_43 : decode cX1_setQuarantine 43 = .ok (.iload_n 1, 1) := by decide +kernel
theorem dX1_setQuarantine_44 : decode cX1_setQuarantine 44 = .ok (.putfield 49, 3) := by decide +kernel
theorem dX1_setQuarantine_47 : decode cX1_setQuarantine 47 = .ok (.aload_n 0, 1) := by decide +kernel
theorem dX1_setQuarantine_48 : decode cX1_setQuarantine 48 = .ok (.iload_n 2, 1) := by decide +kernel
theorem dX1_setQuarantine_49 : decode cX1_setQuarantine 49 = .ok (.putfield 52, 3) := by decide +kernel
theorem dX1_setQuarantine_52 : decode cX1_setQuarantine 52 = .ok (.return_, 1) := by decide +kernel
theorem dX1_setNoise_0 : decode cX1_setNoise 0 = .ok (.iload_n 1, 1) := by decide +kernel
theorem dX1_setNoise_1 : decode cX1_setNoise 1 = .ok (.ifCond .lt 9, 3) := by decide +kernel
theorem dX1_setNoise_4 : decode cX1_setNoise 4 = .ok (.iload_n 1, 1) := by decide +kernel
theorem dX1_setNoise_5 : decode cX1_setNoise 5 = .ok (.bipush 20, 2) := by decide +kernel
theorem dX1_setNoise_7 : decode cX1_setNoise 7 = .ok (.if_icmp .le 13, 3) := by decide +kernel
theorem dX1_setNoise_10 : decode cX1_setNoise 10 = .ok (.new 79, 3) := by decide +kernel
theorem dX1_setNoise_13 : decode cX1_setNoise 13 = .ok (.dup, 1) := by decide +kernel
theorem dX1_setNoise_14 : decode cX1_setNoise 14 = .ok (.ldc 86, 2) := by decide +kernel
theorem dX1_setNoise_16 : decode cX1_setNoise 16 = .ok (.invokespecial 83, 3) := by decide +kernel
theorem dX1_setNoise_19 : decode cX1_setNoise 19 = .ok (.athrow, 1) := by decide +kernel
theorem dX1_setNoise_20 : decode cX1_setNoise 20 = .ok (.aload_n 0, 1) := by decide +kernel
theorem dX1_setNoise_21 : decode cX1_setNoise 21 = .ok (.getfield 55, 3) := by decide +kernel
theorem dX1_setNoise_24 : decode cX1_setNoise 24 = .ok (.istore_n 2, 1) := by decide +kernel
theorem dX1_setNoise_25 : decode cX1_setNoise 25 = .ok (.aload_n 0, 1) := by decide +kernel
theorem dX1_setNoise_26 : decode cX1_setNoise 26 = .ok (.iload_n 1, 1) := by decide +kernel
theorem dX1_setNoise_27 : decode cX1_setNoise 27 = .ok (.putfield 55, 3) := by decide +kernel
theorem dX1_setNoise_30 : decode cX1_setNoise 30 = .ok (.iload_n 2, 1) := by decide +kernel
theorem dX1_setNoise_31 : decode cX1_setNoise 31 = .ok (.ireturn, 1) := by decide +kernel
theorem dX1_record_0 : decode cX1_record 0 = .ok (.aload_n 0, 1) := by decide +kernel
theorem dX1_record_1 : decode cX1_record 1 = .ok (.iload_n 1, 1) := by decide +kernel
theorem dX1_record_2 : decode cX1_record 2 = .ok (.invokevirtual 88, 3) := by decide +kernel
theorem dX1_record_5 : decode cX1_record 5 = .ok (.aload_n 0, 1) := by decide +kernel
theorem dX1_record_6 : decode cX1_record 6 = .ok (.iload_n 2, 1) := by decide +kernel
theorem dX1_record_7 : decode cX1_record 7 = .ok (.invokevirtual 91, 3) := by decide +kernel
theorem dX1_record_10 : decode cX1_record 10 = .ok (.aload_n 0, 1) := by decide +kernel
theorem dX1_record_11 : decode cX1_record 11 = .ok (.getfield 22, 3) := by decide +kernel
theorem dX1_record_14 : decode cX1_record 14 = .ok (.iload_n 1, 1) := by decide +kernel
theorem dX1_record_15 : decode cX1_record 15 = .ok (.iload_n 2, 1) := by decide +kernel
theorem dX1_record_16 : decode cX1_record 16 = .ok (.iload_n 3, 1) := by decide +kernel
theorem dX1_record_17 : decode cX1_record 17 = .ok (.invokevirtual 94, 3) := by decide +kernel
theorem dX1_record_20 : decode cX1_record 20 = .ok (.ifCond .ne 13, 3) := by decide +kernel
theorem dX1_record_23 : decode cX1_record 23 = .ok (.new 72, 3) := by decide +kernel
theorem dX1_record_26 : decode cX1_record 26 = .ok (.dup, 1) := by decide +kernel
theorem dX1_record_27 : decode cX1_record 27 = .ok (.ldc 98, 2) := by decide +kernel
theorem dX1_record_29 : decode cX1_record 29 = .ok (.invokespecial 76, 3) := by decide +kernel
theorem dX1_record_32 : decode cX1_record 32 = .ok (.athrow, 1) := by decide +kernel
theorem dX1_record_33 : decode cX1_record 33 = .ok (.aload_n 0, 1) := by decide +kernel
theorem dX1_record_34 : decode cX1_record 34 = .ok (.getfield 22, 3) := by decide +kernel
theorem dX1_record_37 : decode cX1_record 37 = .ok (.iload_n 1, 1) := by decide +kernel
theorem dX1_record_38 : decode cX1_record 38 = .ok (.iload_n 2, 1) := by decide +kernel
theorem dX1_record_39 : decode cX1_record 39 = .ok (.invokevirtual 100, 3) := by decide +kernel
theorem dX1_record_42 : decode cX1_record 42 = .ok (.ireturn, 1) := by decide +kernel
theorem dX1_triage_0 : decode cX1_triage 0 = .ok (.aload_n 0, 1) := by decide +kernel
theorem dX1_triage_1 : decode cX1_triage 1 = .ok (.iload_n 1, 1) := by decide +kernel
theorem dX1_triage_2 : decode cX1_triage 2 = .ok (.invokevirtual 88, 3) := by decide +kernel
theorem dX1_triage_5 : decode cX1_triage 5 = .ok (.aload_n 0, 1) := by decide +kernel
theorem dX1_triage_6 : decode cX1_triage 6 = .ok (.iload_n 2, 1) := by decide +kernel
theorem dX1_triage_7 : decode cX1_triage 7 = .ok (.invokevirtual 91, 3) := by decide +kernel
theorem dX1_triage_10 : decode cX1_triage 10 = .ok (.aload_n 0, 1) := by decide +kernel
theorem dX1_triage_11 : decode cX1_triage 11 = .ok (.iload_n 3, 1) := by decide +kernel
theorem dX1_triage_12 : decode cX1_triage 12 = .ok (.invokevirtual 91, 3) := by decide +kernel
theorem dX1_triage_15 : decode cX1_triage 15 = .ok (.iload_n 3, 1) := by decide +kernel
theorem dX1_triage_16 : decode cX1_triage 16 = .ok (.iload_n 2, 1) := by decide +kernel
theorem dX1_triage_17 : decode cX1_triage 17 = .ok (.if_icmp .gt 13, 3) := by decide +kernel
theorem dX1_triage_20 : decode cX1_triage 20 = .ok (.new 79, 3) := by decide +kernel
theorem dX1_triage_23 : decode cX1_triage 23 = .ok (.dup, 1) := by decide +kernel
theorem dX1_triage_24 : decode cX1_triage 24 = .ok (.ldc 104, 2) := by decide +kernel
theorem dX1_triage_26 : decode cX1_triage 26 = .ok (.invokespecial 83, 3) := by decide +kernel
theorem dX1_triage_29 : decode cX1_triage 29 = .ok (.athrow, 1) := by decide +kernel
theorem dX1_triage_30 : decode cX1_triage 30 = .ok (.aload_n 0, 1) := by decide +kernel
theorem dX1_triage_31 : decode cX1_triage 31 = .ok (.getfield 26, 3) := by decide +kernel
theorem dX1_triage_34 : decode cX1_triage 34 = .ok (.iload_n 1, 1) := by decide +kernel
theorem dX1_triage_35 : decode cX1_triage 35 = .ok (.iconst 1, 1) := by decide +kernel
theorem dX1_triage_36 : decode cX1_triage 36 = .ok (.bastore, 1) := by decide +kernel
theorem dX1_triage_37 : decode cX1_triage 37 = .ok (.aload_n 0, 1) := by decide +kernel
theorem dX1_triage_38 : decode cX1_triage 38 = .ok (.getfield 30, 3) := by decide +kernel
theorem dX1_triage_41 : decode cX1_triage 41 = .ok (.iload_n 1, 1) := by decide +kernel
theorem dX1_triage_42 : decode cX1_triage 42 = .ok (.iload_n 2, 1) := by decide +kernel
theorem dX1_triage_43 : decode cX1_triage 43 = .ok (.iastore, 1) := by decide +kernel
theorem dX1_triage_44 : decode cX1_triage 44 = .ok (.aload_n 0, 1) := by decide +kernel
theorem dX1_triage_45 : decode cX1_triage 45 = .ok (.getfield 33, 3) := by decide +kernel
theorem dX1_triage_48 : decode cX1_triage 48 = .ok (.iload_n 1, 1) := by decide +kernel
theorem dX1_triage_49 : decode cX1_triage 49 = .ok (.iload_n 3, 1) := by decide +kernel
theorem dX1_triage_50 : decode cX1_triage 50 = .ok (.iastore, 1) := by decide +kernel
theorem dX1_triage_51 : decode cX1_triage 51 = .ok (.aload_n 0, 1) := by decide +kernel
theorem dX1_triage_52 : decode cX1_triage 52 = .ok (.iload_n 1, 1) := by decide +kernel
theorem dX1_triage_53 : decode cX1_triage 53 = .ok (.invokevirtual 106, 3) := by decide +kernel
theorem dX1_triage_56 : decode cX1_triage 56 = .ok (.invokestatic 110, 3) := by decide +kernel
theorem dX1_triage_59 : decode cX1_triage 59 = .ok (.ireturn, 1) := by decide +kernel
theorem dX1_close_0 : decode cX1_close 0 = .ok (.aload_n 0, 1) := by decide +kernel
theorem dX1_close_1 : decode cX1_close 1 = .ok (.iload_n 1, 1) := by decide +kernel
theorem dX1_close_2 : decode cX1_close 2 = .ok (.invokevirtual 88, 3) := by decide +kernel
theorem dX1_close_5 : decode cX1_close 5 = .ok (.aload_n 0, 1) := by decide +kernel
theorem dX1_close_6 : decode cX1_close 6 = .ok (.iload_n 1, 1) := by decide +kernel
theorem dX1_close_7 : decode cX1_close 7 = .ok (.invokevirtual 116, 3) := by decide +kernel
theorem dX1_close_10 : decode cX1_close 10 = .ok (.aload_n 0, 1) := by decide +kernel
theorem dX1_close_11 : decode cX1_close 11 = .ok (.iload_n 1, 1) := by decide +kernel
theorem dX1_close_12 : decode cX1_close 12 = .ok (.invokevirtual 106, 3) := by decide +kernel
theorem dX1_close_15 : decode cX1_close 15 = .ok (.invokestatic 110, 3) := by decide +kernel
theorem dX1_close_18 : decode cX1_close 18 = .ok (.iconst 1, 1) := by decide +kernel
theorem dX1_close_19 : decode cX1_close 19 = .ok (.if_icmp .ne 11, 3) := by decide +kernel
theorem dX1_close_22 : decode cX1_close 22 = .ok (.aload_n 0, 1) := by decide +kernel
theorem dX1_close_23 : decode cX1_close 23 = .ok (.iload_n 1, 1) := by decide +kernel
theorem dX1_close_24 : decode cX1_close 24 = .ok (.invokevirtual 119, 3) := by decide +kernel
theorem dX1_close_27 : decode cX1_close 27 = .ok (.goto 4, 3) := by decide +kernel
theorem dX1_close_30 : decode cX1_close 30 = .ok (.iconst (-1), 1) := by decide +kernel
theorem dX1_close_31 : decode cX1_close 31 = .ok (.istore_n 2, 1) := by decide +kernel
theorem dX1_close_32 : decode cX1_close 32 = .ok (.aload_n 0, 1) := by decide +kernel
theorem dX1_close_33 : decode cX1_close 33 = .ok (.iload_n 1, 1) := by decide +kernel
theorem dX1_close_34 : decode cX1_close 34 = .ok (.invokevirtual 123, 3) := by decide +kernel
theorem dX1_close_37 : decode cX1_close 37 = .ok (.aload_n 0, 1) := by decide +kernel
theorem dX1_close_38 : decode cX1_close 38 = .ok (.getfield 26, 3) := by decide +kernel
theorem dX1_close_41 : decode cX1_close 41 = .ok (.iload_n 1, 1) := by decide +kernel
theorem dX1_close_42 : decode cX1_close 42 = .ok (.iconst 0, 1) := by decide +kernel
theorem dX1_close_43 : decode cX1_close 43 = .ok (.bastore, 1) := by decide +kernel
theorem dX1_close_44 : decode cX1_close 44 = .ok (.iload_n 2, 1) := by decide +kernel
theorem dX1_close_45 : decode cX1_close 45 = .ok (.ireturn, 1) := by decide +kernel
theorem dX1_enqueue_0 : decode cX1_enqueue 0 = .ok (.aload_n 0, 1) := by decide +kernel
theorem dX1_enqueue_1 : decode cX1_enqueue 1 = .ok (.iload_n 1, 1) := by decide +kernel
theorem dX1_enqueue_2 : decode cX1_enqueue 2 = .ok (.invokevirtual 88, 3) := by decide +kernel
theorem dX1_enqueue_5 : decode cX1_enqueue 5 = .ok (.aload_n 0, 1) := by decide +kernel
theorem dX1_enqueue_6 : decode cX1_enqueue 6 = .ok (.iload_n 1, 1) := by decide +kernel
theorem dX1_enqueue_7 : decode cX1_enqueue 7 = .ok (.invokevirtual 116, 3) := by decide +kernel
theorem dX1_enqueue_10 : decode cX1_enqueue 10 = .ok (.aload_n 0, 1) := by decide +kernel
theorem dX1_enqueue_11 : decode cX1_enqueue 11 = .ok (.getfield 36, 3) := by decide +kernel
theorem dX1_enqueue_14 : decode cX1_enqueue 14 = .ok (.iload_n 1, 1) := by decide +kernel
theorem dX1_enqueue_15 : decode cX1_enqueue 15 = .ok (.iaload, 1) := by decide +kernel
theorem dX1_enqueue_16 : decode cX1_enqueue 16 = .ok (.ifCond .eq 13, 3) := by decide +kernel
theorem dX1_enqueue_19 : decode cX1_enqueue 19 = .ok (.new 72, 3) := by decide +kernel
theorem dX1_enqueue_22 : decode cX1_enqueue 22 = .ok (.dup, 1) := by decide +kernel
theorem dX1_enqueue_23 : decode cX1_enqueue 23 = .ok (.ldc 126, 2) := by decide +kernel
theorem dX1_enqueue_25 : decode cX1_enqueue 25 = .ok (.invokespecial 76, 3) := by decide +kernel
theorem dX1_enqueue_28 : decode cX1_enqueue 28 = .ok (.athrow, 1) := by decide +kernel
theorem dX1_enqueue_29 : decode cX1_enqueue 29 = .ok (.aload_n 0, 1) := by decide +kernel
theorem dX1_enqueue_30 : decode cX1_enqueue 30 = .ok (.iload_n 1, 1) := by decide +kernel
theorem dX1_enqueue_31 : decode cX1_enqueue 31 = .ok (.invokevirtual 128, 3) := by decide +kernel
theorem dX1_enqueue_34 : decode cX1_enqueue 34 = .ok (.aload_n 0, 1) := by decide +kernel
theorem dX1_enqueue_35 : decode cX1_enqueue 35 = .ok (.getfield 39, 3) := by decide +kernel
theorem dX1_enqueue_38 : decode cX1_enqueue 38 = .ok (.ireturn, 1) := by decide +kernel
theorem dX1_newDay_0 : decode cX1_newDay 0 = .ok (.iload_n 1, 1) := by decide +kernel
theorem dX1_newDay_1 : decode cX1_newDay 1 = .ok (.ifCond .lt 9, 3) := by decide +kernel
theorem dX1_newDay_4 : decode cX1_newDay 4 = .ok (.iload_n 1, 1) := by decide +kernel
theorem dX1_newDay_5 : decode cX1_newDay 5 = .ok (.bipush 100, 2) := by decide +kernel
theorem dX1_newDay_7 : decode cX1_newDay 7 = .ok (.if_icmp .le 13, 3) := by decide +kernel
theorem dX1_newDay_10 : decode cX1_newDay 10 = .ok (.new 79, 3) := by decide +kernel
theorem dX1_newDay_13 : decode cX1_newDay 13 = .ok (.dup, 1) := by decide +kernel
theorem dX1_newDay_14 : decode cX1_newDay 14 = .ok (.ldc 131, 2) := by decide +kernel
theorem dX1_newDay_16 : decode cX1_newDay 16 = .ok (.invokespecial 83, 3) := by decide +kernel
theorem dX1_newDay_19 : decode cX1_newDay 19 = .ok (.athrow, 1) := by decide +kernel
theorem dX1_newDay_20 : decode cX1_newDay 20 = .ok (.aload_n 0, 1) := by decide +kernel
theorem dX1_newDay_21 : decode cX1_newDay 21 = .ok (.getfield 58, 3) := by decide +kernel
theorem dX1_newDay_24 : decode cX1_newDay 24 = .ok (.istore_n 2, 1) := by decide +kernel
theorem dX1_newDay_25 : decode cX1_newDay 25 = .ok (.aload_n 0, 1) := by decide +kernel
theorem dX1_newDay_26 : decode cX1_newDay 26 = .ok (.iload_n 1, 1) := by decide +kernel
theorem dX1_newDay_27 : decode cX1_newDay 27 = .ok (.putfield 58, 3) := by decide +kernel
theorem dX1_newDay_30 : decode cX1_newDay 30 = .ok (.iload_n 2, 1) := by decide +kernel
theorem dX1_newDay_31 : decode cX1_newDay 31 = .ok (.ireturn, 1) := by decide +kernel
theorem dX1_take_0 : decode cX1_take 0 = .ok (.aload_n 0, 1) := by decide +kernel
theorem dX1_take_1 : decode cX1_take 1 = .ok (.invokevirtual 133, 3) := by decide +kernel
theorem dX1_take_4 : decode cX1_take 4 = .ok (.istore_n 1, 1) := by decide +kernel
theorem dX1_take_5 : decode cX1_take 5 = .ok (.iload_n 1, 1) := by decide +kernel
theorem dX1_take_6 : decode cX1_take 6 = .ok (.ifCond .ge 13, 3) := by decide +kernel
theorem dX1_take_9 : decode cX1_take 9 = .ok (.new 72, 3) := by decide +kernel
theorem dX1_take_12 : decode cX1_take 12 = .ok (.dup, 1) := by decide +kernel
theorem dX1_take_13 : decode cX1_take 13 = .ok (.ldc 137, 2) := by decide +kernel
theorem dX1_take_15 : decode cX1_take 15 = .ok (.invokespecial 76, 3) := by decide +kernel
theorem dX1_take_18 : decode cX1_take 18 = .ok (.athrow, 1) := by decide +kernel
theorem dX1_take_19 : decode cX1_take 19 = .ok (.aload_n 0, 1) := by decide +kernel
theorem dX1_take_20 : decode cX1_take 20 = .ok (.getfield 58, 3) := by decide +kernel
theorem dX1_take_23 : decode cX1_take 23 = .ok (.ifCond .ne 13, 3) := by decide +kernel
theorem dX1_take_26 : decode cX1_take 26 = .ok (.new 72, 3) := by decide +kernel
theorem dX1_take_29 : decode cX1_take 29 = .ok (.dup, 1) := by decide +kernel
theorem dX1_take_30 : decode cX1_take 30 = .ok (.ldc 139, 2) := by decide +kernel
theorem dX1_take_32 : decode cX1_take 32 = .ok (.invokespecial 76, 3) := by decide +kernel
theorem dX1_take_35 : decode cX1_take 35 = .ok (.athrow, 1) := by decide +kernel
theorem dX1_take_36 : decode cX1_take 36 = .ok (.aload_n 0, 1) := by decide +kernel
theorem dX1_take_37 : decode cX1_take 37 = .ok (.dup, 1) := by decide +kernel
theorem dX1_take_38 : decode cX1_take 38 = .ok (.getfield 58, 3) := by decide +kernel
theorem dX1_take_41 : decode cX1_take 41 = .ok (.iconst 1, 1) := by decide +kernel
theorem dX1_take_42 : decode cX1_take 42 = .ok (.isub, 1) := by decide +kernel
theorem dX1_take_43 : decode cX1_take 43 = .ok (.putfield 58, 3) := by decide +kernel
theorem dX1_take_46 : decode cX1_take 46 = .ok (.aload_n 0, 1) := by decide +kernel
theorem dX1_take_47 : decode cX1_take 47 = .ok (.iload_n 1, 1) := by decide +kernel
theorem dX1_take_48 : decode cX1_take 48 = .ok (.invokevirtual 123, 3) := by decide +kernel
theorem dX1_take_51 : decode cX1_take 51 = .ok (.aload_n 0, 1) := by decide +kernel
theorem dX1_take_52 : decode cX1_take 52 = .ok (.iload_n 1, 1) := by decide +kernel
theorem dX1_take_53 : decode cX1_take 53 = .ok (.invokevirtual 106, 3) := by decide +kernel
theorem dX1_take_56 : decode cX1_take 56 = .ok (.invokestatic 110, 3) := by decide +kernel
theorem dX1_take_59 : decode cX1_take 59 = .ok (.iconst 1, 1) := by decide +kernel
theorem dX1_take_60 : decode cX1_take 60 = .ok (.if_icmp .le 8, 3) := by decide +kernel
theorem dX1_take_63 : decode cX1_take 63 = .ok (.aload_n 0, 1) := by decide +kernel
theorem dX1_take_64 : decode cX1_take 64 = .ok (.iload_n 1, 1) := by decide +kernel
theorem dX1_take_65 : decode cX1_take 65 = .ok (.invokevirtual 128, 3) := by decide +kernel
theorem dX1_take_68 : decode cX1_take 68 = .ok (.iload_n 1, 1) := by decide +kernel
theorem dX1_take_69 : decode cX1_take 69 = .ok (.ireturn, 1) := by decide +kernel
theorem dX1_commits_0 : decode cX1_commits 0 = .ok (.aload_n 0, 1) := by decide +kernel
theorem dX1_commits_1 : decode cX1_commits 1 = .ok (.getfield 43, 3) := by decide +kernel
theorem dX1_commits_4 : decode cX1_commits 4 = .ok (.ireturn, 1) := by decide +kernel
theorem dX1_tests_0 : decode cX1_tests 0 = .ok (.aload_n 0, 1) := by decide +kernel
theorem dX1_tests_1 : decode cX1_tests 1 = .ok (.getfield 46, 3) := by decide +kernel
theorem dX1_tests_4 : decode cX1_tests 4 = .ok (.ireturn, 1) := by decide +kernel
theorem dX1_budget_0 : decode cX1_budget 0 = .ok (.aload_n 0, 1) := by decide +kernel
theorem dX1_budget_1 : decode cX1_budget 1 = .ok (.getfield 58, 3) := by decide +kernel
theorem dX1_budget_4 : decode cX1_budget 4 = .ok (.ireturn, 1) := by decide +kernel
theorem dX1_queued_0 : decode cX1_queued 0 = .ok (.aload_n 0, 1) := by decide +kernel
theorem dX1_queued_1 : decode cX1_queued 1 = .ok (.getfield 39, 3) := by decide +kernel
theorem dX1_queued_4 : decode cX1_queued 4 = .ok (.ireturn, 1) := by decide +kernel
theorem dX1_partsOf_0 : decode cX1_partsOf 0 = .ok (.aload_n 0, 1) := by decide +kernel
theorem dX1_partsOf_1 : decode cX1_partsOf 1 = .ok (.iload_n 1, 1) := by decide +kernel
theorem dX1_partsOf_2 : decode cX1_partsOf 2 = .ok (.invokevirtual 88, 3) := by decide +kernel
theorem dX1_partsOf_5 : decode cX1_partsOf 5 = .ok (.aload_n 0, 1) := by decide +kernel
theorem dX1_partsOf_6 : decode cX1_partsOf 6 = .ok (.iload_n 1, 1) := by decide +kernel
theorem dX1_partsOf_7 : decode cX1_partsOf 7 = .ok (.invokevirtual 141, 3) := by decide +kernel
theorem dX1_partsOf_10 : decode cX1_partsOf 10 = .ok (.ireturn, 1) := by decide +kernel
theorem dX1_touches_0 : decode cX1_touches 0 = .ok (.aload_n 0, 1) := by decide +kernel
theorem dX1_touches_1 : decode cX1_touches 1 = .ok (.iload_n 1, 1) := by decide +kernel
theorem dX1_touches_2 : decode cX1_touches 2 = .ok (.invokevirtual 91, 3) := by decide +kernel
theorem dX1_touches_5 : decode cX1_touches 5 = .ok (.iconst 0, 1) := by decide +kernel
theorem dX1_touches_6 : decode cX1_touches 6 = .ok (.istore_n 2, 1) := by decide +kernel
theorem dX1_touches_7 : decode cX1_touches 7 = .ok (.iconst 0, 1) := by decide +kernel
theorem dX1_touches_8 : decode cX1_touches 8 = .ok (.istore_n 3, 1) := by decide +kernel
theorem dX1_touches_9 : decode cX1_touches 9 = .ok (.iload_n 3, 1) := by decide +kernel
theorem dX1_touches_10 : decode cX1_touches 10 = .ok (.aload_n 0, 1) := by decide +kernel
theorem dX1_touches_11 : decode cX1_touches 11 = .ok (.getfield 46, 3) := by decide +kernel
theorem dX1_touches_14 : decode cX1_touches 14 = .ok (.if_icmp .ge 30, 3) := by decide +kernel
theorem dX1_touches_17 : decode cX1_touches 17 = .ok (.aload_n 0, 1) := by decide +kernel
theorem dX1_touches_18 : decode cX1_touches 18 = .ok (.getfield 13, 3) := by decide +kernel
theorem dX1_touches_21 : decode cX1_touches 21 = .ok (.iload_n 1, 1) := by decide +kernel
theorem dX1_touches_22 : decode cX1_touches 22 = .ok (.iaload, 1) := by decide +kernel
theorem dX1_touches_23 : decode cX1_touches 23 = .ok (.aload_n 0, 1) := by decide +kernel
theorem dX1_touches_24 : decode cX1_touches 24 = .ok (.iload_n 3, 1) := by decide +kernel
theorem dX1_touches_25 : decode cX1_touches 25 = .ok (.invokevirtual 141, 3) := by decide +kernel
theorem dX1_touches_28 : decode cX1_touches 28 = .ok (.iand, 1) := by decide +kernel
theorem dX1_touches_29 : decode cX1_touches 29 = .ok (.ifCond .eq 9, 3) := by decide +kernel
theorem dX1_touches_32 : decode cX1_touches 32 = .ok (.iload_n 2, 1) := by decide +kernel
theorem dX1_touches_33 : decode cX1_touches 33 = .ok (.iconst 1, 1) := by decide +kernel
theorem dX1_touches_34 : decode cX1_touches 34 = .ok (.iload_n 3, 1) := by decide +kernel
theorem dX1_touches_35 : decode cX1_touches 35 = .ok (.ishl, 1) := by decide +kernel
theorem dX1_touches_36 : decode cX1_touches 36 = .ok (.ior, 1) := by decide +kernel
theorem dX1_touches_37 : decode cX1_touches 37 = .ok (.istore_n 2, 1) := by decide +kernel
theorem dX1_touches_38 : decode cX1_touches 38 = .ok (.iinc 3 1, 3) := by decide +kernel
theorem dX1_touches_41 : decode cX1_touches 41 = .ok (.goto (-32), 3) := by decide +kernel
theorem dX1_touches_44 : decode cX1_touches 44 = .ok (.iload_n 2, 1) := by decide +kernel
theorem dX1_touches_45 : decode cX1_touches 45 = .ok (.ireturn, 1) := by decide +kernel
theorem dX1_runs_0 : decode cX1_runs 0 = .ok (.aload_n 0, 1) := by decide +kernel
theorem dX1_runs_1 : decode cX1_runs 1 = .ok (.iload_n 1, 1) := by decide +kernel
theorem dX1_runs_2 : decode cX1_runs 2 = .ok (.invokevirtual 88, 3) := by decide +kernel
theorem dX1_runs_5 : decode cX1_runs 5 = .ok (.aload_n 0, 1) := by decide +kernel
theorem dX1_runs_6 : decode cX1_runs 6 = .ok (.getfield 22, 3) := by decide +kernel
theorem dX1_runs_9 : decode cX1_runs 9 = .ok (.iload_n 1, 1) := by decide +kernel
theorem dX1_runs_10 : decode cX1_runs 10 = .ok (.invokevirtual 144, 3) := by decide +kernel
theorem dX1_runs_13 : decode cX1_runs 13 = .ok (.ireturn, 1) := by decide +kernel
theorem dX1_verdict_0 : decode cX1_verdict 0 = .ok (.aload_n 0, 1) := by decide +kernel
theorem dX1_verdict_1 : decode cX1_verdict 1 = .ok (.iload_n 1, 1) := by decide +kernel
theorem dX1_verdict_2 : decode cX1_verdict 2 = .ok (.invokevirtual 88, 3) := by decide +kernel
theorem dX1_verdict_5 : decode cX1_verdict 5 = .ok (.aload_n 0, 1) := by decide +kernel
theorem dX1_verdict_6 : decode cX1_verdict 6 = .ok (.iload_n 2, 1) := by decide +kernel
theorem dX1_verdict_7 : decode cX1_verdict 7 = .ok (.invokevirtual 91, 3) := by decide +kernel
theorem dX1_verdict_10 : decode cX1_verdict 10 = .ok (.aload_n 0, 1) := by decide +kernel
theorem dX1_verdict_11 : decode cX1_verdict 11 = .ok (.getfield 22, 3) := by decide +kernel
theorem dX1_verdict_14 : decode cX1_verdict 14 = .ok (.iload_n 1, 1) := by decide +kernel
theorem dX1_verdict_15 : decode cX1_verdict 15 = .ok (.iload_n 2, 1) := by decide +kernel
theorem dX1_verdict_16 : decode cX1_verdict 16 = .ok (.invokevirtual 100, 3) := by decide +kernel
theorem dX1_verdict_19 : decode cX1_verdict 19 = .ok (.ireturn, 1) := by decide +kernel
theorem dX1_failing_0 : decode cX1_failing 0 = .ok (.aload_n 0, 1) := by decide +kernel
theorem dX1_failing_1 : decode cX1_failing 1 = .ok (.iload_n 1, 1) := by decide +kernel
theorem dX1_failing_2 : decode cX1_failing 2 = .ok (.invokevirtual 88, 3) := by decide +kernel
theorem dX1_failing_5 : decode cX1_failing 5 = .ok (.aload_n 0, 1) := by decide +kernel
theorem dX1_failing_6 : decode cX1_failing 6 = .ok (.getfield 22, 3) := by decide +kernel
theorem dX1_failing_9 : decode cX1_failing 9 = .ok (.iload_n 1, 1) := by decide +kernel
theorem dX1_failing_10 : decode cX1_failing 10 = .ok (.invokevirtual 144, 3) := by decide +kernel
theorem dX1_failing_13 : decode cX1_failing 13 = .ok (.istore_n 2, 1) := by decide +kernel
theorem dX1_failing_14 : decode cX1_failing 14 = .ok (.iload_n 2, 1) := by decide +kernel
theorem dX1_failing_15 : decode cX1_failing 15 = .ok (.ifCond .ne 7, 3) := by decide +kernel
theorem dX1_failing_18 : decode cX1_failing 18 = .ok (.iconst 0, 1) := by decide +kernel
theorem dX1_failing_19 : decode cX1_failing 19 = .ok (.goto 16, 3) := by decide +kernel
theorem dX1_failing_22 : decode cX1_failing 22 = .ok (.bipush 100, 2) := by decide +kernel
theorem dX1_failing_24 : decode cX1_failing 24 = .ok (.aload_n 0, 1) := by decide +kernel
theorem dX1_failing_25 : decode cX1_failing 25 = .ok (.getfield 22, 3) := by decide +kernel
theorem dX1_failing_28 : decode cX1_failing 28 = .ok (.iload_n 1, 1) := by decide +kernel
theorem dX1_failing_29 : decode cX1_failing 29 = .ok (.invokevirtual 147, 3) := by decide +kernel
theorem dX1_failing_32 : decode cX1_failing 32 = .ok (.imul, 1) := by decide +kernel
theorem dX1_failing_33 : decode cX1_failing 33 = .ok (.iload_n 2, 1) := by decide +kernel
theorem dX1_failing_34 : decode cX1_failing 34 = .ok (.idiv, 1) := by decide +kernel
theorem dX1_failing_35 : decode cX1_failing 35 = .ok (.ireturn, 1) := by decide +kernel
theorem dX1_isQuarantined_0 : decode cX1_isQuarantined 0 = .ok (.aload_n 0, 1) := by decide +kernel
theorem dX1_isQuarantined_1 : decode cX1_isQuarantined 1 = .ok (.iload_n 1, 1) := by decide +kernel
theorem dX1_isQuarantined_2 : decode cX1_isQuarantined 2 = .ok (.invokevirtual 88, 3) := by decide +kernel
theorem dX1_isQuarantined_5 : decode cX1_isQuarantined 5 = .ok (.aload_n 0, 1) := by decide +kernel
theorem dX1_isQuarantined_6 : decode cX1_isQuarantined 6 = .ok (.iload_n 1, 1) := by decide +kernel
theorem dX1_isQuarantined_7 : decode cX1_isQuarantined 7 = .ok (.invokevirtual 150, 3) := by decide +kernel
theorem dX1_isQuarantined_10 : decode cX1_isQuarantined 10 = .ok (.ireturn, 1) := by decide +kernel
theorem dX1_broken_0 : decode cX1_broken 0 = .ok (.aload_n 0, 1) := by decide +kernel
theorem dX1_broken_1 : decode cX1_broken 1 = .ok (.iload_n 1, 1) := by decide +kernel
theorem dX1_broken_2 : decode cX1_broken 2 = .ok (.invokevirtual 91, 3) := by decide +kernel
theorem dX1_broken_5 : decode cX1_broken 5 = .ok (.iconst 0, 1) := by decide +kernel
theorem dX1_broken_6 : decode cX1_broken 6 = .ok (.istore_n 2, 1) := by decide +kernel
theorem dX1_broken_7 : decode cX1_broken 7 = .ok (.iconst 0, 1) := by decide +kernel
theorem dX1_broken_8 : decode cX1_broken 8 = .ok (.istore_n 3, 1) := by decide +kernel
theorem dX1_broken_9 : decode cX1_broken 9 = .ok (.iload_n 3, 1) := by decide +kernel
theorem dX1_broken_10 : decode cX1_broken 10 = .ok (.aload_n 0, 1) := by decide +kernel
theorem dX1_broken_11 : decode cX1_broken 11 = .ok (.getfield 46, 3) := by decide +kernel
theorem dX1_broken_14 : decode cX1_broken 14 = .ok (.if_icmp .ge 36, 3) := by decide +kernel
theorem dX1_broken_17 : decode cX1_broken 17 = .ok (.aload_n 0, 1) := by decide +kernel
theorem dX1_broken_18 : decode cX1_broken 18 = .ok (.getfield 22, 3) := by decide +kernel
theorem dX1_broken_21 : decode cX1_broken 21 = .ok (.iload_n 3, 1) := by decide +kernel
theorem dX1_broken_22 : decode cX1_broken 22 = .ok (.iload_n 1, 1) := by decide +kernel
theorem dX1_broken_23 : decode cX1_broken 23 = .ok (.invokevirtual 100, 3) := by decide +kernel
theorem dX1_broken_26 : decode cX1_broken 26 = .ok (.iconst 2, 1) := by decide +kernel
theorem dX1_broken_27 : decode cX1_broken 27 = .ok (.if_icmp .ne 17, 3) := by decide +kernel
theorem dX1_broken_30 : decode cX1_broken 30 = .ok (.aload_n 0, 1) := by decide +kernel
theorem dX1_broken_31 : decode cX1_broken 31 = .ok (.iload_n 3, 1) := by decide +kernel
theorem dX1_broken_32 : decode cX1_broken 32 = .ok (.invokevirtual 150, 3) := by decide +kernel
theorem dX1_broken_35 : decode cX1_broken 35 = .ok (.ifCond .ne 9, 3) := by decide +kernel
theorem dX1_broken_38 : decode cX1_broken 38 = .ok (.iload_n 2, 1) := by decide +kernel
theorem dX1_broken_39 : decode cX1_broken 39 = .ok (.iconst 1, 1) := by decide +kernel
theorem dX1_broken_40 : decode cX1_broken 40 = .ok (.iload_n 3, 1) := by decide +kernel
theorem dX1_broken_41 : decode cX1_broken 41 = .ok (.ishl, 1) := by decide +kernel
theorem dX1_broken_42 : decode cX1_broken 42 = .ok (.ior, 1) := by decide +kernel
theorem dX1_broken_43 : decode cX1_broken 43 = .ok (.istore_n 2, 1) := by decide +kernel
theorem dX1_broken_44 : decode cX1_broken 44 = .ok (.iinc 3 1, 3) := by decide +kernel
theorem dX1_broken_47 : decode cX1_broken 47 = .ok (.goto (-38), 3) := by decide +kernel
theorem dX1_broken_50 : decode cX1_broken 50 = .ok (.iload_n 2, 1) := by decide +kernel
theorem dX1_broken_51 : decode cX1_broken 51 = .ok (.ireturn, 1) := by decide +kernel
theorem dX1_suspects_0 : decode cX1_suspects 0 = .ok (.aload_n 0, 1) := by decide +kernel
theorem dX1_suspects_1 : decode cX1_suspects 1 = .ok (.iload_n 1, 1) := by decide +kernel
theorem dX1_suspects_2 : decode cX1_suspects 2 = .ok (.invokevirtual 88, 3) := by decide +kernel
theorem dX1_suspects_5 : decode cX1_suspects 5 = .ok (.aload_n 0, 1) := by decide +kernel
theorem dX1_suspects_6 : decode cX1_suspects 6 = .ok (.iload_n 1, 1) := by decide +kernel
theorem dX1_suspects_7 : decode cX1_suspects 7 = .ok (.invokevirtual 116, 3) := by decide +kernel
theorem dX1_suspects_10 : decode cX1_suspects 10 = .ok (.aload_n 0, 1) := by decide +kernel
theorem dX1_suspects_11 : decode cX1_suspects 11 = .ok (.iload_n 1, 1) := by decide +kernel
theorem dX1_suspects_12 : decode cX1_suspects 12 = .ok (.invokevirtual 154, 3) := by decide +kernel
theorem dX1_suspects_15 : decode cX1_suspects 15 = .ok (.lreturn, 1) := by decide +kernel
theorem dX1_contradictions_0 : decode cX1_contradictions 0 = .ok (.aload_n 0, 1) := by decide +kernel
theorem dX1_contradictions_1 : decode cX1_contradictions 1 = .ok (.iload_n 1, 1) := by decide +kernel
theorem dX1_contradictions_2 : decode cX1_contradictions 2 = .ok (.invokevirtual 88, 3) := by decide +kernel
theorem dX1_contradictions_5 : decode cX1_contradictions 5 = .ok (.aload_n 0, 1) := by decide +kernel
theorem dX1_contradictions_6 : decode cX1_contradictions 6 = .ok (.iload_n 2, 1) := by decide +kernel
theorem dX1_contradictions_7 : decode cX1_contradictions 7 = .ok (.invokevirtual 91, 3) := by decide +kernel
theorem dX1_contradictions_10 : decode cX1_contradictions 10 = .ok (.aload_n 0, 1) := by decide +kernel
theorem dX1_contradictions_11 : decode cX1_contradictions 11 = .ok (.iload_n 1, 1) := by decide +kernel
theorem dX1_contradictions_12 : decode cX1_contradictions 12 = .ok (.invokevirtual 116, 3) := by decide +kernel
theorem dX1_contradictions_15 : decode cX1_contradictions 15 = .ok (.aload_n 0, 1) := by decide +kernel
theorem dX1_contradictions_16 : decode cX1_contradictions 16 = .ok (.iload_n 1, 1) := by decide +kernel
theorem dX1_contradictions_17 : decode cX1_contradictions 17 = .ok (.invokevirtual 154, 3) := by decide +kernel
theorem dX1_contradictions_20 : decode cX1_contradictions 20 = .ok (.iload_n 2, 1) := by decide +kernel
theorem dX1_contradictions_21 : decode cX1_contradictions 21 = .ok (.invokestatic 157, 3) := by decide +kernel
theorem dX1_contradictions_24 : decode cX1_contradictions 24 = .ok (.ifCond .ne 5, 3) := by decide +kernel
theorem dX1_contradictions_27 : decode cX1_contradictions 27 = .ok (.iconst (-1), 1) := by decide +kernel
theorem dX1_contradictions_28 : decode cX1_contradictions 28 = .ok (.ireturn, 1) := by decide +kernel
theorem dX1_contradictions_29 : decode cX1_contradictions 29 = .ok (.aload_n 0, 1) := by decide +kernel
theorem dX1_contradictions_30 : decode cX1_contradictions 30 = .ok (.getfield 22, 3) := by decide +kernel
theorem dX1_contradictions_33 : decode cX1_contradictions 33 = .ok (.iload_n 1, 1) := by decide +kernel
theorem dX1_contradictions_34 : decode cX1_contradictions 34 = .ok (.aload_n 0, 1) := by decide +kernel
theorem dX1_contradictions_35 : decode cX1_contradictions 35 = .ok (.getfield 30, 3) := by decide +kernel
theorem dX1_contradictions_38 : decode cX1_contradictions 38 = .ok (.iload_n 1, 1) := by decide +kernel
theorem dX1_contradictions_39 : decode cX1_contradictions 39 = .ok (.iaload, 1) := by decide +kernel
theorem dX1_contradictions_40 : decode cX1_contradictions 40 = .ok (.aload_n 0, 1) := by decide +kernel
theorem dX1_contradictions_41 : decode cX1_contradictions 41 = .ok (.getfield 33, 3) := by decide +kernel
theorem dX1_contradictions_44 : decode cX1_contradictions 44 = .ok (.iload_n 1, 1) := by decide +kernel
theorem dX1_contradictions_45 : decode cX1_contradictions 45 = .ok (.iaload, 1) := by decide +kernel
theorem dX1_contradictions_46 : decode cX1_contradictions 46 = .ok (.iload_n 2, 1) := by decide +kernel
theorem dX1_contradictions_47 : decode cX1_contradictions 47 = .ok (.invokevirtual 161, 3) := by decide +kernel
theorem dX1_contradictions_50 : decode cX1_contradictions 50 = .ok (.ireturn, 1) := by decide +kernel
theorem dX1_candidates_0 : decode cX1_candidates 0 = .ok (.aload_n 0, 1) := by decide +kernel
theorem dX1_candidates_1 : decode cX1_candidates 1 = .ok (.iload_n 1, 1) := by decide +kernel
theorem dX1_candidates_2 : decode cX1_candidates 2 = .ok (.invokevirtual 88, 3) := by decide +kernel
theorem dX1_candidates_5 : decode cX1_candidates 5 = .ok (.aload_n 0, 1) := by decide +kernel
theorem dX1_candidates_6 : decode cX1_candidates 6 = .ok (.iload_n 1, 1) := by decide +kernel
theorem dX1_candidates_7 : decode cX1_candidates 7 = .ok (.invokevirtual 116, 3) := by decide +kernel
theorem dX1_candidates_10 : decode cX1_candidates 10 = .ok (.aload_n 0, 1) := by decide +kernel
theorem dX1_candidates_11 : decode cX1_candidates 11 = .ok (.iload_n 1, 1) := by decide +kernel
theorem dX1_candidates_12 : decode cX1_candidates 12 = .ok (.invokevirtual 106, 3) := by decide +kernel
theorem dX1_candidates_15 : decode cX1_candidates 15 = .ok (.lreturn, 1) := by decide +kernel
theorem dX1_likeliest_0 : decode cX1_likeliest 0 = .ok (.aload_n 0, 1) := by decide +kernel
theorem dX1_likeliest_1 : decode cX1_likeliest 1 = .ok (.iload_n 1, 1) := by decide +kernel
theorem dX1_likeliest_2 : decode cX1_likeliest 2 = .ok (.invokevirtual 88, 3) := by decide +kernel
theorem dX1_likeliest_5 : decode cX1_likeliest 5 = .ok (.aload_n 0, 1) := by decide +kernel
theorem dX1_likeliest_6 : decode cX1_likeliest 6 = .ok (.iload_n 1, 1) := by decide +kernel
theorem dX1_likeliest_7 : decode cX1_likeliest 7 = .ok (.invokevirtual 116, 3) := by decide +kernel
theorem dX1_likeliest_10 : decode cX1_likeliest 10 = .ok (.aload_n 0, 1) := by decide +kernel
theorem dX1_likeliest_11 : decode cX1_likeliest 11 = .ok (.iload_n 1, 1) := by decide +kernel
theorem dX1_likeliest_12 : decode cX1_likeliest 12 = .ok (.invokevirtual 119, 3) := by decide +kernel
theorem dX1_likeliest_15 : decode cX1_likeliest 15 = .ok (.ireturn, 1) := by decide +kernel
theorem dX1_next_0 : decode cX1_next 0 = .ok (.aload_n 0, 1) := by decide +kernel
theorem dX1_next_1 : decode cX1_next 1 = .ok (.iload_n 1, 1) := by decide +kernel
theorem dX1_next_2 : decode cX1_next 2 = .ok (.invokevirtual 88, 3) := by decide +kernel
theorem dX1_next_5 : decode cX1_next 5 = .ok (.aload_n 0, 1) := by decide +kernel
theorem dX1_next_6 : decode cX1_next 6 = .ok (.iload_n 1, 1) := by decide +kernel
theorem dX1_next_7 : decode cX1_next 7 = .ok (.invokevirtual 116, 3) := by decide +kernel
theorem dX1_next_10 : decode cX1_next 10 = .ok (.aload_n 0, 1) := by decide +kernel
theorem dX1_next_11 : decode cX1_next 11 = .ok (.iload_n 1, 1) := by decide +kernel
theorem dX1_next_12 : decode cX1_next 12 = .ok (.invokevirtual 106, 3) := by decide +kernel
theorem dX1_next_15 : decode cX1_next 15 = .ok (.lstore_n 2, 1) := by decide +kernel
theorem dX1_next_16 : decode cX1_next 16 = .ok (.iconst (-1), 1) := by decide +kernel
theorem dX1_next_17 : decode cX1_next 17 = .ok (.istore 4, 2) := by decide +kernel
theorem dX1_next_19 : decode cX1_next 19 = .ok (.iconst 0, 1) := by decide +kernel
theorem dX1_next_20 : decode cX1_next 20 = .ok (.istore 5, 2) := by decide +kernel
theorem dX1_next_22 : decode cX1_next 22 = .ok (.iconst 0, 1) := by decide +kernel
theorem dX1_next_23 : decode cX1_next 23 = .ok (.istore 6, 2) := by decide +kernel
theorem dX1_next_25 : decode cX1_next 25 = .ok (.aload_n 0, 1) := by decide +kernel
theorem dX1_next_26 : decode cX1_next 26 = .ok (.getfield 30, 3) := by decide +kernel
theorem dX1_next_29 : decode cX1_next 29 = .ok (.iload_n 1, 1) := by decide +kernel
theorem dX1_next_30 : decode cX1_next 30 = .ok (.iaload, 1) := by decide +kernel
theorem dX1_next_31 : decode cX1_next 31 = .ok (.iconst 1, 1) := by decide +kernel
theorem dX1_next_32 : decode cX1_next 32 = .ok (.iadd, 1) := by decide +kernel
theorem dX1_next_33 : decode cX1_next 33 = .ok (.istore 7, 2) := by decide +kernel
theorem dX1_next_35 : decode cX1_next 35 = .ok (.iload 7, 2) := by decide +kernel
theorem dX1_next_37 : decode cX1_next 37 = .ok (.aload_n 0, 1) := by decide +kernel
theorem dX1_next_38 : decode cX1_next 38 = .ok (.getfield 33, 3) := by decide +kernel
theorem dX1_next_41 : decode cX1_next 41 = .ok (.iload_n 1, 1) := by decide +kernel
theorem dX1_next_42 : decode cX1_next 42 = .ok (.iaload, 1) := by decide +kernel
theorem dX1_next_43 : decode cX1_next 43 = .ok (.if_icmp .ge 67, 3) := by decide +kernel
theorem dX1_next_46 : decode cX1_next 46 = .ok (.lload_n 2, 1) := by decide +kernel
theorem dX1_next_47 : decode cX1_next 47 = .ok (.iload 7, 2) := by decide +kernel
theorem dX1_next_49 : decode cX1_next 49 = .ok (.invokestatic 165, 3) := by decide +kernel
theorem dX1_next_52 : decode cX1_next 52 = .ok (.istore 8, 2) := by decide +kernel
theorem dX1_next_54 : decode cX1_next 54 = .ok (.aload_n 0, 1) := by decide +kernel
theorem dX1_next_55 : decode cX1_next 55 = .ok (.getfield 22, 3) := by decide +kernel
theorem dX1_next_58 : decode cX1_next 58 = .ok (.iload_n 1, 1) := by decide +kernel
theorem dX1_next_59 : decode cX1_next 59 = .ok (.iload 7, 2) := by decide +kernel
theorem dX1_next_61 : decode cX1_next 61 = .ok (.invokevirtual 169, 3) := by decide +kernel
theorem dX1_next_64 : decode cX1_next 64 = .ok (.istore 9, 2) := by decide +kernel
theorem dX1_next_66 : decode cX1_next 66 = .ok (.iload 4, 2) := by decide +kernel
theorem dX1_next_68 : decode cX1_next 68 = .ok (.ifCond .lt 24, 3) := by decide +kernel
theorem dX1_next_71 : decode cX1_next 71 = .ok (.iload 8, 2) := by decide +kernel
theorem dX1_next_73 : decode cX1_next 73 = .ok (.iload 5, 2) := by decide +kernel
theorem dX1_next_75 : decode cX1_next 75 = .ok (.if_icmp .lt 17, 3) := by decide +kernel
theorem dX1_next_78 : decode cX1_next 78 = .ok (.iload 8, 2) := by decide +kernel
theorem dX1_next_80 : decode cX1_next 80 = .ok (.iload 5, 2) := by decide +kernel
theorem dX1_next_82 : decode cX1_next 82 = .ok (.if_icmp .ne 22, 3) := by decide +kernel
theorem dX1_next_85 : decode cX1_next 85 = .ok (.iload 9, 2) := by decide +kernel
theorem dX1_next_87 : decode cX1_next 87 = .ok (.iload 6, 2) := by decide +kernel
theorem dX1_next_89 : decode cX1_next 89 = .ok (.if_icmp .ge 15, 3) := by decide +kernel
theorem dX1_next_92 : decode cX1_next 92 = .ok (.iload 7, 2) := by decide +kernel
theorem dX1_next_94 : decode cX1_next 94 = .ok (.istore 4, 2) := by decide +kernel
theorem dX1_next_96 : decode cX1_next 96 = .ok (.iload 8, 2) := by decide +kernel
theorem dX1_next_98 : decode cX1_next 98 = .ok (.istore 5, 2) := by decide +kernel
theorem dX1_next_100 : decode cX1_next 100 = .ok (.iload 9, 2) := by decide +kernel
theorem dX1_next_102 : decode cX1_next 102 = .ok (.istore 6, 2) := by decide +kernel
theorem dX1_next_104 : decode cX1_next 104 = .ok (.iinc 7 1, 3) := by decide +kernel
theorem dX1_next_107 : decode cX1_next 107 = .ok (.goto (-72), 3) := by decide +kernel
theorem dX1_next_110 : decode cX1_next 110 = .ok (.iload 4, 2) := by decide +kernel
theorem dX1_next_112 : decode cX1_next 112 = .ok (.ireturn, 1) := by decide +kernel
theorem dX1_needParts_0 : decode cX1_needParts 0 = .ok (.iload_n 0, 1) := by decide +kernel
theorem dX1_needParts_1 : decode cX1_needParts 1 = .ok (.ifCond .lt 9, 3) := by decide +kernel
theorem dX1_needParts_4 : decode cX1_needParts 4 = .ok (.iload_n 0, 1) := by decide +kernel
theorem dX1_needParts_5 : decode cX1_needParts 5 = .ok (.ldc 172, 2) := by decide +kernel
theorem dX1_needParts_7 : decode cX1_needParts 7 = .ok (.if_icmp .le 13, 3) := by decide +kernel
theorem dX1_needParts_10 : decode cX1_needParts 10 = .ok (.new 79, 3) := by decide +kernel
theorem dX1_needParts_13 : decode cX1_needParts 13 = .ok (.dup, 1) := by decide +kernel
theorem dX1_needParts_14 : decode cX1_needParts 14 = .ok (.ldc 173, 2) := by decide +kernel
theorem dX1_needParts_16 : decode cX1_needParts 16 = .ok (.invokespecial 83, 3) := by decide +kernel
theorem dX1_needParts_19 : decode cX1_needParts 19 = .ok (.athrow, 1) := by decide +kernel
theorem dX1_needParts_20 : decode cX1_needParts 20 = .ok (.return_, 1) := by decide +kernel
theorem dX1_needTest_0 : decode cX1_needTest 0 = .ok (.iload_n 1, 1) := by decide +kernel
theorem dX1_needTest_1 : decode cX1_needTest 1 = .ok (.ifCond .lt 11, 3) := by decide +kernel
theorem dX1_needTest_4 : decode cX1_needTest 4 = .ok (.iload_n 1, 1) := by decide +kernel
theorem dX1_needTest_5 : decode cX1_needTest 5 = .ok (.aload_n 0, 1) := by decide +kernel
theorem dX1_needTest_6 : decode cX1_needTest 6 = .ok (.getfield 46, 3) := by decide +kernel
theorem dX1_needTest_9 : decode cX1_needTest 9 = .ok (.if_icmp .lt 13, 3) := by decide +kernel
theorem dX1_needTest_12 : decode cX1_needTest 12 = .ok (.new 61, 3) := by decide +kernel
theorem dX1_needTest_15 : decode cX1_needTest 15 = .ok (.dup, 1) := by decide +kernel
theorem dX1_needTest_16 : decode cX1_needTest 16 = .ok (.ldc 175, 2) := by decide +kernel
theorem dX1_needTest_18 : decode cX1_needTest 18 = .ok (.invokespecial 65, 3) := by decide +kernel
theorem dX1_needTest_21 : decode cX1_needTest 21 = .ok (.athrow, 1) := by decide +kernel
theorem dX1_needTest_22 : decode cX1_needTest 22 = .ok (.return_, 1) := by decide +kernel
theorem dX1_needCommit_0 : decode cX1_needCommit 0 = .ok (.iload_n 1, 1) := by decide +kernel
theorem dX1_needCommit_1 : decode cX1_needCommit 1 = .ok (.ifCond .lt 11, 3) := by decide +kernel
theorem dX1_needCommit_4 : decode cX1_needCommit 4 = .ok (.iload_n 1, 1) := by decide +kernel
theorem dX1_needCommit_5 : decode cX1_needCommit 5 = .ok (.aload_n 0, 1) := by decide +kernel
theorem dX1_needCommit_6 : decode cX1_needCommit 6 = .ok (.getfield 43, 3) := by decide +kernel
theorem dX1_needCommit_9 : decode cX1_needCommit 9 = .ok (.if_icmp .lt 13, 3) := by decide +kernel
theorem dX1_needCommit_12 : decode cX1_needCommit 12 = .ok (.new 61, 3) := by decide +kernel
theorem dX1_needCommit_15 : decode cX1_needCommit 15 = .ok (.dup, 1) := by decide +kernel
theorem dX1_needCommit_16 : decode cX1_needCommit 16 = .ok (.ldc 177, 2) := by decide +kernel
theorem dX1_needCommit_18 : decode cX1_needCommit 18 = .ok (.invokespecial 65, 3) := by decide +kernel
theorem dX1_needCommit_21 : decode cX1_needCommit 21 = .ok (.athrow, 1) := by decide +kernel
theorem dX1_needCommit_22 : decode cX1_needCommit 22 = .ok (.return_, 1) := by decide +kernel
theorem dX1_needTriage_0 : decode cX1_needTriage 0 = .ok (.aload_n 0, 1) := by decide +kernel
theorem dX1_needTriage_1 : decode cX1_needTriage 1 = .ok (.getfield 26, 3) := by decide +kernel
theorem dX1_needTriage_4 : decode cX1_needTriage 4 = .ok (.iload_n 1, 1) := by decide +kernel
theorem dX1_needTriage_5 : decode cX1_needTriage 5 = .ok (.baload, 1) := by decide +kernel
theorem dX1_needTriage_6 : decode cX1_needTriage 6 = .ok (.ifCond .ne 13, 3) := by decide +kernel
theorem dX1_needTriage_9 : decode cX1_needTriage 9 = .ok (.new 72, 3) := by decide +kernel
theorem dX1_needTriage_12 : decode cX1_needTriage 12 = .ok (.dup, 1) := by decide +kernel
theorem dX1_needTriage_13 : decode cX1_needTriage 13 = .ok (.ldc 179, 2) := by decide +kernel
theorem dX1_needTriage_15 : decode cX1_needTriage 15 = .ok (.invokespecial 76, 3) := by decide +kernel
theorem dX1_needTriage_18 : decode cX1_needTriage 18 = .ok (.athrow, 1) := by decide +kernel
theorem dX1_needTriage_19 : decode cX1_needTriage 19 = .ok (.return_, 1) := by decide +kernel
theorem dX1_has_0 : decode cX1_has 0 = .ok (.lload_n 0, 1) := by decide +kernel
theorem dX1_has_1 : decode cX1_has 1 = .ok (.iload_n 2, 1) := by decide +kernel
theorem dX1_has_2 : decode cX1_has 2 = .ok (.lshr, 1) := by decide +kernel
theorem dX1_has_3 : decode cX1_has 3 = .ok (.lconst 1, 1) := by decide +kernel
theorem dX1_has_4 : decode cX1_has 4 = .ok (.land, 1) := by decide +kernel
theorem dX1_has_5 : decode cX1_has 5 = .ok (.lconst 0, 1) := by decide +kernel
theorem dX1_has_6 : decode cX1_has 6 = .ok (.lcmp, 1) := by decide +kernel
theorem dX1_has_7 : decode cX1_has 7 = .ok (.ifCond .eq 7, 3) := by decide +kernel
theorem dX1_has_10 : decode cX1_has 10 = .ok (.iconst 1, 1) := by decide +kernel
theorem dX1_has_11 : decode cX1_has 11 = .ok (.goto 4, 3) := by decide +kernel
theorem dX1_has_14 : decode cX1_has 14 = .ok (.iconst 0, 1) := by decide +kernel
theorem dX1_has_15 : decode cX1_has 15 = .ok (.ireturn, 1) := by decide +kernel
theorem dX1_allPartsOf_0 : decode cX1_allPartsOf 0 = .ok (.aload_n 0, 1) := by decide +kernel
theorem dX1_allPartsOf_1 : decode cX1_allPartsOf 1 = .ok (.getfield 16, 3) := by decide +kernel
theorem dX1_allPartsOf_4 : decode cX1_allPartsOf 4 = .ok (.iload_n 1, 1) := by decide +kernel
theorem dX1_allPartsOf_5 : decode cX1_allPartsOf 5 = .ok (.iaload, 1) := by decide +kernel
theorem dX1_allPartsOf_6 : decode cX1_allPartsOf 6 = .ok (.istore_n 2, 1) := by decide +kernel
theorem dX1_allPartsOf_7 : decode cX1_allPartsOf 7 = .ok (.iconst 0, 1) := by decide +kernel
theorem dX1_allPartsOf_8 : decode cX1_allPartsOf 8 = .ok (.istore_n 3, 1) := by decide +kernel
theorem dX1_allPartsOf_9 : decode cX1_allPartsOf 9 = .ok (.iload_n 3, 1) := by decide +kernel
theorem dX1_allPartsOf_10 : decode cX1_allPartsOf 10 = .ok (.bipush 16, 2) := by decide +kernel
theorem dX1_allPartsOf_12 : decode cX1_allPartsOf 12 = .ok (.if_icmp .ge 62, 3) := by decide +kernel
theorem dX1_allPartsOf_15 : decode cX1_allPartsOf 15 = .ok (.iload_n 2, 1) := by decide +kernel
theorem dX1_allPartsOf_16 : decode cX1_allPartsOf 16 = .ok (.istore 4, 2) := by decide +kernel
theorem dX1_allPartsOf_18 : decode cX1_allPartsOf 18 = .ok (.iconst 0, 1) := by decide +kernel
theorem dX1_allPartsOf_19 : decode cX1_allPartsOf 19 = .ok (.istore 5, 2) := by decide +kernel
theorem dX1_allPartsOf_21 : decode cX1_allPartsOf 21 = .ok (.iload 5, 2) := by decide +kernel
theorem dX1_allPartsOf_23 : decode cX1_allPartsOf 23 = .ok (.bipush 16, 2) := by decide +kernel
theorem dX1_allPartsOf_25 : decode cX1_allPartsOf 25 = .ok (.if_icmp .ge 31, 3) := by decide +kernel
theorem dX1_allPartsOf_28 : decode cX1_allPartsOf 28 = .ok (.iload_n 2, 1) := by decide +kernel
theorem dX1_allPartsOf_29 : decode cX1_allPartsOf 29 = .ok (.i2l, 1) := by decide +kernel
theorem dX1_allPartsOf_30 : decode cX1_allPartsOf 30 = .ok (.iload 5, 2) := by decide +kernel
theorem dX1_allPartsOf_32 : decode cX1_allPartsOf 32 = .ok (.invokestatic 157, 3) := by decide +kernel
theorem dX1_allPartsOf_35 : decode cX1_allPartsOf 35 = .ok (.ifCond .eq 15, 3) := by decide +kernel
theorem dX1_allPartsOf_38 : decode cX1_allPartsOf 38 = .ok (.iload 4, 2) := by decide +kernel
theorem dX1_allPartsOf_40 : decode cX1_allPartsOf 40 = .ok (.aload_n 0, 1) := by decide +kernel
theorem dX1_allPartsOf_41 : decode cX1_allPartsOf 41 = .ok (.getfield 9, 3) := by decide +kernel
theorem dX1_allPartsOf_44 : decode cX1_allPartsOf 44 = .ok (.iload 5, 2) := by decide +kernel
theorem dX1_allPartsOf_46 : decode cX1_allPartsOf 46 = .ok (.iaload, 1) := by decide +kernel
theorem dX1_allPartsOf_47 : decode cX1_allPartsOf 47 = .ok (.ior, 1) := by decide +kernel
theorem dX1_allPartsOf_48 : decode cX1_allPartsOf 48 = .ok (.istore 4, 2) := by decide +kernel
theorem dX1_allPartsOf_50 : decode cX1_allPartsOf 50 = .ok (.iinc 5 1, 3) := by decide +kernel
theorem dX1_allPartsOf_53 : decode cX1_allPartsOf 53 = .ok (.goto (-32), 3) := by decide +kernel
theorem dX1_allPartsOf_56 : decode cX1_allPartsOf 56 = .ok (.iload 4, 2) := by decide +kernel
theorem dX1_allPartsOf_58 : decode cX1_allPartsOf 58 = .ok (.iload_n 2, 1) := by decide +kernel
theorem dX1_allPartsOf_59 : decode cX1_allPartsOf 59 = .ok (.if_icmp .ne 6, 3) := by decide +kernel
theorem dX1_allPartsOf_62 : decode cX1_allPartsOf 62 = .ok (.goto 12, 3) := by decide +kernel
theorem dX1_allPartsOf_65 : decode cX1_allPartsOf 65 = .ok (.iload 4, 2) := by decide +kernel
theorem dX1_allPartsOf_67 : decode cX1_allPartsOf 67 = .ok (.istore_n 2, 1) := by decide +kernel
theorem dX1_allPartsOf_68 : decode cX1_allPartsOf 68 = .ok (.iinc 3 1, 3) := by decide +kernel
theorem dX1_allPartsOf_71 : decode cX1_allPartsOf 71 = .ok (.goto (-62), 3) := by decide +kernel
theorem dX1_allPartsOf_74 : decode cX1_allPartsOf 74 = .ok (.iload_n 2, 1) := by decide +kernel
theorem dX1_allPartsOf_75 : decode cX1_allPartsOf 75 = .ok (.ireturn, 1) := by decide +kernel
theorem dX1_isUnsteady_0 : decode cX1_isUnsteady 0 = .ok (.iconst 0, 1) := by decide +kernel
theorem dX1_isUnsteady_1 : decode cX1_isUnsteady 1 = .ok (.istore_n 2, 1) := by decide +kernel
theorem dX1_isUnsteady_2 : decode cX1_isUnsteady 2 = .ok (.iconst 0, 1) := by decide +kernel
theorem dX1_isUnsteady_3 : decode cX1_isUnsteady 3 = .ok (.aload_n 0, 1) := by decide +kernel
theorem dX1_isUnsteady_4 : decode cX1_isUnsteady 4 = .ok (.getfield 43, 3) := by decide +kernel
theorem dX1_isUnsteady_7 : decode cX1_isUnsteady 7 = .ok (.aload_n 0, 1) := by decide +kernel
theorem dX1_isUnsteady_8 : decode cX1_isUnsteady 8 = .ok (.getfield 52, 3) := by decide +kernel
theorem dX1_isUnsteady_11 : decode cX1_isUnsteady 11 = .ok (.isub, 1) := by decide +kernel
theorem dX1_isUnsteady_12 : decode cX1_isUnsteady 12 = .ok (.invokestatic 181, 3) := by decide +kernel
theorem dX1_isUnsteady_15 : decode cX1_isUnsteady 15 = .ok (.istore_n 3, 1) := by decide +kernel
theorem dX1_isUnsteady_16 : decode cX1_isUnsteady 16 = .ok (.iload_n 3, 1) := by decide +kernel
theorem dX1_isUnsteady_17 : decode cX1_isUnsteady 17 = .ok (.aload_n 0, 1) := by decide +kernel
theorem dX1_isUnsteady_18 : decode cX1_isUnsteady 18 = .ok (.getfield 43, 3) := by decide +kernel
theorem dX1_isUnsteady_21 : decode cX1_isUnsteady 21 = .ok (.if_icmp .ge 25, 3) := by decide +kernel
theorem dX1_isUnsteady_24 : decode cX1_isUnsteady 24 = .ok (.aload_n 0, 1) := by decide +kernel
theorem dX1_isUnsteady_25 : decode cX1_isUnsteady 25 = .ok (.getfield 22, 3) := by decide +kernel
theorem dX1_isUnsteady_28 : decode cX1_isUnsteady 28 = .ok (.iload_n 1, 1) := by decide +kernel
theorem dX1_isUnsteady_29 : decode cX1_isUnsteady 29 = .ok (.iload_n 3, 1) := by decide +kernel
theorem dX1_isUnsteady_30 : decode cX1_isUnsteady 30 = .ok (.invokevirtual 100, 3) := by decide +kernel
theorem dX1_isUnsteady_33 : decode cX1_isUnsteady 33 = .ok (.iconst 3, 1) := by decide +kernel
theorem dX1_isUnsteady_34 : decode cX1_isUnsteady 34 = .ok (.if_icmp .ne 6, 3) := by decide +kernel
theorem dX1_isUnsteady_37 : decode cX1_isUnsteady 37 = .ok (.iinc 2 1, 3) := by decide +kernel
theorem dX1_isUnsteady_40 : decode cX1_isUnsteady 40 = .ok (.iinc 3 1, 3) := by decide +kernel
theorem dX1_isUnsteady_43 : decode cX1_isUnsteady 43 = .ok (.goto (-27), 3) := by decide +kernel
theorem dX1_isUnsteady_46 : decode cX1_isUnsteady 46 = .ok (.iload_n 2, 1) := by decide +kernel
theorem dX1_isUnsteady_47 : decode cX1_isUnsteady 47 = .ok (.aload_n 0, 1) := by decide +kernel
theorem dX1_isUnsteady_48 : decode cX1_isUnsteady 48 = .ok (.getfield 49, 3) := by decide +kernel
theorem dX1_isUnsteady_51 : decode cX1_isUnsteady 51 = .ok (.if_icmp .lt 7, 3) := by decide +kernel
theorem dX1_isUnsteady_54 : decode cX1_isUnsteady 54 = .ok (.iconst 1, 1) := by decide +kernel
theorem dX1_isUnsteady_55 : decode cX1_isUnsteady 55 = .ok (.goto 4, 3) := by decide +kernel
theorem dX1_isUnsteady_58 : decode cX1_isUnsteady 58 = .ok (.iconst 0, 1) := by decide +kernel
theorem dX1_isUnsteady_59 : decode cX1_isUnsteady 59 = .ok (.ireturn, 1) := by decide +kernel
theorem dX1_suspectsOf_0 : decode cX1_suspectsOf 0 = .ok (.aload_n 0, 1) := by decide +kernel
theorem dX1_suspectsOf_1 : decode cX1_suspectsOf 1 = .ok (.iload_n 1, 1) := by decide +kernel
theorem dX1_suspectsOf_2 : decode cX1_suspectsOf 2 = .ok (.invokevirtual 141, 3) := by decide +kernel
theorem dX1_suspectsOf_5 : decode cX1_suspectsOf 5 = .ok (.istore_n 2, 1) := by decide +kernel
theorem dX1_suspectsOf_6 : decode cX1_suspectsOf 6 = .ok (.lconst 0, 1) := by decide +kernel
theorem dX1_suspectsOf_7 : decode cX1_suspectsOf 7 = .ok (.lstore_n 3, 1) := by decide +kernel
theorem dX1_suspectsOf_8 : decode cX1_suspectsOf 8 = .ok (.aload_n 0, 1) := by decide +kernel
theorem dX1_suspectsOf_9 : decode cX1_suspectsOf 9 = .ok (.getfield 30, 3) := by decide +kernel
theorem dX1_suspectsOf_12 : decode cX1_suspectsOf 12 = .ok (.iload_n 1, 1) := by decide +kernel
theorem dX1_suspectsOf_13 : decode cX1_suspectsOf 13 = .ok (.iaload, 1) := by decide +kernel
theorem dX1_suspectsOf_14 : decode cX1_suspectsOf 14 = .ok (.iconst 1, 1) := by decide +kernel
theorem dX1_suspectsOf_15 : decode cX1_suspectsOf 15 = .ok (.iadd, 1) := by decide +kernel
theorem dX1_suspectsOf_16 : decode cX1_suspectsOf 16 = .ok (.istore 5, 2) := by decide +kernel
theorem dX1_suspectsOf_18 : decode cX1_suspectsOf 18 = .ok (.iload 5, 2) := by decide +kernel
theorem dX1_suspectsOf_20 : decode cX1_suspectsOf 20 = .ok (.aload_n 0, 1) := by decide +kernel
theorem dX1_suspectsOf_21 : decode cX1_suspectsOf 21 = .ok (.getfield 33, 3) := by decide +kernel
theorem dX1_suspectsOf_24 : decode cX1_suspectsOf 24 = .ok (.iload_n 1, 1) := by decide +kernel
theorem dX1_suspectsOf_25 : decode cX1_suspectsOf 25 = .ok (.iaload, 1) := by decide +kernel
theorem dX1_suspectsOf_26 : decode cX1_suspectsOf 26 = .ok (.if_icmp .gt 28, 3) := by decide +kernel
theorem dX1_suspectsOf_29 : decode cX1_suspectsOf 29 = .ok (.aload_n 0, 1) := by decide +kernel
theorem dX1_suspectsOf_30 : decode cX1_suspectsOf 30 = .ok (.getfield 13, 3) := by decide +kernel
theorem dX1_suspectsOf_33 : decode cX1_suspectsOf 33 = .ok (.iload 5, 2) := by decide +kernel
theorem dX1_suspectsOf_35 : decode cX1_suspectsOf 35 = .ok (.iaload, 1) := by decide +kernel
theorem dX1_suspectsOf_36 : decode cX1_suspectsOf 36 = .ok (.iload_n 2, 1) := by decide +kernel
theorem dX1_suspectsOf_37 : decode cX1_suspectsOf 37 = .ok (.iand, 1) := by decide +kernel
theorem dX1_suspectsOf_38 : decode cX1_suspectsOf 38 = .ok (.ifCond .eq 10, 3) := by decide +kernel
theorem dX1_suspectsOf_41 : decode cX1_suspectsOf 41 = .ok (.lload_n 3, 1) := by decide +kernel
theorem dX1_suspectsOf_42 : decode cX1_suspectsOf 42 = .ok (.lconst 1, 1) := by decide +kernel
theorem dX1_suspectsOf_43 : decode cX1_suspectsOf 43 = .ok (.iload 5, 2) := by decide +kernel
theorem dX1_suspectsOf_45 : decode cX1_suspectsOf 45 = .ok (.lshl, 1) := by decide +kernel
theorem dX1_suspectsOf_46 : decode cX1_suspectsOf 46 = .ok (.lor, 1) := by decide +kernel
theorem dX1_suspectsOf_47 : decode cX1_suspectsOf 47 = .ok (.lstore_n 3, 1) := by decide +kernel
theorem dX1_suspectsOf_48 : decode cX1_suspectsOf 48 = .ok (.iinc 5 1, 3) := by decide +kernel
theorem dX1_suspectsOf_51 : decode cX1_suspectsOf 51 = .ok (.goto (-33), 3) := by decide +kernel
theorem dX1_suspectsOf_54 : decode cX1_suspectsOf 54 = .ok (.lload_n 3, 1) := by decide +kernel
theorem dX1_suspectsOf_55 : decode cX1_suspectsOf 55 = .ok (.lreturn, 1) := by decide +kernel
theorem dX1_candidatesOf_0 : decode cX1_candidatesOf 0 = .ok (.aload_n 0, 1) := by decide +kernel
theorem dX1_candidatesOf_1 : decode cX1_candidatesOf 1 = .ok (.iload_n 1, 1) := by decide +kernel
theorem dX1_candidatesOf_2 : decode cX1_candidatesOf 2 = .ok (.invokevirtual 154, 3) := by decide +kernel
theorem dX1_candidatesOf_5 : decode cX1_candidatesOf 5 = .ok (.lstore_n 2, 1) := by decide +kernel
theorem dX1_candidatesOf_6 : decode cX1_candidatesOf 6 = .ok (.aload_n 0, 1) := by decide +kernel
theorem dX1_candidatesOf_7 : decode cX1_candidatesOf 7 = .ok (.getfield 30, 3) := by decide +kernel
theorem dX1_candidatesOf_10 : decode cX1_candidatesOf 10 = .ok (.iload_n 1, 1) := by decide +kernel
theorem dX1_candidatesOf_11 : decode cX1_candidatesOf 11 = .ok (.iaload, 1) := by decide +kernel
theorem dX1_candidatesOf_12 : decode cX1_candidatesOf 12 = .ok (.istore 4, 2) := by decide +kernel
theorem dX1_candidatesOf_14 : decode cX1_candidatesOf 14 = .ok (.aload_n 0, 1) := by decide +kernel
theorem dX1_candidatesOf_15 : decode cX1_candidatesOf 15 = .ok (.getfield 33, 3) := by decide +kernel
theorem dX1_candidatesOf_18 : decode cX1_candidatesOf 18 = .ok (.iload_n 1, 1) := by decide +kernel
theorem dX1_candidatesOf_19 : decode cX1_candidatesOf 19 = .ok (.iaload, 1) := by decide +kernel
theorem dX1_candidatesOf_20 : decode cX1_candidatesOf 20 = .ok (.istore 5, 2) := by decide +kernel
theorem dX1_candidatesOf_22 : decode cX1_candidatesOf 22 = .ok (.lconst 0, 1) := by decide +kernel
theorem dX1_candidatesOf_23 : decode cX1_candidatesOf 23 = .ok (.lstore 6, 2) := by decide +kernel
theorem dX1_candidatesOf_25 : decode cX1_candidatesOf 25 = .ok (.aload_n 0, 1) := by decide +kernel
theorem dX1_candidatesOf_26 : decode cX1_candidatesOf 26 = .ok (.getfield 22, 3) := by decide +kernel
theorem dX1_candidatesOf_29 : decode cX1_candidatesOf 29 = .ok (.iload_n 1, 1) := by decide +kernel
theorem dX1_candidatesOf_30 : decode cX1_candidatesOf 30 = .ok (.iload 4, 2) := by decide +kernel
theorem dX1_candidatesOf_32 : decode cX1_candidatesOf 32 = .ok (.iload 5, 2) := by decide +kernel
theorem dX1_candidatesOf_34 : decode cX1_candidatesOf 34 = .ok (.invokevirtual 186, 3) := by decide +kernel
theorem dX1_candidatesOf_37 : decode cX1_candidatesOf 37 = .ok (.istore 8, 2) := by decide +kernel
theorem dX1_candidatesOf_39 : decode cX1_candidatesOf 39 = .ok (.iload 4, 2) := by decide +kernel
theorem dX1_candidatesOf_41 : decode cX1_candidatesOf 41 = .ok (.iconst 1, 1) := by decide +kernel
theorem dX1_candidatesOf_42 : decode cX1_candidatesOf 42 = .ok (.iadd, 1) := by decide +kernel
theorem dX1_candidatesOf_43 : decode cX1_candidatesOf 43 = .ok (.istore 9, 2) := by decide +kernel
theorem dX1_candidatesOf_45 : decode cX1_candidatesOf 45 = .ok (.iload 9, 2) := by decide +kernel
theorem dX1_candidatesOf_47 : decode cX1_candidatesOf 47 = .ok (.iload 5, 2) := by decide +kernel
theorem dX1_candidatesOf_49 : decode cX1_candidatesOf 49 = .ok (.if_icmp .gt 53, 3) := by decide +kernel
theorem dX1_candidatesOf_52 : decode cX1_candidatesOf 52 = .ok (.iload 8, 2) := by decide +kernel
theorem dX1_candidatesOf_54 : decode cX1_candidatesOf 54 = .ok (.aload_n 0, 1) := by decide +kernel
theorem dX1_candidatesOf_55 : decode cX1_candidatesOf 55 = .ok (.getfield 22, 3) := by decide +kernel
theorem dX1_candidatesOf_58 : decode cX1_candidatesOf 58 = .ok (.iload_n 1, 1) := by decide +kernel
theorem dX1_candidatesOf_59 : decode cX1_candidatesOf 59 = .ok (.iload 9, 2) := by decide +kernel
theorem dX1_candidatesOf_61 : decode cX1_candidatesOf 61 = .ok (.iconst 1, 1) := by decide +kernel
theorem dX1_candidatesOf_62 : decode cX1_candidatesOf 62 = .ok (.isub, 1) := by decide +kernel
theorem dX1_candidatesOf_63 : decode cX1_candidatesOf 63 = .ok (.invokevirtual 190, 3) := by decide +kernel
theorem dX1_candidatesOf_66 : decode cX1_candidatesOf 66 = .ok (.iadd, 1) := by decide +kernel
theorem dX1_candidatesOf_67 : decode cX1_candidatesOf 67 = .ok (.istore 8, 2) := by decide +kernel
theorem dX1_candidatesOf_69 : decode cX1_candidatesOf 69 = .ok (.lload_n 2, 1) := by decide +kernel
theorem dX1_candidatesOf_70 : decode cX1_candidatesOf 70 = .ok (.iload 9, 2) := by decide +kernel
theorem dX1_candidatesOf_72 : decode cX1_candidatesOf 72 = .ok (.invokestatic 157, 3) := by decide +kernel
theorem dX1_candidatesOf_75 : decode cX1_candidatesOf 75 = .ok (.ifCond .eq 21, 3) := by decide +kernel
theorem dX1_candidatesOf_78 : decode cX1_candidatesOf 78 = .ok (.iload 8, 2) := by decide +kernel
theorem dX1_candidatesOf_80 : decode cX1_candidatesOf 80 = .ok (.aload_n 0, 1) := by decide +kernel
theorem dX1_candidatesOf_81 : decode cX1_candidatesOf 81 = .ok (.getfield 55, 3) := by decide +kernel
theorem dX1_candidatesOf_84 : decode cX1_candidatesOf 84 = .ok (.if_icmp .gt 12, 3) := by decide +kernel
theorem dX1_candidatesOf_87 : decode cX1_candidatesOf 87 = .ok (.lload 6, 2) := by decide +kernel
theorem dX1_candidatesOf_89 : decode cX1_candidatesOf 89 = .ok (.lconst 1, 1) := by decide +kernel
theorem dX1_candidatesOf_90 : decode cX1_candidatesOf 90 = .ok (.iload 9, 2) := by decide +kernel
theorem dX1_candidatesOf_92 : decode cX1_candidatesOf 92 = .ok (.lshl, 1) := by decide +kernel
theorem dX1_candidatesOf_93 : decode cX1_candidatesOf 93 = .ok (.lor, 1) := by decide +kernel
theorem dX1_candidatesOf_94 : decode cX1_candidatesOf 94 = .ok (.lstore 6, 2) := by decide +kernel
theorem dX1_candidatesOf_96 : decode cX1_candidatesOf 96 = .ok (.iinc 9 1, 3) := by decide +kernel
theorem dX1_candidatesOf_99 : decode cX1_candidatesOf 99 = .ok (.goto (-54), 3) := by decide +kernel
theorem dX1_candidatesOf_102 : decode cX1_candidatesOf 102 = .ok (.lload 6, 2) := by decide +kernel
theorem dX1_candidatesOf_104 : decode cX1_candidatesOf 104 = .ok (.lreturn, 1) := by decide +kernel
theorem dX1_likeliestOf_0 : decode cX1_likeliestOf 0 = .ok (.aload_n 0, 1) := by decide +kernel
theorem dX1_likeliestOf_1 : decode cX1_likeliestOf 1 = .ok (.iload_n 1, 1) := by decide +kernel
theorem dX1_likeliestOf_2 : decode cX1_likeliestOf 2 = .ok (.invokevirtual 154, 3) := by decide +kernel
theorem dX1_likeliestOf_5 : decode cX1_likeliestOf 5 = .ok (.lstore_n 2, 1) := by decide +kernel
theorem dX1_likeliestOf_6 : decode cX1_likeliestOf 6 = .ok (.aload_n 0, 1) := by decide +kernel
theorem dX1_likeliestOf_7 : decode cX1_likeliestOf 7 = .ok (.getfield 30, 3) := by decide +kernel
theorem dX1_likeliestOf_10 : decode cX1_likeliestOf 10 = .ok (.iload_n 1, 1) := by decide +kernel
theorem dX1_likeliestOf_11 : decode cX1_likeliestOf 11 = .ok (.iaload, 1) := by decide +kernel
theorem dX1_likeliestOf_12 : decode cX1_likeliestOf 12 = .ok (.istore 4, 2) := by decide +kernel
theorem dX1_likeliestOf_14 : decode cX1_likeliestOf 14 = .ok (.aload_n 0, 1) := by decide +kernel
theorem dX1_likeliestOf_15 : decode cX1_likeliestOf 15 = .ok (.getfield 33, 3) := by decide +kernel
theorem dX1_likeliestOf_18 : decode cX1_likeliestOf 18 = .ok (.iload_n 1, 1) := by decide +kernel
theorem dX1_likeliestOf_19 : decode cX1_likeliestOf 19 = .ok (.iaload, 1) := by decide +kernel
theorem dX1_likeliestOf_20 : decode cX1_likeliestOf 20 = .ok (.istore 5, 2) := by decide +kernel
theorem dX1_likeliestOf_22 : decode cX1_likeliestOf 22 = .ok (.iconst (-1), 1) := by decide +kernel
theorem dX1_likeliestOf_23 : decode cX1_likeliestOf 23 = .ok (.istore 6, 2) := by decide +kernel
theorem dX1_likeliestOf_25 : decode cX1_likeliestOf 25 = .ok (.iconst 0, 1) := by decide +kernel
theorem dX1_likeliestOf_26 : decode cX1_likeliestOf 26 = .ok (.istore 7, 2) := by decide +kernel
theorem dX1_likeliestOf_28 : decode cX1_likeliestOf 28 = .ok (.aload_n 0, 1) := by decide +kernel
theorem dX1_likeliestOf_29 : decode cX1_likeliestOf 29 = .ok (.getfield 22, 3) := by decide +kernel
theorem dX1_likeliestOf_32 : decode cX1_likeliestOf 32 = .ok (.iload_n 1, 1) := by decide +kernel
theorem dX1_likeliestOf_33 : decode cX1_likeliestOf 33 = .ok (.iload 4, 2) := by decide +kernel
theorem dX1_likeliestOf_35 : decode cX1_likeliestOf 35 = .ok (.iload 5, 2) := by decide +kernel
theorem dX1_likeliestOf_37 : decode cX1_likeliestOf 37 = .ok (.invokevirtual 186, 3) := by decide +kernel
theorem dX1_likeliestOf_40 : decode cX1_likeliestOf 40 = .ok (.istore 8, 2) := by decide +kernel
theorem dX1_likeliestOf_42 : decode cX1_likeliestOf 42 = .ok (.iload 4, 2) := by decide +kernel
theorem dX1_likeliestOf_44 : decode cX1_likeliestOf 44 = .ok (.iconst 1, 1) := by decide +kernel
theorem dX1_likeliestOf_45 : decode cX1_likeliestOf 45 = .ok (.iadd, 1) := by decide +kernel
theorem dX1_likeliestOf_46 : decode cX1_likeliestOf 46 = .ok (.istore 9, 2) := by decide +kernel
theorem dX1_likeliestOf_48 : decode cX1_likeliestOf 48 = .ok (.iload 9, 2) := by decide +kernel
theorem dX1_likeliestOf_50 : decode cX1_likeliestOf 50 = .ok (.iload 5, 2) := by decide +kernel
theorem dX1_likeliestOf_52 : decode cX1_likeliestOf 52 = .ok (.if_icmp .gt 55, 3) := by decide +kernel
theorem dX1_likeliestOf_55 : decode cX1_likeliestOf 55 = .ok (.iload 8, 2) := by decide +kernel
theorem dX1_likeliestOf_57 : decode cX1_likeliestOf 57 = .ok (.aload_n 0, 1) := by decide +kernel
theorem dX1_likeliestOf_58 : decode cX1_likeliestOf 58 = .ok (.getfield 22, 3) := by decide +kernel
theorem dX1_likeliestOf_61 : decode cX1_likeliestOf 61 = .ok (.iload_n 1, 1) := by decide +kernel
theorem dX1_likeliestOf_62 : decode cX1_likeliestOf 62 = .ok (.iload 9, 2) := by decide +kernel
theorem dX1_likeliestOf_64 : decode cX1_likeliestOf 64 = .ok (.iconst 1, 1) := by decide +kernel
theorem dX1_likeliestOf_65 : decode cX1_likeliestOf 65 = .ok (.isub, 1) := by decide +kernel
theorem dX1_likeliestOf_66 : decode cX1_likeliestOf 66 = .ok (.invokevirtual 190, 3) := by decide +kernel
theorem dX1_likeliestOf_69 : decode cX1_likeliestOf 69 = .ok (.iadd, 1) := by decide +kernel
theorem dX1_likeliestOf_70 : decode cX1_likeliestOf 70 = .ok (.istore 8, 2) := by decide +kernel
theorem dX1_likeliestOf_72 : decode cX1_likeliestOf 72 = .ok (.lload_n 2, 1) := by decide +kernel
theorem dX1_likeliestOf_73 : decode cX1_likeliestOf 73 = .ok (.iload 9, 2) := by decide +kernel
theorem dX1_likeliestOf_75 : decode cX1_likeliestOf 75 = .ok (.invokestatic 157, 3) := by decide +kernel
theorem dX1_likeliestOf_78 : decode cX1_likeliestOf 78 = .ok (.ifCond .eq 23, 3) := by decide +kernel
theorem dX1_likeliestOf_81 : decode cX1_likeliestOf 81 = .ok (.iload 6, 2) := by decide +kernel
theorem dX1_likeliestOf_83 : decode cX1_likeliestOf 83 = .ok (.ifCond .lt 10, 3) := by decide +kernel
theorem dX1_likeliestOf_86 : decode cX1_likeliestOf 86 = .ok (.iload 8, 2) := by decide +kernel
theorem dX1_likeliestOf_88 : decode cX1_likeliestOf 88 = .ok (.iload 7, 2) := by decide +kernel
theorem dX1_likeliestOf_90 : decode cX1_likeliestOf 90 = .ok (.if_icmp .ge 11, 3) := by decide +kernel
theorem dX1_likeliestOf_93 : decode cX1_likeliestOf 93 = .ok (.iload 9, 2) := by decide +kernel
theorem dX1_likeliestOf_95 : decode cX1_likeliestOf 95 = .ok (.istore 6, 2) := by decide +kernel
theorem dX1_likeliestOf_97 : decode cX1_likeliestOf 97 = .ok (.iload 8, 2) := by decide +kernel
theorem dX1_likeliestOf_99 : decode cX1_likeliestOf 99 = .ok (.istore 7, 2) := by decide +kernel
theorem dX1_likeliestOf_101 : decode cX1_likeliestOf 101 = .ok (.iinc 9 1, 3) := by decide +kernel
theorem dX1_likeliestOf_104 : decode cX1_likeliestOf 104 = .ok (.goto (-56), 3) := by decide +kernel
theorem dX1_likeliestOf_107 : decode cX1_likeliestOf 107 = .ok (.iload 6, 2) := by decide +kernel
theorem dX1_likeliestOf_109 : decode cX1_likeliestOf 109 = .ok (.ireturn, 1) := by decide +kernel
theorem dX1_weightAt_0 : decode cX1_weightAt 0 = .ok (.lload_n 0, 1) := by decide +kernel
theorem dX1_weightAt_1 : decode cX1_weightAt 1 = .ok (.iload_n 2, 1) := by decide +kernel
theorem dX1_weightAt_2 : decode cX1_weightAt 2 = .ok (.iconst 1, 1) := by decide +kernel
theorem dX1_weightAt_3 : decode cX1_weightAt 3 = .ok (.iadd, 1) := by decide +kernel
theorem dX1_weightAt_4 : decode cX1_weightAt 4 = .ok (.lshr, 1) := by decide +kernel
theorem dX1_weightAt_5 : decode cX1_weightAt 5 = .ok (.invokestatic 110, 3) := by decide +kernel
theorem dX1_weightAt_8 : decode cX1_weightAt 8 = .ok (.istore_n 3, 1) := by decide +kernel
theorem dX1_weightAt_9 : decode cX1_weightAt 9 = .ok (.lload_n 0, 1) := by decide +kernel
theorem dX1_weightAt_10 : decode cX1_weightAt 10 = .ok (.invokestatic 110, 3) := by decide +kernel
theorem dX1_weightAt_13 : decode cX1_weightAt 13 = .ok (.iload_n 3, 1) := by decide +kernel
theorem dX1_weightAt_14 : decode cX1_weightAt 14 = .ok (.isub, 1) := by decide +kernel
theorem dX1_weightAt_15 : decode cX1_weightAt 15 = .ok (.istore 4, 2) := by decide +kernel
theorem dX1_weightAt_17 : decode cX1_weightAt 17 = .ok (.iload 4, 2) := by decide +kernel
theorem dX1_weightAt_19 : decode cX1_weightAt 19 = .ok (.iload_n 3, 1) := by decide +kernel
theorem dX1_weightAt_20 : decode cX1_weightAt 20 = .ok (.invokestatic 181, 3) := by decide +kernel
theorem dX1_weightAt_23 : decode cX1_weightAt 23 = .ok (.ireturn, 1) := by decide +kernel
theorem dX1_firstInQueue_0 : decode cX1_firstInQueue 0 = .ok (.iconst 0, 1) := by decide +kernel
theorem dX1_firstInQueue_1 : decode cX1_firstInQueue 1 = .ok (.istore_n 1, 1) := by decide +kernel
theorem dX1_firstInQueue_2 : decode cX1_firstInQueue 2 = .ok (.iload_n 1, 1) := by decide +kernel
theorem dX1_firstInQueue_3 : decode cX1_firstInQueue 3 = .ok (.aload_n 0, 1) := by decide +kernel
theorem dX1_firstInQueue_4 : decode cX1_firstInQueue 4 = .ok (.getfield 46, 3) := by decide +kernel
theorem dX1_firstInQueue_7 : decode cX1_firstInQueue 7 = .ok (.if_icmp .ge 21, 3) := by decide +kernel
theorem dX1_firstInQueue_10 : decode cX1_firstInQueue 10 = .ok (.aload_n 0, 1) := by decide +kernel
theorem dX1_firstInQueue_11 : decode cX1_firstInQueue 11 = .ok (.getfield 36, 3) := by decide +kernel
theorem dX1_firstInQueue_14 : decode cX1_firstInQueue 14 = .ok (.iload_n 1, 1) := by decide +kernel
theorem dX1_firstInQueue_15 : decode cX1_firstInQueue 15 = .ok (.iaload, 1) := by decide +kernel
theorem dX1_firstInQueue_16 : decode cX1_firstInQueue 16 = .ok (.iconst 1, 1) := by decide +kernel
theorem dX1_firstInQueue_17 : decode cX1_firstInQueue 17 = .ok (.if_icmp .ne 5, 3) := by decide +kernel
theorem dX1_firstInQueue_20 : decode cX1_firstInQueue 20 = .ok (.iload_n 1, 1) := by decide +kernel
theorem dX1_firstInQueue_21 : decode cX1_firstInQueue 21 = .ok (.ireturn, 1) := by decide +kernel
theorem dX1_firstInQueue_22 : decode cX1_firstInQueue 22 = .ok (.iinc 1 1, 3) := by decide +kernel
theorem dX1_firstInQueue_25 : decode cX1_firstInQueue 25 = .ok (.goto (-23), 3) := by decide +kernel
theorem dX1_firstInQueue_28 : decode cX1_firstInQueue 28 = .ok (.iconst (-1), 1) := by decide +kernel
theorem dX1_firstInQueue_29 : decode cX1_firstInQueue 29 = .ok (.ireturn, 1) := by decide +kernel
theorem dX1_joinQueue_0 : decode cX1_joinQueue 0 = .ok (.aload_n 0, 1) := by decide +kernel
theorem dX1_joinQueue_1 : decode cX1_joinQueue 1 = .ok (.dup, 1) := by decide +kernel
theorem dX1_joinQueue_2 : decode cX1_joinQueue 2 = .ok (.getfield 39, 3) := by decide +kernel
theorem dX1_joinQueue_5 : decode cX1_joinQueue 5 = .ok (.iconst 1, 1) := by decide +kernel
theorem dX1_joinQueue_6 : decode cX1_joinQueue 6 = .ok (.iadd, 1) := by decide +kernel
theorem dX1_joinQueue_7 : decode cX1_joinQueue 7 = .ok (.putfield 39, 3) := by decide +kernel
theorem dX1_joinQueue_10 : decode cX1_joinQueue 10 = .ok (.aload_n 0, 1) := by decide +kernel
theorem dX1_joinQueue_11 : decode cX1_joinQueue 11 = .ok (.getfield 36, 3) := by decide +kernel
theorem dX1_joinQueue_14 : decode cX1_joinQueue 14 = .ok (.iload_n 1, 1) := by decide +kernel
theorem dX1_joinQueue_15 : decode cX1_joinQueue 15 = .ok (.aload_n 0, 1) := by decide +kernel
theorem dX1_joinQueue_16 : decode cX1_joinQueue 16 = .ok (.getfield 39, 3) := by decide +kernel
theorem dX1_joinQueue_19 : decode cX1_joinQueue 19 = .ok (.iastore, 1) := by decide +kernel
theorem dX1_joinQueue_20 : decode cX1_joinQueue 20 = .ok (.return_, 1) := by decide +kernel
theorem dX1_leaveQueue_0 : decode cX1_leaveQueue 0 = .ok (.aload_n 0, 1) := by decide +kernel
theorem dX1_leaveQueue_1 : decode cX1_leaveQueue 1 = .ok (.getfield 36, 3) := by decide +kernel
theorem dX1_leaveQueue_4 : decode cX1_leaveQueue 4 = .ok (.iload_n 1, 1) := by decide +kernel
theorem dX1_leaveQueue_5 : decode cX1_leaveQueue 5 = .ok (.iaload, 1) := by decide +kernel
theorem dX1_leaveQueue_6 : decode cX1_leaveQueue 6 = .ok (.istore_n 2, 1) := by decide +kernel
theorem dX1_leaveQueue_7 : decode cX1_leaveQueue 7 = .ok (.iload_n 2, 1) := by decide +kernel
theorem dX1_leaveQueue_8 : decode cX1_leaveQueue 8 = .ok (.ifCond .ne 4, 3) := by decide +kernel
theorem dX1_leaveQueue_11 : decode cX1_leaveQueue 11 = .ok (.return_, 1) := by decide +kernel
theorem dX1_leaveQueue_12 : decode cX1_leaveQueue 12 = .ok (.iconst 0, 1) := by decide +kernel
theorem dX1_leaveQueue_13 : decode cX1_leaveQueue 13 = .ok (.istore_n 3, 1) := by decide +kernel
theorem dX1_leaveQueue_14 : decode cX1_leaveQueue 14 = .ok (.iload_n 3, 1) := by decide +kernel
theorem dX1_leaveQueue_15 : decode cX1_leaveQueue 15 = .ok (.aload_n 0, 1) := by decide +kernel
theorem dX1_leaveQueue_16 : decode cX1_leaveQueue 16 = .ok (.getfield 46, 3) := by decide +kernel
theorem dX1_leaveQueue_19 : decode cX1_leaveQueue 19 = .ok (.if_icmp .ge 29, 3) := by decide +kernel
theorem dX1_leaveQueue_22 : decode cX1_leaveQueue 22 = .ok (.aload_n 0, 1) := by decide +kernel
theorem dX1_leaveQueue_23 : decode cX1_leaveQueue 23 = .ok (.getfield 36, 3) := by decide +kernel
theorem dX1_leaveQueue_26 : decode cX1_leaveQueue 26 = .ok (.iload_n 3, 1) := by decide +kernel
theorem dX1_leaveQueue_27 : decode cX1_leaveQueue 27 = .ok (.iaload, 1) := by decide +kernel
theorem dX1_leaveQueue_28 : decode cX1_leaveQueue 28 = .ok (.iload_n 2, 1) := by decide +kernel
theorem dX1_leaveQueue_29 : decode cX1_leaveQueue 29 = .ok (.if_icmp .le 13, 3) := by decide +kernel
theorem dX1_leaveQueue_32 : decode cX1_leaveQueue 32 = .ok (.aload_n 0, 1) := by decide +kernel
theorem dX1_leaveQueue_33 : decode cX1_leaveQueue 33 = .ok (.getfield 36, 3) := by decide +kernel
theorem dX1_leaveQueue_36 : decode cX1_leaveQueue 36 = .ok (.iload_n 3, 1) := by decide +kernel
theorem dX1_leaveQueue_37 : decode cX1_leaveQueue 37 = .ok (.dup2, 1) := by decide +kernel
theorem dX1_leaveQueue_38 : decode cX1_leaveQueue 38 = .ok (.iaload, 1) := by decide +kernel
theorem dX1_leaveQueue_39 : decode cX1_leaveQueue 39 = .ok (.iconst 1, 1) := by decide +kernel
theorem dX1_leaveQueue_40 : decode cX1_leaveQueue 40 = .ok (.isub, 1) := by decide +kernel
theorem dX1_leaveQueue_41 : decode cX1_leaveQueue 41 = .ok (.iastore, 1) := by decide +kernel
theorem dX1_leaveQueue_42 : decode cX1_leaveQueue 42 = .ok (.iinc 3 1, 3) := by decide +kernel
theorem dX1_leaveQueue_45 : decode cX1_leaveQueue 45 = .ok (.goto (-31), 3) := by decide +kernel
theorem dX1_leaveQueue_48 : decode cX1_leaveQueue 48 = .ok (.aload_n 0, 1) := by decide +kernel
theorem dX1_leaveQueue_49 : decode cX1_leaveQueue 49 = .ok (.getfield 36, 3) := by decide +kernel
theorem dX1_leaveQueue_52 : decode cX1_leaveQueue 52 = .ok (.iload_n 1, 1) := by decide +kernel
theorem dX1_leaveQueue_53 : decode cX1_leaveQueue 53 = .ok (.iconst 0, 1) := by decide +kernel
theorem dX1_leaveQueue_54 : decode cX1_leaveQueue 54 = .ok (.iastore, 1) := by decide +kernel
theorem dX1_leaveQueue_55 : decode cX1_leaveQueue 55 = .ok (.aload_n 0, 1) := by decide +kernel
theorem dX1_leaveQueue_56 : decode cX1_leaveQueue 56 = .ok (.dup, 1) := by decide +kernel
theorem dX1_leaveQueue_57 : decode cX1_leaveQueue 57 = .ok (.getfield 39, 3) := by decide +kernel
theorem dX1_leaveQueue_60 : decode cX1_leaveQueue 60 = .ok (.iconst 1, 1) := by decide +kernel
theorem dX1_leaveQueue_61 : decode cX1_leaveQueue 61 = .ok (.isub, 1) := by decide +kernel
theorem dX1_leaveQueue_62 : decode cX1_leaveQueue 62 = .ok (.putfield 39, 3) := by decide +kernel
theorem dX1_leaveQueue_65 : decode cX1_leaveQueue 65 = .ok (.return_, 1) := by decide +kernel
theorem dX2_init_0 : decode cX2_init 0 = .ok (.aload_n 0, 1) := by decide +kernel
theorem dX2_init_1 : decode cX2_init 1 = .ok (.invokespecial 1, 3) := by decide +kernel
theorem dX2_init_4 : decode cX2_init 4 = .ok (.aload_n 0, 1) := by decide +kernel
theorem dX2_init_5 : decode cX2_init 5 = .ok (.iconst 2, 1) := by decide +kernel
theorem dX2_init_6 : decode cX2_init 6 = .ok (.putfield 7, 3) := by decide +kernel
theorem dX2_init_9 : decode cX2_init 9 = .ok (.aload_n 0, 1) := by decide +kernel
theorem dX2_init_10 : decode cX2_init 10 = .ok (.bipush 10, 2) := by decide +kernel
theorem dX2_init_12 : decode cX2_init 12 = .ok (.putfield 13, 3) := by decide +kernel
theorem dX2_init_15 : decode cX2_init 15 = .ok (.aload_n 0, 1) := by decide +kernel
theorem dX2_init_16 : decode cX2_init 16 = .ok (.bipush 16, 2) := by decide +kernel
theorem dX2_init_18 : decode cX2_init 18 = .ok (.newarray .int, 2) := by decide +kernel
theorem dX2_init_20 : decode cX2_init 20 = .ok (.putfield 16, 3) := by decide +kernel
theorem dX2_init_23 : decode cX2_init 23 = .ok (.aload_n 0, 1) := by decide +kernel
theorem dX2_init_24 : decode cX2_init 24 = .ok (.bipush 40, 2) := by decide +kernel
theorem dX2_init_26 : decode cX2_init 26 = .ok (.newarray .int, 2) := by decide +kernel
theorem dX2_init_28 : decode cX2_init 28 = .ok (.putfield 20, 3) := by decide +kernel
theorem dX2_init_31 : decode cX2_init 31 = .ok (.aload_n 0, 1) := by decide +kernel
theorem dX2_init_32 : decode cX2_init 32 = .ok (.bipush 12, 2) := by decide +kernel
theorem dX2_init_34 : decode cX2_init 34 = .ok (.newarray .int, 2) := by decide +kernel
theorem dX2_init_36 : decode cX2_init 36 = .ok (.putfield 23, 3) := by decide +kernel
theorem dX2_init_39 : decode cX2_init 39 = .ok (.aload_n 0, 1) := by decide +kernel
theorem dX2_init_40 : decode cX2_init 40 = .ok (.sipush 480, 3) := by decide +kernel
theorem dX2_init_43 : decode cX2_init 43 = .ok (.newarray .int, 2) := by decide +kernel
theorem dX2_init_45 : decode cX2_init 45 = .ok (.putfield 26, 3) := by decide +kernel
theorem dX2_init_48 : decode cX2_init 48 = .ok (.aload_n 0, 1) := by decide +kernel
theorem dX2_init_49 : decode cX2_init 49 = .ok (.sipush 480, 3) := by decide +kernel
theorem dX2_init_52 : decode cX2_init 52 = .ok (.newarray .int, 2) := by decide +kernel
theorem dX2_init_54 : decode cX2_init 54 = .ok (.putfield 29, 3) := by decide +kernel
theorem dX2_init_57 : decode cX2_init 57 = .ok (.aload_n 0, 1) := by decide +kernel
theorem dX2_init_58 : decode cX2_init 58 = .ok (.bipush 12, 2) := by decide +kernel
theorem dX2_init_60 : decode cX2_init 60 = .ok (.newarray .int, 2) := by decide +kernel
theorem dX2_init_62 : decode cX2_init 62 = .ok (.putfield 32, 3) := by decide +kernel
theorem dX2_init_65 : decode cX2_init 65 = .ok (.aload_n 0, 1) := by decide +kernel
theorem dX2_init_66 : decode cX2_init 66 = .ok (.bipush 12, 2) := by decide +kernel
theorem dX2_init_68 : decode cX2_init 68 = .ok (.newarray .int, 2) := by decide +kernel
theorem dX2_init_70 : decode cX2_init 70 = .ok (.putfield 35, 3) := by decide +kernel
theorem dX2_init_73 : decode cX2_init 73 = .ok (.aload_n 0, 1) := by decide +kernel
theorem dX2_init_74 : decode cX2_init 74 = .ok (.bipush 12, 2) := by decide +kernel
theorem dX2_init_76 : decode cX2_init 76 = .ok (.newarray .int, 2) := by decide +kernel
theorem dX2_init_78 : decode cX2_init 78 = .ok (.putfield 38, 3) := by decide +kernel
theorem dX2_init_81 : decode cX2_init 81 = .ok (.iconst 0, 1) := by decide +kernel
theorem dX2_init_82 : decode cX2_init 82 = .ok (.istore_n 1, 1) := by decide +kernel
theorem dX2_init_83 : decode cX2_init 83 = .ok (.iload_n 1, 1) := by decide +kernel
theorem dX2_init_84 : decode cX2_init 84 = .ok (.bipush 12, 2) := by decide +kernel
theorem dX2_init_86 : decode cX2_init 86 = .ok (.if_icmp .ge 16, 3) := by decide +kernel
theorem dX2_init_89 : decode cX2_init 89 = .ok (.aload_n 0, 1) := by decide +kernel
theorem dX2_init_90 : decode cX2_init 90 = .ok (.getfield 32, 3) := by decide +kernel
theorem dX2_init_93 : decode cX2_init 93 = .ok (.iload_n 1, 1) := by decide +kernel
theorem dX2_init_94 : decode cX2_init 94 = .ok (.iconst (-1), 1) := by decide +kernel
theorem dX2_init_95 : decode cX2_init 95 = .ok (.iastore, 1) := by decide +kernel
theorem dX2_init_96 : decode cX2_init 96 = .ok (.iinc 1 1, 3) := by decide +kernel
theorem dX2_init_99 : decode cX2_init 99 = .ok (.goto (-16), 3) := by decide +kernel
theorem dX2_init_102 : decode cX2_init 102 = .ok (.return_, 1) := by decide +kernel
theorem dX2_thrown_0 : decode cX2_thrown 0 = .ok (.aload_n 0, 1) := by decide +kernel
theorem dX2_thrown_1 : decode cX2_thrown 1 = .ok (.getfield 41, 3) := by decide +kernel
theorem dX2_thrown_4 : decode cX2_thrown 4 = .ok (.ireturn, 1) := by decide +kernel
theorem dX2_in_0 : decode cX2_in 0 = .ok (.iload_n 0, 1) := by decide +kernel
theorem dX2_in_1 : decode cX2_in 1 = .ok (.iload_n 1, 1) := by decide +kernel
theorem dX2_in_2 : decode cX2_in 2 = .ok (.if_icmp .lt 12, 3) := by decide +kernel
theorem dX2_in_5 : decode cX2_in 5 = .ok (.iload_n 0, 1) := by decide +kernel
theorem dX2_in_6 : decode cX2_in 6 = .ok (.iload_n 2, 1) := by decide +kernel
theorem dX2_in_7 : decode cX2_in 7 = .ok (.if_icmp .gt 7, 3) := by decide +kernel
theorem dX2_in_10 : decode cX2_in 10 = .ok (.iconst 1, 1) := by decide +kernel
theorem dX2_in_11 : decode cX2_in 11 = .ok (.goto 4, 3) := by decide +kernel
theorem dX2_in_14 : decode cX2_in 14 = .ok (.iconst 0, 1) := by decide +kernel
theorem dX2_in_15 : decode cX2_in 15 = .ok (.ireturn, 1) := by decide +kernel
theorem dX2_goes_0 : decode cX2_goes 0 = .ok (.aload_n 0, 1) := by decide +kernel
theorem dX2_goes_1 : decode cX2_goes 1 = .ok (.iload_n 1, 1) := by decide +kernel
theorem dX2_goes_2 : decode cX2_goes 2 = .ok (.ifCond .ne 7, 3) := by decide +kernel
theorem dX2_goes_5 : decode cX2_goes 5 = .ok (.iconst 1, 1) := by decide +kernel
theorem dX2_goes_6 : decode cX2_goes 6 = .ok (.goto 12, 3) := by decide +kernel
theorem dX2_goes_9 : decode cX2_goes 9 = .ok (.iload_n 2, 1) := by decide +kernel
theorem dX2_goes_10 : decode cX2_goes 10 = .ok (.ifCond .ne 7, 3) := by decide +kernel
theorem dX2_goes_13 : decode cX2_goes 13 = .ok (.iconst 2, 1) := by decide +kernel
theorem dX2_goes_14 : decode cX2_goes 14 = .ok (.goto 4, 3) := by decide +kernel
theorem dX2_goes_17 : decode cX2_goes 17 = .ok (.iconst 0, 1) := by decide +kernel
theorem dX2_goes_18 : decode cX2_goes 18 = .ok (.putfield 41, 3) := by decide +kernel
theorem dX2_goes_21 : decode cX2_goes 21 = .ok (.aload_n 0, 1) := by decide +kernel
theorem dX2_goes_22 : decode cX2_goes 22 = .ok (.getfield 41, 3) := by decide +kernel
theorem dX2_goes_25 : decode cX2_goes 25 = .ok (.ifCond .ne 7, 3) := by decide +kernel
theorem dX2_goes_28 : decode cX2_goes 28 = .ok (.iconst 1, 1) := by decide +kernel
theorem dX2_goes_29 : decode cX2_goes 29 = .ok (.goto 4, 3) := by decide +kernel
theorem dX2_goes_32 : decode cX2_goes 32 = .ok (.iconst 0, 1) := by decide +kernel
theorem dX2_goes_33 : decode cX2_goes 33 = .ok (.ireturn, 1) := by decide +kernel
theorem dX2_told_0 : decode cX2_told 0 = .ok (.aload_n 0, 1) := by decide +kernel
theorem dX2_told_1 : decode cX2_told 1 = .ok (.iconst 0, 1) := by decide +kernel
theorem dX2_told_2 : decode cX2_told 2 = .ok (.putfield 41, 3) := by decide +kernel
theorem dX2_told_5 : decode cX2_told 5 = .ok (.iload_n 1, 1) := by decide +kernel
theorem dX2_told_6 : decode cX2_told 6 = .ok (.ireturn, 1) := by decide +kernel
theorem dX2_areParts_0 : decode cX2_areParts 0 = .ok (.iload_n 0, 1) := by decide +kernel
theorem dX2_areParts_1 : decode cX2_areParts 1 = .ok (.iconst 0, 1) := by decide +kernel
theorem dX2_areParts_2 : decode cX2_areParts 2 = .ok (.ldc 44, 2) := by decide +kernel
theorem dX2_areParts_4 : decode cX2_areParts 4 = .ok (.invokestatic 45, 3) := by decide +kernel
theorem dX2_areParts_7 : decode cX2_areParts 7 = .ok (.ireturn, 1) := by decide +kernel
theorem dX2_isTest_0 : decode cX2_isTest 0 = .ok (.iload_n 1, 1) := by decide +kernel
theorem dX2_isTest_1 : decode cX2_isTest 1 = .ok (.iconst 0, 1) := by decide +kernel
theorem dX2_isTest_2 : decode cX2_isTest 2 = .ok (.aload_n 0, 1) := by decide +kernel
theorem dX2_isTest_3 : decode cX2_isTest 3 = .ok (.getfield 49, 3) := by decide +kernel
theorem dX2_isTest_6 : decode cX2_isTest 6 = .ok (.iconst 1, 1) := by decide +kernel
theorem dX2_isTest_7 : decode cX2_isTest 7 = .ok (.isub, 1) := by decide +kernel
theorem dX2_isTest_8 : decode cX2_isTest 8 = .ok (.invokestatic 45, 3) := by decide +kernel
theorem dX2_isTest_11 : decode cX2_isTest 11 = .ok (.ireturn, 1) := by decide +kernel
theorem dX2_isCommit_0 : decode cX2_isCommit 0 = .ok (.iload_n 1, 1) := by decide +kernel
theorem dX2_isCommit_1 : decode cX2_isCommit 1 = .ok (.iconst 0, 1) := by decide +kernel
theorem dX2_isCommit_2 : decode cX2_isCommit 2 = .ok (.aload_n 0, 1) := by decide +kernel
theorem dX2_isCommit_3 : decode cX2_isCommit 3 = .ok (.getfield 52, 3) := by decide +kernel
theorem dX2_isCommit_6 : decode cX2_isCommit 6 = .ok (.iconst 1, 1) := by decide +kernel
theorem dX2_isCommit_7 : decode cX2_isCommit 7 = .ok (.isub, 1) := by decide +kernel
theorem dX2_isCommit_8 : decode cX2_isCommit 8 = .ok (.invokestatic 45, 3) := by decide +kernel
theorem dX2_isCommit_11 : decode cX2_isCommit 11 = .ok (.ireturn, 1) := by decide +kernel
theorem dX2_isInTriage_0 : decode cX2_isInTriage 0 = .ok (.aload_n 0, 1) := by decide +kernel
theorem dX2_isInTriage_1 : decode cX2_isInTriage 1 = .ok (.iload_n 1, 1) := by decide +kernel
theorem dX2_isInTriage_2 : decode cX2_isInTriage 2 = .ok (.invokevirtual 55, 3) := by decide +kernel
theorem dX2_isInTriage_5 : decode cX2_isInTriage 5 = .ok (.ifCond .eq 17, 3) := by decide +kernel
theorem dX2_isInTriage_8 : decode cX2_isInTriage 8 = .ok (.aload_n 0, 1) := by decide +kernel
theorem dX2_isInTriage_9 : decode cX2_isInTriage 9 = .ok (.getfield 32, 3) := by decide +kernel
theorem dX2_isInTriage_12 : decode cX2_isInTriage 12 = .ok (.iload_n 1, 1) := by decide +kernel
theorem dX2_isInTriage_13 : decode cX2_isInTriage 13 = .ok (.iaload, 1) := by decide +kernel
theorem dX2_isInTriage_14 : decode cX2_isInTriage 14 = .ok (.iconst (-1), 1) := by decide +kernel
theorem dX2_isInTriage_15 : decode cX2_isInTriage 15 = .ok (.if_icmp .eq 7, 3) := by decide +kernel
theorem dX2_isInTriage_18 : decode cX2_isInTriage 18 = .ok (.iconst 1, 1) := by decide +kernel
theorem dX2_isInTriage_19 : decode cX2_isInTriage 19 = .ok (.goto 4, 3) := by decide +kernel
theorem dX2_isInTriage_22 : decode cX2_isInTriage 22 = .ok (.iconst 0, 1) := by decide +kernel
theorem dX2_isInTriage_23 : decode cX2_isInTriage 23 = .ok (.ireturn, 1) := by decide +kernel
theorem dX2_setUses_0 : decode cX2_setUses 0 = .ok (.aload_n 0, 1) := by decide +kernel
theorem dX2_setUses_1 : decode cX2_setUses 1 = .ok (.iload_n 1, 1) := by decide +kernel
theorem dX2_setUses_2 : decode cX2_setUses 2 = .ok (.iconst 0, 1) := by decide +kernel
theorem dX2_setUses_3 : decode cX2_setUses 3 = .ok (.bipush 15, 2) := by decide +kernel
theorem dX2_setUses_5 : decode cX2_setUses 5 = .ok (.invokestatic 45, 3) := by decide +kernel
theorem dX2_setUses_8 : decode cX2_setUses 8 = .ok (.iload_n 2, 1) := by decide +kernel
theorem dX2_setUses_9 : decode cX2_setUses 9 = .ok (.invokestatic 59, 3) := by decide +kernel
theorem dX2_setUses_12 : decode cX2_setUses 12 = .ok (.invokevirtual 62, 3) := by decide +kernel
theorem dX2_setUses_15 : decode cX2_setUses 15 = .ok (.ifCond .ne 5, 3) := by decide +kernel
theorem dX2_setUses_18 : decode cX2_setUses 18 = .ok (.iconst 0, 1) := by decide +kernel
theorem dX2_setUses_19 : decode cX2_setUses 19 = .ok (.ireturn, 1) := by decide +kernel
theorem dX2_setUses_20 : decode cX2_setUses 20 = .ok (.aload_n 0, 1) := by decide +kernel
theorem dX2_setUses_21 : decode cX2_setUses 21 = .ok (.getfield 16, 3) := by decide +kernel
theorem dX2_setUses_24 : decode cX2_setUses 24 = .ok (.iload_n 1, 1) := by decide +kernel
theorem dX2_setUses_25 : decode cX2_setUses 25 = .ok (.iaload, 1) := by decide +kernel
theorem dX2_setUses_26 : decode cX2_setUses 26 = .ok (.istore_n 3, 1) := by decide +kernel
theorem dX2_setUses_27 : decode cX2_setUses 27 = .ok (.aload_n 0, 1) := by decide +kernel
theorem dX2_setUses_28 : decode cX2_setUses 28 = .ok (.getfield 16, 3) := by decide +kernel
theorem dX2_setUses_31 : decode cX2_setUses 31 = .ok (.iload_n 1, 1) := by decide +kernel
theorem dX2_setUses_32 : decode cX2_setUses 32 = .ok (.iload_n 2, 1) := by decide +kernel
theorem dX2_setUses_33 : decode cX2_setUses 33 = .ok (.iastore, 1) := by decide +kernel
theorem dX2_setUses_34 : decode cX2_setUses 34 = .ok (.iload_n 3, 1) := by decide +kernel
theorem dX2_setUses_35 : decode cX2_setUses 35 = .ok (.ireturn, 1) := by decide +kernel
theorem dX2_addCommit_0 : decode cX2_addCommit 0 = .ok (.aload_n 0, 1) := by decide +kernel
theorem dX2_addCommit_1 : decode cX2_addCommit 1 = .ok (.iload_n 1, 1) := by decide +kernel
theorem dX2_addCommit_2 : decode cX2_addCommit 2 = .ok (.invokestatic 59, 3) := by decide +kernel
theorem dX2_addCommit_5 : decode cX2_addCommit 5 = .ok (.aload_n 0, 1) := by decide +kernel
theorem dX2_addCommit_6 : decode cX2_addCommit 6 = .ok (.getfield 52, 3) := by decide +kernel
theorem dX2_addCommit_9 : decode cX2_addCommit 9 = .ok (.bipush 40, 2) := by decide +kernel
theorem dX2_addCommit_11 : decode cX2_addCommit 11 = .ok (.if_icmp .ge 7, 3) := by decide +kernel
theorem dX2_addCommit_14 : decode cX2_addCommit 14 = .ok (.iconst 1, 1) := by decide +kernel
theorem dX2_addCommit_15 : decode cX2_addCommit 15 = .ok (.goto 4, 3) := by decide +kernel
theorem dX2_addCommit_18 : decode cX2_addCommit 18 = .ok (.iconst 0, 1) := by decide +kernel
theorem dX2_addCommit_19 : decode cX2_addCommit 19 = .ok (.invokevirtual 62, 3) := by decide +kernel
theorem dX2_addCommit_22 : decode cX2_addCommit 22 = .ok (.ifCond .ne 5, 3) := by decide +kernel
theorem dX2_addCommit_25 : decode cX2_addCommit 25 = .ok (.iconst 0, 1) := by decide +kernel
theorem dX2_addCommit_26 : decode cX2_addCommit 26 = .ok (.ireturn, 1) := by decide +kernel
theorem dX2_addCommit_27 : decode cX2_addCommit 27 = .ok (.aload_n 0, 1) := by decide +kernel
theorem dX2_addCommit_28 : decode cX2_addCommit 28 = .ok (.getfield 20, 3) := by decide +kernel
theorem dX2_addCommit_31 : decode cX2_addCommit 31 = .ok (.aload_n 0, 1) := by decide +kernel
theorem dX2_addCommit_32 : decode cX2_addCommit 32 = .ok (.getfield 52, 3) := by decide +kernel
theorem dX2_addCommit_35 : decode cX2_addCommit 35 = .ok (.iload_n 1, 1) := by decide +kernel
theorem dX2_addCommit_36 : decode cX2_addCommit 36 = .ok (.iastore, 1) := by decide +kernel
theorem dX2_addCommit_37 : decode cX2_addCommit 37 = .ok (.aload_n 0, 1) := by decide +kernel
theorem dX2_addCommit_38 : decode cX2_addCommit 38 = .ok (.dup, 1) := by decide +kernel
theorem dX2_addCommit_39 : decode cX2_addCommit 39 = .ok (.getfield 52, 3) := by decide +kernel
theorem dX2_addCommit_42 : decode cX2_addCommit 42 = .ok (.iconst 1, 1) := by decide +kernel
theorem dX2_addCommit_43 : decode cX2_addCommit 43 = .ok (.iadd, 1) := by decide +kernel
theorem dX2_addCommit_44 : decode cX2_addCommit 44 = .ok (.putfield 52, 3) := by decide +kernel
theorem dX2_addCommit_47 : decode cX2_addCommit 47 = .ok (.aload_n 0, 1) := by decide +kernel
theorem dX2_addCommit_48 : decode cX2_addCommit 48 = .ok (.getfield 52, 3) := by decide +kernel
theorem dX2_addCommit_51 : decode cX2_addCommit 51 = .ok (.iconst 1, 1) := by decide +kernel
theorem dX2_addCommit_52 : decode cX2_addCommit 52 = .ok (.isub, 1) := by decide +kernel
theorem dX2_addCommit_53 : decode cX2_addCommit 53 = .ok (.ireturn, 1) := by decide +kernel
theorem dX2_addTest_0 : decode cX2_addTest 0 = .ok (.aload_n 0, 1) := by decide +kernel
theorem dX2_addTest_1 : decode cX2_addTest 1 = .ok (.iload_n 1, 1) := by decide +kernel
theorem dX2_addTest_2 : decode cX2_addTest 2 = .ok (.invokestatic 59, 3) := by decide +kernel
theorem dX2_addTest_5 : decode cX2_addTest 5 = .ok (.aload_n 0, 1) := by decide +kernel
theorem dX2_addTest_6 : decode cX2_addTest 6 = .ok (.getfield 49, 3) := by decide +kernel
theorem dX2_addTest_9 : decode cX2_addTest 9 = .ok (.bipush 12, 2) := by decide +kernel
theorem dX2_addTest_11 : decode cX2_addTest 11 = .ok (.if_icmp .ge 7, 3) := by decide +kernel
theorem dX2_addTest_14 : decode cX2_addTest 14 = .ok (.iconst 1, 1) := by decide +kernel
theorem dX2_addTest_15 : decode cX2_addTest 15 = .ok (.goto 4, 3) := by decide +kernel
theorem dX2_addTest_18 : decode cX2_addTest 18 = .ok (.iconst 0, 1) := by decide +kernel
theorem dX2_addTest_19 : decode cX2_addTest 19 = .ok (.invokevirtual 62, 3) := by decide +kernel
theorem dX2_addTest_22 : decode cX2_addTest 22 = .ok (.ifCond .ne 5, 3) := by decide +kernel
theorem dX2_addTest_25 : decode cX2_addTest 25 = .ok (.iconst 0, 1) := by decide +kernel
theorem dX2_addTest_26 : decode cX2_addTest 26 = .ok (.ireturn, 1) := by decide +kernel
theorem dX2_addTest_27 : decode cX2_addTest 27 = .ok (.aload_n 0, 1) := by decide +kernel
theorem dX2_addTest_28 : decode cX2_addTest 28 = .ok (.getfield 23, 3) := by decide +kernel
theorem dX2_addTest_31 : decode cX2_addTest 31 = .ok (.aload_n 0, 1) := by decide +kernel
theorem dX2_addTest_32 : decode cX2_addTest 32 = .ok (.getfield 49, 3) := by decide +kernel
theorem dX2_addTest_35 : decode cX2_addTest 35 = .ok (.iload_n 1, 1) := by decide +kernel
theorem dX2_addTest_36 : decode cX2_addTest 36 = .ok (.iastore, 1) := by decide +kernel
theorem dX2_addTest_37 : decode cX2_addTest 37 = .ok (.aload_n 0, 1) := by decide +kernel
theorem dX2_addTest_38 : decode cX2_addTest 38 = .ok (.dup, 1) := by decide +kernel
theorem dX2_addTest_39 : decode cX2_addTest 39 = .ok (.getfield 49, 3) := by decide +kernel
theorem dX2_addTest_42 : decode cX2_addTest 42 = .ok (.iconst 1, 1) := by decide +kernel
theorem dX2_addTest_43 : decode cX2_addTest 43 = .ok (.iadd, 1) := by decide +kernel
theorem dX2_addTest_44 : decode cX2_addTest 44 = .ok (.putfield 49, 3) := by decide +kernel
theorem dX2_addTest_47 : decode cX2_addTest 47 = .ok (.aload_n 0, 1) := by decide +kernel
theorem dX2_addTest_48 : decode cX2_addTest 48 = .ok (.getfield 49, 3) := by decide +kernel
theorem dX2_addTest_51 : decode cX2_addTest 51 = .ok (.iconst 1, 1) := by decide +kernel
theorem dX2_addTest_52 : decode cX2_addTest 52 = .ok (.isub, 1) := by decide +kernel
theorem dX2_addTest_53 : decode cX2_addTest 53 = .ok (.ireturn, 1) := by decide +kernel
theorem dX2_setQuarantine_0 : decode cX2_setQuarantine 0 = .ok (.aload_n 0, 1) := by decide +kernel
theorem dX2_setQuarantine_1 : decode cX2_setQuarantine 1 = .ok (.iload_n 1, 1) := by decide +kernel
theorem dX2_setQuarantine_2 : decode cX2_setQuarantine 2 = .ok (.iconst 1, 1) := by decide +kernel
theorem dX2_setQuarantine_3 : decode cX2_setQuarantine 3 = .ok (.bipush 10, 2) := by decide +kernel
theorem dX2_setQuarantine_5 : decode cX2_setQuarantine 5 = .ok (.invokestatic 45, 3) := by decide +kernel
theorem dX2_setQuarantine_8 : decode cX2_setQuarantine 8 = .ok (.ifCond .eq 17, 3) := by decide +kernel
theorem dX2_setQuarantine_11 : decode cX2_setQuarantine 11 = .ok (.iload_n 2, 1) := by decide +kernel
theorem dX2_setQuarantine_12 : decode cX2_setQuarantine 12 = .ok (.iconst 1, 1) := by decide +kernel
theorem dX2_setQuarantine_13 : decode cX2_setQuarantine 13 = .ok (.bipush 40, 2) := by decide +kernel
theorem dX2_setQuarantine_15 : decode cX2_setQuarantine 15 = .ok (.invokestatic 45, 3) := by decide +kernel
theorem dX2_setQuarantine_18 : decode cX2_setQuarantine 18 = .ok (.ifCond .eq 7, 3) := by decide +kernel
theorem dX2_setQuarantine_21 : decode cX2_setQuarantine 21 = .ok (.iconst 1, 1) := by decide +kernel
theorem dX2_setQuarantine_22 : decode cX2_setQuarantine 22 = .ok (.goto 4, 3) := by decide +kernel
theorem dX2_setQuarantine_25 : decode cX2_setQuarantine 25 = .ok (.iconst 0, 1) := by decide +kernel
theorem dX2_setQuarantine_26 : decode cX2_setQuarantine 26 = .ok (.iconst 1, 1) := by decide +kernel
theorem dX2_setQuarantine_27 : decode cX2_setQuarantine 27 = .ok (.invokevirtual 62, 3) := by decide +kernel
theorem dX2_setQuarantine_30 : decode cX2_setQuarantine 30 = .ok (.ifCond .eq 13, 3) := by decide +kernel
theorem dX2_setQuarantine_33 : decode cX2_setQuarantine 33 = .ok (.aload_n 0, 1) := by decide +kernel
theorem dX2_setQuarantine_34 : decode cX2_setQuarantine 34 = .ok (.iload_n 1, 1) := by decide +kernel
theorem dX2_setQuarantine_35 : decode cX2_setQuarantine 35 = .ok (.putfield 7, 3) := by decide +kernel
theorem dX2_setQuarantine_38 : decode cX2_setQuarantine 38 = .ok (.aload_n 0, 1) := by decide +kernel
theorem dX2_setQuarantine_39 : decode cX2_setQuarantine 39 = .ok (.iload_n 2, 1) := by decide +kernel
theorem dX2_setQuarantine_40 : decode cX2_setQuarantine 40 = .ok (.putfield 13, 3) := by decide +kernel
theorem dX2_setQuarantine_43 : decode cX2_setQuarantine 43 = .ok (.return_, 1) := by decide +kernel
theorem dX2_setNoise_0 : decode cX2_setNoise 0 = .ok (.aload_n 0, 1) := by decide +kernel
theorem dX2_setNoise_1 : decode cX2_setNoise 1 = .ok (.iload_n 1, 1) := by decide +kernel
theorem dX2_setNoise_2 : decode cX2_setNoise 2 = .ok (.iconst 0, 1) := by decide +kernel
theorem dX2_setNoise_3 : decode cX2_setNoise 3 = .ok (.bipush 20, 2) := by decide +kernel
theorem dX2_setNoise_5 : decode cX2_setNoise 5 = .ok (.invokestatic 45, 3) := by decide +kernel
theorem dX2_setNoise_8 : decode cX2_setNoise 8 = .ok (.iconst 1, 1) := by decide +kernel
theorem dX2_setNoise_9 : decode cX2_setNoise 9 = .ok (.invokevirtual 62, 3) := by decide +kernel
theorem dX2_setNoise_12 : decode cX2_setNoise 12 = .ok (.ifCond .ne 5, 3) := by decide +kernel
theorem dX2_setNoise_15 : decode cX2_setNoise 15 = .ok (.iconst 0, 1) := by decide +kernel
theorem dX2_setNoise_16 : decode cX2_setNoise 16 = .ok (.ireturn, 1) := by decide +kernel
theorem dX2_setNoise_17 : decode cX2_setNoise 17 = .ok (.aload_n 0, 1) := by decide +kernel
theorem dX2_setNoise_18 : decode cX2_setNoise 18 = .ok (.getfield 66, 3) := by decide +kernel
theorem dX2_setNoise_21 : decode cX2_setNoise 21 = .ok (.istore_n 2, 1) := by decide +kernel
theorem dX2_setNoise_22 : decode cX2_setNoise 22 = .ok (.aload_n 0, 1) := by decide +kernel
theorem dX2_setNoise_23 : decode cX2_setNoise 23 = .ok (.iload_n 1, 1) := by decide +kernel
theorem dX2_setNoise_24 : decode cX2_setNoise 24 = .ok (.putfield 66, 3) := by decide +kernel
theorem dX2_setNoise_27 : decode cX2_setNoise 27 = .ok (.iload_n 2, 1) := by decide +kernel
theorem dX2_setNoise_28 : decode cX2_setNoise 28 = .ok (.ireturn, 1) := by decide +kernel
theorem dX2_reach_0 : decode cX2_reach 0 = .ok (.iconst 0, 1) := by decide +kernel
theorem dX2_reach_1 : decode cX2_reach 1 = .ok (.istore_n 2, 1) := by decide +kernel
theorem dX2_reach_2 : decode cX2_reach 2 = .ok (.aload_n 0, 1) := by decide +kernel
theorem dX2_reach_3 : decode cX2_reach 3 = .ok (.getfield 23, 3) := by decide +kernel
theorem dX2_reach_6 : decode cX2_reach 6 = .ok (.iload_n 1, 1) := by decide +kernel
theorem dX2_reach_7 : decode cX2_reach 7 = .ok (.iaload, 1) := by decide +kernel
theorem dX2_reach_8 : decode cX2_reach 8 = .ok (.istore_n 3, 1) := by decide +kernel
theorem dX2_reach_9 : decode cX2_reach 9 = .ok (.iload_n 2, 1) := by decide +kernel
theorem dX2_reach_10 : decode cX2_reach 10 = .ok (.iload_n 3, 1) := by decide +kernel
theorem dX2_reach_11 : decode cX2_reach 11 = .ok (.if_icmp .eq 48, 3) := by decide +kernel
theorem dX2_reach_14 : decode cX2_reach 14 = .ok (.iload_n 3, 1) := by decide +kernel
theorem dX2_reach_15 : decode cX2_reach 15 = .ok (.istore_n 2, 1) := by decide +kernel
theorem dX2_reach_16 : decode cX2_reach 16 = .ok (.iconst 0, 1) := by decide +kernel
theorem dX2_reach_17 : decode cX2_reach 17 = .ok (.istore 4, 2) := by decide +kernel
theorem dX2_reach_19 : decode cX2_reach 19 = .ok (.iload 4, 2) := by decide +kernel
theorem dX2_reach_21 : decode cX2_reach 21 = .ok (.bipush 16, 2) := by decide +kernel
theorem dX2_reach_23 : decode cX2_reach 23 = .ok (.if_icmp .ge 33, 3) := by decide +kernel
theorem dX2_reach_26 : decode cX2_reach 26 = .ok (.iload_n 3, 1) := by decide +kernel
theorem dX2_reach_27 : decode cX2_reach 27 = .ok (.iload_n 2, 1) := by decide +kernel
theorem dX2_reach_28 : decode cX2_reach 28 = .ok (.iload 4, 2) := by decide +kernel
theorem dX2_reach_30 : decode cX2_reach 30 = .ok (.ishr, 1) := by decide +kernel
theorem dX2_reach_31 : decode cX2_reach 31 = .ok (.iconst 1, 1) := by decide +kernel
theorem dX2_reach_32 : decode cX2_reach 32 = .ok (.iand, 1) := by decide +kernel
theorem dX2_reach_33 : decode cX2_reach 33 = .ok (.iconst 1, 1) := by decide +kernel
theorem dX2_reach_34 : decode cX2_reach 34 = .ok (.if_icmp .ne 13, 3) := by decide +kernel
theorem dX2_reach_37 : decode cX2_reach 37 = .ok (.aload_n 0, 1) := by decide +kernel
theorem dX2_reach_38 : decode cX2_reach 38 = .ok (.getfield 16, 3) := by decide +kernel
theorem dX2_reach_41 : decode cX2_reach 41 = .ok (.iload 4, 2) := by decide +kernel
theorem dX2_reach_43 : decode cX2_reach 43 = .ok (.iaload, 1) := by decide +kernel
theorem dX2_reach_44 : decode cX2_reach 44 = .ok (.goto 4, 3) := by decide +kernel
theorem dX2_reach_47 : decode cX2_reach 47 = .ok (.iconst 0, 1) := by decide +kernel
theorem dX2_reach_48 : decode cX2_reach 48 = .ok (.ior, 1) := by decide +kernel
theorem dX2_reach_49 : decode cX2_reach 49 = .ok (.istore_n 3, 1) := by decide +kernel
theorem dX2_reach_50 : decode cX2_reach 50 = .ok (.iinc 4 1, 3) := by decide +kernel
theorem dX2_reach_53 : decode cX2_reach 53 = .ok (.goto (-34), 3) := by decide +kernel
theorem dX2_reach_56 : decode cX2_reach 56 = .ok (.goto (-47), 3) := by decide +kernel
theorem dX2_reach_59 : decode cX2_reach 59 = .ok (.iload_n 2, 1) := by decide +kernel
theorem dX2_reach_60 : decode cX2_reach 60 = .ok (.ireturn, 1) := by decide +kernel
theorem dX2_verdictOf_0 : decode cX2_verdictOf 0 = .ok (.bipush 40, 2) := by decide +kernel
theorem dX2_verdictOf_2 : decode cX2_verdictOf 2 = .ok (.iload_n 1, 1) := by decide +kernel
theorem dX2_verdictOf_3 : decode cX2_verdictOf 3 = .ok (.imul, 1) := by decide +kernel
theorem dX2_verdictOf_4 : decode cX2_verdictOf 4 = .ok (.iload_n 2, 1) := by decide +kernel
theorem dX2_verdictOf_5 : decode cX2_verdictOf 5 = .ok (.iadd, 1) := by decide +kernel
theorem dX2_verdictOf_6 : decode cX2_verdictOf 6 = .ok (.istore_n 3, 1) := by decide +kernel
theorem dX2_verdictOf_7 : decode cX2_verdictOf 7 = .ok (.aload_n 0, 1) := by decide +kernel
theorem dX2_verdictOf_8 : decode cX2_verdictOf 8 = .ok (.getfield 26, 3) := by decide +kernel
theorem dX2_verdictOf_11 : decode cX2_verdictOf 11 = .ok (.iload_n 3, 1) := by decide +kernel
theorem dX2_verdictOf_12 : decode cX2_verdictOf 12 = .ok (.iaload, 1) := by decide +kernel
theorem dX2_verdictOf_13 : decode cX2_verdictOf 13 = .ok (.ifCond .le 7, 3) := by decide +kernel
theorem dX2_verdictOf_16 : decode cX2_verdictOf 16 = .ok (.iconst 1, 1) := by decide +kernel
theorem dX2_verdictOf_17 : decode cX2_verdictOf 17 = .ok (.goto 4, 3) := by decide +kernel
theorem dX2_verdictOf_20 : decode cX2_verdictOf 20 = .ok (.iconst 0, 1) := by decide +kernel
theorem dX2_verdictOf_21 : decode cX2_verdictOf 21 = .ok (.aload_n 0, 1) := by decide +kernel
theorem dX2_verdictOf_22 : decode cX2_verdictOf 22 = .ok (.getfield 29, 3) := by decide +kernel
theorem dX2_verdictOf_25 : decode cX2_verdictOf 25 = .ok (.iload_n 3, 1) := by decide +kernel
theorem dX2_verdictOf_26 : decode cX2_verdictOf 26 = .ok (.iaload, 1) := by decide +kernel
theorem dX2_verdictOf_27 : decode cX2_verdictOf 27 = .ok (.ifCond .le 7, 3) := by decide +kernel
theorem dX2_verdictOf_30 : decode cX2_verdictOf 30 = .ok (.iconst 2, 1) := by decide +kernel
theorem dX2_verdictOf_31 : decode cX2_verdictOf 31 = .ok (.goto 4, 3) := by decide +kernel
theorem dX2_verdictOf_34 : decode cX2_verdictOf 34 = .ok (.iconst 0, 1) := by decide +kernel
theorem dX2_verdictOf_35 : decode cX2_verdictOf 35 = .ok (.iadd, 1) := by decide +kernel
theorem dX2_verdictOf_36 : decode cX2_verdictOf 36 = .ok (.ireturn, 1) := by decide +kernel
theorem dX2_all_0 : decode cX2_all 0 = .ok (.iconst 0, 1) := by decide +kernel
theorem dX2_all_1 : decode cX2_all 1 = .ok (.istore_n 3, 1) := by decide +kernel
theorem dX2_all_2 : decode cX2_all 2 = .ok (.iconst 0, 1) := by decide +kernel
theorem dX2_all_3 : decode cX2_all 3 = .ok (.istore 4, 2) := by decide +kernel
theorem dX2_all_5 : decode cX2_all 5 = .ok (.iload 4, 2) := by decide +kernel
theorem dX2_all_7 : decode cX2_all 7 = .ok (.bipush 40, 2) := by decide +kernel
theorem dX2_all_9 : decode cX2_all 9 = .ok (.if_icmp .ge 21, 3) := by decide +kernel
theorem dX2_all_12 : decode cX2_all 12 = .ok (.iload_n 3, 1) := by decide +kernel
theorem dX2_all_13 : decode cX2_all 13 = .ok (.aload_n 2, 1) := by decide +kernel
theorem dX2_all_14 : decode cX2_all 14 = .ok (.bipush 40, 2) := by decide +kernel
theorem dX2_all_16 : decode cX2_all 16 = .ok (.iload_n 1, 1) := by decide +kernel
theorem dX2_all_17 : decode cX2_all 17 = .ok (.imul, 1) := by decide +kernel
theorem dX2_all_18 : decode cX2_all 18 = .ok (.iload 4, 2) := by decide +kernel
theorem dX2_all_20 : decode cX2_all 20 = .ok (.iadd, 1) := by decide +kernel
theorem dX2_all_21 : decode cX2_all 21 = .ok (.iaload, 1) := by decide +kernel
theorem dX2_all_22 : decode cX2_all 22 = .ok (.iadd, 1) := by decide +kernel
theorem dX2_all_23 : decode cX2_all 23 = .ok (.istore_n 3, 1) := by decide +kernel
theorem dX2_all_24 : decode cX2_all 24 = .ok (.iinc 4 1, 3) := by decide +kernel
theorem dX2_all_27 : decode cX2_all 27 = .ok (.goto (-22), 3) := by decide +kernel
theorem dX2_all_30 : decode cX2_all 30 = .ok (.iload_n 3, 1) := by decide +kernel
theorem dX2_all_31 : decode cX2_all 31 = .ok (.ireturn, 1) := by decide +kernel
theorem dX2_allRuns_0 : decode cX2_allRuns 0 = .ok (.aload_n 0, 1) := by decide +kernel
theorem dX2_allRuns_1 : decode cX2_allRuns 1 = .ok (.iload_n 1, 1) := by decide +kernel
theorem dX2_allRuns_2 : decode cX2_allRuns 2 = .ok (.aload_n 0, 1) := by decide +kernel
theorem dX2_allRuns_3 : decode cX2_allRuns 3 = .ok (.getfield 26, 3) := by decide +kernel
theorem dX2_allRuns_6 : decode cX2_allRuns 6 = .ok (.invokevirtual 69, 3) := by decide +kernel
theorem dX2_allRuns_9 : decode cX2_allRuns 9 = .ok (.aload_n 0, 1) := by decide +kernel
theorem dX2_allRuns_10 : decode cX2_allRuns 10 = .ok (.iload_n 1, 1) := by decide +kernel
theorem dX2_allRuns_11 : decode cX2_allRuns 11 = .ok (.aload_n 0, 1) := by decide +kernel
theorem dX2_allRuns_12 : decode cX2_allRuns 12 = .ok (.getfield 29, 3) := by decide +kernel
theorem dX2_allRuns_15 : decode cX2_allRuns 15 = .ok (.invokevirtual 69, 3) := by decide +kernel
theorem dX2_allRuns_18 : decode cX2_allRuns 18 = .ok (.iadd, 1) := by decide +kernel
theorem dX2_allRuns_19 : decode cX2_allRuns 19 = .ok (.ireturn, 1) := by decide +kernel
theorem dX2_isUnsteady_0 : decode cX2_isUnsteady 0 = .ok (.iconst 0, 1) := by decide +kernel
theorem dX2_isUnsteady_1 : decode cX2_isUnsteady 1 = .ok (.istore_n 2, 1) := by decide +kernel
theorem dX2_isUnsteady_2 : decode cX2_isUnsteady 2 = .ok (.aload_n 0, 1) := by decide +kernel
theorem dX2_isUnsteady_3 : decode cX2_isUnsteady 3 = .ok (.getfield 52, 3) := by decide +kernel
theorem dX2_isUnsteady_6 : decode cX2_isUnsteady 6 = .ok (.aload_n 0, 1) := by decide +kernel
theorem dX2_isUnsteady_7 : decode cX2_isUnsteady 7 = .ok (.getfield 13, 3) := by decide +kernel
theorem dX2_isUnsteady_10 : decode cX2_isUnsteady 10 = .ok (.if_icmp .le 15, 3) := by decide +kernel
theorem dX2_isUnsteady_13 : decode cX2_isUnsteady 13 = .ok (.aload_n 0, 1) := by decide +kernel
theorem dX2_isUnsteady_14 : decode cX2_isUnsteady 14 = .ok (.getfield 52, 3) := by decide +kernel
theorem dX2_isUnsteady_17 : decode cX2_isUnsteady 17 = .ok (.aload_n 0, 1) := by decide +kernel
theorem dX2_isUnsteady_18 : decode cX2_isUnsteady 18 = .ok (.getfield 13, 3) := by decide +kernel
theorem dX2_isUnsteady_21 : decode cX2_isUnsteady 21 = .ok (.isub, 1) := by decide +kernel
theorem dX2_isUnsteady_22 : decode cX2_isUnsteady 22 = .ok (.goto 4, 3) := by decide +kernel
theorem dX2_isUnsteady_25 : decode cX2_isUnsteady 25 = .ok (.iconst 0, 1) := by decide +kernel
theorem dX2_isUnsteady_26 : decode cX2_isUnsteady 26 = .ok (.istore_n 3, 1) := by decide +kernel
theorem dX2_isUnsteady_27 : decode cX2_isUnsteady 27 = .ok (.iload_n 3, 1) := by decide +kernel
theorem dX2_isUnsteady_28 : decode cX2_isUnsteady 28 = .ok (.aload_n 0, 1) := by decide +kernel
theorem dX2_isUnsteady_29 : decode cX2_isUnsteady 29 = .ok (.getfield 52, 3) := by decide +kernel
theorem dX2_isUnsteady_32 : decode cX2_isUnsteady 32 = .ok (.if_icmp .ge 27, 3) := by decide +kernel
theorem dX2_isUnsteady_35 : decode cX2_isUnsteady 35 = .ok (.iload_n 2, 1) := by decide +kernel
theorem dX2_isUnsteady_36 : decode cX2_isUnsteady 36 = .ok (.aload_n 0, 1) := by decide +kernel
theorem dX2_isUnsteady_37 : decode cX2_isUnsteady 37 = .ok (.iload_n 1, 1) := by decide +kernel
theorem dX2_isUnsteady_38 : decode cX2_isUnsteady 38 = .ok (.iload_n 3, 1) := by decide +kernel
theorem dX2_isUnsteady_39 : decode cX2_isUnsteady 39 = .ok (.invokevirtual 73, 3) := by decide +kernel
theorem dX2_isUnsteady_42 : decode cX2_isUnsteady 42 = .ok (.iconst 3, 1) := by decide +kernel
theorem dX2_isUnsteady_43 : decode cX2_isUnsteady 43 = .ok (.if_icmp .ne 7, 3) := by decide +kernel
theorem dX2_isUnsteady_46 : decode cX2_isUnsteady 46 = .ok (.iconst 1, 1) := by decide +kernel
theorem dX2_isUnsteady_47 : decode cX2_isUnsteady 47 = .ok (.goto 4, 3) := by decide +kernel
theorem dX2_isUnsteady_50 : decode cX2_isUnsteady 50 = .ok (.iconst 0, 1) := by decide +kernel
theorem dX2_isUnsteady_51 : decode cX2_isUnsteady 51 = .ok (.iadd, 1) := by decide +kernel
theorem dX2_isUnsteady_52 : decode cX2_isUnsteady 52 = .ok (.istore_n 2, 1) := by decide +kernel
theorem dX2_isUnsteady_53 : decode cX2_isUnsteady 53 = .ok (.iinc 3 1, 3) := by decide +kernel
theorem dX2_isUnsteady_56 : decode cX2_isUnsteady 56 = .ok (.goto (-29), 3) := by decide +kernel
theorem dX2_isUnsteady_59 : decode cX2_isUnsteady 59 = .ok (.iload_n 2, 1) := by decide +kernel
theorem dX2_isUnsteady_60 : decode cX2_isUnsteady 60 = .ok (.aload_n 0, 1) := by decide +kernel
theorem dX2_isUnsteady_61 : decode cX2_isUnsteady 61 = .ok (.getfield 7, 3) := by decide +kernel
theorem dX2_isUnsteady_64 : decode cX2_isUnsteady 64 = .ok (.if_icmp .lt 7, 3) := by decide +kernel
theorem dX2_isUnsteady_67 : decode cX2_isUnsteady 67 = .ok (.iconst 1, 1) := by decide +kernel
theorem dX2_isUnsteady_68 : decode cX2_isUnsteady 68 = .ok (.goto 4, 3) := by decide +kernel
theorem dX2_isUnsteady_71 : decode cX2_isUnsteady 71 = .ok (.iconst 0, 1) := by decide +kernel
theorem dX2_isUnsteady_72 : decode cX2_isUnsteady 72 = .ok (.ireturn, 1) := by decide +kernel
theorem dX2_isSuspect_0 : decode cX2_isSuspect 0 = .ok (.iload_n 2, 1) := by decide +kernel
theorem dX2_isSuspect_1 : decode cX2_isSuspect 1 = .ok (.aload_n 0, 1) := by decide +kernel
theorem dX2_isSuspect_2 : decode cX2_isSuspect 2 = .ok (.getfield 32, 3) := by decide +kernel
theorem dX2_isSuspect_5 : decode cX2_isSuspect 5 = .ok (.iload_n 1, 1) := by decide +kernel
theorem dX2_isSuspect_6 : decode cX2_isSuspect 6 = .ok (.iaload, 1) := by decide +kernel
theorem dX2_isSuspect_7 : decode cX2_isSuspect 7 = .ok (.if_icmp .le 32, 3) := by decide +kernel
theorem dX2_isSuspect_10 : decode cX2_isSuspect 10 = .ok (.iload_n 2, 1) := by decide +kernel
theorem dX2_isSuspect_11 : decode cX2_isSuspect 11 = .ok (.aload_n 0, 1) := by decide +kernel
theorem dX2_isSuspect_12 : decode cX2_isSuspect 12 = .ok (.getfield 35, 3) := by decide +kernel
theorem dX2_isSuspect_15 : decode cX2_isSuspect 15 = .ok (.iload_n 1, 1) := by decide +kernel
theorem dX2_isSuspect_16 : decode cX2_isSuspect 16 = .ok (.iaload, 1) := by decide +kernel
theorem dX2_isSuspect_17 : decode cX2_isSuspect 17 = .ok (.if_icmp .gt 22, 3) := by decide +kernel
theorem dX2_isSuspect_20 : decode cX2_isSuspect 20 = .ok (.aload_n 0, 1) := by decide +kernel
theorem dX2_isSuspect_21 : decode cX2_isSuspect 21 = .ok (.getfield 20, 3) := by decide +kernel
theorem dX2_isSuspect_24 : decode cX2_isSuspect 24 = .ok (.iload_n 2, 1) := by decide +kernel
theorem dX2_isSuspect_25 : decode cX2_isSuspect 25 = .ok (.iaload, 1) := by decide +kernel
theorem dX2_isSuspect_26 : decode cX2_isSuspect 26 = .ok (.aload_n 0, 1) := by decide +kernel
theorem dX2_isSuspect_27 : decode cX2_isSuspect 27 = .ok (.iload_n 1, 1) := by decide +kernel
theorem dX2_isSuspect_28 : decode cX2_isSuspect 28 = .ok (.invokevirtual 77, 3) := by decide +kernel
theorem dX2_isSuspect_31 : decode cX2_isSuspect 31 = .ok (.iand, 1) := by decide +kernel
theorem dX2_isSuspect_32 : decode cX2_isSuspect 32 = .ok (.ifCond .eq 7, 3) := by decide +kernel
theorem dX2_isSuspect_35 : decode cX2_isSuspect 35 = .ok (.iconst 1, 1) := by decide +kernel
theorem dX2_isSuspect_36 : decode cX2_isSuspect 36 = .ok (.goto 4, 3) := by decide +kernel
theorem dX2_isSuspect_39 : decode cX2_isSuspect 39 = .ok (.iconst 0, 1) := by decide +kernel
theorem dX2_isSuspect_40 : decode cX2_isSuspect 40 = .ok (.ireturn, 1) := by decide +kernel
theorem dX2_against_0 : decode cX2_against 0 = .ok (.iconst 0, 1) := by decide +kernel
theorem dX2_against_1 : decode cX2_against 1 = .ok (.istore_n 3, 1) := by decide +kernel
theorem dX2_against_2 : decode cX2_against 2 = .ok (.aload_n 0, 1) := by decide +kernel
theorem dX2_against_3 : decode cX2_against 3 = .ok (.getfield 32, 3) := by decide +kernel
theorem dX2_against_6 : decode cX2_against 6 = .ok (.iload_n 1, 1) := by decide +kernel
theorem dX2_against_7 : decode cX2_against 7 = .ok (.iaload, 1) := by decide +kernel
theorem dX2_against_8 : decode cX2_against 8 = .ok (.istore 4, 2) := by decide +kernel
theorem dX2_against_10 : decode cX2_against 10 = .ok (.iload 4, 2) := by decide +kernel
theorem dX2_against_12 : decode cX2_against 12 = .ok (.aload_n 0, 1) := by decide +kernel
theorem dX2_against_13 : decode cX2_against 13 = .ok (.getfield 35, 3) := by decide +kernel
theorem dX2_against_16 : decode cX2_against 16 = .ok (.iload_n 1, 1) := by decide +kernel
theorem dX2_against_17 : decode cX2_against 17 = .ok (.iaload, 1) := by decide +kernel
theorem dX2_against_18 : decode cX2_against 18 = .ok (.if_icmp .gt 45, 3) := by decide +kernel
theorem dX2_against_21 : decode cX2_against 21 = .ok (.iload_n 3, 1) := by decide +kernel
theorem dX2_against_22 : decode cX2_against 22 = .ok (.iload 4, 2) := by decide +kernel
theorem dX2_against_24 : decode cX2_against 24 = .ok (.iload_n 2, 1) := by decide +kernel
theorem dX2_against_25 : decode cX2_against 25 = .ok (.if_icmp .ge 18, 3) := by decide +kernel
theorem dX2_against_28 : decode cX2_against 28 = .ok (.aload_n 0, 1) := by decide +kernel
theorem dX2_against_29 : decode cX2_against 29 = .ok (.getfield 29, 3) := by decide +kernel
theorem dX2_against_32 : decode cX2_against 32 = .ok (.bipush 40, 2) := by decide +kernel
theorem dX2_against_34 : decode cX2_against 34 = .ok (.iload_n 1, 1) := by decide +kernel
theorem dX2_against_35 : decode cX2_against 35 = .ok (.imul, 1) := by decide +kernel
theorem dX2_against_36 : decode cX2_against 36 = .ok (.iload 4, 2) := by decide +kernel
theorem dX2_against_38 : decode cX2_against 38 = .ok (.iadd, 1) := by decide +kernel
theorem dX2_against_39 : decode cX2_against 39 = .ok (.iaload, 1) := by decide +kernel
theorem dX2_against_40 : decode cX2_against 40 = .ok (.goto 15, 3) := by decide +kernel
theorem dX2_against_43 : decode cX2_against 43 = .ok (.aload_n 0, 1) := by decide +kernel
theorem dX2_against_44 : decode cX2_against 44 = .ok (.getfield 26, 3) := by decide +kernel
theorem dX2_against_47 : decode cX2_against 47 = .ok (.bipush 40, 2) := by decide +kernel
theorem dX2_against_49 : decode cX2_against 49 = .ok (.iload_n 1, 1) := by decide +kernel
theorem dX2_against_50 : decode cX2_against 50 = .ok (.imul, 1) := by decide +kernel
theorem dX2_against_51 : decode cX2_against 51 = .ok (.iload 4, 2) := by decide +kernel
theorem dX2_against_53 : decode cX2_against 53 = .ok (.iadd, 1) := by decide +kernel
theorem dX2_against_54 : decode cX2_against 54 = .ok (.iaload, 1) := by decide +kernel
theorem dX2_against_55 : decode cX2_against 55 = .ok (.iadd, 1) := by decide +kernel
theorem dX2_against_56 : decode cX2_against 56 = .ok (.istore_n 3, 1) := by decide +kernel
theorem dX2_against_57 : decode cX2_against 57 = .ok (.iinc 4 1, 3) := by decide +kernel
theorem dX2_against_60 : decode cX2_against 60 = .ok (.goto (-50), 3) := by decide +kernel
theorem dX2_against_63 : decode cX2_against 63 = .ok (.iload_n 3, 1) := by decide +kernel
theorem dX2_against_64 : decode cX2_against 64 = .ok (.ireturn, 1) := by decide +kernel
theorem dX2_isCandidate_0 : decode cX2_isCandidate 0 = .ok (.aload_n 0, 1) := by decide +kernel
theorem dX2_isCandidate_1 : decode cX2_isCandidate 1 = .ok (.iload_n 1, 1) := by decide +kernel
theorem dX2_isCandidate_2 : decode cX2_isCandidate 2 = .ok (.iload_n 2, 1) := by decide +kernel
theorem dX2_isCandidate_3 : decode cX2_isCandidate 3 = .ok (.invokevirtual 81, 3) := by decide +kernel
theorem dX2_isCandidate_6 : decode cX2_isCandidate 6 = .ok (.ifCond .eq 20, 3) := by decide +kernel
theorem dX2_isCandidate_9 : decode cX2_isCandidate 9 = .ok (.aload_n 0, 1) := by decide +kernel
theorem dX2_isCandidate_10 : decode cX2_isCandidate 10 = .ok (.iload_n 1, 1) := by decide +kernel
theorem dX2_isCandidate_11 : decode cX2_isCandidate 11 = .ok (.iload_n 2, 1) := by decide +kernel
theorem dX2_isCandidate_12 : decode cX2_isCandidate 12 = .ok (.invokevirtual 85, 3) := by decide +kernel
theorem dX2_isCandidate_15 : decode cX2_isCandidate 15 = .ok (.aload_n 0, 1) := by decide +kernel
theorem dX2_isCandidate_16 : decode cX2_isCandidate 16 = .ok (.getfield 66, 3) := by decide +kernel
theorem dX2_isCandidate_19 : decode cX2_isCandidate 19 = .ok (.if_icmp .gt 7, 3) := by decide +kernel
theorem dX2_isCandidate_22 : decode cX2_isCandidate 22 = .ok (.iconst 1, 1) := by decide +kernel
theorem dX2_isCandidate_23 : decode cX2_isCandidate 23 = .ok (.goto 4, 3) := by decide +kernel
theorem dX2_isCandidate_26 : decode cX2_isCandidate 26 = .ok (.iconst 0, 1) := by decide +kernel
theorem dX2_isCandidate_27 : decode cX2_isCandidate 27 = .ok (.ireturn, 1) := by decide +kernel
theorem dX2_counts_0 : decode cX2_counts 0 = .ok (.iconst 0, 1) := by decide +kernel
theorem dX2_counts_1 : decode cX2_counts 1 = .ok (.istore 4, 2) := by decide +kernel
theorem dX2_counts_3 : decode cX2_counts 3 = .ok (.iload_n 2, 1) := by decide +kernel
theorem dX2_counts_4 : decode cX2_counts 4 = .ok (.istore 5, 2) := by decide +kernel
theorem dX2_counts_6 : decode cX2_counts 6 = .ok (.iload 5, 2) := by decide +kernel
theorem dX2_counts_8 : decode cX2_counts 8 = .ok (.iload_n 3, 1) := by decide +kernel
theorem dX2_counts_9 : decode cX2_counts 9 = .ok (.if_icmp .gt 29, 3) := by decide +kernel
theorem dX2_counts_12 : decode cX2_counts 12 = .ok (.iload 4, 2) := by decide +kernel
theorem dX2_counts_14 : decode cX2_counts 14 = .ok (.aload_n 0, 1) := by decide +kernel
theorem dX2_counts_15 : decode cX2_counts 15 = .ok (.iload_n 1, 1) := by decide +kernel
theorem dX2_counts_16 : decode cX2_counts 16 = .ok (.iload 5, 2) := by decide +kernel
theorem dX2_counts_18 : decode cX2_counts 18 = .ok (.invokevirtual 88, 3) := by decide +kernel
theorem dX2_counts_21 : decode cX2_counts 21 = .ok (.ifCond .eq 7, 3) := by decide +kernel
theorem dX2_counts_24 : decode cX2_counts 24 = .ok (.iconst 1, 1) := by decide +kernel
theorem dX2_counts_25 : decode cX2_counts 25 = .ok (.goto 4, 3) := by decide +kernel
theorem dX2_counts_28 : decode cX2_counts 28 = .ok (.iconst 0, 1) := by decide +kernel
theorem dX2_counts_29 : decode cX2_counts 29 = .ok (.iadd, 1) := by decide +kernel
theorem dX2_counts_30 : decode cX2_counts 30 = .ok (.istore 4, 2) := by decide +kernel
theorem dX2_counts_32 : decode cX2_counts 32 = .ok (.iinc 5 1, 3) := by decide +kernel
theorem dX2_counts_35 : decode cX2_counts 35 = .ok (.goto (-29), 3) := by decide +kernel
theorem dX2_counts_38 : decode cX2_counts 38 = .ok (.iload 4, 2) := by decide +kernel
theorem dX2_counts_40 : decode cX2_counts 40 = .ok (.ireturn, 1) := by decide +kernel
theorem dX2_candidatesOf_0 : decode cX2_candidatesOf 0 = .ok (.aload_n 0, 1) := by decide +kernel
theorem dX2_candidatesOf_1 : decode cX2_candidatesOf 1 = .ok (.iload_n 1, 1) := by decide +kernel
theorem dX2_candidatesOf_2 : decode cX2_candidatesOf 2 = .ok (.aload_n 0, 1) := by decide +kernel
theorem dX2_candidatesOf_3 : decode cX2_candidatesOf 3 = .ok (.getfield 32, 3) := by decide +kernel
theorem dX2_candidatesOf_6 : decode cX2_candidatesOf 6 = .ok (.iload_n 1, 1) := by decide +kernel
theorem dX2_candidatesOf_7 : decode cX2_candidatesOf 7 = .ok (.iaload, 1) := by decide +kernel
theorem dX2_candidatesOf_8 : decode cX2_candidatesOf 8 = .ok (.iconst 1, 1) := by decide +kernel
theorem dX2_candidatesOf_9 : decode cX2_candidatesOf 9 = .ok (.iadd, 1) := by decide +kernel
theorem dX2_candidatesOf_10 : decode cX2_candidatesOf 10 = .ok (.aload_n 0, 1) := by decide +kernel
theorem dX2_candidatesOf_11 : decode cX2_candidatesOf 11 = .ok (.getfield 35, 3) := by decide +kernel
theorem dX2_candidatesOf_14 : decode cX2_candidatesOf 14 = .ok (.iload_n 1, 1) := by decide +kernel
theorem dX2_candidatesOf_15 : decode cX2_candidatesOf 15 = .ok (.iaload, 1) := by decide +kernel
theorem dX2_candidatesOf_16 : decode cX2_candidatesOf 16 = .ok (.invokevirtual 91, 3) := by decide +kernel
theorem dX2_candidatesOf_19 : decode cX2_candidatesOf 19 = .ok (.ireturn, 1) := by decide +kernel
theorem dX2_record_0 : decode cX2_record 0 = .ok (.aload_n 0, 1) := by decide +kernel
theorem dX2_record_1 : decode cX2_record 1 = .ok (.iload_n 1, 1) := by decide +kernel
theorem dX2_record_2 : decode cX2_record 2 = .ok (.invokevirtual 55, 3) := by decide +kernel
theorem dX2_record_5 : decode cX2_record 5 = .ok (.ifCond .eq 15, 3) := by decide +kernel
theorem dX2_record_8 : decode cX2_record 8 = .ok (.aload_n 0, 1) := by decide +kernel
theorem dX2_record_9 : decode cX2_record 9 = .ok (.iload_n 2, 1) := by decide +kernel
theorem dX2_record_10 : decode cX2_record 10 = .ok (.invokevirtual 95, 3) := by decide +kernel
theorem dX2_record_13 : decode cX2_record 13 = .ok (.ifCond .eq 7, 3) := by decide +kernel
theorem dX2_record_16 : decode cX2_record 16 = .ok (.iconst 1, 1) := by decide +kernel
theorem dX2_record_17 : decode cX2_record 17 = .ok (.goto 4, 3) := by decide +kernel
theorem dX2_record_20 : decode cX2_record 20 = .ok (.iconst 0, 1) := by decide +kernel
theorem dX2_record_21 : decode cX2_record 21 = .ok (.istore 4, 2) := by decide +kernel
theorem dX2_record_23 : decode cX2_record 23 = .ok (.aload_n 0, 1) := by decide +kernel
theorem dX2_record_24 : decode cX2_record 24 = .ok (.iload 4, 2) := by decide +kernel
theorem dX2_record_26 : decode cX2_record 26 = .ok (.iload 4, 2) := by decide +kernel
theorem dX2_record_28 : decode cX2_record 28 = .ok (.ifCond .eq 18, 3) := by decide +kernel
theorem dX2_record_31 : decode cX2_record 31 = .ok (.aload_n 0, 1) := by decide +kernel
theorem dX2_record_32 : decode cX2_record 32 = .ok (.iload_n 1, 1) := by decide +kernel
theorem dX2_record_33 : decode cX2_record 33 = .ok (.invokevirtual 98, 3) := by decide +kernel
theorem dX2_record_36 : decode cX2_record 36 = .ok (.sipush 200, 3) := by decide +kernel
theorem dX2_record_39 : decode cX2_record 39 = .ok (.if_icmp .ge 7, 3) := by decide +kernel
theorem dX2_record_42 : decode cX2_record 42 = .ok (.iconst 1, 1) := by decide +kernel
theorem dX2_record_43 : decode cX2_record 43 = .ok (.goto 4, 3) := by decide +kernel
theorem dX2_record_46 : decode cX2_record 46 = .ok (.iconst 0, 1) := by decide +kernel
theorem dX2_record_47 : decode cX2_record 47 = .ok (.invokevirtual 62, 3) := by decide +kernel
theorem dX2_record_50 : decode cX2_record 50 = .ok (.ifCond .ne 5, 3) := by decide +kernel
theorem dX2_record_53 : decode cX2_record 53 = .ok (.iconst 0, 1) := by decide +kernel
theorem dX2_record_54 : decode cX2_record 54 = .ok (.ireturn, 1) := by decide +kernel
theorem dX2_record_55 : decode cX2_record 55 = .ok (.aload_n 0, 1) := by decide +kernel
theorem dX2_record_56 : decode cX2_record 56 = .ok (.getfield 26, 3) := by decide +kernel
theorem dX2_record_59 : decode cX2_record 59 = .ok (.bipush 40, 2) := by decide +kernel
theorem dX2_record_61 : decode cX2_record 61 = .ok (.iload_n 1, 1) := by decide +kernel
theorem dX2_record_62 : decode cX2_record 62 = .ok (.imul, 1) := by decide +kernel
theorem dX2_record_63 : decode cX2_record 63 = .ok (.iload_n 2, 1) := by decide +kernel
theorem dX2_record_64 : decode cX2_record 64 = .ok (.iadd, 1) := by decide +kernel
theorem dX2_record_65 : decode cX2_record 65 = .ok (.dup2, 1) := by decide +kernel
theorem dX2_record_66 : decode cX2_record 66 = .ok (.iaload, 1) := by decide +kernel
theorem dX2_record_67 : decode cX2_record 67 = .ok (.iload_n 3, 1) := by decide +kernel
theorem dX2_record_68 : decode cX2_record 68 = .ok (.ifCond .eq 7, 3) := by decide +kernel
theorem dX2_record_71 : decode cX2_record 71 = .ok (.iconst 1, 1) := by decide +kernel
theorem dX2_record_72 : decode cX2_record 72 = .ok (.goto 4, 3) := by decide +kernel
theorem dX2_record_75 : decode cX2_record 75 = .ok (.iconst 0, 1) := by decide +kernel
theorem dX2_record_76 : decode cX2_record 76 = .ok (.iadd, 1) := by decide +kernel
theorem dX2_record_77 : decode cX2_record 77 = .ok (.iastore, 1) := by decide +kernel
theorem dX2_record_78 : decode cX2_record 78 = .ok (.aload_n 0, 1) := by decide +kernel
theorem dX2_record_79 : decode cX2_record 79 = .ok (.getfield 29, 3) := by decide +kernel
theorem dX2_record_82 : decode cX2_record 82 = .ok (.bipush 40, 2) := by decide +kernel
theorem dX2_record_84 : decode cX2_record 84 = .ok (.iload_n 1, 1) := by decide +kernel
theorem dX2_record_85 : decode cX2_record 85 = .ok (.imul, 1) := by decide +kernel
theorem dX2_record_86 : decode cX2_record 86 = .ok (.iload_n 2, 1) := by decide +kernel
theorem dX2_record_87 : decode cX2_record 87 = .ok (.iadd, 1) := by decide +kernel
theorem dX2_record_88 : decode cX2_record 88 = .ok (.dup2, 1) := by decide +kernel
theorem dX2_record_89 : decode cX2_record 89 = .ok (.iaload, 1) := by decide +kernel
theorem dX2_record_90 : decode cX2_record 90 = .ok (.iload_n 3, 1) := by decide +kernel
theorem dX2_record_91 : decode cX2_record 91 = .ok (.ifCond .eq 7, 3) := by decide +kernel
theorem dX2_record_94 : decode cX2_record 94 = .ok (.iconst 0, 1) := by decide +kernel
theorem dX2_record_95 : decode cX2_record 95 = .ok (.goto 4, 3) := by decide +kernel
theorem dX2_record_98 : decode cX2_record 98 = .ok (.iconst 1, 1) := by decide +kernel
theorem dX2_record_99 : decode cX2_record 99 = .ok (.iadd, 1) := by decide +kernel
theorem dX2_record_100 : decode cX2_record 100 = .ok (.iastore, 1) := by decide +kernel
theorem dX2_record_101 : decode cX2_record 101 = .ok (.aload_n 0, 1) := by decide +kernel
theorem dX2_record_102 : decode cX2_record 102 = .ok (.iload_n 1, 1) := by decide +kernel
theorem dX2_record_103 : decode cX2_record 103 = .ok (.iload_n 2, 1) := by decide +kernel
theorem dX2_record_104 : decode cX2_record 104 = .ok (.invokevirtual 73, 3) := by decide +kernel
theorem dX2_record_107 : decode cX2_record 107 = .ok (.ireturn, 1) := by decide +kernel
theorem dX2_triage_0 : decode cX2_triage 0 = .ok (.aload_n 0, 1) := by decide +kernel
theorem dX2_triage_1 : decode cX2_triage 1 = .ok (.aload_n 0, 1) := by decide +kernel
theorem dX2_triage_2 : decode cX2_triage 2 = .ok (.iload_n 1, 1) := by decide +kernel
theorem dX2_triage_3 : decode cX2_triage 3 = .ok (.invokevirtual 55, 3) := by decide +kernel
theorem dX2_triage_6 : decode cX2_triage 6 = .ok (.ifCond .eq 23, 3) := by decide +kernel
theorem dX2_triage_9 : decode cX2_triage 9 = .ok (.aload_n 0, 1) := by decide +kernel
theorem dX2_triage_10 : decode cX2_triage 10 = .ok (.iload_n 2, 1) := by decide +kernel
theorem dX2_triage_11 : decode cX2_triage 11 = .ok (.invokevirtual 95, 3) := by decide +kernel
theorem dX2_triage_14 : decode cX2_triage 14 = .ok (.ifCond .eq 15, 3) := by decide +kernel
theorem dX2_triage_17 : decode cX2_triage 17 = .ok (.aload_n 0, 1) := by decide +kernel
theorem dX2_triage_18 : decode cX2_triage 18 = .ok (.iload_n 3, 1) := by decide +kernel
theorem dX2_triage_19 : decode cX2_triage 19 = .ok (.invokevirtual 95, 3) := by decide +kernel
theorem dX2_triage_22 : decode cX2_triage 22 = .ok (.ifCond .eq 7, 3) := by decide +kernel
theorem dX2_triage_25 : decode cX2_triage 25 = .ok (.iconst 1, 1) := by decide +kernel
theorem dX2_triage_26 : decode cX2_triage 26 = .ok (.goto 4, 3) := by decide +kernel
theorem dX2_triage_29 : decode cX2_triage 29 = .ok (.iconst 0, 1) := by decide +kernel
theorem dX2_triage_30 : decode cX2_triage 30 = .ok (.iload_n 3, 1) := by decide +kernel
theorem dX2_triage_31 : decode cX2_triage 31 = .ok (.iload_n 2, 1) := by decide +kernel
theorem dX2_triage_32 : decode cX2_triage 32 = .ok (.if_icmp .le 7, 3) := by decide +kernel
theorem dX2_triage_35 : decode cX2_triage 35 = .ok (.iconst 1, 1) := by decide +kernel
theorem dX2_triage_36 : decode cX2_triage 36 = .ok (.goto 4, 3) := by decide +kernel
theorem dX2_triage_39 : decode cX2_triage 39 = .ok (.iconst 0, 1) := by decide +kernel
theorem dX2_triage_40 : decode cX2_triage 40 = .ok (.invokevirtual 62, 3) := by decide +kernel
theorem dX2_triage_43 : decode cX2_triage 43 = .ok (.ifCond .ne 5, 3) := by decide +kernel
theorem dX2_triage_46 : decode cX2_triage 46 = .ok (.iconst 0, 1) := by decide +kernel
theorem dX2_triage_47 : decode cX2_triage 47 = .ok (.ireturn, 1) := by decide +kernel
theorem dX2_triage_48 : decode cX2_triage 48 = .ok (.aload_n 0, 1) := by decide +kernel
theorem dX2_triage_49 : decode cX2_triage 49 = .ok (.getfield 32, 3) := by decide +kernel
theorem dX2_triage_52 : decode cX2_triage 52 = .ok (.iload_n 1, 1) := by decide +kernel
theorem dX2_triage_53 : decode cX2_triage 53 = .ok (.iload_n 2, 1) := by decide +kernel
theorem dX2_triage_54 : decode cX2_triage 54 = .ok (.iastore, 1) := by decide +kernel
theorem dX2_triage_55 : decode cX2_triage 55 = .ok (.aload_n 0, 1) := by decide +kernel
theorem dX2_triage_56 : decode cX2_triage 56 = .ok (.getfield 35, 3) := by decide +kernel
theorem dX2_triage_59 : decode cX2_triage 59 = .ok (.iload_n 1, 1) := by decide +kernel
theorem dX2_triage_60 : decode cX2_triage 60 = .ok (.iload_n 3, 1) := by decide +kernel
theorem dX2_triage_61 : decode cX2_triage 61 = .ok (.iastore, 1) := by decide +kernel
theorem dX2_triage_62 : decode cX2_triage 62 = .ok (.aload_n 0, 1) := by decide +kernel
theorem dX2_triage_63 : decode cX2_triage 63 = .ok (.iload_n 1, 1) := by decide +kernel
theorem dX2_triage_64 : decode cX2_triage 64 = .ok (.invokevirtual 101, 3) := by decide +kernel
theorem dX2_triage_67 : decode cX2_triage 67 = .ok (.ireturn, 1) := by decide +kernel
theorem dX2_placeOf_0 : decode cX2_placeOf 0 = .ok (.iconst (-1), 1) := by decide +kernel
theorem dX2_placeOf_1 : decode cX2_placeOf 1 = .ok (.istore_n 2, 1) := by decide +kernel
theorem dX2_placeOf_2 : decode cX2_placeOf 2 = .ok (.iconst 0, 1) := by decide +kernel
theorem dX2_placeOf_3 : decode cX2_placeOf 3 = .ok (.istore_n 3, 1) := by decide +kernel
theorem dX2_placeOf_4 : decode cX2_placeOf 4 = .ok (.iload_n 3, 1) := by decide +kernel
theorem dX2_placeOf_5 : decode cX2_placeOf 5 = .ok (.aload_n 0, 1) := by decide +kernel
theorem dX2_placeOf_6 : decode cX2_placeOf 6 = .ok (.getfield 104, 3) := by decide +kernel
theorem dX2_placeOf_9 : decode cX2_placeOf 9 = .ok (.if_icmp .ge 25, 3) := by decide +kernel
theorem dX2_placeOf_12 : decode cX2_placeOf 12 = .ok (.aload_n 0, 1) := by decide +kernel
theorem dX2_placeOf_13 : decode cX2_placeOf 13 = .ok (.getfield 38, 3) := by decide +kernel
theorem dX2_placeOf_16 : decode cX2_placeOf 16 = .ok (.iload_n 3, 1) := by decide +kernel
theorem dX2_placeOf_17 : decode cX2_placeOf 17 = .ok (.iaload, 1) := by decide +kernel
theorem dX2_placeOf_18 : decode cX2_placeOf 18 = .ok (.iload_n 1, 1) := by decide +kernel
theorem dX2_placeOf_19 : decode cX2_placeOf 19 = .ok (.if_icmp .ne 7, 3) := by decide +kernel
theorem dX2_placeOf_22 : decode cX2_placeOf 22 = .ok (.iload_n 3, 1) := by decide +kernel
theorem dX2_placeOf_23 : decode cX2_placeOf 23 = .ok (.goto 4, 3) := by decide +kernel
theorem dX2_placeOf_26 : decode cX2_placeOf 26 = .ok (.iload_n 2, 1) := by decide +kernel
theorem dX2_placeOf_27 : decode cX2_placeOf 27 = .ok (.istore_n 2, 1) := by decide +kernel
theorem dX2_placeOf_28 : decode cX2_placeOf 28 = .ok (.iinc 3 1, 3) := by decide +kernel
theorem dX2_placeOf_31 : decode cX2_placeOf 31 = .ok (.goto (-27), 3) := by decide +kernel
theorem dX2_placeOf_34 : decode cX2_placeOf 34 = .ok (.iload_n 2, 1) := by decide +kernel
theorem dX2_placeOf_35 : decode cX2_placeOf 35 = .ok (.ireturn, 1) := by decide +kernel
theorem dX2_leaves_0 : decode cX2_leaves 0 = .ok (.aload_n 0, 1) := by decide +kernel
theorem dX2_leaves_1 : decode cX2_leaves 1 = .ok (.dup, 1) := by decide +kernel
theorem dX2_leaves_2 : decode cX2_leaves 2 = .ok (.getfield 104, 3) := by decide +kernel
theorem dX2_leaves_5 : decode cX2_leaves 5 = .ok (.iconst 1, 1) := by decide +kernel
theorem dX2_leaves_6 : decode cX2_leaves 6 = .ok (.isub, 1) := by decide +kernel
theorem dX2_leaves_7 : decode cX2_leaves 7 = .ok (.putfield 104, 3) := by decide +kernel
theorem dX2_leaves_10 : decode cX2_leaves 10 = .ok (.iload_n 1, 1) := by decide +kernel
theorem dX2_leaves_11 : decode cX2_leaves 11 = .ok (.istore_n 2, 1) := by decide +kernel
theorem dX2_leaves_12 : decode cX2_leaves 12 = .ok (.iload_n 2, 1) := by decide +kernel
theorem dX2_leaves_13 : decode cX2_leaves 13 = .ok (.aload_n 0, 1) := by decide +kernel
theorem dX2_leaves_14 : decode cX2_leaves 14 = .ok (.getfield 104, 3) := by decide +kernel
theorem dX2_leaves_17 : decode cX2_leaves 17 = .ok (.if_icmp .ge 23, 3) := by decide +kernel
theorem dX2_leaves_20 : decode cX2_leaves 20 = .ok (.aload_n 0, 1) := by decide +kernel
theorem dX2_leaves_21 : decode cX2_leaves 21 = .ok (.getfield 38, 3) := by decide +kernel
theorem dX2_leaves_24 : decode cX2_leaves 24 = .ok (.iload_n 2, 1) := by decide +kernel
theorem dX2_leaves_25 : decode cX2_leaves 25 = .ok (.aload_n 0, 1) := by decide +kernel
theorem dX2_leaves_26 : decode cX2_leaves 26 = .ok (.getfield 38, 3) := by decide +kernel
theorem dX2_leaves_29 : decode cX2_leaves 29 = .ok (.iload_n 2, 1) := by decide +kernel
theorem dX2_leaves_30 : decode cX2_leaves 30 = .ok (.iconst 1, 1) := by decide +kernel
theorem dX2_leaves_31 : decode cX2_leaves 31 = .ok (.iadd, 1) := by decide +kernel
theorem dX2_leaves_32 : decode cX2_leaves 32 = .ok (.iaload, 1) := by decide +kernel
theorem dX2_leaves_33 : decode cX2_leaves 33 = .ok (.iastore, 1) := by decide +kernel
theorem dX2_leaves_34 : decode cX2_leaves 34 = .ok (.iinc 2 1, 3) := by decide +kernel
theorem dX2_leaves_37 : decode cX2_leaves 37 = .ok (.goto (-25), 3) := by decide +kernel
theorem dX2_leaves_40 : decode cX2_leaves 40 = .ok (.return_, 1) := by decide +kernel
theorem dX2_joins_0 : decode cX2_joins 0 = .ok (.aload_n 0, 1) := by decide +kernel
theorem dX2_joins_1 : decode cX2_joins 1 = .ok (.getfield 38, 3) := by decide +kernel
theorem dX2_joins_4 : decode cX2_joins 4 = .ok (.aload_n 0, 1) := by decide +kernel
theorem dX2_joins_5 : decode cX2_joins 5 = .ok (.getfield 104, 3) := by decide +kernel
theorem dX2_joins_8 : decode cX2_joins 8 = .ok (.iload_n 1, 1) := by decide +kernel
theorem dX2_joins_9 : decode cX2_joins 9 = .ok (.iastore, 1) := by decide +kernel
theorem dX2_joins_10 : decode cX2_joins 10 = .ok (.aload_n 0, 1) := by decide +kernel
theorem dX2_joins_11 : decode cX2_joins 11 = .ok (.dup, 1) := by decide +kernel
theorem dX2_joins_12 : decode cX2_joins 12 = .ok (.getfield 104, 3) := by decide +kernel
theorem dX2_joins_15 : decode cX2_joins 15 = .ok (.iconst 1, 1) := by decide +kernel
theorem dX2_joins_16 : decode cX2_joins 16 = .ok (.iadd, 1) := by decide +kernel
theorem dX2_joins_17 : decode cX2_joins 17 = .ok (.putfield 104, 3) := by decide +kernel
theorem dX2_joins_20 : decode cX2_joins 20 = .ok (.return_, 1) := by decide +kernel
theorem dX2_only_0 : decode cX2_only 0 = .ok (.iconst (-1), 1) := by decide +kernel
theorem dX2_only_1 : decode cX2_only 1 = .ok (.istore_n 2, 1) := by decide +kernel
theorem dX2_only_2 : decode cX2_only 2 = .ok (.aload_n 0, 1) := by decide +kernel
theorem dX2_only_3 : decode cX2_only 3 = .ok (.getfield 32, 3) := by decide +kernel
theorem dX2_only_6 : decode cX2_only 6 = .ok (.iload_n 1, 1) := by decide +kernel
theorem dX2_only_7 : decode cX2_only 7 = .ok (.iaload, 1) := by decide +kernel
theorem dX2_only_8 : decode cX2_only 8 = .ok (.iconst 1, 1) := by decide +kernel
theorem dX2_only_9 : decode cX2_only 9 = .ok (.iadd, 1) := by decide +kernel
theorem dX2_only_10 : decode cX2_only 10 = .ok (.istore_n 3, 1) := by decide +kernel
theorem dX2_only_11 : decode cX2_only 11 = .ok (.iload_n 3, 1) := by decide +kernel
theorem dX2_only_12 : decode cX2_only 12 = .ok (.aload_n 0, 1) := by decide +kernel
theorem dX2_only_13 : decode cX2_only 13 = .ok (.getfield 35, 3) := by decide +kernel
theorem dX2_only_16 : decode cX2_only 16 = .ok (.iload_n 1, 1) := by decide +kernel
theorem dX2_only_17 : decode cX2_only 17 = .ok (.iaload, 1) := by decide +kernel
theorem dX2_only_18 : decode cX2_only 18 = .ok (.if_icmp .gt 24, 3) := by decide +kernel
theorem dX2_only_21 : decode cX2_only 21 = .ok (.aload_n 0, 1) := by decide +kernel
theorem dX2_only_22 : decode cX2_only 22 = .ok (.iload_n 1, 1) := by decide +kernel
theorem dX2_only_23 : decode cX2_only 23 = .ok (.iload_n 3, 1) := by decide +kernel
theorem dX2_only_24 : decode cX2_only 24 = .ok (.invokevirtual 88, 3) := by decide +kernel
theorem dX2_only_27 : decode cX2_only 27 = .ok (.ifCond .eq 7, 3) := by decide +kernel
theorem dX2_only_30 : decode cX2_only 30 = .ok (.iload_n 3, 1) := by decide +kernel
theorem dX2_only_31 : decode cX2_only 31 = .ok (.goto 4, 3) := by decide +kernel
theorem dX2_only_34 : decode cX2_only 34 = .ok (.iload_n 2, 1) := by decide +kernel
theorem dX2_only_35 : decode cX2_only 35 = .ok (.istore_n 2, 1) := by decide +kernel
theorem dX2_only_36 : decode cX2_only 36 = .ok (.iinc 3 1, 3) := by decide +kernel
theorem dX2_only_39 : decode cX2_only 39 = .ok (.goto (-28), 3) := by decide +kernel
theorem dX2_only_42 : decode cX2_only 42 = .ok (.aload_n 0, 1) := by decide +kernel
theorem dX2_only_43 : decode cX2_only 43 = .ok (.iload_n 1, 1) := by decide +kernel
theorem dX2_only_44 : decode cX2_only 44 = .ok (.invokevirtual 101, 3) := by decide +kernel
theorem dX2_only_47 : decode cX2_only 47 = .ok (.iconst 1, 1) := by decide +kernel
theorem dX2_only_48 : decode cX2_only 48 = .ok (.if_icmp .ne 7, 3) := by decide +kernel
theorem dX2_only_51 : decode cX2_only 51 = .ok (.iload_n 2, 1) := by decide +kernel
theorem dX2_only_52 : decode cX2_only 52 = .ok (.goto 4, 3) := by decide +kernel
theorem dX2_only_55 : decode cX2_only 55 = .ok (.iconst (-1), 1) := by decide +kernel
theorem dX2_only_56 : decode cX2_only 56 = .ok (.ireturn, 1) := by decide +kernel
theorem dX2_close_0 : decode cX2_close 0 = .ok (.aload_n 0, 1) := by decide +kernel
theorem dX2_close_1 : decode cX2_close 1 = .ok (.aload_n 0, 1) := by decide +kernel
theorem dX2_close_2 : decode cX2_close 2 = .ok (.iload_n 1, 1) := by decide +kernel
theorem dX2_close_3 : decode cX2_close 3 = .ok (.invokevirtual 55, 3) := by decide +kernel
theorem dX2_close_6 : decode cX2_close 6 = .ok (.aload_n 0, 1) := by decide +kernel
theorem dX2_close_7 : decode cX2_close 7 = .ok (.iload_n 1, 1) := by decide +kernel
theorem dX2_close_8 : decode cX2_close 8 = .ok (.invokevirtual 107, 3) := by decide +kernel
theorem dX2_close_11 : decode cX2_close 11 = .ok (.invokevirtual 62, 3) := by decide +kernel
theorem dX2_close_14 : decode cX2_close 14 = .ok (.ifCond .ne 5, 3) := by decide +kernel
theorem dX2_close_17 : decode cX2_close 17 = .ok (.iconst 0, 1) := by decide +kernel
theorem dX2_close_18 : decode cX2_close 18 = .ok (.ireturn, 1) := by decide +kernel
theorem dX2_close_19 : decode cX2_close 19 = .ok (.aload_n 0, 1) := by decide +kernel
theorem dX2_close_20 : decode cX2_close 20 = .ok (.iload_n 1, 1) := by decide +kernel
theorem dX2_close_21 : decode cX2_close 21 = .ok (.invokevirtual 110, 3) := by decide +kernel
theorem dX2_close_24 : decode cX2_close 24 = .ok (.istore_n 2, 1) := by decide +kernel
theorem dX2_close_25 : decode cX2_close 25 = .ok (.aload_n 0, 1) := by decide +kernel
theorem dX2_close_26 : decode cX2_close 26 = .ok (.iload_n 1, 1) := by decide +kernel
theorem dX2_close_27 : decode cX2_close 27 = .ok (.invokevirtual 113, 3) := by decide +kernel
theorem dX2_close_30 : decode cX2_close 30 = .ok (.iconst (-1), 1) := by decide +kernel
theorem dX2_close_31 : decode cX2_close 31 = .ok (.if_icmp .eq 12, 3) := by decide +kernel
theorem dX2_close_34 : decode cX2_close 34 = .ok (.aload_n 0, 1) := by decide +kernel
theorem dX2_close_35 : decode cX2_close 35 = .ok (.aload_n 0, 1) := by decide +kernel
theorem dX2_close_36 : decode cX2_close 36 = .ok (.iload_n 1, 1) := by decide +kernel
theorem dX2_close_37 : decode cX2_close 37 = .ok (.invokevirtual 113, 3) := by decide +kernel
theorem dX2_close_40 : decode cX2_close 40 = .ok (.invokevirtual 116, 3) := by decide +kernel
theorem dX2_close_43 : decode cX2_close 43 = .ok (.aload_n 0, 1) := by decide +kernel
theorem dX2_close_44 : decode cX2_close 44 = .ok (.getfield 32, 3) := by decide +kernel
theorem dX2_close_47 : decode cX2_close 47 = .ok (.iload_n 1, 1) := by decide +kernel
theorem dX2_close_48 : decode cX2_close 48 = .ok (.iconst (-1), 1) := by decide +kernel
theorem dX2_close_49 : decode cX2_close 49 = .ok (.iastore, 1) := by decide +kernel
theorem dX2_close_50 : decode cX2_close 50 = .ok (.iload_n 2, 1) := by decide +kernel
theorem dX2_close_51 : decode cX2_close 51 = .ok (.ireturn, 1) := by decide +kernel
theorem dX2_enqueue_0 : decode cX2_enqueue 0 = .ok (.aload_n 0, 1) := by decide +kernel
theorem dX2_enqueue_1 : decode cX2_enqueue 1 = .ok (.aload_n 0, 1) := by decide +kernel
theorem dX2_enqueue_2 : decode cX2_enqueue 2 = .ok (.iload_n 1, 1) := by decide +kernel
theorem dX2_enqueue_3 : decode cX2_enqueue 3 = .ok (.invokevirtual 55, 3) := by decide +kernel
theorem dX2_enqueue_6 : decode cX2_enqueue 6 = .ok (.aload_n 0, 1) := by decide +kernel
theorem dX2_enqueue_7 : decode cX2_enqueue 7 = .ok (.iload_n 1, 1) := by decide +kernel
theorem dX2_enqueue_8 : decode cX2_enqueue 8 = .ok (.invokevirtual 107, 3) := by decide +kernel
theorem dX2_enqueue_11 : decode cX2_enqueue 11 = .ok (.ifCond .eq 16, 3) := by decide +kernel
theorem dX2_enqueue_14 : decode cX2_enqueue 14 = .ok (.aload_n 0, 1) := by decide +kernel
theorem dX2_enqueue_15 : decode cX2_enqueue 15 = .ok (.iload_n 1, 1) := by decide +kernel
theorem dX2_enqueue_16 : decode cX2_enqueue 16 = .ok (.invokevirtual 113, 3) := by decide +kernel
theorem dX2_enqueue_19 : decode cX2_enqueue 19 = .ok (.iconst (-1), 1) := by decide +kernel
theorem dX2_enqueue_20 : decode cX2_enqueue 20 = .ok (.if_icmp .ne 7, 3) := by decide +kernel
theorem dX2_enqueue_23 : decode cX2_enqueue 23 = .ok (.iconst 1, 1) := by decide +kernel
theorem dX2_enqueue_24 : decode cX2_enqueue 24 = .ok (.goto 4, 3) := by decide +kernel
theorem dX2_enqueue_27 : decode cX2_enqueue 27 = .ok (.iconst 0, 1) := by decide +kernel
theorem dX2_enqueue_28 : decode cX2_enqueue 28 = .ok (.invokevirtual 62, 3) := by decide +kernel
theorem dX2_enqueue_31 : decode cX2_enqueue 31 = .ok (.ifCond .ne 5, 3) := by decide +kernel
theorem dX2_enqueue_34 : decode cX2_enqueue 34 = .ok (.iconst 0, 1) := by decide +kernel
theorem dX2_enqueue_35 : decode cX2_enqueue 35 = .ok (.ireturn, 1) := by decide +kernel
theorem dX2_enqueue_36 : decode cX2_enqueue 36 = .ok (.aload_n 0, 1) := by decide +kernel
theorem dX2_enqueue_37 : decode cX2_enqueue 37 = .ok (.iload_n 1, 1) := by decide +kernel
theorem dX2_enqueue_38 : decode cX2_enqueue 38 = .ok (.invokevirtual 120, 3) := by decide +kernel
theorem dX2_enqueue_41 : decode cX2_enqueue 41 = .ok (.aload_n 0, 1) := by decide +kernel
theorem dX2_enqueue_42 : decode cX2_enqueue 42 = .ok (.getfield 104, 3) := by decide +kernel
theorem dX2_enqueue_45 : decode cX2_enqueue 45 = .ok (.ireturn, 1) := by decide +kernel
theorem dX2_newDay_0 : decode cX2_newDay 0 = .ok (.aload_n 0, 1) := by decide +kernel
theorem dX2_newDay_1 : decode cX2_newDay 1 = .ok (.iload_n 1, 1) := by decide +kernel
theorem dX2_newDay_2 : decode cX2_newDay 2 = .ok (.iconst 0, 1) := by decide +kernel
theorem dX2_newDay_3 : decode cX2_newDay 3 = .ok (.bipush 100, 2) := by decide +kernel
theorem dX2_newDay_5 : decode cX2_newDay 5 = .ok (.invokestatic 45, 3) := by decide +kernel
theorem dX2_newDay_8 : decode cX2_newDay 8 = .ok (.iconst 1, 1) := by decide +kernel
theorem dX2_newDay_9 : decode cX2_newDay 9 = .ok (.invokevirtual 62, 3) := by decide +kernel
theorem dX2_newDay_12 : decode cX2_newDay 12 = .ok (.ifCond .ne 5, 3) := by decide +kernel
theorem dX2_newDay_15 : decode cX2_newDay 15 = .ok (.iconst 0, 1) := by decide +kernel
theorem dX2_newDay_16 : decode cX2_newDay 16 = .ok (.ireturn, 1) := by decide +kernel
theorem dX2_newDay_17 : decode cX2_newDay 17 = .ok (.aload_n 0, 1) := by decide +kernel
theorem dX2_newDay_18 : decode cX2_newDay 18 = .ok (.getfield 123, 3) := by decide +kernel
theorem dX2_newDay_21 : decode cX2_newDay 21 = .ok (.istore_n 2, 1) := by decide +kernel
theorem dX2_newDay_22 : decode cX2_newDay 22 = .ok (.aload_n 0, 1) := by decide +kernel
theorem dX2_newDay_23 : decode cX2_newDay 23 = .ok (.iload_n 1, 1) := by decide +kernel
theorem dX2_newDay_24 : decode cX2_newDay 24 = .ok (.putfield 123, 3) := by decide +kernel
theorem dX2_newDay_27 : decode cX2_newDay 27 = .ok (.iload_n 2, 1) := by decide +kernel
theorem dX2_newDay_28 : decode cX2_newDay 28 = .ok (.ireturn, 1) := by decide +kernel
theorem dX2_take_0 : decode cX2_take 0 = .ok (.aload_n 0, 1) := by decide +kernel
theorem dX2_take_1 : decode cX2_take 1 = .ok (.aload_n 0, 1) := by decide +kernel
theorem dX2_take_2 : decode cX2_take 2 = .ok (.getfield 104, 3) := by decide +kernel
theorem dX2_take_5 : decode cX2_take 5 = .ok (.ifCond .le 14, 3) := by decide +kernel
theorem dX2_take_8 : decode cX2_take 8 = .ok (.aload_n 0, 1) := by decide +kernel
theorem dX2_take_9 : decode cX2_take 9 = .ok (.getfield 123, 3) := by decide +kernel
theorem dX2_take_12 : decode cX2_take 12 = .ok (.ifCond .le 7, 3) := by decide +kernel
theorem dX2_take_15 : decode cX2_take 15 = .ok (.iconst 1, 1) := by decide +kernel
theorem dX2_take_16 : decode cX2_take 16 = .ok (.goto 4, 3) := by decide +kernel
theorem dX2_take_19 : decode cX2_take 19 = .ok (.iconst 0, 1) := by decide +kernel
theorem dX2_take_20 : decode cX2_take 20 = .ok (.iconst 1, 1) := by decide +kernel
theorem dX2_take_21 : decode cX2_take 21 = .ok (.invokevirtual 62, 3) := by decide +kernel
theorem dX2_take_24 : decode cX2_take 24 = .ok (.ifCond .ne 5, 3) := by decide +kernel
theorem dX2_take_27 : decode cX2_take 27 = .ok (.iconst 0, 1) := by decide +kernel
theorem dX2_take_28 : decode cX2_take 28 = .ok (.ireturn, 1) := by decide +kernel
theorem dX2_take_29 : decode cX2_take 29 = .ok (.aload_n 0, 1) := by decide +kernel
theorem dX2_take_30 : decode cX2_take 30 = .ok (.getfield 38, 3) := by decide +kernel
theorem dX2_take_33 : decode cX2_take 33 = .ok (.iconst 0, 1) := by decide +kernel
theorem dX2_take_34 : decode cX2_take 34 = .ok (.iaload, 1) := by decide +kernel
theorem dX2_take_35 : decode cX2_take 35 = .ok (.istore_n 1, 1) := by decide +kernel
theorem dX2_take_36 : decode cX2_take 36 = .ok (.aload_n 0, 1) := by decide +kernel
theorem dX2_take_37 : decode cX2_take 37 = .ok (.dup, 1) := by decide +kernel
theorem dX2_take_38 : decode cX2_take 38 = .ok (.getfield 123, 3) := by decide +kernel
theorem dX2_take_41 : decode cX2_take 41 = .ok (.iconst 1, 1) := by decide +kernel
theorem dX2_take_42 : decode cX2_take 42 = .ok (.isub, 1) := by decide +kernel
theorem dX2_take_43 : decode cX2_take 43 = .ok (.putfield 123, 3) := by decide +kernel
theorem dX2_take_46 : decode cX2_take 46 = .ok (.aload_n 0, 1) := by decide +kernel
theorem dX2_take_47 : decode cX2_take 47 = .ok (.iconst 0, 1) := by decide +kernel
theorem dX2_take_48 : decode cX2_take 48 = .ok (.invokevirtual 116, 3) := by decide +kernel
theorem dX2_take_51 : decode cX2_take 51 = .ok (.aload_n 0, 1) := by decide +kernel
theorem dX2_take_52 : decode cX2_take 52 = .ok (.iload_n 1, 1) := by decide +kernel
theorem dX2_take_53 : decode cX2_take 53 = .ok (.invokevirtual 101, 3) := by decide +kernel
theorem dX2_take_56 : decode cX2_take 56 = .ok (.iconst 1, 1) := by decide +kernel
theorem dX2_take_57 : decode cX2_take 57 = .ok (.if_icmp .le 8, 3) := by decide +kernel
theorem dX2_take_60 : decode cX2_take 60 = .ok (.aload_n 0, 1) := by decide +kernel
theorem dX2_take_61 : decode cX2_take 61 = .ok (.iload_n 1, 1) := by decide +kernel
theorem dX2_take_62 : decode cX2_take 62 = .ok (.invokevirtual 120, 3) := by decide +kernel
theorem dX2_take_65 : decode cX2_take 65 = .ok (.iload_n 1, 1) := by decide +kernel
theorem dX2_take_66 : decode cX2_take 66 = .ok (.ireturn, 1) := by decide +kernel
theorem dX2_commits_0 : decode cX2_commits 0 = .ok (.aload_n 0, 1) := by decide +kernel
theorem dX2_commits_1 : decode cX2_commits 1 = .ok (.aload_n 0, 1) := by decide +kernel
theorem dX2_commits_2 : decode cX2_commits 2 = .ok (.getfield 52, 3) := by decide +kernel
theorem dX2_commits_5 : decode cX2_commits 5 = .ok (.invokevirtual 126, 3) := by decide +kernel
theorem dX2_commits_8 : decode cX2_commits 8 = .ok (.ireturn, 1) := by decide +kernel
theorem dX2_tests_0 : decode cX2_tests 0 = .ok (.aload_n 0, 1) := by decide +kernel
theorem dX2_tests_1 : decode cX2_tests 1 = .ok (.aload_n 0, 1) := by decide +kernel
theorem dX2_tests_2 : decode cX2_tests 2 = .ok (.getfield 49, 3) := by decide +kernel
theorem dX2_tests_5 : decode cX2_tests 5 = .ok (.invokevirtual 126, 3) := by decide +kernel
theorem dX2_tests_8 : decode cX2_tests 8 = .ok (.ireturn, 1) := by decide +kernel
theorem dX2_budget_0 : decode cX2_budget 0 = .ok (.aload_n 0, 1) := by decide +kernel
theorem dX2_budget_1 : decode cX2_budget 1 = .ok (.aload_n 0, 1) := by decide +kernel
theorem dX2_budget_2 : decode cX2_budget 2 = .ok (.getfield 123, 3) := by decide +kernel
theorem dX2_budget_5 : decode cX2_budget 5 = .ok (.invokevirtual 126, 3) := by decide +kernel
theorem dX2_budget_8 : decode cX2_budget 8 = .ok (.ireturn, 1) := by decide +kernel
theorem dX2_queued_0 : decode cX2_queued 0 = .ok (.aload_n 0, 1) := by decide +kernel
theorem dX2_queued_1 : decode cX2_queued 1 = .ok (.aload_n 0, 1) := by decide +kernel
theorem dX2_queued_2 : decode cX2_queued 2 = .ok (.getfield 104, 3) := by decide +kernel
theorem dX2_queued_5 : decode cX2_queued 5 = .ok (.invokevirtual 126, 3) := by decide +kernel
theorem dX2_queued_8 : decode cX2_queued 8 = .ok (.ireturn, 1) := by decide +kernel
theorem dX2_partsOf_0 : decode cX2_partsOf 0 = .ok (.aload_n 0, 1) := by decide +kernel
theorem dX2_partsOf_1 : decode cX2_partsOf 1 = .ok (.aload_n 0, 1) := by decide +kernel
theorem dX2_partsOf_2 : decode cX2_partsOf 2 = .ok (.iload_n 1, 1) := by decide +kernel
theorem dX2_partsOf_3 : decode cX2_partsOf 3 = .ok (.invokevirtual 55, 3) := by decide +kernel
theorem dX2_partsOf_6 : decode cX2_partsOf 6 = .ok (.iconst 1, 1) := by decide +kernel
theorem dX2_partsOf_7 : decode cX2_partsOf 7 = .ok (.invokevirtual 62, 3) := by decide +kernel
theorem dX2_partsOf_10 : decode cX2_partsOf 10 = .ok (.ifCond .eq 11, 3) := by decide +kernel
theorem dX2_partsOf_13 : decode cX2_partsOf 13 = .ok (.aload_n 0, 1) := by decide +kernel
theorem dX2_partsOf_14 : decode cX2_partsOf 14 = .ok (.iload_n 1, 1) := by decide +kernel
theorem dX2_partsOf_15 : decode cX2_partsOf 15 = .ok (.invokevirtual 77, 3) := by decide +kernel
theorem dX2_partsOf_18 : decode cX2_partsOf 18 = .ok (.goto 4, 3) := by decide +kernel
theorem dX2_partsOf_21 : decode cX2_partsOf 21 = .ok (.iconst 0, 1) := by decide +kernel
theorem dX2_partsOf_22 : decode cX2_partsOf 22 = .ok (.ireturn, 1) := by decide +kernel
theorem dX2_touches_0 : decode cX2_touches 0 = .ok (.iconst 0, 1) := by decide +kernel
theorem dX2_touches_1 : decode cX2_touches 1 = .ok (.istore_n 2, 1) := by decide +kernel
theorem dX2_touches_2 : decode cX2_touches 2 = .ok (.aload_n 0, 1) := by decide +kernel
theorem dX2_touches_3 : decode cX2_touches 3 = .ok (.aload_n 0, 1) := by decide +kernel
theorem dX2_touches_4 : decode cX2_touches 4 = .ok (.iload_n 1, 1) := by decide +kernel
theorem dX2_touches_5 : decode cX2_touches 5 = .ok (.invokevirtual 95, 3) := by decide +kernel
theorem dX2_touches_8 : decode cX2_touches 8 = .ok (.iconst 1, 1) := by decide +kernel
theorem dX2_touches_9 : decode cX2_touches 9 = .ok (.invokevirtual 62, 3) := by decide +kernel
theorem dX2_touches_12 : decode cX2_touches 12 = .ok (.istore_n 3, 1) := by decide +kernel
theorem dX2_touches_13 : decode cX2_touches 13 = .ok (.iconst 0, 1) := by decide +kernel
theorem dX2_touches_14 : decode cX2_touches 14 = .ok (.istore 4, 2) := by decide +kernel
theorem dX2_touches_16 : decode cX2_touches 16 = .ok (.iload 4, 2) := by decide +kernel
theorem dX2_touches_18 : decode cX2_touches 18 = .ok (.aload_n 0, 1) := by decide +kernel
theorem dX2_touches_19 : decode cX2_touches 19 = .ok (.getfield 49, 3) := by decide +kernel
theorem dX2_touches_22 : decode cX2_touches 22 = .ok (.if_icmp .ge 40, 3) := by decide +kernel
theorem dX2_touches_25 : decode cX2_touches 25 = .ok (.iload_n 3, 1) := by decide +kernel
theorem dX2_touches_26 : decode cX2_touches 26 = .ok (.ifCond .eq 36, 3) := by decide +kernel
theorem dX2_touches_29 : decode cX2_touches 29 = .ok (.iload_n 2, 1) := by decide +kernel
theorem dX2_touches_30 : decode cX2_touches 30 = .ok (.aload_n 0, 1) := by decide +kernel
theorem dX2_touches_31 : decode cX2_touches 31 = .ok (.getfield 20, 3) := by decide +kernel
theorem dX2_touches_34 : decode cX2_touches 34 = .ok (.iload_n 1, 1) := by decide +kernel
theorem dX2_touches_35 : decode cX2_touches 35 = .ok (.iaload, 1) := by decide +kernel
theorem dX2_touches_36 : decode cX2_touches 36 = .ok (.aload_n 0, 1) := by decide +kernel
theorem dX2_touches_37 : decode cX2_touches 37 = .ok (.iload 4, 2) := by decide +kernel
theorem dX2_touches_39 : decode cX2_touches 39 = .ok (.invokevirtual 77, 3) := by decide +kernel
theorem dX2_touches_42 : decode cX2_touches 42 = .ok (.iand, 1) := by decide +kernel
theorem dX2_touches_43 : decode cX2_touches 43 = .ok (.ifCond .eq 10, 3) := by decide +kernel
theorem dX2_touches_46 : decode cX2_touches 46 = .ok (.iconst 1, 1) := by decide +kernel
theorem dX2_touches_47 : decode cX2_touches 47 = .ok (.iload 4, 2) := by decide +kernel
theorem dX2_touches_49 : decode cX2_touches 49 = .ok (.ishl, 1) := by decide +kernel
theorem dX2_touches_50 : decode cX2_touches 50 = .ok (.goto 4, 3) := by decide +kernel
theorem dX2_touches_53 : decode cX2_touches 53 = .ok (.iconst 0, 1) := by decide +kernel
theorem dX2_touches_54 : decode cX2_touches 54 = .ok (.ior, 1) := by decide +kernel
theorem dX2_touches_55 : decode cX2_touches 55 = .ok (.istore_n 2, 1) := by decide +kernel
theorem dX2_touches_56 : decode cX2_touches 56 = .ok (.iinc 4 1, 3) := by decide +kernel
theorem dX2_touches_59 : decode cX2_touches 59 = .ok (.goto (-43), 3) := by decide +kernel
theorem dX2_touches_62 : decode cX2_touches 62 = .ok (.iload_n 2, 1) := by decide +kernel
theorem dX2_touches_63 : decode cX2_touches 63 = .ok (.ireturn, 1) := by decide +kernel
theorem dX2_runs_0 : decode cX2_runs 0 = .ok (.aload_n 0, 1) := by decide +kernel
theorem dX2_runs_1 : decode cX2_runs 1 = .ok (.aload_n 0, 1) := by decide +kernel
theorem dX2_runs_2 : decode cX2_runs 2 = .ok (.iload_n 1, 1) := by decide +kernel
theorem dX2_runs_3 : decode cX2_runs 3 = .ok (.invokevirtual 55, 3) := by decide +kernel
theorem dX2_runs_6 : decode cX2_runs 6 = .ok (.iconst 1, 1) := by decide +kernel
theorem dX2_runs_7 : decode cX2_runs 7 = .ok (.invokevirtual 62, 3) := by decide +kernel
theorem dX2_runs_10 : decode cX2_runs 10 = .ok (.ifCond .eq 11, 3) := by decide +kernel
theorem dX2_runs_13 : decode cX2_runs 13 = .ok (.aload_n 0, 1) := by decide +kernel
theorem dX2_runs_14 : decode cX2_runs 14 = .ok (.iload_n 1, 1) := by decide +kernel
theorem dX2_runs_15 : decode cX2_runs 15 = .ok (.invokevirtual 98, 3) := by decide +kernel
theorem dX2_runs_18 : decode cX2_runs 18 = .ok (.goto 4, 3) := by decide +kernel
theorem dX2_runs_21 : decode cX2_runs 21 = .ok (.iconst 0, 1) := by decide +kernel
theorem dX2_runs_22 : decode cX2_runs 22 = .ok (.ireturn, 1) := by decide +kernel
theorem dX2_verdict_0 : decode cX2_verdict 0 = .ok (.aload_n 0, 1) := by decide +kernel
theorem dX2_verdict_1 : decode cX2_verdict 1 = .ok (.aload_n 0, 1) := by decide +kernel
theorem dX2_verdict_2 : decode cX2_verdict 2 = .ok (.iload_n 1, 1) := by decide +kernel
theorem dX2_verdict_3 : decode cX2_verdict 3 = .ok (.invokevirtual 55, 3) := by decide +kernel
theorem dX2_verdict_6 : decode cX2_verdict 6 = .ok (.ifCond .eq 15, 3) := by decide +kernel
theorem dX2_verdict_9 : decode cX2_verdict 9 = .ok (.aload_n 0, 1) := by decide +kernel
theorem dX2_verdict_10 : decode cX2_verdict 10 = .ok (.iload_n 2, 1) := by decide +kernel
theorem dX2_verdict_11 : decode cX2_verdict 11 = .ok (.invokevirtual 95, 3) := by decide +kernel
theorem dX2_verdict_14 : decode cX2_verdict 14 = .ok (.ifCond .eq 7, 3) := by decide +kernel
theorem dX2_verdict_17 : decode cX2_verdict 17 = .ok (.iconst 1, 1) := by decide +kernel
theorem dX2_verdict_18 : decode cX2_verdict 18 = .ok (.goto 4, 3) := by decide +kernel
theorem dX2_verdict_21 : decode cX2_verdict 21 = .ok (.iconst 0, 1) := by decide +kernel
theorem dX2_verdict_22 : decode cX2_verdict 22 = .ok (.iconst 1, 1) := by decide +kernel
theorem dX2_verdict_23 : decode cX2_verdict 23 = .ok (.invokevirtual 62, 3) := by decide +kernel
theorem dX2_verdict_26 : decode cX2_verdict 26 = .ok (.ifCond .eq 12, 3) := by decide +kernel
theorem dX2_verdict_29 : decode cX2_verdict 29 = .ok (.aload_n 0, 1) := by decide +kernel
theorem dX2_verdict_30 : decode cX2_verdict 30 = .ok (.iload_n 1, 1) := by decide +kernel
theorem dX2_verdict_31 : decode cX2_verdict 31 = .ok (.iload_n 2, 1) := by decide +kernel
theorem dX2_verdict_32 : decode cX2_verdict 32 = .ok (.invokevirtual 73, 3) := by decide +kernel
theorem dX2_verdict_35 : decode cX2_verdict 35 = .ok (.goto 4, 3) := by decide +kernel
theorem dX2_verdict_38 : decode cX2_verdict 38 = .ok (.iconst 0, 1) := by decide +kernel
theorem dX2_verdict_39 : decode cX2_verdict 39 = .ok (.ireturn, 1) := by decide +kernel
theorem dX2_failing_0 : decode cX2_failing 0 = .ok (.aload_n 0, 1) := by decide +kernel
theorem dX2_failing_1 : decode cX2_failing 1 = .ok (.aload_n 0, 1) := by decide +kernel
theorem dX2_failing_2 : decode cX2_failing 2 = .ok (.iload_n 1, 1) := by decide +kernel
theorem dX2_failing_3 : decode cX2_failing 3 = .ok (.invokevirtual 55, 3) := by decide +kernel
theorem dX2_failing_6 : decode cX2_failing 6 = .ok (.iconst 1, 1) := by decide +kernel
theorem dX2_failing_7 : decode cX2_failing 7 = .ok (.invokevirtual 62, 3) := by decide +kernel
theorem dX2_failing_10 : decode cX2_failing 10 = .ok (.ifCond .eq 11, 3) := by decide +kernel
theorem dX2_failing_13 : decode cX2_failing 13 = .ok (.aload_n 0, 1) := by decide +kernel
theorem dX2_failing_14 : decode cX2_failing 14 = .ok (.iload_n 1, 1) := by decide +kernel
theorem dX2_failing_15 : decode cX2_failing 15 = .ok (.invokevirtual 98, 3) := by decide +kernel
theorem dX2_failing_18 : decode cX2_failing 18 = .ok (.ifCond .ne 5, 3) := by decide +kernel
theorem dX2_failing_21 : decode cX2_failing 21 = .ok (.iconst 0, 1) := by decide +kernel
theorem dX2_failing_22 : decode cX2_failing 22 = .ok (.ireturn, 1) := by decide +kernel
theorem dX2_failing_23 : decode cX2_failing 23 = .ok (.bipush 100, 2) := by decide +kernel
theorem dX2_failing_25 : decode cX2_failing 25 = .ok (.aload_n 0, 1) := by decide +kernel
theorem dX2_failing_26 : decode cX2_failing 26 = .ok (.iload_n 1, 1) := by decide +kernel
theorem dX2_failing_27 : decode cX2_failing 27 = .ok (.aload_n 0, 1) := by decide +kernel
theorem dX2_failing_28 : decode cX2_failing 28 = .ok (.getfield 29, 3) := by decide +kernel
theorem dX2_failing_31 : decode cX2_failing 31 = .ok (.invokevirtual 69, 3) := by decide +kernel
theorem dX2_failing_34 : decode cX2_failing 34 = .ok (.imul, 1) := by decide +kernel
theorem dX2_failing_35 : decode cX2_failing 35 = .ok (.aload_n 0, 1) := by decide +kernel
theorem dX2_failing_36 : decode cX2_failing 36 = .ok (.iload_n 1, 1) := by decide +kernel
theorem dX2_failing_37 : decode cX2_failing 37 = .ok (.invokevirtual 98, 3) := by decide +kernel
theorem dX2_failing_40 : decode cX2_failing 40 = .ok (.idiv, 1) := by decide +kernel
theorem dX2_failing_41 : decode cX2_failing 41 = .ok (.ireturn, 1) := by decide +kernel
theorem dX2_isQuarantined_0 : decode cX2_isQuarantined 0 = .ok (.aload_n 0, 1) := by decide +kernel
theorem dX2_isQuarantined_1 : decode cX2_isQuarantined 1 = .ok (.aload_n 0, 1) := by decide +kernel
theorem dX2_isQuarantined_2 : decode cX2_isQuarantined 2 = .ok (.iload_n 1, 1) := by decide +kernel
theorem dX2_isQuarantined_3 : decode cX2_isQuarantined 3 = .ok (.invokevirtual 55, 3) := by decide +kernel
theorem dX2_isQuarantined_6 : decode cX2_isQuarantined 6 = .ok (.iconst 1, 1) := by decide +kernel
theorem dX2_isQuarantined_7 : decode cX2_isQuarantined 7 = .ok (.invokevirtual 62, 3) := by decide +kernel
theorem dX2_isQuarantined_10 : decode cX2_isQuarantined 10 = .ok (.ifCond .eq 15, 3) := by decide +kernel
theorem dX2_isQuarantined_13 : decode cX2_isQuarantined 13 = .ok (.aload_n 0, 1) := by decide +kernel
theorem dX2_isQuarantined_14 : decode cX2_isQuarantined 14 = .ok (.iload_n 1, 1) := by decide +kernel
theorem dX2_isQuarantined_15 : decode cX2_isQuarantined 15 = .ok (.invokevirtual 129, 3) := by decide +kernel
theorem dX2_isQuarantined_18 : decode cX2_isQuarantined 18 = .ok (.ifCond .eq 7, 3) := by decide +kernel
theorem dX2_isQuarantined_21 : decode cX2_isQuarantined 21 = .ok (.iconst 1, 1) := by decide +kernel
theorem dX2_isQuarantined_22 : decode cX2_isQuarantined 22 = .ok (.goto 4, 3) := by decide +kernel
theorem dX2_isQuarantined_25 : decode cX2_isQuarantined 25 = .ok (.iconst 0, 1) := by decide +kernel
theorem dX2_isQuarantined_26 : decode cX2_isQuarantined 26 = .ok (.ireturn, 1) := by decide +kernel
theorem dX2_broken_0 : decode cX2_broken 0 = .ok (.iconst 0, 1) := by decide +kernel
theorem dX2_broken_1 : decode cX2_broken 1 = .ok (.istore_n 2, 1) := by decide +kernel
theorem dX2_broken_2 : decode cX2_broken 2 = .ok (.aload_n 0, 1) := by decide +kernel
theorem dX2_broken_3 : decode cX2_broken 3 = .ok (.aload_n 0, 1) := by decide +kernel
theorem dX2_broken_4 : decode cX2_broken 4 = .ok (.iload_n 1, 1) := by decide +kernel
theorem dX2_broken_5 : decode cX2_broken 5 = .ok (.invokevirtual 95, 3) := by decide +kernel
theorem dX2_broken_8 : decode cX2_broken 8 = .ok (.iconst 1, 1) := by decide +kernel
theorem dX2_broken_9 : decode cX2_broken 9 = .ok (.invokevirtual 62, 3) := by decide +kernel
theorem dX2_broken_12 : decode cX2_broken 12 = .ok (.istore_n 3, 1) := by decide +kernel
theorem dX2_broken_13 : decode cX2_broken 13 = .ok (.iconst 0, 1) := by decide +kernel
theorem dX2_broken_14 : decode cX2_broken 14 = .ok (.istore 4, 2) := by decide +kernel
theorem dX2_broken_16 : decode cX2_broken 16 = .ok (.iload 4, 2) := by decide +kernel
theorem dX2_broken_18 : decode cX2_broken 18 = .ok (.aload_n 0, 1) := by decide +kernel
theorem dX2_broken_19 : decode cX2_broken 19 = .ok (.getfield 49, 3) := by decide +kernel
theorem dX2_broken_22 : decode cX2_broken 22 = .ok (.if_icmp .ge 44, 3) := by decide +kernel
theorem dX2_broken_25 : decode cX2_broken 25 = .ok (.iload_n 3, 1) := by decide +kernel
theorem dX2_broken_26 : decode cX2_broken 26 = .ok (.ifCond .eq 40, 3) := by decide +kernel
theorem dX2_broken_29 : decode cX2_broken 29 = .ok (.iload_n 2, 1) := by decide +kernel
theorem dX2_broken_30 : decode cX2_broken 30 = .ok (.aload_n 0, 1) := by decide +kernel
theorem dX2_broken_31 : decode cX2_broken 31 = .ok (.iload 4, 2) := by decide +kernel
theorem dX2_broken_33 : decode cX2_broken 33 = .ok (.iload_n 1, 1) := by decide +kernel
theorem dX2_broken_34 : decode cX2_broken 34 = .ok (.invokevirtual 73, 3) := by decide +kernel
theorem dX2_broken_37 : decode cX2_broken 37 = .ok (.iconst 2, 1) := by decide +kernel
theorem dX2_broken_38 : decode cX2_broken 38 = .ok (.if_icmp .ne 19, 3) := by decide +kernel
theorem dX2_broken_41 : decode cX2_broken 41 = .ok (.aload_n 0, 1) := by decide +kernel
theorem dX2_broken_42 : decode cX2_broken 42 = .ok (.iload 4, 2) := by decide +kernel
theorem dX2_broken_44 : decode cX2_broken 44 = .ok (.invokevirtual 129, 3) := by decide +kernel
theorem dX2_broken_47 : decode cX2_broken 47 = .ok (.ifCond .ne 10, 3) := by decide +kernel
theorem dX2_broken_50 : decode cX2_broken 50 = .ok (.iconst 1, 1) := by decide +kernel
theorem dX2_broken_51 : decode cX2_broken 51 = .ok (.iload 4, 2) := by decide +kernel
theorem dX2_broken_53 : decode cX2_broken 53 = .ok (.ishl, 1) := by decide +kernel
theorem dX2_broken_54 : decode cX2_broken 54 = .ok (.goto 4, 3) := by decide +kernel
theorem dX2_broken_57 : decode cX2_broken 57 = .ok (.iconst 0, 1) := by decide +kernel
theorem dX2_broken_58 : decode cX2_broken 58 = .ok (.ior, 1) := by decide +kernel
theorem dX2_broken_59 : decode cX2_broken 59 = .ok (.istore_n 2, 1) := by decide +kernel
theorem dX2_broken_60 : decode cX2_broken 60 = .ok (.iinc 4 1, 3) := by decide +kernel
theorem dX2_broken_63 : decode cX2_broken 63 = .ok (.goto (-47), 3) := by decide +kernel
theorem dX2_broken_66 : decode cX2_broken 66 = .ok (.iload_n 2, 1) := by decide +kernel
theorem dX2_broken_67 : decode cX2_broken 67 = .ok (.ireturn, 1) := by decide +kernel
theorem dX2_suspects_0 : decode cX2_suspects 0 = .ok (.lconst 0, 1) := by decide +kernel
theorem dX2_suspects_1 : decode cX2_suspects 1 = .ok (.lstore_n 2, 1) := by decide +kernel
theorem dX2_suspects_2 : decode cX2_suspects 2 = .ok (.aload_n 0, 1) := by decide +kernel
theorem dX2_suspects_3 : decode cX2_suspects 3 = .ok (.aload_n 0, 1) := by decide +kernel
theorem dX2_suspects_4 : decode cX2_suspects 4 = .ok (.iload_n 1, 1) := by decide +kernel
theorem dX2_suspects_5 : decode cX2_suspects 5 = .ok (.invokevirtual 55, 3) := by decide +kernel
theorem dX2_suspects_8 : decode cX2_suspects 8 = .ok (.aload_n 0, 1) := by decide +kernel
theorem dX2_suspects_9 : decode cX2_suspects 9 = .ok (.iload_n 1, 1) := by decide +kernel
theorem dX2_suspects_10 : decode cX2_suspects 10 = .ok (.invokevirtual 107, 3) := by decide +kernel
theorem dX2_suspects_13 : decode cX2_suspects 13 = .ok (.invokevirtual 62, 3) := by decide +kernel
theorem dX2_suspects_16 : decode cX2_suspects 16 = .ok (.istore 4, 2) := by decide +kernel
theorem dX2_suspects_18 : decode cX2_suspects 18 = .ok (.iconst 0, 1) := by decide +kernel
theorem dX2_suspects_19 : decode cX2_suspects 19 = .ok (.istore 5, 2) := by decide +kernel
theorem dX2_suspects_21 : decode cX2_suspects 21 = .ok (.iload 5, 2) := by decide +kernel
theorem dX2_suspects_23 : decode cX2_suspects 23 = .ok (.aload_n 0, 1) := by decide +kernel
theorem dX2_suspects_24 : decode cX2_suspects 24 = .ok (.getfield 52, 3) := by decide +kernel
theorem dX2_suspects_27 : decode cX2_suspects 27 = .ok (.if_icmp .ge 35, 3) := by decide +kernel
theorem dX2_suspects_30 : decode cX2_suspects 30 = .ok (.iload 4, 2) := by decide +kernel
theorem dX2_suspects_32 : decode cX2_suspects 32 = .ok (.ifCond .eq 30, 3) := by decide +kernel
theorem dX2_suspects_35 : decode cX2_suspects 35 = .ok (.lload_n 2, 1) := by decide +kernel
theorem dX2_suspects_36 : decode cX2_suspects 36 = .ok (.aload_n 0, 1) := by decide +kernel
theorem dX2_suspects_37 : decode cX2_suspects 37 = .ok (.iload_n 1, 1) := by decide +kernel
theorem dX2_suspects_38 : decode cX2_suspects 38 = .ok (.iload 5, 2) := by decide +kernel
theorem dX2_suspects_40 : decode cX2_suspects 40 = .ok (.invokevirtual 81, 3) := by decide +kernel
theorem dX2_suspects_43 : decode cX2_suspects 43 = .ok (.ifCond .eq 10, 3) := by decide +kernel
theorem dX2_suspects_46 : decode cX2_suspects 46 = .ok (.lconst 1, 1) := by decide +kernel
theorem dX2_suspects_47 : decode cX2_suspects 47 = .ok (.iload 5, 2) := by decide +kernel
theorem dX2_suspects_49 : decode cX2_suspects 49 = .ok (.lshl, 1) := by decide +kernel
theorem dX2_suspects_50 : decode cX2_suspects 50 = .ok (.goto 4, 3) := by decide +kernel
theorem dX2_suspects_53 : decode cX2_suspects 53 = .ok (.lconst 0, 1) := by decide +kernel
theorem dX2_suspects_54 : decode cX2_suspects 54 = .ok (.lor, 1) := by decide +kernel
theorem dX2_suspects_55 : decode cX2_suspects 55 = .ok (.lstore_n 2, 1) := by decide +kernel
theorem dX2_suspects_56 : decode cX2_suspects 56 = .ok (.iinc 5 1, 3) := by decide +kernel
theorem dX2_suspects_59 : decode cX2_suspects 59 = .ok (.goto (-38), 3) := by decide +kernel
theorem dX2_suspects_62 : decode cX2_suspects 62 = .ok (.lload_n 2, 1) := by decide +kernel
theorem dX2_suspects_63 : decode cX2_suspects 63 = .ok (.lreturn, 1) := by decide +kernel
theorem dX2_contradictions_0 : decode cX2_contradictions 0 = .ok (.aload_n 0, 1) := by decide +kernel
theorem dX2_contradictions_1 : decode cX2_contradictions 1 = .ok (.aload_n 0, 1) := by decide +kernel
theorem dX2_contradictions_2 : decode cX2_contradictions 2 = .ok (.iload_n 1, 1) := by decide +kernel
theorem dX2_contradictions_3 : decode cX2_contradictions 3 = .ok (.invokevirtual 55, 3) := by decide +kernel
theorem dX2_contradictions_6 : decode cX2_contradictions 6 = .ok (.ifCond .eq 15, 3) := by decide +kernel
theorem dX2_contradictions_9 : decode cX2_contradictions 9 = .ok (.aload_n 0, 1) := by decide +kernel
theorem dX2_contradictions_10 : decode cX2_contradictions 10 = .ok (.iload_n 2, 1) := by decide +kernel
theorem dX2_contradictions_11 : decode cX2_contradictions 11 = .ok (.invokevirtual 95, 3) := by decide +kernel
theorem dX2_contradictions_14 : decode cX2_contradictions 14 = .ok (.ifCond .eq 7, 3) := by decide +kernel
theorem dX2_contradictions_17 : decode cX2_contradictions 17 = .ok (.iconst 1, 1) := by decide +kernel
theorem dX2_contradictions_18 : decode cX2_contradictions 18 = .ok (.goto 4, 3) := by decide +kernel
theorem dX2_contradictions_21 : decode cX2_contradictions 21 = .ok (.iconst 0, 1) := by decide +kernel
theorem dX2_contradictions_22 : decode cX2_contradictions 22 = .ok (.aload_n 0, 1) := by decide +kernel
theorem dX2_contradictions_23 : decode cX2_contradictions 23 = .ok (.iload_n 1, 1) := by decide +kernel
theorem dX2_contradictions_24 : decode cX2_contradictions 24 = .ok (.invokevirtual 107, 3) := by decide +kernel
theorem dX2_contradictions_27 : decode cX2_contradictions 27 = .ok (.invokevirtual 62, 3) := by decide +kernel
theorem dX2_contradictions_30 : decode cX2_contradictions 30 = .ok (.ifCond .ne 5, 3) := by decide +kernel
theorem dX2_contradictions_33 : decode cX2_contradictions 33 = .ok (.iconst 0, 1) := by decide +kernel
theorem dX2_contradictions_34 : decode cX2_contradictions 34 = .ok (.ireturn, 1) := by decide +kernel
theorem dX2_contradictions_35 : decode cX2_contradictions 35 = .ok (.aload_n 0, 1) := by decide +kernel
theorem dX2_contradictions_36 : decode cX2_contradictions 36 = .ok (.iload_n 1, 1) := by decide +kernel
theorem dX2_contradictions_37 : decode cX2_contradictions 37 = .ok (.iload_n 2, 1) := by decide +kernel
theorem dX2_contradictions_38 : decode cX2_contradictions 38 = .ok (.invokevirtual 81, 3) := by decide +kernel
theorem dX2_contradictions_41 : decode cX2_contradictions 41 = .ok (.ifCond .eq 12, 3) := by decide +kernel
theorem dX2_contradictions_44 : decode cX2_contradictions 44 = .ok (.aload_n 0, 1) := by decide +kernel
theorem dX2_contradictions_45 : decode cX2_contradictions 45 = .ok (.iload_n 1, 1) := by decide +kernel
theorem dX2_contradictions_46 : decode cX2_contradictions 46 = .ok (.iload_n 2, 1) := by decide +kernel
theorem dX2_contradictions_47 : decode cX2_contradictions 47 = .ok (.invokevirtual 85, 3) := by decide +kernel
theorem dX2_contradictions_50 : decode cX2_contradictions 50 = .ok (.goto 4, 3) := by decide +kernel
theorem dX2_contradictions_53 : decode cX2_contradictions 53 = .ok (.iconst (-1), 1) := by decide +kernel
theorem dX2_contradictions_54 : decode cX2_contradictions 54 = .ok (.ireturn, 1) := by decide +kernel
theorem dX2_candidates_0 : decode cX2_candidates 0 = .ok (.lconst 0, 1) := by decide +kernel
theorem dX2_candidates_1 : decode cX2_candidates 1 = .ok (.lstore_n 2, 1) := by decide +kernel
theorem dX2_candidates_2 : decode cX2_candidates 2 = .ok (.aload_n 0, 1) := by decide +kernel
theorem dX2_candidates_3 : decode cX2_candidates 3 = .ok (.aload_n 0, 1) := by decide +kernel
theorem dX2_candidates_4 : decode cX2_candidates 4 = .ok (.iload_n 1, 1) := by decide +kernel
theorem dX2_candidates_5 : decode cX2_candidates 5 = .ok (.invokevirtual 55, 3) := by decide +kernel
theorem dX2_candidates_8 : decode cX2_candidates 8 = .ok (.aload_n 0, 1) := by decide +kernel
theorem dX2_candidates_9 : decode cX2_candidates 9 = .ok (.iload_n 1, 1) := by decide +kernel
theorem dX2_candidates_10 : decode cX2_candidates 10 = .ok (.invokevirtual 107, 3) := by decide +kernel
theorem dX2_candidates_13 : decode cX2_candidates 13 = .ok (.invokevirtual 62, 3) := by decide +kernel
theorem dX2_candidates_16 : decode cX2_candidates 16 = .ok (.istore 4, 2) := by decide +kernel
theorem dX2_candidates_18 : decode cX2_candidates 18 = .ok (.iconst 0, 1) := by decide +kernel
theorem dX2_candidates_19 : decode cX2_candidates 19 = .ok (.istore 5, 2) := by decide +kernel
theorem dX2_candidates_21 : decode cX2_candidates 21 = .ok (.iload 5, 2) := by decide +kernel
theorem dX2_candidates_23 : decode cX2_candidates 23 = .ok (.aload_n 0, 1) := by decide +kernel
theorem dX2_candidates_24 : decode cX2_candidates 24 = .ok (.getfield 52, 3) := by decide +kernel
theorem dX2_candidates_27 : decode cX2_candidates 27 = .ok (.if_icmp .ge 35, 3) := by decide +kernel
theorem dX2_candidates_30 : decode cX2_candidates 30 = .ok (.iload 4, 2) := by decide +kernel
theorem dX2_candidates_32 : decode cX2_candidates 32 = .ok (.ifCond .eq 30, 3) := by decide +kernel
theorem dX2_candidates_35 : decode cX2_candidates 35 = .ok (.lload_n 2, 1) := by decide +kernel
theorem dX2_candidates_36 : decode cX2_candidates 36 = .ok (.aload_n 0, 1) := by decide +kernel
theorem dX2_candidates_37 : decode cX2_candidates 37 = .ok (.iload_n 1, 1) := by decide +kernel
theorem dX2_candidates_38 : decode cX2_candidates 38 = .ok (.iload 5, 2) := by decide +kernel
theorem dX2_candidates_40 : decode cX2_candidates 40 = .ok (.invokevirtual 88, 3) := by decide +kernel
theorem dX2_candidates_43 : decode cX2_candidates 43 = .ok (.ifCond .eq 10, 3) := by decide +kernel
theorem dX2_candidates_46 : decode cX2_candidates 46 = .ok (.lconst 1, 1) := by decide +kernel
theorem dX2_candidates_47 : decode cX2_candidates 47 = .ok (.iload 5, 2) := by decide +kernel
theorem dX2_candidates_49 : decode cX2_candidates 49 = .ok (.lshl, 1) := by decide +kernel
theorem dX2_candidates_50 : decode cX2_candidates 50 = .ok (.goto 4, 3) := by decide +kernel
theorem dX2_candidates_53 : decode cX2_candidates 53 = .ok (.lconst 0, 1) := by decide +kernel
theorem dX2_candidates_54 : decode cX2_candidates 54 = .ok (.lor, 1) := by decide +kernel
theorem dX2_candidates_55 : decode cX2_candidates 55 = .ok (.lstore_n 2, 1) := by decide +kernel
theorem dX2_candidates_56 : decode cX2_candidates 56 = .ok (.iinc 5 1, 3) := by decide +kernel
theorem dX2_candidates_59 : decode cX2_candidates 59 = .ok (.goto (-38), 3) := by decide +kernel
theorem dX2_candidates_62 : decode cX2_candidates 62 = .ok (.lload_n 2, 1) := by decide +kernel
theorem dX2_candidates_63 : decode cX2_candidates 63 = .ok (.lreturn, 1) := by decide +kernel
theorem dX2_likeliest_0 : decode cX2_likeliest 0 = .ok (.aload_n 0, 1) := by decide +kernel
theorem dX2_likeliest_1 : decode cX2_likeliest 1 = .ok (.aload_n 0, 1) := by decide +kernel
theorem dX2_likeliest_2 : decode cX2_likeliest 2 = .ok (.iload_n 1, 1) := by decide +kernel
theorem dX2_likeliest_3 : decode cX2_likeliest 3 = .ok (.invokevirtual 55, 3) := by decide +kernel
theorem dX2_likeliest_6 : decode cX2_likeliest 6 = .ok (.aload_n 0, 1) := by decide +kernel
theorem dX2_likeliest_7 : decode cX2_likeliest 7 = .ok (.iload_n 1, 1) := by decide +kernel
theorem dX2_likeliest_8 : decode cX2_likeliest 8 = .ok (.invokevirtual 107, 3) := by decide +kernel
theorem dX2_likeliest_11 : decode cX2_likeliest 11 = .ok (.invokevirtual 62, 3) := by decide +kernel
theorem dX2_likeliest_14 : decode cX2_likeliest 14 = .ok (.ifCond .ne 5, 3) := by decide +kernel
theorem dX2_likeliest_17 : decode cX2_likeliest 17 = .ok (.iconst 0, 1) := by decide +kernel
theorem dX2_likeliest_18 : decode cX2_likeliest 18 = .ok (.ireturn, 1) := by decide +kernel
theorem dX2_likeliest_19 : decode cX2_likeliest 19 = .ok (.iconst (-1), 1) := by decide +kernel
theorem dX2_likeliest_20 : decode cX2_likeliest 20 = .ok (.istore_n 2, 1) := by decide +kernel
theorem dX2_likeliest_21 : decode cX2_likeliest 21 = .ok (.aload_n 0, 1) := by decide +kernel
theorem dX2_likeliest_22 : decode cX2_likeliest 22 = .ok (.getfield 35, 3) := by decide +kernel
theorem dX2_likeliest_25 : decode cX2_likeliest 25 = .ok (.iload_n 1, 1) := by decide +kernel
theorem dX2_likeliest_26 : decode cX2_likeliest 26 = .ok (.iaload, 1) := by decide +kernel
theorem dX2_likeliest_27 : decode cX2_likeliest 27 = .ok (.istore_n 3, 1) := by decide +kernel
theorem dX2_likeliest_28 : decode cX2_likeliest 28 = .ok (.iload_n 3, 1) := by decide +kernel
theorem dX2_likeliest_29 : decode cX2_likeliest 29 = .ok (.aload_n 0, 1) := by decide +kernel
theorem dX2_likeliest_30 : decode cX2_likeliest 30 = .ok (.getfield 32, 3) := by decide +kernel
theorem dX2_likeliest_33 : decode cX2_likeliest 33 = .ok (.iload_n 1, 1) := by decide +kernel
theorem dX2_likeliest_34 : decode cX2_likeliest 34 = .ok (.iaload, 1) := by decide +kernel
theorem dX2_likeliest_35 : decode cX2_likeliest 35 = .ok (.if_icmp .le 56, 3) := by decide +kernel
theorem dX2_likeliest_38 : decode cX2_likeliest 38 = .ok (.aload_n 0, 1) := by decide +kernel
theorem dX2_likeliest_39 : decode cX2_likeliest 39 = .ok (.iload_n 1, 1) := by decide +kernel
theorem dX2_likeliest_40 : decode cX2_likeliest 40 = .ok (.iload_n 3, 1) := by decide +kernel
theorem dX2_likeliest_41 : decode cX2_likeliest 41 = .ok (.invokevirtual 81, 3) := by decide +kernel
theorem dX2_likeliest_44 : decode cX2_likeliest 44 = .ok (.ifCond .eq 27, 3) := by decide +kernel
theorem dX2_likeliest_47 : decode cX2_likeliest 47 = .ok (.iload_n 2, 1) := by decide +kernel
theorem dX2_likeliest_48 : decode cX2_likeliest 48 = .ok (.iconst (-1), 1) := by decide +kernel
theorem dX2_likeliest_49 : decode cX2_likeliest 49 = .ok (.if_icmp .eq 18, 3) := by decide +kernel
theorem dX2_likeliest_52 : decode cX2_likeliest 52 = .ok (.aload_n 0, 1) := by decide +kernel
theorem dX2_likeliest_53 : decode cX2_likeliest 53 = .ok (.iload_n 1, 1) := by decide +kernel
theorem dX2_likeliest_54 : decode cX2_likeliest 54 = .ok (.iload_n 3, 1) := by decide +kernel
theorem dX2_likeliest_55 : decode cX2_likeliest 55 = .ok (.invokevirtual 85, 3) := by decide +kernel
theorem dX2_likeliest_58 : decode cX2_likeliest 58 = .ok (.aload_n 0, 1) := by decide +kernel
theorem dX2_likeliest_59 : decode cX2_likeliest 59 = .ok (.iload_n 1, 1) := by decide +kernel
theorem dX2_likeliest_60 : decode cX2_likeliest 60 = .ok (.iload_n 2, 1) := by decide +kernel
theorem dX2_likeliest_61 : decode cX2_likeliest 61 = .ok (.invokevirtual 85, 3) := by decide +kernel
theorem dX2_likeliest_64 : decode cX2_likeliest 64 = .ok (.if_icmp .gt 7, 3) := by decide +kernel
theorem dX2_likeliest_67 : decode cX2_likeliest 67 = .ok (.iconst 1, 1) := by decide +kernel
theorem dX2_likeliest_68 : decode cX2_likeliest 68 = .ok (.goto 4, 3) := by decide +kernel
theorem dX2_likeliest_71 : decode cX2_likeliest 71 = .ok (.iconst 0, 1) := by decide +kernel
theorem dX2_likeliest_72 : decode cX2_likeliest 72 = .ok (.istore 4, 2) := by decide +kernel
theorem dX2_likeliest_74 : decode cX2_likeliest 74 = .ok (.iload 4, 2) := by decide +kernel
theorem dX2_likeliest_76 : decode cX2_likeliest 76 = .ok (.ifCond .eq 7, 3) := by decide +kernel
theorem dX2_likeliest_79 : decode cX2_likeliest 79 = .ok (.iload_n 3, 1) := by decide +kernel
theorem dX2_likeliest_80 : decode cX2_likeliest 80 = .ok (.goto 4, 3) := by decide +kernel
theorem dX2_likeliest_83 : decode cX2_likeliest 83 = .ok (.iload_n 2, 1) := by decide +kernel
theorem dX2_likeliest_84 : decode cX2_likeliest 84 = .ok (.istore_n 2, 1) := by decide +kernel
theorem dX2_likeliest_85 : decode cX2_likeliest 85 = .ok (.iinc 3 (-1), 3) := by decide +kernel
theorem dX2_likeliest_88 : decode cX2_likeliest 88 = .ok (.goto (-60), 3) := by decide +kernel
theorem dX2_likeliest_91 : decode cX2_likeliest 91 = .ok (.iload_n 2, 1) := by decide +kernel
theorem dX2_likeliest_92 : decode cX2_likeliest 92 = .ok (.ireturn, 1) := by decide +kernel
theorem dX2_next_0 : decode cX2_next 0 = .ok (.aload_n 0, 1) := by decide +kernel
theorem dX2_next_1 : decode cX2_next 1 = .ok (.aload_n 0, 1) := by decide +kernel
theorem dX2_next_2 : decode cX2_next 2 = .ok (.iload_n 1, 1) := by decide +kernel
theorem dX2_next_3 : decode cX2_next 3 = .ok (.invokevirtual 55, 3) := by decide +kernel
theorem dX2_next_6 : decode cX2_next 6 = .ok (.aload_n 0, 1) := by decide +kernel
theorem dX2_next_7 : decode cX2_next 7 = .ok (.iload_n 1, 1) := by decide +kernel
theorem dX2_next_8 : decode cX2_next 8 = .ok (.invokevirtual 107, 3) := by decide +kernel
theorem dX2_next_11 : decode cX2_next 11 = .ok (.invokevirtual 62, 3) := by decide +kernel
theorem dX2_next_14 : decode cX2_next 14 = .ok (.ifCond .ne 5, 3) := by decide +kernel
theorem dX2_next_17 : decode cX2_next 17 = .ok (.iconst 0, 1) := by decide +kernel
theorem dX2_next_18 : decode cX2_next 18 = .ok (.ireturn, 1) := by decide +kernel
theorem dX2_next_19 : decode cX2_next 19 = .ok (.iconst (-1), 1) := by decide +kernel
theorem dX2_next_20 : decode cX2_next 20 = .ok (.istore_n 2, 1) := by decide +kernel
theorem dX2_next_21 : decode cX2_next 21 = .ok (.iconst 0, 1) := by decide +kernel
theorem dX2_next_22 : decode cX2_next 22 = .ok (.istore_n 3, 1) := by decide +kernel
theorem dX2_next_23 : decode cX2_next 23 = .ok (.aload_n 0, 1) := by decide +kernel
theorem dX2_next_24 : decode cX2_next 24 = .ok (.getfield 32, 3) := by decide +kernel
theorem dX2_next_27 : decode cX2_next 27 = .ok (.iload_n 1, 1) := by decide +kernel
theorem dX2_next_28 : decode cX2_next 28 = .ok (.iaload, 1) := by decide +kernel
theorem dX2_next_29 : decode cX2_next 29 = .ok (.iconst 1, 1) := by decide +kernel
theorem dX2_next_30 : decode cX2_next 30 = .ok (.iadd, 1) := by decide +kernel
theorem dX2_next_31 : decode cX2_next 31 = .ok (.istore 4, 2) := by decide +kernel
theorem dX2_next_33 : decode cX2_next 33 = .ok (.iload 4, 2) := by decide +kernel
theorem dX2_next_35 : decode cX2_next 35 = .ok (.aload_n 0, 1) := by decide +kernel
theorem dX2_next_36 : decode cX2_next 36 = .ok (.getfield 35, 3) := by decide +kernel
theorem dX2_next_39 : decode cX2_next 39 = .ok (.iload_n 1, 1) := by decide +kernel
theorem dX2_next_40 : decode cX2_next 40 = .ok (.iaload, 1) := by decide +kernel
theorem dX2_next_41 : decode cX2_next 41 = .ok (.if_icmp .ge 131, 3) := by decide +kernel
theorem dX2_next_44 : decode cX2_next 44 = .ok (.aload_n 0, 1) := by decide +kernel
theorem dX2_next_45 : decode cX2_next 45 = .ok (.iload_n 1, 1) := by decide +kernel
theorem dX2_next_46 : decode cX2_next 46 = .ok (.aload_n 0, 1) := by decide +kernel
theorem dX2_next_47 : decode cX2_next 47 = .ok (.getfield 32, 3) := by decide +kernel
theorem dX2_next_50 : decode cX2_next 50 = .ok (.iload_n 1, 1) := by decide +kernel
theorem dX2_next_51 : decode cX2_next 51 = .ok (.iaload, 1) := by decide +kernel
theorem dX2_next_52 : decode cX2_next 52 = .ok (.iconst 1, 1) := by decide +kernel
theorem dX2_next_53 : decode cX2_next 53 = .ok (.iadd, 1) := by decide +kernel
theorem dX2_next_54 : decode cX2_next 54 = .ok (.iload 4, 2) := by decide +kernel
theorem dX2_next_56 : decode cX2_next 56 = .ok (.invokevirtual 91, 3) := by decide +kernel
theorem dX2_next_59 : decode cX2_next 59 = .ok (.istore 5, 2) := by decide +kernel
theorem dX2_next_61 : decode cX2_next 61 = .ok (.aload_n 0, 1) := by decide +kernel
theorem dX2_next_62 : decode cX2_next 62 = .ok (.iload_n 1, 1) := by decide +kernel
theorem dX2_next_63 : decode cX2_next 63 = .ok (.iload 4, 2) := by decide +kernel
theorem dX2_next_65 : decode cX2_next 65 = .ok (.iconst 1, 1) := by decide +kernel
theorem dX2_next_66 : decode cX2_next 66 = .ok (.iadd, 1) := by decide +kernel
theorem dX2_next_67 : decode cX2_next 67 = .ok (.aload_n 0, 1) := by decide +kernel
theorem dX2_next_68 : decode cX2_next 68 = .ok (.getfield 35, 3) := by decide +kernel
theorem dX2_next_71 : decode cX2_next 71 = .ok (.iload_n 1, 1) := by decide +kernel
theorem dX2_next_72 : decode cX2_next 72 = .ok (.iaload, 1) := by decide +kernel
theorem dX2_next_73 : decode cX2_next 73 = .ok (.invokevirtual 91, 3) := by decide +kernel
theorem dX2_next_76 : decode cX2_next 76 = .ok (.istore 6, 2) := by decide +kernel
theorem dX2_next_78 : decode cX2_next 78 = .ok (.sipush 1000, 3) := by decide +kernel
theorem dX2_next_81 : decode cX2_next 81 = .ok (.iload 5, 2) := by decide +kernel
theorem dX2_next_83 : decode cX2_next 83 = .ok (.iload 6, 2) := by decide +kernel
theorem dX2_next_85 : decode cX2_next 85 = .ok (.if_icmp .le 8, 3) := by decide +kernel
theorem dX2_next_88 : decode cX2_next 88 = .ok (.iload 5, 2) := by decide +kernel
theorem dX2_next_90 : decode cX2_next 90 = .ok (.goto 5, 3) := by decide +kernel
theorem dX2_next_93 : decode cX2_next 93 = .ok (.iload 6, 2) := by decide +kernel
theorem dX2_next_95 : decode cX2_next 95 = .ok (.imul, 1) := by decide +kernel
theorem dX2_next_96 : decode cX2_next 96 = .ok (.aload_n 0, 1) := by decide +kernel
theorem dX2_next_97 : decode cX2_next 97 = .ok (.getfield 26, 3) := by decide +kernel
theorem dX2_next_100 : decode cX2_next 100 = .ok (.bipush 40, 2) := by decide +kernel
theorem dX2_next_102 : decode cX2_next 102 = .ok (.iload_n 1, 1) := by decide +kernel
theorem dX2_next_103 : decode cX2_next 103 = .ok (.imul, 1) := by decide +kernel
theorem dX2_next_104 : decode cX2_next 104 = .ok (.iload 4, 2) := by decide +kernel
theorem dX2_next_106 : decode cX2_next 106 = .ok (.iadd, 1) := by decide +kernel
theorem dX2_next_107 : decode cX2_next 107 = .ok (.iaload, 1) := by decide +kernel
theorem dX2_next_108 : decode cX2_next 108 = .ok (.iadd, 1) := by decide +kernel
theorem dX2_next_109 : decode cX2_next 109 = .ok (.aload_n 0, 1) := by decide +kernel
theorem dX2_next_110 : decode cX2_next 110 = .ok (.getfield 29, 3) := by decide +kernel
theorem dX2_next_113 : decode cX2_next 113 = .ok (.bipush 40, 2) := by decide +kernel
theorem dX2_next_115 : decode cX2_next 115 = .ok (.iload_n 1, 1) := by decide +kernel
theorem dX2_next_116 : decode cX2_next 116 = .ok (.imul, 1) := by decide +kernel
theorem dX2_next_117 : decode cX2_next 117 = .ok (.iload 4, 2) := by decide +kernel
theorem dX2_next_119 : decode cX2_next 119 = .ok (.iadd, 1) := by decide +kernel
theorem dX2_next_120 : decode cX2_next 120 = .ok (.iaload, 1) := by decide +kernel
theorem dX2_next_121 : decode cX2_next 121 = .ok (.iadd, 1) := by decide +kernel
theorem dX2_next_122 : decode cX2_next 122 = .ok (.istore 7, 2) := by decide +kernel
theorem dX2_next_124 : decode cX2_next 124 = .ok (.iload_n 2, 1) := by decide +kernel
theorem dX2_next_125 : decode cX2_next 125 = .ok (.iconst (-1), 1) := by decide +kernel
theorem dX2_next_126 : decode cX2_next 126 = .ok (.if_icmp .eq 9, 3) := by decide +kernel
theorem dX2_next_129 : decode cX2_next 129 = .ok (.iload 7, 2) := by decide +kernel
theorem dX2_next_131 : decode cX2_next 131 = .ok (.iload_n 3, 1) := by decide +kernel
theorem dX2_next_132 : decode cX2_next 132 = .ok (.if_icmp .ge 7, 3) := by decide +kernel
theorem dX2_next_135 : decode cX2_next 135 = .ok (.iconst 1, 1) := by decide +kernel
theorem dX2_next_136 : decode cX2_next 136 = .ok (.goto 4, 3) := by decide +kernel
theorem dX2_next_139 : decode cX2_next 139 = .ok (.iconst 0, 1) := by decide +kernel
theorem dX2_next_140 : decode cX2_next 140 = .ok (.istore 8, 2) := by decide +kernel
theorem dX2_next_142 : decode cX2_next 142 = .ok (.iload 8, 2) := by decide +kernel
theorem dX2_next_144 : decode cX2_next 144 = .ok (.ifCond .eq 8, 3) := by decide +kernel
theorem dX2_next_147 : decode cX2_next 147 = .ok (.iload 4, 2) := by decide +kernel
theorem dX2_next_149 : decode cX2_next 149 = .ok (.goto 4, 3) := by decide +kernel
theorem dX2_next_152 : decode cX2_next 152 = .ok (.iload_n 2, 1) := by decide +kernel
theorem dX2_next_153 : decode cX2_next 153 = .ok (.istore_n 2, 1) := by decide +kernel
theorem dX2_next_154 : decode cX2_next 154 = .ok (.iload 8, 2) := by decide +kernel
theorem dX2_next_156 : decode cX2_next 156 = .ok (.ifCond .eq 8, 3) := by decide +kernel
theorem dX2_next_159 : decode cX2_next 159 = .ok (.iload 7, 2) := by decide +kernel
theorem dX2_next_161 : decode cX2_next 161 = .ok (.goto 4, 3) := by decide +kernel
theorem dX2_next_164 : decode cX2_next 164 = .ok (.iload_n 3, 1) := by decide +kernel
theorem dX2_next_165 : decode cX2_next 165 = .ok (.istore_n 3, 1) := by decide +kernel
theorem dX2_next_166 : decode cX2_next 166 = .ok (.iinc 4 1, 3) := by decide +kernel
theorem dX2_next_169 : decode cX2_next 169 = .ok (.goto (-136), 3) := by decide +kernel
theorem dX2_next_172 : decode cX2_next 172 = .ok (.iload_n 2, 1) := by decide +kernel
theorem dX2_next_173 : decode cX2_next 173 = .ok (.ireturn, 1) := by decide +kernel
theorem dJ13_bitCount_95d88_0 : decode cJ13_bitCount_95d88 0 = .ok (.lload_n 0, 1) := by decide +kernel
theorem dJ13_bitCount_95d88_1 : decode cJ13_bitCount_95d88 1 = .ok (.lload_n 0, 1) := by decide +kernel
theorem dJ13_bitCount_95d88_2 : decode cJ13_bitCount_95d88 2 = .ok (.iconst 1, 1) := by decide +kernel
theorem dJ13_bitCount_95d88_3 : decode cJ13_bitCount_95d88 3 = .ok (.lushr, 1) := by decide +kernel
theorem dJ13_bitCount_95d88_4 : decode cJ13_bitCount_95d88 4 = .ok (.ldc2_w 314, 3) := by decide +kernel
theorem dJ13_bitCount_95d88_7 : decode cJ13_bitCount_95d88 7 = .ok (.land, 1) := by decide +kernel
theorem dJ13_bitCount_95d88_8 : decode cJ13_bitCount_95d88 8 = .ok (.lsub, 1) := by decide +kernel
theorem dJ13_bitCount_95d88_9 : decode cJ13_bitCount_95d88 9 = .ok (.lstore_n 0, 1) := by decide +kernel
theorem dJ13_bitCount_95d88_10 : decode cJ13_bitCount_95d88 10 = .ok (.lload_n 0, 1) := by decide +kernel
theorem dJ13_bitCount_95d88_11 : decode cJ13_bitCount_95d88 11 = .ok (.ldc2_w 316, 3) := by decide +kernel
theorem dJ13_bitCount_95d88_14 : decode cJ13_bitCount_95d88 14 = .ok (.land, 1) := by decide +kernel
theorem dJ13_bitCount_95d88_15 : decode cJ13_bitCount_95d88 15 = .ok (.lload_n 0, 1) := by decide +kernel
theorem dJ13_bitCount_95d88_16 : decode cJ13_bitCount_95d88 16 = .ok (.iconst 2, 1) := by decide +kernel
theorem dJ13_bitCount_95d88_17 : decode cJ13_bitCount_95d88 17 = .ok (.lushr, 1) := by decide +kernel
theorem dJ13_bitCount_95d88_18 : decode cJ13_bitCount_95d88 18 = .ok (.ldc2_w 316, 3) := by decide +kernel
theorem dJ13_bitCount_95d88_21 : decode cJ13_bitCount_95d88 21 = .ok (.land, 1) := by decide +kernel
theorem dJ13_bitCount_95d88_22 : decode cJ13_bitCount_95d88 22 = .ok (.ladd, 1) := by decide +kernel
theorem dJ13_bitCount_95d88_23 : decode cJ13_bitCount_95d88 23 = .ok (.lstore_n 0, 1) := by decide +kernel
theorem dJ13_bitCount_95d88_24 : decode cJ13_bitCount_95d88 24 = .ok (.lload_n 0, 1) := by decide +kernel
theorem dJ13_bitCount_95d88_25 : decode cJ13_bitCount_95d88 25 = .ok (.lload_n 0, 1) := by decide +kernel
theorem dJ13_bitCount_95d88_26 : decode cJ13_bitCount_95d88 26 = .ok (.iconst 4, 1) := by decide +kernel
theorem dJ13_bitCount_95d88_27 : decode cJ13_bitCount_95d88 27 = .ok (.lushr, 1) := by decide +kernel
theorem dJ13_bitCount_95d88_28 : decode cJ13_bitCount_95d88 28 = .ok (.ladd, 1) := by decide +kernel
theorem dJ13_bitCount_95d88_29 : decode cJ13_bitCount_95d88 29 = .ok (.ldc2_w 318, 3) := by decide +kernel
theorem dJ13_bitCount_95d88_32 : decode cJ13_bitCount_95d88 32 = .ok (.land, 1) := by decide +kernel
theorem dJ13_bitCount_95d88_33 : decode cJ13_bitCount_95d88 33 = .ok (.lstore_n 0, 1) := by decide +kernel
theorem dJ13_bitCount_95d88_34 : decode cJ13_bitCount_95d88 34 = .ok (.lload_n 0, 1) := by decide +kernel
theorem dJ13_bitCount_95d88_35 : decode cJ13_bitCount_95d88 35 = .ok (.lload_n 0, 1) := by decide +kernel
theorem dJ13_bitCount_95d88_36 : decode cJ13_bitCount_95d88 36 = .ok (.bipush 8, 2) := by decide +kernel
theorem dJ13_bitCount_95d88_38 : decode cJ13_bitCount_95d88 38 = .ok (.lushr, 1) := by decide +kernel
theorem dJ13_bitCount_95d88_39 : decode cJ13_bitCount_95d88 39 = .ok (.ladd, 1) := by decide +kernel
theorem dJ13_bitCount_95d88_40 : decode cJ13_bitCount_95d88 40 = .ok (.lstore_n 0, 1) := by decide +kernel
theorem dJ13_bitCount_95d88_41 : decode cJ13_bitCount_95d88 41 = .ok (.lload_n 0, 1) := by decide +kernel
theorem dJ13_bitCount_95d88_42 : decode cJ13_bitCount_95d88 42 = .ok (.lload_n 0, 1) := by decide +kernel
theorem dJ13_bitCount_95d88_43 : decode cJ13_bitCount_95d88 43 = .ok (.bipush 16, 2) := by decide +kernel
theorem dJ13_bitCount_95d88_45 : decode cJ13_bitCount_95d88 45 = .ok (.lushr, 1) := by decide +kernel
theorem dJ13_bitCount_95d88_46 : decode cJ13_bitCount_95d88 46 = .ok (.ladd, 1) := by decide +kernel
theorem dJ13_bitCount_95d88_47 : decode cJ13_bitCount_95d88 47 = .ok (.lstore_n 0, 1) := by decide +kernel
theorem dJ13_bitCount_95d88_48 : decode cJ13_bitCount_95d88 48 = .ok (.lload_n 0, 1) := by decide +kernel
theorem dJ13_bitCount_95d88_49 : decode cJ13_bitCount_95d88 49 = .ok (.lload_n 0, 1) := by decide +kernel
theorem dJ13_bitCount_95d88_50 : decode cJ13_bitCount_95d88 50 = .ok (.bipush 32, 2) := by decide +kernel
theorem dJ13_bitCount_95d88_52 : decode cJ13_bitCount_95d88 52 = .ok (.lushr, 1) := by decide +kernel
theorem dJ13_bitCount_95d88_53 : decode cJ13_bitCount_95d88 53 = .ok (.ladd, 1) := by decide +kernel
theorem dJ13_bitCount_95d88_54 : decode cJ13_bitCount_95d88 54 = .ok (.lstore_n 0, 1) := by decide +kernel
theorem dJ13_bitCount_95d88_55 : decode cJ13_bitCount_95d88 55 = .ok (.lload_n 0, 1) := by decide +kernel
theorem dJ13_bitCount_95d88_56 : decode cJ13_bitCount_95d88 56 = .ok (.l2i, 1) := by decide +kernel
theorem dJ13_bitCount_95d88_57 : decode cJ13_bitCount_95d88 57 = .ok (.bipush 127, 2) := by decide +kernel
theorem dJ13_bitCount_95d88_59 : decode cJ13_bitCount_95d88 59 = .ok (.iand, 1) := by decide +kernel
theorem dJ13_bitCount_95d88_60 : decode cJ13_bitCount_95d88 60 = .ok (.ireturn, 1) := by decide +kernel
theorem dJ9_max_7cf53_0 : decode cJ9_max_7cf53 0 = .ok (.iload_n 0, 1) := by decide +kernel
theorem dJ9_max_7cf53_1 : decode cJ9_max_7cf53 1 = .ok (.iload_n 1, 1) := by decide +kernel
theorem dJ9_max_7cf53_2 : decode cJ9_max_7cf53 2 = .ok (.if_icmp .lt 7, 3) := by decide +kernel
theorem dJ9_max_7cf53_5 : decode cJ9_max_7cf53 5 = .ok (.iload_n 0, 1) := by decide +kernel
theorem dJ9_max_7cf53_6 : decode cJ9_max_7cf53 6 = .ok (.goto 4, 3) := by decide +kernel
theorem dJ9_max_7cf53_9 : decode cJ9_max_7cf53 9 = .ok (.iload_n 1, 1) := by decide +kernel
theorem dJ9_max_7cf53_10 : decode cJ9_max_7cf53 10 = .ok (.ireturn, 1) := by decide +kernel
theorem dL_setUses_0 : decode cL_setUses 0 = .ok (.aload_n 3, 1) := by decide +kernel
theorem dL_setUses_1 : decode cL_setUses 1 = .ok (.iconst 0, 1) := by decide +kernel
theorem dL_setUses_2 : decode cL_setUses 2 = .ok (.aload_n 0, 1) := by decide +kernel
theorem dL_setUses_3 : decode cL_setUses 3 = .ok (.iload_n 1, 1) := by decide +kernel
theorem dL_setUses_4 : decode cL_setUses 4 = .ok (.iload_n 2, 1) := by decide +kernel
theorem dL_setUses_5 : decode cL_setUses 5 = .ok (.invokevirtual 7, 3) := by decide +kernel
theorem dL_setUses_8 : decode cL_setUses 8 = .ok (.i2l, 1) := by decide +kernel
theorem dL_setUses_9 : decode cL_setUses 9 = .ok (.lastore, 1) := by decide +kernel
theorem dL_setUses_10 : decode cL_setUses 10 = .ok (.goto 11, 3) := by decide +kernel
theorem dL_setUses_13 : decode cL_setUses 13 = .ok (.astore 4, 2) := by decide +kernel
theorem dL_setUses_15 : decode cL_setUses 15 = .ok (.iconst 1, 1) := by decide +kernel
theorem dL_setUses_16 : decode cL_setUses 16 = .ok (.ireturn, 1) := by decide +kernel
theorem dL_setUses_17 : decode cL_setUses 17 = .ok (.astore 4, 2) := by decide +kernel
theorem dL_setUses_19 : decode cL_setUses 19 = .ok (.iconst 2, 1) := by decide +kernel
theorem dL_setUses_20 : decode cL_setUses 20 = .ok (.ireturn, 1) := by decide +kernel
theorem dL_setUses_21 : decode cL_setUses 21 = .ok (.iconst 0, 1) := by decide +kernel
theorem dL_setUses_22 : decode cL_setUses 22 = .ok (.ireturn, 1) := by decide +kernel
theorem dL_addCommit_0 : decode cL_addCommit 0 = .ok (.aload_n 2, 1) := by decide +kernel
theorem dL_addCommit_1 : decode cL_addCommit 1 = .ok (.iconst 0, 1) := by decide +kernel
theorem dL_addCommit_2 : decode cL_addCommit 2 = .ok (.aload_n 0, 1) := by decide +kernel
theorem dL_addCommit_3 : decode cL_addCommit 3 = .ok (.iload_n 1, 1) := by decide +kernel
theorem dL_addCommit_4 : decode cL_addCommit 4 = .ok (.invokevirtual 17, 3) := by decide +kernel
theorem dL_addCommit_7 : decode cL_addCommit 7 = .ok (.i2l, 1) := by decide +kernel
theorem dL_addCommit_8 : decode cL_addCommit 8 = .ok (.lastore, 1) := by decide +kernel
theorem dL_addCommit_9 : decode cL_addCommit 9 = .ok (.goto 9, 3) := by decide +kernel
theorem dL_addCommit_12 : decode cL_addCommit 12 = .ok (.astore_n 3, 1) := by decide +kernel
theorem dL_addCommit_13 : decode cL_addCommit 13 = .ok (.iconst 1, 1) := by decide +kernel
theorem dL_addCommit_14 : decode cL_addCommit 14 = .ok (.ireturn, 1) := by decide +kernel
theorem dL_addCommit_15 : decode cL_addCommit 15 = .ok (.astore_n 3, 1) := by decide +kernel
theorem dL_addCommit_16 : decode cL_addCommit 16 = .ok (.iconst 2, 1) := by decide +kernel
theorem dL_addCommit_17 : decode cL_addCommit 17 = .ok (.ireturn, 1) := by decide +kernel
theorem dL_addCommit_18 : decode cL_addCommit 18 = .ok (.iconst 0, 1) := by decide +kernel
theorem dL_addCommit_19 : decode cL_addCommit 19 = .ok (.ireturn, 1) := by decide +kernel
theorem dL_addTest_0 : decode cL_addTest 0 = .ok (.aload_n 2, 1) := by decide +kernel
theorem dL_addTest_1 : decode cL_addTest 1 = .ok (.iconst 0, 1) := by decide +kernel
theorem dL_addTest_2 : decode cL_addTest 2 = .ok (.aload_n 0, 1) := by decide +kernel
theorem dL_addTest_3 : decode cL_addTest 3 = .ok (.iload_n 1, 1) := by decide +kernel
theorem dL_addTest_4 : decode cL_addTest 4 = .ok (.invokevirtual 23, 3) := by decide +kernel
theorem dL_addTest_7 : decode cL_addTest 7 = .ok (.i2l, 1) := by decide +kernel
theorem dL_addTest_8 : decode cL_addTest 8 = .ok (.lastore, 1) := by decide +kernel
theorem dL_addTest_9 : decode cL_addTest 9 = .ok (.goto 9, 3) := by decide +kernel
theorem dL_addTest_12 : decode cL_addTest 12 = .ok (.astore_n 3, 1) := by decide +kernel
theorem dL_addTest_13 : decode cL_addTest 13 = .ok (.iconst 1, 1) := by decide +kernel
theorem dL_addTest_14 : decode cL_addTest 14 = .ok (.ireturn, 1) := by decide +kernel
theorem dL_addTest_15 : decode cL_addTest 15 = .ok (.astore_n 3, 1) := by decide +kernel
theorem dL_addTest_16 : decode cL_addTest 16 = .ok (.iconst 2, 1) := by decide +kernel
theorem dL_addTest_17 : decode cL_addTest 17 = .ok (.ireturn, 1) := by decide +kernel
theorem dL_addTest_18 : decode cL_addTest 18 = .ok (.iconst 0, 1) := by decide +kernel
theorem dL_addTest_19 : decode cL_addTest 19 = .ok (.ireturn, 1) := by decide +kernel
theorem dL_setQuarantine_0 : decode cL_setQuarantine 0 = .ok (.aload_n 0, 1) := by decide +kernel
theorem dL_setQuarantine_1 : decode cL_setQuarantine 1 = .ok (.iload_n 1, 1) := by decide +kernel
theorem dL_setQuarantine_2 : decode cL_setQuarantine 2 = .ok (.iload_n 2, 1) := by decide +kernel
theorem dL_setQuarantine_3 : decode cL_setQuarantine 3 = .ok (.invokevirtual 26, 3) := by decide +kernel
theorem dL_setQuarantine_6 : decode cL_setQuarantine 6 = .ok (.goto 6, 3) := by decide +kernel
theorem dL_setQuarantine_9 : decode cL_setQuarantine 9 = .ok (.astore_n 3, 1) := by decide +kernel
theorem dL_setQuarantine_10 : decode cL_setQuarantine 10 = .ok (.iconst 1, 1) := by decide +kernel
theorem dL_setQuarantine_11 : decode cL_setQuarantine 11 = .ok (.ireturn, 1) := by decide +kernel
theorem dL_setQuarantine_12 : decode cL_setQuarantine 12 = .ok (.iconst 0, 1) := by decide +kernel
theorem dL_setQuarantine_13 : decode cL_setQuarantine 13 = .ok (.ireturn, 1) := by decide +kernel
theorem dL_setNoise_0 : decode cL_setNoise 0 = .ok (.aload_n 2, 1) := by decide +kernel
theorem dL_setNoise_1 : decode cL_setNoise 1 = .ok (.iconst 0, 1) := by decide +kernel
theorem dL_setNoise_2 : decode cL_setNoise 2 = .ok (.aload_n 0, 1) := by decide +kernel
theorem dL_setNoise_3 : decode cL_setNoise 3 = .ok (.iload_n 1, 1) := by decide +kernel
theorem dL_setNoise_4 : decode cL_setNoise 4 = .ok (.invokevirtual 30, 3) := by decide +kernel
theorem dL_setNoise_7 : decode cL_setNoise 7 = .ok (.i2l, 1) := by decide +kernel
theorem dL_setNoise_8 : decode cL_setNoise 8 = .ok (.lastore, 1) := by decide +kernel
theorem dL_setNoise_9 : decode cL_setNoise 9 = .ok (.goto 6, 3) := by decide +kernel
theorem dL_setNoise_12 : decode cL_setNoise 12 = .ok (.astore_n 3, 1) := by decide +kernel
theorem dL_setNoise_13 : decode cL_setNoise 13 = .ok (.iconst 1, 1) := by decide +kernel
theorem dL_setNoise_14 : decode cL_setNoise 14 = .ok (.ireturn, 1) := by decide +kernel
theorem dL_setNoise_15 : decode cL_setNoise 15 = .ok (.iconst 0, 1) := by decide +kernel
theorem dL_setNoise_16 : decode cL_setNoise 16 = .ok (.ireturn, 1) := by decide +kernel
theorem dL_record_0 : decode cL_record 0 = .ok (.aload 4, 2) := by decide +kernel
theorem dL_record_2 : decode cL_record 2 = .ok (.iconst 0, 1) := by decide +kernel
theorem dL_record_3 : decode cL_record 3 = .ok (.aload_n 0, 1) := by decide +kernel
theorem dL_record_4 : decode cL_record 4 = .ok (.iload_n 1, 1) := by decide +kernel
theorem dL_record_5 : decode cL_record 5 = .ok (.iload_n 2, 1) := by decide +kernel
theorem dL_record_6 : decode cL_record 6 = .ok (.iload_n 3, 1) := by decide +kernel
theorem dL_record_7 : decode cL_record 7 = .ok (.invokevirtual 33, 3) := by decide +kernel
theorem dL_record_10 : decode cL_record 10 = .ok (.i2l, 1) := by decide +kernel
theorem dL_record_11 : decode cL_record 11 = .ok (.lastore, 1) := by decide +kernel
theorem dL_record_12 : decode cL_record 12 = .ok (.goto 11, 3) := by decide +kernel
theorem dL_record_15 : decode cL_record 15 = .ok (.astore 5, 2) := by decide +kernel
theorem dL_record_17 : decode cL_record 17 = .ok (.iconst 1, 1) := by decide +kernel
theorem dL_record_18 : decode cL_record 18 = .ok (.ireturn, 1) := by decide +kernel
theorem dL_record_19 : decode cL_record 19 = .ok (.astore 5, 2) := by decide +kernel
theorem dL_record_21 : decode cL_record 21 = .ok (.iconst 2, 1) := by decide +kernel
theorem dL_record_22 : decode cL_record 22 = .ok (.ireturn, 1) := by decide +kernel
theorem dL_record_23 : decode cL_record 23 = .ok (.iconst 0, 1) := by decide +kernel
theorem dL_record_24 : decode cL_record 24 = .ok (.ireturn, 1) := by decide +kernel
theorem dL_triage_0 : decode cL_triage 0 = .ok (.aload 4, 2) := by decide +kernel
theorem dL_triage_2 : decode cL_triage 2 = .ok (.iconst 0, 1) := by decide +kernel
theorem dL_triage_3 : decode cL_triage 3 = .ok (.aload_n 0, 1) := by decide +kernel
theorem dL_triage_4 : decode cL_triage 4 = .ok (.iload_n 1, 1) := by decide +kernel
theorem dL_triage_5 : decode cL_triage 5 = .ok (.iload_n 2, 1) := by decide +kernel
theorem dL_triage_6 : decode cL_triage 6 = .ok (.iload_n 3, 1) := by decide +kernel
theorem dL_triage_7 : decode cL_triage 7 = .ok (.invokevirtual 37, 3) := by decide +kernel
theorem dL_triage_10 : decode cL_triage 10 = .ok (.i2l, 1) := by decide +kernel
theorem dL_triage_11 : decode cL_triage 11 = .ok (.lastore, 1) := by decide +kernel
theorem dL_triage_12 : decode cL_triage 12 = .ok (.goto 11, 3) := by decide +kernel
theorem dL_triage_15 : decode cL_triage 15 = .ok (.astore 5, 2) := by decide +kernel
theorem dL_triage_17 : decode cL_triage 17 = .ok (.iconst 1, 1) := by decide +kernel
theorem dL_triage_18 : decode cL_triage 18 = .ok (.ireturn, 1) := by decide +kernel
theorem dL_triage_19 : decode cL_triage 19 = .ok (.astore 5, 2) := by decide +kernel
theorem dL_triage_21 : decode cL_triage 21 = .ok (.iconst 2, 1) := by decide +kernel
theorem dL_triage_22 : decode cL_triage 22 = .ok (.ireturn, 1) := by decide +kernel
theorem dL_triage_23 : decode cL_triage 23 = .ok (.iconst 0, 1) := by decide +kernel
theorem dL_triage_24 : decode cL_triage 24 = .ok (.ireturn, 1) := by decide +kernel
theorem dL_close_0 : decode cL_close 0 = .ok (.aload_n 2, 1) := by decide +kernel
theorem dL_close_1 : decode cL_close 1 = .ok (.iconst 0, 1) := by decide +kernel
theorem dL_close_2 : decode cL_close 2 = .ok (.aload_n 0, 1) := by decide +kernel
theorem dL_close_3 : decode cL_close 3 = .ok (.iload_n 1, 1) := by decide +kernel
theorem dL_close_4 : decode cL_close 4 = .ok (.invokevirtual 41, 3) := by decide +kernel
theorem dL_close_7 : decode cL_close 7 = .ok (.i2l, 1) := by decide +kernel
theorem dL_close_8 : decode cL_close 8 = .ok (.lastore, 1) := by decide +kernel
theorem dL_close_9 : decode cL_close 9 = .ok (.goto 9, 3) := by decide +kernel
theorem dL_close_12 : decode cL_close 12 = .ok (.astore_n 3, 1) := by decide +kernel
theorem dL_close_13 : decode cL_close 13 = .ok (.iconst 1, 1) := by decide +kernel
theorem dL_close_14 : decode cL_close 14 = .ok (.ireturn, 1) := by decide +kernel
theorem dL_close_15 : decode cL_close 15 = .ok (.astore_n 3, 1) := by decide +kernel
theorem dL_close_16 : decode cL_close 16 = .ok (.iconst 2, 1) := by decide +kernel
theorem dL_close_17 : decode cL_close 17 = .ok (.ireturn, 1) := by decide +kernel
theorem dL_close_18 : decode cL_close 18 = .ok (.iconst 0, 1) := by decide +kernel
theorem dL_close_19 : decode cL_close 19 = .ok (.ireturn, 1) := by decide +kernel
theorem dL_enqueue_0 : decode cL_enqueue 0 = .ok (.aload_n 2, 1) := by decide +kernel
theorem dL_enqueue_1 : decode cL_enqueue 1 = .ok (.iconst 0, 1) := by decide +kernel
theorem dL_enqueue_2 : decode cL_enqueue 2 = .ok (.aload_n 0, 1) := by decide +kernel
theorem dL_enqueue_3 : decode cL_enqueue 3 = .ok (.iload_n 1, 1) := by decide +kernel
theorem dL_enqueue_4 : decode cL_enqueue 4 = .ok (.invokevirtual 44, 3) := by decide +kernel
theorem dL_enqueue_7 : decode cL_enqueue 7 = .ok (.i2l, 1) := by decide +kernel
theorem dL_enqueue_8 : decode cL_enqueue 8 = .ok (.lastore, 1) := by decide +kernel
theorem dL_enqueue_9 : decode cL_enqueue 9 = .ok (.goto 9, 3) := by decide +kernel
theorem dL_enqueue_12 : decode cL_enqueue 12 = .ok (.astore_n 3, 1) := by decide +kernel
theorem dL_enqueue_13 : decode cL_enqueue 13 = .ok (.iconst 1, 1) := by decide +kernel
theorem dL_enqueue_14 : decode cL_enqueue 14 = .ok (.ireturn, 1) := by decide +kernel
theorem dL_enqueue_15 : decode cL_enqueue 15 = .ok (.astore_n 3, 1) := by decide +kernel
theorem dL_enqueue_16 : decode cL_enqueue 16 = .ok (.iconst 2, 1) := by decide +kernel
theorem dL_enqueue_17 : decode cL_enqueue 17 = .ok (.ireturn, 1) := by decide +kernel
theorem dL_enqueue_18 : decode cL_enqueue 18 = .ok (.iconst 0, 1) := by decide +kernel
theorem dL_enqueue_19 : decode cL_enqueue 19 = .ok (.ireturn, 1) := by decide +kernel
theorem dL_newDay_0 : decode cL_newDay 0 = .ok (.aload_n 2, 1) := by decide +kernel
theorem dL_newDay_1 : decode cL_newDay 1 = .ok (.iconst 0, 1) := by decide +kernel
theorem dL_newDay_2 : decode cL_newDay 2 = .ok (.aload_n 0, 1) := by decide +kernel
theorem dL_newDay_3 : decode cL_newDay 3 = .ok (.iload_n 1, 1) := by decide +kernel
theorem dL_newDay_4 : decode cL_newDay 4 = .ok (.invokevirtual 47, 3) := by decide +kernel
theorem dL_newDay_7 : decode cL_newDay 7 = .ok (.i2l, 1) := by decide +kernel
theorem dL_newDay_8 : decode cL_newDay 8 = .ok (.lastore, 1) := by decide +kernel
theorem dL_newDay_9 : decode cL_newDay 9 = .ok (.goto 6, 3) := by decide +kernel
theorem dL_newDay_12 : decode cL_newDay 12 = .ok (.astore_n 3, 1) := by decide +kernel
theorem dL_newDay_13 : decode cL_newDay 13 = .ok (.iconst 1, 1) := by decide +kernel
theorem dL_newDay_14 : decode cL_newDay 14 = .ok (.ireturn, 1) := by decide +kernel
theorem dL_newDay_15 : decode cL_newDay 15 = .ok (.iconst 0, 1) := by decide +kernel
theorem dL_newDay_16 : decode cL_newDay 16 = .ok (.ireturn, 1) := by decide +kernel
theorem dL_take_0 : decode cL_take 0 = .ok (.aload_n 1, 1) := by decide +kernel
theorem dL_take_1 : decode cL_take 1 = .ok (.iconst 0, 1) := by decide +kernel
theorem dL_take_2 : decode cL_take 2 = .ok (.aload_n 0, 1) := by decide +kernel
theorem dL_take_3 : decode cL_take 3 = .ok (.invokevirtual 50, 3) := by decide +kernel
theorem dL_take_6 : decode cL_take 6 = .ok (.i2l, 1) := by decide +kernel
theorem dL_take_7 : decode cL_take 7 = .ok (.lastore, 1) := by decide +kernel
theorem dL_take_8 : decode cL_take 8 = .ok (.goto 6, 3) := by decide +kernel
theorem dL_take_11 : decode cL_take 11 = .ok (.astore_n 2, 1) := by decide +kernel
theorem dL_take_12 : decode cL_take 12 = .ok (.iconst 1, 1) := by decide +kernel
theorem dL_take_13 : decode cL_take 13 = .ok (.ireturn, 1) := by decide +kernel
theorem dL_take_14 : decode cL_take 14 = .ok (.iconst 0, 1) := by decide +kernel
theorem dL_take_15 : decode cL_take 15 = .ok (.ireturn, 1) := by decide +kernel
theorem dL_partsOf_0 : decode cL_partsOf 0 = .ok (.aload_n 2, 1) := by decide +kernel
theorem dL_partsOf_1 : decode cL_partsOf 1 = .ok (.iconst 0, 1) := by decide +kernel
theorem dL_partsOf_2 : decode cL_partsOf 2 = .ok (.aload_n 0, 1) := by decide +kernel
theorem dL_partsOf_3 : decode cL_partsOf 3 = .ok (.iload_n 1, 1) := by decide +kernel
theorem dL_partsOf_4 : decode cL_partsOf 4 = .ok (.invokevirtual 54, 3) := by decide +kernel
theorem dL_partsOf_7 : decode cL_partsOf 7 = .ok (.i2l, 1) := by decide +kernel
theorem dL_partsOf_8 : decode cL_partsOf 8 = .ok (.lastore, 1) := by decide +kernel
theorem dL_partsOf_9 : decode cL_partsOf 9 = .ok (.goto 6, 3) := by decide +kernel
theorem dL_partsOf_12 : decode cL_partsOf 12 = .ok (.astore_n 3, 1) := by decide +kernel
theorem dL_partsOf_13 : decode cL_partsOf 13 = .ok (.iconst 1, 1) := by decide +kernel
theorem dL_partsOf_14 : decode cL_partsOf 14 = .ok (.ireturn, 1) := by decide +kernel
theorem dL_partsOf_15 : decode cL_partsOf 15 = .ok (.iconst 0, 1) := by decide +kernel
theorem dL_partsOf_16 : decode cL_partsOf 16 = .ok (.ireturn, 1) := by decide +kernel
theorem dL_touches_0 : decode cL_touches 0 = .ok (.aload_n 2, 1) := by decide +kernel
theorem dL_touches_1 : decode cL_touches 1 = .ok (.iconst 0, 1) := by decide +kernel
theorem dL_touches_2 : decode cL_touches 2 = .ok (.aload_n 0, 1) := by decide +kernel
theorem dL_touches_3 : decode cL_touches 3 = .ok (.iload_n 1, 1) := by decide +kernel
theorem dL_touches_4 : decode cL_touches 4 = .ok (.invokevirtual 57, 3) := by decide +kernel
theorem dL_touches_7 : decode cL_touches 7 = .ok (.i2l, 1) := by decide +kernel
theorem dL_touches_8 : decode cL_touches 8 = .ok (.lastore, 1) := by decide +kernel
theorem dL_touches_9 : decode cL_touches 9 = .ok (.goto 6, 3) := by decide +kernel
theorem dL_touches_12 : decode cL_touches 12 = .ok (.astore_n 3, 1) := by decide +kernel
theorem dL_touches_13 : decode cL_touches 13 = .ok (.iconst 1, 1) := by decide +kernel
theorem dL_touches_14 : decode cL_touches 14 = .ok (.ireturn, 1) := by decide +kernel
theorem dL_touches_15 : decode cL_touches 15 = .ok (.iconst 0, 1) := by decide +kernel
theorem dL_touches_16 : decode cL_touches 16 = .ok (.ireturn, 1) := by decide +kernel
theorem dL_runs_0 : decode cL_runs 0 = .ok (.aload_n 2, 1) := by decide +kernel
theorem dL_runs_1 : decode cL_runs 1 = .ok (.iconst 0, 1) := by decide +kernel
theorem dL_runs_2 : decode cL_runs 2 = .ok (.aload_n 0, 1) := by decide +kernel
theorem dL_runs_3 : decode cL_runs 3 = .ok (.iload_n 1, 1) := by decide +kernel
theorem dL_runs_4 : decode cL_runs 4 = .ok (.invokevirtual 60, 3) := by decide +kernel
theorem dL_runs_7 : decode cL_runs 7 = .ok (.i2l, 1) := by decide +kernel
theorem dL_runs_8 : decode cL_runs 8 = .ok (.lastore, 1) := by decide +kernel
theorem dL_runs_9 : decode cL_runs 9 = .ok (.goto 6, 3) := by decide +kernel
theorem dL_runs_12 : decode cL_runs 12 = .ok (.astore_n 3, 1) := by decide +kernel
theorem dL_runs_13 : decode cL_runs 13 = .ok (.iconst 1, 1) := by decide +kernel
theorem dL_runs_14 : decode cL_runs 14 = .ok (.ireturn, 1) := by decide +kernel
theorem dL_runs_15 : decode cL_runs 15 = .ok (.iconst 0, 1) := by decide +kernel
theorem dL_runs_16 : decode cL_runs 16 = .ok (.ireturn, 1) := by decide +kernel
theorem dL_verdict_0 : decode cL_verdict 0 = .ok (.aload_n 3, 1) := by decide +kernel
theorem dL_verdict_1 : decode cL_verdict 1 = .ok (.iconst 0, 1) := by decide +kernel
theorem dL_verdict_2 : decode cL_verdict 2 = .ok (.aload_n 0, 1) := by decide +kernel
theorem dL_verdict_3 : decode cL_verdict 3 = .ok (.iload_n 1, 1) := by decide +kernel
theorem dL_verdict_4 : decode cL_verdict 4 = .ok (.iload_n 2, 1) := by decide +kernel
theorem dL_verdict_5 : decode cL_verdict 5 = .ok (.invokevirtual 63, 3) := by decide +kernel
theorem dL_verdict_8 : decode cL_verdict 8 = .ok (.i2l, 1) := by decide +kernel
theorem dL_verdict_9 : decode cL_verdict 9 = .ok (.lastore, 1) := by decide +kernel
theorem dL_verdict_10 : decode cL_verdict 10 = .ok (.goto 7, 3) := by decide +kernel
theorem dL_verdict_13 : decode cL_verdict 13 = .ok (.astore 4, 2) := by decide +kernel
theorem dL_verdict_15 : decode cL_verdict 15 = .ok (.iconst 1, 1) := by decide +kernel
theorem dL_verdict_16 : decode cL_verdict 16 = .ok (.ireturn, 1) := by decide +kernel
theorem dL_verdict_17 : decode cL_verdict 17 = .ok (.iconst 0, 1) := by decide +kernel
theorem dL_verdict_18 : decode cL_verdict 18 = .ok (.ireturn, 1) := by decide +kernel
theorem dL_failing_0 : decode cL_failing 0 = .ok (.aload_n 2, 1) := by decide +kernel
theorem dL_failing_1 : decode cL_failing 1 = .ok (.iconst 0, 1) := by decide +kernel
theorem dL_failing_2 : decode cL_failing 2 = .ok (.aload_n 0, 1) := by decide +kernel
theorem dL_failing_3 : decode cL_failing 3 = .ok (.iload_n 1, 1) := by decide +kernel
theorem dL_failing_4 : decode cL_failing 4 = .ok (.invokevirtual 66, 3) := by decide +kernel
theorem dL_failing_7 : decode cL_failing 7 = .ok (.i2l, 1) := by decide +kernel
theorem dL_failing_8 : decode cL_failing 8 = .ok (.lastore, 1) := by decide +kernel
theorem dL_failing_9 : decode cL_failing 9 = .ok (.goto 6, 3) := by decide +kernel
theorem dL_failing_12 : decode cL_failing 12 = .ok (.astore_n 3, 1) := by decide +kernel
theorem dL_failing_13 : decode cL_failing 13 = .ok (.iconst 1, 1) := by decide +kernel
theorem dL_failing_14 : decode cL_failing 14 = .ok (.ireturn, 1) := by decide +kernel
theorem dL_failing_15 : decode cL_failing 15 = .ok (.iconst 0, 1) := by decide +kernel
theorem dL_failing_16 : decode cL_failing 16 = .ok (.ireturn, 1) := by decide +kernel
theorem dL_isQuarantined_0 : decode cL_isQuarantined 0 = .ok (.aload_n 2, 1) := by decide +kernel
theorem dL_isQuarantined_1 : decode cL_isQuarantined 1 = .ok (.iconst 0, 1) := by decide +kernel
theorem dL_isQuarantined_2 : decode cL_isQuarantined 2 = .ok (.aload_n 0, 1) := by decide +kernel
theorem dL_isQuarantined_3 : decode cL_isQuarantined 3 = .ok (.iload_n 1, 1) := by decide +kernel
theorem dL_isQuarantined_4 : decode cL_isQuarantined 4 = .ok (.invokevirtual 69, 3) := by decide +kernel
theorem dL_isQuarantined_7 : decode cL_isQuarantined 7 = .ok (.ifCond .eq 7, 3) := by decide +kernel
theorem dL_isQuarantined_10 : decode cL_isQuarantined 10 = .ok (.lconst 1, 1) := by decide +kernel
theorem dL_isQuarantined_11 : decode cL_isQuarantined 11 = .ok (.goto 4, 3) := by decide +kernel
theorem dL_isQuarantined_14 : decode cL_isQuarantined 14 = .ok (.lconst 0, 1) := by decide +kernel
theorem dL_isQuarantined_15 : decode cL_isQuarantined 15 = .ok (.lastore, 1) := by decide +kernel
theorem dL_isQuarantined_16 : decode cL_isQuarantined 16 = .ok (.goto 6, 3) := by decide +kernel
theorem dL_isQuarantined_19 : decode cL_isQuarantined 19 = .ok (.astore_n 3, 1) := by decide +kernel
theorem dL_isQuarantined_20 : decode cL_isQuarantined 20 = .ok (.iconst 1, 1) := by decide +kernel
theorem dL_isQuarantined_21 : decode cL_isQuarantined 21 = .ok (.ireturn, 1) := by decide +kernel
theorem dL_isQuarantined_22 : decode cL_isQuarantined 22 = .ok (.iconst 0, 1) := by decide +kernel
theorem dL_isQuarantined_23 : decode cL_isQuarantined 23 = .ok (.ireturn, 1) := by decide +kernel
theorem dL_broken_0 : decode cL_broken 0 = .ok (.aload_n 2, 1) := by decide +kernel
theorem dL_broken_1 : decode cL_broken 1 = .ok (.iconst 0, 1) := by decide +kernel
theorem dL_broken_2 : decode cL_broken 2 = .ok (.aload_n 0, 1) := by decide +kernel
theorem dL_broken_3 : decode cL_broken 3 = .ok (.iload_n 1, 1) := by decide +kernel
theorem dL_broken_4 : decode cL_broken 4 = .ok (.invokevirtual 73, 3) := by decide +kernel
theorem dL_broken_7 : decode cL_broken 7 = .ok (.i2l, 1) := by decide +kernel
theorem dL_broken_8 : decode cL_broken 8 = .ok (.lastore, 1) := by decide +kernel
theorem dL_broken_9 : decode cL_broken 9 = .ok (.goto 6, 3) := by decide +kernel
theorem dL_broken_12 : decode cL_broken 12 = .ok (.astore_n 3, 1) := by decide +kernel
theorem dL_broken_13 : decode cL_broken 13 = .ok (.iconst 1, 1) := by decide +kernel
theorem dL_broken_14 : decode cL_broken 14 = .ok (.ireturn, 1) := by decide +kernel
theorem dL_broken_15 : decode cL_broken 15 = .ok (.iconst 0, 1) := by decide +kernel
theorem dL_broken_16 : decode cL_broken 16 = .ok (.ireturn, 1) := by decide +kernel
theorem dL_suspects_0 : decode cL_suspects 0 = .ok (.aload_n 2, 1) := by decide +kernel
theorem dL_suspects_1 : decode cL_suspects 1 = .ok (.iconst 0, 1) := by decide +kernel
theorem dL_suspects_2 : decode cL_suspects 2 = .ok (.aload_n 0, 1) := by decide +kernel
theorem dL_suspects_3 : decode cL_suspects 3 = .ok (.iload_n 1, 1) := by decide +kernel
theorem dL_suspects_4 : decode cL_suspects 4 = .ok (.invokevirtual 76, 3) := by decide +kernel
theorem dL_suspects_7 : decode cL_suspects 7 = .ok (.lastore, 1) := by decide +kernel
theorem dL_suspects_8 : decode cL_suspects 8 = .ok (.goto 9, 3) := by decide +kernel
theorem dL_suspects_11 : decode cL_suspects 11 = .ok (.astore_n 3, 1) := by decide +kernel
theorem dL_suspects_12 : decode cL_suspects 12 = .ok (.iconst 1, 1) := by decide +kernel
theorem dL_suspects_13 : decode cL_suspects 13 = .ok (.ireturn, 1) := by decide +kernel
theorem dL_suspects_14 : decode cL_suspects 14 = .ok (.astore_n 3, 1) := by decide +kernel
theorem dL_suspects_15 : decode cL_suspects 15 = .ok (.iconst 2, 1) := by decide +kernel
theorem dL_suspects_16 : decode cL_suspects 16 = .ok (.ireturn, 1) := by decide +kernel
theorem dL_suspects_17 : decode cL_suspects 17 = .ok (.iconst 0, 1) := by decide +kernel
theorem dL_suspects_18 : decode cL_suspects 18 = .ok (.ireturn, 1) := by decide +kernel
theorem dL_contradictions_0 : decode cL_contradictions 0 = .ok (.aload_n 3, 1) := by decide +kernel
theorem dL_contradictions_1 : decode cL_contradictions 1 = .ok (.iconst 0, 1) := by decide +kernel
theorem dL_contradictions_2 : decode cL_contradictions 2 = .ok (.aload_n 0, 1) := by decide +kernel
theorem dL_contradictions_3 : decode cL_contradictions 3 = .ok (.iload_n 1, 1) := by decide +kernel
theorem dL_contradictions_4 : decode cL_contradictions 4 = .ok (.iload_n 2, 1) := by decide +kernel
theorem dL_contradictions_5 : decode cL_contradictions 5 = .ok (.invokevirtual 80, 3) := by decide +kernel
theorem dL_contradictions_8 : decode cL_contradictions 8 = .ok (.i2l, 1) := by decide +kernel
theorem dL_contradictions_9 : decode cL_contradictions 9 = .ok (.lastore, 1) := by decide +kernel
theorem dL_contradictions_10 : decode cL_contradictions 10 = .ok (.goto 11, 3) := by decide +kernel
theorem dL_contradictions_13 : decode cL_contradictions 13 = .ok (.astore 4, 2) := by decide +kernel
theorem dL_contradictions_15 : decode cL_contradictions 15 = .ok (.iconst 1, 1) := by decide +kernel
theorem dL_contradictions_16 : decode cL_contradictions 16 = .ok (.ireturn, 1) := by decide +kernel
theorem dL_contradictions_17 : decode cL_contradictions 17 = .ok (.astore 4, 2) := by decide +kernel
theorem dL_contradictions_19 : decode cL_contradictions 19 = .ok (.iconst 2, 1) := by decide +kernel
theorem dL_contradictions_20 : decode cL_contradictions 20 = .ok (.ireturn, 1) := by decide +kernel
theorem dL_contradictions_21 : decode cL_contradictions 21 = .ok (.iconst 0, 1) := by decide +kernel
theorem dL_contradictions_22 : decode cL_contradictions 22 = .ok (.ireturn, 1) := by decide +kernel
theorem dL_candidates_0 : decode cL_candidates 0 = .ok (.aload_n 2, 1) := by decide +kernel
theorem dL_candidates_1 : decode cL_candidates 1 = .ok (.iconst 0, 1) := by decide +kernel
theorem dL_candidates_2 : decode cL_candidates 2 = .ok (.aload_n 0, 1) := by decide +kernel
theorem dL_candidates_3 : decode cL_candidates 3 = .ok (.iload_n 1, 1) := by decide +kernel
theorem dL_candidates_4 : decode cL_candidates 4 = .ok (.invokevirtual 83, 3) := by decide +kernel
theorem dL_candidates_7 : decode cL_candidates 7 = .ok (.lastore, 1) := by decide +kernel
theorem dL_candidates_8 : decode cL_candidates 8 = .ok (.goto 9, 3) := by decide +kernel
theorem dL_candidates_11 : decode cL_candidates 11 = .ok (.astore_n 3, 1) := by decide +kernel
theorem dL_candidates_12 : decode cL_candidates 12 = .ok (.iconst 1, 1) := by decide +kernel
theorem dL_candidates_13 : decode cL_candidates 13 = .ok (.ireturn, 1) := by decide +kernel
theorem dL_candidates_14 : decode cL_candidates 14 = .ok (.astore_n 3, 1) := by decide +kernel
theorem dL_candidates_15 : decode cL_candidates 15 = .ok (.iconst 2, 1) := by decide +kernel
theorem dL_candidates_16 : decode cL_candidates 16 = .ok (.ireturn, 1) := by decide +kernel
theorem dL_candidates_17 : decode cL_candidates 17 = .ok (.iconst 0, 1) := by decide +kernel
theorem dL_candidates_18 : decode cL_candidates 18 = .ok (.ireturn, 1) := by decide +kernel
theorem dL_likeliest_0 : decode cL_likeliest 0 = .ok (.aload_n 2, 1) := by decide +kernel
theorem dL_likeliest_1 : decode cL_likeliest 1 = .ok (.iconst 0, 1) := by decide +kernel
theorem dL_likeliest_2 : decode cL_likeliest 2 = .ok (.aload_n 0, 1) := by decide +kernel
theorem dL_likeliest_3 : decode cL_likeliest 3 = .ok (.iload_n 1, 1) := by decide +kernel
theorem dL_likeliest_4 : decode cL_likeliest 4 = .ok (.invokevirtual 86, 3) := by decide +kernel
theorem dL_likeliest_7 : decode cL_likeliest 7 = .ok (.i2l, 1) := by decide +kernel
theorem dL_likeliest_8 : decode cL_likeliest 8 = .ok (.lastore, 1) := by decide +kernel
theorem dL_likeliest_9 : decode cL_likeliest 9 = .ok (.goto 9, 3) := by decide +kernel
theorem dL_likeliest_12 : decode cL_likeliest 12 = .ok (.astore_n 3, 1) := by decide +kernel
theorem dL_likeliest_13 : decode cL_likeliest 13 = .ok (.iconst 1, 1) := by decide +kernel
theorem dL_likeliest_14 : decode cL_likeliest 14 = .ok (.ireturn, 1) := by decide +kernel
theorem dL_likeliest_15 : decode cL_likeliest 15 = .ok (.astore_n 3, 1) := by decide +kernel
theorem dL_likeliest_16 : decode cL_likeliest 16 = .ok (.iconst 2, 1) := by decide +kernel
theorem dL_likeliest_17 : decode cL_likeliest 17 = .ok (.ireturn, 1) := by decide +kernel
theorem dL_likeliest_18 : decode cL_likeliest 18 = .ok (.iconst 0, 1) := by decide +kernel
theorem dL_likeliest_19 : decode cL_likeliest 19 = .ok (.ireturn, 1) := by decide +kernel
theorem dL_next_0 : decode cL_next 0 = .ok (.aload_n 2, 1) := by decide +kernel
theorem dL_next_1 : decode cL_next 1 = .ok (.iconst 0, 1) := by decide +kernel
theorem dL_next_2 : decode cL_next 2 = .ok (.aload_n 0, 1) := by decide +kernel
theorem dL_next_3 : decode cL_next 3 = .ok (.iload_n 1, 1) := by decide +kernel
theorem dL_next_4 : decode cL_next 4 = .ok (.invokevirtual 89, 3) := by decide +kernel
theorem dL_next_7 : decode cL_next 7 = .ok (.i2l, 1) := by decide +kernel
theorem dL_next_8 : decode cL_next 8 = .ok (.lastore, 1) := by decide +kernel
theorem dL_next_9 : decode cL_next 9 = .ok (.goto 9, 3) := by decide +kernel
theorem dL_next_12 : decode cL_next 12 = .ok (.astore_n 3, 1) := by decide +kernel
theorem dL_next_13 : decode cL_next 13 = .ok (.iconst 1, 1) := by decide +kernel
theorem dL_next_14 : decode cL_next 14 = .ok (.ireturn, 1) := by decide +kernel
theorem dL_next_15 : decode cL_next 15 = .ok (.astore_n 3, 1) := by decide +kernel
theorem dL_next_16 : decode cL_next 16 = .ok (.iconst 2, 1) := by decide +kernel
theorem dL_next_17 : decode cL_next 17 = .ok (.ireturn, 1) := by decide +kernel
theorem dL_next_18 : decode cL_next 18 = .ok (.iconst 0, 1) := by decide +kernel
theorem dL_next_19 : decode cL_next 19 = .ok (.ireturn, 1) := by decide +kernel
end
section
set_option maxRecDepth 20000 in
theorem ggX1_init_X0_init : GoodIn wsX1_init wsX0_init := goodIn_r _ [25, 26, 2, 3, 4, 27, 28, 29, 30, 31, 32, 48, 49, 50, 51, 52] (by decide +kernel) (by decide +kernel)
set_option maxRecDepth 20000 in
theorem gX1_init_X0_init_n21 : GoodIn wsX1_init (wsX0_init) := ggX1_init_X0_init
set_option maxRecDepth 20000 in
theorem ggX1_setUses_X1_needParts : GoodIn wsX1_setUses wsX1_needParts := goodIn_ca (goodIn_r _ [7, 8, 9, 10] (by decide +kernel) (by decide +kernel)) (goodIn_sub (fun _ h => List.mem_cons_of_mem _ (List.mem_append_right _ h)) (by decide +kernel))
set_option maxRecDepth 20000 in
theorem gX1_setUses_X1_needParts : GoodIn wsX1_setUses (va_wsS RX1 68 yX1_needParts wsX1_needParts) := goodIn_app (goodIn_of _ (by decide +kernel)) ggX1_setUses_X1_needParts
set_option maxRecDepth 20000 in
theorem ggX1_addCommit_X1_needParts : GoodIn wsX1_addCommit wsX1_needParts := goodIn_ca (goodIn_r _ [8, 9, 10, 11] (by decide +kernel) (by decide +kernel)) (goodIn_sub (fun _ h => List.mem_cons_of_mem _ (List.mem_append_right _ h)) (by decide +kernel))
set_option maxRecDepth 20000 in
theorem gX1_addCommit_X1_needParts : GoodIn wsX1_addCommit (va_wsS RX1 68 yX1_needParts wsX1_needParts) := goodIn_app (goodIn_of _ (by decide +kernel)) ggX1_addCommit_X1_needParts
set_option maxRecDepth 20000 in
theorem ggX1_addTest_X1_needParts : GoodIn wsX1_addTest wsX1_needParts := goodIn_ca (goodIn_r _ [8, 9, 10, 11] (by decide +kernel) (by decide +kernel)) (goodIn_sub (fun _ h => List.mem_cons_of_mem _ (List.mem_append_right _ h)) (by decide +kernel))
set_option maxRecDepth 20000 in
theorem gX1_addTest_X1_needParts : GoodIn wsX1_addTest (va_wsS RX1 68 yX1_needParts wsX1_needParts) := goodIn_app (goodIn_of _ (by decide +kernel)) ggX1_addTest_X1_needParts
set_option maxRecDepth 20000 in
theorem ggX1_record_X1_needTest : GoodIn wsX1_record wsX1_needTest := goodIn_ca (goodIn_r _ [8, 9, 10, 11, 31, 32, 33, 34, 35, 36, 37, 38, 39, 40, 41, 42, 43, 44, 45] (by decide +kernel) (by decide +kernel)) (goodIn_sub (fun _ h => List.mem_cons_of_mem _ (List.mem_append_right _ h)) (by decide +kernel))
set_option maxRecDepth 20000 in
theorem gX1_record_X1_needTest : GoodIn wsX1_record (wsV RX1 88 RX1 yX1_needTest wsX1_needTest) := goodIn_app (goodIn_of _ (by decide +kernel)) ggX1_record_X1_needTest
set_option maxRecDepth 20000 in
theorem ggX1_record_X1_needCommit : GoodIn wsX1_record wsX1_needCommit := goodIn_ca (goodIn_r _ [15, 9, 10, 16, 31, 32, 33, 34, 35, 36, 37, 38, 39, 40, 41, 42, 43, 44, 45] (by decide +kernel) (by decide +kernel)) (goodIn_sub (fun _ h => List.mem_cons_of_mem _ (List.mem_append_right _ h)) (by decide +kernel))
set_option maxRecDepth 20000 in
theorem gX1_record_X1_needCommit : GoodIn wsX1_record (wsV RX1 91 RX1 yX1_needCommit wsX1_needCommit) := goodIn_app (goodIn_of _ (by decide +kernel)) ggX1_record_X1_needCommit
set_option maxRecDepth 20000 in
theorem ggX1_record_X0_add : GoodIn wsX1_record wsX0_add := goodIn_r _ [21, 22, 23, 24, 25, 26, 46, 47, 48, 49, 50] (by decide +kernel) (by decide +kernel)
set_option maxRecDepth 20000 in
theorem gX1_record_X0_add : GoodIn wsX1_record (wsV RX1 94 RX0 yX0_add wsX0_add) := goodIn_app (goodIn_of _ (by decide +kernel)) ggX1_record_X0_add
set_option maxRecDepth 20000 in
theorem ggX1_record_X0_verdictAt : GoodIn wsX1_record wsX0_verdictAt := goodIn_r _ [30, 25, 26, 46, 47, 48, 49, 50] (by decide +kernel) (by decide +kernel)
set_option maxRecDepth 20000 in
theorem gX1_record_X0_verdictAt : GoodIn wsX1_record (wsV RX1 100 RX0 yX0_verdictAt wsX0_verdictAt) := goodIn_app (goodIn_of _ (by decide +kernel)) ggX1_record_X0_verdictAt
set_option maxRecDepth 20000 in
theorem ggX1_triage_X1_needTest : GoodIn wsX1_triage wsX1_needTest := goodIn_ca (goodIn_r _ [10, 11, 12, 13, 57, 58, 59, 60, 61, 62, 63, 64, 65, 66, 67, 68, 69, 70, 71] (by decide +kernel) (by decide +kernel)) (goodIn_sub (fun _ h => List.mem_cons_of_mem _ (List.mem_append_right _ h)) (by decide +kernel))
set_option maxRecDepth 20000 in
theorem gX1_triage_X1_needTest : GoodIn wsX1_triage (wsV RX1 88 RX1 yX1_needTest wsX1_needTest) := goodIn_app (goodIn_of _ (by decide +kernel)) ggX1_triage_X1_needTest
set_option maxRecDepth 20000 in
theorem ggX1_triage_X1_needCommit : GoodIn wsX1_triage wsX1_needCommit := goodIn_ca (goodIn_r _ [17, 11, 12, 18, 57, 58, 59, 60, 61, 62, 63, 64, 65, 66, 67, 68, 69, 70, 71] (by decide +kernel) (by decide +kernel)) (goodIn_sub (fun _ h => List.mem_cons_of_mem _ (List.mem_append_right _ h)) (by decide +kernel))
set_option maxRecDepth 20000 in
theorem gX1_triage_X1_needCommit : GoodIn wsX1_triage (wsV RX1 91 RX1 yX1_needCommit wsX1_needCommit) := goodIn_app (goodIn_of _ (by decide +kernel)) ggX1_triage_X1_needCommit
set_option maxRecDepth 20000 in
theorem ggX1_triage_X1_candidatesOf : GoodIn wsX1_triage wsX1_candidatesOf := goodIn_r _ [22, 4, 5, 23, 24, 25, 26, 27, 9, 28, 29, 30, 31, 32, 33, 34, 35, 36, 37, 38, 39, 40, 41, 42, 43, 44, 45, 46, 47, 48, 49, 57, 58, 59, 60, 61, 62, 63, 64, 65, 66, 67, 68, 69, 70, 71, 72, 73, 74, 75, 76] (by decide +kernel) (by decide +kernel)
set_option maxRecDepth 20000 in
theorem gX1_triage_X1_candidatesOf : GoodIn wsX1_triage (wsV RX1 106 RX1 yX1_candidatesOf wsX1_candidatesOf) := goodIn_app (goodIn_of _ (by decide +kernel)) ggX1_triage_X1_candidatesOf
set_option maxRecDepth 20000 in
theorem ggX1_triage_J13_bitCount_95d88 : GoodIn wsX1_triage wsJ13_bitCount_95d88 := goodIn_r _ [53, 54, 55, 56] (by decide +kernel) (by decide +kernel)
set_option maxRecDepth 20000 in
theorem gX1_triage_J13_bitCount_95d88 : GoodIn wsX1_triage (va_wsS RX1 110 yJ13_bitCount_95d88 wsJ13_bitCount_95d88) := goodIn_app (goodIn_of _ (by decide +kernel)) ggX1_triage_J13_bitCount_95d88
set_option maxRecDepth 20000 in
theorem ggX1_close_X1_needTest : GoodIn wsX1_close wsX1_needTest := goodIn_ca (goodIn_r _ [6, 7, 8, 9, 66, 67, 68, 69, 70, 71, 72, 73, 74, 75, 76, 77, 78, 79, 80] (by decide +kernel) (by decide +kernel)) (goodIn_sub (fun _ h => List.mem_cons_of_mem _ (List.mem_append_left _ (List.mem_append_right _ h))) (by decide +kernel))
set_option maxRecDepth 20000 in
theorem gX1_close_X1_needTest : GoodIn wsX1_close (wsV RX1 88 RX1 yX1_needTest wsX1_needTest) := goodIn_app (goodIn_of _ (by decide +kernel)) ggX1_close_X1_needTest
set_option maxRecDepth 20000 in
theorem ggX1_close_X1_needTriage : GoodIn wsX1_close wsX1_needTriage := goodIn_ca (goodIn_r _ [13, 14, 15, 1, 66, 67, 68, 69, 70, 71, 72, 73, 74, 75, 76, 77, 78, 79, 80] (by decide +kernel) (by decide +kernel)) (goodIn_sub (fun _ h => List.mem_cons_of_mem _ (List.mem_append_right _ h)) (by decide +kernel))
set_option maxRecDepth 20000 in
theorem gX1_close_X1_needTriage : GoodIn wsX1_close (wsV RX1 116 RX1 yX1_needTriage wsX1_needTriage) := goodIn_app (goodIn_of _ (by decide +kernel)) ggX1_close_X1_needTriage
set_option maxRecDepth 20000 in
theorem ggX1_close_X1_candidatesOf : GoodIn wsX1_close wsX1_candidatesOf := goodIn_r _ [19, 20, 21, 22, 23, 24, 25, 26, 5, 27, 28, 29, 30, 31, 32, 33, 34, 35, 36, 37, 38, 39, 40, 41, 42, 43, 44, 45, 46, 47, 48, 66, 67, 68, 69, 70, 71, 72, 73, 74, 75, 76, 77, 78, 79, 80, 81, 82, 83, 84, 85] (by decide +kernel) (by decide +kernel)
set_option maxRecDepth 20000 in
theorem gX1_close_X1_candidatesOf : GoodIn wsX1_close (wsV RX1 106 RX1 yX1_candidatesOf wsX1_candidatesOf) := goodIn_app (goodIn_of _ (by decide +kernel)) ggX1_close_X1_candidatesOf
set_option maxRecDepth 20000 in
theorem ggX1_close_J13_bitCount_95d88 : GoodIn wsX1_close wsJ13_bitCount_95d88 := goodIn_r _ [52, 53, 54, 55] (by decide +kernel) (by decide +kernel)
set_option maxRecDepth 20000 in
theorem gX1_close_J13_bitCount_95d88 : GoodIn wsX1_close (va_wsS RX1 110 yJ13_bitCount_95d88 wsJ13_bitCount_95d88) := goodIn_app (goodIn_of _ (by decide +kernel)) ggX1_close_J13_bitCount_95d88
set_option maxRecDepth 20000 in
theorem ggX1_close_X1_likeliestOf : GoodIn wsX1_close wsX1_likeliestOf := goodIn_r _ [59, 20, 21, 22, 24, 25, 26, 5, 27, 28, 29, 30, 31, 32, 33, 34, 35, 36, 37, 38, 39, 40, 41, 42, 43, 44, 45, 46, 47, 48, 66, 67, 68, 69, 70, 71, 72, 73, 74, 75, 76, 77, 78, 79, 80, 81, 82, 83, 84, 85] (by decide +kernel) (by decide +kernel)
set_option maxRecDepth 20000 in
theorem gX1_close_X1_likeliestOf : GoodIn wsX1_close (wsV RX1 119 RX1 yX1_likeliestOf wsX1_likeliestOf) := goodIn_app (goodIn_of _ (by decide +kernel)) ggX1_close_X1_likeliestOf
set_option maxRecDepth 20000 in
theorem ggX1_close_X1_leaveQueue : GoodIn wsX1_close wsX1_leaveQueue := goodIn_r _ [63, 64, 9, 65, 66, 67, 68, 69, 70, 71, 72, 73, 74, 75, 76, 77, 78, 79, 80] (by decide +kernel) (by decide +kernel)
set_option maxRecDepth 20000 in
theorem gX1_close_X1_leaveQueue : GoodIn wsX1_close (wsV RX1 123 RX1 yX1_leaveQueue wsX1_leaveQueue) := goodIn_app (goodIn_of _ (by decide +kernel)) ggX1_close_X1_leaveQueue
set_option maxRecDepth 20000 in
theorem ggX1_enqueue_X1_needTest : GoodIn wsX1_enqueue wsX1_needTest := goodIn_ca (goodIn_r _ [9, 10, 11, 12, 22, 23, 24, 25, 26, 27, 28, 29, 30, 31, 32, 33, 34, 35, 36] (by decide +kernel) (by decide +kernel)) (goodIn_sub (fun _ h => List.mem_cons_of_mem _ (List.mem_append_right _ h)) (by decide +kernel))
set_option maxRecDepth 20000 in
theorem gX1_enqueue_X1_needTest : GoodIn wsX1_enqueue (wsV RX1 88 RX1 yX1_needTest wsX1_needTest) := goodIn_app (goodIn_of _ (by decide +kernel)) ggX1_enqueue_X1_needTest
set_option maxRecDepth 20000 in
theorem ggX1_enqueue_X1_needTriage : GoodIn wsX1_enqueue wsX1_needTriage := goodIn_ca (goodIn_r _ [16, 1, 2, 17, 22, 23, 24, 25, 26, 27, 28, 29, 30, 31, 32, 33, 34, 35, 36] (by decide +kernel) (by decide +kernel)) (goodIn_sub (fun _ h => List.mem_cons_of_mem _ (List.mem_append_left _ (List.mem_append_right _ h))) (by decide +kernel))
set_option maxRecDepth 20000 in
theorem gX1_enqueue_X1_needTriage : GoodIn wsX1_enqueue (wsV RX1 116 RX1 yX1_needTriage wsX1_needTriage) := goodIn_app (goodIn_of _ (by decide +kernel)) ggX1_enqueue_X1_needTriage
set_option maxRecDepth 20000 in
theorem ggX1_enqueue_X1_joinQueue : GoodIn wsX1_enqueue wsX1_joinQueue := goodIn_r _ [21, 4, 3, 22, 23, 24, 25, 26, 27, 28, 29, 30, 31, 32, 33, 34, 35, 36] (by decide +kernel) (by decide +kernel)
set_option maxRecDepth 20000 in
theorem gX1_enqueue_X1_joinQueue : GoodIn wsX1_enqueue (wsV RX1 128 RX1 yX1_joinQueue wsX1_joinQueue) := goodIn_app (goodIn_of _ (by decide +kernel)) ggX1_enqueue_X1_joinQueue
set_option maxRecDepth 20000 in
theorem ggX1_take_X1_firstInQueue : GoodIn wsX1_take wsX1_firstInQueue := goodIn_r _ [8, 9, 10, 60, 61, 62, 63, 64, 65, 66, 67, 68, 69, 70, 71, 72, 73, 74] (by decide +kernel) (by decide +kernel)
set_option maxRecDepth 20000 in
theorem gX1_take_X1_firstInQueue : GoodIn wsX1_take (wsV RX1 133 RX1 yX1_firstInQueue wsX1_firstInQueue) := goodIn_app (goodIn_of _ (by decide +kernel)) ggX1_take_X1_firstInQueue
set_option maxRecDepth 20000 in
theorem ggX1_take_X1_leaveQueue : GoodIn wsX1_take wsX1_leaveQueue := goodIn_r _ [14, 10, 9, 15, 60, 61, 62, 63, 64, 65, 66, 67, 68, 69, 70, 71, 72, 73, 74] (by decide +kernel) (by decide +kernel)
set_option maxRecDepth 20000 in
theorem gX1_take_X1_leaveQueue : GoodIn wsX1_take (wsV RX1 123 RX1 yX1_leaveQueue wsX1_leaveQueue) := goodIn_app (goodIn_of _ (by decide +kernel)) ggX1_take_X1_leaveQueue
set_option maxRecDepth 20000 in
theorem ggX1_take_X1_candidatesOf : GoodIn wsX1_take wsX1_candidatesOf := goodIn_r _ [19, 20, 21, 22, 23, 24, 25, 26, 7, 27, 28, 29, 30, 31, 32, 33, 34, 35, 36, 37, 38, 39, 40, 41, 42, 43, 44, 45, 46, 47, 48, 60, 61, 62, 63, 64, 65, 66, 67, 68, 69, 70, 71, 72, 73, 74, 75, 76, 77, 78, 79] (by decide +kernel) (by decide +kernel)
set_option maxRecDepth 20000 in
theorem gX1_take_X1_candidatesOf : GoodIn wsX1_take (wsV RX1 106 RX1 yX1_candidatesOf wsX1_candidatesOf) := goodIn_app (goodIn_of _ (by decide +kernel)) ggX1_take_X1_candidatesOf
set_option maxRecDepth 20000 in
theorem ggX1_take_J13_bitCount_95d88 : GoodIn wsX1_take wsJ13_bitCount_95d88 := goodIn_r _ [52, 53, 54, 55] (by decide +kernel) (by decide +kernel)
set_option maxRecDepth 20000 in
theorem gX1_take_J13_bitCount_95d88 : GoodIn wsX1_take (va_wsS RX1 110 yJ13_bitCount_95d88 wsJ13_bitCount_95d88) := goodIn_app (goodIn_of _ (by decide +kernel)) ggX1_take_J13_bitCount_95d88
set_option maxRecDepth 20000 in
theorem ggX1_take_X1_joinQueue : GoodIn wsX1_take wsX1_joinQueue := goodIn_r _ [59, 15, 10, 60, 61, 62, 63, 64, 65, 66, 67, 68, 69, 70, 71, 72, 73, 74] (by decide +kernel) (by decide +kernel)
set_option maxRecDepth 20000 in
theorem gX1_take_X1_joinQueue : GoodIn wsX1_take (wsV RX1 128 RX1 yX1_joinQueue wsX1_joinQueue) := goodIn_app (goodIn_of _ (by decide +kernel)) ggX1_take_X1_joinQueue
set_option maxRecDepth 20000 in
theorem ggX1_partsOf_X1_needTest : GoodIn wsX1_partsOf wsX1_needTest := goodIn_ca (goodIn_r _ [5, 6, 7, 8, 18, 19, 20, 21, 22, 23, 24, 25, 26, 27, 28, 29, 30, 31, 32] (by decide +kernel) (by decide +kernel)) (goodIn_sub (fun _ h => List.mem_cons_of_mem _ (List.mem_append_right _ h)) (by decide +kernel))
set_option maxRecDepth 20000 in
theorem gX1_partsOf_X1_needTest : GoodIn wsX1_partsOf (wsV RX1 88 RX1 yX1_needTest wsX1_needTest) := goodIn_app (goodIn_of _ (by decide +kernel)) ggX1_partsOf_X1_needTest
set_option maxRecDepth 20000 in
theorem ggX1_partsOf_X1_allPartsOf : GoodIn wsX1_partsOf wsX1_allPartsOf := goodIn_r _ [12, 13, 14, 15, 16, 4, 17, 18, 19, 20, 21, 22, 23, 24, 25, 26, 27, 28, 29, 30, 31, 32] (by decide +kernel) (by decide +kernel)
set_option maxRecDepth 20000 in
theorem gX1_partsOf_X1_allPartsOf : GoodIn wsX1_partsOf (wsV RX1 141 RX1 yX1_allPartsOf wsX1_allPartsOf) := goodIn_app (goodIn_of _ (by decide +kernel)) ggX1_partsOf_X1_allPartsOf
set_option maxRecDepth 20000 in
theorem ggX1_touches_X1_needCommit : GoodIn wsX1_touches wsX1_needCommit := goodIn_ca (goodIn_r _ [7, 8, 9, 10, 20, 21, 22, 23, 24, 25, 26, 27, 28, 29, 30, 31, 32, 33, 34] (by decide +kernel) (by decide +kernel)) (goodIn_sub (fun _ h => List.mem_cons_of_mem _ (List.mem_append_right _ h)) (by decide +kernel))
set_option maxRecDepth 20000 in
theorem gX1_touches_X1_needCommit : GoodIn wsX1_touches (wsV RX1 91 RX1 yX1_needCommit wsX1_needCommit) := goodIn_app (goodIn_of _ (by decide +kernel)) ggX1_touches_X1_needCommit
set_option maxRecDepth 20000 in
theorem ggX1_touches_X1_allPartsOf : GoodIn wsX1_touches wsX1_allPartsOf := goodIn_r _ [14, 15, 16, 17, 18, 6, 19, 20, 21, 22, 23, 24, 25, 26, 27, 28, 29, 30, 31, 32, 33, 34] (by decide +kernel) (by decide +kernel)
set_option maxRecDepth 20000 in
theorem gX1_touches_X1_allPartsOf : GoodIn wsX1_touches (wsV RX1 141 RX1 yX1_allPartsOf wsX1_allPartsOf) := goodIn_app (goodIn_of _ (by decide +kernel)) ggX1_touches_X1_allPartsOf
set_option maxRecDepth 20000 in
theorem ggX1_runs_X1_needTest : GoodIn wsX1_runs wsX1_needTest := goodIn_ca (goodIn_r _ [6, 7, 8, 9, 16, 17, 18, 19, 20, 21, 22, 23, 24, 25, 26, 27, 28, 29, 30] (by decide +kernel) (by decide +kernel)) (goodIn_sub (fun _ h => List.mem_cons_of_mem _ (List.mem_append_right _ h)) (by decide +kernel))
set_option maxRecDepth 20000 in
theorem gX1_runs_X1_needTest : GoodIn wsX1_runs (wsV RX1 88 RX1 yX1_needTest wsX1_needTest) := goodIn_app (goodIn_of _ (by decide +kernel)) ggX1_runs_X1_needTest
set_option maxRecDepth 20000 in
theorem ggX1_runs_X0_countOf : GoodIn wsX1_runs wsX0_countOf := goodIn_r _ [14, 15, 31, 32, 33, 34, 35] (by decide +kernel) (by decide +kernel)
set_option maxRecDepth 20000 in
theorem gX1_runs_X0_countOf : GoodIn wsX1_runs (wsV RX1 144 RX0 yX0_countOf wsX0_countOf) := goodIn_app (goodIn_of _ (by decide +kernel)) ggX1_runs_X0_countOf
set_option maxRecDepth 20000 in
theorem ggX1_verdict_X1_needTest : GoodIn wsX1_verdict wsX1_needTest := goodIn_ca (goodIn_r _ [6, 7, 8, 9, 22, 23, 24, 25, 26, 27, 28, 29, 30, 31, 32, 33, 34, 35, 36] (by decide +kernel) (by decide +kernel)) (goodIn_sub (fun _ h => List.mem_cons_of_mem _ (List.mem_append_right _ h)) (by decide +kernel))
set_option maxRecDepth 20000 in
theorem gX1_verdict_X1_needTest : GoodIn wsX1_verdict (wsV RX1 88 RX1 yX1_needTest wsX1_needTest) := goodIn_app (goodIn_of _ (by decide +kernel)) ggX1_verdict_X1_needTest
set_option maxRecDepth 20000 in
theorem ggX1_verdict_X1_needCommit : GoodIn wsX1_verdict wsX1_needCommit := goodIn_ca (goodIn_r _ [13, 7, 8, 14, 22, 23, 24, 25, 26, 27, 28, 29, 30, 31, 32, 33, 34, 35, 36] (by decide +kernel) (by decide +kernel)) (goodIn_sub (fun _ h => List.mem_cons_of_mem _ (List.mem_append_right _ h)) (by decide +kernel))
set_option maxRecDepth 20000 in
theorem gX1_verdict_X1_needCommit : GoodIn wsX1_verdict (wsV RX1 91 RX1 yX1_needCommit wsX1_needCommit) := goodIn_app (goodIn_of _ (by decide +kernel)) ggX1_verdict_X1_needCommit
set_option maxRecDepth 20000 in
theorem ggX1_verdict_X0_verdictAt : GoodIn wsX1_verdict wsX0_verdictAt := goodIn_r _ [19, 20, 21, 37, 38, 39, 40, 41] (by decide +kernel) (by decide +kernel)
set_option maxRecDepth 20000 in
theorem gX1_verdict_X0_verdictAt : GoodIn wsX1_verdict (wsV RX1 100 RX0 yX0_verdictAt wsX0_verdictAt) := goodIn_app (goodIn_of _ (by decide +kernel)) ggX1_verdict_X0_verdictAt
set_option maxRecDepth 20000 in
theorem ggX1_failing_X1_needTest : GoodIn wsX1_failing wsX1_needTest := goodIn_ca (goodIn_r _ [6, 7, 8, 9, 21, 22, 23, 24, 25, 26, 27, 28, 29, 30, 31, 32, 33, 34, 35] (by decide +kernel) (by decide +kernel)) (goodIn_sub (fun _ h => List.mem_cons_of_mem _ (List.mem_append_right _ h)) (by decide +kernel))
set_option maxRecDepth 20000 in
theorem gX1_failing_X1_needTest : GoodIn wsX1_failing (wsV RX1 88 RX1 yX1_needTest wsX1_needTest) := goodIn_app (goodIn_of _ (by decide +kernel)) ggX1_failing_X1_needTest
set_option maxRecDepth 20000 in
theorem ggX1_failing_X0_countOf : GoodIn wsX1_failing wsX0_countOf := goodIn_r _ [14, 15, 36, 37, 38, 39, 40] (by decide +kernel) (by decide +kernel)
set_option maxRecDepth 20000 in
theorem gX1_failing_X0_countOf : GoodIn wsX1_failing (wsV RX1 144 RX0 yX0_countOf wsX0_countOf) := goodIn_app (goodIn_of _ (by decide +kernel)) ggX1_failing_X0_countOf
set_option maxRecDepth 20000 in
theorem ggX1_failing_X0_failuresOf : GoodIn wsX1_failing wsX0_failuresOf := goodIn_r _ [19, 20, 36, 37, 38, 39, 40] (by decide +kernel) (by decide +kernel)
set_option maxRecDepth 20000 in
theorem gX1_failing_X0_failuresOf : GoodIn wsX1_failing (wsV RX1 147 RX0 yX0_failuresOf wsX0_failuresOf) := goodIn_app (goodIn_of _ (by decide +kernel)) ggX1_failing_X0_failuresOf
set_option maxRecDepth 20000 in
theorem ggX1_isQuarantined_X1_needTest : GoodIn wsX1_isQuarantined wsX1_needTest := goodIn_ca (goodIn_r _ [5, 6, 7, 8, 28, 29, 30, 31, 32, 33, 34, 35, 36, 37, 38, 39, 40, 41, 42] (by decide +kernel) (by decide +kernel)) (goodIn_sub (fun _ h => List.mem_cons_of_mem _ (List.mem_append_right _ h)) (by decide +kernel))
set_option maxRecDepth 20000 in
theorem gX1_isQuarantined_X1_needTest : GoodIn wsX1_isQuarantined (wsV RX1 88 RX1 yX1_needTest wsX1_needTest) := goodIn_app (goodIn_of _ (by decide +kernel)) ggX1_isQuarantined_X1_needTest
set_option maxRecDepth 20000 in
theorem ggX1_isQuarantined_X1_isUnsteady : GoodIn wsX1_isQuarantined wsX1_isUnsteady := goodIn_r _ [12, 13, 14, 15, 16, 17, 18, 19, 20, 21, 22, 23, 24, 25, 26, 27, 28, 29, 30, 31, 32, 33, 34, 35, 36, 37, 38, 39, 40, 41, 42, 43, 44, 45, 46, 47] (by decide +kernel) (by decide +kernel)
set_option maxRecDepth 20000 in
theorem gX1_isQuarantined_X1_isUnsteady : GoodIn wsX1_isQuarantined (wsV RX1 150 RX1 yX1_isUnsteady wsX1_isUnsteady) := goodIn_app (goodIn_of _ (by decide +kernel)) ggX1_isQuarantined_X1_isUnsteady
set_option maxRecDepth 20000 in
theorem ggX1_broken_X1_needCommit : GoodIn wsX1_broken wsX1_needCommit := goodIn_ca (goodIn_r _ [7, 8, 9, 10, 28, 29, 30, 31, 32, 33, 34, 35, 36, 37, 38, 39, 40, 41, 42] (by decide +kernel) (by decide +kernel)) (goodIn_sub (fun _ h => List.mem_cons_of_mem _ (List.mem_append_right _ h)) (by decide +kernel))
set_option maxRecDepth 20000 in
theorem gX1_broken_X1_needCommit : GoodIn wsX1_broken (wsV RX1 91 RX1 yX1_needCommit wsX1_needCommit) := goodIn_app (goodIn_of _ (by decide +kernel)) ggX1_broken_X1_needCommit
set_option maxRecDepth 20000 in
theorem ggX1_broken_X0_verdictAt : GoodIn wsX1_broken wsX0_verdictAt := goodIn_r _ [15, 16, 17, 43, 44, 45, 46, 47] (by decide +kernel) (by decide +kernel)
set_option maxRecDepth 20000 in
theorem gX1_broken_X0_verdictAt : GoodIn wsX1_broken (wsV RX1 100 RX0 yX0_verdictAt wsX0_verdictAt) := goodIn_app (goodIn_of _ (by decide +kernel)) ggX1_broken_X0_verdictAt
set_option maxRecDepth 20000 in
theorem ggX1_broken_X1_isUnsteady : GoodIn wsX1_broken wsX1_isUnsteady := goodIn_r _ [21, 10, 22, 23, 24, 25, 26, 2, 27, 11, 12, 13, 14, 15, 16, 17, 28, 29, 30, 31, 32, 33, 34, 35, 36, 37, 38, 39, 40, 41, 42, 43, 44, 45, 46, 47] (by decide +kernel) (by decide +kernel)
set_option maxRecDepth 20000 in
theorem gX1_broken_X1_isUnsteady : GoodIn wsX1_broken (wsV RX1 150 RX1 yX1_isUnsteady wsX1_isUnsteady) := goodIn_app (goodIn_of _ (by decide +kernel)) ggX1_broken_X1_isUnsteady
set_option maxRecDepth 20000 in
theorem ggX1_suspects_X1_needTest : GoodIn wsX1_suspects wsX1_needTest := goodIn_ca (goodIn_r _ [5, 6, 7, 8, 32, 33, 34, 35, 36, 37, 38, 39, 40, 41, 42, 43, 44, 45, 46] (by decide +kernel) (by decide +kernel)) (goodIn_sub (fun _ h => List.mem_cons_of_mem _ (List.mem_append_left _ (List.mem_append_right _ h))) (by decide +kernel))
set_option maxRecDepth 20000 in
theorem gX1_suspects_X1_needTest : GoodIn wsX1_suspects (wsV RX1 88 RX1 yX1_needTest wsX1_needTest) := goodIn_app (goodIn_of _ (by decide +kernel)) ggX1_suspects_X1_needTest
set_option maxRecDepth 20000 in
theorem ggX1_suspects_X1_needTriage : GoodIn wsX1_suspects wsX1_needTriage := goodIn_ca (goodIn_r _ [12, 13, 14, 15, 32, 33, 34, 35, 36, 37, 38, 39, 40, 41, 42, 43, 44, 45, 46] (by decide +kernel) (by decide +kernel)) (goodIn_sub (fun _ h => List.mem_cons_of_mem _ (List.mem_append_right _ h)) (by decide +kernel))
set_option maxRecDepth 20000 in
theorem gX1_suspects_X1_needTriage : GoodIn wsX1_suspects (wsV RX1 116 RX1 yX1_needTriage wsX1_needTriage) := goodIn_app (goodIn_of _ (by decide +kernel)) ggX1_suspects_X1_needTriage
set_option maxRecDepth 20000 in
theorem ggX1_suspects_X1_suspectsOf : GoodIn wsX1_suspects wsX1_suspectsOf := goodIn_r _ [19, 20, 21, 22, 23, 24, 25, 4, 26, 27, 28, 29, 30, 31, 32, 33, 34, 35, 36, 37, 38, 39, 40, 41, 42, 43, 44, 45, 46] (by decide +kernel) (by decide +kernel)
set_option maxRecDepth 20000 in
theorem gX1_suspects_X1_suspectsOf : GoodIn wsX1_suspects (wsV RX1 154 RX1 yX1_suspectsOf wsX1_suspectsOf) := goodIn_app (goodIn_of _ (by decide +kernel)) ggX1_suspects_X1_suspectsOf
set_option maxRecDepth 20000 in
theorem ggX1_contradictions_X1_needTest : GoodIn wsX1_contradictions wsX1_needTest := goodIn_ca (goodIn_r _ [8, 9, 10, 11, 46, 47, 48, 49, 50, 51, 52, 53, 54, 55, 56, 57, 58, 59, 60] (by decide +kernel) (by decide +kernel)) (goodIn_sub (fun _ h => List.mem_cons_of_mem _ (List.mem_append_left _ (List.mem_append_right _ h))) (by decide +kernel))
set_option maxRecDepth 20000 in
theorem gX1_contradictions_X1_needTest : GoodIn wsX1_contradictions (wsV RX1 88 RX1 yX1_needTest wsX1_needTest) := goodIn_app (goodIn_of _ (by decide +kernel)) ggX1_contradictions_X1_needTest
set_option maxRecDepth 20000 in
theorem ggX1_contradictions_X1_needCommit : GoodIn wsX1_contradictions wsX1_needCommit := goodIn_ca (goodIn_r _ [15, 9, 10, 16, 46, 47, 48, 49, 50, 51, 52, 53, 54, 55, 56, 57, 58, 59, 60] (by decide +kernel) (by decide +kernel)) (goodIn_sub (fun _ h => List.mem_cons_of_mem _ (List.mem_append_left _ (List.mem_append_right _ h))) (by decide +kernel))
set_option maxRecDepth 20000 in
theorem gX1_contradictions_X1_needCommit : GoodIn wsX1_contradictions (wsV RX1 91 RX1 yX1_needCommit wsX1_needCommit) := goodIn_app (goodIn_of _ (by decide +kernel)) ggX1_contradictions_X1_needCommit
set_option maxRecDepth 20000 in
theorem ggX1_contradictions_X1_needTriage : GoodIn wsX1_contradictions wsX1_needTriage := goodIn_ca (goodIn_r _ [20, 21, 22, 23, 46, 47, 48, 49, 50, 51, 52, 53, 54, 55, 56, 57, 58, 59, 60] (by decide +kernel) (by decide +kernel)) (goodIn_sub (fun _ h => List.mem_cons_of_mem _ (List.mem_append_right _ h)) (by decide +kernel))
set_option maxRecDepth 20000 in
theorem gX1_contradictions_X1_needTriage : GoodIn wsX1_contradictions (wsV RX1 116 RX1 yX1_needTriage wsX1_needTriage) := goodIn_app (goodIn_of _ (by decide +kernel)) ggX1_contradictions_X1_needTriage
set_option maxRecDepth 20000 in
theorem ggX1_contradictions_X1_suspectsOf : GoodIn wsX1_contradictions wsX1_suspectsOf := goodIn_r _ [27, 2, 3, 28, 29, 30, 31, 7, 32, 33, 34, 35, 36, 37, 46, 47, 48, 49, 50, 51, 52, 53, 54, 55, 56, 57, 58, 59, 60] (by decide +kernel) (by decide +kernel)
set_option maxRecDepth 20000 in
theorem gX1_contradictions_X1_suspectsOf : GoodIn wsX1_contradictions (wsV RX1 154 RX1 yX1_suspectsOf wsX1_suspectsOf) := goodIn_app (goodIn_of _ (by decide +kernel)) ggX1_contradictions_X1_suspectsOf
set_option maxRecDepth 20000 in
theorem ggX1_contradictions_X1_has : GoodIn wsX1_contradictions wsX1_has := goodIn_r _ [37] (by decide +kernel) (by decide +kernel)
set_option maxRecDepth 20000 in
theorem gX1_contradictions_X1_has : GoodIn wsX1_contradictions (va_wsS RX1 157 yX1_has wsX1_has) := goodIn_app (goodIn_of _ (by decide +kernel)) ggX1_contradictions_X1_has
set_option maxRecDepth 20000 in
theorem ggX1_contradictions_X0_contradicting : GoodIn wsX1_contradictions wsX0_contradicting := goodIn_r _ [42, 43, 44, 45, 61, 62, 63, 64, 65] (by decide +kernel) (by decide +kernel)
set_option maxRecDepth 20000 in
theorem gX1_contradictions_X0_contradicting : GoodIn wsX1_contradictions (wsV RX1 161 RX0 yX0_contradicting wsX0_contradicting) := goodIn_app (goodIn_of _ (by decide +kernel)) ggX1_contradictions_X0_contradicting
set_option maxRecDepth 20000 in
theorem ggX1_candidates_X1_needTest : GoodIn wsX1_candidates wsX1_needTest := goodIn_ca (goodIn_r _ [5, 6, 7, 8, 49, 50, 51, 52, 53, 54, 55, 56, 57, 58, 59, 60, 61, 62, 63] (by decide +kernel) (by decide +kernel)) (goodIn_sub (fun _ h => List.mem_cons_of_mem _ (List.mem_append_left _ (List.mem_append_right _ h))) (by decide +kernel))
set_option maxRecDepth 20000 in
theorem gX1_candidates_X1_needTest : GoodIn wsX1_candidates (wsV RX1 88 RX1 yX1_needTest wsX1_needTest) := goodIn_app (goodIn_of _ (by decide +kernel)) ggX1_candidates_X1_needTest
set_option maxRecDepth 20000 in
theorem ggX1_candidates_X1_needTriage : GoodIn wsX1_candidates wsX1_needTriage := goodIn_ca (goodIn_r _ [12, 13, 14, 15, 49, 50, 51, 52, 53, 54, 55, 56, 57, 58, 59, 60, 61, 62, 63] (by decide +kernel) (by decide +kernel)) (goodIn_sub (fun _ h => List.mem_cons_of_mem _ (List.mem_append_right _ h)) (by decide +kernel))
set_option maxRecDepth 20000 in
theorem gX1_candidates_X1_needTriage : GoodIn wsX1_candidates (wsV RX1 116 RX1 yX1_needTriage wsX1_needTriage) := goodIn_app (goodIn_of _ (by decide +kernel)) ggX1_candidates_X1_needTriage
set_option maxRecDepth 20000 in
theorem ggX1_candidates_X1_candidatesOf : GoodIn wsX1_candidates wsX1_candidatesOf := goodIn_r _ [19, 20, 21, 22, 23, 24, 25, 26, 4, 27, 28, 29, 30, 31, 32, 33, 34, 35, 36, 37, 38, 39, 40, 41, 42, 43, 44, 45, 46, 47, 48, 49, 50, 51, 52, 53, 54, 55, 56, 57, 58, 59, 60, 61, 62, 63, 64, 65, 66, 67, 68] (by decide +kernel) (by decide +kernel)
set_option maxRecDepth 20000 in
theorem gX1_candidates_X1_candidatesOf : GoodIn wsX1_candidates (wsV RX1 106 RX1 yX1_candidatesOf wsX1_candidatesOf) := goodIn_app (goodIn_of _ (by decide +kernel)) ggX1_candidates_X1_candidatesOf
set_option maxRecDepth 20000 in
theorem ggX1_likeliest_X1_needTest : GoodIn wsX1_likeliest wsX1_needTest := goodIn_ca (goodIn_r _ [5, 6, 7, 8, 48, 49, 50, 51, 52, 53, 54, 55, 56, 57, 58, 59, 60, 61, 62] (by decide +kernel) (by decide +kernel)) (goodIn_sub (fun _ h => List.mem_cons_of_mem _ (List.mem_append_left _ (List.mem_append_right _ h))) (by decide +kernel))
set_option maxRecDepth 20000 in
theorem gX1_likeliest_X1_needTest : GoodIn wsX1_likeliest (wsV RX1 88 RX1 yX1_needTest wsX1_needTest) := goodIn_app (goodIn_of _ (by decide +kernel)) ggX1_likeliest_X1_needTest
set_option maxRecDepth 20000 in
theorem ggX1_likeliest_X1_needTriage : GoodIn wsX1_likeliest wsX1_needTriage := goodIn_ca (goodIn_r _ [12, 13, 14, 15, 48, 49, 50, 51, 52, 53, 54, 55, 56, 57, 58, 59, 60, 61, 62] (by decide +kernel) (by decide +kernel)) (goodIn_sub (fun _ h => List.mem_cons_of_mem _ (List.mem_append_right _ h)) (by decide +kernel))
set_option maxRecDepth 20000 in
theorem gX1_likeliest_X1_needTriage : GoodIn wsX1_likeliest (wsV RX1 116 RX1 yX1_needTriage wsX1_needTriage) := goodIn_app (goodIn_of _ (by decide +kernel)) ggX1_likeliest_X1_needTriage
set_option maxRecDepth 20000 in
theorem ggX1_likeliest_X1_likeliestOf : GoodIn wsX1_likeliest wsX1_likeliestOf := goodIn_r _ [19, 20, 21, 22, 23, 24, 25, 4, 26, 27, 28, 29, 30, 31, 32, 33, 34, 35, 36, 37, 38, 39, 40, 41, 42, 43, 44, 45, 46, 47, 48, 49, 50, 51, 52, 53, 54, 55, 56, 57, 58, 59, 60, 61, 62, 63, 64, 65, 66, 67] (by decide +kernel) (by decide +kernel)
set_option maxRecDepth 20000 in
theorem gX1_likeliest_X1_likeliestOf : GoodIn wsX1_likeliest (wsV RX1 119 RX1 yX1_likeliestOf wsX1_likeliestOf) := goodIn_app (goodIn_of _ (by decide +kernel)) ggX1_likeliest_X1_likeliestOf
set_option maxRecDepth 20000 in
theorem ggX1_next_X1_needTest : GoodIn wsX1_next wsX1_needTest := goodIn_ca (goodIn_r _ [8, 9, 10, 11, 67, 68, 69, 70, 71, 72, 73, 74, 75, 76, 77, 78, 79, 80, 81] (by decide +kernel) (by decide +kernel)) (goodIn_sub (fun _ h => List.mem_cons_of_mem _ (List.mem_append_left _ (List.mem_append_right _ h))) (by decide +kernel))
set_option maxRecDepth 20000 in
theorem gX1_next_X1_needTest : GoodIn wsX1_next (wsV RX1 88 RX1 yX1_needTest wsX1_needTest) := goodIn_app (goodIn_of _ (by decide +kernel)) ggX1_next_X1_needTest
set_option maxRecDepth 20000 in
theorem ggX1_next_X1_needTriage : GoodIn wsX1_next wsX1_needTriage := goodIn_ca (goodIn_r _ [15, 16, 17, 18, 67, 68, 69, 70, 71, 72, 73, 74, 75, 76, 77, 78, 79, 80, 81] (by decide +kernel) (by decide +kernel)) (goodIn_sub (fun _ h => List.mem_cons_of_mem _ (List.mem_append_right _ h)) (by decide +kernel))
set_option maxRecDepth 20000 in
theorem gX1_next_X1_needTriage : GoodIn wsX1_next (wsV RX1 116 RX1 yX1_needTriage wsX1_needTriage) := goodIn_app (goodIn_of _ (by decide +kernel)) ggX1_next_X1_needTriage
set_option maxRecDepth 20000 in
theorem ggX1_next_X1_candidatesOf : GoodIn wsX1_next wsX1_candidatesOf := goodIn_r _ [22, 1, 2, 3, 23, 24, 25, 26, 7, 27, 28, 29, 30, 31, 32, 33, 34, 35, 36, 37, 38, 39, 40, 41, 42, 43, 44, 45, 46, 47, 48, 67, 68, 69, 70, 71, 72, 73, 74, 75, 76, 77, 78, 79, 80, 81, 82, 83, 84, 85, 86] (by decide +kernel) (by decide +kernel)
set_option maxRecDepth 20000 in
theorem gX1_next_X1_candidatesOf : GoodIn wsX1_next (wsV RX1 106 RX1 yX1_candidatesOf wsX1_candidatesOf) := goodIn_app (goodIn_of _ (by decide +kernel)) ggX1_next_X1_candidatesOf
set_option maxRecDepth 20000 in
theorem ggX1_next_X1_weightAt : GoodIn wsX1_next wsX1_weightAt := goodIn_r _ [51, 52, 53, 54, 55, 56, 57, 58, 59, 60, 61, 62] (by decide +kernel) (by decide +kernel)
set_option maxRecDepth 20000 in
theorem gX1_next_X1_weightAt : GoodIn wsX1_next (va_wsS RX1 165 yX1_weightAt wsX1_weightAt) := goodIn_app (goodIn_of _ (by decide +kernel)) ggX1_next_X1_weightAt
set_option maxRecDepth 20000 in
theorem ggX1_next_X0_countAt : GoodIn wsX1_next wsX0_countAt := goodIn_r _ [66, 43, 48, 82, 83, 84, 85, 86] (by decide +kernel) (by decide +kernel)
set_option maxRecDepth 20000 in
theorem gX1_next_X0_countAt : GoodIn wsX1_next (wsV RX1 169 RX0 yX0_countAt wsX0_countAt) := goodIn_app (goodIn_of _ (by decide +kernel)) ggX1_next_X0_countAt
set_option maxRecDepth 20000 in
theorem ggX1_allPartsOf_X1_has : GoodIn wsX1_allPartsOf wsX1_has := goodIn_r _ [6] (by decide +kernel) (by decide +kernel)
set_option maxRecDepth 20000 in
theorem gX1_allPartsOf_X1_has : GoodIn wsX1_allPartsOf (va_wsS RX1 157 yX1_has wsX1_has) := goodIn_app (goodIn_of _ (by decide +kernel)) ggX1_allPartsOf_X1_has
set_option maxRecDepth 20000 in
theorem ggX1_isUnsteady_X0_verdictAt : GoodIn wsX1_isUnsteady wsX0_verdictAt := goodIn_r _ [13, 14, 15, 31, 32, 33, 34, 35] (by decide +kernel) (by decide +kernel)
set_option maxRecDepth 20000 in
theorem gX1_isUnsteady_X0_verdictAt : GoodIn wsX1_isUnsteady (wsV RX1 100 RX0 yX0_verdictAt wsX0_verdictAt) := goodIn_app (goodIn_of _ (by decide +kernel)) ggX1_isUnsteady_X0_verdictAt
set_option maxRecDepth 20000 in
theorem ggX1_suspectsOf_X1_allPartsOf : GoodIn wsX1_suspectsOf wsX1_allPartsOf := goodIn_r _ [8, 9, 10, 11, 12, 7, 13, 14, 15, 16, 17, 18, 19, 20, 21, 22, 23, 24, 25, 26, 27, 28] (by decide +kernel) (by decide +kernel)
set_option maxRecDepth 20000 in
theorem gX1_suspectsOf_X1_allPartsOf : GoodIn wsX1_suspectsOf (wsV RX1 141 RX1 yX1_allPartsOf wsX1_allPartsOf) := goodIn_app (goodIn_of _ (by decide +kernel)) ggX1_suspectsOf_X1_allPartsOf
set_option maxRecDepth 20000 in
theorem ggX1_candidatesOf_X1_suspectsOf : GoodIn wsX1_candidatesOf wsX1_suspectsOf := goodIn_r _ [9, 1, 2, 10, 11, 12, 13, 8, 14, 15, 16, 17, 18, 19, 31, 32, 33, 34, 35, 36, 37, 38, 39, 40, 41, 42, 43, 44, 45] (by decide +kernel) (by decide +kernel)
set_option maxRecDepth 20000 in
theorem gX1_candidatesOf_X1_suspectsOf : GoodIn wsX1_candidatesOf (wsV RX1 154 RX1 yX1_suspectsOf wsX1_suspectsOf) := goodIn_app (goodIn_of _ (by decide +kernel)) ggX1_candidatesOf_X1_suspectsOf
set_option maxRecDepth 20000 in
theorem ggX1_candidatesOf_X0_passesWithin : GoodIn wsX1_candidatesOf wsX0_passesWithin := goodIn_r _ [24, 25, 46, 47, 48, 49, 50] (by decide +kernel) (by decide +kernel)
set_option maxRecDepth 20000 in
theorem gX1_candidatesOf_X0_passesWithin : GoodIn wsX1_candidatesOf (wsV RX1 186 RX0 yX0_passesWithin wsX0_passesWithin) := goodIn_app (goodIn_of _ (by decide +kernel)) ggX1_candidatesOf_X0_passesWithin
set_option maxRecDepth 20000 in
theorem ggX1_candidatesOf_X0_riseBehind : GoodIn wsX1_candidatesOf wsX0_riseBehind := goodIn_r _ [29, 30, 25, 46, 47, 48, 49, 50] (by decide +kernel) (by decide +kernel)
set_option maxRecDepth 20000 in
theorem gX1_candidatesOf_X0_riseBehind : GoodIn wsX1_candidatesOf (wsV RX1 190 RX0 yX0_riseBehind wsX0_riseBehind) := goodIn_app (goodIn_of _ (by decide +kernel)) ggX1_candidatesOf_X0_riseBehind
set_option maxRecDepth 20000 in
theorem ggX1_candidatesOf_X1_has : GoodIn wsX1_candidatesOf wsX1_has := goodIn_r _ [19] (by decide +kernel) (by decide +kernel)
set_option maxRecDepth 20000 in
theorem gX1_candidatesOf_X1_has : GoodIn wsX1_candidatesOf (va_wsS RX1 157 yX1_has wsX1_has) := goodIn_app (goodIn_of _ (by decide +kernel)) ggX1_candidatesOf_X1_has
set_option maxRecDepth 20000 in
theorem ggX1_likeliestOf_X1_suspectsOf : GoodIn wsX1_likeliestOf wsX1_suspectsOf := goodIn_r _ [8, 1, 2, 9, 10, 11, 12, 7, 13, 14, 15, 16, 17, 18, 30, 31, 32, 33, 34, 35, 36, 37, 38, 39, 40, 41, 42, 43, 44] (by decide +kernel) (by decide +kernel)
set_option maxRecDepth 20000 in
theorem gX1_likeliestOf_X1_suspectsOf : GoodIn wsX1_likeliestOf (wsV RX1 154 RX1 yX1_suspectsOf wsX1_suspectsOf) := goodIn_app (goodIn_of _ (by decide +kernel)) ggX1_likeliestOf_X1_suspectsOf
set_option maxRecDepth 20000 in
theorem ggX1_likeliestOf_X0_passesWithin : GoodIn wsX1_likeliestOf wsX0_passesWithin := goodIn_r _ [23, 24, 45, 46, 47, 48, 49] (by decide +kernel) (by decide +kernel)
set_option maxRecDepth 20000 in
theorem gX1_likeliestOf_X0_passesWithin : GoodIn wsX1_likeliestOf (wsV RX1 186 RX0 yX0_passesWithin wsX0_passesWithin) := goodIn_app (goodIn_of _ (by decide +kernel)) ggX1_likeliestOf_X0_passesWithin
set_option maxRecDepth 20000 in
theorem ggX1_likeliestOf_X0_riseBehind : GoodIn wsX1_likeliestOf wsX0_riseBehind := goodIn_r _ [28, 29, 24, 45, 46, 47, 48, 49] (by decide +kernel) (by decide +kernel)
set_option maxRecDepth 20000 in
theorem gX1_likeliestOf_X0_riseBehind : GoodIn wsX1_likeliestOf (wsV RX1 190 RX0 yX0_riseBehind wsX0_riseBehind) := goodIn_app (goodIn_of _ (by decide +kernel)) ggX1_likeliestOf_X0_riseBehind
set_option maxRecDepth 20000 in
theorem ggX1_likeliestOf_X1_has : GoodIn wsX1_likeliestOf wsX1_has := goodIn_r _ [18] (by decide +kernel) (by decide +kernel)
set_option maxRecDepth 20000 in
theorem gX1_likeliestOf_X1_has : GoodIn wsX1_likeliestOf (va_wsS RX1 157 yX1_has wsX1_has) := goodIn_app (goodIn_of _ (by decide +kernel)) ggX1_likeliestOf_X1_has
set_option maxRecDepth 20000 in
theorem ggX1_weightAt_J13_bitCount_95d88 : GoodIn wsX1_weightAt wsJ13_bitCount_95d88 := goodIn_r _ [8, 9, 10, 11] (by decide +kernel) (by decide +kernel)
set_option maxRecDepth 20000 in
theorem gX1_weightAt_J13_bitCount_95d88 : GoodIn wsX1_weightAt (va_wsS RX1 110 yJ13_bitCount_95d88 wsJ13_bitCount_95d88) := goodIn_app (goodIn_of _ (by decide +kernel)) ggX1_weightAt_J13_bitCount_95d88
set_option maxRecDepth 20000 in
theorem ggX2_areParts_X2_in : GoodIn wsX2_areParts wsX2_in := goodIn_r _ [5] (by decide +kernel) (by decide +kernel)
set_option maxRecDepth 20000 in
theorem gX2_areParts_X2_in : GoodIn wsX2_areParts (va_wsS RX2 45 yX2_in wsX2_in) := goodIn_app (goodIn_of _ (by decide +kernel)) ggX2_areParts_X2_in
set_option maxRecDepth 20000 in
theorem ggX2_isTest_X2_in : GoodIn wsX2_isTest wsX2_in := goodIn_r _ [5] (by decide +kernel) (by decide +kernel)
set_option maxRecDepth 20000 in
theorem gX2_isTest_X2_in : GoodIn wsX2_isTest (va_wsS RX2 45 yX2_in wsX2_in) := goodIn_app (goodIn_of _ (by decide +kernel)) ggX2_isTest_X2_in
set_option maxRecDepth 20000 in
theorem ggX2_isCommit_X2_in : GoodIn wsX2_isCommit wsX2_in := goodIn_r _ [5] (by decide +kernel) (by decide +kernel)
set_option maxRecDepth 20000 in
theorem gX2_isCommit_X2_in : GoodIn wsX2_isCommit (va_wsS RX2 45 yX2_in wsX2_in) := goodIn_app (goodIn_of _ (by decide +kernel)) ggX2_isCommit_X2_in
set_option maxRecDepth 20000 in
theorem ggX2_isInTriage_X2_isTest : GoodIn wsX2_isInTriage wsX2_isTest := goodIn_r _ [6, 7, 8, 9, 5, 10, 11, 12, 13, 14, 15, 16, 17, 18, 19, 20, 21, 22, 23, 24, 25, 26] (by decide +kernel) (by decide +kernel)
set_option maxRecDepth 20000 in
theorem gX2_isInTriage_X2_isTest : GoodIn wsX2_isInTriage (wsV RX2 55 RX2 yX2_isTest wsX2_isTest) := goodIn_app (goodIn_of _ (by decide +kernel)) ggX2_isInTriage_X2_isTest
set_option maxRecDepth 20000 in
theorem ggX2_setUses_X2_in : GoodIn wsX2_setUses wsX2_in := goodIn_r _ [5] (by decide +kernel) (by decide +kernel)
set_option maxRecDepth 20000 in
theorem gX2_setUses_X2_in : GoodIn wsX2_setUses (va_wsS RX2 45 yX2_in wsX2_in) := goodIn_app (goodIn_of _ (by decide +kernel)) ggX2_setUses_X2_in
set_option maxRecDepth 20000 in
theorem ggX2_setUses_X2_areParts : GoodIn wsX2_setUses wsX2_areParts := goodIn_r _ [8, 9, 2, 3, 4, 5] (by decide +kernel) (by decide +kernel)
set_option maxRecDepth 20000 in
theorem gX2_setUses_X2_areParts : GoodIn wsX2_setUses (va_wsS RX2 59 yX2_areParts wsX2_areParts) := goodIn_app (goodIn_of _ (by decide +kernel)) ggX2_setUses_X2_areParts
set_option maxRecDepth 20000 in
theorem ggX2_setUses_X2_goes : GoodIn wsX2_setUses wsX2_goes := goodIn_r _ [13, 14, 15, 16, 17, 18, 19, 20, 21, 22, 23, 24, 25, 26, 27, 28, 29, 30] (by decide +kernel) (by decide +kernel)
set_option maxRecDepth 20000 in
theorem gX2_setUses_X2_goes : GoodIn wsX2_setUses (wsV RX2 62 RX2 yX2_goes wsX2_goes) := goodIn_app (goodIn_of _ (by decide +kernel)) ggX2_setUses_X2_goes
set_option maxRecDepth 20000 in
theorem ggX2_addCommit_X2_areParts : GoodIn wsX2_addCommit wsX2_areParts := goodIn_r _ [6, 7, 8, 9, 5, 10] (by decide +kernel) (by decide +kernel)
set_option maxRecDepth 20000 in
theorem gX2_addCommit_X2_areParts : GoodIn wsX2_addCommit (va_wsS RX2 59 yX2_areParts wsX2_areParts) := goodIn_app (goodIn_of _ (by decide +kernel)) ggX2_addCommit_X2_areParts
set_option maxRecDepth 20000 in
theorem ggX2_addCommit_X2_goes : GoodIn wsX2_addCommit wsX2_goes := goodIn_r _ [14, 15, 16, 17, 18, 19, 20, 21, 22, 23, 24, 25, 26, 27, 28, 29, 30, 31] (by decide +kernel) (by decide +kernel)
set_option maxRecDepth 20000 in
theorem gX2_addCommit_X2_goes : GoodIn wsX2_addCommit (wsV RX2 62 RX2 yX2_goes wsX2_goes) := goodIn_app (goodIn_of _ (by decide +kernel)) ggX2_addCommit_X2_goes
set_option maxRecDepth 20000 in
theorem ggX2_addTest_X2_areParts : GoodIn wsX2_addTest wsX2_areParts := goodIn_r _ [6, 7, 8, 9, 5, 10] (by decide +kernel) (by decide +kernel)
set_option maxRecDepth 20000 in
theorem gX2_addTest_X2_areParts : GoodIn wsX2_addTest (va_wsS RX2 59 yX2_areParts wsX2_areParts) := goodIn_app (goodIn_of _ (by decide +kernel)) ggX2_addTest_X2_areParts
set_option maxRecDepth 20000 in
theorem ggX2_addTest_X2_goes : GoodIn wsX2_addTest wsX2_goes := goodIn_r _ [14, 15, 16, 17, 18, 19, 20, 21, 22, 23, 24, 25, 26, 27, 28, 29, 30, 31] (by decide +kernel) (by decide +kernel)
set_option maxRecDepth 20000 in
theorem gX2_addTest_X2_goes : GoodIn wsX2_addTest (wsV RX2 62 RX2 yX2_goes wsX2_goes) := goodIn_app (goodIn_of _ (by decide +kernel)) ggX2_addTest_X2_goes
set_option maxRecDepth 20000 in
theorem ggX2_setQuarantine_X2_in : GoodIn wsX2_setQuarantine wsX2_in := goodIn_r _ [6] (by decide +kernel) (by decide +kernel)
set_option maxRecDepth 20000 in
theorem gX2_setQuarantine_X2_in : GoodIn wsX2_setQuarantine (va_wsS RX2 45 yX2_in wsX2_in) := goodIn_app (goodIn_of _ (by decide +kernel)) ggX2_setQuarantine_X2_in
set_option maxRecDepth 20000 in
theorem ggX2_setQuarantine_X2_goes : GoodIn wsX2_setQuarantine wsX2_goes := goodIn_r _ [10, 11, 12, 13, 14, 15, 16, 17, 18, 19, 20, 21, 22, 23, 24, 25, 26, 27] (by decide +kernel) (by decide +kernel)
set_option maxRecDepth 20000 in
theorem gX2_setQuarantine_X2_goes : GoodIn wsX2_setQuarantine (wsV RX2 62 RX2 yX2_goes wsX2_goes) := goodIn_app (goodIn_of _ (by decide +kernel)) ggX2_setQuarantine_X2_goes
set_option maxRecDepth 20000 in
theorem ggX2_setNoise_X2_in : GoodIn wsX2_setNoise wsX2_in := goodIn_r _ [5] (by decide +kernel) (by decide +kernel)
set_option maxRecDepth 20000 in
theorem gX2_setNoise_X2_in : GoodIn wsX2_setNoise (va_wsS RX2 45 yX2_in wsX2_in) := goodIn_app (goodIn_of _ (by decide +kernel)) ggX2_setNoise_X2_in
set_option maxRecDepth 20000 in
theorem ggX2_setNoise_X2_goes : GoodIn wsX2_setNoise wsX2_goes := goodIn_r _ [9, 10, 11, 12, 13, 14, 15, 16, 17, 18, 19, 20, 21, 22, 23, 24, 25, 26] (by decide +kernel) (by decide +kernel)
set_option maxRecDepth 20000 in
theorem gX2_setNoise_X2_goes : GoodIn wsX2_setNoise (wsV RX2 62 RX2 yX2_goes wsX2_goes) := goodIn_app (goodIn_of _ (by decide +kernel)) ggX2_setNoise_X2_goes
set_option maxRecDepth 20000 in
theorem ggX2_allRuns_X2_all : GoodIn wsX2_allRuns wsX2_all := goodIn_r _ [7] (by decide +kernel) (by decide +kernel)
set_option maxRecDepth 20000 in
theorem gX2_allRuns_X2_all : GoodIn wsX2_allRuns (wsV RX2 69 RX2 yX2_all wsX2_all) := goodIn_app (goodIn_of _ (by decide +kernel)) ggX2_allRuns_X2_all
set_option maxRecDepth 20000 in
theorem ggX2_isUnsteady_X2_verdictOf : GoodIn wsX2_isUnsteady wsX2_verdictOf := goodIn_r _ [8, 9, 10, 11, 12, 13, 14, 15, 16, 17, 18, 19, 20, 21, 22, 23, 24, 25, 26] (by decide +kernel) (by decide +kernel)
set_option maxRecDepth 20000 in
theorem gX2_isUnsteady_X2_verdictOf : GoodIn wsX2_isUnsteady (wsV RX2 73 RX2 yX2_verdictOf wsX2_verdictOf) := goodIn_app (goodIn_of _ (by decide +kernel)) ggX2_isUnsteady_X2_verdictOf
set_option maxRecDepth 20000 in
theorem ggX2_isSuspect_X2_reach : GoodIn wsX2_isSuspect wsX2_reach := goodIn_r _ [8, 9, 10, 11, 12, 13, 14, 15, 16, 17, 18, 19, 20, 21, 22, 23, 24, 25, 26] (by decide +kernel) (by decide +kernel)
set_option maxRecDepth 20000 in
theorem gX2_isSuspect_X2_reach : GoodIn wsX2_isSuspect (wsV RX2 77 RX2 yX2_reach wsX2_reach) := goodIn_app (goodIn_of _ (by decide +kernel)) ggX2_isSuspect_X2_reach
set_option maxRecDepth 20000 in
theorem ggX2_isCandidate_X2_isSuspect : GoodIn wsX2_isCandidate wsX2_isSuspect := goodIn_r _ [6, 7, 8, 9, 10, 11, 12, 5, 13, 14, 15, 22, 23, 24, 25, 26, 27, 28, 29, 30, 31, 32, 33, 34, 35, 36, 37] (by decide +kernel) (by decide +kernel)
set_option maxRecDepth 20000 in
theorem gX2_isCandidate_X2_isSuspect : GoodIn wsX2_isCandidate (wsV RX2 81 RX2 yX2_isSuspect wsX2_isSuspect) := goodIn_app (goodIn_of _ (by decide +kernel)) ggX2_isCandidate_X2_isSuspect
set_option maxRecDepth 20000 in
theorem ggX2_isCandidate_X2_against : GoodIn wsX2_isCandidate wsX2_against := goodIn_r _ [19, 7, 8, 20, 21, 22, 23, 24, 25, 26, 27, 28, 29, 30, 31, 32, 33, 34, 35, 36, 37] (by decide +kernel) (by decide +kernel)
set_option maxRecDepth 20000 in
theorem gX2_isCandidate_X2_against : GoodIn wsX2_isCandidate (wsV RX2 85 RX2 yX2_against wsX2_against) := goodIn_app (goodIn_of _ (by decide +kernel)) ggX2_isCandidate_X2_against
set_option maxRecDepth 20000 in
theorem ggX2_counts_X2_isCandidate : GoodIn wsX2_counts wsX2_isCandidate := goodIn_r _ [5, 6, 7, 8, 9, 4, 10, 11, 12, 13, 14, 15, 16, 17, 18, 19, 20, 21, 22, 23, 24, 25, 26, 27, 28, 29, 30, 31, 32, 33, 34, 35, 36, 37, 38, 39, 40, 41] (by decide +kernel) (by decide +kernel)
set_option maxRecDepth 20000 in
theorem gX2_counts_X2_isCandidate : GoodIn wsX2_counts (wsV RX2 88 RX2 yX2_isCandidate wsX2_isCandidate) := goodIn_app (goodIn_of _ (by decide +kernel)) ggX2_counts_X2_isCandidate
set_option maxRecDepth 20000 in
theorem ggX2_candidatesOf_X2_counts : GoodIn wsX2_candidatesOf wsX2_counts := goodIn_r _ [7, 8, 9, 10, 6, 11, 12, 13, 14, 15, 16, 1, 2, 17, 18, 19, 20, 21, 22, 23, 24, 25, 26, 27, 28, 29, 30, 31, 32, 33, 34, 35, 36, 37, 38, 39, 40, 41, 42, 43, 44, 45] (by decide +kernel) (by decide +kernel)
set_option maxRecDepth 20000 in
theorem gX2_candidatesOf_X2_counts : GoodIn wsX2_candidatesOf (wsV RX2 91 RX2 yX2_counts wsX2_counts) := goodIn_app (goodIn_of _ (by decide +kernel)) ggX2_candidatesOf_X2_counts
set_option maxRecDepth 20000 in
theorem ggX2_record_X2_isTest : GoodIn wsX2_record wsX2_isTest := goodIn_r _ [7, 8, 9, 10, 6, 11, 34, 35, 36, 37, 38, 39, 40, 41, 42, 43, 44, 45, 46, 47, 48, 49] (by decide +kernel) (by decide +kernel)
set_option maxRecDepth 20000 in
theorem gX2_record_X2_isTest : GoodIn wsX2_record (wsV RX2 55 RX2 yX2_isTest wsX2_isTest) := goodIn_app (goodIn_of _ (by decide +kernel)) ggX2_record_X2_isTest
set_option maxRecDepth 20000 in
theorem ggX2_record_X2_isCommit : GoodIn wsX2_record wsX2_isCommit := goodIn_r _ [15, 16, 9, 10, 6, 11, 34, 35, 36, 37, 38, 39, 40, 41, 42, 43, 44, 45, 46, 47, 48, 49] (by decide +kernel) (by decide +kernel)
set_option maxRecDepth 20000 in
theorem gX2_record_X2_isCommit : GoodIn wsX2_record (wsV RX2 95 RX2 yX2_isCommit wsX2_isCommit) := goodIn_app (goodIn_of _ (by decide +kernel)) ggX2_record_X2_isCommit
set_option maxRecDepth 20000 in
theorem ggX2_record_X2_allRuns : GoodIn wsX2_record wsX2_allRuns := goodIn_r _ [20, 1, 2, 21, 22, 23, 6, 24, 34, 35, 36, 37, 38, 39, 40, 41, 42, 43, 44, 45, 46, 47, 48, 49] (by decide +kernel) (by decide +kernel)
set_option maxRecDepth 20000 in
theorem gX2_record_X2_allRuns : GoodIn wsX2_record (wsV RX2 98 RX2 yX2_allRuns wsX2_allRuns) := goodIn_app (goodIn_of _ (by decide +kernel)) ggX2_record_X2_allRuns
set_option maxRecDepth 20000 in
theorem ggX2_record_X2_goes : GoodIn wsX2_record wsX2_goes := goodIn_r _ [28, 29, 34, 35, 36, 37, 38, 39, 40, 41, 42, 43, 44, 45, 46, 47, 48, 49] (by decide +kernel) (by decide +kernel)
set_option maxRecDepth 20000 in
theorem gX2_record_X2_goes : GoodIn wsX2_record (wsV RX2 62 RX2 yX2_goes wsX2_goes) := goodIn_app (goodIn_of _ (by decide +kernel)) ggX2_record_X2_goes
set_option maxRecDepth 20000 in
theorem ggX2_record_X2_verdictOf : GoodIn wsX2_record wsX2_verdictOf := goodIn_r _ [33, 1, 2, 34, 35, 36, 37, 38, 39, 40, 41, 42, 43, 44, 45, 46, 47, 48, 49] (by decide +kernel) (by decide +kernel)
set_option maxRecDepth 20000 in
theorem gX2_record_X2_verdictOf : GoodIn wsX2_record (wsV RX2 73 RX2 yX2_verdictOf wsX2_verdictOf) := goodIn_app (goodIn_of _ (by decide +kernel)) ggX2_record_X2_verdictOf
set_option maxRecDepth 20000 in
theorem ggX2_triage_X2_isTest : GoodIn wsX2_triage wsX2_isTest := goodIn_r _ [7, 8, 9, 10, 6, 11, 52, 53, 54, 55, 56, 57, 58, 59, 60, 61, 62, 63, 64, 65, 66, 67] (by decide +kernel) (by decide +kernel)
set_option maxRecDepth 20000 in
theorem gX2_triage_X2_isTest : GoodIn wsX2_triage (wsV RX2 55 RX2 yX2_isTest wsX2_isTest) := goodIn_app (goodIn_of _ (by decide +kernel)) ggX2_triage_X2_isTest
set_option maxRecDepth 20000 in
theorem ggX2_triage_X2_isCommit : GoodIn wsX2_triage wsX2_isCommit := goodIn_r _ [15, 16, 9, 10, 6, 11, 52, 53, 54, 55, 56, 57, 58, 59, 60, 61, 62, 63, 64, 65, 66, 67] (by decide +kernel) (by decide +kernel)
set_option maxRecDepth 20000 in
theorem gX2_triage_X2_isCommit : GoodIn wsX2_triage (wsV RX2 95 RX2 yX2_isCommit wsX2_isCommit) := goodIn_app (goodIn_of _ (by decide +kernel)) ggX2_triage_X2_isCommit
set_option maxRecDepth 20000 in
theorem ggX2_triage_X2_goes : GoodIn wsX2_triage wsX2_goes := goodIn_r _ [20, 21, 52, 53, 54, 55, 56, 57, 58, 59, 60, 61, 62, 63, 64, 65, 66, 67] (by decide +kernel) (by decide +kernel)
set_option maxRecDepth 20000 in
theorem gX2_triage_X2_goes : GoodIn wsX2_triage (wsV RX2 62 RX2 yX2_goes wsX2_goes) := goodIn_app (goodIn_of _ (by decide +kernel)) ggX2_triage_X2_goes
set_option maxRecDepth 20000 in
theorem ggX2_triage_X2_candidatesOf : GoodIn wsX2_triage wsX2_candidatesOf := goodIn_r _ [25, 1, 2, 26, 27, 28, 6, 29, 30, 31, 32, 33, 34, 35, 36, 37, 38, 39, 40, 41, 42, 43, 44, 45, 46, 47, 48, 49, 50, 51, 52, 53, 54, 55, 56, 57, 58, 59, 60, 61, 62, 63, 64, 65, 66, 67] (by decide +kernel) (by decide +kernel)
set_option maxRecDepth 20000 in
theorem gX2_triage_X2_candidatesOf : GoodIn wsX2_triage (wsV RX2 101 RX2 yX2_candidatesOf wsX2_candidatesOf) := goodIn_app (goodIn_of _ (by decide +kernel)) ggX2_triage_X2_candidatesOf
set_option maxRecDepth 20000 in
theorem ggX2_only_X2_isCandidate : GoodIn wsX2_only wsX2_isCandidate := goodIn_r _ [7, 8, 9, 10, 11, 6, 12, 1, 2, 13, 14, 15, 16, 17, 18, 19, 20, 21, 22, 23, 24, 25, 34, 35, 36, 37, 38, 39, 40, 41, 42, 43, 44, 45, 46, 47, 48, 49] (by decide +kernel) (by decide +kernel)
set_option maxRecDepth 20000 in
theorem gX2_only_X2_isCandidate : GoodIn wsX2_only (wsV RX2 88 RX2 yX2_isCandidate wsX2_isCandidate) := goodIn_app (goodIn_of _ (by decide +kernel)) ggX2_only_X2_isCandidate
set_option maxRecDepth 20000 in
theorem ggX2_only_X2_candidatesOf : GoodIn wsX2_only wsX2_candidatesOf := goodIn_r _ [29, 1, 2, 30, 31, 32, 6, 33, 3, 4, 5, 7, 8, 9, 10, 11, 12, 13, 14, 15, 16, 17, 18, 19, 20, 21, 22, 23, 24, 25, 34, 35, 36, 37, 38, 39, 40, 41, 42, 43, 44, 45, 46, 47, 48, 49] (by decide +kernel) (by decide +kernel)
set_option maxRecDepth 20000 in
theorem gX2_only_X2_candidatesOf : GoodIn wsX2_only (wsV RX2 101 RX2 yX2_candidatesOf wsX2_candidatesOf) := goodIn_app (goodIn_of _ (by decide +kernel)) ggX2_only_X2_candidatesOf
set_option maxRecDepth 20000 in
theorem ggX2_close_X2_isTest : GoodIn wsX2_close wsX2_isTest := goodIn_r _ [6, 7, 8, 9, 5, 10, 65, 66, 67, 68, 69, 70, 71, 72, 73, 74, 75, 76, 77, 78, 79, 80] (by decide +kernel) (by decide +kernel)
set_option maxRecDepth 20000 in
theorem gX2_close_X2_isTest : GoodIn wsX2_close (wsV RX2 55 RX2 yX2_isTest wsX2_isTest) := goodIn_app (goodIn_of _ (by decide +kernel)) ggX2_close_X2_isTest
set_option maxRecDepth 20000 in
theorem ggX2_close_X2_isInTriage : GoodIn wsX2_close wsX2_isInTriage := goodIn_r _ [14, 1, 2, 3, 4, 5, 6, 7, 8, 9, 10, 65, 66, 67, 68, 69, 70, 71, 72, 73, 74, 75, 76, 77, 78, 79, 80] (by decide +kernel) (by decide +kernel)
set_option maxRecDepth 20000 in
theorem gX2_close_X2_isInTriage : GoodIn wsX2_close (wsV RX2 107 RX2 yX2_isInTriage wsX2_isInTriage) := goodIn_app (goodIn_of _ (by decide +kernel)) ggX2_close_X2_isInTriage
set_option maxRecDepth 20000 in
theorem ggX2_close_X2_goes : GoodIn wsX2_close wsX2_goes := goodIn_r _ [18, 19, 65, 66, 67, 68, 69, 70, 71, 72, 73, 74, 75, 76, 77, 78, 79, 80] (by decide +kernel) (by decide +kernel)
set_option maxRecDepth 20000 in
theorem gX2_close_X2_goes : GoodIn wsX2_close (wsV RX2 62 RX2 yX2_goes wsX2_goes) := goodIn_app (goodIn_of _ (by decide +kernel)) ggX2_close_X2_goes
set_option maxRecDepth 20000 in
theorem ggX2_close_X2_only : GoodIn wsX2_close wsX2_only := goodIn_r _ [23, 1, 24, 25, 26, 27, 5, 28, 29, 30, 31, 32, 33, 34, 35, 36, 37, 38, 39, 40, 41, 42, 43, 44, 45, 46, 47, 48, 49, 50, 51, 52, 53, 54, 65, 66, 67, 68, 69, 70, 71, 72, 73, 74, 75, 76, 77, 78, 79, 80] (by decide +kernel) (by decide +kernel)
set_option maxRecDepth 20000 in
theorem gX2_close_X2_only : GoodIn wsX2_close (wsV RX2 110 RX2 yX2_only wsX2_only) := goodIn_app (goodIn_of _ (by decide +kernel)) ggX2_close_X2_only
set_option maxRecDepth 20000 in
theorem ggX2_close_X2_placeOf : GoodIn wsX2_close wsX2_placeOf := goodIn_r _ [58, 59, 60, 65, 66, 67, 68, 69, 70, 71, 72, 73, 74, 75, 76, 77, 78, 79, 80] (by decide +kernel) (by decide +kernel)
set_option maxRecDepth 20000 in
theorem gX2_close_X2_placeOf : GoodIn wsX2_close (wsV RX2 113 RX2 yX2_placeOf wsX2_placeOf) := goodIn_app (goodIn_of _ (by decide +kernel)) ggX2_close_X2_placeOf
set_option maxRecDepth 20000 in
theorem ggX2_close_X2_leaves : GoodIn wsX2_close wsX2_leaves := goodIn_r _ [64, 59, 60, 65, 66, 67, 68, 69, 70, 71, 72, 73, 74, 75, 76, 77, 78, 79, 80] (by decide +kernel) (by decide +kernel)
set_option maxRecDepth 20000 in
theorem gX2_close_X2_leaves : GoodIn wsX2_close (wsV RX2 116 RX2 yX2_leaves wsX2_leaves) := goodIn_app (goodIn_of _ (by decide +kernel)) ggX2_close_X2_leaves
set_option maxRecDepth 20000 in
theorem ggX2_enqueue_X2_isTest : GoodIn wsX2_enqueue wsX2_isTest := goodIn_r _ [6, 7, 8, 9, 5, 10, 30, 31, 32, 33, 34, 35, 36, 37, 38, 39, 40, 41, 42, 43, 44, 45] (by decide +kernel) (by decide +kernel)
set_option maxRecDepth 20000 in
theorem gX2_enqueue_X2_isTest : GoodIn wsX2_enqueue (wsV RX2 55 RX2 yX2_isTest wsX2_isTest) := goodIn_app (goodIn_of _ (by decide +kernel)) ggX2_enqueue_X2_isTest
set_option maxRecDepth 20000 in
theorem ggX2_enqueue_X2_isInTriage : GoodIn wsX2_enqueue wsX2_isInTriage := goodIn_r _ [14, 15, 2, 3, 4, 5, 6, 7, 8, 9, 10, 30, 31, 32, 33, 34, 35, 36, 37, 38, 39, 40, 41, 42, 43, 44, 45] (by decide +kernel) (by decide +kernel)
set_option maxRecDepth 20000 in
theorem gX2_enqueue_X2_isInTriage : GoodIn wsX2_enqueue (wsV RX2 107 RX2 yX2_isInTriage wsX2_isInTriage) := goodIn_app (goodIn_of _ (by decide +kernel)) ggX2_enqueue_X2_isInTriage
set_option maxRecDepth 20000 in
theorem ggX2_enqueue_X2_placeOf : GoodIn wsX2_enqueue wsX2_placeOf := goodIn_r _ [19, 1, 20, 30, 31, 32, 33, 34, 35, 36, 37, 38, 39, 40, 41, 42, 43, 44, 45] (by decide +kernel) (by decide +kernel)
set_option maxRecDepth 20000 in
theorem gX2_enqueue_X2_placeOf : GoodIn wsX2_enqueue (wsV RX2 113 RX2 yX2_placeOf wsX2_placeOf) := goodIn_app (goodIn_of _ (by decide +kernel)) ggX2_enqueue_X2_placeOf
set_option maxRecDepth 20000 in
theorem ggX2_enqueue_X2_goes : GoodIn wsX2_enqueue wsX2_goes := goodIn_r _ [24, 25, 30, 31, 32, 33, 34, 35, 36, 37, 38, 39, 40, 41, 42, 43, 44, 45] (by decide +kernel) (by decide +kernel)
set_option maxRecDepth 20000 in
theorem gX2_enqueue_X2_goes : GoodIn wsX2_enqueue (wsV RX2 62 RX2 yX2_goes wsX2_goes) := goodIn_app (goodIn_of _ (by decide +kernel)) ggX2_enqueue_X2_goes
set_option maxRecDepth 20000 in
theorem ggX2_enqueue_X2_joins : GoodIn wsX2_enqueue wsX2_joins := goodIn_r _ [29, 20, 1, 30, 31, 32, 33, 34, 35, 36, 37, 38, 39, 40, 41, 42, 43, 44, 45] (by decide +kernel) (by decide +kernel)
set_option maxRecDepth 20000 in
theorem gX2_enqueue_X2_joins : GoodIn wsX2_enqueue (wsV RX2 120 RX2 yX2_joins wsX2_joins) := goodIn_app (goodIn_of _ (by decide +kernel)) ggX2_enqueue_X2_joins
set_option maxRecDepth 20000 in
theorem ggX2_newDay_X2_in : GoodIn wsX2_newDay wsX2_in := goodIn_r _ [5] (by decide +kernel) (by decide +kernel)
set_option maxRecDepth 20000 in
theorem gX2_newDay_X2_in : GoodIn wsX2_newDay (va_wsS RX2 45 yX2_in wsX2_in) := goodIn_app (goodIn_of _ (by decide +kernel)) ggX2_newDay_X2_in
set_option maxRecDepth 20000 in
theorem ggX2_newDay_X2_goes : GoodIn wsX2_newDay wsX2_goes := goodIn_r _ [9, 10, 11, 12, 13, 14, 15, 16, 17, 18, 19, 20, 21, 22, 23, 24, 25, 26] (by decide +kernel) (by decide +kernel)
set_option maxRecDepth 20000 in
theorem gX2_newDay_X2_goes : GoodIn wsX2_newDay (wsV RX2 62 RX2 yX2_goes wsX2_goes) := goodIn_app (goodIn_of _ (by decide +kernel)) ggX2_newDay_X2_goes
set_option maxRecDepth 20000 in
theorem ggX2_take_X2_goes : GoodIn wsX2_take wsX2_goes := goodIn_r _ [8, 9, 50, 51, 52, 53, 54, 55, 56, 57, 58, 59, 60, 61, 62, 63, 64, 65] (by decide +kernel) (by decide +kernel)
set_option maxRecDepth 20000 in
theorem gX2_take_X2_goes : GoodIn wsX2_take (wsV RX2 62 RX2 yX2_goes wsX2_goes) := goodIn_app (goodIn_of _ (by decide +kernel)) ggX2_take_X2_goes
set_option maxRecDepth 20000 in
theorem ggX2_take_X2_leaves : GoodIn wsX2_take wsX2_leaves := goodIn_r _ [13, 1, 3, 50, 51, 52, 53, 54, 55, 56, 57, 58, 59, 60, 61, 62, 63, 64, 65] (by decide +kernel) (by decide +kernel)
set_option maxRecDepth 20000 in
theorem gX2_take_X2_leaves : GoodIn wsX2_take (wsV RX2 116 RX2 yX2_leaves wsX2_leaves) := goodIn_app (goodIn_of _ (by decide +kernel)) ggX2_take_X2_leaves
set_option maxRecDepth 20000 in
theorem ggX2_take_X2_candidatesOf : GoodIn wsX2_take wsX2_candidatesOf := goodIn_r _ [17, 18, 19, 20, 21, 22, 7, 23, 24, 25, 26, 27, 28, 29, 30, 31, 32, 33, 34, 35, 36, 37, 38, 39, 40, 41, 42, 43, 44, 45, 50, 51, 52, 53, 54, 55, 56, 57, 58, 59, 60, 61, 62, 63, 64, 65] (by decide +kernel) (by decide +kernel)
set_option maxRecDepth 20000 in
theorem gX2_take_X2_candidatesOf : GoodIn wsX2_take (wsV RX2 101 RX2 yX2_candidatesOf wsX2_candidatesOf) := goodIn_app (goodIn_of _ (by decide +kernel)) ggX2_take_X2_candidatesOf
set_option maxRecDepth 20000 in
theorem ggX2_take_X2_joins : GoodIn wsX2_take wsX2_joins := goodIn_r _ [49, 3, 1, 50, 51, 52, 53, 54, 55, 56, 57, 58, 59, 60, 61, 62, 63, 64, 65] (by decide +kernel) (by decide +kernel)
set_option maxRecDepth 20000 in
theorem gX2_take_X2_joins : GoodIn wsX2_take (wsV RX2 120 RX2 yX2_joins wsX2_joins) := goodIn_app (goodIn_of _ (by decide +kernel)) ggX2_take_X2_joins
set_option maxRecDepth 20000 in
theorem ggX2_commits_X2_told : GoodIn wsX2_commits wsX2_told := goodIn_r _ [6, 7, 8, 9, 10, 11, 12, 13, 14, 15, 16, 17, 18, 19, 20, 21, 22, 23] (by decide +kernel) (by decide +kernel)
set_option maxRecDepth 20000 in
theorem gX2_commits_X2_told : GoodIn wsX2_commits (wsV RX2 126 RX2 yX2_told wsX2_told) := goodIn_app (goodIn_of _ (by decide +kernel)) ggX2_commits_X2_told
set_option maxRecDepth 20000 in
theorem ggX2_tests_X2_told : GoodIn wsX2_tests wsX2_told := goodIn_r _ [6, 7, 8, 9, 10, 11, 12, 13, 14, 15, 16, 17, 18, 19, 20, 21, 22, 23] (by decide +kernel) (by decide +kernel)
set_option maxRecDepth 20000 in
theorem gX2_tests_X2_told : GoodIn wsX2_tests (wsV RX2 126 RX2 yX2_told wsX2_told) := goodIn_app (goodIn_of _ (by decide +kernel)) ggX2_tests_X2_told
set_option maxRecDepth 20000 in
theorem ggX2_budget_X2_told : GoodIn wsX2_budget wsX2_told := goodIn_r _ [6, 7, 8, 9, 10, 11, 12, 13, 14, 15, 16, 17, 18, 19, 20, 21, 22, 23] (by decide +kernel) (by decide +kernel)
set_option maxRecDepth 20000 in
theorem gX2_budget_X2_told : GoodIn wsX2_budget (wsV RX2 126 RX2 yX2_told wsX2_told) := goodIn_app (goodIn_of _ (by decide +kernel)) ggX2_budget_X2_told
set_option maxRecDepth 20000 in
theorem ggX2_queued_X2_told : GoodIn wsX2_queued wsX2_told := goodIn_r _ [6, 7, 8, 9, 10, 11, 12, 13, 14, 15, 16, 17, 18, 19, 20, 21, 22, 23] (by decide +kernel) (by decide +kernel)
set_option maxRecDepth 20000 in
theorem gX2_queued_X2_told : GoodIn wsX2_queued (wsV RX2 126 RX2 yX2_told wsX2_told) := goodIn_app (goodIn_of _ (by decide +kernel)) ggX2_queued_X2_told
set_option maxRecDepth 20000 in
theorem ggX2_partsOf_X2_isTest : GoodIn wsX2_partsOf wsX2_isTest := goodIn_r _ [5, 6, 7, 8, 4, 9, 21, 22, 23, 24, 25, 26, 27, 28, 29, 30, 31, 32, 33, 34, 35, 36] (by decide +kernel) (by decide +kernel)
set_option maxRecDepth 20000 in
theorem gX2_partsOf_X2_isTest : GoodIn wsX2_partsOf (wsV RX2 55 RX2 yX2_isTest wsX2_isTest) := goodIn_app (goodIn_of _ (by decide +kernel)) ggX2_partsOf_X2_isTest
set_option maxRecDepth 20000 in
theorem ggX2_partsOf_X2_goes : GoodIn wsX2_partsOf wsX2_goes := goodIn_r _ [13, 14, 21, 22, 23, 24, 25, 26, 27, 28, 29, 30, 31, 32, 33, 34, 35, 36] (by decide +kernel) (by decide +kernel)
set_option maxRecDepth 20000 in
theorem gX2_partsOf_X2_goes : GoodIn wsX2_partsOf (wsV RX2 62 RX2 yX2_goes wsX2_goes) := goodIn_app (goodIn_of _ (by decide +kernel)) ggX2_partsOf_X2_goes
set_option maxRecDepth 20000 in
theorem ggX2_partsOf_X2_reach : GoodIn wsX2_partsOf wsX2_reach := goodIn_r _ [18, 19, 20, 21, 22, 23, 24, 25, 26, 27, 28, 29, 30, 31, 32, 33, 34, 35, 36] (by decide +kernel) (by decide +kernel)
set_option maxRecDepth 20000 in
theorem gX2_partsOf_X2_reach : GoodIn wsX2_partsOf (wsV RX2 77 RX2 yX2_reach wsX2_reach) := goodIn_app (goodIn_of _ (by decide +kernel)) ggX2_partsOf_X2_reach
set_option maxRecDepth 20000 in
theorem ggX2_touches_X2_isCommit : GoodIn wsX2_touches wsX2_isCommit := goodIn_r _ [7, 8, 9, 10, 6, 11, 23, 24, 25, 26, 27, 28, 29, 30, 31, 32, 33, 34, 35, 36, 37, 38] (by decide +kernel) (by decide +kernel)
set_option maxRecDepth 20000 in
theorem gX2_touches_X2_isCommit : GoodIn wsX2_touches (wsV RX2 95 RX2 yX2_isCommit wsX2_isCommit) := goodIn_app (goodIn_of _ (by decide +kernel)) ggX2_touches_X2_isCommit
set_option maxRecDepth 20000 in
theorem ggX2_touches_X2_goes : GoodIn wsX2_touches wsX2_goes := goodIn_r _ [15, 16, 23, 24, 25, 26, 27, 28, 29, 30, 31, 32, 33, 34, 35, 36, 37, 38] (by decide +kernel) (by decide +kernel)
set_option maxRecDepth 20000 in
theorem gX2_touches_X2_goes : GoodIn wsX2_touches (wsV RX2 62 RX2 yX2_goes wsX2_goes) := goodIn_app (goodIn_of _ (by decide +kernel)) ggX2_touches_X2_goes
set_option maxRecDepth 20000 in
theorem ggX2_touches_X2_reach : GoodIn wsX2_touches wsX2_reach := goodIn_r _ [20, 21, 22, 23, 24, 25, 26, 27, 28, 29, 30, 31, 32, 33, 34, 35, 36, 37, 38] (by decide +kernel) (by decide +kernel)
set_option maxRecDepth 20000 in
theorem gX2_touches_X2_reach : GoodIn wsX2_touches (wsV RX2 77 RX2 yX2_reach wsX2_reach) := goodIn_app (goodIn_of _ (by decide +kernel)) ggX2_touches_X2_reach
set_option maxRecDepth 20000 in
theorem ggX2_runs_X2_isTest : GoodIn wsX2_runs wsX2_isTest := goodIn_r _ [5, 6, 7, 8, 4, 9, 25, 26, 27, 28, 29, 30, 31, 32, 33, 34, 35, 36, 37, 38, 39, 40] (by decide +kernel) (by decide +kernel)
set_option maxRecDepth 20000 in
theorem gX2_runs_X2_isTest : GoodIn wsX2_runs (wsV RX2 55 RX2 yX2_isTest wsX2_isTest) := goodIn_app (goodIn_of _ (by decide +kernel)) ggX2_runs_X2_isTest
set_option maxRecDepth 20000 in
theorem ggX2_runs_X2_goes : GoodIn wsX2_runs wsX2_goes := goodIn_r _ [13, 14, 25, 26, 27, 28, 29, 30, 31, 32, 33, 34, 35, 36, 37, 38, 39, 40] (by decide +kernel) (by decide +kernel)
set_option maxRecDepth 20000 in
theorem gX2_runs_X2_goes : GoodIn wsX2_runs (wsV RX2 62 RX2 yX2_goes wsX2_goes) := goodIn_app (goodIn_of _ (by decide +kernel)) ggX2_runs_X2_goes
set_option maxRecDepth 20000 in
theorem ggX2_runs_X2_allRuns : GoodIn wsX2_runs wsX2_allRuns := goodIn_r _ [18, 19, 20, 21, 22, 23, 4, 24, 25, 26, 27, 28, 29, 30, 31, 32, 33, 34, 35, 36, 37, 38, 39, 40] (by decide +kernel) (by decide +kernel)
set_option maxRecDepth 20000 in
theorem gX2_runs_X2_allRuns : GoodIn wsX2_runs (wsV RX2 98 RX2 yX2_allRuns wsX2_allRuns) := goodIn_app (goodIn_of _ (by decide +kernel)) ggX2_runs_X2_allRuns
set_option maxRecDepth 20000 in
theorem ggX2_verdict_X2_isTest : GoodIn wsX2_verdict wsX2_isTest := goodIn_r _ [5, 6, 7, 8, 4, 9, 26, 27, 28, 29, 30, 31, 32, 33, 34, 35, 36, 37, 38, 39, 40, 41] (by decide +kernel) (by decide +kernel)
set_option maxRecDepth 20000 in
theorem gX2_verdict_X2_isTest : GoodIn wsX2_verdict (wsV RX2 55 RX2 yX2_isTest wsX2_isTest) := goodIn_app (goodIn_of _ (by decide +kernel)) ggX2_verdict_X2_isTest
set_option maxRecDepth 20000 in
theorem ggX2_verdict_X2_isCommit : GoodIn wsX2_verdict wsX2_isCommit := goodIn_r _ [13, 14, 7, 8, 4, 9, 26, 27, 28, 29, 30, 31, 32, 33, 34, 35, 36, 37, 38, 39, 40, 41] (by decide +kernel) (by decide +kernel)
set_option maxRecDepth 20000 in
theorem gX2_verdict_X2_isCommit : GoodIn wsX2_verdict (wsV RX2 95 RX2 yX2_isCommit wsX2_isCommit) := goodIn_app (goodIn_of _ (by decide +kernel)) ggX2_verdict_X2_isCommit
set_option maxRecDepth 20000 in
theorem ggX2_verdict_X2_goes : GoodIn wsX2_verdict wsX2_goes := goodIn_r _ [18, 19, 26, 27, 28, 29, 30, 31, 32, 33, 34, 35, 36, 37, 38, 39, 40, 41] (by decide +kernel) (by decide +kernel)
set_option maxRecDepth 20000 in
theorem gX2_verdict_X2_goes : GoodIn wsX2_verdict (wsV RX2 62 RX2 yX2_goes wsX2_goes) := goodIn_app (goodIn_of _ (by decide +kernel)) ggX2_verdict_X2_goes
set_option maxRecDepth 20000 in
theorem ggX2_verdict_X2_verdictOf : GoodIn wsX2_verdict wsX2_verdictOf := goodIn_r _ [23, 24, 25, 26, 27, 28, 29, 30, 31, 32, 33, 34, 35, 36, 37, 38, 39, 40, 41] (by decide +kernel) (by decide +kernel)
set_option maxRecDepth 20000 in
theorem gX2_verdict_X2_verdictOf : GoodIn wsX2_verdict (wsV RX2 73 RX2 yX2_verdictOf wsX2_verdictOf) := goodIn_app (goodIn_of _ (by decide +kernel)) ggX2_verdict_X2_verdictOf
set_option maxRecDepth 20000 in
theorem ggX2_failing_X2_isTest : GoodIn wsX2_failing wsX2_isTest := goodIn_r _ [6, 7, 8, 9, 5, 10, 25, 26, 27, 28, 29, 30, 31, 32, 33, 34, 35, 36, 37, 38, 39, 40] (by decide +kernel) (by decide +kernel)
set_option maxRecDepth 20000 in
theorem gX2_failing_X2_isTest : GoodIn wsX2_failing (wsV RX2 55 RX2 yX2_isTest wsX2_isTest) := goodIn_app (goodIn_of _ (by decide +kernel)) ggX2_failing_X2_isTest
set_option maxRecDepth 20000 in
theorem ggX2_failing_X2_goes : GoodIn wsX2_failing wsX2_goes := goodIn_r _ [14, 15, 25, 26, 27, 28, 29, 30, 31, 32, 33, 34, 35, 36, 37, 38, 39, 40] (by decide +kernel) (by decide +kernel)
set_option maxRecDepth 20000 in
theorem gX2_failing_X2_goes : GoodIn wsX2_failing (wsV RX2 62 RX2 yX2_goes wsX2_goes) := goodIn_app (goodIn_of _ (by decide +kernel)) ggX2_failing_X2_goes
set_option maxRecDepth 20000 in
theorem ggX2_failing_X2_allRuns : GoodIn wsX2_failing wsX2_allRuns := goodIn_r _ [19, 20, 1, 21, 22, 23, 5, 24, 25, 26, 27, 28, 29, 30, 31, 32, 33, 34, 35, 36, 37, 38, 39, 40] (by decide +kernel) (by decide +kernel)
set_option maxRecDepth 20000 in
theorem gX2_failing_X2_allRuns : GoodIn wsX2_failing (wsV RX2 98 RX2 yX2_allRuns wsX2_allRuns) := goodIn_app (goodIn_of _ (by decide +kernel)) ggX2_failing_X2_allRuns
set_option maxRecDepth 20000 in
theorem ggX2_failing_X2_all : GoodIn wsX2_failing wsX2_all := goodIn_r _ [24] (by decide +kernel) (by decide +kernel)
set_option maxRecDepth 20000 in
theorem gX2_failing_X2_all : GoodIn wsX2_failing (wsV RX2 69 RX2 yX2_all wsX2_all) := goodIn_app (goodIn_of _ (by decide +kernel)) ggX2_failing_X2_all
set_option maxRecDepth 20000 in
theorem ggX2_isQuarantined_X2_isTest : GoodIn wsX2_isQuarantined wsX2_isTest := goodIn_r _ [5, 6, 7, 8, 4, 9, 28, 29, 30, 31, 32, 33, 34, 35, 36, 37, 38, 39, 40, 41, 42, 43] (by decide +kernel) (by decide +kernel)
set_option maxRecDepth 20000 in
theorem gX2_isQuarantined_X2_isTest : GoodIn wsX2_isQuarantined (wsV RX2 55 RX2 yX2_isTest wsX2_isTest) := goodIn_app (goodIn_of _ (by decide +kernel)) ggX2_isQuarantined_X2_isTest
set_option maxRecDepth 20000 in
theorem ggX2_isQuarantined_X2_goes : GoodIn wsX2_isQuarantined wsX2_goes := goodIn_r _ [13, 14, 28, 29, 30, 31, 32, 33, 34, 35, 36, 37, 38, 39, 40, 41, 42, 43] (by decide +kernel) (by decide +kernel)
set_option maxRecDepth 20000 in
theorem gX2_isQuarantined_X2_goes : GoodIn wsX2_isQuarantined (wsV RX2 62 RX2 yX2_goes wsX2_goes) := goodIn_app (goodIn_of _ (by decide +kernel)) ggX2_isQuarantined_X2_goes
set_option maxRecDepth 20000 in
theorem ggX2_isQuarantined_X2_isUnsteady : GoodIn wsX2_isQuarantined wsX2_isUnsteady := goodIn_r _ [18, 19, 20, 21, 22, 23, 24, 4, 25, 26, 27, 28, 29, 30, 31, 32, 33, 34, 35, 36, 37, 38, 39, 40, 41, 42, 43] (by decide +kernel) (by decide +kernel)
set_option maxRecDepth 20000 in
theorem gX2_isQuarantined_X2_isUnsteady : GoodIn wsX2_isQuarantined (wsV RX2 129 RX2 yX2_isUnsteady wsX2_isUnsteady) := goodIn_app (goodIn_of _ (by decide +kernel)) ggX2_isQuarantined_X2_isUnsteady
set_option maxRecDepth 20000 in
theorem ggX2_broken_X2_isCommit : GoodIn wsX2_broken wsX2_isCommit := goodIn_r _ [6, 7, 8, 9, 5, 10, 28, 29, 30, 31, 32, 33, 34, 35, 36, 37, 38, 39, 40, 41, 42, 43] (by decide +kernel) (by decide +kernel)
set_option maxRecDepth 20000 in
theorem gX2_broken_X2_isCommit : GoodIn wsX2_broken (wsV RX2 95 RX2 yX2_isCommit wsX2_isCommit) := goodIn_app (goodIn_of _ (by decide +kernel)) ggX2_broken_X2_isCommit
set_option maxRecDepth 20000 in
theorem ggX2_broken_X2_goes : GoodIn wsX2_broken wsX2_goes := goodIn_r _ [14, 15, 28, 29, 30, 31, 32, 33, 34, 35, 36, 37, 38, 39, 40, 41, 42, 43] (by decide +kernel) (by decide +kernel)
set_option maxRecDepth 20000 in
theorem gX2_broken_X2_goes : GoodIn wsX2_broken (wsV RX2 62 RX2 yX2_goes wsX2_goes) := goodIn_app (goodIn_of _ (by decide +kernel)) ggX2_broken_X2_goes
set_option maxRecDepth 20000 in
theorem ggX2_broken_X2_verdictOf : GoodIn wsX2_broken wsX2_verdictOf := goodIn_r _ [19, 20, 21, 28, 29, 30, 31, 32, 33, 34, 35, 36, 37, 38, 39, 40, 41, 42, 43] (by decide +kernel) (by decide +kernel)
set_option maxRecDepth 20000 in
theorem gX2_broken_X2_verdictOf : GoodIn wsX2_broken (wsV RX2 73 RX2 yX2_verdictOf wsX2_verdictOf) := goodIn_app (goodIn_of _ (by decide +kernel)) ggX2_broken_X2_verdictOf
set_option maxRecDepth 20000 in
theorem ggX2_broken_X2_isUnsteady : GoodIn wsX2_broken wsX2_isUnsteady := goodIn_r _ [25, 7, 26, 27, 16, 17, 18, 5, 19, 20, 21, 28, 29, 30, 31, 32, 33, 34, 35, 36, 37, 38, 39, 40, 41, 42, 43] (by decide +kernel) (by decide +kernel)
set_option maxRecDepth 20000 in
theorem gX2_broken_X2_isUnsteady : GoodIn wsX2_broken (wsV RX2 129 RX2 yX2_isUnsteady wsX2_isUnsteady) := goodIn_app (goodIn_of _ (by decide +kernel)) ggX2_broken_X2_isUnsteady
set_option maxRecDepth 20000 in
theorem ggX2_suspects_X2_isTest : GoodIn wsX2_suspects wsX2_isTest := goodIn_r _ [6, 7, 8, 9, 5, 10, 33, 34, 35, 36, 37, 38, 39, 40, 41, 42, 43, 44, 45, 46, 47, 48] (by decide +kernel) (by decide +kernel)
set_option maxRecDepth 20000 in
theorem gX2_suspects_X2_isTest : GoodIn wsX2_suspects (wsV RX2 55 RX2 yX2_isTest wsX2_isTest) := goodIn_app (goodIn_of _ (by decide +kernel)) ggX2_suspects_X2_isTest
set_option maxRecDepth 20000 in
theorem ggX2_suspects_X2_isInTriage : GoodIn wsX2_suspects wsX2_isInTriage := goodIn_r _ [14, 15, 2, 3, 4, 5, 6, 7, 8, 9, 10, 33, 34, 35, 36, 37, 38, 39, 40, 41, 42, 43, 44, 45, 46, 47, 48] (by decide +kernel) (by decide +kernel)
set_option maxRecDepth 20000 in
theorem gX2_suspects_X2_isInTriage : GoodIn wsX2_suspects (wsV RX2 107 RX2 yX2_isInTriage wsX2_isInTriage) := goodIn_app (goodIn_of _ (by decide +kernel)) ggX2_suspects_X2_isInTriage
set_option maxRecDepth 20000 in
theorem ggX2_suspects_X2_goes : GoodIn wsX2_suspects wsX2_goes := goodIn_r _ [19, 20, 33, 34, 35, 36, 37, 38, 39, 40, 41, 42, 43, 44, 45, 46, 47, 48] (by decide +kernel) (by decide +kernel)
set_option maxRecDepth 20000 in
theorem gX2_suspects_X2_goes : GoodIn wsX2_suspects (wsV RX2 62 RX2 yX2_goes wsX2_goes) := goodIn_app (goodIn_of _ (by decide +kernel)) ggX2_suspects_X2_goes
set_option maxRecDepth 20000 in
theorem ggX2_suspects_X2_isSuspect : GoodIn wsX2_suspects wsX2_isSuspect := goodIn_r _ [24, 15, 25, 26, 27, 28, 29, 5, 30, 31, 32, 33, 34, 35, 36, 37, 38, 39, 40, 41, 42, 43, 44, 45, 46, 47, 48] (by decide +kernel) (by decide +kernel)
set_option maxRecDepth 20000 in
theorem gX2_suspects_X2_isSuspect : GoodIn wsX2_suspects (wsV RX2 81 RX2 yX2_isSuspect wsX2_isSuspect) := goodIn_app (goodIn_of _ (by decide +kernel)) ggX2_suspects_X2_isSuspect
set_option maxRecDepth 20000 in
theorem ggX2_contradictions_X2_isTest : GoodIn wsX2_contradictions wsX2_isTest := goodIn_r _ [5, 6, 7, 8, 4, 9, 43, 44, 45, 46, 47, 48, 49, 50, 51, 52, 53, 54, 55, 56, 57, 58] (by decide +kernel) (by decide +kernel)
set_option maxRecDepth 20000 in
theorem gX2_contradictions_X2_isTest : GoodIn wsX2_contradictions (wsV RX2 55 RX2 yX2_isTest wsX2_isTest) := goodIn_app (goodIn_of _ (by decide +kernel)) ggX2_contradictions_X2_isTest
set_option maxRecDepth 20000 in
theorem ggX2_contradictions_X2_isCommit : GoodIn wsX2_contradictions wsX2_isCommit := goodIn_r _ [13, 14, 7, 8, 4, 9, 43, 44, 45, 46, 47, 48, 49, 50, 51, 52, 53, 54, 55, 56, 57, 58] (by decide +kernel) (by decide +kernel)
set_option maxRecDepth 20000 in
theorem gX2_contradictions_X2_isCommit : GoodIn wsX2_contradictions (wsV RX2 95 RX2 yX2_isCommit wsX2_isCommit) := goodIn_app (goodIn_of _ (by decide +kernel)) ggX2_contradictions_X2_isCommit
set_option maxRecDepth 20000 in
theorem ggX2_contradictions_X2_isInTriage : GoodIn wsX2_contradictions wsX2_isInTriage := goodIn_r _ [18, 19, 1, 2, 3, 4, 5, 6, 7, 8, 9, 43, 44, 45, 46, 47, 48, 49, 50, 51, 52, 53, 54, 55, 56, 57, 58] (by decide +kernel) (by decide +kernel)
set_option maxRecDepth 20000 in
theorem gX2_contradictions_X2_isInTriage : GoodIn wsX2_contradictions (wsV RX2 107 RX2 yX2_isInTriage wsX2_isInTriage) := goodIn_app (goodIn_of _ (by decide +kernel)) ggX2_contradictions_X2_isInTriage
set_option maxRecDepth 20000 in
theorem ggX2_contradictions_X2_goes : GoodIn wsX2_contradictions wsX2_goes := goodIn_r _ [23, 24, 43, 44, 45, 46, 47, 48, 49, 50, 51, 52, 53, 54, 55, 56, 57, 58] (by decide +kernel) (by decide +kernel)
set_option maxRecDepth 20000 in
theorem gX2_contradictions_X2_goes : GoodIn wsX2_contradictions (wsV RX2 62 RX2 yX2_goes wsX2_goes) := goodIn_app (goodIn_of _ (by decide +kernel)) ggX2_contradictions_X2_goes
set_option maxRecDepth 20000 in
theorem ggX2_contradictions_X2_isSuspect : GoodIn wsX2_contradictions wsX2_isSuspect := goodIn_r _ [28, 19, 29, 30, 31, 32, 33, 4, 34, 35, 36, 43, 44, 45, 46, 47, 48, 49, 50, 51, 52, 53, 54, 55, 56, 57, 58] (by decide +kernel) (by decide +kernel)
set_option maxRecDepth 20000 in
theorem gX2_contradictions_X2_isSuspect : GoodIn wsX2_contradictions (wsV RX2 81 RX2 yX2_isSuspect wsX2_isSuspect) := goodIn_app (goodIn_of _ (by decide +kernel)) ggX2_contradictions_X2_isSuspect
set_option maxRecDepth 20000 in
theorem ggX2_contradictions_X2_against : GoodIn wsX2_contradictions wsX2_against := goodIn_r _ [40, 19, 29, 41, 42, 43, 44, 45, 46, 47, 48, 49, 50, 51, 52, 53, 54, 55, 56, 57, 58] (by decide +kernel) (by decide +kernel)
set_option maxRecDepth 20000 in
theorem gX2_contradictions_X2_against : GoodIn wsX2_contradictions (wsV RX2 85 RX2 yX2_against wsX2_against) := goodIn_app (goodIn_of _ (by decide +kernel)) ggX2_contradictions_X2_against
set_option maxRecDepth 20000 in
theorem ggX2_candidates_X2_isTest : GoodIn wsX2_candidates wsX2_isTest := goodIn_r _ [6, 7, 8, 9, 5, 10, 44, 45, 46, 47, 48, 49, 50, 51, 52, 53, 54, 55, 56, 57, 58, 59] (by decide +kernel) (by decide +kernel)
set_option maxRecDepth 20000 in
theorem gX2_candidates_X2_isTest : GoodIn wsX2_candidates (wsV RX2 55 RX2 yX2_isTest wsX2_isTest) := goodIn_app (goodIn_of _ (by decide +kernel)) ggX2_candidates_X2_isTest
set_option maxRecDepth 20000 in
theorem ggX2_candidates_X2_isInTriage : GoodIn wsX2_candidates wsX2_isInTriage := goodIn_r _ [14, 15, 2, 3, 4, 5, 6, 7, 8, 9, 10, 44, 45, 46, 47, 48, 49, 50, 51, 52, 53, 54, 55, 56, 57, 58, 59] (by decide +kernel) (by decide +kernel)
set_option maxRecDepth 20000 in
theorem gX2_candidates_X2_isInTriage : GoodIn wsX2_candidates (wsV RX2 107 RX2 yX2_isInTriage wsX2_isInTriage) := goodIn_app (goodIn_of _ (by decide +kernel)) ggX2_candidates_X2_isInTriage
set_option maxRecDepth 20000 in
theorem ggX2_candidates_X2_goes : GoodIn wsX2_candidates wsX2_goes := goodIn_r _ [19, 20, 44, 45, 46, 47, 48, 49, 50, 51, 52, 53, 54, 55, 56, 57, 58, 59] (by decide +kernel) (by decide +kernel)
set_option maxRecDepth 20000 in
theorem gX2_candidates_X2_goes : GoodIn wsX2_candidates (wsV RX2 62 RX2 yX2_goes wsX2_goes) := goodIn_app (goodIn_of _ (by decide +kernel)) ggX2_candidates_X2_goes
set_option maxRecDepth 20000 in
theorem ggX2_candidates_X2_isCandidate : GoodIn wsX2_candidates wsX2_isCandidate := goodIn_r _ [24, 25, 26, 27, 28, 5, 29, 15, 30, 31, 32, 33, 34, 35, 36, 37, 38, 39, 40, 41, 42, 43, 44, 45, 46, 47, 48, 49, 50, 51, 52, 53, 54, 55, 56, 57, 58, 59] (by decide +kernel) (by decide +kernel)
set_option maxRecDepth 20000 in
theorem gX2_candidates_X2_isCandidate : GoodIn wsX2_candidates (wsV RX2 88 RX2 yX2_isCandidate wsX2_isCandidate) := goodIn_app (goodIn_of _ (by decide +kernel)) ggX2_candidates_X2_isCandidate
set_option maxRecDepth 20000 in
theorem ggX2_likeliest_X2_isTest : GoodIn wsX2_likeliest wsX2_isTest := goodIn_r _ [7, 8, 9, 10, 6, 11, 38, 39, 40, 41, 42, 43, 44, 45, 46, 47, 48, 49, 50, 51, 52, 53] (by decide +kernel) (by decide +kernel)
set_option maxRecDepth 20000 in
theorem gX2_likeliest_X2_isTest : GoodIn wsX2_likeliest (wsV RX2 55 RX2 yX2_isTest wsX2_isTest) := goodIn_app (goodIn_of _ (by decide +kernel)) ggX2_likeliest_X2_isTest
set_option maxRecDepth 20000 in
theorem ggX2_likeliest_X2_isInTriage : GoodIn wsX2_likeliest wsX2_isInTriage := goodIn_r _ [15, 2, 3, 4, 5, 6, 7, 8, 9, 10, 11, 38, 39, 40, 41, 42, 43, 44, 45, 46, 47, 48, 49, 50, 51, 52, 53] (by decide +kernel) (by decide +kernel)
set_option maxRecDepth 20000 in
theorem gX2_likeliest_X2_isInTriage : GoodIn wsX2_likeliest (wsV RX2 107 RX2 yX2_isInTriage wsX2_isInTriage) := goodIn_app (goodIn_of _ (by decide +kernel)) ggX2_likeliest_X2_isInTriage
set_option maxRecDepth 20000 in
theorem ggX2_likeliest_X2_goes : GoodIn wsX2_likeliest wsX2_goes := goodIn_r _ [19, 20, 38, 39, 40, 41, 42, 43, 44, 45, 46, 47, 48, 49, 50, 51, 52, 53] (by decide +kernel) (by decide +kernel)
set_option maxRecDepth 20000 in
theorem gX2_likeliest_X2_goes : GoodIn wsX2_likeliest (wsV RX2 62 RX2 yX2_goes wsX2_goes) := goodIn_app (goodIn_of _ (by decide +kernel)) ggX2_likeliest_X2_goes
set_option maxRecDepth 20000 in
theorem ggX2_likeliest_X2_isSuspect : GoodIn wsX2_likeliest wsX2_isSuspect := goodIn_r _ [24, 2, 1, 25, 26, 27, 28, 6, 29, 30, 31, 38, 39, 40, 41, 42, 43, 44, 45, 46, 47, 48, 49, 50, 51, 52, 53] (by decide +kernel) (by decide +kernel)
set_option maxRecDepth 20000 in
theorem gX2_likeliest_X2_isSuspect : GoodIn wsX2_likeliest (wsV RX2 81 RX2 yX2_isSuspect wsX2_isSuspect) := goodIn_app (goodIn_of _ (by decide +kernel)) ggX2_likeliest_X2_isSuspect
set_option maxRecDepth 20000 in
theorem ggX2_likeliest_X2_against : GoodIn wsX2_likeliest wsX2_against := goodIn_r _ [35, 2, 1, 36, 37, 38, 39, 40, 41, 42, 43, 44, 45, 46, 47, 48, 49, 50, 51, 52, 53] (by decide +kernel) (by decide +kernel)
set_option maxRecDepth 20000 in
theorem gX2_likeliest_X2_against : GoodIn wsX2_likeliest (wsV RX2 85 RX2 yX2_against wsX2_against) := goodIn_app (goodIn_of _ (by decide +kernel)) ggX2_likeliest_X2_against
set_option maxRecDepth 20000 in
theorem ggX2_next_X2_isTest : GoodIn wsX2_next wsX2_isTest := goodIn_r _ [9, 10, 11, 12, 8, 13, 47, 48, 49, 50, 51, 52, 53, 54, 55, 56, 57, 58, 59, 60, 61, 62] (by decide +kernel) (by decide +kernel)
set_option maxRecDepth 20000 in
theorem gX2_next_X2_isTest : GoodIn wsX2_next (wsV RX2 55 RX2 yX2_isTest wsX2_isTest) := goodIn_app (goodIn_of _ (by decide +kernel)) ggX2_next_X2_isTest
set_option maxRecDepth 20000 in
theorem ggX2_next_X2_isInTriage : GoodIn wsX2_next wsX2_isInTriage := goodIn_r _ [17, 1, 5, 6, 7, 8, 9, 10, 11, 12, 13, 47, 48, 49, 50, 51, 52, 53, 54, 55, 56, 57, 58, 59, 60, 61, 62] (by decide +kernel) (by decide +kernel)
set_option maxRecDepth 20000 in
theorem gX2_next_X2_isInTriage : GoodIn wsX2_next (wsV RX2 107 RX2 yX2_isInTriage wsX2_isInTriage) := goodIn_app (goodIn_of _ (by decide +kernel)) ggX2_next_X2_isInTriage
set_option maxRecDepth 20000 in
theorem ggX2_next_X2_goes : GoodIn wsX2_next wsX2_goes := goodIn_r _ [21, 22, 47, 48, 49, 50, 51, 52, 53, 54, 55, 56, 57, 58, 59, 60, 61, 62] (by decide +kernel) (by decide +kernel)
set_option maxRecDepth 20000 in
theorem gX2_next_X2_goes : GoodIn wsX2_next (wsV RX2 62 RX2 yX2_goes wsX2_goes) := goodIn_app (goodIn_of _ (by decide +kernel)) ggX2_next_X2_goes
set_option maxRecDepth 20000 in
theorem ggX2_next_X2_counts : GoodIn wsX2_next wsX2_counts := goodIn_r _ [26, 27, 28, 29, 8, 30, 31, 32, 33, 34, 35, 1, 2, 36, 37, 38, 39, 40, 41, 42, 43, 44, 45, 46, 4, 3, 47, 48, 49, 50, 51, 52, 53, 54, 55, 56, 57, 58, 59, 60, 61, 62] (by decide +kernel) (by decide +kernel)
set_option maxRecDepth 20000 in
theorem gX2_next_X2_counts : GoodIn wsX2_next (wsV RX2 91 RX2 yX2_counts wsX2_counts) := goodIn_app (goodIn_of _ (by decide +kernel)) ggX2_next_X2_counts
set_option maxRecDepth 20000 in
theorem ggL_setUses_X1_setUses : GoodIn wsL_setUses wsX1_setUses := goodIn_ca (goodIn_ca (goodIn_r _ [7, 8, 9, 10, 11, 12, 6, 13, 14, 15, 16, 17, 18, 19, 20, 21, 22, 23, 24, 25, 26, 27, 28, 29, 30, 31] (by decide +kernel) (by decide +kernel)) (goodIn_sub (fun _ h => List.mem_cons_of_mem _ (List.mem_append_left _ (List.mem_append_right _ h))) (by decide +kernel))) (goodIn_sub (fun _ h => List.mem_cons_of_mem _ (List.mem_append_right _ h)) (by decide +kernel))
set_option maxRecDepth 20000 in
theorem gL_setUses_X1_setUses : GoodIn wsL_setUses (wsV RL 7 RX1 yX1_setUses wsX1_setUses) := goodIn_app (goodIn_of _ (by decide +kernel)) ggL_setUses_X1_setUses
set_option maxRecDepth 20000 in
theorem ggL_addCommit_X1_addCommit : GoodIn wsL_addCommit wsX1_addCommit := goodIn_ca (goodIn_ca (goodIn_r _ [7, 8, 9, 10, 11, 12, 13, 6, 14, 15, 16, 17, 18, 19, 20, 21, 22, 23, 24, 25, 26, 27, 28, 29, 30, 31, 32] (by decide +kernel) (by decide +kernel)) (goodIn_sub (fun _ h => List.mem_cons_of_mem _ (List.mem_append_left _ (List.mem_append_right _ h))) (by decide +kernel))) (goodIn_sub (fun _ h => List.mem_cons_of_mem _ (List.mem_append_right _ h)) (by decide +kernel))
set_option maxRecDepth 20000 in
theorem gL_addCommit_X1_addCommit : GoodIn wsL_addCommit (wsV RL 17 RX1 yX1_addCommit wsX1_addCommit) := goodIn_app (goodIn_of _ (by decide +kernel)) ggL_addCommit_X1_addCommit
set_option maxRecDepth 20000 in
theorem ggL_addTest_X1_addTest : GoodIn wsL_addTest wsX1_addTest := goodIn_ca (goodIn_ca (goodIn_r _ [7, 8, 9, 10, 11, 12, 13, 6, 14, 15, 16, 17, 18, 19, 20, 21, 22, 23, 24, 25, 26, 27, 28, 29, 30, 31, 32] (by decide +kernel) (by decide +kernel)) (goodIn_sub (fun _ h => List.mem_cons_of_mem _ (List.mem_append_left _ (List.mem_append_right _ h))) (by decide +kernel))) (goodIn_sub (fun _ h => List.mem_cons_of_mem _ (List.mem_append_right _ h)) (by decide +kernel))
set_option maxRecDepth 20000 in
theorem gL_addTest_X1_addTest : GoodIn wsL_addTest (wsV RL 23 RX1 yX1_addTest wsX1_addTest) := goodIn_app (goodIn_of _ (by decide +kernel)) ggL_addTest_X1_addTest
set_option maxRecDepth 20000 in
theorem ggL_setQuarantine_X1_setQuarantine : GoodIn wsL_setQuarantine wsX1_setQuarantine := goodIn_ca (goodIn_r _ [6, 7, 8, 9, 10, 11, 12, 13, 14, 15, 16, 17, 18, 19, 20, 21, 22, 23, 24, 25] (by decide +kernel) (by decide +kernel)) (goodIn_sub (fun _ h => List.mem_cons_of_mem _ (List.mem_append_right _ h)) (by decide +kernel))
set_option maxRecDepth 20000 in
theorem gL_setQuarantine_X1_setQuarantine : GoodIn wsL_setQuarantine (wsV RL 26 RX1 yX1_setQuarantine wsX1_setQuarantine) := goodIn_app (goodIn_of _ (by decide +kernel)) ggL_setQuarantine_X1_setQuarantine
set_option maxRecDepth 20000 in
theorem ggL_setNoise_X1_setNoise : GoodIn wsL_setNoise wsX1_setNoise := goodIn_ca (goodIn_r _ [6, 7, 8, 9, 10, 11, 12, 13, 14, 15, 16, 17, 18, 19, 20, 21, 22, 23, 24] (by decide +kernel) (by decide +kernel)) (goodIn_sub (fun _ h => List.mem_cons_of_mem _ (List.mem_append_right _ h)) (by decide +kernel))
set_option maxRecDepth 20000 in
theorem gL_setNoise_X1_setNoise : GoodIn wsL_setNoise (wsV RL 30 RX1 yX1_setNoise wsX1_setNoise) := goodIn_app (goodIn_of _ (by decide +kernel)) ggL_setNoise_X1_setNoise
set_option maxRecDepth 20000 in
theorem ggL_record_X1_record : GoodIn wsL_record wsX1_record := goodIn_ca (goodIn_ca (goodIn_r _ [7, 8, 9, 10, 11, 12, 13, 6, 14, 15, 16, 17, 18, 19, 20, 21, 22, 23, 24, 25, 26, 27, 28, 29, 30, 31, 32, 33, 34, 35, 36, 37, 38, 39, 40, 41, 42, 43, 44, 45, 46, 47, 48, 49, 50, 51, 52, 53, 54, 55, 56] (by decide +kernel) (by decide +kernel)) (goodIn_sub (fun _ h => List.mem_cons_of_mem _ (List.mem_append_left _ (List.mem_append_right _ h))) (by decide +kernel))) (goodIn_sub (fun _ h => List.mem_cons_of_mem _ (List.mem_append_right _ h)) (by decide +kernel))
set_option maxRecDepth 20000 in
theorem gL_record_X1_record : GoodIn wsL_record (wsV RL 33 RX1 yX1_record wsX1_record) := goodIn_app (goodIn_of _ (by decide +kernel)) ggL_record_X1_record
set_option maxRecDepth 20000 in
theorem ggL_triage_X1_triage : GoodIn wsL_triage wsX1_triage := goodIn_ca (goodIn_ca (goodIn_r _ [7, 8, 9, 10, 11, 12, 13, 14, 15, 6, 16, 17, 18, 19, 20, 21, 22, 23, 24, 25, 26, 27, 28, 29, 30, 31, 32, 33, 34, 35, 36, 37, 38, 39, 40, 41, 42, 43, 44, 45, 46, 47, 48, 49, 50, 51, 52, 53, 54, 55, 56, 57, 58, 59, 60, 61, 62, 63, 64, 65, 66, 67, 68, 69, 70, 71, 72, 73, 74, 75, 76, 77, 78, 79, 80, 81, 82] (by decide +kernel) (by decide +kernel)) (goodIn_sub (fun _ h => List.mem_cons_of_mem _ (List.mem_append_left _ (List.mem_append_right _ h))) (by decide +kernel))) (goodIn_sub (fun _ h => List.mem_cons_of_mem _ (List.mem_append_right _ h)) (by decide +kernel))
set_option maxRecDepth 20000 in
theorem gL_triage_X1_triage : GoodIn wsL_triage (wsV RL 37 RX1 yX1_triage wsX1_triage) := goodIn_app (goodIn_of _ (by decide +kernel)) ggL_triage_X1_triage
set_option maxRecDepth 20000 in
theorem ggL_close_X1_close : GoodIn wsL_close wsX1_close := goodIn_ca (goodIn_ca (goodIn_r _ [7, 8, 9, 10, 11, 6, 12, 13, 14, 15, 16, 17, 18, 19, 20, 21, 22, 23, 24, 25, 26, 27, 28, 29, 30, 31, 32, 33, 34, 35, 36, 37, 38, 39, 40, 41, 42, 43, 44, 45, 46, 47, 48, 49, 50, 51, 52, 53, 54, 55, 56, 57, 58, 59, 60, 61, 62, 63, 64, 65, 66, 67, 68, 69, 70, 71, 72, 73, 74, 75, 76, 77, 78, 79, 80, 81, 82, 83, 84, 85, 86, 87, 88, 89, 90, 91] (by decide +kernel) (by decide +kernel)) (goodIn_sub (fun _ h => List.mem_cons_of_mem _ (List.mem_append_left _ (List.mem_append_right _ h))) (by decide +kernel))) (goodIn_sub (fun _ h => List.mem_cons_of_mem _ (List.mem_append_right _ h)) (by decide +kernel))
set_option maxRecDepth 20000 in
theorem gL_close_X1_close : GoodIn wsL_close (wsV RL 41 RX1 yX1_close wsX1_close) := goodIn_app (goodIn_of _ (by decide +kernel)) ggL_close_X1_close
set_option maxRecDepth 20000 in
theorem ggL_enqueue_X1_enqueue : GoodIn wsL_enqueue wsX1_enqueue := goodIn_ca (goodIn_ca (goodIn_r _ [7, 8, 9, 10, 11, 12, 13, 14, 6, 15, 16, 17, 18, 19, 20, 21, 22, 23, 24, 25, 26, 27, 28, 29, 30, 31, 32, 33, 34, 35, 36, 37, 38, 39, 40, 41, 42] (by decide +kernel) (by decide +kernel)) (goodIn_sub (fun _ h => List.mem_cons_of_mem _ (List.mem_append_left _ (List.mem_append_right _ h))) (by decide +kernel))) (goodIn_sub (fun _ h => List.mem_cons_of_mem _ (List.mem_append_right _ h)) (by decide +kernel))
set_option maxRecDepth 20000 in
theorem gL_enqueue_X1_enqueue : GoodIn wsL_enqueue (wsV RL 44 RX1 yX1_enqueue wsX1_enqueue) := goodIn_app (goodIn_of _ (by decide +kernel)) ggL_enqueue_X1_enqueue
set_option maxRecDepth 20000 in
theorem ggL_newDay_X1_newDay : GoodIn wsL_newDay wsX1_newDay := goodIn_ca (goodIn_r _ [6, 7, 8, 9, 10, 11, 12, 13, 14, 15, 16, 17, 18, 19, 20, 21, 22, 23, 24] (by decide +kernel) (by decide +kernel)) (goodIn_sub (fun _ h => List.mem_cons_of_mem _ (List.mem_append_right _ h)) (by decide +kernel))
set_option maxRecDepth 20000 in
theorem gL_newDay_X1_newDay : GoodIn wsL_newDay (wsV RL 47 RX1 yX1_newDay wsX1_newDay) := goodIn_app (goodIn_of _ (by decide +kernel)) ggL_newDay_X1_newDay
set_option maxRecDepth 20000 in
theorem ggL_take_X1_take : GoodIn wsL_take wsX1_take := goodIn_ca (goodIn_r _ [6, 7, 8, 9, 10, 11, 12, 5, 13, 14, 15, 16, 17, 18, 19, 20, 21, 22, 23, 24, 25, 26, 27, 28, 29, 30, 31, 32, 33, 34, 35, 36, 37, 38, 39, 40, 41, 42, 43, 44, 45, 46, 47, 48, 49, 50, 51, 52, 53, 54, 55, 56, 57, 58, 59, 60, 61, 62, 63, 64, 65, 66, 67, 68, 69, 70, 71, 72, 73, 74, 75, 76, 77, 78, 79, 80, 81, 82, 83, 84] (by decide +kernel) (by decide +kernel)) (goodIn_sub (fun _ h => List.mem_cons_of_mem _ (List.mem_append_right _ h)) (by decide +kernel))
set_option maxRecDepth 20000 in
theorem gL_take_X1_take : GoodIn wsL_take (wsV RL 50 RX1 yX1_take wsX1_take) := goodIn_app (goodIn_of _ (by decide +kernel)) ggL_take_X1_take
set_option maxRecDepth 20000 in
theorem ggL_partsOf_X1_partsOf : GoodIn wsL_partsOf wsX1_partsOf := goodIn_ca (goodIn_r _ [6, 7, 8, 9, 5, 10, 11, 12, 13, 14, 15, 16, 17, 18, 19, 20, 21, 22, 23, 24, 25, 26, 27, 28, 29, 30, 31, 32, 33, 34, 35, 36, 37] (by decide +kernel) (by decide +kernel)) (goodIn_sub (fun _ h => List.mem_cons_of_mem _ (List.mem_append_right _ h)) (by decide +kernel))
set_option maxRecDepth 20000 in
theorem gL_partsOf_X1_partsOf : GoodIn wsL_partsOf (wsV RL 54 RX1 yX1_partsOf wsX1_partsOf) := goodIn_app (goodIn_of _ (by decide +kernel)) ggL_partsOf_X1_partsOf
set_option maxRecDepth 20000 in
theorem ggL_touches_X1_touches : GoodIn wsL_touches wsX1_touches := goodIn_ca (goodIn_r _ [6, 7, 8, 9, 10, 11, 5, 12, 13, 14, 15, 16, 17, 18, 19, 20, 21, 22, 23, 24, 25, 26, 27, 28, 29, 30, 31, 32, 33, 34, 35, 36, 37, 38, 39] (by decide +kernel) (by decide +kernel)) (goodIn_sub (fun _ h => List.mem_cons_of_mem _ (List.mem_append_right _ h)) (by decide +kernel))
set_option maxRecDepth 20000 in
theorem gL_touches_X1_touches : GoodIn wsL_touches (wsV RL 57 RX1 yX1_touches wsX1_touches) := goodIn_app (goodIn_of _ (by decide +kernel)) ggL_touches_X1_touches
set_option maxRecDepth 20000 in
theorem ggL_runs_X1_runs : GoodIn wsL_runs wsX1_runs := goodIn_ca (goodIn_r _ [6, 7, 8, 9, 10, 5, 11, 12, 13, 14, 15, 16, 17, 18, 19, 20, 21, 22, 23, 24, 25, 26, 27, 28, 29, 30, 31, 32, 33, 34, 35, 36, 37, 38, 39, 40] (by decide +kernel) (by decide +kernel)) (goodIn_sub (fun _ h => List.mem_cons_of_mem _ (List.mem_append_right _ h)) (by decide +kernel))
set_option maxRecDepth 20000 in
theorem gL_runs_X1_runs : GoodIn wsL_runs (wsV RL 60 RX1 yX1_runs wsX1_runs) := goodIn_app (goodIn_of _ (by decide +kernel)) ggL_runs_X1_runs
set_option maxRecDepth 20000 in
theorem ggL_verdict_X1_verdict : GoodIn wsL_verdict wsX1_verdict := goodIn_ca (goodIn_r _ [6, 7, 8, 9, 10, 5, 11, 12, 13, 14, 15, 16, 17, 18, 19, 20, 21, 22, 23, 24, 25, 26, 27, 28, 29, 30, 31, 32, 33, 34, 35, 36, 37, 38, 39, 40, 41, 42, 43, 44, 45, 46] (by decide +kernel) (by decide +kernel)) (goodIn_sub (fun _ h => List.mem_cons_of_mem _ (List.mem_append_right _ h)) (by decide +kernel))
set_option maxRecDepth 20000 in
theorem gL_verdict_X1_verdict : GoodIn wsL_verdict (wsV RL 63 RX1 yX1_verdict wsX1_verdict) := goodIn_app (goodIn_of _ (by decide +kernel)) ggL_verdict_X1_verdict
set_option maxRecDepth 20000 in
theorem ggL_failing_X1_failing : GoodIn wsL_failing wsX1_failing := goodIn_ca (goodIn_r _ [6, 7, 8, 9, 10, 5, 11, 12, 13, 14, 15, 16, 17, 18, 19, 20, 21, 22, 23, 24, 25, 26, 27, 28, 29, 30, 31, 32, 33, 34, 35, 36, 37, 38, 39, 40, 41, 42, 43, 44, 45] (by decide +kernel) (by decide +kernel)) (goodIn_sub (fun _ h => List.mem_cons_of_mem _ (List.mem_append_right _ h)) (by decide +kernel))
set_option maxRecDepth 20000 in
theorem gL_failing_X1_failing : GoodIn wsL_failing (wsV RL 66 RX1 yX1_failing wsX1_failing) := goodIn_app (goodIn_of _ (by decide +kernel)) ggL_failing_X1_failing
set_option maxRecDepth 20000 in
theorem ggL_isQuarantined_X1_isQuarantined : GoodIn wsL_isQuarantined wsX1_isQuarantined := goodIn_ca (goodIn_r _ [6, 7, 8, 9, 5, 10, 11, 12, 13, 14, 15, 16, 17, 18, 19, 20, 21, 22, 23, 24, 25, 26, 27, 28, 29, 30, 31, 32, 33, 34, 35, 36, 37, 38, 39, 40, 41, 42, 43, 44, 45, 46, 47, 48, 49, 50, 51, 52] (by decide +kernel) (by decide +kernel)) (goodIn_sub (fun _ h => List.mem_cons_of_mem _ (List.mem_append_right _ h)) (by decide +kernel))
set_option maxRecDepth 20000 in
theorem gL_isQuarantined_X1_isQuarantined : GoodIn wsL_isQuarantined (wsV RL 69 RX1 yX1_isQuarantined wsX1_isQuarantined) := goodIn_app (goodIn_of _ (by decide +kernel)) ggL_isQuarantined_X1_isQuarantined
set_option maxRecDepth 20000 in
theorem ggL_broken_X1_broken : GoodIn wsL_broken wsX1_broken := goodIn_ca (goodIn_r _ [6, 7, 8, 9, 10, 11, 5, 12, 13, 14, 15, 16, 17, 18, 19, 20, 21, 22, 23, 24, 25, 26, 27, 28, 29, 30, 31, 32, 33, 34, 35, 36, 37, 38, 39, 40, 41, 42, 43, 44, 45, 46, 47, 48, 49, 50, 51, 52] (by decide +kernel) (by decide +kernel)) (goodIn_sub (fun _ h => List.mem_cons_of_mem _ (List.mem_append_right _ h)) (by decide +kernel))
set_option maxRecDepth 20000 in
theorem gL_broken_X1_broken : GoodIn wsL_broken (wsV RL 73 RX1 yX1_broken wsX1_broken) := goodIn_app (goodIn_of _ (by decide +kernel)) ggL_broken_X1_broken
set_option maxRecDepth 20000 in
theorem ggL_suspects_X1_suspects : GoodIn wsL_suspects wsX1_suspects := goodIn_ca (goodIn_ca (goodIn_r _ [7, 8, 9, 10, 6, 11, 12, 13, 14, 15, 16, 17, 18, 19, 20, 21, 22, 23, 24, 25, 26, 27, 28, 29, 30, 31, 32, 33, 34, 35, 36, 37, 38, 39, 40, 41, 42, 43, 44, 45, 46, 47, 48, 49, 50, 51, 52] (by decide +kernel) (by decide +kernel)) (goodIn_sub (fun _ h => List.mem_cons_of_mem _ (List.mem_append_left _ (List.mem_append_right _ h))) (by decide +kernel))) (goodIn_sub (fun _ h => List.mem_cons_of_mem _ (List.mem_append_right _ h)) (by decide +kernel))
set_option maxRecDepth 20000 in
theorem gL_suspects_X1_suspects : GoodIn wsL_suspects (wsV RL 76 RX1 yX1_suspects wsX1_suspects) := goodIn_app (goodIn_of _ (by decide +kernel)) ggL_suspects_X1_suspects
set_option maxRecDepth 20000 in
theorem ggL_contradictions_X1_contradictions : GoodIn wsL_contradictions wsX1_contradictions := goodIn_ca (goodIn_ca (goodIn_r _ [7, 8, 9, 10, 11, 12, 13, 6, 14, 15, 16, 17, 18, 19, 20, 21, 22, 23, 24, 25, 26, 27, 28, 29, 30, 31, 32, 33, 34, 35, 36, 37, 38, 39, 40, 41, 42, 43, 44, 45, 46, 47, 48, 49, 50, 51, 52, 53, 54, 55, 56, 57, 58, 59, 60, 61, 62, 63, 64, 65, 66, 67, 68, 69, 70, 71] (by decide +kernel) (by decide +kernel)) (goodIn_sub (fun _ h => List.mem_cons_of_mem _ (List.mem_append_left _ (List.mem_append_right _ h))) (by decide +kernel))) (goodIn_sub (fun _ h => List.mem_cons_of_mem _ (List.mem_append_right _ h)) (by decide +kernel))
set_option maxRecDepth 20000 in
theorem gL_contradictions_X1_contradictions : GoodIn wsL_contradictions (wsV RL 80 RX1 yX1_contradictions wsX1_contradictions) := goodIn_app (goodIn_of _ (by decide +kernel)) ggL_contradictions_X1_contradictions
set_option maxRecDepth 20000 in
theorem ggL_candidates_X1_candidates : GoodIn wsL_candidates wsX1_candidates := goodIn_ca (goodIn_ca (goodIn_r _ [7, 8, 9, 10, 6, 11, 12, 13, 14, 15, 16, 17, 18, 19, 20, 21, 22, 23, 24, 25, 26, 27, 28, 29, 30, 31, 32, 33, 34, 35, 36, 37, 38, 39, 40, 41, 42, 43, 44, 45, 46, 47, 48, 49, 50, 51, 52, 53, 54, 55, 56, 57, 58, 59, 60, 61, 62, 63, 64, 65, 66, 67, 68, 69, 70, 71, 72, 73, 74] (by decide +kernel) (by decide +kernel)) (goodIn_sub (fun _ h => List.mem_cons_of_mem _ (List.mem_append_left _ (List.mem_append_right _ h))) (by decide +kernel))) (goodIn_sub (fun _ h => List.mem_cons_of_mem _ (List.mem_append_right _ h)) (by decide +kernel))
set_option maxRecDepth 20000 in
theorem gL_candidates_X1_candidates : GoodIn wsL_candidates (wsV RL 83 RX1 yX1_candidates wsX1_candidates) := goodIn_app (goodIn_of _ (by decide +kernel)) ggL_candidates_X1_candidates
set_option maxRecDepth 20000 in
theorem ggL_likeliest_X1_likeliest : GoodIn wsL_likeliest wsX1_likeliest := goodIn_ca (goodIn_ca (goodIn_r _ [7, 8, 9, 10, 6, 11, 12, 13, 14, 15, 16, 17, 18, 19, 20, 21, 22, 23, 24, 25, 26, 27, 28, 29, 30, 31, 32, 33, 34, 35, 36, 37, 38, 39, 40, 41, 42, 43, 44, 45, 46, 47, 48, 49, 50, 51, 52, 53, 54, 55, 56, 57, 58, 59, 60, 61, 62, 63, 64, 65, 66, 67, 68, 69, 70, 71, 72, 73] (by decide +kernel) (by decide +kernel)) (goodIn_sub (fun _ h => List.mem_cons_of_mem _ (List.mem_append_left _ (List.mem_append_right _ h))) (by decide +kernel))) (goodIn_sub (fun _ h => List.mem_cons_of_mem _ (List.mem_append_right _ h)) (by decide +kernel))
set_option maxRecDepth 20000 in
theorem gL_likeliest_X1_likeliest : GoodIn wsL_likeliest (wsV RL 86 RX1 yX1_likeliest wsX1_likeliest) := goodIn_app (goodIn_of _ (by decide +kernel)) ggL_likeliest_X1_likeliest
set_option maxRecDepth 20000 in
theorem ggL_next_X1_next : GoodIn wsL_next wsX1_next := goodIn_ca (goodIn_ca (goodIn_r _ [7, 8, 9, 10, 11, 12, 13, 6, 14, 15, 16, 17, 18, 19, 20, 21, 22, 23, 24, 25, 26, 27, 28, 29, 30, 31, 32, 33, 34, 35, 36, 37, 38, 39, 40, 41, 42, 43, 44, 45, 46, 47, 48, 49, 50, 51, 52, 53, 54, 55, 56, 57, 58, 59, 60, 61, 62, 63, 64, 65, 66, 67, 68, 69, 70, 71, 72, 73, 74, 75, 76, 77, 78, 79, 80, 81, 82, 83, 84, 85, 86, 87, 88, 89, 90, 91, 92] (by decide +kernel) (by decide +kernel)) (goodIn_sub (fun _ h => List.mem_cons_of_mem _ (List.mem_append_left _ (List.mem_append_right _ h))) (by decide +kernel))) (goodIn_sub (fun _ h => List.mem_cons_of_mem _ (List.mem_append_right _ h)) (by decide +kernel))
set_option maxRecDepth 20000 in
theorem gL_next_X1_next : GoodIn wsL_next (wsV RL 89 RX1 yX1_next wsX1_next) := goodIn_app (goodIn_of _ (by decide +kernel)) ggL_next_X1_next
set_option maxRecDepth 20000 in
theorem ggL_law_X1_init : GoodIn wsL_law wsX1_init := goodIn_r _ [9, 10, 11, 12, 13, 14, 15, 16, 17, 18, 19, 20, 21, 22, 23, 24, 25, 26, 27, 28, 29, 30, 31, 32, 33, 34, 35, 36, 37, 38, 39, 40, 41, 541, 542, 543, 544, 545, 546, 547, 548, 549, 550, 551, 552, 553, 554, 555, 572, 573, 574, 575, 576] (by decide +kernel) (by decide +kernel)
set_option maxRecDepth 20000 in
theorem gL_law_X1_init : GoodIn wsL_law (wsX1_init) := ggL_law_X1_init
set_option maxRecDepth 20000 in
theorem ggL_law_X2_init : GoodIn wsL_law wsX2_init := goodIn_r _ [44, 45, 11, 12, 46, 47, 13, 48, 49, 50, 51, 52, 53, 54, 55, 556, 557, 558, 559, 560, 561, 562, 563, 564, 565, 566, 567, 568, 569, 570, 571] (by decide +kernel) (by decide +kernel)
set_option maxRecDepth 20000 in
theorem gL_law_X2_init : GoodIn wsL_law (wsX2_init) := ggL_law_X2_init
set_option maxRecDepth 20000 in
theorem ggL_law_L_setUses : GoodIn wsL_law wsL_setUses := goodIn_ca (goodIn_ca (goodIn_r _ [59, 60, 61, 62, 63, 64, 2, 65, 66, 67, 14, 68, 69, 70, 71, 72, 73, 541, 542, 543, 544, 545, 546, 547, 548, 549, 550, 551, 552, 553, 554, 555] (by decide +kernel) (by decide +kernel)) (goodIn_sub (fun _ h => List.mem_append_left _ (List.mem_append_left _ (List.mem_append_right _ h))) (by decide +kernel))) (goodIn_sub (fun _ h => List.mem_append_left _ (List.mem_append_right _ h)) (by decide +kernel))
set_option maxRecDepth 20000 in
theorem gL_law_L_setUses : GoodIn wsL_law (va_wsS RL 96 yL_setUses wsL_setUses) := goodIn_app (goodIn_of _ (by decide +kernel)) ggL_law_L_setUses
set_option maxRecDepth 20000 in
theorem ggL_law_X2_setUses : GoodIn wsL_law wsX2_setUses := goodIn_r _ [77, 48, 78, 79, 5, 80, 81, 82, 83, 84, 85, 86, 87, 88, 89, 556, 557, 558, 559, 560, 561, 562, 563, 564, 565, 566, 567, 568, 569, 570, 571] (by decide +kernel) (by decide +kernel)
set_option maxRecDepth 20000 in
theorem gL_law_X2_setUses : GoodIn wsL_law (wsV RL 101 RX2 yX2_setUses wsX2_setUses) := goodIn_app (goodIn_of _ (by decide +kernel)) ggL_law_X2_setUses
set_option maxRecDepth 20000 in
theorem ggL_law_X2_thrown : GoodIn wsL_law wsX2_thrown := goodIn_r _ [93, 89, 556, 557, 558, 559, 560, 561, 562, 563, 564, 565, 566, 567, 568, 569, 570, 571] (by decide +kernel) (by decide +kernel)
set_option maxRecDepth 20000 in
theorem gL_law_X2_thrown : GoodIn wsL_law (wsV RL 102 RX2 yX2_thrown wsX2_thrown) := goodIn_app (goodIn_of _ (by decide +kernel)) ggL_law_X2_thrown
set_option maxRecDepth 20000 in
theorem ggL_law_L_addCommit : GoodIn wsL_law wsL_addCommit := goodIn_ca (goodIn_ca (goodIn_r _ [96, 61, 97, 98, 99, 100, 2, 101, 102, 103, 27, 15, 68, 69, 70, 71, 72, 73, 541, 542, 543, 544, 545, 546, 547, 548, 549, 550, 551, 552, 553, 554, 555] (by decide +kernel) (by decide +kernel)) (goodIn_sub (fun _ h => List.mem_append_right _ h) (by decide +kernel))) (goodIn_sub (fun _ h => List.mem_append_left _ (List.mem_append_right _ h)) (by decide +kernel))
set_option maxRecDepth 20000 in
theorem gL_law_L_addCommit : GoodIn wsL_law (va_wsS RL 105 yL_addCommit wsL_addCommit) := goodIn_app (goodIn_of _ (by decide +kernel)) ggL_law_L_addCommit
set_option maxRecDepth 20000 in
theorem ggL_law_X2_addCommit : GoodIn wsL_law wsX2_addCommit := goodIn_r _ [107, 108, 49, 81, 82, 5, 83, 84, 78, 79, 80, 85, 86, 87, 88, 89, 556, 557, 558, 559, 560, 561, 562, 563, 564, 565, 566, 567, 568, 569, 570, 571] (by decide +kernel) (by decide +kernel)
set_option maxRecDepth 20000 in
theorem gL_law_X2_addCommit : GoodIn wsL_law (wsV RL 108 RX2 yX2_addCommit wsX2_addCommit) := goodIn_app (goodIn_of _ (by decide +kernel)) ggL_law_X2_addCommit
set_option maxRecDepth 20000 in
theorem ggL_law_L_addTest : GoodIn wsL_law wsL_addTest := goodIn_ca (goodIn_ca (goodIn_r _ [111, 61, 97, 112, 113, 114, 2, 115, 102, 103, 28, 16, 68, 69, 70, 71, 72, 73, 541, 542, 543, 544, 545, 546, 547, 548, 549, 550, 551, 552, 553, 554, 555] (by decide +kernel) (by decide +kernel)) (goodIn_sub (fun _ h => List.mem_append_right _ h) (by decide +kernel))) (goodIn_sub (fun _ h => List.mem_append_left _ (List.mem_append_right _ h)) (by decide +kernel))
set_option maxRecDepth 20000 in
theorem gL_law_L_addTest : GoodIn wsL_law (va_wsS RL 109 yL_addTest wsL_addTest) := goodIn_app (goodIn_of _ (by decide +kernel)) ggL_law_L_addTest
set_option maxRecDepth 20000 in
theorem ggL_law_X2_addTest : GoodIn wsL_law wsX2_addTest := goodIn_r _ [119, 120, 50, 81, 82, 5, 83, 84, 78, 79, 80, 85, 86, 87, 88, 89, 556, 557, 558, 559, 560, 561, 562, 563, 564, 565, 566, 567, 568, 569, 570, 571] (by decide +kernel) (by decide +kernel)
set_option maxRecDepth 20000 in
theorem gL_law_X2_addTest : GoodIn wsL_law (wsV RL 111 RX2 yX2_addTest wsX2_addTest) := goodIn_app (goodIn_of _ (by decide +kernel)) ggL_law_X2_addTest
set_option maxRecDepth 20000 in
theorem ggL_law_L_setQuarantine : GoodIn wsL_law wsL_setQuarantine := goodIn_ca (goodIn_r _ [123, 61, 124, 125, 126, 2, 127, 71, 72, 29, 30, 541, 542, 543, 544, 545, 546, 547, 548, 549, 550, 551, 552, 553, 554, 555] (by decide +kernel) (by decide +kernel)) (goodIn_sub (fun _ h => List.mem_append_left _ (List.mem_append_right _ h)) (by decide +kernel))
set_option maxRecDepth 20000 in
theorem gL_law_L_setQuarantine : GoodIn wsL_law (va_wsS RL 112 yL_setQuarantine wsL_setQuarantine) := goodIn_app (goodIn_of _ (by decide +kernel)) ggL_law_L_setQuarantine
set_option maxRecDepth 20000 in
theorem ggL_law_X2_setQuarantine : GoodIn wsL_law wsX2_setQuarantine := goodIn_r _ [131, 46, 47, 78, 79, 5, 80, 85, 86, 87, 88, 89, 556, 557, 558, 559, 560, 561, 562, 563, 564, 565, 566, 567, 568, 569, 570, 571] (by decide +kernel) (by decide +kernel)
set_option maxRecDepth 20000 in
theorem gL_law_X2_setQuarantine : GoodIn wsL_law (wsV RL 115 RX2 yX2_setQuarantine wsX2_setQuarantine) := goodIn_app (goodIn_of _ (by decide +kernel)) ggL_law_X2_setQuarantine
set_option maxRecDepth 20000 in
theorem ggL_law_L_setNoise : GoodIn wsL_law wsL_setNoise := goodIn_ca (goodIn_r _ [134, 61, 135, 136, 137, 2, 138, 71, 72, 31, 541, 542, 543, 544, 545, 546, 547, 548, 549, 550, 551, 552, 553, 554, 555] (by decide +kernel) (by decide +kernel)) (goodIn_sub (fun _ h => List.mem_append_left _ (List.mem_append_right _ h)) (by decide +kernel))
set_option maxRecDepth 20000 in
theorem gL_law_L_setNoise : GoodIn wsL_law (va_wsS RL 116 yL_setNoise wsL_setNoise) := goodIn_app (goodIn_of _ (by decide +kernel)) ggL_law_L_setNoise
set_option maxRecDepth 20000 in
theorem ggL_law_X2_setNoise : GoodIn wsL_law wsX2_setNoise := goodIn_r _ [142, 143, 78, 79, 5, 80, 85, 86, 87, 88, 89, 556, 557, 558, 559, 560, 561, 562, 563, 564, 565, 566, 567, 568, 569, 570, 571] (by decide +kernel) (by decide +kernel)
set_option maxRecDepth 20000 in
theorem gL_law_X2_setNoise : GoodIn wsL_law (wsV RL 118 RX2 yX2_setNoise wsX2_setNoise) := goodIn_app (goodIn_of _ (by decide +kernel)) ggL_law_X2_setNoise
set_option maxRecDepth 20000 in
theorem ggL_law_L_record : GoodIn wsL_law wsL_record := goodIn_ca (goodIn_ca (goodIn_r _ [146, 60, 97, 147, 148, 149, 2, 150, 102, 103, 20, 151, 152, 153, 154, 66, 67, 28, 155, 156, 157, 158, 27, 159, 160, 161, 19, 162, 36, 38, 39, 40, 41, 163, 164, 165, 166, 541, 542, 543, 544, 545, 546, 547, 548, 549, 550, 551, 552, 553, 554, 555, 572, 573, 574, 575, 576] (by decide +kernel) (by decide +kernel)) (goodIn_sub (fun _ h => List.mem_append_right _ h) (by decide +kernel))) (goodIn_sub (fun _ h => List.mem_append_left _ (List.mem_append_left _ (List.mem_append_right _ h))) (by decide +kernel))
set_option maxRecDepth 20000 in
theorem gL_law_L_record : GoodIn wsL_law (va_wsS RL 119 yL_record wsL_record) := goodIn_app (goodIn_of _ (by decide +kernel)) ggL_law_L_record
set_option maxRecDepth 20000 in
theorem ggL_law_X2_record : GoodIn wsL_law wsX2_record := goodIn_r _ [170, 51, 52, 171, 172, 173, 5, 174, 120, 78, 79, 80, 175, 176, 177, 178, 108, 179, 180, 181, 182, 183, 184, 185, 186, 85, 86, 87, 88, 89, 187, 188, 189, 190, 556, 557, 558, 559, 560, 561, 562, 563, 564, 565, 566, 567, 568, 569, 570, 571] (by decide +kernel) (by decide +kernel)
set_option maxRecDepth 20000 in
theorem gL_law_X2_record : GoodIn wsL_law (wsV RL 122 RX2 yX2_record wsX2_record) := goodIn_app (goodIn_of _ (by decide +kernel)) ggL_law_X2_record
set_option maxRecDepth 20000 in
theorem ggL_law_L_triage : GoodIn wsL_law wsL_triage := goodIn_ca (goodIn_ca (goodIn_r _ [193, 60, 61, 194, 195, 196, 2, 197, 71, 72, 22, 23, 24, 151, 152, 153, 154, 66, 67, 28, 155, 156, 157, 158, 27, 198, 199, 200, 201, 20, 31, 202, 203, 204, 205, 15, 206, 207, 208, 209, 16, 14, 210, 211, 212, 213, 214, 215, 19, 216, 40, 217, 218, 219, 220, 41, 221, 222, 223, 224, 225, 226, 227, 541, 542, 543, 544, 545, 546, 547, 548, 549, 550, 551, 552, 553, 554, 555, 572, 573, 574, 575, 576] (by decide +kernel) (by decide +kernel)) (goodIn_sub (fun _ h => List.mem_append_left _ (List.mem_append_right _ h)) (by decide +kernel))) (goodIn_sub (fun _ h => List.mem_append_left _ (List.mem_append_left _ (List.mem_append_right _ h))) (by decide +kernel))
set_option maxRecDepth 20000 in
theorem gL_law_L_triage : GoodIn wsL_law (va_wsS RL 123 yL_triage wsL_triage) := goodIn_app (goodIn_of _ (by decide +kernel)) ggL_law_L_triage
set_option maxRecDepth 20000 in
theorem ggL_law_X2_triage : GoodIn wsL_law wsX2_triage := goodIn_r _ [231, 53, 54, 171, 172, 173, 5, 174, 120, 78, 79, 80, 175, 176, 177, 178, 108, 85, 86, 87, 88, 89, 232, 233, 234, 235, 236, 237, 238, 239, 240, 241, 242, 243, 143, 244, 245, 246, 247, 49, 248, 249, 250, 251, 50, 48, 252, 253, 254, 255, 52, 51, 556, 557, 558, 559, 560, 561, 562, 563, 564, 565, 566, 567, 568, 569, 570, 571] (by decide +kernel) (by decide +kernel)
set_option maxRecDepth 20000 in
theorem gL_law_X2_triage : GoodIn wsL_law (wsV RL 126 RX2 yX2_triage wsX2_triage) := goodIn_app (goodIn_of _ (by decide +kernel)) ggL_law_X2_triage
set_option maxRecDepth 20000 in
theorem ggL_law_L_close : GoodIn wsL_law wsL_close := goodIn_ca (goodIn_ca (goodIn_r _ [258, 60, 97, 259, 260, 261, 2, 262, 22, 151, 152, 153, 154, 66, 67, 28, 263, 264, 265, 266, 102, 103, 198, 199, 200, 201, 23, 24, 20, 31, 202, 203, 204, 205, 15, 206, 207, 208, 209, 16, 14, 210, 211, 212, 213, 214, 215, 19, 216, 40, 217, 218, 219, 220, 41, 221, 222, 223, 224, 225, 226, 227, 267, 268, 269, 270, 271, 272, 273, 274, 25, 26, 541, 542, 543, 544, 545, 546, 547, 548, 549, 550, 551, 552, 553, 554, 555, 572, 573, 574, 575, 576] (by decide +kernel) (by decide +kernel)) (goodIn_sub (fun _ h => List.mem_append_left _ (List.mem_append_left _ (List.mem_append_right _ h))) (by decide +kernel))) (goodIn_sub (fun _ h => List.mem_append_right _ h) (by decide +kernel))
set_option maxRecDepth 20000 in
theorem gL_law_L_close : GoodIn wsL_law (va_wsS RL 127 yL_close wsL_close) := goodIn_app (goodIn_of _ (by decide +kernel)) ggL_law_L_close
set_option maxRecDepth 20000 in
theorem ggL_law_X2_close : GoodIn wsL_law wsX2_close := goodIn_r _ [278, 53, 171, 172, 173, 5, 174, 120, 78, 79, 80, 279, 280, 281, 282, 85, 86, 87, 88, 89, 283, 284, 285, 286, 54, 240, 241, 242, 243, 143, 244, 245, 246, 247, 49, 248, 249, 250, 251, 50, 48, 252, 253, 254, 255, 52, 51, 232, 233, 234, 235, 236, 237, 238, 239, 287, 288, 289, 290, 291, 55, 292, 293, 294, 295, 556, 557, 558, 559, 560, 561, 562, 563, 564, 565, 566, 567, 568, 569, 570, 571] (by decide +kernel) (by decide +kernel)
set_option maxRecDepth 20000 in
theorem gL_law_X2_close : GoodIn wsL_law (wsV RL 129 RX2 yX2_close wsX2_close) := goodIn_app (goodIn_of _ (by decide +kernel)) ggL_law_X2_close
set_option maxRecDepth 20000 in
theorem ggL_law_L_enqueue : GoodIn wsL_law wsL_enqueue := goodIn_ca (goodIn_ca (goodIn_r _ [298, 60, 97, 299, 300, 301, 2, 302, 102, 103, 25, 26, 151, 152, 153, 154, 66, 67, 28, 263, 264, 265, 266, 22, 303, 304, 305, 306, 541, 542, 543, 544, 545, 546, 547, 548, 549, 550, 551, 552, 553, 554, 555] (by decide +kernel) (by decide +kernel)) (goodIn_sub (fun _ h => List.mem_append_right _ h) (by decide +kernel))) (goodIn_sub (fun _ h => List.mem_append_left _ (List.mem_append_left _ (List.mem_append_right _ h))) (by decide +kernel))
set_option maxRecDepth 20000 in
theorem gL_law_L_enqueue : GoodIn wsL_law (va_wsS RL 130 yL_enqueue wsL_enqueue) := goodIn_app (goodIn_of _ (by decide +kernel)) ggL_law_L_enqueue
set_option maxRecDepth 20000 in
theorem ggL_law_X2_enqueue : GoodIn wsL_law wsX2_enqueue := goodIn_r _ [310, 291, 171, 172, 173, 5, 174, 120, 78, 79, 80, 279, 280, 281, 282, 53, 287, 288, 289, 290, 55, 85, 86, 87, 88, 89, 311, 312, 313, 314, 556, 557, 558, 559, 560, 561, 562, 563, 564, 565, 566, 567, 568, 569, 570, 571] (by decide +kernel) (by decide +kernel)
set_option maxRecDepth 20000 in
theorem gL_law_X2_enqueue : GoodIn wsL_law (wsV RL 132 RX2 yX2_enqueue wsX2_enqueue) := goodIn_app (goodIn_of _ (by decide +kernel)) ggL_law_X2_enqueue
set_option maxRecDepth 20000 in
theorem ggL_law_L_newDay : GoodIn wsL_law wsL_newDay := goodIn_ca (goodIn_r _ [317, 61, 318, 319, 320, 2, 321, 71, 72, 32, 541, 542, 543, 544, 545, 546, 547, 548, 549, 550, 551, 552, 553, 554, 555] (by decide +kernel) (by decide +kernel)) (goodIn_sub (fun _ h => List.mem_append_left _ (List.mem_append_right _ h)) (by decide +kernel))
set_option maxRecDepth 20000 in
theorem gL_law_L_newDay : GoodIn wsL_law (va_wsS RL 133 yL_newDay wsL_newDay) := goodIn_app (goodIn_of _ (by decide +kernel)) ggL_law_L_newDay
set_option maxRecDepth 20000 in
theorem ggL_law_X2_newDay : GoodIn wsL_law wsX2_newDay := goodIn_r _ [325, 326, 78, 79, 5, 80, 85, 86, 87, 88, 89, 556, 557, 558, 559, 560, 561, 562, 563, 564, 565, 566, 567, 568, 569, 570, 571] (by decide +kernel) (by decide +kernel)
set_option maxRecDepth 20000 in
theorem gL_law_X2_newDay : GoodIn wsL_law (wsV RL 135 RX2 yX2_newDay wsX2_newDay) := goodIn_app (goodIn_of _ (by decide +kernel)) ggL_law_X2_newDay
set_option maxRecDepth 20000 in
theorem ggL_law_L_take : GoodIn wsL_law wsL_take := goodIn_ca (goodIn_r _ [329, 97, 330, 331, 332, 2, 333, 102, 103, 32, 334, 335, 336, 337, 28, 25, 271, 272, 273, 274, 26, 198, 199, 200, 201, 23, 24, 20, 31, 202, 203, 204, 205, 15, 206, 207, 208, 209, 16, 14, 210, 211, 212, 213, 214, 215, 19, 216, 40, 217, 218, 219, 220, 41, 221, 222, 223, 224, 225, 226, 227, 303, 304, 305, 306, 541, 542, 543, 544, 545, 546, 547, 548, 549, 550, 551, 552, 553, 554, 555, 572, 573, 574, 575, 576] (by decide +kernel) (by decide +kernel)) (goodIn_sub (fun _ h => List.mem_append_right _ h) (by decide +kernel))
set_option maxRecDepth 20000 in
theorem gL_law_L_take : GoodIn wsL_law (va_wsS RL 136 yL_take wsL_take) := goodIn_app (goodIn_of _ (by decide +kernel)) ggL_law_L_take
set_option maxRecDepth 20000 in
theorem ggL_law_X2_take : GoodIn wsL_law wsX2_take := goodIn_r _ [341, 291, 326, 55, 85, 86, 87, 5, 88, 89, 292, 293, 294, 295, 232, 233, 234, 235, 53, 54, 236, 237, 238, 239, 240, 241, 242, 243, 143, 244, 245, 246, 247, 49, 248, 249, 250, 251, 50, 48, 252, 253, 254, 255, 52, 51, 311, 312, 313, 314, 556, 557, 558, 559, 560, 561, 562, 563, 564, 565, 566, 567, 568, 569, 570, 571] (by decide +kernel) (by decide +kernel)
set_option maxRecDepth 20000 in
theorem gL_law_X2_take : GoodIn wsL_law (wsV RL 139 RX2 yX2_take wsX2_take) := goodIn_app (goodIn_of _ (by decide +kernel)) ggL_law_X2_take
set_option maxRecDepth 20000 in
theorem ggL_law_X1_commits : GoodIn wsL_law wsX1_commits := goodIn_r _ [345, 27, 541, 542, 543, 544, 545, 546, 547, 548, 549, 550, 551, 552, 553, 554, 555] (by decide +kernel) (by decide +kernel)
set_option maxRecDepth 20000 in
theorem gL_law_X1_commits : GoodIn wsL_law (wsV RL 140 RX1 yX1_commits wsX1_commits) := goodIn_app (goodIn_of _ (by decide +kernel)) ggL_law_X1_commits
set_option maxRecDepth 20000 in
theorem ggL_law_X2_commits : GoodIn wsL_law wsX2_commits := goodIn_r _ [349, 108, 350, 351, 352, 5, 353, 89, 556, 557, 558, 559, 560, 561, 562, 563, 564, 565, 566, 567, 568, 569, 570, 571] (by decide +kernel) (by decide +kernel)
set_option maxRecDepth 20000 in
theorem gL_law_X2_commits : GoodIn wsL_law (wsV RL 143 RX2 yX2_commits wsX2_commits) := goodIn_app (goodIn_of _ (by decide +kernel)) ggL_law_X2_commits
set_option maxRecDepth 20000 in
theorem ggL_law_X1_tests : GoodIn wsL_law wsX1_tests := goodIn_r _ [357, 28, 541, 542, 543, 544, 545, 546, 547, 548, 549, 550, 551, 552, 553, 554, 555] (by decide +kernel) (by decide +kernel)
set_option maxRecDepth 20000 in
theorem gL_law_X1_tests : GoodIn wsL_law (wsV RL 144 RX1 yX1_tests wsX1_tests) := goodIn_app (goodIn_of _ (by decide +kernel)) ggL_law_X1_tests
set_option maxRecDepth 20000 in
theorem ggL_law_X2_tests : GoodIn wsL_law wsX2_tests := goodIn_r _ [361, 120, 350, 351, 352, 5, 353, 89, 556, 557, 558, 559, 560, 561, 562, 563, 564, 565, 566, 567, 568, 569, 570, 571] (by decide +kernel) (by decide +kernel)
set_option maxRecDepth 20000 in
theorem gL_law_X2_tests : GoodIn wsL_law (wsV RL 147 RX2 yX2_tests wsX2_tests) := goodIn_app (goodIn_of _ (by decide +kernel)) ggL_law_X2_tests
set_option maxRecDepth 20000 in
theorem ggL_law_X1_budget : GoodIn wsL_law wsX1_budget := goodIn_r _ [365, 32, 541, 542, 543, 544, 545, 546, 547, 548, 549, 550, 551, 552, 553, 554, 555] (by decide +kernel) (by decide +kernel)
set_option maxRecDepth 20000 in
theorem gL_law_X1_budget : GoodIn wsL_law (wsV RL 148 RX1 yX1_budget wsX1_budget) := goodIn_app (goodIn_of _ (by decide +kernel)) ggL_law_X1_budget
set_option maxRecDepth 20000 in
theorem ggL_law_X2_budget : GoodIn wsL_law wsX2_budget := goodIn_r _ [369, 326, 350, 351, 352, 5, 353, 89, 556, 557, 558, 559, 560, 561, 562, 563, 564, 565, 566, 567, 568, 569, 570, 571] (by decide +kernel) (by decide +kernel)
set_option maxRecDepth 20000 in
theorem gL_law_X2_budget : GoodIn wsL_law (wsV RL 151 RX2 yX2_budget wsX2_budget) := goodIn_app (goodIn_of _ (by decide +kernel)) ggL_law_X2_budget
set_option maxRecDepth 20000 in
theorem ggL_law_X1_queued : GoodIn wsL_law wsX1_queued := goodIn_r _ [373, 26, 541, 542, 543, 544, 545, 546, 547, 548, 549, 550, 551, 552, 553, 554, 555] (by decide +kernel) (by decide +kernel)
set_option maxRecDepth 20000 in
theorem gL_law_X1_queued : GoodIn wsL_law (wsV RL 152 RX1 yX1_queued wsX1_queued) := goodIn_app (goodIn_of _ (by decide +kernel)) ggL_law_X1_queued
set_option maxRecDepth 20000 in
theorem ggL_law_X2_queued : GoodIn wsL_law wsX2_queued := goodIn_r _ [377, 291, 350, 351, 352, 5, 353, 89, 556, 557, 558, 559, 560, 561, 562, 563, 564, 565, 566, 567, 568, 569, 570, 571] (by decide +kernel) (by decide +kernel)
set_option maxRecDepth 20000 in
theorem gL_law_X2_queued : GoodIn wsL_law (wsV RL 155 RX2 yX2_queued wsX2_queued) := goodIn_app (goodIn_of _ (by decide +kernel)) ggL_law_X2_queued
set_option maxRecDepth 20000 in
theorem ggL_law_L_partsOf : GoodIn wsL_law wsL_partsOf := goodIn_ca (goodIn_r _ [380, 60, 381, 382, 383, 2, 384, 151, 152, 153, 154, 66, 67, 28, 206, 207, 208, 209, 16, 14, 210, 211, 212, 541, 542, 543, 544, 545, 546, 547, 548, 549, 550, 551, 552, 553, 554, 555] (by decide +kernel) (by decide +kernel)) (goodIn_sub (fun _ h => List.mem_append_left _ (List.mem_append_left _ (List.mem_append_right _ h))) (by decide +kernel))
set_option maxRecDepth 20000 in
theorem gL_law_L_partsOf : GoodIn wsL_law (va_wsS RL 156 yL_partsOf wsL_partsOf) := goodIn_app (goodIn_of _ (by decide +kernel)) ggL_law_L_partsOf
set_option maxRecDepth 20000 in
theorem ggL_law_X2_partsOf : GoodIn wsL_law wsX2_partsOf := goodIn_r _ [388, 171, 172, 173, 5, 174, 120, 78, 79, 80, 85, 86, 87, 88, 89, 248, 249, 250, 251, 50, 48, 556, 557, 558, 559, 560, 561, 562, 563, 564, 565, 566, 567, 568, 569, 570, 571] (by decide +kernel) (by decide +kernel)
set_option maxRecDepth 20000 in
theorem gL_law_X2_partsOf : GoodIn wsL_law (wsV RL 158 RX2 yX2_partsOf wsX2_partsOf) := goodIn_app (goodIn_of _ (by decide +kernel)) ggL_law_X2_partsOf
set_option maxRecDepth 20000 in
theorem ggL_law_L_touches : GoodIn wsL_law wsL_touches := goodIn_ca (goodIn_r _ [391, 60, 392, 393, 394, 2, 395, 28, 15, 155, 156, 157, 158, 66, 67, 27, 206, 207, 208, 209, 16, 14, 210, 211, 212, 541, 542, 543, 544, 545, 546, 547, 548, 549, 550, 551, 552, 553, 554, 555] (by decide +kernel) (by decide +kernel)) (goodIn_sub (fun _ h => List.mem_append_left _ (List.mem_append_left _ (List.mem_append_right _ h))) (by decide +kernel))
set_option maxRecDepth 20000 in
theorem gL_law_L_touches : GoodIn wsL_law (va_wsS RL 159 yL_touches wsL_touches) := goodIn_app (goodIn_of _ (by decide +kernel)) ggL_law_L_touches
set_option maxRecDepth 20000 in
theorem ggL_law_X2_touches : GoodIn wsL_law wsX2_touches := goodIn_r _ [399, 120, 49, 175, 176, 177, 5, 178, 108, 78, 79, 80, 85, 86, 87, 88, 89, 248, 249, 250, 251, 50, 48, 556, 557, 558, 559, 560, 561, 562, 563, 564, 565, 566, 567, 568, 569, 570, 571] (by decide +kernel) (by decide +kernel)
set_option maxRecDepth 20000 in
theorem gL_law_X2_touches : GoodIn wsL_law (wsV RL 161 RX2 yX2_touches wsX2_touches) := goodIn_app (goodIn_of _ (by decide +kernel)) ggL_law_X2_touches
set_option maxRecDepth 20000 in
theorem ggL_law_L_runs : GoodIn wsL_law wsL_runs := goodIn_ca (goodIn_r _ [402, 60, 403, 404, 405, 2, 406, 20, 151, 152, 153, 154, 66, 67, 28, 407, 408, 409, 19, 410, 36, 541, 542, 543, 544, 545, 546, 547, 548, 549, 550, 551, 552, 553, 554, 555, 572, 573, 574, 575, 576] (by decide +kernel) (by decide +kernel)) (goodIn_sub (fun _ h => List.mem_append_left _ (List.mem_append_left _ (List.mem_append_right _ h))) (by decide +kernel))
set_option maxRecDepth 20000 in
theorem gL_law_L_runs : GoodIn wsL_law (va_wsS RL 162 yL_runs wsL_runs) := goodIn_app (goodIn_of _ (by decide +kernel)) ggL_law_L_runs
set_option maxRecDepth 20000 in
theorem ggL_law_X2_runs : GoodIn wsL_law wsX2_runs := goodIn_r _ [414, 171, 172, 173, 5, 174, 120, 78, 79, 80, 85, 86, 87, 88, 89, 179, 180, 181, 182, 51, 52, 183, 184, 185, 186, 556, 557, 558, 559, 560, 561, 562, 563, 564, 565, 566, 567, 568, 569, 570, 571] (by decide +kernel) (by decide +kernel)
set_option maxRecDepth 20000 in
theorem gL_law_X2_runs : GoodIn wsL_law (wsV RL 164 RX2 yX2_runs wsX2_runs) := goodIn_app (goodIn_of _ (by decide +kernel)) ggL_law_X2_runs
set_option maxRecDepth 20000 in
theorem ggL_law_L_verdict : GoodIn wsL_law wsL_verdict := goodIn_ca (goodIn_r _ [417, 60, 418, 419, 420, 2, 421, 20, 151, 152, 153, 154, 66, 67, 28, 155, 156, 157, 158, 27, 163, 164, 165, 19, 166, 40, 41, 541, 542, 543, 544, 545, 546, 547, 548, 549, 550, 551, 552, 553, 554, 555, 572, 573, 574, 575, 576] (by decide +kernel) (by decide +kernel)) (goodIn_sub (fun _ h => List.mem_append_left _ (List.mem_append_left _ (List.mem_append_right _ h))) (by decide +kernel))
set_option maxRecDepth 20000 in
theorem gL_law_L_verdict : GoodIn wsL_law (va_wsS RL 165 yL_verdict wsL_verdict) := goodIn_app (goodIn_of _ (by decide +kernel)) ggL_law_L_verdict
set_option maxRecDepth 20000 in
theorem ggL_law_X2_verdict : GoodIn wsL_law wsX2_verdict := goodIn_r _ [425, 171, 172, 173, 5, 174, 120, 78, 79, 80, 175, 176, 177, 178, 108, 85, 86, 87, 88, 89, 187, 188, 189, 190, 51, 52, 556, 557, 558, 559, 560, 561, 562, 563, 564, 565, 566, 567, 568, 569, 570, 571] (by decide +kernel) (by decide +kernel)
set_option maxRecDepth 20000 in
theorem gL_law_X2_verdict : GoodIn wsL_law (wsV RL 167 RX2 yX2_verdict wsX2_verdict) := goodIn_app (goodIn_of _ (by decide +kernel)) ggL_law_X2_verdict
set_option maxRecDepth 20000 in
theorem ggL_law_L_failing : GoodIn wsL_law wsL_failing := goodIn_ca (goodIn_r _ [428, 60, 429, 430, 431, 2, 432, 20, 151, 152, 153, 154, 66, 67, 28, 407, 408, 409, 19, 410, 36, 433, 434, 435, 436, 41, 541, 542, 543, 544, 545, 546, 547, 548, 549, 550, 551, 552, 553, 554, 555, 572, 573, 574, 575, 576] (by decide +kernel) (by decide +kernel)) (goodIn_sub (fun _ h => List.mem_append_left _ (List.mem_append_left _ (List.mem_append_right _ h))) (by decide +kernel))
set_option maxRecDepth 20000 in
theorem gL_law_L_failing : GoodIn wsL_law (va_wsS RL 168 yL_failing wsL_failing) := goodIn_app (goodIn_of _ (by decide +kernel)) ggL_law_L_failing
set_option maxRecDepth 20000 in
theorem ggL_law_X2_failing : GoodIn wsL_law wsX2_failing := goodIn_r _ [440, 52, 171, 172, 173, 5, 174, 120, 78, 79, 80, 85, 86, 87, 88, 89, 179, 180, 181, 182, 51, 183, 184, 185, 186, 556, 557, 558, 559, 560, 561, 562, 563, 564, 565, 566, 567, 568, 569, 570, 571] (by decide +kernel) (by decide +kernel)
set_option maxRecDepth 20000 in
theorem gL_law_X2_failing : GoodIn wsL_law (wsV RL 170 RX2 yX2_failing wsX2_failing) := goodIn_app (goodIn_of _ (by decide +kernel)) ggL_law_X2_failing
set_option maxRecDepth 20000 in
theorem ggL_law_L_isQuarantined : GoodIn wsL_law wsL_isQuarantined := goodIn_ca (goodIn_r _ [443, 60, 444, 445, 446, 2, 447, 151, 152, 153, 154, 66, 67, 28, 448, 449, 450, 451, 27, 30, 452, 453, 454, 455, 20, 29, 163, 164, 165, 19, 166, 40, 41, 541, 542, 543, 544, 545, 546, 547, 548, 549, 550, 551, 552, 553, 554, 555, 572, 573, 574, 575, 576] (by decide +kernel) (by decide +kernel)) (goodIn_sub (fun _ h => List.mem_append_left _ (List.mem_append_left _ (List.mem_append_right _ h))) (by decide +kernel))
set_option maxRecDepth 20000 in
theorem gL_law_L_isQuarantined : GoodIn wsL_law (va_wsS RL 171 yL_isQuarantined wsL_isQuarantined) := goodIn_app (goodIn_of _ (by decide +kernel)) ggL_law_L_isQuarantined
set_option maxRecDepth 20000 in
theorem ggL_law_X2_isQuarantined : GoodIn wsL_law wsX2_isQuarantined := goodIn_r _ [459, 171, 172, 173, 5, 174, 120, 78, 79, 80, 85, 86, 87, 88, 89, 460, 461, 462, 463, 108, 47, 46, 187, 188, 189, 190, 51, 52, 556, 557, 558, 559, 560, 561, 562, 563, 564, 565, 566, 567, 568, 569, 570, 571] (by decide +kernel) (by decide +kernel)
set_option maxRecDepth 20000 in
theorem gL_law_X2_isQuarantined : GoodIn wsL_law (wsV RL 173 RX2 yX2_isQuarantined wsX2_isQuarantined) := goodIn_app (goodIn_of _ (by decide +kernel)) ggL_law_X2_isQuarantined
set_option maxRecDepth 20000 in
theorem ggL_law_L_broken : GoodIn wsL_law wsL_broken := goodIn_ca (goodIn_r _ [466, 60, 467, 468, 469, 2, 470, 28, 20, 155, 156, 157, 158, 66, 67, 27, 163, 164, 165, 19, 166, 40, 41, 448, 449, 450, 451, 30, 452, 453, 454, 455, 29, 541, 542, 543, 544, 545, 546, 547, 548, 549, 550, 551, 552, 553, 554, 555, 572, 573, 574, 575, 576] (by decide +kernel) (by decide +kernel)) (goodIn_sub (fun _ h => List.mem_append_left _ (List.mem_append_left _ (List.mem_append_right _ h))) (by decide +kernel))
set_option maxRecDepth 20000 in
theorem gL_law_L_broken : GoodIn wsL_law (va_wsS RL 174 yL_broken wsL_broken) := goodIn_app (goodIn_of _ (by decide +kernel)) ggL_law_L_broken
set_option maxRecDepth 20000 in
theorem ggL_law_X2_broken : GoodIn wsL_law wsX2_broken := goodIn_r _ [474, 120, 175, 176, 177, 5, 178, 108, 78, 79, 80, 85, 86, 87, 88, 89, 187, 188, 189, 190, 51, 52, 460, 461, 462, 463, 47, 46, 556, 557, 558, 559, 560, 561, 562, 563, 564, 565, 566, 567, 568, 569, 570, 571] (by decide +kernel) (by decide +kernel)
set_option maxRecDepth 20000 in
theorem gL_law_X2_broken : GoodIn wsL_law (wsV RL 176 RX2 yX2_broken wsX2_broken) := goodIn_app (goodIn_of _ (by decide +kernel)) ggL_law_X2_broken
set_option maxRecDepth 20000 in
theorem ggL_law_L_suspects : GoodIn wsL_law wsL_suspects := goodIn_ca (goodIn_ca (goodIn_r _ [477, 60, 97, 478, 479, 480, 2, 481, 151, 152, 153, 154, 66, 67, 28, 263, 264, 265, 266, 102, 103, 22, 202, 203, 204, 205, 23, 24, 15, 206, 207, 208, 209, 16, 14, 210, 211, 212, 541, 542, 543, 544, 545, 546, 547, 548, 549, 550, 551, 552, 553, 554, 555] (by decide +kernel) (by decide +kernel)) (goodIn_sub (fun _ h => List.mem_append_left _ (List.mem_append_left _ (List.mem_append_right _ h))) (by decide +kernel))) (goodIn_sub (fun _ h => List.mem_append_right _ h) (by decide +kernel))
set_option maxRecDepth 20000 in
theorem gL_law_L_suspects : GoodIn wsL_law (va_wsS RL 177 yL_suspects wsL_suspects) := goodIn_app (goodIn_of _ (by decide +kernel)) ggL_law_L_suspects
set_option maxRecDepth 20000 in
theorem ggL_law_X2_suspects : GoodIn wsL_law wsX2_suspects := goodIn_r _ [485, 108, 171, 172, 173, 5, 174, 120, 78, 79, 80, 279, 280, 281, 282, 53, 85, 86, 87, 88, 89, 244, 245, 246, 247, 54, 49, 248, 249, 250, 251, 50, 48, 556, 557, 558, 559, 560, 561, 562, 563, 564, 565, 566, 567, 568, 569, 570, 571] (by decide +kernel) (by decide +kernel)
set_option maxRecDepth 20000 in
theorem gL_law_X2_suspects : GoodIn wsL_law (wsV RL 179 RX2 yX2_suspects wsX2_suspects) := goodIn_app (goodIn_of _ (by decide +kernel)) ggL_law_X2_suspects
set_option maxRecDepth 20000 in
theorem ggL_law_L_contradictions : GoodIn wsL_law wsL_contradictions := goodIn_ca (goodIn_ca (goodIn_r _ [488, 60, 97, 489, 490, 491, 2, 492, 20, 23, 24, 151, 152, 153, 154, 66, 67, 28, 155, 156, 157, 158, 27, 263, 264, 265, 266, 102, 103, 22, 202, 203, 204, 205, 15, 206, 207, 208, 209, 16, 14, 210, 211, 212, 493, 494, 495, 19, 496, 36, 38, 39, 541, 542, 543, 544, 545, 546, 547, 548, 549, 550, 551, 552, 553, 554, 555, 572, 573, 574, 575, 576] (by decide +kernel) (by decide +kernel)) (goodIn_sub (fun _ h => List.mem_append_left _ (List.mem_append_left _ (List.mem_append_right _ h))) (by decide +kernel))) (goodIn_sub (fun _ h => List.mem_append_right _ h) (by decide +kernel))
set_option maxRecDepth 20000 in
theorem gL_law_L_contradictions : GoodIn wsL_law (va_wsS RL 180 yL_contradictions wsL_contradictions) := goodIn_app (goodIn_of _ (by decide +kernel)) ggL_law_L_contradictions
set_option maxRecDepth 20000 in
theorem ggL_law_X2_contradictions : GoodIn wsL_law wsX2_contradictions := goodIn_r _ [500, 171, 172, 173, 5, 174, 120, 78, 79, 80, 175, 176, 177, 178, 108, 279, 280, 281, 282, 53, 85, 86, 87, 88, 89, 244, 245, 246, 247, 54, 49, 248, 249, 250, 251, 50, 48, 252, 253, 254, 255, 52, 51, 556, 557, 558, 559, 560, 561, 562, 563, 564, 565, 566, 567, 568, 569, 570, 571] (by decide +kernel) (by decide +kernel)
set_option maxRecDepth 20000 in
theorem gL_law_X2_contradictions : GoodIn wsL_law (wsV RL 182 RX2 yX2_contradictions wsX2_contradictions) := goodIn_app (goodIn_of _ (by decide +kernel)) ggL_law_X2_contradictions
set_option maxRecDepth 20000 in
theorem ggL_law_L_candidates : GoodIn wsL_law wsL_candidates := goodIn_ca (goodIn_ca (goodIn_r _ [503, 60, 97, 504, 505, 506, 2, 507, 151, 152, 153, 154, 66, 67, 28, 263, 264, 265, 266, 102, 103, 22, 198, 199, 200, 201, 23, 24, 20, 31, 202, 203, 204, 205, 15, 206, 207, 208, 209, 16, 14, 210, 211, 212, 213, 214, 215, 19, 216, 40, 217, 218, 219, 220, 41, 541, 542, 543, 544, 545, 546, 547, 548, 549, 550, 551, 552, 553, 554, 555, 572, 573, 574, 575, 576] (by decide +kernel) (by decide +kernel)) (goodIn_sub (fun _ h => List.mem_append_left _ (List.mem_append_left _ (List.mem_append_right _ h))) (by decide +kernel))) (goodIn_sub (fun _ h => List.mem_append_right _ h) (by decide +kernel))
set_option maxRecDepth 20000 in
theorem gL_law_L_candidates : GoodIn wsL_law (va_wsS RL 183 yL_candidates wsL_candidates) := goodIn_app (goodIn_of _ (by decide +kernel)) ggL_law_L_candidates
set_option maxRecDepth 20000 in
theorem ggL_law_X2_candidates : GoodIn wsL_law wsX2_candidates := goodIn_r _ [511, 108, 171, 172, 173, 5, 174, 120, 78, 79, 80, 279, 280, 281, 282, 53, 85, 86, 87, 88, 89, 240, 241, 242, 243, 143, 244, 245, 246, 247, 54, 49, 248, 249, 250, 251, 50, 48, 252, 253, 254, 255, 52, 51, 556, 557, 558, 559, 560, 561, 562, 563, 564, 565, 566, 567, 568, 569, 570, 571] (by decide +kernel) (by decide +kernel)
set_option maxRecDepth 20000 in
theorem gL_law_X2_candidates : GoodIn wsL_law (wsV RL 185 RX2 yX2_candidates wsX2_candidates) := goodIn_app (goodIn_of _ (by decide +kernel)) ggL_law_X2_candidates
set_option maxRecDepth 20000 in
theorem ggL_law_L_likeliest : GoodIn wsL_law wsL_likeliest := goodIn_ca (goodIn_ca (goodIn_r _ [514, 60, 97, 515, 516, 517, 2, 518, 151, 152, 153, 154, 66, 67, 28, 263, 264, 265, 266, 102, 103, 22, 267, 268, 269, 270, 23, 24, 20, 202, 203, 204, 205, 15, 206, 207, 208, 209, 16, 14, 210, 211, 212, 213, 214, 215, 19, 216, 40, 217, 218, 219, 220, 41, 541, 542, 543, 544, 545, 546, 547, 548, 549, 550, 551, 552, 553, 554, 555, 572, 573, 574, 575, 576] (by decide +kernel) (by decide +kernel)) (goodIn_sub (fun _ h => List.mem_append_left _ (List.mem_append_left _ (List.mem_append_right _ h))) (by decide +kernel))) (goodIn_sub (fun _ h => List.mem_append_right _ h) (by decide +kernel))
set_option maxRecDepth 20000 in
theorem gL_law_L_likeliest : GoodIn wsL_law (va_wsS RL 186 yL_likeliest wsL_likeliest) := goodIn_app (goodIn_of _ (by decide +kernel)) ggL_law_L_likeliest
set_option maxRecDepth 20000 in
theorem ggL_law_X2_likeliest : GoodIn wsL_law wsX2_likeliest := goodIn_r _ [522, 54, 53, 171, 172, 173, 5, 174, 120, 78, 79, 80, 279, 280, 281, 282, 85, 86, 87, 88, 89, 244, 245, 246, 247, 49, 248, 249, 250, 251, 50, 48, 252, 253, 254, 255, 52, 51, 556, 557, 558, 559, 560, 561, 562, 563, 564, 565, 566, 567, 568, 569, 570, 571] (by decide +kernel) (by decide +kernel)
set_option maxRecDepth 20000 in
theorem gL_law_X2_likeliest : GoodIn wsL_law (wsV RL 188 RX2 yX2_likeliest wsX2_likeliest) := goodIn_app (goodIn_of _ (by decide +kernel)) ggL_law_X2_likeliest
set_option maxRecDepth 20000 in
theorem ggL_law_L_next : GoodIn wsL_law wsL_next := goodIn_ca (goodIn_ca (goodIn_r _ [525, 60, 97, 526, 527, 528, 2, 529, 23, 24, 20, 151, 152, 153, 154, 66, 67, 28, 263, 264, 265, 266, 102, 103, 22, 198, 199, 200, 201, 31, 202, 203, 204, 205, 15, 206, 207, 208, 209, 16, 14, 210, 211, 212, 213, 214, 215, 19, 216, 40, 217, 218, 219, 220, 41, 530, 531, 532, 452, 453, 454, 455, 221, 222, 223, 224, 225, 226, 227, 533, 534, 535, 536, 541, 542, 543, 544, 545, 546, 547, 548, 549, 550, 551, 552, 553, 554, 555, 572, 573, 574, 575, 576] (by decide +kernel) (by decide +kernel)) (goodIn_sub (fun _ h => List.mem_append_left _ (List.mem_append_left _ (List.mem_append_right _ h))) (by decide +kernel))) (goodIn_sub (fun _ h => List.mem_append_right _ h) (by decide +kernel))
set_option maxRecDepth 20000 in
theorem gL_law_L_next : GoodIn wsL_law (va_wsS RL 189 yL_next wsL_next) := goodIn_app (goodIn_of _ (by decide +kernel)) ggL_law_L_next
set_option maxRecDepth 20000 in
theorem ggL_law_X2_next : GoodIn wsL_law wsX2_next := goodIn_r _ [540, 53, 54, 51, 52, 171, 172, 173, 5, 174, 120, 78, 79, 80, 279, 280, 281, 282, 85, 86, 87, 88, 89, 236, 237, 238, 239, 240, 241, 242, 243, 143, 244, 245, 246, 247, 49, 248, 249, 250, 251, 50, 48, 252, 253, 254, 255, 556, 557, 558, 559, 560, 561, 562, 563, 564, 565, 566, 567, 568, 569, 570, 571] (by decide +kernel) (by decide +kernel)
set_option maxRecDepth 20000 in
theorem gL_law_X2_next : GoodIn wsL_law (wsV RL 191 RX2 yX2_next wsX2_next) := goodIn_app (goodIn_of _ (by decide +kernel)) ggL_law_X2_next
end
section
theorem dL_law_0 : decode cL_law 0 = .ok (.new 8, 3) := by decide +kernel
theorem dL_law_3 : decode cL_law 3 = .ok (.dup, 1) := by decide +kernel
theorem dL_law_4 : decode cL_law 4 = .ok (.invokespecial 92, 3) := by decide +kernel
theorem dL_law_7 : decode cL_law 7 = .ok (.astore_n 1, 1) := by decide +kernel
theorem dL_law_8 : decode cL_law 8 = .ok (.new 93, 3) := by decide +kernel
theorem dL_law_11 : decode cL_law 11 = .ok (.dup, 1) := by decide +kernel
theorem dL_law_12 : decode cL_law 12 = .ok (.invokespecial 95, 3) := by decide +kernel
theorem dL_law_15 : decode cL_law 15 = .ok (.astore_n 2, 1) := by decide +kernel
theorem dL_law_16 : decode cL_law 16 = .ok (.iconst 1, 1) := by decide +kernel
theorem dL_law_17 : decode cL_law 17 = .ok (.newarray .long, 2) := by decide +kernel
theorem dL_law_19 : decode cL_law 19 = .ok (.astore_n 3, 1) := by decide +kernel
theorem dL_law_20 : decode cL_law 20 = .ok (.iconst 0, 1) := by decide +kernel
theorem dL_law_21 : decode cL_law 21 = .ok (.istore 4, 2) := by decide +kernel
theorem dL_law_23 : decode cL_law 23 = .ok (.iload 4, 2) := by decide +kernel
theorem dL_law_25 : decode cL_law 25 = .ok (.aload_n 0, 1) := by decide +kernel
theorem dL_law_26 : decode cL_law 26 = .ok (.arraylength, 1) := by decide +kernel
theorem dL_law_27 : decode cL_law 27 = .ok (.iconst 4, 1) := by decide +kernel
theorem dL_law_28 : decode cL_law 28 = .ok (.isub, 1) := by decide +kernel
theorem dL_law_29 : decode cL_law 29 = .ok (.if_icmp .gt 1562, 3) := by decide +kernel
theorem dL_law_32 : decode cL_law 32 = .ok (.aload_n 0, 1) := by decide +kernel
theorem dL_law_33 : decode cL_law 33 = .ok (.iload 4, 2) := by decide +kernel
theorem dL_law_35 : decode cL_law 35 = .ok (.iaload, 1) := by decide +kernel
theorem dL_law_36 : decode cL_law 36 = .ok (.bipush 31, 2) := by decide +kernel
theorem dL_law_38 : decode cL_law 38 = .ok (.iand, 1) := by decide +kernel
theorem dL_law_39 : decode cL_law 39 = .ok (.tableswitch 1546 0 26 #[121, 189, 245, 301, 349, 405, 501, 581, 637, 693, 749, 793, 806, 819, 832, 845, 901, 957, 1013, 1081, 1137, 1200, 1256, 1311, 1379, 1434, 1490], 121) := by decide +kernel
theorem dL_law_160 : decode cL_law 160 = .ok (.aload_n 1, 1) := by decide +kernel
theorem dL_law_161 : decode cL_law 161 = .ok (.aload_n 0, 1) := by decide +kernel
theorem dL_law_162 : decode cL_law 162 = .ok (.iload 4, 2) := by decide +kernel
theorem dL_law_164 : decode cL_law 164 = .ok (.iconst 1, 1) := by decide +kernel
theorem dL_law_165 : decode cL_law 165 = .ok (.iadd, 1) := by decide +kernel
theorem dL_law_166 : decode cL_law 166 = .ok (.iaload, 1) := by decide +kernel
theorem dL_law_167 : decode cL_law 167 = .ok (.aload_n 0, 1) := by decide +kernel
theorem dL_law_168 : decode cL_law 168 = .ok (.iload 4, 2) := by decide +kernel
theorem dL_law_170 : decode cL_law 170 = .ok (.iconst 2, 1) := by decide +kernel
theorem dL_law_171 : decode cL_law 171 = .ok (.iadd, 1) := by decide +kernel
theorem dL_law_172 : decode cL_law 172 = .ok (.iaload, 1) := by decide +kernel
theorem dL_law_173 : decode cL_law 173 = .ok (.aload_n 3, 1) := by decide +kernel
theorem dL_law_174 : decode cL_law 174 = .ok (.invokestatic 96, 3) := by decide +kernel
theorem dL_law_177 : decode cL_law 177 = .ok (.istore 5, 2) := by decide +kernel
theorem dL_law_179 : decode cL_law 179 = .ok (.aload_n 2, 1) := by decide +kernel
theorem dL_law_180 : decode cL_law 180 = .ok (.aload_n 0, 1) := by decide +kernel
theorem dL_law_181 : decode cL_law 181 = .ok (.iload 4, 2) := by decide +kernel
theorem dL_law_183 : decode cL_law 183 = .ok (.iconst 1, 1) := by decide +kernel
theorem dL_law_184 : decode cL_law 184 = .ok (.iadd, 1) := by decide +kernel
theorem dL_law_185 : decode cL_law 185 = .ok (.iaload, 1) := by decide +kernel
theorem dL_law_186 : decode cL_law 186 = .ok (.aload_n 0, 1) := by decide +kernel
theorem dL_law_187 : decode cL_law 187 = .ok (.iload 4, 2) := by decide +kernel
theorem dL_law_189 : decode cL_law 189 = .ok (.iconst 2, 1) := by decide +kernel
theorem dL_law_190 : decode cL_law 190 = .ok (.iadd, 1) := by decide +kernel
theorem dL_law_191 : decode cL_law 191 = .ok (.iaload, 1) := by decide +kernel
theorem dL_law_192 : decode cL_law 192 = .ok (.invokevirtual 101, 3) := by decide +kernel
theorem dL_law_195 : decode cL_law 195 = .ok (.istore 6, 2) := by decide +kernel
theorem dL_law_197 : decode cL_law 197 = .ok (.aload_n 2, 1) := by decide +kernel
theorem dL_law_198 : decode cL_law 198 = .ok (.invokevirtual 102, 3) := by decide +kernel
theorem dL_law_201 : decode cL_law 201 = .ok (.iload 5, 2) := by decide +kernel
theorem dL_law_203 : decode cL_law 203 = .ok (.if_icmp .eq 5, 3) := by decide +kernel
theorem dL_law_206 : decode cL_law 206 = .ok (.iconst 0, 1) := by decide +kernel
theorem dL_law_207 : decode cL_law 207 = .ok (.ireturn, 1) := by decide +kernel
theorem dL_law_208 : decode cL_law 208 = .ok (.iload 5, 2) := by decide +kernel
theorem dL_law_210 : decode cL_law 210 = .ok (.ifCond .ne 15, 3) := by decide +kernel
theorem dL_law_213 : decode cL_law 213 = .ok (.aload_n 3, 1) := by decide +kernel
theorem dL_law_214 : decode cL_law 214 = .ok (.iconst 0, 1) := by decide +kernel
theorem dL_law_215 : decode cL_law 215 = .ok (.laload, 1) := by decide +kernel
theorem dL_law_216 : decode cL_law 216 = .ok (.iload 6, 2) := by decide +kernel
theorem dL_law_218 : decode cL_law 218 = .ok (.i2l, 1) := by decide +kernel
theorem dL_law_219 : decode cL_law 219 = .ok (.lcmp, 1) := by decide +kernel
theorem dL_law_220 : decode cL_law 220 = .ok (.ifCond .eq 5, 3) := by decide +kernel
theorem dL_law_223 : decode cL_law 223 = .ok (.iconst 0, 1) := by decide +kernel
theorem dL_law_224 : decode cL_law 224 = .ok (.ireturn, 1) := by decide +kernel
theorem dL_law_225 : decode cL_law 225 = .ok (.goto 1360, 3) := by decide +kernel
theorem dL_law_228 : decode cL_law 228 = .ok (.aload_n 1, 1) := by decide +kernel
theorem dL_law_229 : decode cL_law 229 = .ok (.aload_n 0, 1) := by decide +kernel
theorem dL_law_230 : decode cL_law 230 = .ok (.iload 4, 2) := by decide +kernel
theorem dL_law_232 : decode cL_law 232 = .ok (.iconst 1, 1) := by decide +kernel
theorem dL_law_233 : decode cL_law 233 = .ok (.iadd, 1) := by decide +kernel
theorem dL_law_234 : decode cL_law 234 = .ok (.iaload, 1) := by decide +kernel
theorem dL_law_235 : decode cL_law 235 = .ok (.aload_n 3, 1) := by decide +kernel
theorem dL_law_236 : decode cL_law 236 = .ok (.invokestatic 105, 3) := by decide +kernel
theorem dL_law_239 : decode cL_law 239 = .ok (.istore 5, 2) := by decide +kernel
theorem dL_law_241 : decode cL_law 241 = .ok (.aload_n 2, 1) := by decide +kernel
theorem dL_law_242 : decode cL_law 242 = .ok (.aload_n 0, 1) := by decide +kernel
theorem dL_law_243 : decode cL_law 243 = .ok (.iload 4, 2) := by decide +kernel
theorem dL_law_245 : decode cL_law 245 = .ok (.iconst 1, 1) := by decide +kernel
theorem dL_law_246 : decode cL_law 246 = .ok (.iadd, 1) := by decide +kernel
theorem dL_law_247 : decode cL_law 247 = .ok (.iaload, 1) := by decide +kernel
theorem dL_law_248 : decode cL_law 248 = .ok (.invokevirtual 108, 3) := by decide +kernel
theorem dL_law_251 : decode cL_law 251 = .ok (.istore 6, 2) := by decide +kernel
theorem dL_law_253 : decode cL_law 253 = .ok (.aload_n 2, 1) := by decide +kernel
theorem dL_law_254 : decode cL_law 254 = .ok (.invokevirtual 102, 3) := by decide +kernel
theorem dL_law_257 : decode cL_law 257 = .ok (.iload 5, 2) := by decide +kernel
theorem dL_law_259 : decode cL_law 259 = .ok (.if_icmp .eq 5, 3) := by decide +kernel
theorem dL_law_262 : decode cL_law 262 = .ok (.iconst 0, 1) := by decide +kernel
theorem dL_law_263 : decode cL_law 263 = .ok (.ireturn, 1) := by decide +kernel
theorem dL_law_264 : decode cL_law 264 = .ok (.iload 5, 2) := by decide +kernel
theorem dL_law_266 : decode cL_law 266 = .ok (.ifCond .ne 15, 3) := by decide +kernel
theorem dL_law_269 : decode cL_law 269 = .ok (.aload_n 3, 1) := by decide +kernel
theorem dL_law_270 : decode cL_law 270 = .ok (.iconst 0, 1) := by decide +kernel
theorem dL_law_271 : decode cL_law 271 = .ok (.laload, 1) := by decide +kernel
theorem dL_law_272 : decode cL_law 272 = .ok (.iload 6, 2) := by decide +kernel
theorem dL_law_274 : decode cL_law 274 = .ok (.i2l, 1) := by decide +kernel
theorem dL_law_275 : decode cL_law 275 = .ok (.lcmp, 1) := by decide +kernel
theorem dL_law_276 : decode cL_law 276 = .ok (.ifCond .eq 5, 3) := by decide +kernel
theorem dL_law_279 : decode cL_law 279 = .ok (.iconst 0, 1) := by decide +kernel
theorem dL_law_280 : decode cL_law 280 = .ok (.ireturn, 1) := by decide +kernel
theorem dL_law_281 : decode cL_law 281 = .ok (.goto 1304, 3) := by decide +kernel
theorem dL_law_284 : decode cL_law 284 = .ok (.aload_n 1, 1) := by decide +kernel
theorem dL_law_285 : decode cL_law 285 = .ok (.aload_n 0, 1) := by decide +kernel
theorem dL_law_286 : decode cL_law 286 = .ok (.iload 4, 2) := by decide +kernel
theorem dL_law_288 : decode cL_law 288 = .ok (.iconst 1, 1) := by decide +kernel
theorem dL_law_289 : decode cL_law 289 = .ok (.iadd, 1) := by decide +kernel
theorem dL_law_290 : decode cL_law 290 = .ok (.iaload, 1) := by decide +kernel
theorem dL_law_291 : decode cL_law 291 = .ok (.aload_n 3, 1) := by decide +kernel
theorem dL_law_292 : decode cL_law 292 = .ok (.invokestatic 109, 3) := by decide +kernel
theorem dL_law_295 : decode cL_law 295 = .ok (.istore 5, 2) := by decide +kernel
theorem dL_law_297 : decode cL_law 297 = .ok (.aload_n 2, 1) := by decide +kernel
theorem dL_law_298 : decode cL_law 298 = .ok (.aload_n 0, 1) := by decide +kernel
theorem dL_law_299 : decode cL_law 299 = .ok (.iload 4, 2) := by decide +kernel
theorem dL_law_301 : decode cL_law 301 = .ok (.iconst 1, 1) := by decide +kernel
theorem dL_law_302 : decode cL_law 302 = .ok (.iadd, 1) := by decide +kernel
theorem dL_law_303 : decode cL_law 303 = .ok (.iaload, 1) := by decide +kernel
theorem dL_law_304 : decode cL_law 304 = .ok (.invokevirtual 111, 3) := by decide +kernel
theorem dL_law_307 : decode cL_law 307 = .ok (.istore 6, 2) := by decide +kernel
theorem dL_law_309 : decode cL_law 309 = .ok (.aload_n 2, 1) := by decide +kernel
theorem dL_law_310 : decode cL_law 310 = .ok (.invokevirtual 102, 3) := by decide +kernel
theorem dL_law_313 : decode cL_law 313 = .ok (.iload 5, 2) := by decide +kernel
theorem dL_law_315 : decode cL_law 315 = .ok (.if_icmp .eq 5, 3) := by decide +kernel
theorem dL_law_318 : decode cL_law 318 = .ok (.iconst 0, 1) := by decide +kernel
theorem dL_law_319 : decode cL_law 319 = .ok (.ireturn, 1) := by decide +kernel
theorem dL_law_320 : decode cL_law 320 = .ok (.iload 5, 2) := by decide +kernel
theorem dL_law_322 : decode cL_law 322 = .ok (.ifCond .ne 15, 3) := by decide +kernel
theorem dL_law_325 : decode cL_law 325 = .ok (.aload_n 3, 1) := by decide +kernel
theorem dL_law_326 : decode cL_law 326 = .ok (.iconst 0, 1) := by decide +kernel
theorem dL_law_327 : decode cL_law 327 = .ok (.laload, 1) := by decide +kernel
theorem dL_law_328 : decode cL_law 328 = .ok (.iload 6, 2) := by decide +kernel
theorem dL_law_330 : decode cL_law 330 = .ok (.i2l, 1) := by decide +kernel
theorem dL_law_331 : decode cL_law 331 = .ok (.lcmp, 1) := by decide +kernel
theorem dL_law_332 : decode cL_law 332 = .ok (.ifCond .eq 5, 3) := by decide +kernel
theorem dL_law_335 : decode cL_law 335 = .ok (.iconst 0, 1) := by decide +kernel
theorem dL_law_336 : decode cL_law 336 = .ok (.ireturn, 1) := by decide +kernel
theorem dL_law_337 : decode cL_law 337 = .ok (.goto 1248, 3) := by decide +kernel
theorem dL_law_340 : decode cL_law 340 = .ok (.aload_n 1, 1) := by decide +kernel
theorem dL_law_341 : decode cL_law 341 = .ok (.aload_n 0, 1) := by decide +kernel
theorem dL_law_342 : decode cL_law 342 = .ok (.iload 4, 2) := by decide +kernel
theorem dL_law_344 : decode cL_law 344 = .ok (.iconst 1, 1) := by decide +kernel
theorem dL_law_345 : decode cL_law 345 = .ok (.iadd, 1) := by decide +kernel
theorem dL_law_346 : decode cL_law 346 = .ok (.iaload, 1) := by decide +kernel
theorem dL_law_347 : decode cL_law 347 = .ok (.aload_n 0, 1) := by decide +kernel
theorem dL_law_348 : decode cL_law 348 = .ok (.iload 4, 2) := by decide +kernel
theorem dL_law_350 : decode cL_law 350 = .ok (.iconst 2, 1) := by decide +kernel
theorem dL_law_351 : decode cL_law 351 = .ok (.iadd, 1) := by decide +kernel
theorem dL_law_352 : decode cL_law 352 = .ok (.iaload, 1) := by decide +kernel
theorem dL_law_353 : decode cL_law 353 = .ok (.invokestatic 112, 3) := by decide +kernel
theorem dL_law_356 : decode cL_law 356 = .ok (.istore 5, 2) := by decide +kernel
theorem dL_law_358 : decode cL_law 358 = .ok (.aload_n 2, 1) := by decide +kernel
theorem dL_law_359 : decode cL_law 359 = .ok (.aload_n 0, 1) := by decide +kernel
theorem dL_law_360 : decode cL_law 360 = .ok (.iload 4, 2) := by decide +kernel
theorem dL_law_362 : decode cL_law 362 = .ok (.iconst 1, 1) := by decide +kernel
theorem dL_law_363 : decode cL_law 363 = .ok (.iadd, 1) := by decide +kernel
theorem dL_law_364 : decode cL_law 364 = .ok (.iaload, 1) := by decide +kernel
theorem dL_law_365 : decode cL_law 365 = .ok (.aload_n 0, 1) := by decide +kernel
theorem dL_law_366 : decode cL_law 366 = .ok (.iload 4, 2) := by decide +kernel
theorem dL_law_368 : decode cL_law 368 = .ok (.iconst 2, 1) := by decide +kernel
theorem dL_law_369 : decode cL_law 369 = .ok (.iadd, 1) := by decide +kernel
theorem dL_law_370 : decode cL_law 370 = .ok (.iaload, 1) := by decide +kernel
theorem dL_law_371 : decode cL_law 371 = .ok (.invokevirtual 115, 3) := by decide +kernel
theorem dL_law_374 : decode cL_law 374 = .ok (.aload_n 2, 1) := by decide +kernel
theorem dL_law_375 : decode cL_law 375 = .ok (.invokevirtual 102, 3) := by decide +kernel
theorem dL_law_378 : decode cL_law 378 = .ok (.iload 5, 2) := by decide +kernel
theorem dL_law_380 : decode cL_law 380 = .ok (.if_icmp .eq 5, 3) := by decide +kernel
theorem dL_law_383 : decode cL_law 383 = .ok (.iconst 0, 1) := by decide +kernel
theorem dL_law_384 : decode cL_law 384 = .ok (.ireturn, 1) := by decide +kernel
theorem dL_law_385 : decode cL_law 385 = .ok (.goto 1200, 3) := by decide +kernel
theorem dL_law_388 : decode cL_law 388 = .ok (.aload_n 1, 1) := by decide +kernel
theorem dL_law_389 : decode cL_law 389 = .ok (.aload_n 0, 1) := by decide +kernel
theorem dL_law_390 : decode cL_law 390 = .ok (.iload 4, 2) := by decide +kernel
theorem dL_law_392 : decode cL_law 392 = .ok (.iconst 1, 1) := by decide +kernel
theorem dL_law_393 : decode cL_law 393 = .ok (.iadd, 1) := by decide +kernel
theorem dL_law_394 : decode cL_law 394 = .ok (.iaload, 1) := by decide +kernel
theorem dL_law_395 : decode cL_law 395 = .ok (.aload_n 3, 1) := by decide +kernel
theorem dL_law_396 : decode cL_law 396 = .ok (.invokestatic 116, 3) := by decide +kernel
theorem dL_law_399 : decode cL_law 399 = .ok (.istore 5, 2) := by decide +kernel
theorem dL_law_401 : decode cL_law 401 = .ok (.aload_n 2, 1) := by decide +kernel
theorem dL_law_402 : decode cL_law 402 = .ok (.aload_n 0, 1) := by decide +kernel
theorem dL_law_403 : decode cL_law 403 = .ok (.iload 4, 2) := by decide +kernel
theorem dL_law_405 : decode cL_law 405 = .ok (.iconst 1, 1) := by decide +kernel
theorem dL_law_406 : decode cL_law 406 = .ok (.iadd, 1) := by decide +kernel
theorem dL_law_407 : decode cL_law 407 = .ok (.iaload, 1) := by decide +kernel
theorem dL_law_408 : decode cL_law 408 = .ok (.invokevirtual 118, 3) := by decide +kernel
theorem dL_law_411 : decode cL_law 411 = .ok (.istore 6, 2) := by decide +kernel
theorem dL_law_413 : decode cL_law 413 = .ok (.aload_n 2, 1) := by decide +kernel
theorem dL_law_414 : decode cL_law 414 = .ok (.invokevirtual 102, 3) := by decide +kernel
theorem dL_law_417 : decode cL_law 417 = .ok (.iload 5, 2) := by decide +kernel
theorem dL_law_419 : decode cL_law 419 = .ok (.if_icmp .eq 5, 3) := by decide +kernel
theorem dL_law_422 : decode cL_law 422 = .ok (.iconst 0, 1) := by decide +kernel
theorem dL_law_423 : decode cL_law 423 = .ok (.ireturn, 1) := by decide +kernel
theorem dL_law_424 : decode cL_law 424 = .ok (.iload 5, 2) := by decide +kernel
theorem dL_law_426 : decode cL_law 426 = .ok (.ifCond .ne 15, 3) := by decide +kernel
theorem dL_law_429 : decode cL_law 429 = .ok (.aload_n 3, 1) := by decide +kernel
theorem dL_law_430 : decode cL_law 430 = .ok (.iconst 0, 1) := by decide +kernel
theorem dL_law_431 : decode cL_law 431 = .ok (.laload, 1) := by decide +kernel
theorem dL_law_432 : decode cL_law 432 = .ok (.iload 6, 2) := by decide +kernel
theorem dL_law_434 : decode cL_law 434 = .ok (.i2l, 1) := by decide +kernel
theorem dL_law_435 : decode cL_law 435 = .ok (.lcmp, 1) := by decide +kernel
theorem dL_law_436 : decode cL_law 436 = .ok (.ifCond .eq 5, 3) := by decide +kernel
theorem dL_law_439 : decode cL_law 439 = .ok (.iconst 0, 1) := by decide +kernel
theorem dL_law_440 : decode cL_law 440 = .ok (.ireturn, 1) := by decide +kernel
theorem dL_law_441 : decode cL_law 441 = .ok (.goto 1144, 3) := by decide +kernel
theorem dL_law_444 : decode cL_law 444 = .ok (.aload_n 1, 1) := by decide +kernel
theorem dL_law_445 : decode cL_law 445 = .ok (.aload_n 0, 1) := by decide +kernel
theorem dL_law_446 : decode cL_law 446 = .ok (.iload 4, 2) := by decide +kernel
theorem dL_law_448 : decode cL_law 448 = .ok (.iconst 1, 1) := by decide +kernel
theorem dL_law_449 : decode cL_law 449 = .ok (.iadd, 1) := by decide +kernel
theorem dL_law_450 : decode cL_law 450 = .ok (.iaload, 1) := by decide +kernel
theorem dL_law_451 : decode cL_law 451 = .ok (.aload_n 0, 1) := by decide +kernel
theorem dL_law_452 : decode cL_law 452 = .ok (.iload 4, 2) := by decide +kernel
theorem dL_law_454 : decode cL_law 454 = .ok (.iconst 2, 1) := by decide +kernel
theorem dL_law_455 : decode cL_law 455 = .ok (.iadd, 1) := by decide +kernel
theorem dL_law_456 : decode cL_law 456 = .ok (.iaload, 1) := by decide +kernel
theorem dL_law_457 : decode cL_law 457 = .ok (.aload_n 0, 1) := by decide +kernel
theorem dL_law_458 : decode cL_law 458 = .ok (.iload 4, 2) := by decide +kernel
theorem dL_law_460 : decode cL_law 460 = .ok (.iconst 3, 1) := by decide +kernel
theorem dL_law_461 : decode cL_law 461 = .ok (.iadd, 1) := by decide +kernel
theorem dL_law_462 : decode cL_law 462 = .ok (.iaload, 1) := by decide +kernel
theorem dL_law_463 : decode cL_law 463 = .ok (.ifCond .eq 7, 3) := by decide +kernel
theorem dL_law_466 : decode cL_law 466 = .ok (.iconst 1, 1) := by decide +kernel
theorem dL_law_467 : decode cL_law 467 = .ok (.goto 4, 3) := by decide +kernel
theorem dL_law_470 : decode cL_law 470 = .ok (.iconst 0, 1) := by decide +kernel
theorem dL_law_471 : decode cL_law 471 = .ok (.aload_n 3, 1) := by decide +kernel
theorem dL_law_472 : decode cL_law 472 = .ok (.invokestatic 119, 3) := by decide +kernel
theorem dL_law_475 : decode cL_law 475 = .ok (.istore 5, 2) := by decide +kernel
theorem dL_law_477 : decode cL_law 477 = .ok (.aload_n 2, 1) := by decide +kernel
theorem dL_law_478 : decode cL_law 478 = .ok (.aload_n 0, 1) := by decide +kernel
theorem dL_law_479 : decode cL_law 479 = .ok (.iload 4, 2) := by decide +kernel
theorem dL_law_481 : decode cL_law 481 = .ok (.iconst 1, 1) := by decide +kernel
theorem dL_law_482 : decode cL_law 482 = .ok (.iadd, 1) := by decide +kernel
theorem dL_law_483 : decode cL_law 483 = .ok (.iaload, 1) := by decide +kernel
theorem dL_law_484 : decode cL_law 484 = .ok (.aload_n 0, 1) := by decide +kernel
theorem dL_law_485 : decode cL_law 485 = .ok (.iload 4, 2) := by decide +kernel
theorem dL_law_487 : decode cL_law 487 = .ok (.iconst 2, 1) := by decide +kernel
theorem dL_law_488 : decode cL_law 488 = .ok (.iadd, 1) := by decide +kernel
theorem dL_law_489 : decode cL_law 489 = .ok (.iaload, 1) := by decide +kernel
theorem dL_law_490 : decode cL_law 490 = .ok (.aload_n 0, 1) := by decide +kernel
theorem dL_law_491 : decode cL_law 491 = .ok (.iload 4, 2) := by decide +kernel
theorem dL_law_493 : decode cL_law 493 = .ok (.iconst 3, 1) := by decide +kernel
theorem dL_law_494 : decode cL_law 494 = .ok (.iadd, 1) := by decide +kernel
theorem dL_law_495 : decode cL_law 495 = .ok (.iaload, 1) := by decide +kernel
theorem dL_law_496 : decode cL_law 496 = .ok (.ifCond .eq 7, 3) := by decide +kernel
theorem dL_law_499 : decode cL_law 499 = .ok (.iconst 1, 1) := by decide +kernel
theorem dL_law_500 : decode cL_law 500 = .ok (.goto 4, 3) := by decide +kernel
theorem dL_law_503 : decode cL_law 503 = .ok (.iconst 0, 1) := by decide +kernel
theorem dL_law_504 : decode cL_law 504 = .ok (.invokevirtual 122, 3) := by decide +kernel
theorem dL_law_507 : decode cL_law 507 = .ok (.istore 6, 2) := by decide +kernel
theorem dL_law_509 : decode cL_law 509 = .ok (.aload_n 2, 1) := by decide +kernel
theorem dL_law_510 : decode cL_law 510 = .ok (.invokevirtual 102, 3) := by decide +kernel
theorem dL_law_513 : decode cL_law 513 = .ok (.iload 5, 2) := by decide +kernel
theorem dL_law_515 : decode cL_law 515 = .ok (.if_icmp .eq 5, 3) := by decide +kernel
theorem dL_law_518 : decode cL_law 518 = .ok (.iconst 0, 1) := by decide +kernel
theorem dL_law_519 : decode cL_law 519 = .ok (.ireturn, 1) := by decide +kernel
theorem dL_law_520 : decode cL_law 520 = .ok (.iload 5, 2) := by decide +kernel
theorem dL_law_522 : decode cL_law 522 = .ok (.ifCond .ne 15, 3) := by decide +kernel
theorem dL_law_525 : decode cL_law 525 = .ok (.aload_n 3, 1) := by decide +kernel
theorem dL_law_526 : decode cL_law 526 = .ok (.iconst 0, 1) := by decide +kernel
theorem dL_law_527 : decode cL_law 527 = .ok (.laload, 1) := by decide +kernel
theorem dL_law_528 : decode cL_law 528 = .ok (.iload 6, 2) := by decide +kernel
theorem dL_law_530 : decode cL_law 530 = .ok (.i2l, 1) := by decide +kernel
theorem dL_law_531 : decode cL_law 531 = .ok (.lcmp, 1) := by decide +kernel
theorem dL_law_532 : decode cL_law 532 = .ok (.ifCond .eq 5, 3) := by decide +kernel
theorem dL_law_535 : decode cL_law 535 = .ok (.iconst 0, 1) := by decide +kernel
theorem dL_law_536 : decode cL_law 536 = .ok (.ireturn, 1) := by decide +kernel
theorem dL_law_537 : decode cL_law 537 = .ok (.goto 1048, 3) := by decide +kernel
theorem dL_law_540 : decode cL_law 540 = .ok (.aload_n 1, 1) := by decide +kernel
theorem dL_law_541 : decode cL_law 541 = .ok (.aload_n 0, 1) := by decide +kernel
theorem dL_law_542 : decode cL_law 542 = .ok (.iload 4, 2) := by decide +kernel
theorem dL_law_544 : decode cL_law 544 = .ok (.iconst 1, 1) := by decide +kernel
theorem dL_law_545 : decode cL_law 545 = .ok (.iadd, 1) := by decide +kernel
theorem dL_law_546 : decode cL_law 546 = .ok (.iaload, 1) := by decide +kernel
theorem dL_law_547 : decode cL_law 547 = .ok (.aload_n 0, 1) := by decide +kernel
theorem dL_law_548 : decode cL_law 548 = .ok (.iload 4, 2) := by decide +kernel
theorem dL_law_550 : decode cL_law 550 = .ok (.iconst 2, 1) := by decide +kernel
theorem dL_law_551 : decode cL_law 551 = .ok (.iadd, 1) := by decide +kernel
theorem dL_law_552 : decode cL_law 552 = .ok (.iaload, 1) := by decide +kernel
theorem dL_law_553 : decode cL_law 553 = .ok (.aload_n 0, 1) := by decide +kernel
theorem dL_law_554 : decode cL_law 554 = .ok (.iload 4, 2) := by decide +kernel
theorem dL_law_556 : decode cL_law 556 = .ok (.iconst 3, 1) := by decide +kernel
theorem dL_law_557 : decode cL_law 557 = .ok (.iadd, 1) := by decide +kernel
theorem dL_law_558 : decode cL_law 558 = .ok (.iaload, 1) := by decide +kernel
theorem dL_law_559 : decode cL_law 559 = .ok (.aload_n 3, 1) := by decide +kernel
theorem dL_law_560 : decode cL_law 560 = .ok (.invokestatic 123, 3) := by decide +kernel
theorem dL_law_563 : decode cL_law 563 = .ok (.istore 5, 2) := by decide +kernel
theorem dL_law_565 : decode cL_law 565 = .ok (.aload_n 2, 1) := by decide +kernel
theorem dL_law_566 : decode cL_law 566 = .ok (.aload_n 0, 1) := by decide +kernel
theorem dL_law_567 : decode cL_law 567 = .ok (.iload 4, 2) := by decide +kernel
theorem dL_law_569 : decode cL_law 569 = .ok (.iconst 1, 1) := by decide +kernel
theorem dL_law_570 : decode cL_law 570 = .ok (.iadd, 1) := by decide +kernel
theorem dL_law_571 : decode cL_law 571 = .ok (.iaload, 1) := by decide +kernel
theorem dL_law_572 : decode cL_law 572 = .ok (.aload_n 0, 1) := by decide +kernel
theorem dL_law_573 : decode cL_law 573 = .ok (.iload 4, 2) := by decide +kernel
theorem dL_law_575 : decode cL_law 575 = .ok (.iconst 2, 1) := by decide +kernel
theorem dL_law_576 : decode cL_law 576 = .ok (.iadd, 1) := by decide +kernel
theorem dL_law_577 : decode cL_law 577 = .ok (.iaload, 1) := by decide +kernel
theorem dL_law_578 : decode cL_law 578 = .ok (.aload_n 0, 1) := by decide +kernel
theorem dL_law_579 : decode cL_law 579 = .ok (.iload 4, 2) := by decide +kernel
theorem dL_law_581 : decode cL_law 581 = .ok (.iconst 3, 1) := by decide +kernel
theorem dL_law_582 : decode cL_law 582 = .ok (.iadd, 1) := by decide +kernel
theorem dL_law_583 : decode cL_law 583 = .ok (.iaload, 1) := by decide +kernel
theorem dL_law_584 : decode cL_law 584 = .ok (.invokevirtual 126, 3) := by decide +kernel
theorem dL_law_587 : decode cL_law 587 = .ok (.istore 6, 2) := by decide +kernel
theorem dL_law_589 : decode cL_law 589 = .ok (.aload_n 2, 1) := by decide +kernel
theorem dL_law_590 : decode cL_law 590 = .ok (.invokevirtual 102, 3) := by decide +kernel
theorem dL_law_593 : decode cL_law 593 = .ok (.iload 5, 2) := by decide +kernel
theorem dL_law_595 : decode cL_law 595 = .ok (.if_icmp .eq 5, 3) := by decide +kernel
theorem dL_law_598 : decode cL_law 598 = .ok (.iconst 0, 1) := by decide +kernel
theorem dL_law_599 : decode cL_law 599 = .ok (.ireturn, 1) := by decide +kernel
theorem dL_law_600 : decode cL_law 600 = .ok (.iload 5, 2) := by decide +kernel
theorem dL_law_602 : decode cL_law 602 = .ok (.ifCond .ne 15, 3) := by decide +kernel
theorem dL_law_605 : decode cL_law 605 = .ok (.aload_n 3, 1) := by decide +kernel
theorem dL_law_606 : decode cL_law 606 = .ok (.iconst 0, 1) := by decide +kernel
theorem dL_law_607 : decode cL_law 607 = .ok (.laload, 1) := by decide +kernel
theorem dL_law_608 : decode cL_law 608 = .ok (.iload 6, 2) := by decide +kernel
theorem dL_law_610 : decode cL_law 610 = .ok (.i2l, 1) := by decide +kernel
theorem dL_law_611 : decode cL_law 611 = .ok (.lcmp, 1) := by decide +kernel
theorem dL_law_612 : decode cL_law 612 = .ok (.ifCond .eq 5, 3) := by decide +kernel
theorem dL_law_615 : decode cL_law 615 = .ok (.iconst 0, 1) := by decide +kernel
theorem dL_law_616 : decode cL_law 616 = .ok (.ireturn, 1) := by decide +kernel
theorem dL_law_617 : decode cL_law 617 = .ok (.goto 968, 3) := by decide +kernel
theorem dL_law_620 : decode cL_law 620 = .ok (.aload_n 1, 1) := by decide +kernel
theorem dL_law_621 : decode cL_law 621 = .ok (.aload_n 0, 1) := by decide +kernel
theorem dL_law_622 : decode cL_law 622 = .ok (.iload 4, 2) := by decide +kernel
theorem dL_law_624 : decode cL_law 624 = .ok (.iconst 1, 1) := by decide +kernel
theorem dL_law_625 : decode cL_law 625 = .ok (.iadd, 1) := by decide +kernel
theorem dL_law_626 : decode cL_law 626 = .ok (.iaload, 1) := by decide +kernel
theorem dL_law_627 : decode cL_law 627 = .ok (.aload_n 3, 1) := by decide +kernel
theorem dL_law_628 : decode cL_law 628 = .ok (.invokestatic 127, 3) := by decide +kernel
theorem dL_law_631 : decode cL_law 631 = .ok (.istore 5, 2) := by decide +kernel
theorem dL_law_633 : decode cL_law 633 = .ok (.aload_n 2, 1) := by decide +kernel
theorem dL_law_634 : decode cL_law 634 = .ok (.aload_n 0, 1) := by decide +kernel
theorem dL_law_635 : decode cL_law 635 = .ok (.iload 4, 2) := by decide +kernel
theorem dL_law_637 : decode cL_law 637 = .ok (.iconst 1, 1) := by decide +kernel
theorem dL_law_638 : decode cL_law 638 = .ok (.iadd, 1) := by decide +kernel
theorem dL_law_639 : decode cL_law 639 = .ok (.iaload, 1) := by decide +kernel
theorem dL_law_640 : decode cL_law 640 = .ok (.invokevirtual 129, 3) := by decide +kernel
theorem dL_law_643 : decode cL_law 643 = .ok (.istore 6, 2) := by decide +kernel
theorem dL_law_645 : decode cL_law 645 = .ok (.aload_n 2, 1) := by decide +kernel
theorem dL_law_646 : decode cL_law 646 = .ok (.invokevirtual 102, 3) := by decide +kernel
theorem dL_law_649 : decode cL_law 649 = .ok (.iload 5, 2) := by decide +kernel
theorem dL_law_651 : decode cL_law 651 = .ok (.if_icmp .eq 5, 3) := by decide +kernel
theorem dL_law_654 : decode cL_law 654 = .ok (.iconst 0, 1) := by decide +kernel
theorem dL_law_655 : decode cL_law 655 = .ok (.ireturn, 1) := by decide +kernel
theorem dL_law_656 : decode cL_law 656 = .ok (.iload 5, 2) := by decide +kernel
theorem dL_law_658 : decode cL_law 658 = .ok (.ifCond .ne 15, 3) := by decide +kernel
theorem dL_law_661 : decode cL_law 661 = .ok (.aload_n 3, 1) := by decide +kernel
theorem dL_law_662 : decode cL_law 662 = .ok (.iconst 0, 1) := by decide +kernel
theorem dL_law_663 : decode cL_law 663 = .ok (.laload, 1) := by decide +kernel
theorem dL_law_664 : decode cL_law 664 = .ok (.iload 6, 2) := by decide +kernel
theorem dL_law_666 : decode cL_law 666 = .ok (.i2l, 1) := by decide +kernel
theorem dL_law_667 : decode cL_law 667 = .ok (.lcmp, 1) := by decide +kernel
theorem dL_law_668 : decode cL_law 668 = .ok (.ifCond .eq 5, 3) := by decide +kernel
theorem dL_law_671 : decode cL_law 671 = .ok (.iconst 0, 1) := by decide +kernel
theorem dL_law_672 : decode cL_law 672 = .ok (.ireturn, 1) := by decide +kernel
theorem dL_law_673 : decode cL_law 673 = .ok (.goto 912, 3) := by decide +kernel
theorem dL_law_676 : decode cL_law 676 = .ok (.aload_n 1, 1) := by decide +kernel
theorem dL_law_677 : decode cL_law 677 = .ok (.aload_n 0, 1) := by decide +kernel
theorem dL_law_678 : decode cL_law 678 = .ok (.iload 4, 2) := by decide +kernel
theorem dL_law_680 : decode cL_law 680 = .ok (.iconst 1, 1) := by decide +kernel
theorem dL_law_681 : decode cL_law 681 = .ok (.iadd, 1) := by decide +kernel
theorem dL_law_682 : decode cL_law 682 = .ok (.iaload, 1) := by decide +kernel
theorem dL_law_683 : decode cL_law 683 = .ok (.aload_n 3, 1) := by decide +kernel
theorem dL_law_684 : decode cL_law 684 = .ok (.invokestatic 130, 3) := by decide +kernel
theorem dL_law_687 : decode cL_law 687 = .ok (.istore 5, 2) := by decide +kernel
theorem dL_law_689 : decode cL_law 689 = .ok (.aload_n 2, 1) := by decide +kernel
theorem dL_law_690 : decode cL_law 690 = .ok (.aload_n 0, 1) := by decide +kernel
theorem dL_law_691 : decode cL_law 691 = .ok (.iload 4, 2) := by decide +kernel
theorem dL_law_693 : decode cL_law 693 = .ok (.iconst 1, 1) := by decide +kernel
theorem dL_law_694 : decode cL_law 694 = .ok (.iadd, 1) := by decide +kernel
theorem dL_law_695 : decode cL_law 695 = .ok (.iaload, 1) := by decide +kernel
theorem dL_law_696 : decode cL_law 696 = .ok (.invokevirtual 132, 3) := by decide +kernel
theorem dL_law_699 : decode cL_law 699 = .ok (.istore 6, 2) := by decide +kernel
theorem dL_law_701 : decode cL_law 701 = .ok (.aload_n 2, 1) := by decide +kernel
theorem dL_law_702 : decode cL_law 702 = .ok (.invokevirtual 102, 3) := by decide +kernel
theorem dL_law_705 : decode cL_law 705 = .ok (.iload 5, 2) := by decide +kernel
theorem dL_law_707 : decode cL_law 707 = .ok (.if_icmp .eq 5, 3) := by decide +kernel
theorem dL_law_710 : decode cL_law 710 = .ok (.iconst 0, 1) := by decide +kernel
theorem dL_law_711 : decode cL_law 711 = .ok (.ireturn, 1) := by decide +kernel
theorem dL_law_712 : decode cL_law 712 = .ok (.iload 5, 2) := by decide +kernel
theorem dL_law_714 : decode cL_law 714 = .ok (.ifCond .ne 15, 3) := by decide +kernel
theorem dL_law_717 : decode cL_law 717 = .ok (.aload_n 3, 1) := by decide +kernel
theorem dL_law_718 : decode cL_law 718 = .ok (.iconst 0, 1) := by decide +kernel
theorem dL_law_719 : decode cL_law 719 = .ok (.laload, 1) := by decide +kernel
theorem dL_law_720 : decode cL_law 720 = .ok (.iload 6, 2) := by decide +kernel
theorem dL_law_722 : decode cL_law 722 = .ok (.i2l, 1) := by decide +kernel
theorem dL_law_723 : decode cL_law 723 = .ok (.lcmp, 1) := by decide +kernel
theorem dL_law_724 : decode cL_law 724 = .ok (.ifCond .eq 5, 3) := by decide +kernel
theorem dL_law_727 : decode cL_law 727 = .ok (.iconst 0, 1) := by decide +kernel
theorem dL_law_728 : decode cL_law 728 = .ok (.ireturn, 1) := by decide +kernel
theorem dL_law_729 : decode cL_law 729 = .ok (.goto 856, 3) := by decide +kernel
theorem dL_law_732 : decode cL_law 732 = .ok (.aload_n 1, 1) := by decide +kernel
theorem dL_law_733 : decode cL_law 733 = .ok (.aload_n 0, 1) := by decide +kernel
theorem dL_law_734 : decode cL_law 734 = .ok (.iload 4, 2) := by decide +kernel
theorem dL_law_736 : decode cL_law 736 = .ok (.iconst 1, 1) := by decide +kernel
theorem dL_law_737 : decode cL_law 737 = .ok (.iadd, 1) := by decide +kernel
theorem dL_law_738 : decode cL_law 738 = .ok (.iaload, 1) := by decide +kernel
theorem dL_law_739 : decode cL_law 739 = .ok (.aload_n 3, 1) := by decide +kernel
theorem dL_law_740 : decode cL_law 740 = .ok (.invokestatic 133, 3) := by decide +kernel
theorem dL_law_743 : decode cL_law 743 = .ok (.istore 5, 2) := by decide +kernel
theorem dL_law_745 : decode cL_law 745 = .ok (.aload_n 2, 1) := by decide +kernel
theorem dL_law_746 : decode cL_law 746 = .ok (.aload_n 0, 1) := by decide +kernel
theorem dL_law_747 : decode cL_law 747 = .ok (.iload 4, 2) := by decide +kernel
theorem dL_law_749 : decode cL_law 749 = .ok (.iconst 1, 1) := by decide +kernel
theorem dL_law_750 : decode cL_law 750 = .ok (.iadd, 1) := by decide +kernel
theorem dL_law_751 : decode cL_law 751 = .ok (.iaload, 1) := by decide +kernel
theorem dL_law_752 : decode cL_law 752 = .ok (.invokevirtual 135, 3) := by decide +kernel
theorem dL_law_755 : decode cL_law 755 = .ok (.istore 6, 2) := by decide +kernel
theorem dL_law_757 : decode cL_law 757 = .ok (.aload_n 2, 1) := by decide +kernel
theorem dL_law_758 : decode cL_law 758 = .ok (.invokevirtual 102, 3) := by decide +kernel
theorem dL_law_761 : decode cL_law 761 = .ok (.iload 5, 2) := by decide +kernel
theorem dL_law_763 : decode cL_law 763 = .ok (.if_icmp .eq 5, 3) := by decide +kernel
theorem dL_law_766 : decode cL_law 766 = .ok (.iconst 0, 1) := by decide +kernel
theorem dL_law_767 : decode cL_law 767 = .ok (.ireturn, 1) := by decide +kernel
theorem dL_law_768 : decode cL_law 768 = .ok (.iload 5, 2) := by decide +kernel
theorem dL_law_770 : decode cL_law 770 = .ok (.ifCond .ne 15, 3) := by decide +kernel
theorem dL_law_773 : decode cL_law 773 = .ok (.aload_n 3, 1) := by decide +kernel
theorem dL_law_774 : decode cL_law 774 = .ok (.iconst 0, 1) := by decide +kernel
theorem dL_law_775 : decode cL_law 775 = .ok (.laload, 1) := by decide +kernel
theorem dL_law_776 : decode cL_law 776 = .ok (.iload 6, 2) := by decide +kernel
theorem dL_law_778 : decode cL_law 778 = .ok (.i2l, 1) := by decide +kernel
theorem dL_law_779 : decode cL_law 779 = .ok (.lcmp, 1) := by decide +kernel
theorem dL_law_780 : decode cL_law 780 = .ok (.ifCond .eq 5, 3) := by decide +kernel
theorem dL_law_783 : decode cL_law 783 = .ok (.iconst 0, 1) := by decide +kernel
theorem dL_law_784 : decode cL_law 784 = .ok (.ireturn, 1) := by decide +kernel
theorem dL_law_785 : decode cL_law 785 = .ok (.goto 800, 3) := by decide +kernel
theorem dL_law_788 : decode cL_law 788 = .ok (.aload_n 1, 1) := by decide +kernel
theorem dL_law_789 : decode cL_law 789 = .ok (.aload_n 3, 1) := by decide +kernel
theorem dL_law_790 : decode cL_law 790 = .ok (.invokestatic 136, 3) := by decide +kernel
theorem dL_law_793 : decode cL_law 793 = .ok (.istore 5, 2) := by decide +kernel
theorem dL_law_795 : decode cL_law 795 = .ok (.aload_n 2, 1) := by decide +kernel
theorem dL_law_796 : decode cL_law 796 = .ok (.invokevirtual 139, 3) := by decide +kernel
theorem dL_law_799 : decode cL_law 799 = .ok (.istore 6, 2) := by decide +kernel
theorem dL_law_801 : decode cL_law 801 = .ok (.aload_n 2, 1) := by decide +kernel
theorem dL_law_802 : decode cL_law 802 = .ok (.invokevirtual 102, 3) := by decide +kernel
theorem dL_law_805 : decode cL_law 805 = .ok (.iload 5, 2) := by decide +kernel
theorem dL_law_807 : decode cL_law 807 = .ok (.if_icmp .eq 5, 3) := by decide +kernel
theorem dL_law_810 : decode cL_law 810 = .ok (.iconst 0, 1) := by decide +kernel
theorem dL_law_811 : decode cL_law 811 = .ok (.ireturn, 1) := by decide +kernel
theorem dL_law_812 : decode cL_law 812 = .ok (.iload 5, 2) := by decide +kernel
theorem dL_law_814 : decode cL_law 814 = .ok (.ifCond .ne 15, 3) := by decide +kernel
theorem dL_law_817 : decode cL_law 817 = .ok (.aload_n 3, 1) := by decide +kernel
theorem dL_law_818 : decode cL_law 818 = .ok (.iconst 0, 1) := by decide +kernel
theorem dL_law_819 : decode cL_law 819 = .ok (.laload, 1) := by decide +kernel
theorem dL_law_820 : decode cL_law 820 = .ok (.iload 6, 2) := by decide +kernel
theorem dL_law_822 : decode cL_law 822 = .ok (.i2l, 1) := by decide +kernel
theorem dL_law_823 : decode cL_law 823 = .ok (.lcmp, 1) := by decide +kernel
theorem dL_law_824 : decode cL_law 824 = .ok (.ifCond .eq 5, 3) := by decide +kernel
theorem dL_law_827 : decode cL_law 827 = .ok (.iconst 0, 1) := by decide +kernel
theorem dL_law_828 : decode cL_law 828 = .ok (.ireturn, 1) := by decide +kernel
theorem dL_law_829 : decode cL_law 829 = .ok (.goto 756, 3) := by decide +kernel
theorem dL_law_832 : decode cL_law 832 = .ok (.aload_n 1, 1) := by decide +kernel
theorem dL_law_833 : decode cL_law 833 = .ok (.invokevirtual 140, 3) := by decide +kernel
theorem dL_law_836 : decode cL_law 836 = .ok (.aload_n 2, 1) := by decide +kernel
theorem dL_law_837 : decode cL_law 837 = .ok (.invokevirtual 143, 3) := by decide +kernel
theorem dL_law_840 : decode cL_law 840 = .ok (.if_icmp .eq 745, 3) := by decide +kernel
theorem dL_law_843 : decode cL_law 843 = .ok (.iconst 0, 1) := by decide +kernel
theorem dL_law_844 : decode cL_law 844 = .ok (.ireturn, 1) := by decide +kernel
theorem dL_law_845 : decode cL_law 845 = .ok (.aload_n 1, 1) := by decide +kernel
theorem dL_law_846 : decode cL_law 846 = .ok (.invokevirtual 144, 3) := by decide +kernel
theorem dL_law_849 : decode cL_law 849 = .ok (.aload_n 2, 1) := by decide +kernel
theorem dL_law_850 : decode cL_law 850 = .ok (.invokevirtual 147, 3) := by decide +kernel
theorem dL_law_853 : decode cL_law 853 = .ok (.if_icmp .eq 732, 3) := by decide +kernel
theorem dL_law_856 : decode cL_law 856 = .ok (.iconst 0, 1) := by decide +kernel
theorem dL_law_857 : decode cL_law 857 = .ok (.ireturn, 1) := by decide +kernel
theorem dL_law_858 : decode cL_law 858 = .ok (.aload_n 1, 1) := by decide +kernel
theorem dL_law_859 : decode cL_law 859 = .ok (.invokevirtual 148, 3) := by decide +kernel
theorem dL_law_862 : decode cL_law 862 = .ok (.aload_n 2, 1) := by decide +kernel
theorem dL_law_863 : decode cL_law 863 = .ok (.invokevirtual 151, 3) := by decide +kernel
theorem dL_law_866 : decode cL_law 866 = .ok (.if_icmp .eq 719, 3) := by decide +kernel
theorem dL_law_869 : decode cL_law 869 = .ok (.iconst 0, 1) := by decide +kernel
theorem dL_law_870 : decode cL_law 870 = .ok (.ireturn, 1) := by decide +kernel
theorem dL_law_871 : decode cL_law 871 = .ok (.aload_n 1, 1) := by decide +kernel
theorem dL_law_872 : decode cL_law 872 = .ok (.invokevirtual 152, 3) := by decide +kernel
theorem dL_law_875 : decode cL_law 875 = .ok (.aload_n 2, 1) := by decide +kernel
theorem dL_law_876 : decode cL_law 876 = .ok (.invokevirtual 155, 3) := by decide +kernel
theorem dL_law_879 : decode cL_law 879 = .ok (.if_icmp .eq 706, 3) := by decide +kernel
theorem dL_law_882 : decode cL_law 882 = .ok (.iconst 0, 1) := by decide +kernel
theorem dL_law_883 : decode cL_law 883 = .ok (.ireturn, 1) := by decide +kernel
theorem dL_law_884 : decode cL_law 884 = .ok (.aload_n 1, 1) := by decide +kernel
theorem dL_law_885 : decode cL_law 885 = .ok (.aload_n 0, 1) := by decide +kernel
theorem dL_law_886 : decode cL_law 886 = .ok (.iload 4, 2) := by decide +kernel
theorem dL_law_888 : decode cL_law 888 = .ok (.iconst 1, 1) := by decide +kernel
theorem dL_law_889 : decode cL_law 889 = .ok (.iadd, 1) := by decide +kernel
theorem dL_law_890 : decode cL_law 890 = .ok (.iaload, 1) := by decide +kernel
theorem dL_law_891 : decode cL_law 891 = .ok (.aload_n 3, 1) := by decide +kernel
theorem dL_law_892 : decode cL_law 892 = .ok (.invokestatic 156, 3) := by decide +kernel
theorem dL_law_895 : decode cL_law 895 = .ok (.istore 5, 2) := by decide +kernel
theorem dL_law_897 : decode cL_law 897 = .ok (.aload_n 2, 1) := by decide +kernel
theorem dL_law_898 : decode cL_law 898 = .ok (.aload_n 0, 1) := by decide +kernel
theorem dL_law_899 : decode cL_law 899 = .ok (.iload 4, 2) := by decide +kernel
theorem dL_law_901 : decode cL_law 901 = .ok (.iconst 1, 1) := by decide +kernel
theorem dL_law_902 : decode cL_law 902 = .ok (.iadd, 1) := by decide +kernel
theorem dL_law_903 : decode cL_law 903 = .ok (.iaload, 1) := by decide +kernel
theorem dL_law_904 : decode cL_law 904 = .ok (.invokevirtual 158, 3) := by decide +kernel
theorem dL_law_907 : decode cL_law 907 = .ok (.istore 6, 2) := by decide +kernel
theorem dL_law_909 : decode cL_law 909 = .ok (.aload_n 2, 1) := by decide +kernel
theorem dL_law_910 : decode cL_law 910 = .ok (.invokevirtual 102, 3) := by decide +kernel
theorem dL_law_913 : decode cL_law 913 = .ok (.iload 5, 2) := by decide +kernel
theorem dL_law_915 : decode cL_law 915 = .ok (.if_icmp .eq 5, 3) := by decide +kernel
theorem dL_law_918 : decode cL_law 918 = .ok (.iconst 0, 1) := by decide +kernel
theorem dL_law_919 : decode cL_law 919 = .ok (.ireturn, 1) := by decide +kernel
theorem dL_law_920 : decode cL_law 920 = .ok (.iload 5, 2) := by decide +kernel
theorem dL_law_922 : decode cL_law 922 = .ok (.ifCond .ne 15, 3) := by decide +kernel
theorem dL_law_925 : decode cL_law 925 = .ok (.aload_n 3, 1) := by decide +kernel
theorem dL_law_926 : decode cL_law 926 = .ok (.iconst 0, 1) := by decide +kernel
theorem dL_law_927 : decode cL_law 927 = .ok (.laload, 1) := by decide +kernel
theorem dL_law_928 : decode cL_law 928 = .ok (.iload 6, 2) := by decide +kernel
theorem dL_law_930 : decode cL_law 930 = .ok (.i2l, 1) := by decide +kernel
theorem dL_law_931 : decode cL_law 931 = .ok (.lcmp, 1) := by decide +kernel
theorem dL_law_932 : decode cL_law 932 = .ok (.ifCond .eq 5, 3) := by decide +kernel
theorem dL_law_935 : decode cL_law 935 = .ok (.iconst 0, 1) := by decide +kernel
theorem dL_law_936 : decode cL_law 936 = .ok (.ireturn, 1) := by decide +kernel
theorem dL_law_937 : decode cL_law 937 = .ok (.goto 648, 3) := by decide +kernel
theorem dL_law_940 : decode cL_law 940 = .ok (.aload_n 1, 1) := by decide +kernel
theorem dL_law_941 : decode cL_law 941 = .ok (.aload_n 0, 1) := by decide +kernel
theorem dL_law_942 : decode cL_law 942 = .ok (.iload 4, 2) := by decide +kernel
theorem dL_law_944 : decode cL_law 944 = .ok (.iconst 1, 1) := by decide +kernel
theorem dL_law_945 : decode cL_law 945 = .ok (.iadd, 1) := by decide +kernel
theorem dL_law_946 : decode cL_law 946 = .ok (.iaload, 1) := by decide +kernel
theorem dL_law_947 : decode cL_law 947 = .ok (.aload_n 3, 1) := by decide +kernel
theorem dL_law_948 : decode cL_law 948 = .ok (.invokestatic 159, 3) := by decide +kernel
theorem dL_law_951 : decode cL_law 951 = .ok (.istore 5, 2) := by decide +kernel
theorem dL_law_953 : decode cL_law 953 = .ok (.aload_n 2, 1) := by decide +kernel
theorem dL_law_954 : decode cL_law 954 = .ok (.aload_n 0, 1) := by decide +kernel
theorem dL_law_955 : decode cL_law 955 = .ok (.iload 4, 2) := by decide +kernel
theorem dL_law_957 : decode cL_law 957 = .ok (.iconst 1, 1) := by decide +kernel
theorem dL_law_958 : decode cL_law 958 = .ok (.iadd, 1) := by decide +kernel
theorem dL_law_959 : decode cL_law 959 = .ok (.iaload, 1) := by decide +kernel
theorem dL_law_960 : decode cL_law 960 = .ok (.invokevirtual 161, 3) := by decide +kernel
theorem dL_law_963 : decode cL_law 963 = .ok (.istore 6, 2) := by decide +kernel
theorem dL_law_965 : decode cL_law 965 = .ok (.aload_n 2, 1) := by decide +kernel
theorem dL_law_966 : decode cL_law 966 = .ok (.invokevirtual 102, 3) := by decide +kernel
theorem dL_law_969 : decode cL_law 969 = .ok (.iload 5, 2) := by decide +kernel
theorem dL_law_971 : decode cL_law 971 = .ok (.if_icmp .eq 5, 3) := by decide +kernel
theorem dL_law_974 : decode cL_law 974 = .ok (.iconst 0, 1) := by decide +kernel
theorem dL_law_975 : decode cL_law 975 = .ok (.ireturn, 1) := by decide +kernel
theorem dL_law_976 : decode cL_law 976 = .ok (.iload 5, 2) := by decide +kernel
theorem dL_law_978 : decode cL_law 978 = .ok (.ifCond .ne 15, 3) := by decide +kernel
theorem dL_law_981 : decode cL_law 981 = .ok (.aload_n 3, 1) := by decide +kernel
theorem dL_law_982 : decode cL_law 982 = .ok (.iconst 0, 1) := by decide +kernel
theorem dL_law_983 : decode cL_law 983 = .ok (.laload, 1) := by decide +kernel
theorem dL_law_984 : decode cL_law 984 = .ok (.iload 6, 2) := by decide +kernel
theorem dL_law_986 : decode cL_law 986 = .ok (.i2l, 1) := by decide +kernel
theorem dL_law_987 : decode cL_law 987 = .ok (.lcmp, 1) := by decide +kernel
theorem dL_law_988 : decode cL_law 988 = .ok (.ifCond .eq 5, 3) := by decide +kernel
theorem dL_law_991 : decode cL_law 991 = .ok (.iconst 0, 1) := by decide +kernel
theorem dL_law_992 : decode cL_law 992 = .ok (.ireturn, 1) := by decide +kernel
theorem dL_law_993 : decode cL_law 993 = .ok (.goto 592, 3) := by decide +kernel
theorem dL_law_996 : decode cL_law 996 = .ok (.aload_n 1, 1) := by decide +kernel
theorem dL_law_997 : decode cL_law 997 = .ok (.aload_n 0, 1) := by decide +kernel
theorem dL_law_998 : decode cL_law 998 = .ok (.iload 4, 2) := by decide +kernel
theorem dL_law_1000 : decode cL_law 1000 = .ok (.iconst 1, 1) := by decide +kernel
theorem dL_law_1001 : decode cL_law 1001 = .ok (.iadd, 1) := by decide +kernel
theorem dL_law_1002 : decode cL_law 1002 = .ok (.iaload, 1) := by decide +kernel
theorem dL_law_1003 : decode cL_law 1003 = .ok (.aload_n 3, 1) := by decide +kernel
theorem dL_law_1004 : decode cL_law 1004 = .ok (.invokestatic 162, 3) := by decide +kernel
theorem dL_law_1007 : decode cL_law 1007 = .ok (.istore 5, 2) := by decide +kernel
theorem dL_law_1009 : decode cL_law 1009 = .ok (.aload_n 2, 1) := by decide +kernel
theorem dL_law_1010 : decode cL_law 1010 = .ok (.aload_n 0, 1) := by decide +kernel
theorem dL_law_1011 : decode cL_law 1011 = .ok (.iload 4, 2) := by decide +kernel
theorem dL_law_1013 : decode cL_law 1013 = .ok (.iconst 1, 1) := by decide +kernel
theorem dL_law_1014 : decode cL_law 1014 = .ok (.iadd, 1) := by decide +kernel
theorem dL_law_1015 : decode cL_law 1015 = .ok (.iaload, 1) := by decide +kernel
theorem dL_law_1016 : decode cL_law 1016 = .ok (.invokevirtual 164, 3) := by decide +kernel
theorem dL_law_1019 : decode cL_law 1019 = .ok (.istore 6, 2) := by decide +kernel
theorem dL_law_1021 : decode cL_law 1021 = .ok (.aload_n 2, 1) := by decide +kernel
theorem dL_law_1022 : decode cL_law 1022 = .ok (.invokevirtual 102, 3) := by decide +kernel
theorem dL_law_1025 : decode cL_law 1025 = .ok (.iload 5, 2) := by decide +kernel
theorem dL_law_1027 : decode cL_law 1027 = .ok (.if_icmp .eq 5, 3) := by decide +kernel
theorem dL_law_1030 : decode cL_law 1030 = .ok (.iconst 0, 1) := by decide +kernel
theorem dL_law_1031 : decode cL_law 1031 = .ok (.ireturn, 1) := by decide +kernel
theorem dL_law_1032 : decode cL_law 1032 = .ok (.iload 5, 2) := by decide +kernel
theorem dL_law_1034 : decode cL_law 1034 = .ok (.ifCond .ne 15, 3) := by decide +kernel
theorem dL_law_1037 : decode cL_law 1037 = .ok (.aload_n 3, 1) := by decide +kernel
theorem dL_law_1038 : decode cL_law 1038 = .ok (.iconst 0, 1) := by decide +kernel
theorem dL_law_1039 : decode cL_law 1039 = .ok (.laload, 1) := by decide +kernel
theorem dL_law_1040 : decode cL_law 1040 = .ok (.iload 6, 2) := by decide +kernel
theorem dL_law_1042 : decode cL_law 1042 = .ok (.i2l, 1) := by decide +kernel
theorem dL_law_1043 : decode cL_law 1043 = .ok (.lcmp, 1) := by decide +kernel
theorem dL_law_1044 : decode cL_law 1044 = .ok (.ifCond .eq 5, 3) := by decide +kernel
theorem dL_law_1047 : decode cL_law 1047 = .ok (.iconst 0, 1) := by decide +kernel
theorem dL_law_1048 : decode cL_law 1048 = .ok (.ireturn, 1) := by decide +kernel
theorem dL_law_1049 : decode cL_law 1049 = .ok (.goto 536, 3) := by decide +kernel
theorem dL_law_1052 : decode cL_law 1052 = .ok (.aload_n 1, 1) := by decide +kernel
theorem dL_law_1053 : decode cL_law 1053 = .ok (.aload_n 0, 1) := by decide +kernel
theorem dL_law_1054 : decode cL_law 1054 = .ok (.iload 4, 2) := by decide +kernel
theorem dL_law_1056 : decode cL_law 1056 = .ok (.iconst 1, 1) := by decide +kernel
theorem dL_law_1057 : decode cL_law 1057 = .ok (.iadd, 1) := by decide +kernel
theorem dL_law_1058 : decode cL_law 1058 = .ok (.iaload, 1) := by decide +kernel
theorem dL_law_1059 : decode cL_law 1059 = .ok (.aload_n 0, 1) := by decide +kernel
theorem dL_law_1060 : decode cL_law 1060 = .ok (.iload 4, 2) := by decide +kernel
theorem dL_law_1062 : decode cL_law 1062 = .ok (.iconst 2, 1) := by decide +kernel
theorem dL_law_1063 : decode cL_law 1063 = .ok (.iadd, 1) := by decide +kernel
theorem dL_law_1064 : decode cL_law 1064 = .ok (.iaload, 1) := by decide +kernel
theorem dL_law_1065 : decode cL_law 1065 = .ok (.aload_n 3, 1) := by decide +kernel
theorem dL_law_1066 : decode cL_law 1066 = .ok (.invokestatic 165, 3) := by decide +kernel
theorem dL_law_1069 : decode cL_law 1069 = .ok (.istore 5, 2) := by decide +kernel
theorem dL_law_1071 : decode cL_law 1071 = .ok (.aload_n 2, 1) := by decide +kernel
theorem dL_law_1072 : decode cL_law 1072 = .ok (.aload_n 0, 1) := by decide +kernel
theorem dL_law_1073 : decode cL_law 1073 = .ok (.iload 4, 2) := by decide +kernel
theorem dL_law_1075 : decode cL_law 1075 = .ok (.iconst 1, 1) := by decide +kernel
theorem dL_law_1076 : decode cL_law 1076 = .ok (.iadd, 1) := by decide +kernel
theorem dL_law_1077 : decode cL_law 1077 = .ok (.iaload, 1) := by decide +kernel
theorem dL_law_1078 : decode cL_law 1078 = .ok (.aload_n 0, 1) := by decide +kernel
theorem dL_law_1079 : decode cL_law 1079 = .ok (.iload 4, 2) := by decide +kernel
theorem dL_law_1081 : decode cL_law 1081 = .ok (.iconst 2, 1) := by decide +kernel
theorem dL_law_1082 : decode cL_law 1082 = .ok (.iadd, 1) := by decide +kernel
theorem dL_law_1083 : decode cL_law 1083 = .ok (.iaload, 1) := by decide +kernel
theorem dL_law_1084 : decode cL_law 1084 = .ok (.invokevirtual 167, 3) := by decide +kernel
theorem dL_law_1087 : decode cL_law 1087 = .ok (.istore 6, 2) := by decide +kernel
theorem dL_law_1089 : decode cL_law 1089 = .ok (.aload_n 2, 1) := by decide +kernel
theorem dL_law_1090 : decode cL_law 1090 = .ok (.invokevirtual 102, 3) := by decide +kernel
theorem dL_law_1093 : decode cL_law 1093 = .ok (.iload 5, 2) := by decide +kernel
theorem dL_law_1095 : decode cL_law 1095 = .ok (.if_icmp .eq 5, 3) := by decide +kernel
theorem dL_law_1098 : decode cL_law 1098 = .ok (.iconst 0, 1) := by decide +kernel
theorem dL_law_1099 : decode cL_law 1099 = .ok (.ireturn, 1) := by decide +kernel
theorem dL_law_1100 : decode cL_law 1100 = .ok (.iload 5, 2) := by decide +kernel
theorem dL_law_1102 : decode cL_law 1102 = .ok (.ifCond .ne 15, 3) := by decide +kernel
theorem dL_law_1105 : decode cL_law 1105 = .ok (.aload_n 3, 1) := by decide +kernel
theorem dL_law_1106 : decode cL_law 1106 = .ok (.iconst 0, 1) := by decide +kernel
theorem dL_law_1107 : decode cL_law 1107 = .ok (.laload, 1) := by decide +kernel
theorem dL_law_1108 : decode cL_law 1108 = .ok (.iload 6, 2) := by decide +kernel
theorem dL_law_1110 : decode cL_law 1110 = .ok (.i2l, 1) := by decide +kernel
theorem dL_law_1111 : decode cL_law 1111 = .ok (.lcmp, 1) := by decide +kernel
theorem dL_law_1112 : decode cL_law 1112 = .ok (.ifCond .eq 5, 3) := by decide +kernel
theorem dL_law_1115 : decode cL_law 1115 = .ok (.iconst 0, 1) := by decide +kernel
theorem dL_law_1116 : decode cL_law 1116 = .ok (.ireturn, 1) := by decide +kernel
theorem dL_law_1117 : decode cL_law 1117 = .ok (.goto 468, 3) := by decide +kernel
theorem dL_law_1120 : decode cL_law 1120 = .ok (.aload_n 1, 1) := by decide +kernel
theorem dL_law_1121 : decode cL_law 1121 = .ok (.aload_n 0, 1) := by decide +kernel
theorem dL_law_1122 : decode cL_law 1122 = .ok (.iload 4, 2) := by decide +kernel
theorem dL_law_1124 : decode cL_law 1124 = .ok (.iconst 1, 1) := by decide +kernel
theorem dL_law_1125 : decode cL_law 1125 = .ok (.iadd, 1) := by decide +kernel
theorem dL_law_1126 : decode cL_law 1126 = .ok (.iaload, 1) := by decide +kernel
theorem dL_law_1127 : decode cL_law 1127 = .ok (.aload_n 3, 1) := by decide +kernel
theorem dL_law_1128 : decode cL_law 1128 = .ok (.invokestatic 168, 3) := by decide +kernel
theorem dL_law_1131 : decode cL_law 1131 = .ok (.istore 5, 2) := by decide +kernel
theorem dL_law_1133 : decode cL_law 1133 = .ok (.aload_n 2, 1) := by decide +kernel
theorem dL_law_1134 : decode cL_law 1134 = .ok (.aload_n 0, 1) := by decide +kernel
theorem dL_law_1135 : decode cL_law 1135 = .ok (.iload 4, 2) := by decide +kernel
theorem dL_law_1137 : decode cL_law 1137 = .ok (.iconst 1, 1) := by decide +kernel
theorem dL_law_1138 : decode cL_law 1138 = .ok (.iadd, 1) := by decide +kernel
theorem dL_law_1139 : decode cL_law 1139 = .ok (.iaload, 1) := by decide +kernel
theorem dL_law_1140 : decode cL_law 1140 = .ok (.invokevirtual 170, 3) := by decide +kernel
theorem dL_law_1143 : decode cL_law 1143 = .ok (.istore 6, 2) := by decide +kernel
theorem dL_law_1145 : decode cL_law 1145 = .ok (.aload_n 2, 1) := by decide +kernel
theorem dL_law_1146 : decode cL_law 1146 = .ok (.invokevirtual 102, 3) := by decide +kernel
theorem dL_law_1149 : decode cL_law 1149 = .ok (.iload 5, 2) := by decide +kernel
theorem dL_law_1151 : decode cL_law 1151 = .ok (.if_icmp .eq 5, 3) := by decide +kernel
theorem dL_law_1154 : decode cL_law 1154 = .ok (.iconst 0, 1) := by decide +kernel
theorem dL_law_1155 : decode cL_law 1155 = .ok (.ireturn, 1) := by decide +kernel
theorem dL_law_1156 : decode cL_law 1156 = .ok (.iload 5, 2) := by decide +kernel
theorem dL_law_1158 : decode cL_law 1158 = .ok (.ifCond .ne 15, 3) := by decide +kernel
theorem dL_law_1161 : decode cL_law 1161 = .ok (.aload_n 3, 1) := by decide +kernel
theorem dL_law_1162 : decode cL_law 1162 = .ok (.iconst 0, 1) := by decide +kernel
theorem dL_law_1163 : decode cL_law 1163 = .ok (.laload, 1) := by decide +kernel
theorem dL_law_1164 : decode cL_law 1164 = .ok (.iload 6, 2) := by decide +kernel
theorem dL_law_1166 : decode cL_law 1166 = .ok (.i2l, 1) := by decide +kernel
theorem dL_law_1167 : decode cL_law 1167 = .ok (.lcmp, 1) := by decide +kernel
theorem dL_law_1168 : decode cL_law 1168 = .ok (.ifCond .eq 5, 3) := by decide +kernel
theorem dL_law_1171 : decode cL_law 1171 = .ok (.iconst 0, 1) := by decide +kernel
theorem dL_law_1172 : decode cL_law 1172 = .ok (.ireturn, 1) := by decide +kernel
theorem dL_law_1173 : decode cL_law 1173 = .ok (.goto 412, 3) := by decide +kernel
theorem dL_law_1176 : decode cL_law 1176 = .ok (.aload_n 1, 1) := by decide +kernel
theorem dL_law_1177 : decode cL_law 1177 = .ok (.aload_n 0, 1) := by decide +kernel
theorem dL_law_1178 : decode cL_law 1178 = .ok (.iload 4, 2) := by decide +kernel
theorem dL_law_1180 : decode cL_law 1180 = .ok (.iconst 1, 1) := by decide +kernel
theorem dL_law_1181 : decode cL_law 1181 = .ok (.iadd, 1) := by decide +kernel
theorem dL_law_1182 : decode cL_law 1182 = .ok (.iaload, 1) := by decide +kernel
theorem dL_law_1183 : decode cL_law 1183 = .ok (.aload_n 3, 1) := by decide +kernel
theorem dL_law_1184 : decode cL_law 1184 = .ok (.invokestatic 171, 3) := by decide +kernel
theorem dL_law_1187 : decode cL_law 1187 = .ok (.istore 5, 2) := by decide +kernel
theorem dL_law_1189 : decode cL_law 1189 = .ok (.aload_n 2, 1) := by decide +kernel
theorem dL_law_1190 : decode cL_law 1190 = .ok (.aload_n 0, 1) := by decide +kernel
theorem dL_law_1191 : decode cL_law 1191 = .ok (.iload 4, 2) := by decide +kernel
theorem dL_law_1193 : decode cL_law 1193 = .ok (.iconst 1, 1) := by decide +kernel
theorem dL_law_1194 : decode cL_law 1194 = .ok (.iadd, 1) := by decide +kernel
theorem dL_law_1195 : decode cL_law 1195 = .ok (.iaload, 1) := by decide +kernel
theorem dL_law_1196 : decode cL_law 1196 = .ok (.invokevirtual 173, 3) := by decide +kernel
theorem dL_law_1199 : decode cL_law 1199 = .ok (.istore 6, 2) := by decide +kernel
theorem dL_law_1201 : decode cL_law 1201 = .ok (.aload_n 2, 1) := by decide +kernel
theorem dL_law_1202 : decode cL_law 1202 = .ok (.invokevirtual 102, 3) := by decide +kernel
theorem dL_law_1205 : decode cL_law 1205 = .ok (.iload 5, 2) := by decide +kernel
theorem dL_law_1207 : decode cL_law 1207 = .ok (.if_icmp .eq 5, 3) := by decide +kernel
theorem dL_law_1210 : decode cL_law 1210 = .ok (.iconst 0, 1) := by decide +kernel
theorem dL_law_1211 : decode cL_law 1211 = .ok (.ireturn, 1) := by decide +kernel
theorem dL_law_1212 : decode cL_law 1212 = .ok (.iload 5, 2) := by decide +kernel
theorem dL_law_1214 : decode cL_law 1214 = .ok (.ifCond .ne 22, 3) := by decide +kernel
theorem dL_law_1217 : decode cL_law 1217 = .ok (.aload_n 3, 1) := by decide +kernel
theorem dL_law_1218 : decode cL_law 1218 = .ok (.iconst 0, 1) := by decide +kernel
theorem dL_law_1219 : decode cL_law 1219 = .ok (.laload, 1) := by decide +kernel
theorem dL_law_1220 : decode cL_law 1220 = .ok (.iload 6, 2) := by decide +kernel
theorem dL_law_1222 : decode cL_law 1222 = .ok (.ifCond .eq 7, 3) := by decide +kernel
theorem dL_law_1225 : decode cL_law 1225 = .ok (.lconst 1, 1) := by decide +kernel
theorem dL_law_1226 : decode cL_law 1226 = .ok (.goto 4, 3) := by decide +kernel
theorem dL_law_1229 : decode cL_law 1229 = .ok (.lconst 0, 1) := by decide +kernel
theorem dL_law_1230 : decode cL_law 1230 = .ok (.lcmp, 1) := by decide +kernel
theorem dL_law_1231 : decode cL_law 1231 = .ok (.ifCond .eq 5, 3) := by decide +kernel
theorem dL_law_1234 : decode cL_law 1234 = .ok (.iconst 0, 1) := by decide +kernel
theorem dL_law_1235 : decode cL_law 1235 = .ok (.ireturn, 1) := by decide +kernel
theorem dL_law_1236 : decode cL_law 1236 = .ok (.goto 349, 3) := by decide +kernel
theorem dL_law_1239 : decode cL_law 1239 = .ok (.aload_n 1, 1) := by decide +kernel
theorem dL_law_1240 : decode cL_law 1240 = .ok (.aload_n 0, 1) := by decide +kernel
theorem dL_law_1241 : decode cL_law 1241 = .ok (.iload 4, 2) := by decide +kernel
theorem dL_law_1243 : decode cL_law 1243 = .ok (.iconst 1, 1) := by decide +kernel
theorem dL_law_1244 : decode cL_law 1244 = .ok (.iadd, 1) := by decide +kernel
theorem dL_law_1245 : decode cL_law 1245 = .ok (.iaload, 1) := by decide +kernel
theorem dL_law_1246 : decode cL_law 1246 = .ok (.aload_n 3, 1) := by decide +kernel
theorem dL_law_1247 : decode cL_law 1247 = .ok (.invokestatic 174, 3) := by decide +kernel
theorem dL_law_1250 : decode cL_law 1250 = .ok (.istore 5, 2) := by decide +kernel
theorem dL_law_1252 : decode cL_law 1252 = .ok (.aload_n 2, 1) := by decide +kernel
theorem dL_law_1253 : decode cL_law 1253 = .ok (.aload_n 0, 1) := by decide +kernel
theorem dL_law_1254 : decode cL_law 1254 = .ok (.iload 4, 2) := by decide +kernel
theorem dL_law_1256 : decode cL_law 1256 = .ok (.iconst 1, 1) := by decide +kernel
theorem dL_law_1257 : decode cL_law 1257 = .ok (.iadd, 1) := by decide +kernel
theorem dL_law_1258 : decode cL_law 1258 = .ok (.iaload, 1) := by decide +kernel
theorem dL_law_1259 : decode cL_law 1259 = .ok (.invokevirtual 176, 3) := by decide +kernel
theorem dL_law_1262 : decode cL_law 1262 = .ok (.istore 6, 2) := by decide +kernel
theorem dL_law_1264 : decode cL_law 1264 = .ok (.aload_n 2, 1) := by decide +kernel
theorem dL_law_1265 : decode cL_law 1265 = .ok (.invokevirtual 102, 3) := by decide +kernel
theorem dL_law_1268 : decode cL_law 1268 = .ok (.iload 5, 2) := by decide +kernel
theorem dL_law_1270 : decode cL_law 1270 = .ok (.if_icmp .eq 5, 3) := by decide +kernel
theorem dL_law_1273 : decode cL_law 1273 = .ok (.iconst 0, 1) := by decide +kernel
theorem dL_law_1274 : decode cL_law 1274 = .ok (.ireturn, 1) := by decide +kernel
theorem dL_law_1275 : decode cL_law 1275 = .ok (.iload 5, 2) := by decide +kernel
theorem dL_law_1277 : decode cL_law 1277 = .ok (.ifCond .ne 15, 3) := by decide +kernel
theorem dL_law_1280 : decode cL_law 1280 = .ok (.aload_n 3, 1) := by decide +kernel
theorem dL_law_1281 : decode cL_law 1281 = .ok (.iconst 0, 1) := by decide +kernel
theorem dL_law_1282 : decode cL_law 1282 = .ok (.laload, 1) := by decide +kernel
theorem dL_law_1283 : decode cL_law 1283 = .ok (.iload 6, 2) := by decide +kernel
theorem dL_law_1285 : decode cL_law 1285 = .ok (.i2l, 1) := by decide +kernel
theorem dL_law_1286 : decode cL_law 1286 = .ok (.lcmp, 1) := by decide +kernel
theorem dL_law_1287 : decode cL_law 1287 = .ok (.ifCond .eq 5, 3) := by decide +kernel
theorem dL_law_1290 : decode cL_law 1290 = .ok (.iconst 0, 1) := by decide +kernel
theorem dL_law_1291 : decode cL_law 1291 = .ok (.ireturn, 1) := by decide +kernel
theorem dL_law_1292 : decode cL_law 1292 = .ok (.goto 293, 3) := by decide +kernel
theorem dL_law_1295 : decode cL_law 1295 = .ok (.aload_n 1, 1) := by decide +kernel
theorem dL_law_1296 : decode cL_law 1296 = .ok (.aload_n 0, 1) := by decide +kernel
theorem dL_law_1297 : decode cL_law 1297 = .ok (.iload 4, 2) := by decide +kernel
theorem dL_law_1299 : decode cL_law 1299 = .ok (.iconst 1, 1) := by decide +kernel
theorem dL_law_1300 : decode cL_law 1300 = .ok (.iadd, 1) := by decide +kernel
theorem dL_law_1301 : decode cL_law 1301 = .ok (.iaload, 1) := by decide +kernel
theorem dL_law_1302 : decode cL_law 1302 = .ok (.aload_n 3, 1) := by decide +kernel
theorem dL_law_1303 : decode cL_law 1303 = .ok (.invokestatic 177, 3) := by decide +kernel
theorem dL_law_1306 : decode cL_law 1306 = .ok (.istore 5, 2) := by decide +kernel
theorem dL_law_1308 : decode cL_law 1308 = .ok (.aload_n 2, 1) := by decide +kernel
theorem dL_law_1309 : decode cL_law 1309 = .ok (.aload_n 0, 1) := by decide +kernel
theorem dL_law_1310 : decode cL_law 1310 = .ok (.iload 4, 2) := by decide +kernel
theorem dL_law_1312 : decode cL_law 1312 = .ok (.iconst 1, 1) := by decide +kernel
theorem dL_law_1313 : decode cL_law 1313 = .ok (.iadd, 1) := by decide +kernel
theorem dL_law_1314 : decode cL_law 1314 = .ok (.iaload, 1) := by decide +kernel
theorem dL_law_1315 : decode cL_law 1315 = .ok (.invokevirtual 179, 3) := by decide +kernel
theorem dL_law_1318 : decode cL_law 1318 = .ok (.lstore 6, 2) := by decide +kernel
theorem dL_law_1320 : decode cL_law 1320 = .ok (.aload_n 2, 1) := by decide +kernel
theorem dL_law_1321 : decode cL_law 1321 = .ok (.invokevirtual 102, 3) := by decide +kernel
theorem dL_law_1324 : decode cL_law 1324 = .ok (.iload 5, 2) := by decide +kernel
theorem dL_law_1326 : decode cL_law 1326 = .ok (.if_icmp .eq 5, 3) := by decide +kernel
theorem dL_law_1329 : decode cL_law 1329 = .ok (.iconst 0, 1) := by decide +kernel
theorem dL_law_1330 : decode cL_law 1330 = .ok (.ireturn, 1) := by decide +kernel
theorem dL_law_1331 : decode cL_law 1331 = .ok (.iload 5, 2) := by decide +kernel
theorem dL_law_1333 : decode cL_law 1333 = .ok (.ifCond .ne 14, 3) := by decide +kernel
theorem dL_law_1336 : decode cL_law 1336 = .ok (.aload_n 3, 1) := by decide +kernel
theorem dL_law_1337 : decode cL_law 1337 = .ok (.iconst 0, 1) := by decide +kernel
theorem dL_law_1338 : decode cL_law 1338 = .ok (.laload, 1) := by decide +kernel
theorem dL_law_1339 : decode cL_law 1339 = .ok (.lload 6, 2) := by decide +kernel
theorem dL_law_1341 : decode cL_law 1341 = .ok (.lcmp, 1) := by decide +kernel
theorem dL_law_1342 : decode cL_law 1342 = .ok (.ifCond .eq 5, 3) := by decide +kernel
theorem dL_law_1345 : decode cL_law 1345 = .ok (.iconst 0, 1) := by decide +kernel
theorem dL_law_1346 : decode cL_law 1346 = .ok (.ireturn, 1) := by decide +kernel
theorem dL_law_1347 : decode cL_law 1347 = .ok (.goto 238, 3) := by decide +kernel
theorem dL_law_1350 : decode cL_law 1350 = .ok (.aload_n 1, 1) := by decide +kernel
theorem dL_law_1351 : decode cL_law 1351 = .ok (.aload_n 0, 1) := by decide +kernel
theorem dL_law_1352 : decode cL_law 1352 = .ok (.iload 4, 2) := by decide +kernel
theorem dL_law_1354 : decode cL_law 1354 = .ok (.iconst 1, 1) := by decide +kernel
theorem dL_law_1355 : decode cL_law 1355 = .ok (.iadd, 1) := by decide +kernel
theorem dL_law_1356 : decode cL_law 1356 = .ok (.iaload, 1) := by decide +kernel
theorem dL_law_1357 : decode cL_law 1357 = .ok (.aload_n 0, 1) := by decide +kernel
theorem dL_law_1358 : decode cL_law 1358 = .ok (.iload 4, 2) := by decide +kernel
theorem dL_law_1360 : decode cL_law 1360 = .ok (.iconst 2, 1) := by decide +kernel
theorem dL_law_1361 : decode cL_law 1361 = .ok (.iadd, 1) := by decide +kernel
theorem dL_law_1362 : decode cL_law 1362 = .ok (.iaload, 1) := by decide +kernel
theorem dL_law_1363 : decode cL_law 1363 = .ok (.aload_n 3, 1) := by decide +kernel
theorem dL_law_1364 : decode cL_law 1364 = .ok (.invokestatic 180, 3) := by decide +kernel
theorem dL_law_1367 : decode cL_law 1367 = .ok (.istore 5, 2) := by decide +kernel
theorem dL_law_1369 : decode cL_law 1369 = .ok (.aload_n 2, 1) := by decide +kernel
theorem dL_law_1370 : decode cL_law 1370 = .ok (.aload_n 0, 1) := by decide +kernel
theorem dL_law_1371 : decode cL_law 1371 = .ok (.iload 4, 2) := by decide +kernel
theorem dL_law_1373 : decode cL_law 1373 = .ok (.iconst 1, 1) := by decide +kernel
theorem dL_law_1374 : decode cL_law 1374 = .ok (.iadd, 1) := by decide +kernel
theorem dL_law_1375 : decode cL_law 1375 = .ok (.iaload, 1) := by decide +kernel
theorem dL_law_1376 : decode cL_law 1376 = .ok (.aload_n 0, 1) := by decide +kernel
theorem dL_law_1377 : decode cL_law 1377 = .ok (.iload 4, 2) := by decide +kernel
theorem dL_law_1379 : decode cL_law 1379 = .ok (.iconst 2, 1) := by decide +kernel
theorem dL_law_1380 : decode cL_law 1380 = .ok (.iadd, 1) := by decide +kernel
theorem dL_law_1381 : decode cL_law 1381 = .ok (.iaload, 1) := by decide +kernel
theorem dL_law_1382 : decode cL_law 1382 = .ok (.invokevirtual 182, 3) := by decide +kernel
theorem dL_law_1385 : decode cL_law 1385 = .ok (.istore 6, 2) := by decide +kernel
theorem dL_law_1387 : decode cL_law 1387 = .ok (.aload_n 2, 1) := by decide +kernel
theorem dL_law_1388 : decode cL_law 1388 = .ok (.invokevirtual 102, 3) := by decide +kernel
theorem dL_law_1391 : decode cL_law 1391 = .ok (.iload 5, 2) := by decide +kernel
theorem dL_law_1393 : decode cL_law 1393 = .ok (.if_icmp .eq 5, 3) := by decide +kernel
theorem dL_law_1396 : decode cL_law 1396 = .ok (.iconst 0, 1) := by decide +kernel
theorem dL_law_1397 : decode cL_law 1397 = .ok (.ireturn, 1) := by decide +kernel
theorem dL_law_1398 : decode cL_law 1398 = .ok (.iload 5, 2) := by decide +kernel
theorem dL_law_1400 : decode cL_law 1400 = .ok (.ifCond .ne 15, 3) := by decide +kernel
theorem dL_law_1403 : decode cL_law 1403 = .ok (.aload_n 3, 1) := by decide +kernel
theorem dL_law_1404 : decode cL_law 1404 = .ok (.iconst 0, 1) := by decide +kernel
theorem dL_law_1405 : decode cL_law 1405 = .ok (.laload, 1) := by decide +kernel
theorem dL_law_1406 : decode cL_law 1406 = .ok (.iload 6, 2) := by decide +kernel
theorem dL_law_1408 : decode cL_law 1408 = .ok (.i2l, 1) := by decide +kernel
theorem dL_law_1409 : decode cL_law 1409 = .ok (.lcmp, 1) := by decide +kernel
theorem dL_law_1410 : decode cL_law 1410 = .ok (.ifCond .eq 5, 3) := by decide +kernel
theorem dL_law_1413 : decode cL_law 1413 = .ok (.iconst 0, 1) := by decide +kernel
theorem dL_law_1414 : decode cL_law 1414 = .ok (.ireturn, 1) := by decide +kernel
theorem dL_law_1415 : decode cL_law 1415 = .ok (.goto 170, 3) := by decide +kernel
theorem dL_law_1418 : decode cL_law 1418 = .ok (.aload_n 1, 1) := by decide +kernel
theorem dL_law_1419 : decode cL_law 1419 = .ok (.aload_n 0, 1) := by decide +kernel
theorem dL_law_1420 : decode cL_law 1420 = .ok (.iload 4, 2) := by decide +kernel
theorem dL_law_1422 : decode cL_law 1422 = .ok (.iconst 1, 1) := by decide +kernel
theorem dL_law_1423 : decode cL_law 1423 = .ok (.iadd, 1) := by decide +kernel
theorem dL_law_1424 : decode cL_law 1424 = .ok (.iaload, 1) := by decide +kernel
theorem dL_law_1425 : decode cL_law 1425 = .ok (.aload_n 3, 1) := by decide +kernel
theorem dL_law_1426 : decode cL_law 1426 = .ok (.invokestatic 183, 3) := by decide +kernel
theorem dL_law_1429 : decode cL_law 1429 = .ok (.istore 5, 2) := by decide +kernel
theorem dL_law_1431 : decode cL_law 1431 = .ok (.aload_n 2, 1) := by decide +kernel
theorem dL_law_1432 : decode cL_law 1432 = .ok (.aload_n 0, 1) := by decide +kernel
theorem dL_law_1433 : decode cL_law 1433 = .ok (.iload 4, 2) := by decide +kernel
theorem dL_law_1435 : decode cL_law 1435 = .ok (.iconst 1, 1) := by decide +kernel
theorem dL_law_1436 : decode cL_law 1436 = .ok (.iadd, 1) := by decide +kernel
theorem dL_law_1437 : decode cL_law 1437 = .ok (.iaload, 1) := by decide +kernel
theorem dL_law_1438 : decode cL_law 1438 = .ok (.invokevirtual 185, 3) := by decide +kernel
theorem dL_law_1441 : decode cL_law 1441 = .ok (.lstore 6, 2) := by decide +kernel
theorem dL_law_1443 : decode cL_law 1443 = .ok (.aload_n 2, 1) := by decide +kernel
theorem dL_law_1444 : decode cL_law 1444 = .ok (.invokevirtual 102, 3) := by decide +kernel
theorem dL_law_1447 : decode cL_law 1447 = .ok (.iload 5, 2) := by decide +kernel
theorem dL_law_1449 : decode cL_law 1449 = .ok (.if_icmp .eq 5, 3) := by decide +kernel
theorem dL_law_1452 : decode cL_law 1452 = .ok (.iconst 0, 1) := by decide +kernel
theorem dL_law_1453 : decode cL_law 1453 = .ok (.ireturn, 1) := by decide +kernel
theorem dL_law_1454 : decode cL_law 1454 = .ok (.iload 5, 2) := by decide +kernel
theorem dL_law_1456 : decode cL_law 1456 = .ok (.ifCond .ne 14, 3) := by decide +kernel
theorem dL_law_1459 : decode cL_law 1459 = .ok (.aload_n 3, 1) := by decide +kernel
theorem dL_law_1460 : decode cL_law 1460 = .ok (.iconst 0, 1) := by decide +kernel
theorem dL_law_1461 : decode cL_law 1461 = .ok (.laload, 1) := by decide +kernel
theorem dL_law_1462 : decode cL_law 1462 = .ok (.lload 6, 2) := by decide +kernel
theorem dL_law_1464 : decode cL_law 1464 = .ok (.lcmp, 1) := by decide +kernel
theorem dL_law_1465 : decode cL_law 1465 = .ok (.ifCond .eq 5, 3) := by decide +kernel
theorem dL_law_1468 : decode cL_law 1468 = .ok (.iconst 0, 1) := by decide +kernel
theorem dL_law_1469 : decode cL_law 1469 = .ok (.ireturn, 1) := by decide +kernel
theorem dL_law_1470 : decode cL_law 1470 = .ok (.goto 115, 3) := by decide +kernel
theorem dL_law_1473 : decode cL_law 1473 = .ok (.aload_n 1, 1) := by decide +kernel
theorem dL_law_1474 : decode cL_law 1474 = .ok (.aload_n 0, 1) := by decide +kernel
theorem dL_law_1475 : decode cL_law 1475 = .ok (.iload 4, 2) := by decide +kernel
theorem dL_law_1477 : decode cL_law 1477 = .ok (.iconst 1, 1) := by decide +kernel
theorem dL_law_1478 : decode cL_law 1478 = .ok (.iadd, 1) := by decide +kernel
theorem dL_law_1479 : decode cL_law 1479 = .ok (.iaload, 1) := by decide +kernel
theorem dL_law_1480 : decode cL_law 1480 = .ok (.aload_n 3, 1) := by decide +kernel
theorem dL_law_1481 : decode cL_law 1481 = .ok (.invokestatic 186, 3) := by decide +kernel
theorem dL_law_1484 : decode cL_law 1484 = .ok (.istore 5, 2) := by decide +kernel
theorem dL_law_1486 : decode cL_law 1486 = .ok (.aload_n 2, 1) := by decide +kernel
theorem dL_law_1487 : decode cL_law 1487 = .ok (.aload_n 0, 1) := by decide +kernel
theorem dL_law_1488 : decode cL_law 1488 = .ok (.iload 4, 2) := by decide +kernel
theorem dL_law_1490 : decode cL_law 1490 = .ok (.iconst 1, 1) := by decide +kernel
theorem dL_law_1491 : decode cL_law 1491 = .ok (.iadd, 1) := by decide +kernel
theorem dL_law_1492 : decode cL_law 1492 = .ok (.iaload, 1) := by decide +kernel
theorem dL_law_1493 : decode cL_law 1493 = .ok (.invokevirtual 188, 3) := by decide +kernel
theorem dL_law_1496 : decode cL_law 1496 = .ok (.istore 6, 2) := by decide +kernel
theorem dL_law_1498 : decode cL_law 1498 = .ok (.aload_n 2, 1) := by decide +kernel
theorem dL_law_1499 : decode cL_law 1499 = .ok (.invokevirtual 102, 3) := by decide +kernel
theorem dL_law_1502 : decode cL_law 1502 = .ok (.iload 5, 2) := by decide +kernel
theorem dL_law_1504 : decode cL_law 1504 = .ok (.if_icmp .eq 5, 3) := by decide +kernel
theorem dL_law_1507 : decode cL_law 1507 = .ok (.iconst 0, 1) := by decide +kernel
theorem dL_law_1508 : decode cL_law 1508 = .ok (.ireturn, 1) := by decide +kernel
theorem dL_law_1509 : decode cL_law 1509 = .ok (.iload 5, 2) := by decide +kernel
theorem dL_law_1511 : decode cL_law 1511 = .ok (.ifCond .ne 15, 3) := by decide +kernel
theorem dL_law_1514 : decode cL_law 1514 = .ok (.aload_n 3, 1) := by decide +kernel
theorem dL_law_1515 : decode cL_law 1515 = .ok (.iconst 0, 1) := by decide +kernel
theorem dL_law_1516 : decode cL_law 1516 = .ok (.laload, 1) := by decide +kernel
theorem dL_law_1517 : decode cL_law 1517 = .ok (.iload 6, 2) := by decide +kernel
theorem dL_law_1519 : decode cL_law 1519 = .ok (.i2l, 1) := by decide +kernel
theorem dL_law_1520 : decode cL_law 1520 = .ok (.lcmp, 1) := by decide +kernel
theorem dL_law_1521 : decode cL_law 1521 = .ok (.ifCond .eq 5, 3) := by decide +kernel
theorem dL_law_1524 : decode cL_law 1524 = .ok (.iconst 0, 1) := by decide +kernel
theorem dL_law_1525 : decode cL_law 1525 = .ok (.ireturn, 1) := by decide +kernel
theorem dL_law_1526 : decode cL_law 1526 = .ok (.goto 59, 3) := by decide +kernel
theorem dL_law_1529 : decode cL_law 1529 = .ok (.aload_n 1, 1) := by decide +kernel
theorem dL_law_1530 : decode cL_law 1530 = .ok (.aload_n 0, 1) := by decide +kernel
theorem dL_law_1531 : decode cL_law 1531 = .ok (.iload 4, 2) := by decide +kernel
theorem dL_law_1533 : decode cL_law 1533 = .ok (.iconst 1, 1) := by decide +kernel
theorem dL_law_1534 : decode cL_law 1534 = .ok (.iadd, 1) := by decide +kernel
theorem dL_law_1535 : decode cL_law 1535 = .ok (.iaload, 1) := by decide +kernel
theorem dL_law_1536 : decode cL_law 1536 = .ok (.aload_n 3, 1) := by decide +kernel
theorem dL_law_1537 : decode cL_law 1537 = .ok (.invokestatic 189, 3) := by decide +kernel
theorem dL_law_1540 : decode cL_law 1540 = .ok (.istore 5, 2) := by decide +kernel
theorem dL_law_1542 : decode cL_law 1542 = .ok (.aload_n 2, 1) := by decide +kernel
theorem dL_law_1543 : decode cL_law 1543 = .ok (.aload_n 0, 1) := by decide +kernel
theorem dL_law_1544 : decode cL_law 1544 = .ok (.iload 4, 2) := by decide +kernel
theorem dL_law_1546 : decode cL_law 1546 = .ok (.iconst 1, 1) := by decide +kernel
theorem dL_law_1547 : decode cL_law 1547 = .ok (.iadd, 1) := by decide +kernel
theorem dL_law_1548 : decode cL_law 1548 = .ok (.iaload, 1) := by decide +kernel
theorem dL_law_1549 : decode cL_law 1549 = .ok (.invokevirtual 191, 3) := by decide +kernel
theorem dL_law_1552 : decode cL_law 1552 = .ok (.istore 6, 2) := by decide +kernel
theorem dL_law_1554 : decode cL_law 1554 = .ok (.aload_n 2, 1) := by decide +kernel
theorem dL_law_1555 : decode cL_law 1555 = .ok (.invokevirtual 102, 3) := by decide +kernel
theorem dL_law_1558 : decode cL_law 1558 = .ok (.iload 5, 2) := by decide +kernel
theorem dL_law_1560 : decode cL_law 1560 = .ok (.if_icmp .eq 5, 3) := by decide +kernel
theorem dL_law_1563 : decode cL_law 1563 = .ok (.iconst 0, 1) := by decide +kernel
theorem dL_law_1564 : decode cL_law 1564 = .ok (.ireturn, 1) := by decide +kernel
theorem dL_law_1565 : decode cL_law 1565 = .ok (.iload 5, 2) := by decide +kernel
theorem dL_law_1567 : decode cL_law 1567 = .ok (.ifCond .ne 15, 3) := by decide +kernel
theorem dL_law_1570 : decode cL_law 1570 = .ok (.aload_n 3, 1) := by decide +kernel
theorem dL_law_1571 : decode cL_law 1571 = .ok (.iconst 0, 1) := by decide +kernel
theorem dL_law_1572 : decode cL_law 1572 = .ok (.laload, 1) := by decide +kernel
theorem dL_law_1573 : decode cL_law 1573 = .ok (.iload 6, 2) := by decide +kernel
theorem dL_law_1575 : decode cL_law 1575 = .ok (.i2l, 1) := by decide +kernel
theorem dL_law_1576 : decode cL_law 1576 = .ok (.lcmp, 1) := by decide +kernel
theorem dL_law_1577 : decode cL_law 1577 = .ok (.ifCond .eq 5, 3) := by decide +kernel
theorem dL_law_1580 : decode cL_law 1580 = .ok (.iconst 0, 1) := by decide +kernel
theorem dL_law_1581 : decode cL_law 1581 = .ok (.ireturn, 1) := by decide +kernel
theorem dL_law_1582 : decode cL_law 1582 = .ok (.goto 3, 3) := by decide +kernel
theorem dL_law_1585 : decode cL_law 1585 = .ok (.iinc 4 4, 3) := by decide +kernel
theorem dL_law_1588 : decode cL_law 1588 = .ok (.goto (-1565), 3) := by decide +kernel
theorem dL_law_1591 : decode cL_law 1591 = .ok (.iconst 1, 1) := by decide +kernel
theorem dL_law_1592 : decode cL_law 1592 = .ok (.ireturn, 1) := by decide +kernel
abbrev vwCl : List vw_C := [(RX0, TX0, 5), (RX1, TX1, 15), (RX2, TX2, 16)]
end
section
/-! ===== the V layer: a state of a frame as a place, a list of locals, a stack and a world ===== -/
section VLAY
variable {p : Program} {l : Launch} {e : Env} {R : Room} {s : State} {m : MethodId} {args : Array Value} {below : List Frame} {meth : Method} {c : Code} {cells slots : Nat} {Q : State → Prop} {Ph : va_W → Heap → List Loc → Prop} {nL : Nat}
variable {D : va_G} {tys : List (ClassId × FieldType)} {cc : ByteArray} {Ts : List Cond} {own : String}
variable {pc : Nat} {lv : List (Nat × Value)} {st : List Value} {w : va_W}
def V (p : Program) (l : Launch) (e : Env) (R : Room) (s : State) (m : MethodId) (args : Array Value) (below : List Frame) (meth : Method) (c : Code) (cells slots : Nat) (Q : State → Prop) (Ph : va_W → Heap → List Loc → Prop) (nL : Nat) (pc : Nat) (lv : List (Nat × Value)) (st : List Value) (w : va_W) : Prop :=
  ∀ (H : Heap) (locs : List Loc) (ls : Array Slot), Ph w H locs → lv_has ls nL lv → W p l e R s m args below meth c H locs cells slots Q (F0 m pc ls st)
abbrev v_E (p : Program) (s : State) (m : MethodId) (args : Array Value) (meth : Method) (c : Code) (D : va_G) (tys : List (ClassId × FieldType)) (cc : ByteArray) (nL : Nat) (Ts : List Cond) (own : String) (Ph : va_W → Heap → List Loc → Prop) : Prop :=
  p.tables.exec = Jvm.exec ∧ c.code = cc ∧ c.maxLocals = nL ∧ (∀ w ∈ Ts, w.before args s = true) ∧ s.vm.findClass own = some m.cls ∧ va_K D vwCl tys s ∧ meth.locks = false ∧ ∀ (w : va_W) (H : Heap) (locs : List Loc), Ph w H locs → va_P D vwCl w H
/-- a reader's heap: the start's own -/
def v_ro (D : va_G) (s : State) : va_W → Heap → List Loc → Prop := fun w H locs => va_P D vwCl w H ∧ H = s.heap ∧ locs = []
/-- a writer's heap -/
def v_rw (D : va_G) (A : Nat → Prop) (s : State) : va_W → Heap → List Loc → Prop := fun w H locs => va_P D vwCl w H ∧ va_D A w ∧ va_S A s.heap H locs
theorem v_iconst (E : v_E p s m args meth c D tys cc nL Ts own Ph) {n : Int} {v : Int32} (hdg : decode cc pc = .ok (.iconst n, 1)) (hv : Int32.ofInt n = v) (k : V p l e R s m args below meth c cells slots Q Ph nL (pc + 1) lv (.int v :: st) w) : V p l e R s m args below meth c cells slots Q Ph nL pc lv st w :=
  fun H locs ls hP hl => lv_iconst E.1 E.2.1 hdg hv (k H locs ls hP hl)
theorem v_bipush (E : v_E p s m args meth c D tys cc nL Ts own Ph) {n : Int} {v : Int32} (hdg : decode cc pc = .ok (.bipush n, 2)) (hv : (Int8.ofInt n).toInt32 = v) (k : V p l e R s m args below meth c cells slots Q Ph nL (pc + 2) lv (.int v :: st) w) : V p l e R s m args below meth c cells slots Q Ph nL pc lv st w :=
  fun H locs ls hP hl => lv_bipush E.1 E.2.1 hdg hv (k H locs ls hP hl)
theorem v_sipush (E : v_E p s m args meth c D tys cc nL Ts own Ph) {n : Int} {v : Int32} (hdg : decode cc pc = .ok (.sipush n, 3)) (hv : (Int16.ofInt n).toInt32 = v) (k : V p l e R s m args below meth c cells slots Q Ph nL (pc + 3) lv (.int v :: st) w) : V p l e R s m args below meth c cells slots Q Ph nL pc lv st w :=
  fun H locs ls hP hl => lv_sipush E.1 E.2.1 hdg hv (k H locs ls hP hl)
theorem v_lconst (E : v_E p s m args meth c D tys cc nL Ts own Ph) {n : Fin 2} {v : Int64} (hdg : decode cc pc = .ok (.lconst n, 1)) (hv : Int64.ofNat (n : Nat) = v) (k : V p l e R s m args below meth c cells slots Q Ph nL (pc + 1) lv (.long v :: st) w) : V p l e R s m args below meth c cells slots Q Ph nL pc lv st w :=
  fun H locs ls hP hl => lv_lconst E.1 E.2.1 hdg hv (k H locs ls hP hl)
theorem v_ldc (E : v_E p s m args meth c D tys cc nL Ts own Ph) {index : Nat} {v x : Int32} (hdg : decode cc pc = .ok (.ldc index, 2)) (hc : Jvm.Cond.constant own index v ∈ Ts) (hv : v = x) (k : V p l e R s m args below meth c cells slots Q Ph nL (pc + 2) lv (.int x :: st) w) : V p l e R s m args below meth c cells slots Q Ph nL pc lv st w :=
  fun H locs ls hP hl => by subst hv; exact lv_ldc E.1 E.2.1 E.2.2.2.2.1 (E.2.2.2.1 _ hc) hdg (k H locs ls hP hl)
theorem v_ldc2 (E : v_E p s m args meth c D tys cc nL Ts own Ph) {index : Nat} {v x : Int64} (hdg : decode cc pc = .ok (.ldc2_w index, 3)) (hc : Jvm.Cond.constantLong own index v ∈ Ts) (hv : v = x) (k : V p l e R s m args below meth c cells slots Q Ph nL (pc + 3) lv (.long x :: st) w) : V p l e R s m args below meth c cells slots Q Ph nL pc lv st w :=
  fun H locs ls hP hl => by subst hv; exact lv_ldc2 E.1 E.2.1 E.2.2.2.2.1 (E.2.2.2.1 _ hc) hdg (k H locs ls hP hl)
theorem v_iload_n (E : v_E p s m args meth c D tys cc nL Ts own Ph) {j : Fin 4} {i : Nat} {x : Int32} (hdg : decode cc pc = .ok (.iload_n j, 1)) (q : Nat) (hi : (j : Nat) = i) (hk : lv[q]? = some (i, .int x)) (k : V p l e R s m args below meth c cells slots Q Ph nL (pc + 1) lv (.int x :: st) w) : V p l e R s m args below meth c cells slots Q Ph nL pc lv st w :=
  fun H locs ls hP hl => lv_iload_n E.1 E.2.1 hdg hi (lv_at hl q hk) (k H locs ls hP hl)
theorem v_iload (E : v_E p s m args meth c D tys cc nL Ts own Ph) {i : Nat} {x : Int32} (hdg : decode cc pc = .ok (.iload i, 2)) (q : Nat) (hk : lv[q]? = some (i, .int x)) (k : V p l e R s m args below meth c cells slots Q Ph nL (pc + 2) lv (.int x :: st) w) : V p l e R s m args below meth c cells slots Q Ph nL pc lv st w :=
  fun H locs ls hP hl => lv_iload E.1 E.2.1 hdg (lv_at hl q hk) (k H locs ls hP hl)
theorem v_lload_n (E : v_E p s m args meth c D tys cc nL Ts own Ph) {j : Fin 4} {i : Nat} {x : Int64} (hdg : decode cc pc = .ok (.lload_n j, 1)) (q : Nat) (hi : (j : Nat) = i) (hk : lv[q]? = some (i, .long x)) (k : V p l e R s m args below meth c cells slots Q Ph nL (pc + 1) lv (.long x :: st) w) : V p l e R s m args below meth c cells slots Q Ph nL pc lv st w :=
  fun H locs ls hP hl => lv_lload_n E.1 E.2.1 hdg hi (lv_at hl q hk) (k H locs ls hP hl)
theorem v_lload (E : v_E p s m args meth c D tys cc nL Ts own Ph) {i : Nat} {x : Int64} (hdg : decode cc pc = .ok (.lload i, 2)) (q : Nat) (hk : lv[q]? = some (i, .long x)) (k : V p l e R s m args below meth c cells slots Q Ph nL (pc + 2) lv (.long x :: st) w) : V p l e R s m args below meth c cells slots Q Ph nL pc lv st w :=
  fun H locs ls hP hl => lv_lload E.1 E.2.1 hdg (lv_at hl q hk) (k H locs ls hP hl)
theorem v_aload_n (E : v_E p s m args meth c D tys cc nL Ts own Ph) {j : Fin 4} {i : Nat} {x : Nat} (hdg : decode cc pc = .ok (.aload_n j, 1)) (q : Nat) (hi : (j : Nat) = i) (hk : lv[q]? = some (i, .ref x)) (k : V p l e R s m args below meth c cells slots Q Ph nL (pc + 1) lv (.ref x :: st) w) : V p l e R s m args below meth c cells slots Q Ph nL pc lv st w :=
  fun H locs ls hP hl => lv_aload_n E.1 E.2.1 hdg hi (lv_at hl q hk) (k H locs ls hP hl)
theorem v_aload (E : v_E p s m args meth c D tys cc nL Ts own Ph) {i : Nat} {x : Nat} (hdg : decode cc pc = .ok (.aload i, 2)) (q : Nat) (hk : lv[q]? = some (i, .ref x)) (k : V p l e R s m args below meth c cells slots Q Ph nL (pc + 2) lv (.ref x :: st) w) : V p l e R s m args below meth c cells slots Q Ph nL pc lv st w :=
  fun H locs ls hP hl => lv_aload E.1 E.2.1 hdg (lv_at hl q hk) (k H locs ls hP hl)
theorem v_istore_n (E : v_E p s m args meth c D tys cc nL Ts own Ph) {j : Fin 4} {i : Nat} {x : Int32} {lv' : List (Nat × Value)} (hdg : decode cc pc = .ok (.istore_n j, 1)) (hi : (j : Nat) = i) (hn : i < nL) (hf : (i, Value.int x) :: lv.filter (fun q => !(q.1 == i) && !(q.1 + 1 == i && q.2.category == 2)) = lv') (k : V p l e R s m args below meth c cells slots Q Ph nL (pc + 1) lv' st w) : V p l e R s m args below meth c cells slots Q Ph nL pc lv (.int x :: st) w :=
  fun H locs ls hP hl => lv_istore_n E.1 E.2.1 hdg hi hl hn hf (fun ls' hl' => k H locs ls' hP hl')
theorem v_istore (E : v_E p s m args meth c D tys cc nL Ts own Ph) {i : Nat} {x : Int32} {lv' : List (Nat × Value)} (hdg : decode cc pc = .ok (.istore i, 2)) (hn : i < nL) (hf : (i, Value.int x) :: lv.filter (fun q => !(q.1 == i) && !(q.1 + 1 == i && q.2.category == 2)) = lv') (k : V p l e R s m args below meth c cells slots Q Ph nL (pc + 2) lv' st w) : V p l e R s m args below meth c cells slots Q Ph nL pc lv (.int x :: st) w :=
  fun H locs ls hP hl => lv_istore E.1 E.2.1 hdg hl hn hf (fun ls' hl' => k H locs ls' hP hl')
theorem v_astore_n (E : v_E p s m args meth c D tys cc nL Ts own Ph) {j : Fin 4} {i : Nat} {x : Nat} {lv' : List (Nat × Value)} (hdg : decode cc pc = .ok (.astore_n j, 1)) (hi : (j : Nat) = i) (hn : i < nL) (hf : (i, Value.ref x) :: lv.filter (fun q => !(q.1 == i) && !(q.1 + 1 == i && q.2.category == 2)) = lv') (k : V p l e R s m args below meth c cells slots Q Ph nL (pc + 1) lv' st w) : V p l e R s m args below meth c cells slots Q Ph nL pc lv (.ref x :: st) w :=
  fun H locs ls hP hl => lv_astore_n E.1 E.2.1 hdg hi hl hn hf (fun ls' hl' => k H locs ls' hP hl')
theorem v_astore (E : v_E p s m args meth c D tys cc nL Ts own Ph) {i : Nat} {x : Nat} {lv' : List (Nat × Value)} (hdg : decode cc pc = .ok (.astore i, 2)) (hn : i < nL) (hf : (i, Value.ref x) :: lv.filter (fun q => !(q.1 == i) && !(q.1 + 1 == i && q.2.category == 2)) = lv') (k : V p l e R s m args below meth c cells slots Q Ph nL (pc + 2) lv' st w) : V p l e R s m args below meth c cells slots Q Ph nL pc lv (.ref x :: st) w :=
  fun H locs ls hP hl => lv_astore E.1 E.2.1 hdg hl hn hf (fun ls' hl' => k H locs ls' hP hl')
theorem v_lstore_n (E : v_E p s m args meth c D tys cc nL Ts own Ph) {j : Fin 4} {i : Nat} {x : Int64} {lv' : List (Nat × Value)} (hdg : decode cc pc = .ok (.lstore_n j, 1)) (hi : (j : Nat) = i) (hn : i + 1 < nL) (hf : (i, Value.long x) :: lv.filter (fun q => !(q.1 == i) && (!(q.1 == i + 1) && !(q.1 + 1 == i && q.2.category == 2))) = lv') (k : V p l e R s m args below meth c cells slots Q Ph nL (pc + 1) lv' st w) : V p l e R s m args below meth c cells slots Q Ph nL pc lv (.long x :: st) w :=
  fun H locs ls hP hl => lv_lstore_n E.1 E.2.1 hdg hi hl hn hf (fun ls' hl' => k H locs ls' hP hl')
theorem v_lstore (E : v_E p s m args meth c D tys cc nL Ts own Ph) {i : Nat} {x : Int64} {lv' : List (Nat × Value)} (hdg : decode cc pc = .ok (.lstore i, 2)) (hn : i + 1 < nL) (hf : (i, Value.long x) :: lv.filter (fun q => !(q.1 == i) && (!(q.1 == i + 1) && !(q.1 + 1 == i && q.2.category == 2))) = lv') (k : V p l e R s m args below meth c cells slots Q Ph nL (pc + 2) lv' st w) : V p l e R s m args below meth c cells slots Q Ph nL pc lv (.long x :: st) w :=
  fun H locs ls hP hl => lv_lstore E.1 E.2.1 hdg hl hn hf (fun ls' hl' => k H locs ls' hP hl')
theorem v_iinc (E : v_E p s m args meth c D tys cc nL Ts own Ph) {i : Nat} {n : Int} {x v : Int32} {lv' : List (Nat × Value)} (hdg : decode cc pc = .ok (.iinc i n, 3)) (q : Nat) (hk : lv[q]? = some (i, .int x)) (hv : x + Int32.ofInt n = v) (hn : i < nL) (hf : (i, Value.int v) :: lv.filter (fun q => !(q.1 == i) && !(q.1 + 1 == i && q.2.category == 2)) = lv') (k : V p l e R s m args below meth c cells slots Q Ph nL (pc + 3) lv' st w) : V p l e R s m args below meth c cells slots Q Ph nL pc lv st w :=
  fun H locs ls hP hl => lv_iinc E.1 E.2.1 hdg hl hk hv hn hf (fun ls' hl' => k H locs ls' hP hl')
theorem v_iadd (E : v_E p s m args meth c D tys cc nL Ts own Ph) {x y z : Int32} (hdg : decode cc pc = .ok (.iadd, 1)) (hz : x + y = z) (k : V p l e R s m args below meth c cells slots Q Ph nL (pc + 1) lv (.int z :: st) w) : V p l e R s m args below meth c cells slots Q Ph nL pc lv (.int y :: .int x :: st) w :=
  fun H locs ls hP hl => by subst hz; exact lv_iadd E.1 E.2.1 hdg (k H locs ls hP hl)
theorem v_isub (E : v_E p s m args meth c D tys cc nL Ts own Ph) {x y z : Int32} (hdg : decode cc pc = .ok (.isub, 1)) (hz : x - y = z) (k : V p l e R s m args below meth c cells slots Q Ph nL (pc + 1) lv (.int z :: st) w) : V p l e R s m args below meth c cells slots Q Ph nL pc lv (.int y :: .int x :: st) w :=
  fun H locs ls hP hl => by subst hz; exact lv_isub E.1 E.2.1 hdg (k H locs ls hP hl)
theorem v_imul (E : v_E p s m args meth c D tys cc nL Ts own Ph) {x y z : Int32} (hdg : decode cc pc = .ok (.imul, 1)) (hz : x * y = z) (k : V p l e R s m args below meth c cells slots Q Ph nL (pc + 1) lv (.int z :: st) w) : V p l e R s m args below meth c cells slots Q Ph nL pc lv (.int y :: .int x :: st) w :=
  fun H locs ls hP hl => by subst hz; exact lv_imul E.1 E.2.1 hdg (k H locs ls hP hl)
theorem v_iand (E : v_E p s m args meth c D tys cc nL Ts own Ph) {x y z : Int32} (hdg : decode cc pc = .ok (.iand, 1)) (hz : x &&& y = z) (k : V p l e R s m args below meth c cells slots Q Ph nL (pc + 1) lv (.int z :: st) w) : V p l e R s m args below meth c cells slots Q Ph nL pc lv (.int y :: .int x :: st) w :=
  fun H locs ls hP hl => by subst hz; exact lv_iand E.1 E.2.1 hdg (k H locs ls hP hl)
theorem v_ior (E : v_E p s m args meth c D tys cc nL Ts own Ph) {x y z : Int32} (hdg : decode cc pc = .ok (.ior, 1)) (hz : x ||| y = z) (k : V p l e R s m args below meth c cells slots Q Ph nL (pc + 1) lv (.int z :: st) w) : V p l e R s m args below meth c cells slots Q Ph nL pc lv (.int y :: .int x :: st) w :=
  fun H locs ls hP hl => by subst hz; exact lv_ior E.1 E.2.1 hdg (k H locs ls hP hl)
theorem v_ishl (E : v_E p s m args meth c D tys cc nL Ts own Ph) {x y z : Int32} (hdg : decode cc pc = .ok (.ishl, 1)) (hz : x <<< (y &&& 31) = z) (k : V p l e R s m args below meth c cells slots Q Ph nL (pc + 1) lv (.int z :: st) w) : V p l e R s m args below meth c cells slots Q Ph nL pc lv (.int y :: .int x :: st) w :=
  fun H locs ls hP hl => by subst hz; exact lv_ishl E.1 E.2.1 hdg (k H locs ls hP hl)
theorem v_ishr (E : v_E p s m args meth c D tys cc nL Ts own Ph) {x y z : Int32} (hdg : decode cc pc = .ok (.ishr, 1)) (hz : x >>> (y &&& 31) = z) (k : V p l e R s m args below meth c cells slots Q Ph nL (pc + 1) lv (.int z :: st) w) : V p l e R s m args below meth c cells slots Q Ph nL pc lv (.int y :: .int x :: st) w :=
  fun H locs ls hP hl => by subst hz; exact lv_ishr E.1 E.2.1 hdg (k H locs ls hP hl)
theorem v_idiv (E : v_E p s m args meth c D tys cc nL Ts own Ph) {x y z : Int32} (hdg : decode cc pc = .ok (.idiv, 1)) (hne : ¬ y = 0) (hz : x / y = z) (k : V p l e R s m args below meth c cells slots Q Ph nL (pc + 1) lv (.int z :: st) w) : V p l e R s m args below meth c cells slots Q Ph nL pc lv (.int y :: .int x :: st) w :=
  fun H locs ls hP hl => by subst hz; exact lv_idiv E.1 E.2.1 hdg hne (k H locs ls hP hl)
theorem v_land (E : v_E p s m args meth c D tys cc nL Ts own Ph) {x y z : Int64} (hdg : decode cc pc = .ok (.land, 1)) (hz : x &&& y = z) (k : V p l e R s m args below meth c cells slots Q Ph nL (pc + 1) lv (.long z :: st) w) : V p l e R s m args below meth c cells slots Q Ph nL pc lv (.long y :: .long x :: st) w :=
  fun H locs ls hP hl => by subst hz; exact lv_land E.1 E.2.1 hdg (k H locs ls hP hl)
theorem v_lor (E : v_E p s m args meth c D tys cc nL Ts own Ph) {x y z : Int64} (hdg : decode cc pc = .ok (.lor, 1)) (hz : x ||| y = z) (k : V p l e R s m args below meth c cells slots Q Ph nL (pc + 1) lv (.long z :: st) w) : V p l e R s m args below meth c cells slots Q Ph nL pc lv (.long y :: .long x :: st) w :=
  fun H locs ls hP hl => by subst hz; exact lv_lor E.1 E.2.1 hdg (k H locs ls hP hl)
theorem v_ladd (E : v_E p s m args meth c D tys cc nL Ts own Ph) {x y z : Int64} (hdg : decode cc pc = .ok (.ladd, 1)) (hz : x + y = z) (k : V p l e R s m args below meth c cells slots Q Ph nL (pc + 1) lv (.long z :: st) w) : V p l e R s m args below meth c cells slots Q Ph nL pc lv (.long y :: .long x :: st) w :=
  fun H locs ls hP hl => by subst hz; exact lv_ladd E.1 E.2.1 hdg (k H locs ls hP hl)
theorem v_lsub (E : v_E p s m args meth c D tys cc nL Ts own Ph) {x y z : Int64} (hdg : decode cc pc = .ok (.lsub, 1)) (hz : x - y = z) (k : V p l e R s m args below meth c cells slots Q Ph nL (pc + 1) lv (.long z :: st) w) : V p l e R s m args below meth c cells slots Q Ph nL pc lv (.long y :: .long x :: st) w :=
  fun H locs ls hP hl => by subst hz; exact lv_lsub E.1 E.2.1 hdg (k H locs ls hP hl)
theorem v_lshl (E : v_E p s m args meth c D tys cc nL Ts own Ph) {x z : Int64} {y : Int32} (hdg : decode cc pc = .ok (.lshl, 1)) (hz : x <<< (y.toInt64 &&& 63) = z) (k : V p l e R s m args below meth c cells slots Q Ph nL (pc + 1) lv (.long z :: st) w) : V p l e R s m args below meth c cells slots Q Ph nL pc lv (.int y :: .long x :: st) w :=
  fun H locs ls hP hl => lv_lshl E.1 E.2.1 hdg hz (k H locs ls hP hl)
theorem v_lshr (E : v_E p s m args meth c D tys cc nL Ts own Ph) {x z : Int64} {y : Int32} (hdg : decode cc pc = .ok (.lshr, 1)) (hz : x >>> (y.toInt64 &&& 63) = z) (k : V p l e R s m args below meth c cells slots Q Ph nL (pc + 1) lv (.long z :: st) w) : V p l e R s m args below meth c cells slots Q Ph nL pc lv (.int y :: .long x :: st) w :=
  fun H locs ls hP hl => lv_lshr E.1 E.2.1 hdg hz (k H locs ls hP hl)
theorem v_lushr (E : v_E p s m args meth c D tys cc nL Ts own Ph) {x z : Int64} {y : Int32} (hdg : decode cc pc = .ok (.lushr, 1)) (hz : (x.toUInt64 >>> (y.toInt64.toUInt64 &&& Int64.toUInt64 63)).toInt64 = z) (k : V p l e R s m args below meth c cells slots Q Ph nL (pc + 1) lv (.long z :: st) w) : V p l e R s m args below meth c cells slots Q Ph nL pc lv (.int y :: .long x :: st) w :=
  fun H locs ls hP hl => lv_lushr E.1 E.2.1 hdg hz (k H locs ls hP hl)
theorem v_i2l (E : v_E p s m args meth c D tys cc nL Ts own Ph) {x : Int32} {z : Int64} (hdg : decode cc pc = .ok (.i2l, 1)) (hz : x.toInt64 = z) (k : V p l e R s m args below meth c cells slots Q Ph nL (pc + 1) lv (.long z :: st) w) : V p l e R s m args below meth c cells slots Q Ph nL pc lv (.int x :: st) w :=
  fun H locs ls hP hl => lv_i2l E.1 E.2.1 hdg hz (k H locs ls hP hl)
theorem v_l2i (E : v_E p s m args meth c D tys cc nL Ts own Ph) {x : Int64} {z : Int32} (hdg : decode cc pc = .ok (.l2i, 1)) (hz : x.toInt32 = z) (k : V p l e R s m args below meth c cells slots Q Ph nL (pc + 1) lv (.int z :: st) w) : V p l e R s m args below meth c cells slots Q Ph nL pc lv (.long x :: st) w :=
  fun H locs ls hP hl => lv_l2i E.1 E.2.1 hdg hz (k H locs ls hP hl)
theorem v_lcmp (E : v_E p s m args meth c D tys cc nL Ts own Ph) {x y : Int64} {z : Int32} (hdg : decode cc pc = .ok (.lcmp, 1)) (hz : lg_cmp x y = z) (k : V p l e R s m args below meth c cells slots Q Ph nL (pc + 1) lv (.int z :: st) w) : V p l e R s m args below meth c cells slots Q Ph nL pc lv (.long y :: .long x :: st) w :=
  fun H locs ls hP hl => by subst hz; exact W.lcmp E.1 E.2.1 hdg (k H locs ls hP hl)
theorem v_dup (E : v_E p s m args meth c D tys cc nL Ts own Ph) {va : Value} (hdg : decode cc pc = .ok (.dup, 1)) (hva : va.category = 1) (k : V p l e R s m args below meth c cells slots Q Ph nL (pc + 1) lv (va :: va :: st) w) : V p l e R s m args below meth c cells slots Q Ph nL pc lv (va :: st) w :=
  fun H locs ls hP hl => lv_dup E.1 E.2.1 hdg hva (k H locs ls hP hl)
theorem v_dup2 (E : v_E p s m args meth c D tys cc nL Ts own Ph) {va vb : Value} (hdg : decode cc pc = .ok (.dup2, 1)) (hva : va.category = 1) (hvb : vb.category = 1) (k : V p l e R s m args below meth c cells slots Q Ph nL (pc + 1) lv (va :: vb :: va :: vb :: st) w) : V p l e R s m args below meth c cells slots Q Ph nL pc lv (va :: vb :: st) w :=
  fun H locs ls hP hl => lv_dup2_11 E.1 E.2.1 hdg hva hvb (k H locs ls hP hl)
theorem v_pop (E : v_E p s m args meth c D tys cc nL Ts own Ph) {va : Value} (hdg : decode cc pc = .ok (.pop, 1)) (hva : va.category = 1) (k : V p l e R s m args below meth c cells slots Q Ph nL (pc + 1) lv st w) : V p l e R s m args below meth c cells slots Q Ph nL pc lv (va :: st) w :=
  fun H locs ls hP hl => lv_pop E.1 E.2.1 hdg hva (k H locs ls hP hl)
theorem v_goto (E : v_E p s m args meth c D tys cc nL Ts own Ph) {off : Int} {tgt : Nat} (hdg : decode cc pc = .ok (.goto off, 3)) (ht : (pc : Int) + off = (tgt : Int)) (k : V p l e R s m args below meth c cells slots Q Ph nL tgt lv st w) : V p l e R s m args below meth c cells slots Q Ph nL pc lv st w :=
  fun H locs ls hP hl => lv_goto E.1 E.2.1 hdg ht (k H locs ls hP hl)
theorem v_if_eq (E : v_E p s m args meth c D tys cc nL Ts own Ph) {x : Int32} {off : Int} {tgt : Nat} (hdg : decode cc pc = .ok (.ifCond .eq off, 3)) (ht : (pc : Int) + off = (tgt : Int)) (kt : x = 0 → V p l e R s m args below meth c cells slots Q Ph nL tgt lv st w) (kf : ¬ x = 0 → V p l e R s m args below meth c cells slots Q Ph nL (pc + 3) lv st w) : V p l e R s m args below meth c cells slots Q Ph nL pc lv (.int x :: st) w :=
  fun H locs ls hP hl => lv_if_eq E.1 E.2.1 hdg ht (fun h => kt h H locs ls hP hl) (fun h => kf h H locs ls hP hl)
theorem v_icmp_eq (E : v_E p s m args meth c D tys cc nL Ts own Ph) {x y : Int32} {off : Int} {tgt : Nat} (hdg : decode cc pc = .ok (.if_icmp .eq off, 3)) (ht : (pc : Int) + off = (tgt : Int)) (kt : x = y → V p l e R s m args below meth c cells slots Q Ph nL tgt lv st w) (kf : ¬ x = y → V p l e R s m args below meth c cells slots Q Ph nL (pc + 3) lv st w) : V p l e R s m args below meth c cells slots Q Ph nL pc lv (.int y :: .int x :: st) w :=
  fun H locs ls hP hl => lv_icmp_eq E.1 E.2.1 hdg ht (fun h => kt h H locs ls hP hl) (fun h => kf h H locs ls hP hl)
theorem v_if_ne (E : v_E p s m args meth c D tys cc nL Ts own Ph) {x : Int32} {off : Int} {tgt : Nat} (hdg : decode cc pc = .ok (.ifCond .ne off, 3)) (ht : (pc : Int) + off = (tgt : Int)) (kt : ¬ x = 0 → V p l e R s m args below meth c cells slots Q Ph nL tgt lv st w) (kf : x = 0 → V p l e R s m args below meth c cells slots Q Ph nL (pc + 3) lv st w) : V p l e R s m args below meth c cells slots Q Ph nL pc lv (.int x :: st) w :=
  fun H locs ls hP hl => lv_if_ne E.1 E.2.1 hdg ht (fun h => kt h H locs ls hP hl) (fun h => kf h H locs ls hP hl)
theorem v_icmp_ne (E : v_E p s m args meth c D tys cc nL Ts own Ph) {x y : Int32} {off : Int} {tgt : Nat} (hdg : decode cc pc = .ok (.if_icmp .ne off, 3)) (ht : (pc : Int) + off = (tgt : Int)) (kt : ¬ x = y → V p l e R s m args below meth c cells slots Q Ph nL tgt lv st w) (kf : x = y → V p l e R s m args below meth c cells slots Q Ph nL (pc + 3) lv st w) : V p l e R s m args below meth c cells slots Q Ph nL pc lv (.int y :: .int x :: st) w :=
  fun H locs ls hP hl => lv_icmp_ne E.1 E.2.1 hdg ht (fun h => kt h H locs ls hP hl) (fun h => kf h H locs ls hP hl)
theorem v_if_lt (E : v_E p s m args meth c D tys cc nL Ts own Ph) {x : Int32} {off : Int} {tgt : Nat} (hdg : decode cc pc = .ok (.ifCond .lt off, 3)) (ht : (pc : Int) + off = (tgt : Int)) (kt : x < 0 → V p l e R s m args below meth c cells slots Q Ph nL tgt lv st w) (kf : ¬ x < 0 → V p l e R s m args below meth c cells slots Q Ph nL (pc + 3) lv st w) : V p l e R s m args below meth c cells slots Q Ph nL pc lv (.int x :: st) w :=
  fun H locs ls hP hl => lv_if_lt E.1 E.2.1 hdg ht (fun h => kt h H locs ls hP hl) (fun h => kf h H locs ls hP hl)
theorem v_icmp_lt (E : v_E p s m args meth c D tys cc nL Ts own Ph) {x y : Int32} {off : Int} {tgt : Nat} (hdg : decode cc pc = .ok (.if_icmp .lt off, 3)) (ht : (pc : Int) + off = (tgt : Int)) (kt : x < y → V p l e R s m args below meth c cells slots Q Ph nL tgt lv st w) (kf : ¬ x < y → V p l e R s m args below meth c cells slots Q Ph nL (pc + 3) lv st w) : V p l e R s m args below meth c cells slots Q Ph nL pc lv (.int y :: .int x :: st) w :=
  fun H locs ls hP hl => lv_icmp_lt E.1 E.2.1 hdg ht (fun h => kt h H locs ls hP hl) (fun h => kf h H locs ls hP hl)
theorem v_if_ge (E : v_E p s m args meth c D tys cc nL Ts own Ph) {x : Int32} {off : Int} {tgt : Nat} (hdg : decode cc pc = .ok (.ifCond .ge off, 3)) (ht : (pc : Int) + off = (tgt : Int)) (kt : 0 ≤ x → V p l e R s m args below meth c cells slots Q Ph nL tgt lv st w) (kf : ¬ 0 ≤ x → V p l e R s m args below meth c cells slots Q Ph nL (pc + 3) lv st w) : V p l e R s m args below meth c cells slots Q Ph nL pc lv (.int x :: st) w :=
  fun H locs ls hP hl => lv_if_ge E.1 E.2.1 hdg ht (fun h => kt h H locs ls hP hl) (fun h => kf h H locs ls hP hl)
theorem v_icmp_ge (E : v_E p s m args meth c D tys cc nL Ts own Ph) {x y : Int32} {off : Int} {tgt : Nat} (hdg : decode cc pc = .ok (.if_icmp .ge off, 3)) (ht : (pc : Int) + off = (tgt : Int)) (kt : y ≤ x → V p l e R s m args below meth c cells slots Q Ph nL tgt lv st w) (kf : ¬ y ≤ x → V p l e R s m args below meth c cells slots Q Ph nL (pc + 3) lv st w) : V p l e R s m args below meth c cells slots Q Ph nL pc lv (.int y :: .int x :: st) w :=
  fun H locs ls hP hl => lv_icmp_ge E.1 E.2.1 hdg ht (fun h => kt h H locs ls hP hl) (fun h => kf h H locs ls hP hl)
theorem v_if_gt (E : v_E p s m args meth c D tys cc nL Ts own Ph) {x : Int32} {off : Int} {tgt : Nat} (hdg : decode cc pc = .ok (.ifCond .gt off, 3)) (ht : (pc : Int) + off = (tgt : Int)) (kt : 0 < x → V p l e R s m args below meth c cells slots Q Ph nL tgt lv st w) (kf : ¬ 0 < x → V p l e R s m args below meth c cells slots Q Ph nL (pc + 3) lv st w) : V p l e R s m args below meth c cells slots Q Ph nL pc lv (.int x :: st) w :=
  fun H locs ls hP hl => lv_if_gt E.1 E.2.1 hdg ht (fun h => kt h H locs ls hP hl) (fun h => kf h H locs ls hP hl)
theorem v_icmp_gt (E : v_E p s m args meth c D tys cc nL Ts own Ph) {x y : Int32} {off : Int} {tgt : Nat} (hdg : decode cc pc = .ok (.if_icmp .gt off, 3)) (ht : (pc : Int) + off = (tgt : Int)) (kt : y < x → V p l e R s m args below meth c cells slots Q Ph nL tgt lv st w) (kf : ¬ y < x → V p l e R s m args below meth c cells slots Q Ph nL (pc + 3) lv st w) : V p l e R s m args below meth c cells slots Q Ph nL pc lv (.int y :: .int x :: st) w :=
  fun H locs ls hP hl => lv_icmp_gt E.1 E.2.1 hdg ht (fun h => kt h H locs ls hP hl) (fun h => kf h H locs ls hP hl)
theorem v_if_le (E : v_E p s m args meth c D tys cc nL Ts own Ph) {x : Int32} {off : Int} {tgt : Nat} (hdg : decode cc pc = .ok (.ifCond .le off, 3)) (ht : (pc : Int) + off = (tgt : Int)) (kt : x ≤ 0 → V p l e R s m args below meth c cells slots Q Ph nL tgt lv st w) (kf : ¬ x ≤ 0 → V p l e R s m args below meth c cells slots Q Ph nL (pc + 3) lv st w) : V p l e R s m args below meth c cells slots Q Ph nL pc lv (.int x :: st) w :=
  fun H locs ls hP hl => lv_if_le E.1 E.2.1 hdg ht (fun h => kt h H locs ls hP hl) (fun h => kf h H locs ls hP hl)
theorem v_icmp_le (E : v_E p s m args meth c D tys cc nL Ts own Ph) {x y : Int32} {off : Int} {tgt : Nat} (hdg : decode cc pc = .ok (.if_icmp .le off, 3)) (ht : (pc : Int) + off = (tgt : Int)) (kt : x ≤ y → V p l e R s m args below meth c cells slots Q Ph nL tgt lv st w) (kf : ¬ x ≤ y → V p l e R s m args below meth c cells slots Q Ph nL (pc + 3) lv st w) : V p l e R s m args below meth c cells slots Q Ph nL pc lv (.int y :: .int x :: st) w :=
  fun H locs ls hP hl => lv_icmp_le E.1 E.2.1 hdg ht (fun h => kt h H locs ls hP hl) (fun h => kf h H locs ls hP hl)
theorem n_icmp_eq (E : v_E p s m args meth c D tys cc nL Ts own Ph) {a b : Nat} {off : Int} {tgt : Nat} (hdg : decode cc pc = .ok (.if_icmp .eq off, 3)) (ha : a < 2 ^ 31) (hb : b < 2 ^ 31) (ht : (pc : Int) + off = (tgt : Int)) (kt : a = b → V p l e R s m args below meth c cells slots Q Ph nL tgt lv st w) (kf : a ≠ b → V p l e R s m args below meth c cells slots Q Ph nL (pc + 3) lv st w) : V p l e R s m args below meth c cells slots Q Ph nL pc lv (.int (nI b) :: .int (nI a) :: st) w :=
  fun H locs ls hP hl => lv_icmp_eq E.1 E.2.1 hdg ht (fun h => kt (by have h1 := nI_eq ha hb; have h2 := nI_ltI ha hb; have h3 := nI_ltI hb ha; have h4 := nI_leI ha hb; have h5 := nI_leI hb ha; have h6 := nI_eq hb ha; first | exact h1.mp h | exact (fun q => h (h1.mpr q)) | exact h2.mp h | exact h3.mp h | exact h4.mp h | exact h5.mp h | exact h6.mp h) H locs ls hP hl) (fun h => kf (by have h1 := nI_eq ha hb; have h2 := nI_ltI ha hb; have h3 := nI_ltI hb ha; have h4 := nI_leI ha hb; have h5 := nI_leI hb ha; first | exact h1.mp h | exact (fun q => h (h1.mpr q)) | exact h1.mp (Classical.not_not.mp h) | exact Nat.not_lt.mp (fun q => h (h2.mpr q)) | exact Nat.not_lt.mp (fun q => h (h3.mpr q)) | exact Nat.not_le.mp (fun q => h (h4.mpr q)) | exact Nat.not_le.mp (fun q => h (h5.mpr q))) H locs ls hP hl)
theorem n_icmp_ne (E : v_E p s m args meth c D tys cc nL Ts own Ph) {a b : Nat} {off : Int} {tgt : Nat} (hdg : decode cc pc = .ok (.if_icmp .ne off, 3)) (ha : a < 2 ^ 31) (hb : b < 2 ^ 31) (ht : (pc : Int) + off = (tgt : Int)) (kt : a ≠ b → V p l e R s m args below meth c cells slots Q Ph nL tgt lv st w) (kf : a = b → V p l e R s m args below meth c cells slots Q Ph nL (pc + 3) lv st w) : V p l e R s m args below meth c cells slots Q Ph nL pc lv (.int (nI b) :: .int (nI a) :: st) w :=
  fun H locs ls hP hl => lv_icmp_ne E.1 E.2.1 hdg ht (fun h => kt (by have h1 := nI_eq ha hb; have h2 := nI_ltI ha hb; have h3 := nI_ltI hb ha; have h4 := nI_leI ha hb; have h5 := nI_leI hb ha; have h6 := nI_eq hb ha; first | exact h1.mp h | exact (fun q => h (h1.mpr q)) | exact h2.mp h | exact h3.mp h | exact h4.mp h | exact h5.mp h | exact h6.mp h) H locs ls hP hl) (fun h => kf (by have h1 := nI_eq ha hb; have h2 := nI_ltI ha hb; have h3 := nI_ltI hb ha; have h4 := nI_leI ha hb; have h5 := nI_leI hb ha; first | exact h1.mp h | exact (fun q => h (h1.mpr q)) | exact h1.mp (Classical.not_not.mp h) | exact Nat.not_lt.mp (fun q => h (h2.mpr q)) | exact Nat.not_lt.mp (fun q => h (h3.mpr q)) | exact Nat.not_le.mp (fun q => h (h4.mpr q)) | exact Nat.not_le.mp (fun q => h (h5.mpr q))) H locs ls hP hl)
theorem n_icmp_lt (E : v_E p s m args meth c D tys cc nL Ts own Ph) {a b : Nat} {off : Int} {tgt : Nat} (hdg : decode cc pc = .ok (.if_icmp .lt off, 3)) (ha : a < 2 ^ 31) (hb : b < 2 ^ 31) (ht : (pc : Int) + off = (tgt : Int)) (kt : a < b → V p l e R s m args below meth c cells slots Q Ph nL tgt lv st w) (kf : b ≤ a → V p l e R s m args below meth c cells slots Q Ph nL (pc + 3) lv st w) : V p l e R s m args below meth c cells slots Q Ph nL pc lv (.int (nI b) :: .int (nI a) :: st) w :=
  fun H locs ls hP hl => lv_icmp_lt E.1 E.2.1 hdg ht (fun h => kt (by have h1 := nI_eq ha hb; have h2 := nI_ltI ha hb; have h3 := nI_ltI hb ha; have h4 := nI_leI ha hb; have h5 := nI_leI hb ha; have h6 := nI_eq hb ha; first | exact h1.mp h | exact (fun q => h (h1.mpr q)) | exact h2.mp h | exact h3.mp h | exact h4.mp h | exact h5.mp h | exact h6.mp h) H locs ls hP hl) (fun h => kf (by have h1 := nI_eq ha hb; have h2 := nI_ltI ha hb; have h3 := nI_ltI hb ha; have h4 := nI_leI ha hb; have h5 := nI_leI hb ha; first | exact h1.mp h | exact (fun q => h (h1.mpr q)) | exact h1.mp (Classical.not_not.mp h) | exact Nat.not_lt.mp (fun q => h (h2.mpr q)) | exact Nat.not_lt.mp (fun q => h (h3.mpr q)) | exact Nat.not_le.mp (fun q => h (h4.mpr q)) | exact Nat.not_le.mp (fun q => h (h5.mpr q))) H locs ls hP hl)
theorem n_icmp_ge (E : v_E p s m args meth c D tys cc nL Ts own Ph) {a b : Nat} {off : Int} {tgt : Nat} (hdg : decode cc pc = .ok (.if_icmp .ge off, 3)) (ha : a < 2 ^ 31) (hb : b < 2 ^ 31) (ht : (pc : Int) + off = (tgt : Int)) (kt : b ≤ a → V p l e R s m args below meth c cells slots Q Ph nL tgt lv st w) (kf : a < b → V p l e R s m args below meth c cells slots Q Ph nL (pc + 3) lv st w) : V p l e R s m args below meth c cells slots Q Ph nL pc lv (.int (nI b) :: .int (nI a) :: st) w :=
  fun H locs ls hP hl => lv_icmp_ge E.1 E.2.1 hdg ht (fun h => kt (by have h1 := nI_eq ha hb; have h2 := nI_ltI ha hb; have h3 := nI_ltI hb ha; have h4 := nI_leI ha hb; have h5 := nI_leI hb ha; have h6 := nI_eq hb ha; first | exact h1.mp h | exact (fun q => h (h1.mpr q)) | exact h2.mp h | exact h3.mp h | exact h4.mp h | exact h5.mp h | exact h6.mp h) H locs ls hP hl) (fun h => kf (by have h1 := nI_eq ha hb; have h2 := nI_ltI ha hb; have h3 := nI_ltI hb ha; have h4 := nI_leI ha hb; have h5 := nI_leI hb ha; first | exact h1.mp h | exact (fun q => h (h1.mpr q)) | exact h1.mp (Classical.not_not.mp h) | exact Nat.not_lt.mp (fun q => h (h2.mpr q)) | exact Nat.not_lt.mp (fun q => h (h3.mpr q)) | exact Nat.not_le.mp (fun q => h (h4.mpr q)) | exact Nat.not_le.mp (fun q => h (h5.mpr q))) H locs ls hP hl)
theorem n_icmp_gt (E : v_E p s m args meth c D tys cc nL Ts own Ph) {a b : Nat} {off : Int} {tgt : Nat} (hdg : decode cc pc = .ok (.if_icmp .gt off, 3)) (ha : a < 2 ^ 31) (hb : b < 2 ^ 31) (ht : (pc : Int) + off = (tgt : Int)) (kt : b < a → V p l e R s m args below meth c cells slots Q Ph nL tgt lv st w) (kf : a ≤ b → V p l e R s m args below meth c cells slots Q Ph nL (pc + 3) lv st w) : V p l e R s m args below meth c cells slots Q Ph nL pc lv (.int (nI b) :: .int (nI a) :: st) w :=
  fun H locs ls hP hl => lv_icmp_gt E.1 E.2.1 hdg ht (fun h => kt (by have h1 := nI_eq ha hb; have h2 := nI_ltI ha hb; have h3 := nI_ltI hb ha; have h4 := nI_leI ha hb; have h5 := nI_leI hb ha; have h6 := nI_eq hb ha; first | exact h1.mp h | exact (fun q => h (h1.mpr q)) | exact h2.mp h | exact h3.mp h | exact h4.mp h | exact h5.mp h | exact h6.mp h) H locs ls hP hl) (fun h => kf (by have h1 := nI_eq ha hb; have h2 := nI_ltI ha hb; have h3 := nI_ltI hb ha; have h4 := nI_leI ha hb; have h5 := nI_leI hb ha; first | exact h1.mp h | exact (fun q => h (h1.mpr q)) | exact h1.mp (Classical.not_not.mp h) | exact Nat.not_lt.mp (fun q => h (h2.mpr q)) | exact Nat.not_lt.mp (fun q => h (h3.mpr q)) | exact Nat.not_le.mp (fun q => h (h4.mpr q)) | exact Nat.not_le.mp (fun q => h (h5.mpr q))) H locs ls hP hl)
theorem n_icmp_le (E : v_E p s m args meth c D tys cc nL Ts own Ph) {a b : Nat} {off : Int} {tgt : Nat} (hdg : decode cc pc = .ok (.if_icmp .le off, 3)) (ha : a < 2 ^ 31) (hb : b < 2 ^ 31) (ht : (pc : Int) + off = (tgt : Int)) (kt : a ≤ b → V p l e R s m args below meth c cells slots Q Ph nL tgt lv st w) (kf : b < a → V p l e R s m args below meth c cells slots Q Ph nL (pc + 3) lv st w) : V p l e R s m args below meth c cells slots Q Ph nL pc lv (.int (nI b) :: .int (nI a) :: st) w :=
  fun H locs ls hP hl => lv_icmp_le E.1 E.2.1 hdg ht (fun h => kt (by have h1 := nI_eq ha hb; have h2 := nI_ltI ha hb; have h3 := nI_ltI hb ha; have h4 := nI_leI ha hb; have h5 := nI_leI hb ha; have h6 := nI_eq hb ha; first | exact h1.mp h | exact (fun q => h (h1.mpr q)) | exact h2.mp h | exact h3.mp h | exact h4.mp h | exact h5.mp h | exact h6.mp h) H locs ls hP hl) (fun h => kf (by have h1 := nI_eq ha hb; have h2 := nI_ltI ha hb; have h3 := nI_ltI hb ha; have h4 := nI_leI ha hb; have h5 := nI_leI hb ha; first | exact h1.mp h | exact (fun q => h (h1.mpr q)) | exact h1.mp (Classical.not_not.mp h) | exact Nat.not_lt.mp (fun q => h (h2.mpr q)) | exact Nat.not_lt.mp (fun q => h (h3.mpr q)) | exact Nat.not_le.mp (fun q => h (h4.mpr q)) | exact Nat.not_le.mp (fun q => h (h5.mpr q))) H locs ls hP hl)
theorem n_if_eq (E : v_E p s m args meth c D tys cc nL Ts own Ph) {a : Nat} {off : Int} {tgt : Nat} (hdg : decode cc pc = .ok (.ifCond .eq off, 3)) (ha : a < 2 ^ 31) (ht : (pc : Int) + off = (tgt : Int)) (kt : a = 0 → V p l e R s m args below meth c cells slots Q Ph nL tgt lv st w) (kf : 0 < a → V p l e R s m args below meth c cells slots Q Ph nL (pc + 3) lv st w) : V p l e R s m args below meth c cells slots Q Ph nL pc lv (.int (nI a) :: st) w :=
  fun H locs ls hP hl => lv_if_eq E.1 E.2.1 hdg ht (fun h => kt (by have h1 := nI_eq ha (show 0 < 2 ^ 31 by decide); have h2 := nI_ltI ha (show 0 < 2 ^ 31 by decide); have h3 := nI_ltI (show 0 < 2 ^ 31 by decide) ha; have h4 := nI_leI ha (show 0 < 2 ^ 31 by decide); have h5 := nI_leI (show 0 < 2 ^ 31 by decide) ha; rw [nI_0] at h1 h2 h3 h4 h5; first | exact h1.mp h | exact Nat.pos_of_ne_zero (fun q => h (h1.mpr q)) | exact absurd (h2.mp h) (Nat.not_lt_zero _) | exact h3.mp h | exact Nat.le_zero.mp (h4.mp h)) H locs ls hP hl) (fun h => kf (by have h1 := nI_eq ha (show 0 < 2 ^ 31 by decide); have h2 := nI_ltI ha (show 0 < 2 ^ 31 by decide); have h3 := nI_ltI (show 0 < 2 ^ 31 by decide) ha; have h4 := nI_leI ha (show 0 < 2 ^ 31 by decide); have h5 := nI_leI (show 0 < 2 ^ 31 by decide) ha; rw [nI_0] at h1 h2 h3 h4 h5; first | exact h1.mp h | exact Nat.pos_of_ne_zero (fun q => h (h1.mpr q)) | exact Nat.le_zero.mp (Nat.not_lt.mp (fun q => h (h3.mpr q))) | exact Nat.pos_of_ne_zero (fun q => h (h4.mpr (Nat.le_of_eq q))) | exact absurd (Nat.zero_le _) (fun q => h (h5.mpr q))) H locs ls hP hl)
theorem n_if_ne (E : v_E p s m args meth c D tys cc nL Ts own Ph) {a : Nat} {off : Int} {tgt : Nat} (hdg : decode cc pc = .ok (.ifCond .ne off, 3)) (ha : a < 2 ^ 31) (ht : (pc : Int) + off = (tgt : Int)) (kt : 0 < a → V p l e R s m args below meth c cells slots Q Ph nL tgt lv st w) (kf : a = 0 → V p l e R s m args below meth c cells slots Q Ph nL (pc + 3) lv st w) : V p l e R s m args below meth c cells slots Q Ph nL pc lv (.int (nI a) :: st) w :=
  fun H locs ls hP hl => lv_if_ne E.1 E.2.1 hdg ht (fun h => kt (by have h1 := nI_eq ha (show 0 < 2 ^ 31 by decide); have h2 := nI_ltI ha (show 0 < 2 ^ 31 by decide); have h3 := nI_ltI (show 0 < 2 ^ 31 by decide) ha; have h4 := nI_leI ha (show 0 < 2 ^ 31 by decide); have h5 := nI_leI (show 0 < 2 ^ 31 by decide) ha; rw [nI_0] at h1 h2 h3 h4 h5; first | exact h1.mp h | exact Nat.pos_of_ne_zero (fun q => h (h1.mpr q)) | exact absurd (h2.mp h) (Nat.not_lt_zero _) | exact h3.mp h | exact Nat.le_zero.mp (h4.mp h)) H locs ls hP hl) (fun h => kf (by have h1 := nI_eq ha (show 0 < 2 ^ 31 by decide); have h2 := nI_ltI ha (show 0 < 2 ^ 31 by decide); have h3 := nI_ltI (show 0 < 2 ^ 31 by decide) ha; have h4 := nI_leI ha (show 0 < 2 ^ 31 by decide); have h5 := nI_leI (show 0 < 2 ^ 31 by decide) ha; rw [nI_0] at h1 h2 h3 h4 h5; first | exact h1.mp h | exact Nat.pos_of_ne_zero (fun q => h (h1.mpr q)) | exact Nat.le_zero.mp (Nat.not_lt.mp (fun q => h (h3.mpr q))) | exact Nat.pos_of_ne_zero (fun q => h (h4.mpr (Nat.le_of_eq q))) | exact absurd (Nat.zero_le _) (fun q => h (h5.mpr q))) H locs ls hP hl)
theorem n_if_lt (E : v_E p s m args meth c D tys cc nL Ts own Ph) {a : Nat} {off : Int} {tgt : Nat} (hdg : decode cc pc = .ok (.ifCond .lt off, 3)) (ha : a < 2 ^ 31) (ht : (pc : Int) + off = (tgt : Int)) (kt : False → V p l e R s m args below meth c cells slots Q Ph nL tgt lv st w) (kf : True → V p l e R s m args below meth c cells slots Q Ph nL (pc + 3) lv st w) : V p l e R s m args below meth c cells slots Q Ph nL pc lv (.int (nI a) :: st) w :=
  fun H locs ls hP hl => lv_if_lt E.1 E.2.1 hdg ht (fun h => kt (by have h1 := nI_eq ha (show 0 < 2 ^ 31 by decide); have h2 := nI_ltI ha (show 0 < 2 ^ 31 by decide); have h3 := nI_ltI (show 0 < 2 ^ 31 by decide) ha; have h4 := nI_leI ha (show 0 < 2 ^ 31 by decide); have h5 := nI_leI (show 0 < 2 ^ 31 by decide) ha; rw [nI_0] at h1 h2 h3 h4 h5; first | exact h1.mp h | exact Nat.pos_of_ne_zero (fun q => h (h1.mpr q)) | exact absurd (h2.mp h) (Nat.not_lt_zero _) | exact h3.mp h | exact Nat.le_zero.mp (h4.mp h)) H locs ls hP hl) (fun h => kf trivial H locs ls hP hl)
theorem n_if_ge (E : v_E p s m args meth c D tys cc nL Ts own Ph) {a : Nat} {off : Int} {tgt : Nat} (hdg : decode cc pc = .ok (.ifCond .ge off, 3)) (ha : a < 2 ^ 31) (ht : (pc : Int) + off = (tgt : Int)) (kt : True → V p l e R s m args below meth c cells slots Q Ph nL tgt lv st w) (kf : False → V p l e R s m args below meth c cells slots Q Ph nL (pc + 3) lv st w) : V p l e R s m args below meth c cells slots Q Ph nL pc lv (.int (nI a) :: st) w :=
  fun H locs ls hP hl => lv_if_ge E.1 E.2.1 hdg ht (fun h => kt trivial H locs ls hP hl) (fun h => kf (by have h1 := nI_eq ha (show 0 < 2 ^ 31 by decide); have h2 := nI_ltI ha (show 0 < 2 ^ 31 by decide); have h3 := nI_ltI (show 0 < 2 ^ 31 by decide) ha; have h4 := nI_leI ha (show 0 < 2 ^ 31 by decide); have h5 := nI_leI (show 0 < 2 ^ 31 by decide) ha; rw [nI_0] at h1 h2 h3 h4 h5; first | exact h1.mp h | exact Nat.pos_of_ne_zero (fun q => h (h1.mpr q)) | exact Nat.le_zero.mp (Nat.not_lt.mp (fun q => h (h3.mpr q))) | exact Nat.pos_of_ne_zero (fun q => h (h4.mpr (Nat.le_of_eq q))) | exact absurd (Nat.zero_le _) (fun q => h (h5.mpr q))) H locs ls hP hl)
theorem n_if_gt (E : v_E p s m args meth c D tys cc nL Ts own Ph) {a : Nat} {off : Int} {tgt : Nat} (hdg : decode cc pc = .ok (.ifCond .gt off, 3)) (ha : a < 2 ^ 31) (ht : (pc : Int) + off = (tgt : Int)) (kt : 0 < a → V p l e R s m args below meth c cells slots Q Ph nL tgt lv st w) (kf : a = 0 → V p l e R s m args below meth c cells slots Q Ph nL (pc + 3) lv st w) : V p l e R s m args below meth c cells slots Q Ph nL pc lv (.int (nI a) :: st) w :=
  fun H locs ls hP hl => lv_if_gt E.1 E.2.1 hdg ht (fun h => kt (by have h1 := nI_eq ha (show 0 < 2 ^ 31 by decide); have h2 := nI_ltI ha (show 0 < 2 ^ 31 by decide); have h3 := nI_ltI (show 0 < 2 ^ 31 by decide) ha; have h4 := nI_leI ha (show 0 < 2 ^ 31 by decide); have h5 := nI_leI (show 0 < 2 ^ 31 by decide) ha; rw [nI_0] at h1 h2 h3 h4 h5; first | exact h1.mp h | exact Nat.pos_of_ne_zero (fun q => h (h1.mpr q)) | exact absurd (h2.mp h) (Nat.not_lt_zero _) | exact h3.mp h | exact Nat.le_zero.mp (h4.mp h)) H locs ls hP hl) (fun h => kf (by have h1 := nI_eq ha (show 0 < 2 ^ 31 by decide); have h2 := nI_ltI ha (show 0 < 2 ^ 31 by decide); have h3 := nI_ltI (show 0 < 2 ^ 31 by decide) ha; have h4 := nI_leI ha (show 0 < 2 ^ 31 by decide); have h5 := nI_leI (show 0 < 2 ^ 31 by decide) ha; rw [nI_0] at h1 h2 h3 h4 h5; first | exact h1.mp h | exact Nat.pos_of_ne_zero (fun q => h (h1.mpr q)) | exact Nat.le_zero.mp (Nat.not_lt.mp (fun q => h (h3.mpr q))) | exact Nat.pos_of_ne_zero (fun q => h (h4.mpr (Nat.le_of_eq q))) | exact absurd (Nat.zero_le _) (fun q => h (h5.mpr q))) H locs ls hP hl)
theorem n_if_le (E : v_E p s m args meth c D tys cc nL Ts own Ph) {a : Nat} {off : Int} {tgt : Nat} (hdg : decode cc pc = .ok (.ifCond .le off, 3)) (ha : a < 2 ^ 31) (ht : (pc : Int) + off = (tgt : Int)) (kt : a = 0 → V p l e R s m args below meth c cells slots Q Ph nL tgt lv st w) (kf : 0 < a → V p l e R s m args below meth c cells slots Q Ph nL (pc + 3) lv st w) : V p l e R s m args below meth c cells slots Q Ph nL pc lv (.int (nI a) :: st) w :=
  fun H locs ls hP hl => lv_if_le E.1 E.2.1 hdg ht (fun h => kt (by have h1 := nI_eq ha (show 0 < 2 ^ 31 by decide); have h2 := nI_ltI ha (show 0 < 2 ^ 31 by decide); have h3 := nI_ltI (show 0 < 2 ^ 31 by decide) ha; have h4 := nI_leI ha (show 0 < 2 ^ 31 by decide); have h5 := nI_leI (show 0 < 2 ^ 31 by decide) ha; rw [nI_0] at h1 h2 h3 h4 h5; first | exact h1.mp h | exact Nat.pos_of_ne_zero (fun q => h (h1.mpr q)) | exact absurd (h2.mp h) (Nat.not_lt_zero _) | exact h3.mp h | exact Nat.le_zero.mp (h4.mp h)) H locs ls hP hl) (fun h => kf (by have h1 := nI_eq ha (show 0 < 2 ^ 31 by decide); have h2 := nI_ltI ha (show 0 < 2 ^ 31 by decide); have h3 := nI_ltI (show 0 < 2 ^ 31 by decide) ha; have h4 := nI_leI ha (show 0 < 2 ^ 31 by decide); have h5 := nI_leI (show 0 < 2 ^ 31 by decide) ha; rw [nI_0] at h1 h2 h3 h4 h5; first | exact h1.mp h | exact Nat.pos_of_ne_zero (fun q => h (h1.mpr q)) | exact Nat.le_zero.mp (Nat.not_lt.mp (fun q => h (h3.mpr q))) | exact Nat.pos_of_ne_zero (fun q => h (h4.mpr (Nat.le_of_eq q))) | exact absurd (Nat.zero_le _) (fun q => h (h5.mpr q))) H locs ls hP hl)
def bI (b : Bool) : Int32 := if b then 1 else 0
theorem bI_t : bI true = 1 := rfl
theorem bI_f : bI false = 0 := rfl
theorem bI_eq0 {b : Bool} : bI b = 0 ↔ b = false := by cases b <;> decide
theorem bI_narrow (b : Bool) : narrow .boolean (.int (bI b)) = .int (bI b) := by cases b <;> rfl
theorem b_if_eq (E : v_E p s m args meth c D tys cc nL Ts own Ph) {b : Bool} {off : Int} {tgt : Nat} (hdg : decode cc pc = .ok (.ifCond .eq off, 3)) (ht : (pc : Int) + off = (tgt : Int)) (kt : b = false → V p l e R s m args below meth c cells slots Q Ph nL tgt lv st w) (kf : b = true → V p l e R s m args below meth c cells slots Q Ph nL (pc + 3) lv st w) : V p l e R s m args below meth c cells slots Q Ph nL pc lv (.int (bI b) :: st) w :=
  fun H locs ls hP hl => lv_if_eq E.1 E.2.1 hdg ht (fun h => kt (bI_eq0.mp h) H locs ls hP hl) (fun h => kf (by cases b with | true => rfl | false => exact absurd rfl h) H locs ls hP hl)
theorem b_if_ne (E : v_E p s m args meth c D tys cc nL Ts own Ph) {b : Bool} {off : Int} {tgt : Nat} (hdg : decode cc pc = .ok (.ifCond .ne off, 3)) (ht : (pc : Int) + off = (tgt : Int)) (kt : b = true → V p l e R s m args below meth c cells slots Q Ph nL tgt lv st w) (kf : b = false → V p l e R s m args below meth c cells slots Q Ph nL (pc + 3) lv st w) : V p l e R s m args below meth c cells slots Q Ph nL pc lv (.int (bI b) :: st) w :=
  fun H locs ls hP hl => lv_if_ne E.1 E.2.1 hdg ht (fun h => kt (by cases b with | true => rfl | false => exact absurd rfl h) H locs ls hP hl) (fun h => kf (bI_eq0.mp h) H locs ls hP hl)
theorem v_lv {lv' : List (Nat × Value)} (ks : List Nat) (h : lv_pick lv ks = lv') (k : V p l e R s m args below meth c cells slots Q Ph nL pc lv' st w) : V p l e R s m args below meth c cells slots Q Ph nL pc lv st w := fun H locs ls hP hl => k H locs ls hP (lv_sub hl ks h)
theorem v_pc {pc' : Nat} (h : pc = pc') (k : V p l e R s m args below meth c cells slots Q Ph nL pc' lv st w) : V p l e R s m args below meth c cells slots Q Ph nL pc lv st w := h ▸ k
theorem v_st {st' : List Value} (h : st = st') (k : V p l e R s m args below meth c cells slots Q Ph nL pc lv st' w) : V p l e R s m args below meth c cells slots Q Ph nL pc lv st w := h ▸ k
theorem v_w {w' : va_W} (h : w = w') (k : V p l e R s m args below meth c cells slots Q Ph nL pc lv st w') : V p l e R s m args below meth c cells slots Q Ph nL pc lv st w := h ▸ k
theorem v_top {x y : Int32} (h : x = y) (k : V p l e R s m args below meth c cells slots Q Ph nL pc lv (.int y :: st) w) : V p l e R s m args below meth c cells slots Q Ph nL pc lv (.int x :: st) w := h ▸ k
theorem v_topl {x y : Int64} (h : x = y) (k : V p l e R s m args below meth c cells slots Q Ph nL pc lv (.long y :: st) w) : V p l e R s m args below meth c cells slots Q Ph nL pc lv (.long x :: st) w := h ▸ k
theorem v_get (E : v_E p s m args meth c D tys cc nL Ts own Ph) {a : Nat} {ref C : String} {T : u_T} {N ci index : Nat} {fs : List Value} {v : Value} (hdg : decode cc pc = .ok (.getfield index, 3)) (q0 : Nat) (f : Nat) (hin : ∀ w ∈ u_ws C T N, w ∈ Ts) (he : w[q0]? = some (a, .inr (ci, fs))) (hc : vwCl[ci]? = some (C, T, N)) (hk : f < N) (hlink : Cond.fieldLink own index ref (T f).2.1 (T f).2.2.1 ∈ Ts) (hsame : (T f).1 = ref) (hv : fs[f]? = some v) (k : V p l e R s m args below meth c cells slots Q Ph nL (pc + 3) lv (v :: st) w) : V p l e R s m args below meth c cells slots Q Ph nL pc lv (.ref a :: st) w :=
  fun H locs ls hP hl => va_get E.1 E.2.1 E.2.2.2.1 hin E.2.2.2.2.1 E.2.2.2.2.2.1 (E.2.2.2.2.2.2.2 _ _ _ hP) q0 he hc f hk (E.2.2.2.1 _ hlink) (fun _ h9 => by rw [← hsame]; exact h9) hv hdg (k H locs ls hP hl)
theorem v_iald (E : v_E p s m args meth c D tys cc nL Ts own Ph) {a n i : Nat} {cA : ClassId} {f : Nat → Int32} {v : Int32} (hdg : decode cc pc = .ok (.iaload, 1)) (q0 t0 : Nat) (ha : w[q0]? = some (a, .inl (cA, n, .inl f))) (ht : tys[t0]? = some (cA, .int)) (hi : i < n) (hn : n < 2 ^ 31) (hv : f i = v) (k : V p l e R s m args below meth c cells slots Q Ph nL (pc + 1) lv (.int v :: st) w) : V p l e R s m args below meth c cells slots Q Ph nL pc lv (.int (nI i) :: .ref a :: st) w :=
  fun H locs ls hP hl => by subst hv; exact va_iald E.1 E.2.1 E.2.2.2.2.2.1 (E.2.2.2.2.2.2.2 _ _ _ hP) q0 t0 ha ht (vp_in_nI hi hn) hdg (by rw [nI_clamp (Nat.lt_trans hi hn)]; exact (k H locs ls hP hl))
theorem v_zald (E : v_E p s m args meth c D tys cc nL Ts own Ph) {a n i : Nat} {cA : ClassId} {f : Nat → Int32} {v : Int32} (hdg : decode cc pc = .ok (.baload, 1)) (q0 t0 : Nat) (ha : w[q0]? = some (a, .inl (cA, n, .inl f))) (ht : tys[t0]? = some (cA, .boolean)) (hi : i < n) (hn : n < 2 ^ 31) (hv : f i = v) (k : V p l e R s m args below meth c cells slots Q Ph nL (pc + 1) lv (.int v :: st) w) : V p l e R s m args below meth c cells slots Q Ph nL pc lv (.int (nI i) :: .ref a :: st) w :=
  fun H locs ls hP hl => by subst hv; exact va_zald E.1 E.2.1 E.2.2.2.2.2.1 (E.2.2.2.2.2.2.2 _ _ _ hP) q0 t0 ha ht (vp_in_nI hi hn) hdg (by rw [nI_clamp (Nat.lt_trans hi hn)]; exact (k H locs ls hP hl))
theorem v_lald (E : v_E p s m args meth c D tys cc nL Ts own Ph) {a n i : Nat} {cA : ClassId} {f : Nat → Int64} {v : Int64} (hdg : decode cc pc = .ok (.laload, 1)) (q0 t0 : Nat) (ha : w[q0]? = some (a, .inl (cA, n, .inr (.inl f)))) (ht : tys[t0]? = some (cA, .long)) (hi : i < n) (hn : n < 2 ^ 31) (hv : f i = v) (k : V p l e R s m args below meth c cells slots Q Ph nL (pc + 1) lv (.long v :: st) w) : V p l e R s m args below meth c cells slots Q Ph nL pc lv (.int (nI i) :: .ref a :: st) w :=
  fun H locs ls hP hl => by subst hv; exact va_lald E.1 E.2.1 E.2.2.2.2.2.1 (E.2.2.2.2.2.2.2 _ _ _ hP) q0 t0 ha ht (vp_in_nI hi hn) hdg (by rw [nI_clamp (Nat.lt_trans hi hn)]; exact (k H locs ls hP hl))
theorem v_aald (E : v_E p s m args meth c D tys cc nL Ts own Ph) {a n i v : Nat} {cA : ClassId} {f : Nat → Option Nat} (hdg : decode cc pc = .ok (.aaload, 1)) (q0 t0 : Nat) (ha : w[q0]? = some (a, .inl (cA, n, .inr (.inr (.inr (.inr f)))))) (ht : tys[t0]? = some (cA, .array .int)) (hi : i < n) (hn : n < 2 ^ 31) (hv : f i = some v) (k : V p l e R s m args below meth c cells slots Q Ph nL (pc + 1) lv (.ref v :: st) w) : V p l e R s m args below meth c cells slots Q Ph nL pc lv (.int (nI i) :: .ref a :: st) w :=
  fun H locs ls hP hl => W.aald (v := .ref v) (ty := .array .int) E.1 E.2.1 ((E.2.2.2.2.2.2.2 _ _ _ hP) q0 _ ha) ((E.2.2.2.2.2.1.2 t0 _ ht).1 n (fun j => va_rf (f j))) rfl (fun q => by cases q) (by show ¬ (nI i < 0 ∨ (arrV _ _ _).slots.size ≤ _); rw [arrV_size]; exact vp_in_nI hi hn) (by show (arrV _ _ _).slots[_]? = _; rw [nI_clamp (Nat.lt_trans hi hn), arrV_read _ _ hi, hv]; rfl) rfl rfl hdg (k H locs ls hP hl)
end VLAY
end
section
/-! ===== the state of the system: one value for the class and for the model ===== -/
abbrev zS : Type := (Nat → Nat) × (Nat → Nat) × (Nat → Nat) × (Nat → Bool) × (Nat → Nat) × (Nat → Nat) × (Nat → Nat) × (Nat) × (Nat) × (Nat) × (Nat) × (Nat) × (Nat) × (Nat) × (Nat → Nat) × (Nat → Nat → Nat) × (Nat → Nat → Nat) × (Nat → Nat → Nat) × (Nat → Nat → Nat)
def z_U (S : zS) : Nat → Nat := S.1
def z_C (S : zS) : Nat → Nat := S.2.1
def z_D (S : zS) : Nat → Nat := S.2.2.1
def z_T (S : zS) : Nat → Bool := S.2.2.2.1
def z_G (S : zS) : Nat → Nat := S.2.2.2.2.1
def z_B (S : zS) : Nat → Nat := S.2.2.2.2.2.1
def z_Q (S : zS) : Nat → Nat := S.2.2.2.2.2.2.1
def z_qn (S : zS) : Nat := S.2.2.2.2.2.2.2.1
def z_nc (S : zS) : Nat := S.2.2.2.2.2.2.2.2.1
def z_nt (S : zS) : Nat := S.2.2.2.2.2.2.2.2.2.1
def z_li (S : zS) : Nat := S.2.2.2.2.2.2.2.2.2.2.1
def z_wi (S : zS) : Nat := S.2.2.2.2.2.2.2.2.2.2.2.1
def z_no (S : zS) : Nat := S.2.2.2.2.2.2.2.2.2.2.2.2.1
def z_bu (S : zS) : Nat := S.2.2.2.2.2.2.2.2.2.2.2.2.2.1
def z_R (S : zS) : Nat → Nat := S.2.2.2.2.2.2.2.2.2.2.2.2.2.2.1
def z_rC (S : zS) : Nat → Nat → Nat := S.2.2.2.2.2.2.2.2.2.2.2.2.2.2.2.1
def z_rP (S : zS) : Nat → Nat → Nat := S.2.2.2.2.2.2.2.2.2.2.2.2.2.2.2.2.1
def z_P (S : zS) : Nat → Nat → Nat := S.2.2.2.2.2.2.2.2.2.2.2.2.2.2.2.2.2.1
def z_F (S : zS) : Nat → Nat → Nat := S.2.2.2.2.2.2.2.2.2.2.2.2.2.2.2.2.2.2
def zs_U (S : zS) (v : Nat → Nat) : zS := (v, S.2.1, S.2.2.1, S.2.2.2.1, S.2.2.2.2.1, S.2.2.2.2.2.1, S.2.2.2.2.2.2.1, S.2.2.2.2.2.2.2.1, S.2.2.2.2.2.2.2.2.1, S.2.2.2.2.2.2.2.2.2.1, S.2.2.2.2.2.2.2.2.2.2.1, S.2.2.2.2.2.2.2.2.2.2.2.1, S.2.2.2.2.2.2.2.2.2.2.2.2.1, S.2.2.2.2.2.2.2.2.2.2.2.2.2.1, S.2.2.2.2.2.2.2.2.2.2.2.2.2.2.1, S.2.2.2.2.2.2.2.2.2.2.2.2.2.2.2.1, S.2.2.2.2.2.2.2.2.2.2.2.2.2.2.2.2.1, S.2.2.2.2.2.2.2.2.2.2.2.2.2.2.2.2.2.1, S.2.2.2.2.2.2.2.2.2.2.2.2.2.2.2.2.2.2)
def zs_C (S : zS) (v : Nat → Nat) : zS := (S.1, v, S.2.2.1, S.2.2.2.1, S.2.2.2.2.1, S.2.2.2.2.2.1, S.2.2.2.2.2.2.1, S.2.2.2.2.2.2.2.1, S.2.2.2.2.2.2.2.2.1, S.2.2.2.2.2.2.2.2.2.1, S.2.2.2.2.2.2.2.2.2.2.1, S.2.2.2.2.2.2.2.2.2.2.2.1, S.2.2.2.2.2.2.2.2.2.2.2.2.1, S.2.2.2.2.2.2.2.2.2.2.2.2.2.1, S.2.2.2.2.2.2.2.2.2.2.2.2.2.2.1, S.2.2.2.2.2.2.2.2.2.2.2.2.2.2.2.1, S.2.2.2.2.2.2.2.2.2.2.2.2.2.2.2.2.1, S.2.2.2.2.2.2.2.2.2.2.2.2.2.2.2.2.2.1, S.2.2.2.2.2.2.2.2.2.2.2.2.2.2.2.2.2.2)
def zs_D (S : zS) (v : Nat → Nat) : zS := (S.1, S.2.1, v, S.2.2.2.1, S.2.2.2.2.1, S.2.2.2.2.2.1, S.2.2.2.2.2.2.1, S.2.2.2.2.2.2.2.1, S.2.2.2.2.2.2.2.2.1, S.2.2.2.2.2.2.2.2.2.1, S.2.2.2.2.2.2.2.2.2.2.1, S.2.2.2.2.2.2.2.2.2.2.2.1, S.2.2.2.2.2.2.2.2.2.2.2.2.1, S.2.2.2.2.2.2.2.2.2.2.2.2.2.1, S.2.2.2.2.2.2.2.2.2.2.2.2.2.2.1, S.2.2.2.2.2.2.2.2.2.2.2.2.2.2.2.1, S.2.2.2.2.2.2.2.2.2.2.2.2.2.2.2.2.1, S.2.2.2.2.2.2.2.2.2.2.2.2.2.2.2.2.2.1, S.2.2.2.2.2.2.2.2.2.2.2.2.2.2.2.2.2.2)
def zs_T (S : zS) (v : Nat → Bool) : zS := (S.1, S.2.1, S.2.2.1, v, S.2.2.2.2.1, S.2.2.2.2.2.1, S.2.2.2.2.2.2.1, S.2.2.2.2.2.2.2.1, S.2.2.2.2.2.2.2.2.1, S.2.2.2.2.2.2.2.2.2.1, S.2.2.2.2.2.2.2.2.2.2.1, S.2.2.2.2.2.2.2.2.2.2.2.1, S.2.2.2.2.2.2.2.2.2.2.2.2.1, S.2.2.2.2.2.2.2.2.2.2.2.2.2.1, S.2.2.2.2.2.2.2.2.2.2.2.2.2.2.1, S.2.2.2.2.2.2.2.2.2.2.2.2.2.2.2.1, S.2.2.2.2.2.2.2.2.2.2.2.2.2.2.2.2.1, S.2.2.2.2.2.2.2.2.2.2.2.2.2.2.2.2.2.1, S.2.2.2.2.2.2.2.2.2.2.2.2.2.2.2.2.2.2)
def zs_G (S : zS) (v : Nat → Nat) : zS := (S.1, S.2.1, S.2.2.1, S.2.2.2.1, v, S.2.2.2.2.2.1, S.2.2.2.2.2.2.1, S.2.2.2.2.2.2.2.1, S.2.2.2.2.2.2.2.2.1, S.2.2.2.2.2.2.2.2.2.1, S.2.2.2.2.2.2.2.2.2.2.1, S.2.2.2.2.2.2.2.2.2.2.2.1, S.2.2.2.2.2.2.2.2.2.2.2.2.1, S.2.2.2.2.2.2.2.2.2.2.2.2.2.1, S.2.2.2.2.2.2.2.2.2.2.2.2.2.2.1, S.2.2.2.2.2.2.2.2.2.2.2.2.2.2.2.1, S.2.2.2.2.2.2.2.2.2.2.2.2.2.2.2.2.1, S.2.2.2.2.2.2.2.2.2.2.2.2.2.2.2.2.2.1, S.2.2.2.2.2.2.2.2.2.2.2.2.2.2.2.2.2.2)
def zs_B (S : zS) (v : Nat → Nat) : zS := (S.1, S.2.1, S.2.2.1, S.2.2.2.1, S.2.2.2.2.1, v, S.2.2.2.2.2.2.1, S.2.2.2.2.2.2.2.1, S.2.2.2.2.2.2.2.2.1, S.2.2.2.2.2.2.2.2.2.1, S.2.2.2.2.2.2.2.2.2.2.1, S.2.2.2.2.2.2.2.2.2.2.2.1, S.2.2.2.2.2.2.2.2.2.2.2.2.1, S.2.2.2.2.2.2.2.2.2.2.2.2.2.1, S.2.2.2.2.2.2.2.2.2.2.2.2.2.2.1, S.2.2.2.2.2.2.2.2.2.2.2.2.2.2.2.1, S.2.2.2.2.2.2.2.2.2.2.2.2.2.2.2.2.1, S.2.2.2.2.2.2.2.2.2.2.2.2.2.2.2.2.2.1, S.2.2.2.2.2.2.2.2.2.2.2.2.2.2.2.2.2.2)
def zs_Q (S : zS) (v : Nat → Nat) : zS := (S.1, S.2.1, S.2.2.1, S.2.2.2.1, S.2.2.2.2.1, S.2.2.2.2.2.1, v, S.2.2.2.2.2.2.2.1, S.2.2.2.2.2.2.2.2.1, S.2.2.2.2.2.2.2.2.2.1, S.2.2.2.2.2.2.2.2.2.2.1, S.2.2.2.2.2.2.2.2.2.2.2.1, S.2.2.2.2.2.2.2.2.2.2.2.2.1, S.2.2.2.2.2.2.2.2.2.2.2.2.2.1, S.2.2.2.2.2.2.2.2.2.2.2.2.2.2.1, S.2.2.2.2.2.2.2.2.2.2.2.2.2.2.2.1, S.2.2.2.2.2.2.2.2.2.2.2.2.2.2.2.2.1, S.2.2.2.2.2.2.2.2.2.2.2.2.2.2.2.2.2.1, S.2.2.2.2.2.2.2.2.2.2.2.2.2.2.2.2.2.2)
def zs_qn (S : zS) (v : Nat) : zS := (S.1, S.2.1, S.2.2.1, S.2.2.2.1, S.2.2.2.2.1, S.2.2.2.2.2.1, S.2.2.2.2.2.2.1, v, S.2.2.2.2.2.2.2.2.1, S.2.2.2.2.2.2.2.2.2.1, S.2.2.2.2.2.2.2.2.2.2.1, S.2.2.2.2.2.2.2.2.2.2.2.1, S.2.2.2.2.2.2.2.2.2.2.2.2.1, S.2.2.2.2.2.2.2.2.2.2.2.2.2.1, S.2.2.2.2.2.2.2.2.2.2.2.2.2.2.1, S.2.2.2.2.2.2.2.2.2.2.2.2.2.2.2.1, S.2.2.2.2.2.2.2.2.2.2.2.2.2.2.2.2.1, S.2.2.2.2.2.2.2.2.2.2.2.2.2.2.2.2.2.1, S.2.2.2.2.2.2.2.2.2.2.2.2.2.2.2.2.2.2)
def zs_nc (S : zS) (v : Nat) : zS := (S.1, S.2.1, S.2.2.1, S.2.2.2.1, S.2.2.2.2.1, S.2.2.2.2.2.1, S.2.2.2.2.2.2.1, S.2.2.2.2.2.2.2.1, v, S.2.2.2.2.2.2.2.2.2.1, S.2.2.2.2.2.2.2.2.2.2.1, S.2.2.2.2.2.2.2.2.2.2.2.1, S.2.2.2.2.2.2.2.2.2.2.2.2.1, S.2.2.2.2.2.2.2.2.2.2.2.2.2.1, S.2.2.2.2.2.2.2.2.2.2.2.2.2.2.1, S.2.2.2.2.2.2.2.2.2.2.2.2.2.2.2.1, S.2.2.2.2.2.2.2.2.2.2.2.2.2.2.2.2.1, S.2.2.2.2.2.2.2.2.2.2.2.2.2.2.2.2.2.1, S.2.2.2.2.2.2.2.2.2.2.2.2.2.2.2.2.2.2)
def zs_nt (S : zS) (v : Nat) : zS := (S.1, S.2.1, S.2.2.1, S.2.2.2.1, S.2.2.2.2.1, S.2.2.2.2.2.1, S.2.2.2.2.2.2.1, S.2.2.2.2.2.2.2.1, S.2.2.2.2.2.2.2.2.1, v, S.2.2.2.2.2.2.2.2.2.2.1, S.2.2.2.2.2.2.2.2.2.2.2.1, S.2.2.2.2.2.2.2.2.2.2.2.2.1, S.2.2.2.2.2.2.2.2.2.2.2.2.2.1, S.2.2.2.2.2.2.2.2.2.2.2.2.2.2.1, S.2.2.2.2.2.2.2.2.2.2.2.2.2.2.2.1, S.2.2.2.2.2.2.2.2.2.2.2.2.2.2.2.2.1, S.2.2.2.2.2.2.2.2.2.2.2.2.2.2.2.2.2.1, S.2.2.2.2.2.2.2.2.2.2.2.2.2.2.2.2.2.2)
def zs_li (S : zS) (v : Nat) : zS := (S.1, S.2.1, S.2.2.1, S.2.2.2.1, S.2.2.2.2.1, S.2.2.2.2.2.1, S.2.2.2.2.2.2.1, S.2.2.2.2.2.2.2.1, S.2.2.2.2.2.2.2.2.1, S.2.2.2.2.2.2.2.2.2.1, v, S.2.2.2.2.2.2.2.2.2.2.2.1, S.2.2.2.2.2.2.2.2.2.2.2.2.1, S.2.2.2.2.2.2.2.2.2.2.2.2.2.1, S.2.2.2.2.2.2.2.2.2.2.2.2.2.2.1, S.2.2.2.2.2.2.2.2.2.2.2.2.2.2.2.1, S.2.2.2.2.2.2.2.2.2.2.2.2.2.2.2.2.1, S.2.2.2.2.2.2.2.2.2.2.2.2.2.2.2.2.2.1, S.2.2.2.2.2.2.2.2.2.2.2.2.2.2.2.2.2.2)
def zs_wi (S : zS) (v : Nat) : zS := (S.1, S.2.1, S.2.2.1, S.2.2.2.1, S.2.2.2.2.1, S.2.2.2.2.2.1, S.2.2.2.2.2.2.1, S.2.2.2.2.2.2.2.1, S.2.2.2.2.2.2.2.2.1, S.2.2.2.2.2.2.2.2.2.1, S.2.2.2.2.2.2.2.2.2.2.1, v, S.2.2.2.2.2.2.2.2.2.2.2.2.1, S.2.2.2.2.2.2.2.2.2.2.2.2.2.1, S.2.2.2.2.2.2.2.2.2.2.2.2.2.2.1, S.2.2.2.2.2.2.2.2.2.2.2.2.2.2.2.1, S.2.2.2.2.2.2.2.2.2.2.2.2.2.2.2.2.1, S.2.2.2.2.2.2.2.2.2.2.2.2.2.2.2.2.2.1, S.2.2.2.2.2.2.2.2.2.2.2.2.2.2.2.2.2.2)
def zs_no (S : zS) (v : Nat) : zS := (S.1, S.2.1, S.2.2.1, S.2.2.2.1, S.2.2.2.2.1, S.2.2.2.2.2.1, S.2.2.2.2.2.2.1, S.2.2.2.2.2.2.2.1, S.2.2.2.2.2.2.2.2.1, S.2.2.2.2.2.2.2.2.2.1, S.2.2.2.2.2.2.2.2.2.2.1, S.2.2.2.2.2.2.2.2.2.2.2.1, v, S.2.2.2.2.2.2.2.2.2.2.2.2.2.1, S.2.2.2.2.2.2.2.2.2.2.2.2.2.2.1, S.2.2.2.2.2.2.2.2.2.2.2.2.2.2.2.1, S.2.2.2.2.2.2.2.2.2.2.2.2.2.2.2.2.1, S.2.2.2.2.2.2.2.2.2.2.2.2.2.2.2.2.2.1, S.2.2.2.2.2.2.2.2.2.2.2.2.2.2.2.2.2.2)
def zs_bu (S : zS) (v : Nat) : zS := (S.1, S.2.1, S.2.2.1, S.2.2.2.1, S.2.2.2.2.1, S.2.2.2.2.2.1, S.2.2.2.2.2.2.1, S.2.2.2.2.2.2.2.1, S.2.2.2.2.2.2.2.2.1, S.2.2.2.2.2.2.2.2.2.1, S.2.2.2.2.2.2.2.2.2.2.1, S.2.2.2.2.2.2.2.2.2.2.2.1, S.2.2.2.2.2.2.2.2.2.2.2.2.1, v, S.2.2.2.2.2.2.2.2.2.2.2.2.2.2.1, S.2.2.2.2.2.2.2.2.2.2.2.2.2.2.2.1, S.2.2.2.2.2.2.2.2.2.2.2.2.2.2.2.2.1, S.2.2.2.2.2.2.2.2.2.2.2.2.2.2.2.2.2.1, S.2.2.2.2.2.2.2.2.2.2.2.2.2.2.2.2.2.2)
def zs_R (S : zS) (v : Nat → Nat) : zS := (S.1, S.2.1, S.2.2.1, S.2.2.2.1, S.2.2.2.2.1, S.2.2.2.2.2.1, S.2.2.2.2.2.2.1, S.2.2.2.2.2.2.2.1, S.2.2.2.2.2.2.2.2.1, S.2.2.2.2.2.2.2.2.2.1, S.2.2.2.2.2.2.2.2.2.2.1, S.2.2.2.2.2.2.2.2.2.2.2.1, S.2.2.2.2.2.2.2.2.2.2.2.2.1, S.2.2.2.2.2.2.2.2.2.2.2.2.2.1, v, S.2.2.2.2.2.2.2.2.2.2.2.2.2.2.2.1, S.2.2.2.2.2.2.2.2.2.2.2.2.2.2.2.2.1, S.2.2.2.2.2.2.2.2.2.2.2.2.2.2.2.2.2.1, S.2.2.2.2.2.2.2.2.2.2.2.2.2.2.2.2.2.2)
def zs_rC (S : zS) (v : Nat → Nat → Nat) : zS := (S.1, S.2.1, S.2.2.1, S.2.2.2.1, S.2.2.2.2.1, S.2.2.2.2.2.1, S.2.2.2.2.2.2.1, S.2.2.2.2.2.2.2.1, S.2.2.2.2.2.2.2.2.1, S.2.2.2.2.2.2.2.2.2.1, S.2.2.2.2.2.2.2.2.2.2.1, S.2.2.2.2.2.2.2.2.2.2.2.1, S.2.2.2.2.2.2.2.2.2.2.2.2.1, S.2.2.2.2.2.2.2.2.2.2.2.2.2.1, S.2.2.2.2.2.2.2.2.2.2.2.2.2.2.1, v, S.2.2.2.2.2.2.2.2.2.2.2.2.2.2.2.2.1, S.2.2.2.2.2.2.2.2.2.2.2.2.2.2.2.2.2.1, S.2.2.2.2.2.2.2.2.2.2.2.2.2.2.2.2.2.2)
def zs_rP (S : zS) (v : Nat → Nat → Nat) : zS := (S.1, S.2.1, S.2.2.1, S.2.2.2.1, S.2.2.2.2.1, S.2.2.2.2.2.1, S.2.2.2.2.2.2.1, S.2.2.2.2.2.2.2.1, S.2.2.2.2.2.2.2.2.1, S.2.2.2.2.2.2.2.2.2.1, S.2.2.2.2.2.2.2.2.2.2.1, S.2.2.2.2.2.2.2.2.2.2.2.1, S.2.2.2.2.2.2.2.2.2.2.2.2.1, S.2.2.2.2.2.2.2.2.2.2.2.2.2.1, S.2.2.2.2.2.2.2.2.2.2.2.2.2.2.1, S.2.2.2.2.2.2.2.2.2.2.2.2.2.2.2.1, v, S.2.2.2.2.2.2.2.2.2.2.2.2.2.2.2.2.2.1, S.2.2.2.2.2.2.2.2.2.2.2.2.2.2.2.2.2.2)
def zs_P (S : zS) (v : Nat → Nat → Nat) : zS := (S.1, S.2.1, S.2.2.1, S.2.2.2.1, S.2.2.2.2.1, S.2.2.2.2.2.1, S.2.2.2.2.2.2.1, S.2.2.2.2.2.2.2.1, S.2.2.2.2.2.2.2.2.1, S.2.2.2.2.2.2.2.2.2.1, S.2.2.2.2.2.2.2.2.2.2.1, S.2.2.2.2.2.2.2.2.2.2.2.1, S.2.2.2.2.2.2.2.2.2.2.2.2.1, S.2.2.2.2.2.2.2.2.2.2.2.2.2.1, S.2.2.2.2.2.2.2.2.2.2.2.2.2.2.1, S.2.2.2.2.2.2.2.2.2.2.2.2.2.2.2.1, S.2.2.2.2.2.2.2.2.2.2.2.2.2.2.2.2.1, v, S.2.2.2.2.2.2.2.2.2.2.2.2.2.2.2.2.2.2)
def zs_F (S : zS) (v : Nat → Nat → Nat) : zS := (S.1, S.2.1, S.2.2.1, S.2.2.2.1, S.2.2.2.2.1, S.2.2.2.2.2.1, S.2.2.2.2.2.2.1, S.2.2.2.2.2.2.2.1, S.2.2.2.2.2.2.2.2.1, S.2.2.2.2.2.2.2.2.2.1, S.2.2.2.2.2.2.2.2.2.2.1, S.2.2.2.2.2.2.2.2.2.2.2.1, S.2.2.2.2.2.2.2.2.2.2.2.2.1, S.2.2.2.2.2.2.2.2.2.2.2.2.2.1, S.2.2.2.2.2.2.2.2.2.2.2.2.2.2.1, S.2.2.2.2.2.2.2.2.2.2.2.2.2.2.2.1, S.2.2.2.2.2.2.2.2.2.2.2.2.2.2.2.2.1, S.2.2.2.2.2.2.2.2.2.2.2.2.2.2.2.2.2.1, v)
theorem zl_U_U (S : zS) (v : Nat → Nat) : z_U (zs_U S v) = v := rfl
theorem zl_C_U (S : zS) (v : Nat → Nat) : z_C (zs_U S v) = z_C S := rfl
theorem zl_D_U (S : zS) (v : Nat → Nat) : z_D (zs_U S v) = z_D S := rfl
theorem zl_T_U (S : zS) (v : Nat → Nat) : z_T (zs_U S v) = z_T S := rfl
theorem zl_G_U (S : zS) (v : Nat → Nat) : z_G (zs_U S v) = z_G S := rfl
theorem zl_B_U (S : zS) (v : Nat → Nat) : z_B (zs_U S v) = z_B S := rfl
theorem zl_Q_U (S : zS) (v : Nat → Nat) : z_Q (zs_U S v) = z_Q S := rfl
theorem zl_qn_U (S : zS) (v : Nat → Nat) : z_qn (zs_U S v) = z_qn S := rfl
theorem zl_nc_U (S : zS) (v : Nat → Nat) : z_nc (zs_U S v) = z_nc S := rfl
theorem zl_nt_U (S : zS) (v : Nat → Nat) : z_nt (zs_U S v) = z_nt S := rfl
theorem zl_li_U (S : zS) (v : Nat → Nat) : z_li (zs_U S v) = z_li S := rfl
theorem zl_wi_U (S : zS) (v : Nat → Nat) : z_wi (zs_U S v) = z_wi S := rfl
theorem zl_no_U (S : zS) (v : Nat → Nat) : z_no (zs_U S v) = z_no S := rfl
theorem zl_bu_U (S : zS) (v : Nat → Nat) : z_bu (zs_U S v) = z_bu S := rfl
theorem zl_R_U (S : zS) (v : Nat → Nat) : z_R (zs_U S v) = z_R S := rfl
theorem zl_rC_U (S : zS) (v : Nat → Nat) : z_rC (zs_U S v) = z_rC S := rfl
theorem zl_rP_U (S : zS) (v : Nat → Nat) : z_rP (zs_U S v) = z_rP S := rfl
theorem zl_P_U (S : zS) (v : Nat → Nat) : z_P (zs_U S v) = z_P S := rfl
theorem zl_F_U (S : zS) (v : Nat → Nat) : z_F (zs_U S v) = z_F S := rfl
theorem zl_U_C (S : zS) (v : Nat → Nat) : z_U (zs_C S v) = z_U S := rfl
theorem zl_C_C (S : zS) (v : Nat → Nat) : z_C (zs_C S v) = v := rfl
theorem zl_D_C (S : zS) (v : Nat → Nat) : z_D (zs_C S v) = z_D S := rfl
theorem zl_T_C (S : zS) (v : Nat → Nat) : z_T (zs_C S v) = z_T S := rfl
theorem zl_G_C (S : zS) (v : Nat → Nat) : z_G (zs_C S v) = z_G S := rfl
theorem zl_B_C (S : zS) (v : Nat → Nat) : z_B (zs_C S v) = z_B S := rfl
theorem zl_Q_C (S : zS) (v : Nat → Nat) : z_Q (zs_C S v) = z_Q S := rfl
theorem zl_qn_C (S : zS) (v : Nat → Nat) : z_qn (zs_C S v) = z_qn S := rfl
theorem zl_nc_C (S : zS) (v : Nat → Nat) : z_nc (zs_C S v) = z_nc S := rfl
theorem zl_nt_C (S : zS) (v : Nat → Nat) : z_nt (zs_C S v) = z_nt S := rfl
theorem zl_li_C (S : zS) (v : Nat → Nat) : z_li (zs_C S v) = z_li S := rfl
theorem zl_wi_C (S : zS) (v : Nat → Nat) : z_wi (zs_C S v) = z_wi S := rfl
theorem zl_no_C (S : zS) (v : Nat → Nat) : z_no (zs_C S v) = z_no S := rfl
theorem zl_bu_C (S : zS) (v : Nat → Nat) : z_bu (zs_C S v) = z_bu S := rfl
theorem zl_R_C (S : zS) (v : Nat → Nat) : z_R (zs_C S v) = z_R S := rfl
theorem zl_rC_C (S : zS) (v : Nat → Nat) : z_rC (zs_C S v) = z_rC S := rfl
theorem zl_rP_C (S : zS) (v : Nat → Nat) : z_rP (zs_C S v) = z_rP S := rfl
theorem zl_P_C (S : zS) (v : Nat → Nat) : z_P (zs_C S v) = z_P S := rfl
theorem zl_F_C (S : zS) (v : Nat → Nat) : z_F (zs_C S v) = z_F S := rfl
theorem zl_U_D (S : zS) (v : Nat → Nat) : z_U (zs_D S v) = z_U S := rfl
theorem zl_C_D (S : zS) (v : Nat → Nat) : z_C (zs_D S v) = z_C S := rfl
theorem zl_D_D (S : zS) (v : Nat → Nat) : z_D (zs_D S v) = v := rfl
theorem zl_T_D (S : zS) (v : Nat → Nat) : z_T (zs_D S v) = z_T S := rfl
theorem zl_G_D (S : zS) (v : Nat → Nat) : z_G (zs_D S v) = z_G S := rfl
theorem zl_B_D (S : zS) (v : Nat → Nat) : z_B (zs_D S v) = z_B S := rfl
theorem zl_Q_D (S : zS) (v : Nat → Nat) : z_Q (zs_D S v) = z_Q S := rfl
theorem zl_qn_D (S : zS) (v : Nat → Nat) : z_qn (zs_D S v) = z_qn S := rfl
theorem zl_nc_D (S : zS) (v : Nat → Nat) : z_nc (zs_D S v) = z_nc S := rfl
theorem zl_nt_D (S : zS) (v : Nat → Nat) : z_nt (zs_D S v) = z_nt S := rfl
theorem zl_li_D (S : zS) (v : Nat → Nat) : z_li (zs_D S v) = z_li S := rfl
theorem zl_wi_D (S : zS) (v : Nat → Nat) : z_wi (zs_D S v) = z_wi S := rfl
theorem zl_no_D (S : zS) (v : Nat → Nat) : z_no (zs_D S v) = z_no S := rfl
theorem zl_bu_D (S : zS) (v : Nat → Nat) : z_bu (zs_D S v) = z_bu S := rfl
theorem zl_R_D (S : zS) (v : Nat → Nat) : z_R (zs_D S v) = z_R S := rfl
theorem zl_rC_D (S : zS) (v : Nat → Nat) : z_rC (zs_D S v) = z_rC S := rfl
theorem zl_rP_D (S : zS) (v : Nat → Nat) : z_rP (zs_D S v) = z_rP S := rfl
theorem zl_P_D (S : zS) (v : Nat → Nat) : z_P (zs_D S v) = z_P S := rfl
theorem zl_F_D (S : zS) (v : Nat → Nat) : z_F (zs_D S v) = z_F S := rfl
theorem zl_U_T (S : zS) (v : Nat → Bool) : z_U (zs_T S v) = z_U S := rfl
theorem zl_C_T (S : zS) (v : Nat → Bool) : z_C (zs_T S v) = z_C S := rfl
theorem zl_D_T (S : zS) (v : Nat → Bool) : z_D (zs_T S v) = z_D S := rfl
theorem zl_T_T (S : zS) (v : Nat → Bool) : z_T (zs_T S v) = v := rfl
theorem zl_G_T (S : zS) (v : Nat → Bool) : z_G (zs_T S v) = z_G S := rfl
theorem zl_B_T (S : zS) (v : Nat → Bool) : z_B (zs_T S v) = z_B S := rfl
theorem zl_Q_T (S : zS) (v : Nat → Bool) : z_Q (zs_T S v) = z_Q S := rfl
theorem zl_qn_T (S : zS) (v : Nat → Bool) : z_qn (zs_T S v) = z_qn S := rfl
theorem zl_nc_T (S : zS) (v : Nat → Bool) : z_nc (zs_T S v) = z_nc S := rfl
theorem zl_nt_T (S : zS) (v : Nat → Bool) : z_nt (zs_T S v) = z_nt S := rfl
theorem zl_li_T (S : zS) (v : Nat → Bool) : z_li (zs_T S v) = z_li S := rfl
theorem zl_wi_T (S : zS) (v : Nat → Bool) : z_wi (zs_T S v) = z_wi S := rfl
theorem zl_no_T (S : zS) (v : Nat → Bool) : z_no (zs_T S v) = z_no S := rfl
theorem zl_bu_T (S : zS) (v : Nat → Bool) : z_bu (zs_T S v) = z_bu S := rfl
theorem zl_R_T (S : zS) (v : Nat → Bool) : z_R (zs_T S v) = z_R S := rfl
theorem zl_rC_T (S : zS) (v : Nat → Bool) : z_rC (zs_T S v) = z_rC S := rfl
theorem zl_rP_T (S : zS) (v : Nat → Bool) : z_rP (zs_T S v) = z_rP S := rfl
theorem zl_P_T (S : zS) (v : Nat → Bool) : z_P (zs_T S v) = z_P S := rfl
theorem zl_F_T (S : zS) (v : Nat → Bool) : z_F (zs_T S v) = z_F S := rfl
theorem zl_U_G (S : zS) (v : Nat → Nat) : z_U (zs_G S v) = z_U S := rfl
theorem zl_C_G (S : zS) (v : Nat → Nat) : z_C (zs_G S v) = z_C S := rfl
theorem zl_D_G (S : zS) (v : Nat → Nat) : z_D (zs_G S v) = z_D S := rfl
theorem zl_T_G (S : zS) (v : Nat → Nat) : z_T (zs_G S v) = z_T S := rfl
theorem zl_G_G (S : zS) (v : Nat → Nat) : z_G (zs_G S v) = v := rfl
theorem zl_B_G (S : zS) (v : Nat → Nat) : z_B (zs_G S v) = z_B S := rfl
theorem zl_Q_G (S : zS) (v : Nat → Nat) : z_Q (zs_G S v) = z_Q S := rfl
theorem zl_qn_G (S : zS) (v : Nat → Nat) : z_qn (zs_G S v) = z_qn S := rfl
theorem zl_nc_G (S : zS) (v : Nat → Nat) : z_nc (zs_G S v) = z_nc S := rfl
theorem zl_nt_G (S : zS) (v : Nat → Nat) : z_nt (zs_G S v) = z_nt S := rfl
theorem zl_li_G (S : zS) (v : Nat → Nat) : z_li (zs_G S v) = z_li S := rfl
theorem zl_wi_G (S : zS) (v : Nat → Nat) : z_wi (zs_G S v) = z_wi S := rfl
theorem zl_no_G (S : zS) (v : Nat → Nat) : z_no (zs_G S v) = z_no S := rfl
theorem zl_bu_G (S : zS) (v : Nat → Nat) : z_bu (zs_G S v) = z_bu S := rfl
theorem zl_R_G (S : zS) (v : Nat → Nat) : z_R (zs_G S v) = z_R S := rfl
theorem zl_rC_G (S : zS) (v : Nat → Nat) : z_rC (zs_G S v) = z_rC S := rfl
theorem zl_rP_G (S : zS) (v : Nat → Nat) : z_rP (zs_G S v) = z_rP S := rfl
theorem zl_P_G (S : zS) (v : Nat → Nat) : z_P (zs_G S v) = z_P S := rfl
theorem zl_F_G (S : zS) (v : Nat → Nat) : z_F (zs_G S v) = z_F S := rfl
theorem zl_U_B (S : zS) (v : Nat → Nat) : z_U (zs_B S v) = z_U S := rfl
theorem zl_C_B (S : zS) (v : Nat → Nat) : z_C (zs_B S v) = z_C S := rfl
theorem zl_D_B (S : zS) (v : Nat → Nat) : z_D (zs_B S v) = z_D S := rfl
theorem zl_T_B (S : zS) (v : Nat → Nat) : z_T (zs_B S v) = z_T S := rfl
theorem zl_G_B (S : zS) (v : Nat → Nat) : z_G (zs_B S v) = z_G S := rfl
theorem zl_B_B (S : zS) (v : Nat → Nat) : z_B (zs_B S v) = v := rfl
theorem zl_Q_B (S : zS) (v : Nat → Nat) : z_Q (zs_B S v) = z_Q S := rfl
theorem zl_qn_B (S : zS) (v : Nat → Nat) : z_qn (zs_B S v) = z_qn S := rfl
theorem zl_nc_B (S : zS) (v : Nat → Nat) : z_nc (zs_B S v) = z_nc S := rfl
theorem zl_nt_B (S : zS) (v : Nat → Nat) : z_nt (zs_B S v) = z_nt S := rfl
theorem zl_li_B (S : zS) (v : Nat → Nat) : z_li (zs_B S v) = z_li S := rfl
theorem zl_wi_B (S : zS) (v : Nat → Nat) : z_wi (zs_B S v) = z_wi S := rfl
theorem zl_no_B (S : zS) (v : Nat → Nat) : z_no (zs_B S v) = z_no S := rfl
theorem zl_bu_B (S : zS) (v : Nat → Nat) : z_bu (zs_B S v) = z_bu S := rfl
theorem zl_R_B (S : zS) (v : Nat → Nat) : z_R (zs_B S v) = z_R S := rfl
theorem zl_rC_B (S : zS) (v : Nat → Nat) : z_rC (zs_B S v) = z_rC S := rfl
theorem zl_rP_B (S : zS) (v : Nat → Nat) : z_rP (zs_B S v) = z_rP S := rfl
theorem zl_P_B (S : zS) (v : Nat → Nat) : z_P (zs_B S v) = z_P S := rfl
theorem zl_F_B (S : zS) (v : Nat → Nat) : z_F (zs_B S v) = z_F S := rfl
theorem zl_U_Q (S : zS) (v : Nat → Nat) : z_U (zs_Q S v) = z_U S := rfl
theorem zl_C_Q (S : zS) (v : Nat → Nat) : z_C (zs_Q S v) = z_C S := rfl
theorem zl_D_Q (S : zS) (v : Nat → Nat) : z_D (zs_Q S v) = z_D S := rfl
theorem zl_T_Q (S : zS) (v : Nat → Nat) : z_T (zs_Q S v) = z_T S := rfl
theorem zl_G_Q (S : zS) (v : Nat → Nat) : z_G (zs_Q S v) = z_G S := rfl
theorem zl_B_Q (S : zS) (v : Nat → Nat) : z_B (zs_Q S v) = z_B S := rfl
theorem zl_Q_Q (S : zS) (v : Nat → Nat) : z_Q (zs_Q S v) = v := rfl
theorem zl_qn_Q (S : zS) (v : Nat → Nat) : z_qn (zs_Q S v) = z_qn S := rfl
theorem zl_nc_Q (S : zS) (v : Nat → Nat) : z_nc (zs_Q S v) = z_nc S := rfl
theorem zl_nt_Q (S : zS) (v : Nat → Nat) : z_nt (zs_Q S v) = z_nt S := rfl
theorem zl_li_Q (S : zS) (v : Nat → Nat) : z_li (zs_Q S v) = z_li S := rfl
theorem zl_wi_Q (S : zS) (v : Nat → Nat) : z_wi (zs_Q S v) = z_wi S := rfl
theorem zl_no_Q (S : zS) (v : Nat → Nat) : z_no (zs_Q S v) = z_no S := rfl
theorem zl_bu_Q (S : zS) (v : Nat → Nat) : z_bu (zs_Q S v) = z_bu S := rfl
theorem zl_R_Q (S : zS) (v : Nat → Nat) : z_R (zs_Q S v) = z_R S := rfl
theorem zl_rC_Q (S : zS) (v : Nat → Nat) : z_rC (zs_Q S v) = z_rC S := rfl
theorem zl_rP_Q (S : zS) (v : Nat → Nat) : z_rP (zs_Q S v) = z_rP S := rfl
theorem zl_P_Q (S : zS) (v : Nat → Nat) : z_P (zs_Q S v) = z_P S := rfl
theorem zl_F_Q (S : zS) (v : Nat → Nat) : z_F (zs_Q S v) = z_F S := rfl
theorem zl_U_qn (S : zS) (v : Nat) : z_U (zs_qn S v) = z_U S := rfl
theorem zl_C_qn (S : zS) (v : Nat) : z_C (zs_qn S v) = z_C S := rfl
theorem zl_D_qn (S : zS) (v : Nat) : z_D (zs_qn S v) = z_D S := rfl
theorem zl_T_qn (S : zS) (v : Nat) : z_T (zs_qn S v) = z_T S := rfl
theorem zl_G_qn (S : zS) (v : Nat) : z_G (zs_qn S v) = z_G S := rfl
theorem zl_B_qn (S : zS) (v : Nat) : z_B (zs_qn S v) = z_B S := rfl
theorem zl_Q_qn (S : zS) (v : Nat) : z_Q (zs_qn S v) = z_Q S := rfl
theorem zl_qn_qn (S : zS) (v : Nat) : z_qn (zs_qn S v) = v := rfl
theorem zl_nc_qn (S : zS) (v : Nat) : z_nc (zs_qn S v) = z_nc S := rfl
theorem zl_nt_qn (S : zS) (v : Nat) : z_nt (zs_qn S v) = z_nt S := rfl
theorem zl_li_qn (S : zS) (v : Nat) : z_li (zs_qn S v) = z_li S := rfl
theorem zl_wi_qn (S : zS) (v : Nat) : z_wi (zs_qn S v) = z_wi S := rfl
theorem zl_no_qn (S : zS) (v : Nat) : z_no (zs_qn S v) = z_no S := rfl
theorem zl_bu_qn (S : zS) (v : Nat) : z_bu (zs_qn S v) = z_bu S := rfl
theorem zl_R_qn (S : zS) (v : Nat) : z_R (zs_qn S v) = z_R S := rfl
theorem zl_rC_qn (S : zS) (v : Nat) : z_rC (zs_qn S v) = z_rC S := rfl
theorem zl_rP_qn (S : zS) (v : Nat) : z_rP (zs_qn S v) = z_rP S := rfl
theorem zl_P_qn (S : zS) (v : Nat) : z_P (zs_qn S v) = z_P S := rfl
theorem zl_F_qn (S : zS) (v : Nat) : z_F (zs_qn S v) = z_F S := rfl
theorem zl_U_nc (S : zS) (v : Nat) : z_U (zs_nc S v) = z_U S := rfl
theorem zl_C_nc (S : zS) (v : Nat) : z_C (zs_nc S v) = z_C S := rfl
theorem zl_D_nc (S : zS) (v : Nat) : z_D (zs_nc S v) = z_D S := rfl
theorem zl_T_nc (S : zS) (v : Nat) : z_T (zs_nc S v) = z_T S := rfl
theorem zl_G_nc (S : zS) (v : Nat) : z_G (zs_nc S v) = z_G S := rfl
theorem zl_B_nc (S : zS) (v : Nat) : z_B (zs_nc S v) = z_B S := rfl
theorem zl_Q_nc (S : zS) (v : Nat) : z_Q (zs_nc S v) = z_Q S := rfl
theorem zl_qn_nc (S : zS) (v : Nat) : z_qn (zs_nc S v) = z_qn S := rfl
theorem zl_nc_nc (S : zS) (v : Nat) : z_nc (zs_nc S v) = v := rfl
theorem zl_nt_nc (S : zS) (v : Nat) : z_nt (zs_nc S v) = z_nt S := rfl
theorem zl_li_nc (S : zS) (v : Nat) : z_li (zs_nc S v) = z_li S := rfl
theorem zl_wi_nc (S : zS) (v : Nat) : z_wi (zs_nc S v) = z_wi S := rfl
theorem zl_no_nc (S : zS) (v : Nat) : z_no (zs_nc S v) = z_no S := rfl
theorem zl_bu_nc (S : zS) (v : Nat) : z_bu (zs_nc S v) = z_bu S := rfl
theorem zl_R_nc (S : zS) (v : Nat) : z_R (zs_nc S v) = z_R S := rfl
theorem zl_rC_nc (S : zS) (v : Nat) : z_rC (zs_nc S v) = z_rC S := rfl
theorem zl_rP_nc (S : zS) (v : Nat) : z_rP (zs_nc S v) = z_rP S := rfl
theorem zl_P_nc (S : zS) (v : Nat) : z_P (zs_nc S v) = z_P S := rfl
theorem zl_F_nc (S : zS) (v : Nat) : z_F (zs_nc S v) = z_F S := rfl
theorem zl_U_nt (S : zS) (v : Nat) : z_U (zs_nt S v) = z_U S := rfl
theorem zl_C_nt (S : zS) (v : Nat) : z_C (zs_nt S v) = z_C S := rfl
theorem zl_D_nt (S : zS) (v : Nat) : z_D (zs_nt S v) = z_D S := rfl
theorem zl_T_nt (S : zS) (v : Nat) : z_T (zs_nt S v) = z_T S := rfl
theorem zl_G_nt (S : zS) (v : Nat) : z_G (zs_nt S v) = z_G S := rfl
theorem zl_B_nt (S : zS) (v : Nat) : z_B (zs_nt S v) = z_B S := rfl
theorem zl_Q_nt (S : zS) (v : Nat) : z_Q (zs_nt S v) = z_Q S := rfl
theorem zl_qn_nt (S : zS) (v : Nat) : z_qn (zs_nt S v) = z_qn S := rfl
theorem zl_nc_nt (S : zS) (v : Nat) : z_nc (zs_nt S v) = z_nc S := rfl
theorem zl_nt_nt (S : zS) (v : Nat) : z_nt (zs_nt S v) = v := rfl
theorem zl_li_nt (S : zS) (v : Nat) : z_li (zs_nt S v) = z_li S := rfl
theorem zl_wi_nt (S : zS) (v : Nat) : z_wi (zs_nt S v) = z_wi S := rfl
theorem zl_no_nt (S : zS) (v : Nat) : z_no (zs_nt S v) = z_no S := rfl
theorem zl_bu_nt (S : zS) (v : Nat) : z_bu (zs_nt S v) = z_bu S := rfl
theorem zl_R_nt (S : zS) (v : Nat) : z_R (zs_nt S v) = z_R S := rfl
theorem zl_rC_nt (S : zS) (v : Nat) : z_rC (zs_nt S v) = z_rC S := rfl
theorem zl_rP_nt (S : zS) (v : Nat) : z_rP (zs_nt S v) = z_rP S := rfl
theorem zl_P_nt (S : zS) (v : Nat) : z_P (zs_nt S v) = z_P S := rfl
theorem zl_F_nt (S : zS) (v : Nat) : z_F (zs_nt S v) = z_F S := rfl
theorem zl_U_li (S : zS) (v : Nat) : z_U (zs_li S v) = z_U S := rfl
theorem zl_C_li (S : zS) (v : Nat) : z_C (zs_li S v) = z_C S := rfl
theorem zl_D_li (S : zS) (v : Nat) : z_D (zs_li S v) = z_D S := rfl
theorem zl_T_li (S : zS) (v : Nat) : z_T (zs_li S v) = z_T S := rfl
theorem zl_G_li (S : zS) (v : Nat) : z_G (zs_li S v) = z_G S := rfl
theorem zl_B_li (S : zS) (v : Nat) : z_B (zs_li S v) = z_B S := rfl
theorem zl_Q_li (S : zS) (v : Nat) : z_Q (zs_li S v) = z_Q S := rfl
theorem zl_qn_li (S : zS) (v : Nat) : z_qn (zs_li S v) = z_qn S := rfl
theorem zl_nc_li (S : zS) (v : Nat) : z_nc (zs_li S v) = z_nc S := rfl
theorem zl_nt_li (S : zS) (v : Nat) : z_nt (zs_li S v) = z_nt S := rfl
theorem zl_li_li (S : zS) (v : Nat) : z_li (zs_li S v) = v := rfl
theorem zl_wi_li (S : zS) (v : Nat) : z_wi (zs_li S v) = z_wi S := rfl
theorem zl_no_li (S : zS) (v : Nat) : z_no (zs_li S v) = z_no S := rfl
theorem zl_bu_li (S : zS) (v : Nat) : z_bu (zs_li S v) = z_bu S := rfl
theorem zl_R_li (S : zS) (v : Nat) : z_R (zs_li S v) = z_R S := rfl
theorem zl_rC_li (S : zS) (v : Nat) : z_rC (zs_li S v) = z_rC S := rfl
theorem zl_rP_li (S : zS) (v : Nat) : z_rP (zs_li S v) = z_rP S := rfl
theorem zl_P_li (S : zS) (v : Nat) : z_P (zs_li S v) = z_P S := rfl
theorem zl_F_li (S : zS) (v : Nat) : z_F (zs_li S v) = z_F S := rfl
theorem zl_U_wi (S : zS) (v : Nat) : z_U (zs_wi S v) = z_U S := rfl
theorem zl_C_wi (S : zS) (v : Nat) : z_C (zs_wi S v) = z_C S := rfl
theorem zl_D_wi (S : zS) (v : Nat) : z_D (zs_wi S v) = z_D S := rfl
theorem zl_T_wi (S : zS) (v : Nat) : z_T (zs_wi S v) = z_T S := rfl
theorem zl_G_wi (S : zS) (v : Nat) : z_G (zs_wi S v) = z_G S := rfl
theorem zl_B_wi (S : zS) (v : Nat) : z_B (zs_wi S v) = z_B S := rfl
theorem zl_Q_wi (S : zS) (v : Nat) : z_Q (zs_wi S v) = z_Q S := rfl
theorem zl_qn_wi (S : zS) (v : Nat) : z_qn (zs_wi S v) = z_qn S := rfl
theorem zl_nc_wi (S : zS) (v : Nat) : z_nc (zs_wi S v) = z_nc S := rfl
theorem zl_nt_wi (S : zS) (v : Nat) : z_nt (zs_wi S v) = z_nt S := rfl
theorem zl_li_wi (S : zS) (v : Nat) : z_li (zs_wi S v) = z_li S := rfl
theorem zl_wi_wi (S : zS) (v : Nat) : z_wi (zs_wi S v) = v := rfl
theorem zl_no_wi (S : zS) (v : Nat) : z_no (zs_wi S v) = z_no S := rfl
theorem zl_bu_wi (S : zS) (v : Nat) : z_bu (zs_wi S v) = z_bu S := rfl
theorem zl_R_wi (S : zS) (v : Nat) : z_R (zs_wi S v) = z_R S := rfl
theorem zl_rC_wi (S : zS) (v : Nat) : z_rC (zs_wi S v) = z_rC S := rfl
theorem zl_rP_wi (S : zS) (v : Nat) : z_rP (zs_wi S v) = z_rP S := rfl
theorem zl_P_wi (S : zS) (v : Nat) : z_P (zs_wi S v) = z_P S := rfl
theorem zl_F_wi (S : zS) (v : Nat) : z_F (zs_wi S v) = z_F S := rfl
theorem zl_U_no (S : zS) (v : Nat) : z_U (zs_no S v) = z_U S := rfl
theorem zl_C_no (S : zS) (v : Nat) : z_C (zs_no S v) = z_C S := rfl
theorem zl_D_no (S : zS) (v : Nat) : z_D (zs_no S v) = z_D S := rfl
theorem zl_T_no (S : zS) (v : Nat) : z_T (zs_no S v) = z_T S := rfl
theorem zl_G_no (S : zS) (v : Nat) : z_G (zs_no S v) = z_G S := rfl
theorem zl_B_no (S : zS) (v : Nat) : z_B (zs_no S v) = z_B S := rfl
theorem zl_Q_no (S : zS) (v : Nat) : z_Q (zs_no S v) = z_Q S := rfl
theorem zl_qn_no (S : zS) (v : Nat) : z_qn (zs_no S v) = z_qn S := rfl
theorem zl_nc_no (S : zS) (v : Nat) : z_nc (zs_no S v) = z_nc S := rfl
theorem zl_nt_no (S : zS) (v : Nat) : z_nt (zs_no S v) = z_nt S := rfl
theorem zl_li_no (S : zS) (v : Nat) : z_li (zs_no S v) = z_li S := rfl
theorem zl_wi_no (S : zS) (v : Nat) : z_wi (zs_no S v) = z_wi S := rfl
theorem zl_no_no (S : zS) (v : Nat) : z_no (zs_no S v) = v := rfl
theorem zl_bu_no (S : zS) (v : Nat) : z_bu (zs_no S v) = z_bu S := rfl
theorem zl_R_no (S : zS) (v : Nat) : z_R (zs_no S v) = z_R S := rfl
theorem zl_rC_no (S : zS) (v : Nat) : z_rC (zs_no S v) = z_rC S := rfl
theorem zl_rP_no (S : zS) (v : Nat) : z_rP (zs_no S v) = z_rP S := rfl
theorem zl_P_no (S : zS) (v : Nat) : z_P (zs_no S v) = z_P S := rfl
theorem zl_F_no (S : zS) (v : Nat) : z_F (zs_no S v) = z_F S := rfl
theorem zl_U_bu (S : zS) (v : Nat) : z_U (zs_bu S v) = z_U S := rfl
theorem zl_C_bu (S : zS) (v : Nat) : z_C (zs_bu S v) = z_C S := rfl
theorem zl_D_bu (S : zS) (v : Nat) : z_D (zs_bu S v) = z_D S := rfl
theorem zl_T_bu (S : zS) (v : Nat) : z_T (zs_bu S v) = z_T S := rfl
theorem zl_G_bu (S : zS) (v : Nat) : z_G (zs_bu S v) = z_G S := rfl
theorem zl_B_bu (S : zS) (v : Nat) : z_B (zs_bu S v) = z_B S := rfl
theorem zl_Q_bu (S : zS) (v : Nat) : z_Q (zs_bu S v) = z_Q S := rfl
theorem zl_qn_bu (S : zS) (v : Nat) : z_qn (zs_bu S v) = z_qn S := rfl
theorem zl_nc_bu (S : zS) (v : Nat) : z_nc (zs_bu S v) = z_nc S := rfl
theorem zl_nt_bu (S : zS) (v : Nat) : z_nt (zs_bu S v) = z_nt S := rfl
theorem zl_li_bu (S : zS) (v : Nat) : z_li (zs_bu S v) = z_li S := rfl
theorem zl_wi_bu (S : zS) (v : Nat) : z_wi (zs_bu S v) = z_wi S := rfl
theorem zl_no_bu (S : zS) (v : Nat) : z_no (zs_bu S v) = z_no S := rfl
theorem zl_bu_bu (S : zS) (v : Nat) : z_bu (zs_bu S v) = v := rfl
theorem zl_R_bu (S : zS) (v : Nat) : z_R (zs_bu S v) = z_R S := rfl
theorem zl_rC_bu (S : zS) (v : Nat) : z_rC (zs_bu S v) = z_rC S := rfl
theorem zl_rP_bu (S : zS) (v : Nat) : z_rP (zs_bu S v) = z_rP S := rfl
theorem zl_P_bu (S : zS) (v : Nat) : z_P (zs_bu S v) = z_P S := rfl
theorem zl_F_bu (S : zS) (v : Nat) : z_F (zs_bu S v) = z_F S := rfl
theorem zl_U_R (S : zS) (v : Nat → Nat) : z_U (zs_R S v) = z_U S := rfl
theorem zl_C_R (S : zS) (v : Nat → Nat) : z_C (zs_R S v) = z_C S := rfl
theorem zl_D_R (S : zS) (v : Nat → Nat) : z_D (zs_R S v) = z_D S := rfl
theorem zl_T_R (S : zS) (v : Nat → Nat) : z_T (zs_R S v) = z_T S := rfl
theorem zl_G_R (S : zS) (v : Nat → Nat) : z_G (zs_R S v) = z_G S := rfl
theorem zl_B_R (S : zS) (v : Nat → Nat) : z_B (zs_R S v) = z_B S := rfl
theorem zl_Q_R (S : zS) (v : Nat → Nat) : z_Q (zs_R S v) = z_Q S := rfl
theorem zl_qn_R (S : zS) (v : Nat → Nat) : z_qn (zs_R S v) = z_qn S := rfl
theorem zl_nc_R (S : zS) (v : Nat → Nat) : z_nc (zs_R S v) = z_nc S := rfl
theorem zl_nt_R (S : zS) (v : Nat → Nat) : z_nt (zs_R S v) = z_nt S := rfl
theorem zl_li_R (S : zS) (v : Nat → Nat) : z_li (zs_R S v) = z_li S := rfl
theorem zl_wi_R (S : zS) (v : Nat → Nat) : z_wi (zs_R S v) = z_wi S := rfl
theorem zl_no_R (S : zS) (v : Nat → Nat) : z_no (zs_R S v) = z_no S := rfl
theorem zl_bu_R (S : zS) (v : Nat → Nat) : z_bu (zs_R S v) = z_bu S := rfl
theorem zl_R_R (S : zS) (v : Nat → Nat) : z_R (zs_R S v) = v := rfl
theorem zl_rC_R (S : zS) (v : Nat → Nat) : z_rC (zs_R S v) = z_rC S := rfl
theorem zl_rP_R (S : zS) (v : Nat → Nat) : z_rP (zs_R S v) = z_rP S := rfl
theorem zl_P_R (S : zS) (v : Nat → Nat) : z_P (zs_R S v) = z_P S := rfl
theorem zl_F_R (S : zS) (v : Nat → Nat) : z_F (zs_R S v) = z_F S := rfl
theorem zl_U_rC (S : zS) (v : Nat → Nat → Nat) : z_U (zs_rC S v) = z_U S := rfl
theorem zl_C_rC (S : zS) (v : Nat → Nat → Nat) : z_C (zs_rC S v) = z_C S := rfl
theorem zl_D_rC (S : zS) (v : Nat → Nat → Nat) : z_D (zs_rC S v) = z_D S := rfl
theorem zl_T_rC (S : zS) (v : Nat → Nat → Nat) : z_T (zs_rC S v) = z_T S := rfl
theorem zl_G_rC (S : zS) (v : Nat → Nat → Nat) : z_G (zs_rC S v) = z_G S := rfl
theorem zl_B_rC (S : zS) (v : Nat → Nat → Nat) : z_B (zs_rC S v) = z_B S := rfl
theorem zl_Q_rC (S : zS) (v : Nat → Nat → Nat) : z_Q (zs_rC S v) = z_Q S := rfl
theorem zl_qn_rC (S : zS) (v : Nat → Nat → Nat) : z_qn (zs_rC S v) = z_qn S := rfl
theorem zl_nc_rC (S : zS) (v : Nat → Nat → Nat) : z_nc (zs_rC S v) = z_nc S := rfl
theorem zl_nt_rC (S : zS) (v : Nat → Nat → Nat) : z_nt (zs_rC S v) = z_nt S := rfl
theorem zl_li_rC (S : zS) (v : Nat → Nat → Nat) : z_li (zs_rC S v) = z_li S := rfl
theorem zl_wi_rC (S : zS) (v : Nat → Nat → Nat) : z_wi (zs_rC S v) = z_wi S := rfl
theorem zl_no_rC (S : zS) (v : Nat → Nat → Nat) : z_no (zs_rC S v) = z_no S := rfl
theorem zl_bu_rC (S : zS) (v : Nat → Nat → Nat) : z_bu (zs_rC S v) = z_bu S := rfl
theorem zl_R_rC (S : zS) (v : Nat → Nat → Nat) : z_R (zs_rC S v) = z_R S := rfl
theorem zl_rC_rC (S : zS) (v : Nat → Nat → Nat) : z_rC (zs_rC S v) = v := rfl
theorem zl_rP_rC (S : zS) (v : Nat → Nat → Nat) : z_rP (zs_rC S v) = z_rP S := rfl
theorem zl_P_rC (S : zS) (v : Nat → Nat → Nat) : z_P (zs_rC S v) = z_P S := rfl
theorem zl_F_rC (S : zS) (v : Nat → Nat → Nat) : z_F (zs_rC S v) = z_F S := rfl
theorem zl_U_rP (S : zS) (v : Nat → Nat → Nat) : z_U (zs_rP S v) = z_U S := rfl
theorem zl_C_rP (S : zS) (v : Nat → Nat → Nat) : z_C (zs_rP S v) = z_C S := rfl
theorem zl_D_rP (S : zS) (v : Nat → Nat → Nat) : z_D (zs_rP S v) = z_D S := rfl
theorem zl_T_rP (S : zS) (v : Nat → Nat → Nat) : z_T (zs_rP S v) = z_T S := rfl
theorem zl_G_rP (S : zS) (v : Nat → Nat → Nat) : z_G (zs_rP S v) = z_G S := rfl
theorem zl_B_rP (S : zS) (v : Nat → Nat → Nat) : z_B (zs_rP S v) = z_B S := rfl
theorem zl_Q_rP (S : zS) (v : Nat → Nat → Nat) : z_Q (zs_rP S v) = z_Q S := rfl
theorem zl_qn_rP (S : zS) (v : Nat → Nat → Nat) : z_qn (zs_rP S v) = z_qn S := rfl
theorem zl_nc_rP (S : zS) (v : Nat → Nat → Nat) : z_nc (zs_rP S v) = z_nc S := rfl
theorem zl_nt_rP (S : zS) (v : Nat → Nat → Nat) : z_nt (zs_rP S v) = z_nt S := rfl
theorem zl_li_rP (S : zS) (v : Nat → Nat → Nat) : z_li (zs_rP S v) = z_li S := rfl
theorem zl_wi_rP (S : zS) (v : Nat → Nat → Nat) : z_wi (zs_rP S v) = z_wi S := rfl
theorem zl_no_rP (S : zS) (v : Nat → Nat → Nat) : z_no (zs_rP S v) = z_no S := rfl
theorem zl_bu_rP (S : zS) (v : Nat → Nat → Nat) : z_bu (zs_rP S v) = z_bu S := rfl
theorem zl_R_rP (S : zS) (v : Nat → Nat → Nat) : z_R (zs_rP S v) = z_R S := rfl
theorem zl_rC_rP (S : zS) (v : Nat → Nat → Nat) : z_rC (zs_rP S v) = z_rC S := rfl
theorem zl_rP_rP (S : zS) (v : Nat → Nat → Nat) : z_rP (zs_rP S v) = v := rfl
theorem zl_P_rP (S : zS) (v : Nat → Nat → Nat) : z_P (zs_rP S v) = z_P S := rfl
theorem zl_F_rP (S : zS) (v : Nat → Nat → Nat) : z_F (zs_rP S v) = z_F S := rfl
theorem zl_U_P (S : zS) (v : Nat → Nat → Nat) : z_U (zs_P S v) = z_U S := rfl
theorem zl_C_P (S : zS) (v : Nat → Nat → Nat) : z_C (zs_P S v) = z_C S := rfl
theorem zl_D_P (S : zS) (v : Nat → Nat → Nat) : z_D (zs_P S v) = z_D S := rfl
theorem zl_T_P (S : zS) (v : Nat → Nat → Nat) : z_T (zs_P S v) = z_T S := rfl
theorem zl_G_P (S : zS) (v : Nat → Nat → Nat) : z_G (zs_P S v) = z_G S := rfl
theorem zl_B_P (S : zS) (v : Nat → Nat → Nat) : z_B (zs_P S v) = z_B S := rfl
theorem zl_Q_P (S : zS) (v : Nat → Nat → Nat) : z_Q (zs_P S v) = z_Q S := rfl
theorem zl_qn_P (S : zS) (v : Nat → Nat → Nat) : z_qn (zs_P S v) = z_qn S := rfl
theorem zl_nc_P (S : zS) (v : Nat → Nat → Nat) : z_nc (zs_P S v) = z_nc S := rfl
theorem zl_nt_P (S : zS) (v : Nat → Nat → Nat) : z_nt (zs_P S v) = z_nt S := rfl
theorem zl_li_P (S : zS) (v : Nat → Nat → Nat) : z_li (zs_P S v) = z_li S := rfl
theorem zl_wi_P (S : zS) (v : Nat → Nat → Nat) : z_wi (zs_P S v) = z_wi S := rfl
theorem zl_no_P (S : zS) (v : Nat → Nat → Nat) : z_no (zs_P S v) = z_no S := rfl
theorem zl_bu_P (S : zS) (v : Nat → Nat → Nat) : z_bu (zs_P S v) = z_bu S := rfl
theorem zl_R_P (S : zS) (v : Nat → Nat → Nat) : z_R (zs_P S v) = z_R S := rfl
theorem zl_rC_P (S : zS) (v : Nat → Nat → Nat) : z_rC (zs_P S v) = z_rC S := rfl
theorem zl_rP_P (S : zS) (v : Nat → Nat → Nat) : z_rP (zs_P S v) = z_rP S := rfl
theorem zl_P_P (S : zS) (v : Nat → Nat → Nat) : z_P (zs_P S v) = v := rfl
theorem zl_F_P (S : zS) (v : Nat → Nat → Nat) : z_F (zs_P S v) = z_F S := rfl
theorem zl_U_F (S : zS) (v : Nat → Nat → Nat) : z_U (zs_F S v) = z_U S := rfl
theorem zl_C_F (S : zS) (v : Nat → Nat → Nat) : z_C (zs_F S v) = z_C S := rfl
theorem zl_D_F (S : zS) (v : Nat → Nat → Nat) : z_D (zs_F S v) = z_D S := rfl
theorem zl_T_F (S : zS) (v : Nat → Nat → Nat) : z_T (zs_F S v) = z_T S := rfl
theorem zl_G_F (S : zS) (v : Nat → Nat → Nat) : z_G (zs_F S v) = z_G S := rfl
theorem zl_B_F (S : zS) (v : Nat → Nat → Nat) : z_B (zs_F S v) = z_B S := rfl
theorem zl_Q_F (S : zS) (v : Nat → Nat → Nat) : z_Q (zs_F S v) = z_Q S := rfl
theorem zl_qn_F (S : zS) (v : Nat → Nat → Nat) : z_qn (zs_F S v) = z_qn S := rfl
theorem zl_nc_F (S : zS) (v : Nat → Nat → Nat) : z_nc (zs_F S v) = z_nc S := rfl
theorem zl_nt_F (S : zS) (v : Nat → Nat → Nat) : z_nt (zs_F S v) = z_nt S := rfl
theorem zl_li_F (S : zS) (v : Nat → Nat → Nat) : z_li (zs_F S v) = z_li S := rfl
theorem zl_wi_F (S : zS) (v : Nat → Nat → Nat) : z_wi (zs_F S v) = z_wi S := rfl
theorem zl_no_F (S : zS) (v : Nat → Nat → Nat) : z_no (zs_F S v) = z_no S := rfl
theorem zl_bu_F (S : zS) (v : Nat → Nat → Nat) : z_bu (zs_F S v) = z_bu S := rfl
theorem zl_R_F (S : zS) (v : Nat → Nat → Nat) : z_R (zs_F S v) = z_R S := rfl
theorem zl_rC_F (S : zS) (v : Nat → Nat → Nat) : z_rC (zs_F S v) = z_rC S := rfl
theorem zl_rP_F (S : zS) (v : Nat → Nat → Nat) : z_rP (zs_F S v) = z_rP S := rfl
theorem zl_P_F (S : zS) (v : Nat → Nat → Nat) : z_P (zs_F S v) = z_P S := rfl
theorem zl_F_F (S : zS) (v : Nat → Nat → Nat) : z_F (zs_F S v) = v := rfl
/-! ===== sums, counts, masks ===== -/
def sm (f : Nat → Nat) : Nat → Nat
  | 0 => 0
  | n + 1 => sm f n + f n
def b1 (b : Bool) : Nat := if b then 1 else 0
def ct (p : Nat → Bool) (n : Nat) : Nat := sm (fun i => b1 (p i)) n
def msk (p : Nat → Bool) : Nat → Nat
  | 0 => 0
  | n + 1 => msk p n ||| (if p n then 2 ^ n else 0)
/-- the place of t among the first n of Q, from 1 on; 0: none -/
def plc (Q : Nat → Nat) : Nat → Nat → Nat
  | 0, _ => 0
  | n + 1, t => if Q n = t then n + 1 else plc Q n t
/-- a round over the parts: those of m and those that these use (of the first n) -/
def stp (U : Nat → Nat) (m : Nat) : Nat → Nat
  | 0 => m
  | n + 1 => if m.testBit n then stp U m n ||| U n else stp U m n
def rch (U : Nat → Nat) (m : Nat) : Nat → Nat
  | 0 => m
  | n + 1 => stp U (rch U m n) 16
def up2 (f : Nat → Nat → Nat) (a b v : Nat) : Nat → Nat → Nat := fun i j => if i = a then (if j = b then v else f i j) else f i j
/-! ===== the class's cells ===== -/
def zrows (cI : ClassId) (a : Nat → Nat) (b n : Nat) (f : Nat → Nat → Nat) : va_W := (List.range 12).map (fun t => (a (b + t), .inl (cI, n, .inl (fun j => nI (f t j)))))
def zout (a : Nat → Nat) (b : Nat) : Nat → Option Nat := fun i => if i < 12 then some (a (b + i)) else none
def wX1 (cI cZ cQ : ClassId) (a : Nat → Nat) (S : zS) : va_W :=
  [(a 0, .inr (1, [.ref (a 1), .ref (a 2), .ref (a 3), .ref (a 4), .ref (a 5), .ref (a 6), .ref (a 7), .ref (a 8), .int (nI (z_qn S)), .int (nI (z_nc S)), .int (nI (z_nt S)), .int (nI (z_li S)), .int (nI (z_wi S)), .int (nI (z_no S)), .int (nI (z_bu S))])),
   (a 1, .inl (cI, 16, .inl (fun j => nI (z_U S j)))),
   (a 2, .inl (cI, 40, .inl (fun j => nI (z_C S j)))),
   (a 3, .inl (cI, 12, .inl (fun j => nI (z_D S j)))),
   (a 4, .inr (0, [.ref (a 9), .ref (a 10), .ref (a 11), .ref (a 12), .ref (a 13)])),
   (a 5, .inl (cZ, 12, .inl (fun j => bI (z_T S j)))),
   (a 6, .inl (cI, 12, .inl (fun j => nI (z_G S j)))),
   (a 7, .inl (cI, 12, .inl (fun j => nI (z_B S j)))),
   (a 8, .inl (cI, 12, .inl (fun j => nI (plc (z_Q S) (z_qn S) j)))),
   (a 9, .inl (cI, 12, .inl (fun j => nI (z_R S j)))),
   (a 10, .inl (cQ, 12, .inr (.inr (.inr (.inr (zout a 20)))))),
   (a 11, .inl (cQ, 12, .inr (.inr (.inr (.inr (zout a 40)))))),
   (a 12, .inl (cQ, 12, .inr (.inr (.inr (.inr (zout a 60)))))),
   (a 13, .inl (cQ, 12, .inr (.inr (.inr (.inr (zout a 80))))))]
def wX2 (cI : ClassId) (a : Nat → Nat) (S : zS) : va_W := zrows cI a 20 200 (z_rC S) ++ (zrows cI a 40 200 (z_rP S) ++ (zrows cI a 60 40 (z_P S) ++ zrows cI a 80 40 (z_F S)))
def wX (cI cZ cQ : ClassId) (a : Nat → Nat) (S : zS) : va_W := wX1 cI cZ cQ a S ++ wX2 cI a S
abbrev wTy (cI cZ cQ cJ : ClassId) : List (ClassId × FieldType) := [(cI, .int), (cZ, .boolean), (cQ, .array .int), (cJ, .long)]
/-! ===== the model's cells ===== -/
def zgood (S : zS) : Nat → Int32 := fun j => if z_T S j then nI (z_G S j) else -1
def wM (cI : ClassId) (b : Nat → Nat) (S : zS) (th : Nat) : va_W :=
  [(b 0, .inr (2, [.int (nI (z_nc S)), .int (nI (z_nt S)), .int (nI (z_li S)), .int (nI (z_wi S)), .int (nI (z_no S)), .int (nI (z_bu S)), .ref (b 1), .ref (b 2), .ref (b 3), .ref (b 4), .ref (b 5), .ref (b 6), .ref (b 7), .ref (b 8), .int (nI (z_qn S)), .int (nI th)])),
   (b 1, .inl (cI, 16, .inl (fun j => nI (z_U S j)))),
   (b 2, .inl (cI, 40, .inl (fun j => nI (z_C S j)))),
   (b 3, .inl (cI, 12, .inl (fun j => nI (z_D S j)))),
   (b 4, .inl (cI, 480, .inl (fun j => nI (z_P S (j / 40) (j % 40))))),
   (b 5, .inl (cI, 480, .inl (fun j => nI (z_F S (j / 40) (j % 40))))),
   (b 6, .inl (cI, 12, .inl (zgood S))),
   (b 7, .inl (cI, 12, .inl (fun j => nI (z_B S j)))),
   (b 8, .inl (cI, 12, .inl (fun j => nI (z_Q S j))))]
/-! ===== what holds of every state that is reached ===== -/
def hit (S : zS) (t c v : Nat) : Nat → Bool := fun r => decide (z_rC S t r = c ∧ z_rP S t r = v)
def zOK (S : zS) : Prop :=
  (z_nc S ≤ 40 ∧ z_nt S ≤ 12 ∧ 1 ≤ z_li S ∧ z_li S ≤ 10 ∧ 1 ≤ z_wi S ∧ z_wi S ≤ 40 ∧ z_no S ≤ 20 ∧ z_bu S ≤ 100) ∧
  (∀ j, z_U S j < 65536 ∧ z_C S j < 65536 ∧ z_D S j < 65536) ∧
  (∀ t, z_T S t = true → t < z_nt S ∧ z_G S t < z_B S t ∧ z_B S t < z_nc S) ∧
  ((∀ k, k < z_qn S → z_T S (z_Q S k) = true) ∧ (∀ i j, i < z_qn S → j < z_qn S → z_Q S i = z_Q S j → i = j)) ∧
  (∀ t, z_R S t ≤ 200 ∧ (∀ r, r < z_R S t → z_rC S t r < 40 ∧ z_rP S t r ≤ 1)) ∧
  (∀ t c, z_P S t c = ct (hit S t c 1) (z_R S t) ∧ z_F S t c = ct (hit S t c 0) (z_R S t))
end
section
/-! ===== the V layer: writing, entering, leaving, calling ===== -/
section VCALL
variable {p : Program} {l : Launch} {e : Env} {R : Room} {s : State} {m : MethodId} {args : Array Value} {below : List Frame} {meth : Method} {c : Code} {cells slots : Nat} {Q : State → Prop} {Ph : va_W → Heap → List Loc → Prop} {nL : Nat}
variable {D : va_G} {tys : List (ClassId × FieldType)} {cc : ByteArray} {Ts : List Cond} {own : String}
variable {pc : Nat} {lv : List (Nat × Value)} {st : List Value} {w : va_W}
variable {A : Nat → Prop}
theorem v_put (E : v_E p s m args meth c D tys cc nL Ts own (v_rw D A s)) {a : Nat} {ref C : String} {T : u_T} {N ci index : Nat} {fs : List Value} {v : Value} {ty : FieldType} {w' : va_W} (hdg : decode cc pc = .ok (.putfield index, 3)) (q0 : Nat) (f : Nat) (ty0 : Nat → FieldType) (hty : ∀ k, k < N → parseFieldDescriptor (T k).2.2.1 = some (ty0 k)) (hnm : ∀ a, a < N → ∀ b, b < N → a ≠ b → (T a).2.1 ≠ (T b).2.1) (hin : ∀ w ∈ u_ws C T N, w ∈ Ts) (he : w[q0]? = some (a, .inr (ci, fs))) (hc : vwCl[ci]? = some (C, T, N)) (hk : f < N) (hlink : Cond.fieldLink own index ref (T f).2.1 (T f).2.2.1 ∈ Ts) (hsame : (T f).1 = ref) (hfin : (T f).2.2.2 = false) (hd : parseFieldDescriptor (T f).2.2.1 = some ty) (hn : narrow ty v = v) (hfit : fits ty v = true) (hl : f < fs.length) (hw : w.set q0 (a, .inr (ci, fs.set f v)) = w')
    (k : V p l e R s m args below meth c cells slots Q (v_rw D A s) nL (pc + 3) lv st w') : V p l e R s m args below meth c cells slots Q (v_rw D A s) nL pc lv (v :: .ref a :: st) w :=
  fun H locs ls hP hl9 => va_put (ty := ty) E.1 E.2.1 E.2.2.2.1 hin ty0 hty hnm E.2.2.2.2.1 E.2.2.2.2.2.1 hP.1 hP.2.1 hP.2.2 q0 he hc f hk (E.2.2.2.1 _ hlink) (fun _ h9 => by rw [← hsame]; exact h9) hfin hd hn hfit hl hdg (fun H1 locs1 h1 h2 h3 => k H1 locs1 ls ⟨by rw [← hw]; exact h1, by rw [← hw]; exact h2, h3⟩ hl9)
theorem v_iast (E : v_E p s m args meth c D tys cc nL Ts own (v_rw D A s)) {a n i : Nat} {cA : ClassId} {f : Nat → Int32} {x : Int32} {w' : va_W} (hdg : decode cc pc = .ok (.iastore, 1)) (q0 t0 : Nat) (ha : w[q0]? = some (a, .inl (cA, n, .inl f))) (ht : tys[t0]? = some (cA, .int)) (hi : i < n) (hn : n < 2 ^ 31) (hw : w.set q0 (a, .inl (cA, n, .inl (upd f i x))) = w')
    (k : V p l e R s m args below meth c cells slots Q (v_rw D A s) nL (pc + 1) lv st w') : V p l e R s m args below meth c cells slots Q (v_rw D A s) nL pc lv (.int x :: .int (nI i) :: .ref a :: st) w :=
  fun H locs ls hP hl9 => va_iast E.1 E.2.1 E.2.2.2.2.2.1 hP.1 hP.2.1 hP.2.2 q0 t0 ha ht (vp_in_nI hi hn) hdg (fun H1 locs1 h1 h2 h3 => by
    rw [nI_clamp (Nat.lt_trans hi hn)] at h1 h2
    exact k H1 locs1 ls ⟨by rw [← hw]; exact h1, by rw [← hw]; exact h2, h3⟩ hl9)
theorem v_last (E : v_E p s m args meth c D tys cc nL Ts own (v_rw D A s)) {a n i : Nat} {cA : ClassId} {f : Nat → Int64} {x : Int64} {w' : va_W} (hdg : decode cc pc = .ok (.lastore, 1)) (q0 t0 : Nat) (ha : w[q0]? = some (a, .inl (cA, n, .inr (.inl f)))) (ht : tys[t0]? = some (cA, .long)) (hi : i < n) (hn : n < 2 ^ 31) (hw : w.set q0 (a, .inl (cA, n, .inr (.inl (vp_updL f i x)))) = w')
    (k : V p l e R s m args below meth c cells slots Q (v_rw D A s) nL (pc + 1) lv st w') : V p l e R s m args below meth c cells slots Q (v_rw D A s) nL pc lv (.long x :: .int (nI i) :: .ref a :: st) w :=
  fun H locs ls hP hl9 => va_last E.1 E.2.1 E.2.2.2.2.2.1 hP.1 hP.2.1 hP.2.2 q0 t0 ha ht (vp_in_nI hi hn) hdg (fun H1 locs1 h1 h2 h3 => by
    rw [nI_clamp (Nat.lt_trans hi hn)] at h1 h2
    exact k H1 locs1 ls ⟨by rw [← hw]; exact h1, by rw [← hw]; exact h2, h3⟩ hl9)
theorem v_zast (E : v_E p s m args meth c D tys cc nL Ts own (v_rw D A s)) {a n i : Nat} {cA : ClassId} {f : Nat → Int32} {b : Bool} {w' : va_W} (hdg : decode cc pc = .ok (.bastore, 1)) (q0 t0 : Nat) (ha : w[q0]? = some (a, .inl (cA, n, .inl f))) (ht : tys[t0]? = some (cA, .boolean)) (hi : i < n) (hn : n < 2 ^ 31) (hw : w.set q0 (a, .inl (cA, n, .inl (upd f i (bI b)))) = w')
    (k : V p l e R s m args below meth c cells slots Q (v_rw D A s) nL (pc + 1) lv st w') : V p l e R s m args below meth c cells slots Q (v_rw D A s) nL pc lv (.int (bI b) :: .int (nI i) :: .ref a :: st) w :=
  fun H locs ls hP hl9 => va_zast E.1 E.2.1 E.2.2.2.2.2.1 hP.1 hP.2.1 hP.2.2 q0 t0 ha ht (vp_in_nI hi hn) hdg (fun H1 locs1 h1 h2 h3 => by
    have e9 : vp_nar .boolean (bI b) = bI b := by cases b <;> rfl
    rw [nI_clamp (Nat.lt_trans hi hn), e9] at h1 h2
    exact k H1 locs1 ls ⟨by rw [← hw]; exact h1, by rw [← hw]; exact h2, h3⟩ hl9)
def v_pre (D : va_G) (tys : List (ClassId × FieldType)) (w : va_W) : State → Prop := fun U => va_P D vwCl w U.heap ∧ va_K D vwCl tys U
theorem v_preB {av : List Value} : FrameBlind (va_Pc av (v_pre D tys w)) := fun a U g mk q => ⟨q.1, q.2.1, va_K.moved (u := U) (U := U.calling g mk a) (Vm.Alike.refl U.vm) q.2.2⟩
theorem v_reader {y : MethodName} {ws ws' : List Cond} {rm : Room} {maxL : Nat} {ret : Option FieldType} {Qc : Array Value → State → Outcome → State → Prop} {av : List Value} {lv0 : List (Nat × Value)}
    (hy : plainName y.cls = true) (hw : ws = Cond.code y cc maxL ret :: ws') (ho : y.cls = own) (hn : (lg_sl av).length ≤ maxL) (hlv : lv_args 0 av = lv0)
    (body : ∀ (p : Program) (e : Env) (s : State) (m : MethodId) (args : Array Value) (below : List Frame) (meth : Method) (c : Code), v_E p s m args meth c D tys cc maxL ws own (v_ro D s) → meth.sig.returnType = ret →
      V p l e (headSpec ws rm).room s m args below meth c 0 0 (MQ below Qc args s 0 0 (fun _ => False)) (v_ro D s) maxL 0 lv0 [] w) : Met l y ws rm (va_Pc av (v_pre D tys w)) Qc 0 0 (fun _ => False) := by
  refine Met.ofW hy hw ?_
  intro p e s m args below meth c s₁ B hml hv
  obtain ⟨rfl, hP, hK⟩ := hv
  have h := body p e s m av.toArray below meth c ⟨B.exec, B.bytes, hml, atoms_spec (ws := ws) B.pre, by rw [← ho]; exact findClass_of_methodNamed B.named, hK, B.notSynchronized, fun _ _ _ q => q.1⟩ B.returns
  rw [lg_entry_eq]
  have hl := lv_entry av (n := maxL) hn
  rw [hlv] at hl
  exact h s.heap [] _ ⟨hP, rfl, rfl⟩ hl
theorem v_ret (E : v_E p s m args meth c D tys cc nL Ts own (v_ro D s)) {post : Int32 → Prop} {v : Int32} (hr : meth.sig.returnType = some .int) (hp : post v) (hdg : decode cc pc = .ok (.ireturn, 1)) : V p l e R s m args below meth c cells slots (MQ below (vp_Si post) args s cells slots (fun _ => False)) (v_ro D s) nL pc lv [.int v] w :=
  fun H locs ls hP hl => W.iret E.1 E.2.1 hr (fun t ht _ => ⟨v, rfl, hp, ht.trans hP.2.1⟩) (fun q hq => by rw [hP.2.2] at hq; cases hq) hdg E.2.2.2.2.2.2.1
theorem v_retz (E : v_E p s m args meth c D tys cc nL Ts own (v_ro D s)) {post : Int32 → Prop} {v : Int32} (hr : meth.sig.returnType = some .boolean) (hz : narrow .boolean (.int v) = .int v) (hp : post v) (hdg : decode cc pc = .ok (.ireturn, 1)) : V p l e R s m args below meth c cells slots (MQ below (vp_Si post) args s cells slots (fun _ => False)) (v_ro D s) nL pc lv [.int v] w :=
  fun H locs ls hP hl => W.zret E.1 E.2.1 hr hz (fun t ht _ => ⟨v, rfl, hp, ht.trans hP.2.1⟩) (fun q hq => by rw [hP.2.2] at hq; cases hq) hdg E.2.2.2.2.2.2.1
theorem v_retl (E : v_E p s m args meth c D tys cc nL Ts own (v_ro D s)) {post : Int64 → Prop} {v : Int64} (hr : meth.sig.returnType = some .long) (hp : post v) (hdg : decode cc pc = .ok (.lreturn, 1)) : V p l e R s m args below meth c cells slots (MQ below (vp_Sl post) args s cells slots (fun _ => False)) (v_ro D s) nL pc lv [.long v] w :=
  fun H locs ls hP hl => W.lret E.1 E.2.1 hr (fun t ht _ => ⟨v, rfl, hp, ht.trans hP.2.1⟩) (fun q hq => by rw [hP.2.2] at hq; cases hq) hdg E.2.2.2.2.2.2.1
theorem v_cVi (E : v_E p s m args meth c D tys cc nL Ts own Ph) {y : MethodName} {C : String} {index n maxL : Nat} {bytes : ByteArray} {ret : Option FieldType} {ws' : List Cond} {rm : Room} {b ci : Nat} {fs : List Value} {As st0 : List Value} {q : vw_C} {post : Int32 → Prop} {w' : va_W} (hdg : decode cc pc = .ok (.invokevirtual index, 3))
    (hM : Met l y ws' rm (va_Pc (.ref b :: As) (v_pre D tys w')) (vp_Si post) 0 0 (fun _ => False)) (cw : CallW R s args own C index y bytes maxL ret ws' rm 0 0 n) (q0 : Nat) (he : w[q0]? = some (b, .inr (ci, fs))) (hc : vwCl[ci]? = some q) (hC : q.1 = C) (hsub : ∀ H : Heap, va_P D vwCl w H → va_P D vwCl w' H) (hn : As.length = n) (hst : st0 = As.reverse ++ .ref b :: st) (hcs : cells ≤ R.cells ∧ slots ≤ R.slots) (hrm : (st.map fun v => v.category).sum ≤ 8)
    (k : ∀ r : Int32, post r → V p l e R s m args below meth c cells slots Q Ph nL (pc + 3) lv (.int r :: st) w) : V p l e R s m args below meth c cells slots Q Ph nL pc lv st0 w := by
  intro H locs ls hP hl
  have hPw := E.2.2.2.2.2.2.2 _ _ _ hP
  subst hC
  exact vp_callSi (W.runV (As := As) (rest := st) ⟨E.1, E.2.1, E.2.2.1, E.2.2.2.2.1, E.2.2.2.1⟩ hM cw ⟨v_preB, va_recv E.2.2.2.2.2.1 hPw hc he, fun U hU hW => ⟨rfl, by rw [hU]; exact hsub _ hPw, va_K.moved hW.alike E.2.2.2.2.2.1⟩⟩ rfl hn hl.1 hst (lv_room hrm) hdg ⟨hcs.1, hcs.2⟩) (fun r hr => k r hr H locs ls hP hl)
theorem v_cSi (E : v_E p s m args meth c D tys cc nL Ts own Ph) {y : MethodName} {index n maxL : Nat} {bytes : ByteArray} {ret : Option FieldType} {ws' : List Cond} {rm : Room} {As st0 : List Value} {post : Int32 → Prop} {w' : va_W} (hdg : decode cc pc = .ok (.invokestatic index, 3))
    (hM : Met l y ws' rm (va_Pc As (v_pre D tys w')) (vp_Si post) 0 0 (fun _ => False)) (cw : CallB R s args own index y bytes maxL ret ws' rm 0 0 n ∧ (Cond.static y).before args s = true) (hsub : ∀ H : Heap, va_P D vwCl w H → va_P D vwCl w' H) (hn : As.length = n) (hst : st0 = As.reverse ++ st) (hcs : cells ≤ R.cells ∧ slots ≤ R.slots) (hrm : (st.map fun v => v.category).sum ≤ 8)
    (k : ∀ r : Int32, post r → V p l e R s m args below meth c cells slots Q Ph nL (pc + 3) lv (.int r :: st) w) : V p l e R s m args below meth c cells slots Q Ph nL pc lv st0 w := by
  intro H locs ls hP hl
  have hPw := E.2.2.2.2.2.2.2 _ _ _ hP
  exact vp_callSi (W.runS (As := As) (rest := st) ⟨E.1, E.2.1, E.2.2.1, E.2.2.2.2.1, E.2.2.2.1⟩ hM cw ⟨v_preB, fun U hU hW => ⟨rfl, by rw [hU]; exact hsub _ hPw, va_K.moved hW.alike E.2.2.2.2.2.1⟩⟩ rfl hn hl.1 hst (lv_room hrm) hdg ⟨hcs.1, hcs.2⟩) (fun r hr => k r hr H locs ls hP hl)
theorem v_cVl (E : v_E p s m args meth c D tys cc nL Ts own Ph) {y : MethodName} {C : String} {index n maxL : Nat} {bytes : ByteArray} {ret : Option FieldType} {ws' : List Cond} {rm : Room} {b ci : Nat} {fs : List Value} {As st0 : List Value} {q : vw_C} {post : Int64 → Prop} {w' : va_W} (hdg : decode cc pc = .ok (.invokevirtual index, 3))
    (hM : Met l y ws' rm (va_Pc (.ref b :: As) (v_pre D tys w')) (vp_Sl post) 0 0 (fun _ => False)) (cw : CallW R s args own C index y bytes maxL ret ws' rm 0 0 n) (q0 : Nat) (he : w[q0]? = some (b, .inr (ci, fs))) (hc : vwCl[ci]? = some q) (hC : q.1 = C) (hsub : ∀ H : Heap, va_P D vwCl w H → va_P D vwCl w' H) (hn : As.length = n) (hst : st0 = As.reverse ++ .ref b :: st) (hcs : cells ≤ R.cells ∧ slots ≤ R.slots) (hrm : (st.map fun v => v.category).sum ≤ 8)
    (k : ∀ r : Int64, post r → V p l e R s m args below meth c cells slots Q Ph nL (pc + 3) lv (.long r :: st) w) : V p l e R s m args below meth c cells slots Q Ph nL pc lv st0 w := by
  intro H locs ls hP hl
  have hPw := E.2.2.2.2.2.2.2 _ _ _ hP
  subst hC
  exact vp_callSl (W.runV (As := As) (rest := st) ⟨E.1, E.2.1, E.2.2.1, E.2.2.2.2.1, E.2.2.2.1⟩ hM cw ⟨v_preB, va_recv E.2.2.2.2.2.1 hPw hc he, fun U hU hW => ⟨rfl, by rw [hU]; exact hsub _ hPw, va_K.moved hW.alike E.2.2.2.2.2.1⟩⟩ rfl hn hl.1 hst (lv_room hrm) hdg ⟨hcs.1, hcs.2⟩) (fun r hr => k r hr H locs ls hP hl)
theorem v_cSl (E : v_E p s m args meth c D tys cc nL Ts own Ph) {y : MethodName} {index n maxL : Nat} {bytes : ByteArray} {ret : Option FieldType} {ws' : List Cond} {rm : Room} {As st0 : List Value} {post : Int64 → Prop} {w' : va_W} (hdg : decode cc pc = .ok (.invokestatic index, 3))
    (hM : Met l y ws' rm (va_Pc As (v_pre D tys w')) (vp_Sl post) 0 0 (fun _ => False)) (cw : CallB R s args own index y bytes maxL ret ws' rm 0 0 n ∧ (Cond.static y).before args s = true) (hsub : ∀ H : Heap, va_P D vwCl w H → va_P D vwCl w' H) (hn : As.length = n) (hst : st0 = As.reverse ++ st) (hcs : cells ≤ R.cells ∧ slots ≤ R.slots) (hrm : (st.map fun v => v.category).sum ≤ 8)
    (k : ∀ r : Int64, post r → V p l e R s m args below meth c cells slots Q Ph nL (pc + 3) lv (.long r :: st) w) : V p l e R s m args below meth c cells slots Q Ph nL pc lv st0 w := by
  intro H locs ls hP hl
  have hPw := E.2.2.2.2.2.2.2 _ _ _ hP
  exact vp_callSl (W.runS (As := As) (rest := st) ⟨E.1, E.2.1, E.2.2.1, E.2.2.2.2.1, E.2.2.2.1⟩ hM cw ⟨v_preB, fun U hU hW => ⟨rfl, by rw [hU]; exact hsub _ hPw, va_K.moved hW.alike E.2.2.2.2.2.1⟩⟩ rfl hn hl.1 hst (lv_room hrm) hdg ⟨hcs.1, hcs.2⟩) (fun r hr => k r hr H locs ls hP hl)
theorem v_nil (H : Heap) : va_P D vwCl [] H := fun k q h => by simp at h
theorem v_mmax (E : v_E p s m args meth c D tys cc nL Ts own Ph) {index : Nat} {x y z : Int32} (hdg : decode cc pc = .ok (.invokestatic index, 3)) (h1 : Cond.methodLink own index Lib.Math.max.name ∈ Ts) (h2 : Cond.static Lib.Math.max.name ∈ Ts) (h3 : Cond.initialized "java/lang/Math" ∈ Ts) (h4 : Cond.code Lib.Math.max.name Lib.Math.max.code 2 (some .int) ∈ Ts) (hf : 1 ≤ R.frames) (hlo : (st.map fun v => v.category).sum + 13 ≤ R.locals) (hcs : cells ≤ R.cells ∧ slots ≤ R.slots) (hz : (if x < y then y else x) = z)
    (k : V p l e R s m args below meth c cells slots Q Ph nL (pc + 3) lv (.int z :: st) w) : V p l e R s m args below meth c cells slots Q Ph nL pc lv (.int y :: .int x :: st) w :=
  fun H locs ls hP hl => by subst hz; exact va_mmax E.1 E.2.1 (E.2.2.1.trans hl.1.symm) E.2.2.2.2.1 (E.2.2.2.1 _ h1) (E.2.2.2.1 _ h2) (E.2.2.2.1 _ h3) (E.2.2.2.1 _ h4) hf hlo hcs.1 hcs.2 hdg (k H locs ls hP hl)
end VCALL
section VRD
variable {p : Program} {l : Launch} {e : Env} {R : Room} {s : State} {m : MethodId} {args : Array Value} {below : List Frame} {meth : Method} {c : Code} {cells slots : Nat} {Q : State → Prop} {Ph : va_W → Heap → List Loc → Prop} {nL : Nat}
variable {D : va_G} {tys : List (ClassId × FieldType)} {cc : ByteArray} {Ts : List Cond} {own : String}
variable {pc : Nat} {lv : List (Nat × Value)} {st : List Value} {w : va_W}
/-- a reader's contract: from a heap that holds w it answers v, and leaves the heap -/
abbrev v_Rdi (l : Launch) (y : MethodName) (ws : List Cond) (rm : Room) (D : va_G) (tys : List (ClassId × FieldType)) (av : List Value) (w : va_W) (v : Int32) : Prop := Met l y ws rm (va_Pc av (v_pre D tys w)) (vp_Si (fun r => r = v)) 0 0 (fun _ => False)
abbrev v_Rdl (l : Launch) (y : MethodName) (ws : List Cond) (rm : Room) (D : va_G) (tys : List (ClassId × FieldType)) (av : List Value) (w : va_W) (v : Int64) : Prop := Met l y ws rm (va_Pc av (v_pre D tys w)) (vp_Sl (fun r => r = v)) 0 0 (fun _ => False)
theorem v_cVi' (E : v_E p s m args meth c D tys cc nL Ts own Ph) {y : MethodName} {C : String} {index n maxL : Nat} {bytes : ByteArray} {ret : Option FieldType} {ws' : List Cond} {rm : Room} {b ci : Nat} {fs : List Value} {As st0 : List Value} {q : vw_C} {v : Int32} {w' : va_W} (hdg : decode cc pc = .ok (.invokevirtual index, 3))
    (hM : v_Rdi l y ws' rm D tys (.ref b :: As) w' v) (cw : CallW R s args own C index y bytes maxL ret ws' rm 0 0 n) (q0 : Nat) (he : w[q0]? = some (b, .inr (ci, fs))) (hc : vwCl[ci]? = some q) (hC : q.1 = C) (hsub : ∀ H : Heap, va_P D vwCl w H → va_P D vwCl w' H) (hn : As.length = n) (hst : st0 = As.reverse ++ .ref b :: st) (hcs : cells ≤ R.cells ∧ slots ≤ R.slots) (hrm : (st.map fun v => v.category).sum ≤ 8)
    (k : V p l e R s m args below meth c cells slots Q Ph nL (pc + 3) lv (.int v :: st) w) : V p l e R s m args below meth c cells slots Q Ph nL pc lv st0 w := v_cVi E hdg hM cw q0 he hc hC hsub hn hst hcs hrm (fun r h => by have e9 : r = v := h; subst e9; exact k)
theorem v_cSi' (E : v_E p s m args meth c D tys cc nL Ts own Ph) {y : MethodName} {index n maxL : Nat} {bytes : ByteArray} {ret : Option FieldType} {ws' : List Cond} {rm : Room} {As st0 : List Value} {v : Int32} {w' : va_W} (hdg : decode cc pc = .ok (.invokestatic index, 3))
    (hM : v_Rdi l y ws' rm D tys As w' v) (cw : CallB R s args own index y bytes maxL ret ws' rm 0 0 n ∧ (Cond.static y).before args s = true) (hsub : ∀ H : Heap, va_P D vwCl w H → va_P D vwCl w' H) (hn : As.length = n) (hst : st0 = As.reverse ++ st) (hcs : cells ≤ R.cells ∧ slots ≤ R.slots) (hrm : (st.map fun v => v.category).sum ≤ 8)
    (k : V p l e R s m args below meth c cells slots Q Ph nL (pc + 3) lv (.int v :: st) w) : V p l e R s m args below meth c cells slots Q Ph nL pc lv st0 w := v_cSi E hdg hM cw hsub hn hst hcs hrm (fun r h => by have e9 : r = v := h; subst e9; exact k)
theorem v_cVl' (E : v_E p s m args meth c D tys cc nL Ts own Ph) {y : MethodName} {C : String} {index n maxL : Nat} {bytes : ByteArray} {ret : Option FieldType} {ws' : List Cond} {rm : Room} {b ci : Nat} {fs : List Value} {As st0 : List Value} {q : vw_C} {v : Int64} {w' : va_W} (hdg : decode cc pc = .ok (.invokevirtual index, 3))
    (hM : v_Rdl l y ws' rm D tys (.ref b :: As) w' v) (cw : CallW R s args own C index y bytes maxL ret ws' rm 0 0 n) (q0 : Nat) (he : w[q0]? = some (b, .inr (ci, fs))) (hc : vwCl[ci]? = some q) (hC : q.1 = C) (hsub : ∀ H : Heap, va_P D vwCl w H → va_P D vwCl w' H) (hn : As.length = n) (hst : st0 = As.reverse ++ .ref b :: st) (hcs : cells ≤ R.cells ∧ slots ≤ R.slots) (hrm : (st.map fun v => v.category).sum ≤ 8)
    (k : V p l e R s m args below meth c cells slots Q Ph nL (pc + 3) lv (.long v :: st) w) : V p l e R s m args below meth c cells slots Q Ph nL pc lv st0 w := v_cVl E hdg hM cw q0 he hc hC hsub hn hst hcs hrm (fun r h => by have e9 : r = v := h; subst e9; exact k)
theorem v_cSl' (E : v_E p s m args meth c D tys cc nL Ts own Ph) {y : MethodName} {index n maxL : Nat} {bytes : ByteArray} {ret : Option FieldType} {ws' : List Cond} {rm : Room} {As st0 : List Value} {v : Int64} {w' : va_W} (hdg : decode cc pc = .ok (.invokestatic index, 3))
    (hM : v_Rdl l y ws' rm D tys As w' v) (cw : CallB R s args own index y bytes maxL ret ws' rm 0 0 n ∧ (Cond.static y).before args s = true) (hsub : ∀ H : Heap, va_P D vwCl w H → va_P D vwCl w' H) (hn : As.length = n) (hst : st0 = As.reverse ++ st) (hcs : cells ≤ R.cells ∧ slots ≤ R.slots) (hrm : (st.map fun v => v.category).sum ≤ 8)
    (k : V p l e R s m args below meth c cells slots Q Ph nL (pc + 3) lv (.long v :: st) w) : V p l e R s m args below meth c cells slots Q Ph nL pc lv st0 w := v_cSl E hdg hM cw hsub hn hst hcs hrm (fun r h => by have e9 : r = v := h; subst e9; exact k)
end VRD
end
section
/-! ===== plain facts (some rows of kit/laws, turned) ===== -/
theorem nx_and (a b : Nat) : nI a &&& nI b = nI (a &&& b) := by
  apply Int32.toBitVec_inj.1
  show BitVec.ofNat 32 a &&& BitVec.ofNat 32 b = BitVec.ofNat 32 (a &&& b)
  apply BitVec.eq_of_getLsbD_eq
  intro i hi
  simp [hi]
theorem wb_tb (n : Nat) : (lN n).toBitVec = BitVec.ofNat 64 n := rfl
theorem wb_inj {a b : Int64} (h : a.toBitVec = b.toBitVec) : a = b := Int64.toBitVec_inj.mp h
theorem wb_tn {n : Nat} (h : n < 2 ^ 64) : (lN n).toBitVec.toNat = n := by rw [wb_tb, BitVec.toNat_ofNat, Nat.mod_eq_of_lt h]
theorem wb_c : ∀ k, k < 64 → ((nI k).toInt64 &&& 63) = lN k := by decide +kernel
theorem wb_sm : ∀ k, k < 64 → (BitVec.ofNat 64 k).smod 64 = BitVec.ofNat 64 k := by decide +kernel
theorem wb_cu : ∀ k, k < 64 → ((nI k).toInt64.toUInt64 &&& Int64.toUInt64 63) = UInt64.ofNat k := by decide +kernel
theorem wb_shl (n : Nat) {k : Nat} (hk : k < 64) : lN n <<< ((nI k).toInt64 &&& 63) = lN (n * 2 ^ k) := by
  rw [wb_c k hk]
  apply wb_inj
  rw [Int64.toBitVec_shiftLeft, wb_tb, wb_tb, wb_tb, wb_sm k hk]
  apply BitVec.eq_of_toNat_eq
  rw [BitVec.shiftLeft_eq', BitVec.toNat_shiftLeft, BitVec.toNat_ofNat, BitVec.toNat_ofNat, BitVec.toNat_ofNat, Nat.mod_eq_of_lt (show k < 2 ^ 64 by omega), Nat.shiftLeft_eq, Nat.mul_mod, Nat.mod_mod, ← Nat.mul_mod]
theorem wb_shr {n k : Nat} (hn : n < 2 ^ 64) (hk : k < 64) : ((lN n).toUInt64 >>> ((nI k).toInt64.toUInt64 &&& Int64.toUInt64 63)).toInt64 = lN (n / 2 ^ k) := by
  rw [wb_cu k hk]
  apply wb_inj
  apply BitVec.eq_of_toNat_eq
  show ((lN n).toUInt64 >>> UInt64.ofNat k).toNat = (BitVec.ofNat 64 _).toNat
  have h1 : (UInt64.ofNat k).toNat = k := by
    show (BitVec.ofNat 64 k).toNat = k
    rw [BitVec.toNat_ofNat, Nat.mod_eq_of_lt (by omega)]
  have h2 : (lN n).toUInt64.toNat = n := wb_tn hn
  rw [UInt64.toNat_shiftRight, h1, h2, Nat.mod_eq_of_lt hk, Nat.shiftRight_eq_div_pow, BitVec.toNat_ofNat, Nat.mod_eq_of_lt (Nat.lt_of_le_of_lt (Nat.div_le_self _ _) hn)]
theorem wb_and {a b : Nat} (ha : a < 2 ^ 64) (hb : b < 2 ^ 64) : lN a &&& lN b = lN (a &&& b) := by
  apply wb_inj
  rw [Int64.toBitVec_and, wb_tb, wb_tb, wb_tb]
  apply BitVec.eq_of_toNat_eq
  rw [BitVec.toNat_and, BitVec.toNat_ofNat, BitVec.toNat_ofNat, BitVec.toNat_ofNat, Nat.mod_eq_of_lt ha, Nat.mod_eq_of_lt hb, Nat.mod_eq_of_lt (Nat.and_lt_two_pow _ hb)]
theorem wb_or {a b : Nat} (ha : a < 2 ^ 64) (hb : b < 2 ^ 64) : lN a ||| lN b = lN (a ||| b) := by
  apply wb_inj
  rw [Int64.toBitVec_or, wb_tb, wb_tb, wb_tb]
  apply BitVec.eq_of_toNat_eq
  rw [BitVec.toNat_or, BitVec.toNat_ofNat, BitVec.toNat_ofNat, BitVec.toNat_ofNat, Nat.mod_eq_of_lt ha, Nat.mod_eq_of_lt hb, Nat.mod_eq_of_lt (Nat.or_lt_two_pow ha hb)]
theorem pf_lI {a : Nat} (h : a < 2 ^ 63) : (lN a).toInt = (a : Int) := lg_ofNat_toInt h
theorem pf_shr {a d : Nat} {D : Int64} (hD : (D.toBitVec.smod 64).toNat = d) (h : a < 2 ^ 62) : lN a >>> D = lN (a / 2 ^ d) := by
  have hd : a / 2 ^ d ≤ a := Nat.div_le_self _ _
  apply Int64.toInt_inj.mp
  have e : (lN a >>> D).toInt = (lN a).toInt >>> d := by
    rw [← hD]
    exact BitVec.toInt_sshiftRight ..
  rw [e, Int.shiftRight_eq_div_pow, pf_lI (by omega), pf_lI (by omega)]
  rfl
theorem nx_or (a b : Nat) : nI a ||| nI b = nI (a ||| b) := by
  apply Int32.toBitVec_inj.1
  show BitVec.ofNat 32 a ||| BitVec.ofNat 32 b = BitVec.ofNat 32 (a ||| b)
  apply BitVec.eq_of_getLsbD_eq
  intro i hi
  simp [hi]
theorem lx_or (a b : Nat) : lN a ||| lN b = lN (a ||| b) := by
  apply Int64.toBitVec_inj.1
  show BitVec.ofNat 64 a ||| BitVec.ofNat 64 b = BitVec.ofNat 64 (a ||| b)
  apply BitVec.eq_of_getLsbD_eq
  intro i hi
  simp [hi]
theorem n_dec {n : Nat} (h : 0 < n) : nI n + Int32.ofInt (-1) = nI (n - 1) := by
  obtain ⟨k, rfl⟩ : ∃ k, n = k + 1 := ⟨n - 1, by omega⟩
  exact pk_m1 k
theorem n_ne0 {n : Nat} (h : 0 < n) (h2 : n < 2 ^ 31) : ¬ nI n = 0 := nI_ne0 h h2
theorem n_shl1 {k : Nat} (h : k < 31) : nI 1 <<< (nI k &&& 31) = nI (2 ^ k) := by
  have e : ∀ j, j < 31 → nI 1 <<< (nI j &&& 31) = nI (2 ^ j) := by decide +kernel
  exact e k h
theorem l_shl1 {k : Nat} (h : k < 64) : lN 1 <<< ((nI k).toInt64 &&& 63) = lN (2 ^ k) := by
  rw [wb_shl 1 h, Nat.one_mul]
theorem zout_at {a : Nat → Nat} {b i : Nat} (h : i < 12) : zout a b i = some (a (b + i)) := if_pos h
theorem lt12 {t : Nat} (h : t < 12) : t = 0 ∨ t = 1 ∨ t = 2 ∨ t = 3 ∨ t = 4 ∨ t = 5 ∨ t = 6 ∨ t = 7 ∨ t = 8 ∨ t = 9 ∨ t = 10 ∨ t = 11 := by omega
section LOOK
variable {cI cZ cQ : ClassId} {a : Nat → Nat} {S : zS}
theorem wX_row_rC {t : Nat} (h : t < 12) : (wX cI cZ cQ a S)[14 + t]? = some (a (20 + t), .inl (cI, 200, .inl (fun j => nI (z_rC S t j)))) := by
  rcases lt12 h with rfl | rfl | rfl | rfl | rfl | rfl | rfl | rfl | rfl | rfl | rfl | rfl <;> rfl
theorem wX_row_rP {t : Nat} (h : t < 12) : (wX cI cZ cQ a S)[26 + t]? = some (a (40 + t), .inl (cI, 200, .inl (fun j => nI (z_rP S t j)))) := by
  rcases lt12 h with rfl | rfl | rfl | rfl | rfl | rfl | rfl | rfl | rfl | rfl | rfl | rfl <;> rfl
theorem wX_row_P {t : Nat} (h : t < 12) : (wX cI cZ cQ a S)[38 + t]? = some (a (60 + t), .inl (cI, 40, .inl (fun j => nI (z_P S t j)))) := by
  rcases lt12 h with rfl | rfl | rfl | rfl | rfl | rfl | rfl | rfl | rfl | rfl | rfl | rfl <;> rfl
theorem wX_row_F {t : Nat} (h : t < 12) : (wX cI cZ cQ a S)[50 + t]? = some (a (80 + t), .inl (cI, 40, .inl (fun j => nI (z_F S t j)))) := by
  rcases lt12 h with rfl | rfl | rfl | rfl | rfl | rfl | rfl | rfl | rfl | rfl | rfl | rfl <;> rfl
end LOOK
theorem up_nI (f : Nat → Nat) (k v : Nat) : upd (fun j => nI (f j)) k (nI v) = fun j => nI (va_up f k v j) := by
  funext j
  unfold upd va_up
  by_cases h : j = k
  · rw [if_pos h, if_pos h]
  · rw [if_neg h, if_neg h]
theorem up_bI (f : Nat → Bool) (k : Nat) (v : Bool) : upd (fun j => bI (f j)) k (bI v) = fun j => bI (va_up f k v j) := by
  funext j
  unfold upd va_up
  by_cases h : j = k
  · rw [if_pos h, if_pos h]
  · rw [if_neg h, if_neg h]
/-! sums -/
def sr (f : Nat → Nat) (lo hi : Nat) : Nat := sm (fun i => if lo ≤ i then f i else 0) hi
theorem sr_0 (f : Nat → Nat) : ∀ (hi lo : Nat), hi ≤ lo → sr f lo hi = 0
  | 0, lo, _ => rfl
  | n + 1, lo, h => by
    show sr f lo n + (if lo ≤ n then f n else 0) = 0
    rw [sr_0 f n lo (by omega), if_neg (by omega)]
theorem sr_s (f : Nat → Nat) {lo hi : Nat} (h : lo ≤ hi) : sr f lo (hi + 1) = sr f lo hi + f hi := by
  show sr f lo hi + (if lo ≤ hi then f hi else 0) = _
  rw [if_pos h]
theorem sm_le {f g : Nat → Nat} : ∀ n, (∀ i, i < n → f i ≤ g i) → sm f n ≤ sm g n
  | 0, _ => Nat.le_refl _
  | n + 1, h => Nat.add_le_add (sm_le n (fun i hi => h i (by omega))) (h n (by omega))
theorem sm_cg {f g : Nat → Nat} : ∀ n, (∀ i, i < n → f i = g i) → sm f n = sm g n
  | 0, _ => rfl
  | n + 1, h => by
    show sm f n + f n = sm g n + g n
    rw [sm_cg n (fun i hi => h i (by omega)), h n (by omega)]
theorem sm_add (f g : Nat → Nat) : ∀ n, sm (fun i => f i + g i) n = sm f n + sm g n
  | 0 => rfl
  | n + 1 => by
    show sm (fun i => f i + g i) n + (f n + g n) = sm f n + f n + (sm g n + g n)
    rw [sm_add f g n]
    omega
theorem sm_c (c : Nat) : ∀ n, sm (fun _ => c) n = n * c
  | 0 => by rw [Nat.zero_mul]; rfl
  | n + 1 => by
    show sm (fun _ => c) n + c = _
    rw [sm_c c n, Nat.succ_mul]
theorem sm_z {f : Nat → Nat} (n : Nat) (h : ∀ i, i < n → f i = 0) : sm f n = 0 := by
  rw [sm_cg (g := fun _ => 0) n h, sm_c, Nat.mul_zero]
theorem sm_mono (f : Nat → Nat) (m : Nat) : ∀ n, m ≤ n → sm f m ≤ sm f n
  | 0, h => by
    have : m = 0 := by omega
    subst this
    exact Nat.le_refl _
  | n + 1, h => by
    by_cases e : m = n + 1
    · subst e
      exact Nat.le_refl _
    · exact Nat.le_trans (sm_mono f m n (by omega)) (Nat.le_add_right _ _)
theorem sm_at (f : Nat → Nat) {i : Nat} : ∀ n, i < n → f i ≤ sm f n
  | 0, h => absurd h (Nat.not_lt_zero _)
  | n + 1, h => by
    by_cases e : i = n
    · subst e
      exact Nat.le_add_left _ _
    · exact Nat.le_trans (sm_at f n (by omega)) (Nat.le_add_right _ _)
theorem sm_swap (f : Nat → Nat → Nat) (m : Nat) : ∀ n, sm (fun i => sm (f i) m) n = sm (fun j => sm (fun i => f i j) n) m
  | 0 => (sm_z m (fun _ _ => rfl)).symm
  | n + 1 => by
    show sm (fun i => sm (f i) m) n + sm (f n) m = sm (fun j => sm (fun i => f i j) n + f n j) m
    rw [sm_swap f m n, sm_add]
theorem sr_le_sm (f : Nat → Nat) (lo hi n : Nat) (h : hi ≤ n) : sr f lo hi ≤ sm f n :=
  Nat.le_trans (sm_le hi (fun i _ => by show (if lo ≤ i then f i else 0) ≤ f i; split <;> omega)) (sm_mono f hi n h)
theorem b1_t : b1 true = 1 := rfl
theorem b1_f : b1 false = 0 := rfl
theorem b1_le (b : Bool) : b1 b ≤ 1 := by cases b <;> decide
theorem ct_s (p : Nat → Bool) (n : Nat) : ct p (n + 1) = ct p n + b1 (p n) := rfl
theorem ct_le (p : Nat → Bool) (n : Nat) : ct p n ≤ n := by
  have h := sm_le (f := fun i => b1 (p i)) (g := fun _ => 1) n (fun i _ => b1_le (p i))
  rw [sm_c, Nat.mul_one] at h
  exact h
theorem ct_cg {p q : Nat → Bool} (n : Nat) (h : ∀ i, i < n → p i = q i) : ct p n = ct q n := sm_cg n (fun i hi => by rw [h i hi])
theorem ct_mono (p : Nat → Bool) (m n : Nat) (h : m ≤ n) : ct p m ≤ ct p n := sm_mono _ m n h
/-- one place alone counts, and that just where p holds -/
theorem sm_one (c : Nat) : ∀ n, sm (fun i => b1 (decide (c = i))) n = if c < n then 1 else 0
  | 0 => rfl
  | n + 1 => by
    show sm (fun i => b1 (decide (c = i))) n + b1 (decide (c = n)) = _
    rw [sm_one c n]
    by_cases h : c = n
    · subst h
      rw [if_neg (Nat.lt_irrefl _), if_pos (Nat.lt_succ_self _), decide_eq_true rfl]
      rfl
    · rw [decide_eq_false h]
      by_cases h2 : c < n
      · rw [if_pos h2, if_pos (by omega)]
        rfl
      · rw [if_neg h2, if_neg (by omega)]
        rfl
theorem zsm_s {F : Nat → Nat} {f n : Nat} (h : f = sm F n) : f + F n = sm F (n + 1) := by rw [h]; rfl
theorem zsr_s {F : Nat → Nat} {f lo n : Nat} (h : f = sr F lo n) (hl : lo ≤ n) : f + F n = sr F lo (n + 1) := by rw [sr_s F hl, h]
theorem zct_t {p : Nat → Bool} {f n : Nat} (h : f = ct p n) (hp : p n = true) : f + 1 = ct p (n + 1) := by rw [ct_s, hp, h]; rfl
theorem zct_f {p : Nat → Bool} {f n : Nat} (h : f = ct p n) (hp : p n = false) : f = ct p (n + 1) := by rw [ct_s, hp, h]; rfl
/-! what zOK says of the counts -/
theorem zP_le {S : zS} (h : zOK S) (t c : Nat) : z_P S t c ≤ 200 := by
  obtain ⟨-, -, -, -, h5, h6⟩ := h
  rw [(h6 t c).1]
  exact Nat.le_trans (ct_le _ _) (h5 t).1
theorem zF_le {S : zS} (h : zOK S) (t c : Nat) : z_F S t c ≤ 200 := by
  obtain ⟨-, -, -, -, h5, h6⟩ := h
  rw [(h6 t c).2]
  exact Nat.le_trans (ct_le _ _) (h5 t).1
/-- the runs of a test, counted by commits: those that passed and those that failed -/
theorem zPF_sum {S : zS} (h : zOK S) (t : Nat) : sm (z_P S t) 40 + sm (z_F S t) 40 = z_R S t := by
  obtain ⟨-, -, -, -, h5, h6⟩ := h
  rw [sm_cg 40 (fun c _ => (h6 t c).1), sm_cg 40 (fun c _ => (h6 t c).2), ← sm_add]
  have e : ∀ c, ct (hit S t c 1) (z_R S t) + ct (hit S t c 0) (z_R S t) = sm (fun r => b1 (hit S t c 1 r) + b1 (hit S t c 0 r)) (z_R S t) := fun c => (sm_add _ _ _).symm
  rw [sm_cg 40 (fun c _ => e c), sm_swap (fun c r => b1 (hit S t c 1 r) + b1 (hit S t c 0 r)) (z_R S t) 40]
  have e2 : ∀ r, r < z_R S t → sm (fun c => b1 (hit S t c 1 r) + b1 (hit S t c 0 r)) 40 = 1 := by
    intro r hr
    obtain ⟨q1, q2⟩ := (h5 t).2 r hr
    have e3 : ∀ c, c < 40 → b1 (hit S t c 1 r) + b1 (hit S t c 0 r) = b1 (decide (z_rC S t r = c)) := by
      intro c _
      unfold hit
      rcases (show z_rP S t r = 0 ∨ z_rP S t r = 1 by omega) with z | z <;> rw [z] <;> by_cases y : z_rC S t r = c <;> simp [y, b1]
    rw [sm_cg 40 e3, sm_one, if_pos q1]
  rw [sm_cg _ e2, sm_c, Nat.mul_one]
theorem zP_sum {S : zS} (h : zOK S) (t lo hi : Nat) (hh : hi ≤ 40) : sr (z_P S t) lo hi ≤ 200 := by
  have h1 := zPF_sum h t
  have h2 := sr_le_sm (z_P S t) lo hi 40 hh
  have h3 := (h.2.2.2.2.1 t).1
  omega
theorem zF_sum {S : zS} (h : zOK S) (t lo hi : Nat) (hh : hi ≤ 40) : sr (z_F S t) lo hi ≤ 200 := by
  have h1 := zPF_sum h t
  have h2 := sr_le_sm (z_F S t) lo hi 40 hh
  have h3 := (h.2.2.2.2.1 t).1
  omega
end
section
/-! ===== how many bits are set: the sums by pairs, fours and bytes ===== -/
def mk (c : Nat) : Nat → Nat
  | 0 => 0
  | k + 1 => 256 * mk c k + c
def g1 (k n : Nat) : Nat := n - (n / 2 ^ 1 &&& mk 85 k)
def g2 (k x : Nat) : Nat := (x &&& mk 51 k) + (x / 2 ^ 2 &&& mk 51 k)
def g3 (k x : Nat) : Nat := (x + x / 2 ^ 4) &&& mk 15 k
def h1 (b : Nat) : Nat := b - (b / 2 ^ 1 &&& 85)
def h2 (x : Nat) : Nat := (x &&& 51) + (x / 2 ^ 2 &&& 51)
def h3 (x : Nat) : Nat := (x + x / 2 ^ 4) &&& 15
def pop (n : Nat) : Nat := ct (fun i => n.testBit i) 64
theorem tb256 (h : Nat) {b : Nat} (hb : b < 256) (j : Nat) : (256 * h + b).testBit j = if j < 8 then b.testBit j else h.testBit (j - 8) := Nat.testBit_two_pow_mul_add (i := 8) h hb j
theorem and_256 (h M : Nat) {b c : Nat} (s : Nat) (hb : b < 256) (hc : c < 256) (hz : ∀ i, 8 ≤ i + s → i < 8 → c.testBit i = false) : ((256 * h + b) / 2 ^ s &&& (256 * M + c)) = 256 * (h / 2 ^ s &&& M) + (b / 2 ^ s &&& c) := by
  have hz2 : (b / 2 ^ s &&& c) < 256 := Nat.lt_of_le_of_lt Nat.and_le_right hc
  apply Nat.eq_of_testBit_eq
  intro j
  rw [Nat.testBit_and, Nat.testBit_div_two_pow, tb256 h hb, tb256 M hc, tb256 _ hz2, Nat.testBit_and, Nat.testBit_and, Nat.testBit_div_two_pow, Nat.testBit_div_two_pow]
  by_cases q : j < 8
  · rw [if_pos q, if_pos q]
    by_cases q2 : j + s < 8
    · rw [if_pos q2]
    · rw [hz j (by omega) q, Bool.and_false, Bool.and_false]
  · rw [if_neg q, if_neg q, if_neg (show ¬ j + s < 8 by omega), show j + s - 8 = j - 8 + s by omega]
theorem hz85 : ∀ i, 8 ≤ i + 1 → i < 8 → (85 : Nat).testBit i = false := by
  have e : ∀ i, i < 8 → 8 ≤ i + 1 → (85 : Nat).testBit i = false := by decide
  exact fun i a b => e i b a
theorem hz51 : ∀ i, 8 ≤ i + 2 → i < 8 → (51 : Nat).testBit i = false := by
  have e : ∀ i, i < 8 → 8 ≤ i + 2 → (51 : Nat).testBit i = false := by decide
  exact fun i a b => e i b a
theorem hz0 {c : Nat} : ∀ i, 8 ≤ i + 0 → i < 8 → c.testBit i = false := fun i a b => absurd a (by omega)
theorem g1_s (k h : Nat) {b : Nat} (hb : b < 256) : g1 (k + 1) (256 * h + b) = 256 * g1 k h + h1 b := by
  unfold g1 h1
  rw [show mk 85 (k + 1) = 256 * mk 85 k + 85 from rfl]
  rw [and_256 h (mk 85 k) 1 hb (by decide) hz85]
  have a1 : (h / 2 ^ 1 &&& mk 85 k) ≤ h := Nat.le_trans Nat.and_le_left (Nat.div_le_self _ _)
  have a2 : (b / 2 ^ 1 &&& 85) ≤ b := Nat.le_trans Nat.and_le_left (Nat.div_le_self _ _)
  omega
theorem g2_s (k h : Nat) {b : Nat} (hb : b < 256) : g2 (k + 1) (256 * h + b) = 256 * g2 k h + h2 b := by
  unfold g2 h2
  rw [show mk 51 (k + 1) = 256 * mk 51 k + 51 from rfl]
  have e := and_256 h (mk 51 k) 0 hb (c := 51) (by decide) hz0
  rw [Nat.pow_zero, Nat.div_one, Nat.div_one, Nat.div_one] at e
  rw [e, and_256 h (mk 51 k) 2 hb (by decide) hz51]
  omega
theorem g3_s (k h : Nat) {b : Nat} (hb : b < 256) (h4 : h % 16 ≤ 4) (b4 : b % 16 ≤ 4) (b5 : b / 16 ≤ 4) : g3 (k + 1) (256 * h + b) = 256 * g3 k h + h3 b := by
  unfold g3 h3
  rw [show mk 15 (k + 1) = 256 * mk 15 k + 15 from rfl]
  have e : 256 * h + b + (256 * h + b) / 2 ^ 4 = 256 * (h + h / 2 ^ 4) + (b + b / 16 + 16 * (h % 16)) := by omega
  have e2 : b + b / 16 + 16 * (h % 16) < 256 := by omega
  have e3 := and_256 (h + h / 2 ^ 4) (mk 15 k) 0 e2 (c := 15) (by decide) hz0
  rw [Nat.pow_zero, Nat.div_one, Nat.div_one, Nat.div_one] at e3
  rw [e, e3]
  have e4 : (b + b / 16 + 16 * (h % 16) &&& 15) = (b + b / 2 ^ 4 &&& 15) := by
    rw [show (15 : Nat) = 2 ^ 4 - 1 from rfl, Nat.and_two_pow_sub_one_eq_mod, Nat.and_two_pow_sub_one_eq_mod]
    omega
  rw [e4]
theorem byte_1 : ∀ b, b < 256 → h1 b < 256 ∧ h2 (h1 b) < 256 ∧ h2 (h1 b) % 16 ≤ 4 ∧ h2 (h1 b) / 16 ≤ 4 ∧ h3 (h2 (h1 b)) = ct (fun i => b.testBit i) 8 ∧ ct (fun i => b.testBit i) 8 ≤ 8 := by decide +kernel
theorem nib (k h : Nat) : g2 k (g1 k h) % 16 ≤ 4 := by
  cases k with
  | zero =>
    have e : g2 0 (g1 0 h) = 0 := by
      unfold g2 mk
      rw [Nat.and_zero, Nat.and_zero]
    rw [e]
    omega
  | succ k =>
    have hb : h % 256 < 256 := Nat.mod_lt _ (by decide)
    have e : h = 256 * (h / 256) + h % 256 := by omega
    obtain ⟨q1, q2, q3, -⟩ := byte_1 _ hb
    rw [e, g1_s k _ hb, g2_s k _ q1]
    omega
theorem G_s (k h : Nat) {b : Nat} (hb : b < 256) : g3 (k + 1) (g2 (k + 1) (g1 (k + 1) (256 * h + b))) = 256 * g3 k (g2 k (g1 k h)) + ct (fun i => b.testBit i) 8 := by
  obtain ⟨q1, q2, q3, q4, q5, -⟩ := byte_1 b hb
  rw [g1_s k h hb, g2_s k _ q1, g3_s k _ q2 (nib k h) q3 q4, q5]
theorem sm_split (f : Nat → Nat) (m : Nat) : ∀ n, sm f (m + n) = sm f m + sm (fun i => f (m + i)) n
  | 0 => rfl
  | n + 1 => by
    show sm f (m + n) + f (m + n) = sm f m + (sm (fun i => f (m + i)) n + f (m + n))
    rw [sm_split f m n]
    omega
theorem pop_s (h k : Nat) {b : Nat} (hb : b < 256) : ct (fun i => (256 * h + b).testBit i) (8 + k) = ct (fun i => b.testBit i) 8 + ct (fun i => h.testBit i) k := by
  unfold ct
  rw [sm_split]
  congr 1
  · exact sm_cg 8 (fun i hi => by dsimp only; rw [tb256 h hb, if_pos hi])
  · exact sm_cg k (fun i _ => by dsimp only; rw [tb256 h hb, if_neg (by omega), Nat.add_sub_cancel_left])
theorem byte_of (n : Nat) : n = 256 * (n / 256) + n % 256 ∧ n % 256 < 256 := ⟨by omega, Nat.mod_lt _ (by decide)⟩
theorem ct_8 (b : Nat) (hb : b < 256) : ct (fun i => b.testBit i) 8 ≤ 8 := (byte_1 b hb).2.2.2.2.2
theorem pop_G {n : Nat} : ∃ c0 c1 c2 c3 c4 c5 c6 c7 : Nat, c0 ≤ 8 ∧ c1 ≤ 8 ∧ c2 ≤ 8 ∧ c3 ≤ 8 ∧ c4 ≤ 8 ∧ c5 ≤ 8 ∧ c6 ≤ 8 ∧ c7 ≤ 8 ∧ pop n = c0 + c1 + c2 + c3 + c4 + c5 + c6 + c7 ∧ g3 8 (g2 8 (g1 8 n)) = c0 + 256 * c1 + 65536 * c2 + 16777216 * c3 + 4294967296 * c4 + 1099511627776 * c5 + 281474976710656 * c6 + 72057594037927936 * c7 := by
  have st : ∀ (k m : Nat), ∃ c, c ≤ 8 ∧ ct (fun i => m.testBit i) (8 + k) = c + ct (fun i => (m / 256).testBit i) k ∧ ∀ j, g3 (j + 1) (g2 (j + 1) (g1 (j + 1) m)) = 256 * g3 j (g2 j (g1 j (m / 256))) + c := by
    intro k m
    obtain ⟨e, hb⟩ := byte_of m
    refine ⟨ct (fun i => (m % 256).testBit i) 8, ct_8 _ hb, ?_, fun j => ?_⟩
    · have := pop_s (m / 256) k hb
      rw [← e] at this
      exact this
    · have := G_s j (m / 256) hb
      rw [← e] at this
      exact this
  obtain ⟨c0, a0, p0, q0⟩ := st 56 n
  obtain ⟨c1, a1, p1, q1⟩ := st 48 (n / 256)
  obtain ⟨c2, a2, p2, q2⟩ := st 40 (n / 256 / 256)
  obtain ⟨c3, a3, p3, q3⟩ := st 32 (n / 256 / 256 / 256)
  obtain ⟨c4, a4, p4, q4⟩ := st 24 (n / 256 / 256 / 256 / 256)
  obtain ⟨c5, a5, p5, q5⟩ := st 16 (n / 256 / 256 / 256 / 256 / 256)
  obtain ⟨c6, a6, p6, q6⟩ := st 8 (n / 256 / 256 / 256 / 256 / 256 / 256)
  obtain ⟨c7, a7, p7, q7⟩ := st 0 (n / 256 / 256 / 256 / 256 / 256 / 256 / 256)
  have z : ∀ x : Nat, g3 0 (g2 0 (g1 0 x)) = 0 := fun x => by
    unfold g3 mk
    rw [Nat.and_zero]
  have z2 : ∀ f : Nat → Bool, ct f 0 = 0 := fun _ => rfl
  refine ⟨c0, c1, c2, c3, c4, c5, c6, c7, a0, a1, a2, a3, a4, a5, a6, a7, ?_, ?_⟩
  · unfold pop
    rw [show (64 : Nat) = 8 + 56 from rfl, p0, show (56 : Nat) = 8 + 48 from rfl, p1, show (48 : Nat) = 8 + 40 from rfl, p2, show (40 : Nat) = 8 + 32 from rfl, p3, show (32 : Nat) = 8 + 24 from rfl, p4, show (24 : Nat) = 8 + 16 from rfl, p5, show (16 : Nat) = 8 + 8 from rfl, p6, show (8 : Nat) = 8 + 0 from rfl, p7, z2]
    omega
  · rw [q0 7, q1 6, q2 5, q3 4, q4 3, q5 2, q6 1, q7 0, z]
    omega
def g4 (x : Nat) : Nat := x + x / 2 ^ 8
def g5 (x : Nat) : Nat := x + x / 2 ^ 16
def g6 (x : Nat) : Nat := x + x / 2 ^ 32
theorem pop_eq (n : Nat) : (g6 (g5 (g4 (g3 8 (g2 8 (g1 8 n))))) &&& 127) = pop n ∧ g3 8 (g2 8 (g1 8 n)) ≤ 600000000000000000 := by
  obtain ⟨c0, c1, c2, c3, c4, c5, c6, c7, a0, a1, a2, a3, a4, a5, a6, a7, hp, hg⟩ := pop_G (n := n)
  rw [hg, hp, show (127 : Nat) = 2 ^ 7 - 1 from rfl, Nat.and_two_pow_sub_one_eq_mod]
  refine ⟨?_, by omega⟩
  have e4 : g4 (c0 + 256 * c1 + 65536 * c2 + 16777216 * c3 + 4294967296 * c4 + 1099511627776 * c5 + 281474976710656 * c6 + 72057594037927936 * c7) = (c0 + c1) + 256 * (c1 + c2) + 65536 * (c2 + c3) + 16777216 * (c3 + c4) + 4294967296 * (c4 + c5) + 1099511627776 * (c5 + c6) + 281474976710656 * (c6 + c7) + 72057594037927936 * c7 := by
    unfold g4
    omega
  rw [e4]
  have e5 : ∀ d0 d1 d2 d3 d4 d5 d6 d7 : Nat, d0 ≤ 16 → d1 ≤ 16 → d2 ≤ 16 → d3 ≤ 16 → d4 ≤ 16 → d5 ≤ 16 → d6 ≤ 16 → d7 ≤ 16 → g5 (d0 + 256 * d1 + 65536 * d2 + 16777216 * d3 + 4294967296 * d4 + 1099511627776 * d5 + 281474976710656 * d6 + 72057594037927936 * d7) = (d0 + d2) + 256 * (d1 + d3) + 65536 * (d2 + d4) + 16777216 * (d3 + d5) + 4294967296 * (d4 + d6) + 1099511627776 * (d5 + d7) + 281474976710656 * d6 + 72057594037927936 * d7 := by
    intro d0 d1 d2 d3 d4 d5 d6 d7 _ _ _ _ _ _ _ _
    unfold g5
    omega
  rw [e5 _ _ _ _ _ _ _ _ (by omega) (by omega) (by omega) (by omega) (by omega) (by omega) (by omega) (by omega)]
  have e6 : ∀ d0 d1 d2 d3 d4 d5 d6 d7 : Nat, d0 ≤ 32 → d1 ≤ 32 → d2 ≤ 32 → d3 ≤ 32 → d4 ≤ 32 → d5 ≤ 32 → d6 ≤ 32 → d7 ≤ 32 → d0 + d4 < 128 → g6 (d0 + 256 * d1 + 65536 * d2 + 16777216 * d3 + 4294967296 * d4 + 1099511627776 * d5 + 281474976710656 * d6 + 72057594037927936 * d7) % 2 ^ 7 = d0 + d4 := by
    intro d0 d1 d2 d3 d4 d5 d6 d7 _ _ _ _ _ _ _ _ _
    have q : (d0 + 256 * d1 + 65536 * d2 + 16777216 * d3 + 4294967296 * d4 + 1099511627776 * d5 + 281474976710656 * d6 + 72057594037927936 * d7) / 2 ^ 32 = d4 + 256 * d5 + 65536 * d6 + 16777216 * d7 := by omega
    unfold g6
    rw [q]
    have q2 : d0 + 256 * d1 + 65536 * d2 + 16777216 * d3 + 4294967296 * d4 + 1099511627776 * d5 + 281474976710656 * d6 + 72057594037927936 * d7 + (d4 + 256 * d5 + 65536 * d6 + 16777216 * d7) = (d0 + d4) + 128 * (2 * d1 + 512 * d2 + 131072 * d3 + 33554432 * d4 + 8589934592 * d5 + 2199023255552 * d6 + 562949953421312 * d7 + (2 * d5 + 512 * d6 + 131072 * d7)) := by omega
    rw [q2, show (2 : Nat) ^ 7 = 128 from rfl, Nat.add_mul_mod_self_left]
    exact Nat.mod_eq_of_lt (by omega)
  rw [e6 _ _ _ _ _ _ _ _ (by omega) (by omega) (by omega) (by omega) (by omega) (by omega) (by omega) (by omega) (by omega)]
  omega
theorem g1_le (k n : Nat) : g1 k n ≤ n := Nat.sub_le _ _
theorem mk51 : mk 51 8 = 3689348814741910323 := by decide +kernel
theorem mk85 : mk 85 8 = 6148914691236517205 := by decide +kernel
theorem mk15 : mk 15 8 = 1085102592571150095 := by decide +kernel
theorem g2_le (n : Nat) : g2 8 n ≤ 7378697629483820646 := by
  unfold g2
  rw [mk51]
  have a1 : (n &&& 3689348814741910323) ≤ 3689348814741910323 := Nat.and_le_right
  have a2 : (n / 2 ^ 2 &&& 3689348814741910323) ≤ 3689348814741910323 := Nat.and_le_right
  omega
theorem g1_L {n : Nat} (hn : n < 2 ^ 64) : lN n - lN (n / 2 ^ 1 &&& 6148914691236517205) = lN (g1 8 n) := by
  unfold g1
  rw [mk85]
  exact lN_sub (Nat.le_trans Nat.and_le_left (Nat.div_le_self _ _))
theorem g2_L (n : Nat) : lN (n &&& 3689348814741910323) + lN (n / 2 ^ 2 &&& 3689348814741910323) = lN (g2 8 n) := by
  unfold g2
  rw [mk51]
  exact lN_add _ _
theorem g3_L {n : Nat} (hn : n ≤ 7378697629483820646) : lN (n + n / 2 ^ 4) &&& lN 1085102592571150095 = lN (g3 8 n) := by
  unfold g3
  rw [mk15]
  exact wb_and (by omega) (by decide)
theorem pop_64 (n : Nat) : pop n ≤ 64 := ct_le _ _
set_option maxHeartbeats 4000000 in
set_option maxRecDepth 100000 in
theorem x_J13_bitCount_95d88 (l : Launch) (D : va_G) (cI cZ cQ cJ : ClassId) (n : Nat) (hn : n < 2 ^ 64)  : v_Rdi l yJ13_bitCount_95d88 wsJ13_bitCount_95d88 { frames := 0, cells := 0, slots := 0, locals := 0 } D (wTy cI cZ cQ cJ) [.long (lN (n))] [] (nI (pop n)) := by
  refine v_reader (cc := cJ13_bitCount_95d88) (maxL := 2) (ret := (some .int)) (own := RJ13) (lv0 := [(0, .long (lN (n)))]) (by decide) rfl rfl (Nat.le_of_ble_eq_true rfl) rfl ?_
  intro p9 e9 s9 m9 as9 bl9 me9 cd9 E hr
  have b1n := Nat.lt_of_le_of_lt (g1_le 8 n) hn
  have b2n := g2_le (g1 8 n)
  obtain ⟨hpop, b3n⟩ := pop_eq n
  refine v_lload_n E dJ13_bitCount_95d88_0 0 rfl rfl ?_
  refine v_lload_n E dJ13_bitCount_95d88_1 0 rfl rfl ?_
  refine v_iconst E dJ13_bitCount_95d88_2 (v := nI 1) rfl ?_
  refine v_lushr E dJ13_bitCount_95d88_3 (z := lN (n / 2 ^ 1)) (wb_shr hn (by decide)) ?_
  refine v_ldc2 E dJ13_bitCount_95d88_4 (v := 6148914691236517205) (x := lN 6148914691236517205) (by decide +kernel) rfl ?_
  refine v_land E dJ13_bitCount_95d88_7 (z := lN (n / 2 ^ 1 &&& 6148914691236517205)) (wb_and (Nat.lt_of_le_of_lt (Nat.div_le_self _ _) hn) (by decide)) ?_
  refine v_lsub E dJ13_bitCount_95d88_8 (z := lN (g1 8 n)) (g1_L hn) ?_
  refine v_lstore_n E dJ13_bitCount_95d88_9 rfl (by decide) rfl ?_
  refine v_lload_n E dJ13_bitCount_95d88_10 0 rfl rfl ?_
  refine v_ldc2 E dJ13_bitCount_95d88_11 (v := 3689348814741910323) (x := lN 3689348814741910323) (by decide +kernel) rfl ?_
  refine v_land E dJ13_bitCount_95d88_14 (z := lN (g1 8 n &&& 3689348814741910323)) (wb_and b1n (by decide)) ?_
  refine v_lload_n E dJ13_bitCount_95d88_15 0 rfl rfl ?_
  refine v_iconst E dJ13_bitCount_95d88_16 (v := nI 2) rfl ?_
  refine v_lushr E dJ13_bitCount_95d88_17 (z := lN (g1 8 n / 2 ^ 2)) (wb_shr b1n (by decide)) ?_
  refine v_ldc2 E dJ13_bitCount_95d88_18 (v := 3689348814741910323) (x := lN 3689348814741910323) (by decide +kernel) rfl ?_
  refine v_land E dJ13_bitCount_95d88_21 (z := lN (g1 8 n / 2 ^ 2 &&& 3689348814741910323)) (wb_and (Nat.lt_of_le_of_lt (Nat.div_le_self _ _) b1n) (by decide)) ?_
  refine v_ladd E dJ13_bitCount_95d88_22 (z := lN (g2 8 (g1 8 n))) (g2_L _) ?_
  refine v_lstore_n E dJ13_bitCount_95d88_23 rfl (by decide) rfl ?_
  refine v_lload_n E dJ13_bitCount_95d88_24 0 rfl rfl ?_
  refine v_lload_n E dJ13_bitCount_95d88_25 0 rfl rfl ?_
  refine v_iconst E dJ13_bitCount_95d88_26 (v := nI 4) rfl ?_
  refine v_lushr E dJ13_bitCount_95d88_27 (z := lN (g2 8 (g1 8 n) / 2 ^ 4)) (wb_shr (by omega) (by decide)) ?_
  refine v_ladd E dJ13_bitCount_95d88_28 (z := lN (g2 8 (g1 8 n) + g2 8 (g1 8 n) / 2 ^ 4)) (lN_add _ _) ?_
  refine v_ldc2 E dJ13_bitCount_95d88_29 (v := 1085102592571150095) (x := lN 1085102592571150095) (by decide +kernel) rfl ?_
  refine v_land E dJ13_bitCount_95d88_32 (z := lN (g3 8 (g2 8 (g1 8 n)))) (g3_L b2n) ?_
  refine v_lstore_n E dJ13_bitCount_95d88_33 rfl (by decide) rfl ?_
  refine v_lload_n E dJ13_bitCount_95d88_34 0 rfl rfl ?_
  refine v_lload_n E dJ13_bitCount_95d88_35 0 rfl rfl ?_
  refine v_bipush E dJ13_bitCount_95d88_36 (v := nI 8) rfl ?_
  refine v_lushr E dJ13_bitCount_95d88_38 (z := lN (g3 8 (g2 8 (g1 8 n)) / 2 ^ 8)) (wb_shr (by omega) (by decide)) ?_
  refine v_ladd E dJ13_bitCount_95d88_39 (z := lN (g4 (g3 8 (g2 8 (g1 8 n))))) (lN_add _ _) ?_
  refine v_lstore_n E dJ13_bitCount_95d88_40 rfl (by decide) rfl ?_
  refine v_lload_n E dJ13_bitCount_95d88_41 0 rfl rfl ?_
  refine v_lload_n E dJ13_bitCount_95d88_42 0 rfl rfl ?_
  refine v_bipush E dJ13_bitCount_95d88_43 (v := nI 16) rfl ?_
  refine v_lushr E dJ13_bitCount_95d88_45 (z := lN (g4 (g3 8 (g2 8 (g1 8 n))) / 2 ^ 16)) (wb_shr (by unfold g4; omega) (by decide)) ?_
  refine v_ladd E dJ13_bitCount_95d88_46 (z := lN (g5 (g4 (g3 8 (g2 8 (g1 8 n)))))) (lN_add _ _) ?_
  refine v_lstore_n E dJ13_bitCount_95d88_47 rfl (by decide) rfl ?_
  refine v_lload_n E dJ13_bitCount_95d88_48 0 rfl rfl ?_
  refine v_lload_n E dJ13_bitCount_95d88_49 0 rfl rfl ?_
  refine v_bipush E dJ13_bitCount_95d88_50 (v := nI 32) rfl ?_
  refine v_lushr E dJ13_bitCount_95d88_52 (z := lN (g5 (g4 (g3 8 (g2 8 (g1 8 n)))) / 2 ^ 32)) (wb_shr (by unfold g5 g4; omega) (by decide)) ?_
  refine v_ladd E dJ13_bitCount_95d88_53 (z := lN (g6 (g5 (g4 (g3 8 (g2 8 (g1 8 n))))))) (lN_add _ _) ?_
  refine v_lstore_n E dJ13_bitCount_95d88_54 rfl (by decide) rfl ?_
  refine v_lload_n E dJ13_bitCount_95d88_55 0 rfl rfl ?_
  refine v_l2i E dJ13_bitCount_95d88_56 (z := nI (g6 (g5 (g4 (g3 8 (g2 8 (g1 8 n))))))) (lN_i _) ?_
  refine v_bipush E dJ13_bitCount_95d88_57 (v := nI 127) rfl ?_
  refine v_iand E dJ13_bitCount_95d88_59 (z := nI (pop n)) (by rw [nx_and, hpop]) ?_
  exact v_ret E hr rfl dJ13_bitCount_95d88_60
end
section
/-! ===== the class's log of runs: its readers ===== -/
set_option maxHeartbeats 4000000 in
set_option maxRecDepth 100000 in
theorem x_X0_countOf (l : Launch) (D : va_G) (cI cZ cQ cJ : ClassId) (a : Nat → Nat) (S : zS) (hok : zOK S) (t : Nat) (ht : t < 12)  : v_Rdi l yX0_countOf wsX0_countOf { frames := 0, cells := 0, slots := 0, locals := 0 } D (wTy cI cZ cQ cJ) [.ref (a 4), .int (nI (t))] (wX cI cZ cQ a S) (nI (z_R S t)) := by
  refine v_reader (cc := cX0_countOf) (maxL := 2) (ret := (some .int)) (own := RX0) (lv0 := [(0, .ref (a 4)), (1, .int (nI (t)))]) (by decide) rfl rfl (Nat.le_of_ble_eq_true rfl) rfl ?_
  intro p9 e9 s9 m9 as9 bl9 me9 cd9 E hr
  have hinX0 : ∀ w ∈ u_ws RX0 TX0 5, w ∈ wsX0_countOf := by decide +kernel
  refine v_aload_n E dX0_countOf_0 0 rfl rfl ?_
  refine v_get E dX0_countOf_1 4 0 hinX0 rfl rfl (by decide) (by decide +kernel) rfl rfl ?_
  refine v_iload_n E dX0_countOf_4 1 rfl rfl ?_
  refine v_iald E dX0_countOf_5 9 0 rfl rfl (by omega) (by decide) rfl ?_
  exact v_ret E hr rfl dX0_countOf_6

set_option maxHeartbeats 4000000 in
set_option maxRecDepth 100000 in
theorem x_X0_countAt (l : Launch) (D : va_G) (cI cZ cQ cJ : ClassId) (a : Nat → Nat) (S : zS) (hok : zOK S) (t c : Nat) (ht : t < 12) (hc : c < 40)  : v_Rdi l yX0_countAt wsX0_countAt { frames := 0, cells := 0, slots := 0, locals := 0 } D (wTy cI cZ cQ cJ) [.ref (a 4), .int (nI (t)), .int (nI (c))] (wX cI cZ cQ a S) (nI (z_P S t c + z_F S t c)) := by
  refine v_reader (cc := cX0_countAt) (maxL := 3) (ret := (some .int)) (own := RX0) (lv0 := [(0, .ref (a 4)), (1, .int (nI (t))), (2, .int (nI (c)))]) (by decide) rfl rfl (Nat.le_of_ble_eq_true rfl) rfl ?_
  intro p9 e9 s9 m9 as9 bl9 me9 cd9 E hr
  have hinX0 : ∀ w ∈ u_ws RX0 TX0 5, w ∈ wsX0_countAt := by decide +kernel
  refine v_aload_n E dX0_countAt_0 0 rfl rfl ?_
  refine v_get E dX0_countAt_1 4 3 hinX0 rfl rfl (by decide) (by decide +kernel) rfl rfl ?_
  refine v_iload_n E dX0_countAt_4 1 rfl rfl ?_
  refine v_aald E dX0_countAt_5 12 2 rfl rfl (by omega) (by decide) (zout_at (by omega)) ?_
  refine v_iload_n E dX0_countAt_6 2 rfl rfl ?_
  refine v_iald E dX0_countAt_7 (38 + (t)) 0 (wX_row_P (by omega)) rfl (by omega) (by decide) rfl ?_
  refine v_aload_n E dX0_countAt_8 0 rfl rfl ?_
  refine v_get E dX0_countAt_9 4 4 hinX0 rfl rfl (by decide) (by decide +kernel) rfl rfl ?_
  refine v_iload_n E dX0_countAt_12 1 rfl rfl ?_
  refine v_aald E dX0_countAt_13 13 2 rfl rfl (by omega) (by decide) (zout_at (by omega)) ?_
  refine v_iload_n E dX0_countAt_14 2 rfl rfl ?_
  refine v_iald E dX0_countAt_15 (50 + (t)) 0 (wX_row_F (by omega)) rfl (by omega) (by decide) rfl ?_
  refine v_iadd E dX0_countAt_16 (nI_add _ _) ?_
  exact v_ret E hr rfl dX0_countAt_17

set_option maxHeartbeats 4000000 in
set_option maxRecDepth 100000 in
theorem x_X0_failuresOf (l : Launch) (D : va_G) (cI cZ cQ cJ : ClassId) (a : Nat → Nat) (S : zS) (hok : zOK S) (t : Nat) (ht : t < 12)  : v_Rdi l yX0_failuresOf wsX0_failuresOf { frames := 0, cells := 0, slots := 0, locals := 0 } D (wTy cI cZ cQ cJ) [.ref (a 4), .int (nI (t))] (wX cI cZ cQ a S) (nI (sm (z_F S t) 40)) := by
  refine v_reader (cc := cX0_failuresOf) (maxL := 4) (ret := (some .int)) (own := RX0) (lv0 := [(0, .ref (a 4)), (1, .int (nI (t)))]) (by decide) rfl rfl (Nat.le_of_ble_eq_true rfl) rfl ?_
  intro p9 e9 s9 m9 as9 bl9 me9 cd9 E hr
  have hinX0 : ∀ w ∈ u_ws RX0 TX0 5, w ∈ wsX0_failuresOf := by decide +kernel
  refine v_iconst E dX0_failuresOf_0 (v := nI 0) rfl ?_
  refine v_istore_n E dX0_failuresOf_1 rfl (by decide) rfl ?_
  refine v_iconst E dX0_failuresOf_2 (v := nI 0) rfl ?_
  refine v_istore_n E dX0_failuresOf_3 rfl (by decide) rfl ?_
  have L4_1 : ∀ (n4 : Nat) (f : Nat) (c : Nat), 40 - c < n4 → f = sm (z_F S t) c → c ≤ 40 → V p9 l e9 (headSpec wsX0_failuresOf { frames := 0, cells := 0, slots := 0, locals := 0 }).room s9 m9 as9 bl9 me9 cd9 0 0 (MQ bl9 (vp_Si (fun r => r = nI (sm (z_F S t) 40))) as9 s9 0 0 (fun _ => False)) (v_ro D s9) 4 4 [(2, .int (nI (f))), (3, .int (nI (c))), (0, .ref (a 4)), (1, .int (nI (t)))] [] (wX cI cZ cQ a S) := by
    intro n4
    induction n4 with
    | zero => intro f c hm4 hf hc; exact absurd hm4 (Nat.not_lt_zero _)
    | succ n4 ih4 =>
      intro f c hm4 hf hc
      refine v_iload_n E dX0_failuresOf_4 1 rfl rfl ?_
      refine v_bipush E dX0_failuresOf_5 (v := nI 40) rfl ?_
      refine n_icmp_ge E dX0_failuresOf_7 (by omega) (by omega) (tgt := 27) (by decide) (fun c7 => ?_) (fun c7 => ?_)
      · refine v_iload_n E dX0_failuresOf_27 0 rfl rfl ?_
        exact v_ret E hr (by have e : c = 40 := (by omega); rw [hf, e]) dX0_failuresOf_28
      · refine v_iload_n E dX0_failuresOf_10 0 rfl rfl ?_
        refine v_aload_n E dX0_failuresOf_11 2 rfl rfl ?_
        refine v_get E dX0_failuresOf_12 4 4 hinX0 rfl rfl (by decide) (by decide +kernel) rfl rfl ?_
        refine v_iload_n E dX0_failuresOf_15 3 rfl rfl ?_
        refine v_aald E dX0_failuresOf_16 13 2 rfl rfl (by omega) (by decide) (zout_at (by omega)) ?_
        refine v_iload_n E dX0_failuresOf_17 1 rfl rfl ?_
        refine v_iald E dX0_failuresOf_18 (50 + (t)) 0 (wX_row_F (by omega)) rfl (by omega) (by decide) rfl ?_
        refine v_iadd E dX0_failuresOf_19 (nI_add _ _) ?_
        refine v_istore_n E dX0_failuresOf_20 rfl (by decide) rfl ?_
        refine v_iinc E dX0_failuresOf_21 1 rfl (nI_1 _) (by decide) rfl ?_
        refine v_goto E dX0_failuresOf_24 (tgt := 4) (by decide) ?_
        refine v_lv [1, 0, 2, 3] rfl ?_
        exact ih4 (f + z_F S t c) (c + 1) (by omega) (zsm_s hf) (by omega)
  refine v_lv [1, 0, 2, 3] rfl ?_
  exact L4_1 ((40 - (0)) + 1) (0) (0) (by omega) rfl (by omega)

def vd (p f : Nat) : Nat := (if 0 < p then 1 else 0) + (if 0 < f then 2 else 0)
theorem vd_le (p f : Nat) : vd p f ≤ 3 := by unfold vd; split <;> split <;> omega
set_option maxHeartbeats 4000000 in
set_option maxRecDepth 100000 in
theorem x_X0_verdictAt (l : Launch) (D : va_G) (cI cZ cQ cJ : ClassId) (a : Nat → Nat) (S : zS) (hok : zOK S) (t c : Nat) (ht : t < 12) (hc : c < 40)  : v_Rdi l yX0_verdictAt wsX0_verdictAt { frames := 0, cells := 0, slots := 0, locals := 0 } D (wTy cI cZ cQ cJ) [.ref (a 4), .int (nI (t)), .int (nI (c))] (wX cI cZ cQ a S) (nI (vd (z_P S t c) (z_F S t c))) := by
  refine v_reader (cc := cX0_verdictAt) (maxL := 3) (ret := (some .int)) (own := RX0) (lv0 := [(0, .ref (a 4)), (1, .int (nI (t))), (2, .int (nI (c)))]) (by decide) rfl rfl (Nat.le_of_ble_eq_true rfl) rfl ?_
  intro p9 e9 s9 m9 as9 bl9 me9 cd9 E hr
  have hinX0 : ∀ w ∈ u_ws RX0 TX0 5, w ∈ wsX0_verdictAt := by decide +kernel
  have hP := zP_le hok
  have hF := zF_le hok
  refine v_aload_n E dX0_verdictAt_0 0 rfl rfl ?_
  refine v_get E dX0_verdictAt_1 4 3 hinX0 rfl rfl (by decide) (by decide +kernel) rfl rfl ?_
  refine v_iload_n E dX0_verdictAt_4 1 rfl rfl ?_
  refine v_aald E dX0_verdictAt_5 12 2 rfl rfl (by omega) (by decide) (zout_at (by omega)) ?_
  refine v_iload_n E dX0_verdictAt_6 2 rfl rfl ?_
  refine v_iald E dX0_verdictAt_7 (38 + (t)) 0 (wX_row_P (by omega)) rfl (by omega) (by decide) rfl ?_
  refine n_if_le E dX0_verdictAt_8 (by have := hP t c; omega) (tgt := 15) (by decide) (fun c8 => ?_) (fun c8 => ?_)
  · refine v_iconst E dX0_verdictAt_15 (v := nI 0) rfl ?_
    refine v_aload_n E dX0_verdictAt_16 0 rfl rfl ?_
    refine v_get E dX0_verdictAt_17 4 4 hinX0 rfl rfl (by decide) (by decide +kernel) rfl rfl ?_
    refine v_iload_n E dX0_verdictAt_20 1 rfl rfl ?_
    refine v_aald E dX0_verdictAt_21 13 2 rfl rfl (by omega) (by decide) (zout_at (by omega)) ?_
    refine v_iload_n E dX0_verdictAt_22 2 rfl rfl ?_
    refine v_iald E dX0_verdictAt_23 (50 + (t)) 0 (wX_row_F (by omega)) rfl (by omega) (by decide) rfl ?_
    refine n_if_le E dX0_verdictAt_24 (by have := hF t c; omega) (tgt := 31) (by decide) (fun c24 => ?_) (fun c24 => ?_)
    · refine v_iconst E dX0_verdictAt_31 (v := nI 0) rfl ?_
      refine v_iadd E dX0_verdictAt_32 (nI_add _ _) ?_
      exact v_ret E hr (by simp [vd, c8, c24]) dX0_verdictAt_33
    · refine v_iconst E dX0_verdictAt_27 (v := nI 2) rfl ?_
      refine v_goto E dX0_verdictAt_28 (tgt := 32) (by decide) ?_
      refine v_iadd E dX0_verdictAt_32 (nI_add _ _) ?_
      exact v_ret E hr (by simp [vd, c8, c24]) dX0_verdictAt_33
  · refine v_iconst E dX0_verdictAt_11 (v := nI 1) rfl ?_
    refine v_goto E dX0_verdictAt_12 (tgt := 16) (by decide) ?_
    refine v_aload_n E dX0_verdictAt_16 0 rfl rfl ?_
    refine v_get E dX0_verdictAt_17 4 4 hinX0 rfl rfl (by decide) (by decide +kernel) rfl rfl ?_
    refine v_iload_n E dX0_verdictAt_20 1 rfl rfl ?_
    refine v_aald E dX0_verdictAt_21 13 2 rfl rfl (by omega) (by decide) (zout_at (by omega)) ?_
    refine v_iload_n E dX0_verdictAt_22 2 rfl rfl ?_
    refine v_iald E dX0_verdictAt_23 (50 + (t)) 0 (wX_row_F (by omega)) rfl (by omega) (by decide) rfl ?_
    refine n_if_le E dX0_verdictAt_24 (by have := hF t c; omega) (tgt := 31) (by decide) (fun c24 => ?_) (fun c24 => ?_)
    · refine v_iconst E dX0_verdictAt_31 (v := nI 0) rfl ?_
      refine v_iadd E dX0_verdictAt_32 (nI_add _ _) ?_
      exact v_ret E hr (by simp [vd, c8, c24]) dX0_verdictAt_33
    · refine v_iconst E dX0_verdictAt_27 (v := nI 2) rfl ?_
      refine v_goto E dX0_verdictAt_28 (tgt := 32) (by decide) ?_
      refine v_iadd E dX0_verdictAt_32 (nI_add _ _) ?_
      exact v_ret E hr (by simp [vd, c8, c24]) dX0_verdictAt_33

def zcon (S : zS) (t g b q : Nat) : Nat → Bool := fun r => decide ((g ≤ z_rC S t r ∧ z_rC S t r ≤ b) ∧ (z_rP S t r = 1 ↔ q ≤ z_rC S t r))
set_option maxHeartbeats 4000000 in
set_option maxRecDepth 100000 in
theorem x_X0_contradicting (l : Launch) (D : va_G) (cI cZ cQ cJ : ClassId) (a : Nat → Nat) (S : zS) (hok : zOK S) (t g b q : Nat) (ht : t < 12) (hg : g < 40) (hb : b < 40) (hq : q < 40)  : v_Rdi l yX0_contradicting wsX0_contradicting { frames := 0, cells := 0, slots := 0, locals := 0 } D (wTy cI cZ cQ cJ) [.ref (a 4), .int (nI (t)), .int (nI (g)), .int (nI (b)), .int (nI (q))] (wX cI cZ cQ a S) (nI (ct (zcon S t g b q) (z_R S t))) := by
  refine v_reader (cc := cX0_contradicting) (maxL := 11) (ret := (some .int)) (own := RX0) (lv0 := [(0, .ref (a 4)), (1, .int (nI (t))), (2, .int (nI (g))), (3, .int (nI (b))), (4, .int (nI (q)))]) (by decide) rfl rfl (Nat.le_of_ble_eq_true rfl) rfl ?_
  intro p9 e9 s9 m9 as9 bl9 me9 cd9 E hr
  have hinX0 : ∀ w ∈ u_ws RX0 TX0 5, w ∈ wsX0_contradicting := by decide +kernel
  obtain ⟨⟨k1, k2, k3, k4, k5, k6, k7, k8⟩, k9, k10, k11, k12, k13⟩ := id hok
  refine v_iconst E dX0_contradicting_0 (v := nI 0) rfl ?_
  refine v_istore E dX0_contradicting_1 (by decide) rfl ?_
  refine v_iconst E dX0_contradicting_3 (v := nI 0) rfl ?_
  refine v_istore E dX0_contradicting_4 (by decide) rfl ?_
  have L6_1 : ∀ (n6 : Nat) (f : Nat) (r : Nat), z_R S t - r < n6 → f = ct (zcon S t g b q) r → r ≤ z_R S t → V p9 l e9 (headSpec wsX0_contradicting { frames := 0, cells := 0, slots := 0, locals := 0 }).room s9 m9 as9 bl9 me9 cd9 0 0 (MQ bl9 (vp_Si (fun r => r = nI (ct (zcon S t g b q) (z_R S t)))) as9 s9 0 0 (fun _ => False)) (v_ro D s9) 11 6 [(5, .int (nI (f))), (6, .int (nI (r))), (0, .ref (a 4)), (1, .int (nI (t))), (2, .int (nI (g))), (3, .int (nI (b))), (4, .int (nI (q)))] [] (wX cI cZ cQ a S) := by
    intro n6
    induction n6 with
    | zero => intro f r hm6 hf hr2; exact absurd hm6 (Nat.not_lt_zero _)
    | succ n6 ih6 =>
      intro f r hm6 hf hr2
      have hR := (k12 t).1
      have hfb : f ≤ r := by rw [hf]; exact ct_le _ _
      refine v_iload E dX0_contradicting_6 1 rfl ?_
      refine v_aload_n E dX0_contradicting_8 2 rfl rfl ?_
      refine v_get E dX0_contradicting_9 4 0 hinX0 rfl rfl (by decide) (by decide +kernel) rfl rfl ?_
      refine v_iload_n E dX0_contradicting_12 3 rfl rfl ?_
      refine v_iald E dX0_contradicting_13 9 0 rfl rfl (by omega) (by decide) rfl ?_
      refine n_icmp_ge E dX0_contradicting_14 (by omega) (by omega) (tgt := 102) (by decide) (fun c14 => ?_) (fun c14 => ?_)
      · refine v_iload E dX0_contradicting_102 0 rfl ?_
        exact v_ret E hr (by have e : r = z_R S t := (by omega); rw [hf, e]) dX0_contradicting_104
      · obtain ⟨hC1, hC2⟩ := (k12 t).2 r c14
        refine v_aload_n E dX0_contradicting_17 2 rfl rfl ?_
        refine v_get E dX0_contradicting_18 4 1 hinX0 rfl rfl (by decide) (by decide +kernel) rfl rfl ?_
        refine v_iload_n E dX0_contradicting_21 3 rfl rfl ?_
        refine v_aald E dX0_contradicting_22 10 2 rfl rfl (by omega) (by decide) (zout_at (by omega)) ?_
        refine v_iload E dX0_contradicting_23 1 rfl ?_
        refine v_iald E dX0_contradicting_25 (14 + (t)) 0 (wX_row_rC (by omega)) rfl (by omega) (by decide) rfl ?_
        refine v_istore E dX0_contradicting_26 (by decide) rfl ?_
        refine v_iload E dX0_contradicting_28 0 rfl ?_
        refine v_iload_n E dX0_contradicting_30 5 rfl rfl ?_
        refine n_icmp_lt E dX0_contradicting_31 (by omega) (by omega) (tgt := 44) (by decide) (fun c31 => ?_) (fun c31 => ?_)
        · refine v_iconst E dX0_contradicting_44 (v := nI 0) rfl ?_
          refine v_istore E dX0_contradicting_45 (by decide) rfl ?_
          refine v_aload_n E dX0_contradicting_47 4 rfl rfl ?_
          refine v_get E dX0_contradicting_48 4 2 hinX0 rfl rfl (by decide) (by decide +kernel) rfl rfl ?_
          refine v_iload_n E dX0_contradicting_51 5 rfl rfl ?_
          refine v_aald E dX0_contradicting_52 11 2 rfl rfl (by omega) (by decide) (zout_at (by omega)) ?_
          refine v_iload E dX0_contradicting_53 3 rfl ?_
          refine v_iald E dX0_contradicting_55 (26 + (t)) 0 (wX_row_rP (by omega)) rfl (by omega) (by decide) rfl ?_
          refine v_iconst E dX0_contradicting_56 (v := nI 1) rfl ?_
          refine n_icmp_ne E dX0_contradicting_57 (by omega) (by omega) (tgt := 64) (by decide) (fun c57 => ?_) (fun c57 => ?_)
          · refine v_iconst E dX0_contradicting_64 (v := nI 0) rfl ?_
            refine v_istore E dX0_contradicting_65 (by decide) rfl ?_
            refine v_iload E dX0_contradicting_67 2 rfl ?_
            refine v_iload E dX0_contradicting_69 9 rfl ?_
            refine n_icmp_lt E dX0_contradicting_71 (by omega) (by omega) (tgt := 78) (by decide) (fun c71 => ?_) (fun c71 => ?_)
            · refine v_iconst E dX0_contradicting_78 (v := nI 0) rfl ?_
              refine v_istore E dX0_contradicting_79 (by decide) rfl ?_
              refine v_iload E dX0_contradicting_81 2 rfl ?_
              refine n_if_eq E dX0_contradicting_83 (by omega) (tgt := 96) (by decide) (fun c83 => ?_) (fun c83 => ?_)
              · refine v_iinc E dX0_contradicting_96 5 rfl (nI_1 _) (by decide) rfl ?_
                refine v_goto E dX0_contradicting_99 (tgt := 6) (by decide) ?_
                refine v_lv [5, 0, 6, 7, 8, 9, 10] rfl ?_
                exact ih6 (f) (r + 1) (by omega) (zct_f hf (by exact decide_eq_false (by omega))) (by omega)
              · refine v_iload E dX0_contradicting_86 1 rfl ?_
                refine v_iload E dX0_contradicting_88 0 rfl ?_
                refine n_icmp_ne E dX0_contradicting_90 (by omega) (by omega) (tgt := 96) (by decide) (fun c90 => ?_) (fun c90 => ?_)
                · refine v_iinc E dX0_contradicting_96 5 rfl (nI_1 _) (by decide) rfl ?_
                  refine v_goto E dX0_contradicting_99 (tgt := 6) (by decide) ?_
                  refine v_lv [5, 0, 6, 7, 8, 9, 10] rfl ?_
                  exact ih6 (f) (r + 1) (by omega) (zct_f hf (by exact decide_eq_false (by omega))) (by omega)
                · refine v_iinc E dX0_contradicting_93 4 rfl (nI_1 _) (by decide) rfl ?_
                  refine v_iinc E dX0_contradicting_96 5 rfl (nI_1 _) (by decide) rfl ?_
                  refine v_goto E dX0_contradicting_99 (tgt := 6) (by decide) ?_
                  refine v_lv [1, 0, 6, 7, 8, 9, 10] rfl ?_
                  exact ih6 (f + 1) (r + 1) (by omega) (zct_t hf (by exact decide_eq_true (by omega))) (by omega)
            · refine v_iconst E dX0_contradicting_74 (v := nI 1) rfl ?_
              refine v_goto E dX0_contradicting_75 (tgt := 79) (by decide) ?_
              refine v_istore E dX0_contradicting_79 (by decide) rfl ?_
              refine v_iload E dX0_contradicting_81 2 rfl ?_
              refine n_if_eq E dX0_contradicting_83 (by omega) (tgt := 96) (by decide) (fun c83 => ?_) (fun c83 => ?_)
              · refine v_iinc E dX0_contradicting_96 5 rfl (nI_1 _) (by decide) rfl ?_
                refine v_goto E dX0_contradicting_99 (tgt := 6) (by decide) ?_
                refine v_lv [5, 0, 6, 7, 8, 9, 10] rfl ?_
                exact ih6 (f) (r + 1) (by omega) (zct_f hf (by exact decide_eq_false (by omega))) (by omega)
              · refine v_iload E dX0_contradicting_86 1 rfl ?_
                refine v_iload E dX0_contradicting_88 0 rfl ?_
                refine n_icmp_ne E dX0_contradicting_90 (by omega) (by omega) (tgt := 96) (by decide) (fun c90 => ?_) (fun c90 => ?_)
                · refine v_iinc E dX0_contradicting_96 5 rfl (nI_1 _) (by decide) rfl ?_
                  refine v_goto E dX0_contradicting_99 (tgt := 6) (by decide) ?_
                  refine v_lv [5, 0, 6, 7, 8, 9, 10] rfl ?_
                  exact ih6 (f) (r + 1) (by omega) (zct_f hf (by exact decide_eq_false (by omega))) (by omega)
                · refine v_iinc E dX0_contradicting_93 4 rfl (nI_1 _) (by decide) rfl ?_
                  refine v_iinc E dX0_contradicting_96 5 rfl (nI_1 _) (by decide) rfl ?_
                  refine v_goto E dX0_contradicting_99 (tgt := 6) (by decide) ?_
                  refine v_lv [1, 0, 6, 7, 8, 9, 10] rfl ?_
                  exact ih6 (f + 1) (r + 1) (by omega) (zct_t hf (by exact decide_eq_true (by omega))) (by omega)
          · refine v_iconst E dX0_contradicting_60 (v := nI 1) rfl ?_
            refine v_goto E dX0_contradicting_61 (tgt := 65) (by decide) ?_
            refine v_istore E dX0_contradicting_65 (by decide) rfl ?_
            refine v_iload E dX0_contradicting_67 2 rfl ?_
            refine v_iload E dX0_contradicting_69 9 rfl ?_
            refine n_icmp_lt E dX0_contradicting_71 (by omega) (by omega) (tgt := 78) (by decide) (fun c71 => ?_) (fun c71 => ?_)
            · refine v_iconst E dX0_contradicting_78 (v := nI 0) rfl ?_
              refine v_istore E dX0_contradicting_79 (by decide) rfl ?_
              refine v_iload E dX0_contradicting_81 2 rfl ?_
              refine n_if_eq E dX0_contradicting_83 (by omega) (tgt := 96) (by decide) (fun c83 => ?_) (fun c83 => ?_)
              · refine v_iinc E dX0_contradicting_96 5 rfl (nI_1 _) (by decide) rfl ?_
                refine v_goto E dX0_contradicting_99 (tgt := 6) (by decide) ?_
                refine v_lv [5, 0, 6, 7, 8, 9, 10] rfl ?_
                exact ih6 (f) (r + 1) (by omega) (zct_f hf (by exact decide_eq_false (by omega))) (by omega)
              · refine v_iload E dX0_contradicting_86 1 rfl ?_
                refine v_iload E dX0_contradicting_88 0 rfl ?_
                refine n_icmp_ne E dX0_contradicting_90 (by omega) (by omega) (tgt := 96) (by decide) (fun c90 => ?_) (fun c90 => ?_)
                · refine v_iinc E dX0_contradicting_96 5 rfl (nI_1 _) (by decide) rfl ?_
                  refine v_goto E dX0_contradicting_99 (tgt := 6) (by decide) ?_
                  refine v_lv [5, 0, 6, 7, 8, 9, 10] rfl ?_
                  exact ih6 (f) (r + 1) (by omega) (zct_f hf (by exact decide_eq_false (by omega))) (by omega)
                · refine v_iinc E dX0_contradicting_93 4 rfl (nI_1 _) (by decide) rfl ?_
                  refine v_iinc E dX0_contradicting_96 5 rfl (nI_1 _) (by decide) rfl ?_
                  refine v_goto E dX0_contradicting_99 (tgt := 6) (by decide) ?_
                  refine v_lv [1, 0, 6, 7, 8, 9, 10] rfl ?_
                  exact ih6 (f + 1) (r + 1) (by omega) (zct_t hf (by exact decide_eq_true (by omega))) (by omega)
            · refine v_iconst E dX0_contradicting_74 (v := nI 1) rfl ?_
              refine v_goto E dX0_contradicting_75 (tgt := 79) (by decide) ?_
              refine v_istore E dX0_contradicting_79 (by decide) rfl ?_
              refine v_iload E dX0_contradicting_81 2 rfl ?_
              refine n_if_eq E dX0_contradicting_83 (by omega) (tgt := 96) (by decide) (fun c83 => ?_) (fun c83 => ?_)
              · refine v_iinc E dX0_contradicting_96 5 rfl (nI_1 _) (by decide) rfl ?_
                refine v_goto E dX0_contradicting_99 (tgt := 6) (by decide) ?_
                refine v_lv [5, 0, 6, 7, 8, 9, 10] rfl ?_
                exact ih6 (f) (r + 1) (by omega) (zct_f hf (by exact decide_eq_false (by omega))) (by omega)
              · refine v_iload E dX0_contradicting_86 1 rfl ?_
                refine v_iload E dX0_contradicting_88 0 rfl ?_
                refine n_icmp_ne E dX0_contradicting_90 (by omega) (by omega) (tgt := 96) (by decide) (fun c90 => ?_) (fun c90 => ?_)
                · refine v_iinc E dX0_contradicting_96 5 rfl (nI_1 _) (by decide) rfl ?_
                  refine v_goto E dX0_contradicting_99 (tgt := 6) (by decide) ?_
                  refine v_lv [5, 0, 6, 7, 8, 9, 10] rfl ?_
                  exact ih6 (f) (r + 1) (by omega) (zct_f hf (by exact decide_eq_false (by omega))) (by omega)
                · refine v_iinc E dX0_contradicting_93 4 rfl (nI_1 _) (by decide) rfl ?_
                  refine v_iinc E dX0_contradicting_96 5 rfl (nI_1 _) (by decide) rfl ?_
                  refine v_goto E dX0_contradicting_99 (tgt := 6) (by decide) ?_
                  refine v_lv [1, 0, 6, 7, 8, 9, 10] rfl ?_
                  exact ih6 (f + 1) (r + 1) (by omega) (zct_t hf (by exact decide_eq_true (by omega))) (by omega)
        · refine v_iload E dX0_contradicting_34 0 rfl ?_
          refine v_iload_n E dX0_contradicting_36 6 rfl rfl ?_
          refine n_icmp_gt E dX0_contradicting_37 (by omega) (by omega) (tgt := 44) (by decide) (fun c37 => ?_) (fun c37 => ?_)
          · refine v_iconst E dX0_contradicting_44 (v := nI 0) rfl ?_
            refine v_istore E dX0_contradicting_45 (by decide) rfl ?_
            refine v_aload_n E dX0_contradicting_47 4 rfl rfl ?_
            refine v_get E dX0_contradicting_48 4 2 hinX0 rfl rfl (by decide) (by decide +kernel) rfl rfl ?_
            refine v_iload_n E dX0_contradicting_51 5 rfl rfl ?_
            refine v_aald E dX0_contradicting_52 11 2 rfl rfl (by omega) (by decide) (zout_at (by omega)) ?_
            refine v_iload E dX0_contradicting_53 3 rfl ?_
            refine v_iald E dX0_contradicting_55 (26 + (t)) 0 (wX_row_rP (by omega)) rfl (by omega) (by decide) rfl ?_
            refine v_iconst E dX0_contradicting_56 (v := nI 1) rfl ?_
            refine n_icmp_ne E dX0_contradicting_57 (by omega) (by omega) (tgt := 64) (by decide) (fun c57 => ?_) (fun c57 => ?_)
            · refine v_iconst E dX0_contradicting_64 (v := nI 0) rfl ?_
              refine v_istore E dX0_contradicting_65 (by decide) rfl ?_
              refine v_iload E dX0_contradicting_67 2 rfl ?_
              refine v_iload E dX0_contradicting_69 9 rfl ?_
              refine n_icmp_lt E dX0_contradicting_71 (by omega) (by omega) (tgt := 78) (by decide) (fun c71 => ?_) (fun c71 => ?_)
              · refine v_iconst E dX0_contradicting_78 (v := nI 0) rfl ?_
                refine v_istore E dX0_contradicting_79 (by decide) rfl ?_
                refine v_iload E dX0_contradicting_81 2 rfl ?_
                refine n_if_eq E dX0_contradicting_83 (by omega) (tgt := 96) (by decide) (fun c83 => ?_) (fun c83 => ?_)
                · refine v_iinc E dX0_contradicting_96 5 rfl (nI_1 _) (by decide) rfl ?_
                  refine v_goto E dX0_contradicting_99 (tgt := 6) (by decide) ?_
                  refine v_lv [5, 0, 6, 7, 8, 9, 10] rfl ?_
                  exact ih6 (f) (r + 1) (by omega) (zct_f hf (by exact decide_eq_false (by omega))) (by omega)
                · refine v_iload E dX0_contradicting_86 1 rfl ?_
                  refine v_iload E dX0_contradicting_88 0 rfl ?_
                  refine n_icmp_ne E dX0_contradicting_90 (by omega) (by omega) (tgt := 96) (by decide) (fun c90 => ?_) (fun c90 => ?_)
                  · refine v_iinc E dX0_contradicting_96 5 rfl (nI_1 _) (by decide) rfl ?_
                    refine v_goto E dX0_contradicting_99 (tgt := 6) (by decide) ?_
                    refine v_lv [5, 0, 6, 7, 8, 9, 10] rfl ?_
                    exact ih6 (f) (r + 1) (by omega) (zct_f hf (by exact decide_eq_false (by omega))) (by omega)
                  · refine v_iinc E dX0_contradicting_93 4 rfl (nI_1 _) (by decide) rfl ?_
                    refine v_iinc E dX0_contradicting_96 5 rfl (nI_1 _) (by decide) rfl ?_
                    refine v_goto E dX0_contradicting_99 (tgt := 6) (by decide) ?_
                    refine v_lv [1, 0, 6, 7, 8, 9, 10] rfl ?_
                    exact ih6 (f + 1) (r + 1) (by omega) (zct_t hf (by exact decide_eq_true (by omega))) (by omega)
              · refine v_iconst E dX0_contradicting_74 (v := nI 1) rfl ?_
                refine v_goto E dX0_contradicting_75 (tgt := 79) (by decide) ?_
                refine v_istore E dX0_contradicting_79 (by decide) rfl ?_
                refine v_iload E dX0_contradicting_81 2 rfl ?_
                refine n_if_eq E dX0_contradicting_83 (by omega) (tgt := 96) (by decide) (fun c83 => ?_) (fun c83 => ?_)
                · refine v_iinc E dX0_contradicting_96 5 rfl (nI_1 _) (by decide) rfl ?_
                  refine v_goto E dX0_contradicting_99 (tgt := 6) (by decide) ?_
                  refine v_lv [5, 0, 6, 7, 8, 9, 10] rfl ?_
                  exact ih6 (f) (r + 1) (by omega) (zct_f hf (by exact decide_eq_false (by omega))) (by omega)
                · refine v_iload E dX0_contradicting_86 1 rfl ?_
                  refine v_iload E dX0_contradicting_88 0 rfl ?_
                  refine n_icmp_ne E dX0_contradicting_90 (by omega) (by omega) (tgt := 96) (by decide) (fun c90 => ?_) (fun c90 => ?_)
                  · refine v_iinc E dX0_contradicting_96 5 rfl (nI_1 _) (by decide) rfl ?_
                    refine v_goto E dX0_contradicting_99 (tgt := 6) (by decide) ?_
                    refine v_lv [5, 0, 6, 7, 8, 9, 10] rfl ?_
                    exact ih6 (f) (r + 1) (by omega) (zct_f hf (by exact decide_eq_false (by omega))) (by omega)
                  · refine v_iinc E dX0_contradicting_93 4 rfl (nI_1 _) (by decide) rfl ?_
                    refine v_iinc E dX0_contradicting_96 5 rfl (nI_1 _) (by decide) rfl ?_
                    refine v_goto E dX0_contradicting_99 (tgt := 6) (by decide) ?_
                    refine v_lv [1, 0, 6, 7, 8, 9, 10] rfl ?_
                    exact ih6 (f + 1) (r + 1) (by omega) (zct_t hf (by exact decide_eq_true (by omega))) (by omega)
            · refine v_iconst E dX0_contradicting_60 (v := nI 1) rfl ?_
              refine v_goto E dX0_contradicting_61 (tgt := 65) (by decide) ?_
              refine v_istore E dX0_contradicting_65 (by decide) rfl ?_
              refine v_iload E dX0_contradicting_67 2 rfl ?_
              refine v_iload E dX0_contradicting_69 9 rfl ?_
              refine n_icmp_lt E dX0_contradicting_71 (by omega) (by omega) (tgt := 78) (by decide) (fun c71 => ?_) (fun c71 => ?_)
              · refine v_iconst E dX0_contradicting_78 (v := nI 0) rfl ?_
                refine v_istore E dX0_contradicting_79 (by decide) rfl ?_
                refine v_iload E dX0_contradicting_81 2 rfl ?_
                refine n_if_eq E dX0_contradicting_83 (by omega) (tgt := 96) (by decide) (fun c83 => ?_) (fun c83 => ?_)
                · refine v_iinc E dX0_contradicting_96 5 rfl (nI_1 _) (by decide) rfl ?_
                  refine v_goto E dX0_contradicting_99 (tgt := 6) (by decide) ?_
                  refine v_lv [5, 0, 6, 7, 8, 9, 10] rfl ?_
                  exact ih6 (f) (r + 1) (by omega) (zct_f hf (by exact decide_eq_false (by omega))) (by omega)
                · refine v_iload E dX0_contradicting_86 1 rfl ?_
                  refine v_iload E dX0_contradicting_88 0 rfl ?_
                  refine n_icmp_ne E dX0_contradicting_90 (by omega) (by omega) (tgt := 96) (by decide) (fun c90 => ?_) (fun c90 => ?_)
                  · refine v_iinc E dX0_contradicting_96 5 rfl (nI_1 _) (by decide) rfl ?_
                    refine v_goto E dX0_contradicting_99 (tgt := 6) (by decide) ?_
                    refine v_lv [5, 0, 6, 7, 8, 9, 10] rfl ?_
                    exact ih6 (f) (r + 1) (by omega) (zct_f hf (by exact decide_eq_false (by omega))) (by omega)
                  · refine v_iinc E dX0_contradicting_93 4 rfl (nI_1 _) (by decide) rfl ?_
                    refine v_iinc E dX0_contradicting_96 5 rfl (nI_1 _) (by decide) rfl ?_
                    refine v_goto E dX0_contradicting_99 (tgt := 6) (by decide) ?_
                    refine v_lv [1, 0, 6, 7, 8, 9, 10] rfl ?_
                    exact ih6 (f + 1) (r + 1) (by omega) (zct_t hf (by exact decide_eq_true (by omega))) (by omega)
              · refine v_iconst E dX0_contradicting_74 (v := nI 1) rfl ?_
                refine v_goto E dX0_contradicting_75 (tgt := 79) (by decide) ?_
                refine v_istore E dX0_contradicting_79 (by decide) rfl ?_
                refine v_iload E dX0_contradicting_81 2 rfl ?_
                refine n_if_eq E dX0_contradicting_83 (by omega) (tgt := 96) (by decide) (fun c83 => ?_) (fun c83 => ?_)
                · refine v_iinc E dX0_contradicting_96 5 rfl (nI_1 _) (by decide) rfl ?_
                  refine v_goto E dX0_contradicting_99 (tgt := 6) (by decide) ?_
                  refine v_lv [5, 0, 6, 7, 8, 9, 10] rfl ?_
                  exact ih6 (f) (r + 1) (by omega) (zct_f hf (by exact decide_eq_false (by omega))) (by omega)
                · refine v_iload E dX0_contradicting_86 1 rfl ?_
                  refine v_iload E dX0_contradicting_88 0 rfl ?_
                  refine n_icmp_ne E dX0_contradicting_90 (by omega) (by omega) (tgt := 96) (by decide) (fun c90 => ?_) (fun c90 => ?_)
                  · refine v_iinc E dX0_contradicting_96 5 rfl (nI_1 _) (by decide) rfl ?_
                    refine v_goto E dX0_contradicting_99 (tgt := 6) (by decide) ?_
                    refine v_lv [5, 0, 6, 7, 8, 9, 10] rfl ?_
                    exact ih6 (f) (r + 1) (by omega) (zct_f hf (by exact decide_eq_false (by omega))) (by omega)
                  · refine v_iinc E dX0_contradicting_93 4 rfl (nI_1 _) (by decide) rfl ?_
                    refine v_iinc E dX0_contradicting_96 5 rfl (nI_1 _) (by decide) rfl ?_
                    refine v_goto E dX0_contradicting_99 (tgt := 6) (by decide) ?_
                    refine v_lv [1, 0, 6, 7, 8, 9, 10] rfl ?_
                    exact ih6 (f + 1) (r + 1) (by omega) (zct_t hf (by exact decide_eq_true (by omega))) (by omega)
          · refine v_iconst E dX0_contradicting_40 (v := nI 1) rfl ?_
            refine v_goto E dX0_contradicting_41 (tgt := 45) (by decide) ?_
            refine v_istore E dX0_contradicting_45 (by decide) rfl ?_
            refine v_aload_n E dX0_contradicting_47 4 rfl rfl ?_
            refine v_get E dX0_contradicting_48 4 2 hinX0 rfl rfl (by decide) (by decide +kernel) rfl rfl ?_
            refine v_iload_n E dX0_contradicting_51 5 rfl rfl ?_
            refine v_aald E dX0_contradicting_52 11 2 rfl rfl (by omega) (by decide) (zout_at (by omega)) ?_
            refine v_iload E dX0_contradicting_53 3 rfl ?_
            refine v_iald E dX0_contradicting_55 (26 + (t)) 0 (wX_row_rP (by omega)) rfl (by omega) (by decide) rfl ?_
            refine v_iconst E dX0_contradicting_56 (v := nI 1) rfl ?_
            refine n_icmp_ne E dX0_contradicting_57 (by omega) (by omega) (tgt := 64) (by decide) (fun c57 => ?_) (fun c57 => ?_)
            · refine v_iconst E dX0_contradicting_64 (v := nI 0) rfl ?_
              refine v_istore E dX0_contradicting_65 (by decide) rfl ?_
              refine v_iload E dX0_contradicting_67 2 rfl ?_
              refine v_iload E dX0_contradicting_69 9 rfl ?_
              refine n_icmp_lt E dX0_contradicting_71 (by omega) (by omega) (tgt := 78) (by decide) (fun c71 => ?_) (fun c71 => ?_)
              · refine v_iconst E dX0_contradicting_78 (v := nI 0) rfl ?_
                refine v_istore E dX0_contradicting_79 (by decide) rfl ?_
                refine v_iload E dX0_contradicting_81 2 rfl ?_
                refine n_if_eq E dX0_contradicting_83 (by omega) (tgt := 96) (by decide) (fun c83 => ?_) (fun c83 => ?_)
                · refine v_iinc E dX0_contradicting_96 5 rfl (nI_1 _) (by decide) rfl ?_
                  refine v_goto E dX0_contradicting_99 (tgt := 6) (by decide) ?_
                  refine v_lv [5, 0, 6, 7, 8, 9, 10] rfl ?_
                  exact ih6 (f) (r + 1) (by omega) (zct_f hf (by exact decide_eq_false (by omega))) (by omega)
                · refine v_iload E dX0_contradicting_86 1 rfl ?_
                  refine v_iload E dX0_contradicting_88 0 rfl ?_
                  refine n_icmp_ne E dX0_contradicting_90 (by omega) (by omega) (tgt := 96) (by decide) (fun c90 => ?_) (fun c90 => ?_)
                  · refine v_iinc E dX0_contradicting_96 5 rfl (nI_1 _) (by decide) rfl ?_
                    refine v_goto E dX0_contradicting_99 (tgt := 6) (by decide) ?_
                    refine v_lv [5, 0, 6, 7, 8, 9, 10] rfl ?_
                    exact ih6 (f) (r + 1) (by omega) (zct_f hf (by exact decide_eq_false (by omega))) (by omega)
                  · refine v_iinc E dX0_contradicting_93 4 rfl (nI_1 _) (by decide) rfl ?_
                    refine v_iinc E dX0_contradicting_96 5 rfl (nI_1 _) (by decide) rfl ?_
                    refine v_goto E dX0_contradicting_99 (tgt := 6) (by decide) ?_
                    refine v_lv [1, 0, 6, 7, 8, 9, 10] rfl ?_
                    exact ih6 (f + 1) (r + 1) (by omega) (zct_t hf (by exact decide_eq_true (by omega))) (by omega)
              · refine v_iconst E dX0_contradicting_74 (v := nI 1) rfl ?_
                refine v_goto E dX0_contradicting_75 (tgt := 79) (by decide) ?_
                refine v_istore E dX0_contradicting_79 (by decide) rfl ?_
                refine v_iload E dX0_contradicting_81 2 rfl ?_
                refine n_if_eq E dX0_contradicting_83 (by omega) (tgt := 96) (by decide) (fun c83 => ?_) (fun c83 => ?_)
                · refine v_iinc E dX0_contradicting_96 5 rfl (nI_1 _) (by decide) rfl ?_
                  refine v_goto E dX0_contradicting_99 (tgt := 6) (by decide) ?_
                  refine v_lv [5, 0, 6, 7, 8, 9, 10] rfl ?_
                  exact ih6 (f) (r + 1) (by omega) (zct_f hf (by exact decide_eq_false (by omega))) (by omega)
                · refine v_iload E dX0_contradicting_86 1 rfl ?_
                  refine v_iload E dX0_contradicting_88 0 rfl ?_
                  refine n_icmp_ne E dX0_contradicting_90 (by omega) (by omega) (tgt := 96) (by decide) (fun c90 => ?_) (fun c90 => ?_)
                  · refine v_iinc E dX0_contradicting_96 5 rfl (nI_1 _) (by decide) rfl ?_
                    refine v_goto E dX0_contradicting_99 (tgt := 6) (by decide) ?_
                    refine v_lv [5, 0, 6, 7, 8, 9, 10] rfl ?_
                    exact ih6 (f) (r + 1) (by omega) (zct_f hf (by exact decide_eq_false (by omega))) (by omega)
                  · refine v_iinc E dX0_contradicting_93 4 rfl (nI_1 _) (by decide) rfl ?_
                    refine v_iinc E dX0_contradicting_96 5 rfl (nI_1 _) (by decide) rfl ?_
                    refine v_goto E dX0_contradicting_99 (tgt := 6) (by decide) ?_
                    refine v_lv [1, 0, 6, 7, 8, 9, 10] rfl ?_
                    exact ih6 (f + 1) (r + 1) (by omega) (zct_t hf (by exact decide_eq_true (by omega))) (by omega)
            · refine v_iconst E dX0_contradicting_60 (v := nI 1) rfl ?_
              refine v_goto E dX0_contradicting_61 (tgt := 65) (by decide) ?_
              refine v_istore E dX0_contradicting_65 (by decide) rfl ?_
              refine v_iload E dX0_contradicting_67 2 rfl ?_
              refine v_iload E dX0_contradicting_69 9 rfl ?_
              refine n_icmp_lt E dX0_contradicting_71 (by omega) (by omega) (tgt := 78) (by decide) (fun c71 => ?_) (fun c71 => ?_)
              · refine v_iconst E dX0_contradicting_78 (v := nI 0) rfl ?_
                refine v_istore E dX0_contradicting_79 (by decide) rfl ?_
                refine v_iload E dX0_contradicting_81 2 rfl ?_
                refine n_if_eq E dX0_contradicting_83 (by omega) (tgt := 96) (by decide) (fun c83 => ?_) (fun c83 => ?_)
                · refine v_iinc E dX0_contradicting_96 5 rfl (nI_1 _) (by decide) rfl ?_
                  refine v_goto E dX0_contradicting_99 (tgt := 6) (by decide) ?_
                  refine v_lv [5, 0, 6, 7, 8, 9, 10] rfl ?_
                  exact ih6 (f) (r + 1) (by omega) (zct_f hf (by exact decide_eq_false (by omega))) (by omega)
                · refine v_iload E dX0_contradicting_86 1 rfl ?_
                  refine v_iload E dX0_contradicting_88 0 rfl ?_
                  refine n_icmp_ne E dX0_contradicting_90 (by omega) (by omega) (tgt := 96) (by decide) (fun c90 => ?_) (fun c90 => ?_)
                  · refine v_iinc E dX0_contradicting_96 5 rfl (nI_1 _) (by decide) rfl ?_
                    refine v_goto E dX0_contradicting_99 (tgt := 6) (by decide) ?_
                    refine v_lv [5, 0, 6, 7, 8, 9, 10] rfl ?_
                    exact ih6 (f) (r + 1) (by omega) (zct_f hf (by exact decide_eq_false (by omega))) (by omega)
                  · refine v_iinc E dX0_contradicting_93 4 rfl (nI_1 _) (by decide) rfl ?_
                    refine v_iinc E dX0_contradicting_96 5 rfl (nI_1 _) (by decide) rfl ?_
                    refine v_goto E dX0_contradicting_99 (tgt := 6) (by decide) ?_
                    refine v_lv [1, 0, 6, 7, 8, 9, 10] rfl ?_
                    exact ih6 (f + 1) (r + 1) (by omega) (zct_t hf (by exact decide_eq_true (by omega))) (by omega)
              · refine v_iconst E dX0_contradicting_74 (v := nI 1) rfl ?_
                refine v_goto E dX0_contradicting_75 (tgt := 79) (by decide) ?_
                refine v_istore E dX0_contradicting_79 (by decide) rfl ?_
                refine v_iload E dX0_contradicting_81 2 rfl ?_
                refine n_if_eq E dX0_contradicting_83 (by omega) (tgt := 96) (by decide) (fun c83 => ?_) (fun c83 => ?_)
                · refine v_iinc E dX0_contradicting_96 5 rfl (nI_1 _) (by decide) rfl ?_
                  refine v_goto E dX0_contradicting_99 (tgt := 6) (by decide) ?_
                  refine v_lv [5, 0, 6, 7, 8, 9, 10] rfl ?_
                  exact ih6 (f) (r + 1) (by omega) (zct_f hf (by exact decide_eq_false (by omega))) (by omega)
                · refine v_iload E dX0_contradicting_86 1 rfl ?_
                  refine v_iload E dX0_contradicting_88 0 rfl ?_
                  refine n_icmp_ne E dX0_contradicting_90 (by omega) (by omega) (tgt := 96) (by decide) (fun c90 => ?_) (fun c90 => ?_)
                  · refine v_iinc E dX0_contradicting_96 5 rfl (nI_1 _) (by decide) rfl ?_
                    refine v_goto E dX0_contradicting_99 (tgt := 6) (by decide) ?_
                    refine v_lv [5, 0, 6, 7, 8, 9, 10] rfl ?_
                    exact ih6 (f) (r + 1) (by omega) (zct_f hf (by exact decide_eq_false (by omega))) (by omega)
                  · refine v_iinc E dX0_contradicting_93 4 rfl (nI_1 _) (by decide) rfl ?_
                    refine v_iinc E dX0_contradicting_96 5 rfl (nI_1 _) (by decide) rfl ?_
                    refine v_goto E dX0_contradicting_99 (tgt := 6) (by decide) ?_
                    refine v_lv [1, 0, 6, 7, 8, 9, 10] rfl ?_
                    exact ih6 (f + 1) (r + 1) (by omega) (zct_t hf (by exact decide_eq_true (by omega))) (by omega)
  refine v_lv [1, 0, 2, 3, 4, 5, 6] rfl ?_
  exact L6_1 ((z_R S t - (0)) + 1) (0) (0) (by omega) rfl (by omega)

set_option maxHeartbeats 4000000 in
set_option maxRecDepth 100000 in
theorem x_X0_passesWithin (l : Launch) (D : va_G) (cI cZ cQ cJ : ClassId) (a : Nat → Nat) (S : zS) (hok : zOK S) (t g b : Nat) (ht : t < 12) (hg : g ≤ b) (hb : b < 40)  : v_Rdi l yX0_passesWithin wsX0_passesWithin { frames := 0, cells := 0, slots := 0, locals := 0 } D (wTy cI cZ cQ cJ) [.ref (a 4), .int (nI (t)), .int (nI (g)), .int (nI (b))] (wX cI cZ cQ a S) (nI (sr (z_P S t) g (b + 1))) := by
  refine v_reader (cc := cX0_passesWithin) (maxL := 6) (ret := (some .int)) (own := RX0) (lv0 := [(0, .ref (a 4)), (1, .int (nI (t))), (2, .int (nI (g))), (3, .int (nI (b)))]) (by decide) rfl rfl (Nat.le_of_ble_eq_true rfl) rfl ?_
  intro p9 e9 s9 m9 as9 bl9 me9 cd9 E hr
  have hinX0 : ∀ w ∈ u_ws RX0 TX0 5, w ∈ wsX0_passesWithin := by decide +kernel
  refine v_iconst E dX0_passesWithin_0 (v := nI 0) rfl ?_
  refine v_istore E dX0_passesWithin_1 (by decide) rfl ?_
  refine v_iload_n E dX0_passesWithin_3 3 rfl rfl ?_
  refine v_istore E dX0_passesWithin_4 (by decide) rfl ?_
  have L6_1 : ∀ (n6 : Nat) (f : Nat) (c : Nat), b + 1 - c < n6 → f = sr (z_P S t) g c → g ≤ c → c ≤ b + 1 → V p9 l e9 (headSpec wsX0_passesWithin { frames := 0, cells := 0, slots := 0, locals := 0 }).room s9 m9 as9 bl9 me9 cd9 0 0 (MQ bl9 (vp_Si (fun r => r = nI (sr (z_P S t) g (b + 1)))) as9 s9 0 0 (fun _ => False)) (v_ro D s9) 6 6 [(4, .int (nI (f))), (5, .int (nI (c))), (0, .ref (a 4)), (1, .int (nI (t))), (2, .int (nI (g))), (3, .int (nI (b)))] [] (wX cI cZ cQ a S) := by
    intro n6
    induction n6 with
    | zero => intro f c hm6 hf h1 h2; exact absurd hm6 (Nat.not_lt_zero _)
    | succ n6 ih6 =>
      intro f c hm6 hf h1 h2
      refine v_iload E dX0_passesWithin_6 1 rfl ?_
      refine v_iload_n E dX0_passesWithin_8 5 rfl rfl ?_
      refine n_icmp_gt E dX0_passesWithin_9 (by omega) (by omega) (tgt := 32) (by decide) (fun c9 => ?_) (fun c9 => ?_)
      · refine v_iload E dX0_passesWithin_32 0 rfl ?_
        exact v_ret E hr (by have e : c = b + 1 := (by omega); rw [hf, e]) dX0_passesWithin_34
      · refine v_iload E dX0_passesWithin_12 0 rfl ?_
        refine v_aload_n E dX0_passesWithin_14 2 rfl rfl ?_
        refine v_get E dX0_passesWithin_15 4 3 hinX0 rfl rfl (by decide) (by decide +kernel) rfl rfl ?_
        refine v_iload_n E dX0_passesWithin_18 3 rfl rfl ?_
        refine v_aald E dX0_passesWithin_19 12 2 rfl rfl (by omega) (by decide) (zout_at (by omega)) ?_
        refine v_iload E dX0_passesWithin_20 1 rfl ?_
        refine v_iald E dX0_passesWithin_22 (38 + (t)) 0 (wX_row_P (by omega)) rfl (by omega) (by decide) rfl ?_
        refine v_iadd E dX0_passesWithin_23 (nI_add _ _) ?_
        refine v_istore E dX0_passesWithin_24 (by decide) rfl ?_
        refine v_iinc E dX0_passesWithin_26 1 rfl (nI_1 _) (by decide) rfl ?_
        refine v_goto E dX0_passesWithin_29 (tgt := 6) (by decide) ?_
        refine v_lv [1, 0, 2, 3, 4, 5] rfl ?_
        exact ih6 (f + z_P S t c) (c + 1) (by omega) (zsr_s hf (by omega)) (by omega) (by omega)
  refine v_lv [1, 0, 2, 3, 4, 5] rfl ?_
  exact L6_1 ((b + 1 - (g)) + 1) (0) (g) (by omega) (sr_0 _ _ _ (Nat.le_refl _)).symm (by omega) (by omega)

set_option maxHeartbeats 4000000 in
set_option maxRecDepth 100000 in
theorem x_X0_riseBehind (l : Launch) (D : va_G) (cI cZ cQ cJ : ClassId) (a : Nat → Nat) (S : zS) (hok : zOK S) (t c : Nat) (ht : t < 12) (hc : c < 40)  : v_Rdi l yX0_riseBehind wsX0_riseBehind { frames := 0, cells := 0, slots := 0, locals := 0 } D (wTy cI cZ cQ cJ) [.ref (a 4), .int (nI (t)), .int (nI (c))] (wX cI cZ cQ a S) (nI (z_F S t c) - nI (z_P S t c)) := by
  refine v_reader (cc := cX0_riseBehind) (maxL := 3) (ret := (some .int)) (own := RX0) (lv0 := [(0, .ref (a 4)), (1, .int (nI (t))), (2, .int (nI (c)))]) (by decide) rfl rfl (Nat.le_of_ble_eq_true rfl) rfl ?_
  intro p9 e9 s9 m9 as9 bl9 me9 cd9 E hr
  have hinX0 : ∀ w ∈ u_ws RX0 TX0 5, w ∈ wsX0_riseBehind := by decide +kernel
  refine v_aload_n E dX0_riseBehind_0 0 rfl rfl ?_
  refine v_get E dX0_riseBehind_1 4 4 hinX0 rfl rfl (by decide) (by decide +kernel) rfl rfl ?_
  refine v_iload_n E dX0_riseBehind_4 1 rfl rfl ?_
  refine v_aald E dX0_riseBehind_5 13 2 rfl rfl (by omega) (by decide) (zout_at (by omega)) ?_
  refine v_iload_n E dX0_riseBehind_6 2 rfl rfl ?_
  refine v_iald E dX0_riseBehind_7 (50 + (t)) 0 (wX_row_F (by omega)) rfl (by omega) (by decide) rfl ?_
  refine v_aload_n E dX0_riseBehind_8 0 rfl rfl ?_
  refine v_get E dX0_riseBehind_9 4 3 hinX0 rfl rfl (by decide) (by decide +kernel) rfl rfl ?_
  refine v_iload_n E dX0_riseBehind_12 1 rfl rfl ?_
  refine v_aald E dX0_riseBehind_13 12 2 rfl rfl (by omega) (by decide) (zout_at (by omega)) ?_
  refine v_iload_n E dX0_riseBehind_14 2 rfl rfl ?_
  refine v_iald E dX0_riseBehind_15 (38 + (t)) 0 (wX_row_P (by omega)) rfl (by omega) (by decide) rfl ?_
  refine v_isub E dX0_riseBehind_16 rfl ?_
  exact v_ret E hr rfl dX0_riseBehind_17
end
section
/-! ===== what the system answers, as numbers; facts about it ===== -/
theorem stp_lt {U : Nat → Nat} (hU : ∀ j, U j < 65536) {m : Nat} (hm : m < 65536) : ∀ n, stp U m n < 65536
  | 0 => hm
  | n + 1 => by
    show (if m.testBit n then stp U m n ||| U n else stp U m n) < 65536
    split
    · exact Nat.or_lt_two_pow (n := 16) (stp_lt hU hm n) (hU n)
    · exact stp_lt hU hm n
theorem rch_lt {U : Nat → Nat} (hU : ∀ j, U j < 65536) {m : Nat} (hm : m < 65536) : ∀ n, rch U m n < 65536
  | 0 => hm
  | n + 1 => stp_lt hU (rch_lt hU hm n) 16
theorem stp_t {U : Nat → Nat} {m w n : Nat} (hw : w = stp U m n) (h : m.testBit n = true) : w ||| U n = stp U m (n + 1) := by
  show _ = if m.testBit n then stp U m n ||| U n else stp U m n
  rw [if_pos h, hw]
theorem stp_f {U : Nat → Nat} {m w n : Nat} (hw : w = stp U m n) (h : m.testBit n = false) : w = stp U m (n + 1) := by
  show _ = if m.testBit n then stp U m n ||| U n else stp U m n
  rw [if_neg (by rw [h]; decide), hw]
theorem rch_fix {U : Nat → Nat} {d r : Nat} (h : stp U (rch U d r) 16 = rch U d r) : ∀ k, rch U d (r + k) = rch U d r
  | 0 => rfl
  | k + 1 => by
    show stp U (rch U d (r + k)) 16 = _
    rw [rch_fix h k, h]
/-- the parts of a test -/
def zre (S : zS) (t : Nat) : Nat := rch (z_U S) (z_D S t) 16
theorem zre_lt {S : zS} (h : zOK S) (t : Nat) : zre S t < 65536 := rch_lt (fun j => (h.2.1 j).1) (h.2.1 t).2.2 16
theorem zre_of {S : zS} {t r m : Nat} (hm : m = rch (z_U S) (z_D S t) r) (h : stp (z_U S) m 16 = m) (hr : r ≤ 16) : m = zre S t := by
  subst hm
  have e := rch_fix h (16 - r)
  rw [show r + (16 - r) = 16 by omega] at e
  exact e.symm
/-! masks -/
theorem msk_tb (p : Nat → Bool) (i : Nat) : ∀ n, (msk p n).testBit i = (decide (i < n) && p i)
  | 0 => by
    show (0 : Nat).testBit i = _
    rw [Nat.zero_testBit, decide_eq_false (Nat.not_lt_zero i), Bool.false_and]
  | n + 1 => by
    show (msk p n ||| (if p n then 2 ^ n else 0)).testBit i = _
    rw [Nat.testBit_or, msk_tb p i n]
    by_cases e : n = i
    · subst e
      rw [decide_eq_false (Nat.lt_irrefl _), decide_eq_true (Nat.lt_succ_self _), Bool.false_and, Bool.false_or, Bool.true_and]
      cases h : p n
      · rw [if_neg (by decide), Nat.zero_testBit]
      · rw [if_pos rfl, Nat.testBit_two_pow_self]
    · have e2 : (if p n then 2 ^ n else 0).testBit i = false := by
        split
        · exact Nat.testBit_two_pow_of_ne e
        · exact Nat.zero_testBit i
      rw [e2, Bool.or_false]
      by_cases q : i < n
      · rw [decide_eq_true q, decide_eq_true (by omega)]
      · rw [decide_eq_false q, decide_eq_false (by omega)]
theorem msk_lt (p : Nat → Bool) : ∀ n, msk p n < 2 ^ n
  | 0 => Nat.one_pos
  | n + 1 => by
    show (msk p n ||| (if p n then 2 ^ n else 0)) < 2 ^ (n + 1)
    refine Nat.or_lt_two_pow ?_ ?_
    · exact Nat.lt_trans (msk_lt p n) (Nat.pow_lt_pow_right (by decide) (Nat.lt_succ_self n))
    · split
      · exact Nat.pow_lt_pow_right (by decide) (Nat.lt_succ_self n)
      · exact Nat.two_pow_pos _
theorem msk_lt62 (p : Nat → Bool) {n : Nat} (h : n ≤ 41) : msk p n < 2 ^ 41 := Nat.lt_of_lt_of_le (msk_lt p n) (Nat.pow_le_pow_right (by decide) h)
theorem msk_t {p : Nat → Bool} {m n : Nat} (h : m = msk p n) (hp : p n = true) : m ||| 2 ^ n = msk p (n + 1) := by
  show _ = msk p n ||| (if p n then 2 ^ n else 0)
  rw [if_pos hp, h]
theorem msk_f {p : Nat → Bool} {m n : Nat} (h : m = msk p n) (hp : p n = false) : m = msk p (n + 1) := by
  show _ = msk p n ||| (if p n then 2 ^ n else 0)
  rw [if_neg (by rw [hp]; decide), Nat.or_zero, h]
theorem msk_z {p : Nat → Bool} : ∀ n, (∀ i, i < n → p i = false) → 0 = msk p n
  | 0, _ => rfl
  | n + 1, h => msk_f (msk_z n (fun i hi => h i (by omega))) (h n (by omega))
theorem msk_up {p : Nat → Bool} {n : Nat} : ∀ k, (∀ i, n ≤ i → p i = false) → msk p (n + k) = msk p n
  | 0, _ => rfl
  | k + 1, h => (msk_f (msk_up k h).symm (h (n + k) (by omega))).symm
theorem msk_to {p : Nat → Bool} {n m : Nat} (hn : n ≤ m) (h : ∀ i, n ≤ i → p i = false) : msk p m = msk p n := by
  have e := msk_up (p := p) (m - n) h
  rw [show n + (m - n) = m by omega] at e
  exact e
theorem sm_up {f : Nat → Nat} {n m : Nat} (hn : n ≤ m) (h : ∀ i, n ≤ i → f i = 0) : sm f m = sm f n := by
  obtain ⟨k, rfl⟩ : ∃ k, m = n + k := ⟨m - n, by omega⟩
  rw [sm_split, sm_z k (fun i _ => h (n + i) (by omega))]
  rfl
theorem pop_msk {p : Nat → Bool} {n : Nat} (hn : n ≤ 64) : pop (msk p n) = ct p n := by
  unfold pop ct
  have e : ∀ i, b1 ((msk p n).testBit i) = if i < n then b1 (p i) else 0 := fun i => by
    rw [msk_tb]
    by_cases q : i < n
    · rw [if_pos q, decide_eq_true q, Bool.true_and]
    · rw [if_neg q, decide_eq_false q, Bool.false_and]
      rfl
  rw [sm_cg 64 (fun i _ => e i), sm_up hn (fun i hi => if_neg (by omega))]
  exact sm_cg n (fun i hi => if_pos hi)
theorem pop_div {p : Nat → Bool} {n k : Nat} (hn : n ≤ 64) : pop (msk p n / 2 ^ k) = sr (fun i => b1 (p i)) k n := by
  unfold pop ct sr
  have e : ∀ i, b1 ((msk p n / 2 ^ k).testBit i) = (fun j => if k ≤ j then (if j < n then b1 (p j) else 0) else 0) (k + i) := fun i => by
    try dsimp only
    rw [Nat.testBit_div_two_pow, msk_tb, if_pos (Nat.le_add_right k i), Nat.add_comm i k]
    by_cases q : k + i < n
    · rw [if_pos q, decide_eq_true q, Bool.true_and]
    · rw [if_neg q, decide_eq_false q, Bool.false_and]
      rfl
  rw [sm_cg 64 (fun i _ => e i)]
  have e2 := sm_split (fun j => if k ≤ j then (if j < n then b1 (p j) else 0) else 0) k 64
  rw [sm_z k (fun i hi => if_neg (by omega)), Nat.zero_add] at e2
  rw [← e2]
  have e3 : sm (fun j => if k ≤ j then (if j < n then b1 (p j) else 0) else 0) (k + 64) = sm (fun j => if k ≤ j then (if j < n then b1 (p j) else 0) else 0) n := by
    by_cases q : n ≤ k + 64
    · exact sm_up q (fun i hi => by rw [if_neg (show ¬ i < n by omega)]; split <;> rfl)
    · omega
  rw [e3]
  exact sm_cg n (fun i hi => by rw [if_pos hi])
theorem sr_ct (p : Nat → Bool) (k : Nat) : ∀ n, k ≤ n → sr (fun i => b1 (p i)) k n + ct p k = ct p n
  | 0, h => by
    have : k = 0 := by omega
    subst this
    rfl
  | n + 1, h => by
    by_cases e : k = n + 1
    · subst e
      rw [sr_0 _ _ _ (Nat.le_refl _), Nat.zero_add]
    · have := sr_ct p k n (by omega)
      rw [sr_s _ (by omega), ct_s]
      omega
/-! suspects, contradictions, candidates -/
def sus (S : zS) (t c : Nat) : Bool := decide (z_G S t < c ∧ c ≤ z_B S t ∧ (z_C S c &&& zre S t) ≠ 0)
def zagf (S : zS) (t q : Nat) : Nat → Nat := fun i => if i < q then z_F S t i else z_P S t i
/-- how many runs contradict a commit -/
def zag (S : zS) (t q : Nat) : Nat := sr (zagf S t q) (z_G S t) (z_B S t + 1)
def cnd (S : zS) (t c : Nat) : Bool := sus S t c && decide (zag S t c ≤ z_no S)
theorem sus_lo {S : zS} {t c : Nat} (h : c ≤ z_G S t) : sus S t c = false := decide_eq_false (by omega)
theorem sus_hi {S : zS} {t c : Nat} (h : z_B S t < c) : sus S t c = false := decide_eq_false (by omega)
theorem cnd_lo {S : zS} {t c : Nat} (h : c ≤ z_G S t) : cnd S t c = false := by unfold cnd; rw [sus_lo h]; rfl
theorem cnd_hi {S : zS} {t c : Nat} (h : z_B S t < c) : cnd S t c = false := by unfold cnd; rw [sus_hi h]; rfl
theorem sm_pt {f g : Nat → Nat} {q : Nat} (h : ∀ i, i ≠ q → f i = g i) : ∀ n, q < n → sm f n + g q = sm g n + f q
  | 0, hq => absurd hq (Nat.not_lt_zero _)
  | n + 1, hq => by
    show sm f n + f n + g q = sm g n + g n + f q
    by_cases e : q = n
    · subst e
      rw [sm_cg q (fun i hi => h i (by omega))]
      omega
    · have := sm_pt h n (by omega)
      rw [h n (by omega)]
      omega
theorem zag_0 (S : zS) (t : Nat) : zag S t (z_G S t) = sr (z_P S t) (z_G S t) (z_B S t + 1) := by
  unfold zag sr zagf
  refine sm_cg _ (fun i _ => ?_)
  try dsimp only
  by_cases q : z_G S t ≤ i
  · rw [if_pos q, if_pos q, if_neg (by omega)]
  · rw [if_neg q, if_neg q]
theorem zag_s {S : zS} {t q : Nat} (h1 : z_G S t ≤ q) (h2 : q ≤ z_B S t) : zag S t (q + 1) + z_P S t q = zag S t q + z_F S t q := by
  have h := sm_pt (f := fun i => if z_G S t ≤ i then zagf S t (q + 1) i else 0) (g := fun i => if z_G S t ≤ i then zagf S t q i else 0) (q := q) (fun i hi => by
    try dsimp only
    unfold zagf
    by_cases a : i < q
    · rw [if_pos a, if_pos (show i < q + 1 by omega)]
    · rw [if_neg a, if_neg (show ¬ i < q + 1 by omega)]) (z_B S t + 1) (by omega)
  try dsimp only at h
  rw [if_pos h1, if_pos h1] at h
  unfold zagf at h
  rw [if_neg (Nat.lt_irrefl q), if_pos (Nat.lt_succ_self q)] at h
  exact h
theorem zag_i {S : zS} {t q : Nat} (h1 : z_G S t ≤ q) (h2 : q ≤ z_B S t) : nI (zag S t q) + (nI (z_F S t q) - nI (z_P S t q)) = nI (zag S t (q + 1)) := by
  have h : nI (zag S t (q + 1)) + nI (z_P S t q) = nI (zag S t q) + nI (z_F S t q) := by rw [nI_add, nI_add, zag_s h1 h2]
  rw [Int32.sub_eq_add_neg, ← Int32.add_assoc, ← h, Int32.add_assoc, Int32.add_right_neg, Int32.add_zero]
theorem zag_le {S : zS} (h : zOK S) {t : Nat} (q : Nat) (hb : z_B S t < 40) : zag S t q ≤ 200 := by
  have h1 := zPF_sum h t
  have h2 := (h.2.2.2.2.1 t).1
  have h3 : zag S t q ≤ sm (fun i => z_P S t i + z_F S t i) 40 :=
    Nat.le_trans (sr_le_sm _ _ _ 40 (by omega)) (sm_le 40 (fun i _ => by unfold zagf; split <;> omega))
  rw [sm_add] at h3
  omega
/-! the likeliest suspect below n, from 1 on; 0: none -/
def zlk (S : zS) (t : Nat) : Nat → Nat
  | 0 => 0
  | n + 1 => if sus S t n = true ∧ (zlk S t n = 0 ∨ zag S t n < zag S t (zlk S t n - 1)) then n + 1 else zlk S t n
def oI (b : Nat) : Int32 := if b = 0 then -1 else nI (b - 1)
theorem oI_0 : oI 0 = -1 := rfl
theorem oI_s (n : Nat) : oI (n + 1) = nI n := by
  unfold oI
  rw [if_neg (Nat.succ_ne_zero n), Nat.add_sub_cancel]
theorem oI_lt {b : Nat} (hb : b < 2 ^ 31) : oI b < 0 ↔ b = 0 := by
  cases b with
  | zero => exact ⟨fun _ => rfl, fun _ => by decide⟩
  | succ n =>
    rw [oI_s]
    refine ⟨fun h => absurd h ?_, fun h => absurd h (Nat.succ_ne_zero n)⟩
    exact nI_pos (by omega)
theorem zlk_le (S : zS) (t : Nat) : ∀ n, zlk S t n ≤ n
  | 0 => Nat.le_refl _
  | n + 1 => by
    show (if _ then n + 1 else zlk S t n) ≤ n + 1
    split
    · exact Nat.le_refl _
    · exact Nat.le_succ_of_le (zlk_le S t n)
theorem zlk_t {S : zS} {t n b : Nat} (hb : b = zlk S t n) (h1 : sus S t n = true) (h2 : b = 0 ∨ zag S t n < zag S t (b - 1)) : n + 1 = zlk S t (n + 1) := by
  subst hb
  show _ = if _ then n + 1 else zlk S t n
  rw [if_pos ⟨h1, h2⟩]
theorem zlk_f {S : zS} {t n b : Nat} (hb : b = zlk S t n) (h : ¬ (sus S t n = true ∧ (b = 0 ∨ zag S t n < zag S t (b - 1)))) : b = zlk S t (n + 1) := by
  subst hb
  show _ = if _ then n + 1 else zlk S t n
  rw [if_neg h]
theorem zlk_z {S : zS} {t : Nat} : ∀ n, (∀ i, i < n → sus S t i = false) → 0 = zlk S t n
  | 0, _ => rfl
  | n + 1, h => zlk_f (zlk_z n (fun i hi => h i (by omega))) (by rw [h n (by omega)]; exact fun q => absurd q.1 (by decide))
/-! places in the queue -/
theorem plc_le (Q : Nat → Nat) (t : Nat) : ∀ n, plc Q n t ≤ n
  | 0 => Nat.le_refl _
  | n + 1 => by
    show (if Q n = t then n + 1 else plc Q n t) ≤ n + 1
    split
    · exact Nat.le_refl _
    · exact Nat.le_succ_of_le (plc_le Q t n)
theorem plc_at {Q : Nat → Nat} {t k : Nat} : ∀ n, plc Q n t = k + 1 → k < n ∧ Q k = t
  | 0, h => absurd h (Nat.succ_ne_zero k).symm
  | n + 1, h => by
    have h : (if Q n = t then n + 1 else plc Q n t) = k + 1 := h
    by_cases e : Q n = t
    · rw [if_pos e] at h
      have : n = k := by omega
      subst this
      exact ⟨Nat.lt_succ_self _, e⟩
    · rw [if_neg e] at h
      have := plc_at n h
      exact ⟨by omega, this.2⟩
theorem plc_of {Q : Nat → Nat} {k : Nat} : ∀ n, (∀ i j, i < n → j < n → Q i = Q j → i = j) → k < n → plc Q n (Q k) = k + 1
  | 0, _, h => absurd h (Nat.not_lt_zero _)
  | n + 1, hi, h => by
    show (if Q n = Q k then n + 1 else plc Q n (Q k)) = k + 1
    by_cases e : Q n = Q k
    · rw [if_pos e, hi n k (by omega) h e]
    · rw [if_neg e]
      refine plc_of n (fun i j a b => hi i j (by omega) (by omega)) ?_
      by_cases q : k = n
      · subst q
        exact absurd rfl e
      · omega
theorem plc_0 {Q : Nat → Nat} {t : Nat} : ∀ n, (∀ k, k < n → Q k ≠ t) → plc Q n t = 0
  | 0, _ => rfl
  | n + 1, h => by
    show (if Q n = t then n + 1 else plc Q n t) = 0
    rw [if_neg (h n (by omega)), plc_0 n (fun k hk => h k (by omega))]
theorem plc_n {Q : Nat → Nat} {t n k : Nat} (h : plc Q n t = 0) (hi : ∀ i j, i < n → j < n → Q i = Q j → i = j) (hk : k < n) : Q k ≠ t := fun e => by
  have := plc_of n hi hk
  rw [e, h] at this
  omega
/-- the first of the queue -/
def zfq (S : zS) : Int32 := if z_qn S = 0 then -1 else nI (z_Q S 0)
/-! quarantine -/
def zmx (S : zS) (t i : Nat) : Bool := decide (vd (z_P S t i) (z_F S t i) = 3)
def zmix (S : zS) (t : Nat) : Nat := sr (fun i => b1 (zmx S t i)) (z_nc S - z_wi S) (z_nc S)
theorem mx_sub {a b : Nat} (ha : a ≤ 40) (hb : b ≤ 40) : (if nI 0 < nI a - nI b then nI a - nI b else nI 0) = nI (a - b) := by
  by_cases h : b ≤ a
  · rw [pk_sub h]
    by_cases e : a - b = 0
    · rw [e, if_neg (by decide)]
    · rw [if_pos ((nI_ltI (by decide) (by omega)).mpr (by omega))]
  · have h2 := pk_sneg (a := a) (b := b) (by omega) (by omega)
    rw [show a - b = 0 by omega, if_neg ?_]
    intro h3
    have h4 : (0 : Int32) < nI a - nI b := h3
    exact Int32.lt_irrefl (Int32.lt_trans h2 h4)
/-! bits of a long -/
theorem l_shr {m k : Nat} (hm : m < 2 ^ 62) (hk : k < 64) : lN m >>> ((nI k).toInt64 &&& 63) = lN (m / 2 ^ k) := by
  rw [wb_c k hk]
  refine pf_shr ?_ hm
  show ((BitVec.ofNat 64 k).smod 64).toNat = k
  rw [wb_sm k hk, BitVec.toNat_ofNat, Nat.mod_eq_of_lt (by omega)]
theorem l_and1 {m : Nat} (hm : m < 2 ^ 64) : lN m &&& lN 1 = lN (m % 2) := by
  rw [wb_and hm (by decide), show (1 : Nat) = 2 ^ 1 - 1 from rfl, Nat.and_two_pow_sub_one_eq_mod]
theorem l_cmp2 {m : Nat} : lg_cmp (lN (m % 2)) (lN 0) = nI (m % 2) := by
  rcases (show m % 2 = 0 ∨ m % 2 = 1 by omega) with e | e <;> rw [e] <;> rfl
theorem tb_f {m k : Nat} (h : m / 2 ^ k % 2 = 0) : m.testBit k = false := by
  rw [Nat.testBit_eq_decide_div_mod_eq, h]
  rfl
theorem tb_t {m k : Nat} (h : 0 < m / 2 ^ k % 2) : m.testBit k = true := by
  rw [Nat.testBit_eq_decide_div_mod_eq, show m / 2 ^ k % 2 = 1 by omega]
  rfl
end
