/-! ===== the constructors ===== -/
def S0 : zS := (fun _ => 0, fun _ => 0, fun _ => 0, fun _ => false, fun _ => 0, fun _ => 0, fun _ => 0, 0, 0, 0, 2, 10, 0, 0, fun _ => 0, fun _ _ => 0, fun _ _ => 0, fun _ _ => 0, fun _ _ => 0)
theorem zOK_0 : zOK S0 := by
  refine ⟨by decide, fun j => ⟨show (0 : Nat) < 65536 by decide, show (0 : Nat) < 65536 by decide, show (0 : Nat) < 65536 by decide⟩, fun t h => absurd (show false = true from h) (by decide), ⟨fun k h => absurd h (Nat.not_lt_zero k), fun i j h => absurd h (Nat.not_lt_zero i)⟩, fun t => ⟨show (0 : Nat) ≤ 200 by decide, fun r h => absurd h (Nat.not_lt_zero r)⟩, fun t c => ⟨rfl, rfl⟩⟩
abbrev oB (f : Nat → Option Nat) : Nat × ((Nat → Int32) ⊕ (Nat → Int64) ⊕ (Nat → UInt32) ⊕ (Nat → UInt64) ⊕ (Nat → Option Nat)) := (12, .inr (.inr (.inr (.inr f))))
abbrev rws (cI : ClassId) (n : Nat) (r : Nat → Nat) : va_W := (List.range 12).map (fun i => (r i, .inl (cI, n, .inl (fun _ => 0))))
abbrev rzo (r : Nat → Nat) : Nat → Option Nat := fun i => if i < 12 then some (r i) else none
def wLog (cI cQ : ClassId) (a : Nat → Nat) : va_W := [(a 4, .inr (0, [.ref (a 9), .ref (a 10), .ref (a 11), .ref (a 12), .ref (a 13)])), (a 9, .inl (cI, 12, .inl (fun _ => 0))), (a 10, .inl (cQ, oB (zout a 20))), (a 11, .inl (cQ, oB (zout a 40))), (a 12, .inl (cQ, oB (zout a 60))), (a 13, .inl (cQ, oB (zout a 80)))] ++ (zrows cI a 20 200 (fun _ _ => 0) ++ (zrows cI a 40 200 (fun _ _ => 0) ++ (zrows cI a 60 40 (fun _ _ => 0) ++ zrows cI a 80 40 (fun _ _ => 0))))
theorem zrows_of {cI : ClassId} {a r : Nat → Nat} {b n : Nat} (h : ∀ t, t < 12 → a (b + t) = r t) : zrows cI a b n (fun _ _ => 0) = rws cI n r := by
  unfold zrows
  refine List.map_congr_left (fun t ht => ?_)
  rw [h t (List.mem_range.mp ht)]
  rfl
theorem zout_of {a r : Nat → Nat} {b : Nat} (h : ∀ t, t < 12 → a (b + t) = r t) : zout a b = rzo r := by
  funext i
  show (if i < 12 then some (a (b + i)) else none) = if i < 12 then some (r i) else none
  by_cases e : i < 12
  · rw [if_pos e, if_pos e, h i e]
  · rw [if_neg e, if_neg e]
def mkA (x : Nat → Nat) (r1 r2 r3 r4 : Nat → Nat) : Nat → Nat := fun k => if k < 20 then x k else if k < 40 then r1 (k - 20) else if k < 60 then r2 (k - 40) else if k < 80 then r3 (k - 60) else r4 (k - 80)
theorem mkA_1 {x r1 r2 r3 r4 : Nat → Nat} (t : Nat) (h : t < 12) : mkA x r1 r2 r3 r4 (20 + t) = r1 t := by
  unfold mkA
  rw [if_neg (by omega), if_pos (by omega), Nat.add_sub_cancel_left]
theorem mkA_2 {x r1 r2 r3 r4 : Nat → Nat} (t : Nat) (h : t < 12) : mkA x r1 r2 r3 r4 (40 + t) = r2 t := by
  unfold mkA
  rw [if_neg (by omega), if_neg (by omega), if_pos (by omega), Nat.add_sub_cancel_left]
theorem mkA_3 {x r1 r2 r3 r4 : Nat → Nat} (t : Nat) (h : t < 12) : mkA x r1 r2 r3 r4 (60 + t) = r3 t := by
  unfold mkA
  rw [if_neg (by omega), if_neg (by omega), if_neg (by omega), if_pos (by omega), Nat.add_sub_cancel_left]
theorem mkA_4 {x r1 r2 r3 r4 : Nat → Nat} (t : Nat) (h : t < 12) : mkA x r1 r2 r3 r4 (80 + t) = r4 t := by
  unfold mkA
  rw [if_neg (by omega), if_neg (by omega), if_neg (by omega), if_neg (by omega), Nat.add_sub_cancel_left]
theorem pm {U R R' : va_W} {x : Nat × va_E} : ((U ++ R) ++ (x :: R')).Perm ((U ++ [x]) ++ (R ++ R')) := by
  rw [List.append_assoc, List.append_assoc]
  exact List.perm_middle.append_left U
theorem pm0 {U R : va_W} {x : Nat × va_E} : ((U ++ R) ++ [x]).Perm ((U ++ [x]) ++ R) := by
  rw [List.append_assoc, List.append_assoc]
  exact List.perm_append_comm.append_left U
theorem pmX {U V R : va_W} {x : Nat × va_E} : ((U ++ V) ++ (x :: R)).Perm (U ++ (x :: (V ++ R))) := by
  rw [List.append_assoc]
  exact List.perm_middle.append_left U
theorem z12 (cA : ClassId) : vp_cell cA (12, .inl (fun j => if 0 ≤ j ∧ j < 12 then 0 else -1)) = arrV cA 12 (fun _ => defaultValue .int) := by
  rw [vp_cell_i]
  unfold arrV
  congr 1
  all_goals (try (congr 1))
  all_goals (funext j; rw [if_pos ⟨Nat.zero_le _, j.2⟩]; rfl)
theorem up12 {k : Nat} (h : k < 12) : upd (fun j => if k ≤ j ∧ j < 12 then (0 : Int32) else -1) k (-1) = fun j => if k + 1 ≤ j ∧ j < 12 then (0 : Int32) else -1 := by
  funext j
  unfold upd
  by_cases e : j = k
  · subst e
    rw [if_pos rfl, if_neg (by omega)]
  · rw [if_neg e]
    show (if k ≤ j ∧ j < 12 then (0 : Int32) else -1) = _
    by_cases d : k ≤ j ∧ j < 12
    · rw [if_pos d, if_pos (by omega)]
    · rw [if_neg d, if_neg (by omega)]
theorem end12 {k : Nat} (h : 12 ≤ k) : (fun j => if k ≤ j ∧ j < 12 then (0 : Int32) else -1) = zgood S0 := by
  funext j
  rw [if_neg (by omega)]
  rfl
section VCI
variable {p : Program} {l : Launch} {e : Env} {R : Room} {s : State} {m : MethodId} {args : Array Value} {below : List Frame} {meth : Method} {c : Code} {cells slots : Nat} {Q : State → Prop} {nL : Nat}
variable {D : va_G} {tys : List (ClassId × FieldType)} {cc : ByteArray} {Ts : List Cond} {own : String}
variable {pc : Nat} {lv : List (Nat × Value)} {st : List Value} {w w2 : va_W} {A : Nat → Prop} {mc1 ms1 : Nat}
/-- a constructor of a nest mate -/
theorem x_cIN (E : v_E p s m args meth c D tys cc nL Ts own (v_rw D A s)) (hA : ∀ q : Nat, s.heap.size ≤ q → A q) (hZ : zini s) {y : MethodName} {index maxL b : Nat} {bytes : ByteArray} {ws' : List Cond} {rm : Room} {host : String} {Wn : (Nat → Nat) → va_W} {cd : (Nat → Nat) → Prop} (hdg : decode cc pc = .ok (.invokespecial index, 3))
    (hM : v_Ini l y ws' rm D tys [.ref b] w Wn cd mc1 ms1) (cw : va_CN R s args own index y host bytes maxL none ws' rm mc1 ms1 0) (hyn : y.name = "<init>") (hyi : (Cond.instanceMethod y).before args s = true) (hcs : cells + mc1 ≤ R.cells ∧ slots + ms1 ≤ R.slots) (hrm : (st.map fun v => v.category).sum ≤ 8)
    (kk : ∀ a, cd a → V p l e R s m args below meth c (cells + mc1) (slots + ms1) Q (v_rw D A s) nL (pc + 3) lv st (Wn a ++ w2)) : V p l e R s m args below meth c cells slots Q (v_rw D A s) nL pc lv (.ref b :: st) (w ++ w2) := by
  intro H locs ls hP hl
  exact v_behindI E hA hP hl (va_runIN (As := []) (rest := st) ⟨E.1, E.2.1, E.2.2.1, E.2.2.2.2.1, E.2.2.2.1⟩ (hM H.size) ⟨cw, hyn, hyi⟩ ⟨v_preIB, v_preIof E hZ hP⟩ rfl rfl hl.1 rfl (lv_room hrm) hdg hcs) kk
theorem x_cI (E : v_E p s m args meth c D tys cc nL Ts own (v_rw D A s)) (hA : ∀ q : Nat, s.heap.size ≤ q → A q) (hZ : zini s) {y : MethodName} {index maxL b : Nat} {bytes : ByteArray} {ws' : List Cond} {rm : Room} {Wn : (Nat → Nat) → va_W} {cd : (Nat → Nat) → Prop} (hdg : decode cc pc = .ok (.invokespecial index, 3))
    (hM : v_Ini l y ws' rm D tys [.ref b] w Wn cd mc1 ms1) (cw : CallB R s args own index y bytes maxL none ws' rm mc1 ms1 0 ∧ y.name = "<init>" ∧ (Cond.instanceMethod y).before args s = true) (hcs : cells + mc1 ≤ R.cells ∧ slots + ms1 ≤ R.slots) (hrm : (st.map fun v => v.category).sum ≤ 8)
    (kk : ∀ a, cd a → V p l e R s m args below meth c (cells + mc1) (slots + ms1) Q (v_rw D A s) nL (pc + 3) lv st (Wn a ++ w2)) : V p l e R s m args below meth c cells slots Q (v_rw D A s) nL pc lv (.ref b :: st) (w ++ w2) := by
  intro H locs ls hP hl
  exact v_behindI E hA hP hl (va_runI (As := []) (rest := st) ⟨E.1, E.2.1, E.2.2.1, E.2.2.2.2.1, E.2.2.2.1⟩ (hM H.size) cw ⟨v_preIB, v_preIof E hZ hP⟩ rfl rfl hl.1 rfl (lv_room hrm) hdg hcs) kk
end VCI
set_option maxHeartbeats 4000000 in
set_option maxRecDepth 100000 in
theorem x_X0_init (l : Launch) (D : va_G) (cI cZ cQ cJ : ClassId) (r : Nat) : v_Ini l yX0_init wsX0_init { frames := 1, cells := 53, slots := 5820, locals := 12 } D (wTy cI cZ cQ cJ) [.ref r] [(r, .inr (0, [.null, .null, .null, .null, .null]))] (wLog cI cQ) (fun a => a 4 = r) 53 5820 := by
  refine v_inits (cc := cX0_init) (maxL := 1) (own := RX0) (lv0 := [(0, .ref r)]) (by decide) rfl rfl rfl (Nat.le_of_ble_eq_true rfl) rfl ?_
  intro p9 e9 s9 m9 as9 bl9 me9 cd9 A E hA hZ hin9 hr
  have hinX0 : ∀ w ∈ u_ws RX0 TX0 5, w ∈ wsX0_init := by decide +kernel
  refine v_aload_n E dX0_init_0 0 rfl rfl ?_
  refine v_obj0 E dX0_init_1 (by decide +kernel) (by decide +kernel) (by decide +kernel) (Nat.le_of_ble_eq_true rfl) (Nat.le_of_ble_eq_true rfl) ?_
  refine v_aload_n E dX0_init_4 0 rfl rfl ?_
  refine v_bipush E dX0_init_5 (v := nI 12) rfl ?_
  refine v_newa E hA dX0_init_7 0 rfl (by decide +kernel) rfl (a0 := (12, .inl (fun _ => 0))) (fun _ => rfl) (by decide) (by decide) (Nat.le_of_ble_eq_true rfl) (Nat.le_of_ble_eq_true rfl) (fun q9 => ?_)
  refine v_putF E hin9 dX0_init_9 0 0 tyX0 tyX0_ok nmX0 hinX0 rfl rfl (by decide) (by decide +kernel) rfl rfl rfl rfl rfl rfl (Nat.le_of_ble_eq_true rfl) (w' := [(r, .inr (0, [.ref q9, .null, .null, .null, .null])), (q9, .inl (cI, 12, .inl (fun _ => 0)))]) rfl ?_
  refine v_aload_n E dX0_init_12 0 rfl rfl ?_
  refine v_bipush E dX0_init_13 (v := nI 12) rfl ?_
  refine v_sipush E dX0_init_15 (v := nI 200) rfl ?_
  refine v_mna E hA dX0_init_18 (by decide +kernel) hZ.1 (by decide +kernel) 0 2 rfl rfl (by decide) (by decide) (Nat.le_of_ble_eq_true rfl) (Nat.le_of_ble_eq_true rfl) (fun q10 r1 => ?_)
  refine v_w (w' := ([(r, .inr (0, [.ref q9, .null, .null, .null, .null])), (q9, .inl (cI, 12, .inl (fun _ => 0))), (q10, .inl (cQ, oB (rzo r1)))] ++ rws cI 200 r1)) rfl ?_
  refine v_putF E hin9 dX0_init_22 0 1 tyX0 tyX0_ok nmX0 hinX0 rfl rfl (by decide) (by decide +kernel) rfl rfl rfl rfl rfl rfl (Nat.le_of_ble_eq_true rfl) (w' := ([(r, .inr (0, [.ref q9, .ref q10, .null, .null, .null])), (q9, .inl (cI, 12, .inl (fun _ => 0))), (q10, .inl (cQ, oB (rzo r1)))] ++ rws cI 200 r1)) rfl ?_
  refine v_aload_n E dX0_init_25 0 rfl rfl ?_
  refine v_bipush E dX0_init_26 (v := nI 12) rfl ?_
  refine v_sipush E dX0_init_28 (v := nI 200) rfl ?_
  refine v_mna E hA dX0_init_31 (by decide +kernel) hZ.1 (by decide +kernel) 0 2 rfl rfl (by decide) (by decide) (Nat.le_of_ble_eq_true rfl) (Nat.le_of_ble_eq_true rfl) (fun q11 r2 => ?_)
  refine v_perm (w' := ([(r, .inr (0, [.ref q9, .ref q10, .null, .null, .null])), (q9, .inl (cI, 12, .inl (fun _ => 0))), (q10, .inl (cQ, oB (rzo r1))), (q11, .inl (cQ, oB (rzo r2)))] ++ (rws cI 200 r1 ++ rws cI 200 r2))) (pm (U := [(r, .inr (0, [.ref q9, .ref q10, .null, .null, .null])), (q9, .inl (cI, 12, .inl (fun _ => 0))), (q10, .inl (cQ, oB (rzo r1)))]) (R := rws cI 200 r1) (R' := rws cI 200 r2) (x := (q11, .inl (cQ, oB (rzo r2))))) ?_
  refine v_putF E hin9 dX0_init_35 0 2 tyX0 tyX0_ok nmX0 hinX0 rfl rfl (by decide) (by decide +kernel) rfl rfl rfl rfl rfl rfl (Nat.le_of_ble_eq_true rfl) (w' := ([(r, .inr (0, [.ref q9, .ref q10, .ref q11, .null, .null])), (q9, .inl (cI, 12, .inl (fun _ => 0))), (q10, .inl (cQ, oB (rzo r1))), (q11, .inl (cQ, oB (rzo r2)))] ++ (rws cI 200 r1 ++ rws cI 200 r2))) rfl ?_
  refine v_aload_n E dX0_init_38 0 rfl rfl ?_
  refine v_bipush E dX0_init_39 (v := nI 12) rfl ?_
  refine v_bipush E dX0_init_41 (v := nI 40) rfl ?_
  refine v_mna E hA dX0_init_43 (by decide +kernel) hZ.1 (by decide +kernel) 0 2 rfl rfl (by decide) (by decide) (Nat.le_of_ble_eq_true rfl) (Nat.le_of_ble_eq_true rfl) (fun q12 r3 => ?_)
  refine v_perm (w' := ([(r, .inr (0, [.ref q9, .ref q10, .ref q11, .null, .null])), (q9, .inl (cI, 12, .inl (fun _ => 0))), (q10, .inl (cQ, oB (rzo r1))), (q11, .inl (cQ, oB (rzo r2))), (q12, .inl (cQ, oB (rzo r3)))] ++ ((rws cI 200 r1 ++ rws cI 200 r2) ++ rws cI 40 r3))) (pm (U := [(r, .inr (0, [.ref q9, .ref q10, .ref q11, .null, .null])), (q9, .inl (cI, 12, .inl (fun _ => 0))), (q10, .inl (cQ, oB (rzo r1))), (q11, .inl (cQ, oB (rzo r2)))]) (R := (rws cI 200 r1 ++ rws cI 200 r2)) (R' := rws cI 40 r3) (x := (q12, .inl (cQ, oB (rzo r3))))) ?_
  refine v_putF E hin9 dX0_init_47 0 3 tyX0 tyX0_ok nmX0 hinX0 rfl rfl (by decide) (by decide +kernel) rfl rfl rfl rfl rfl rfl (Nat.le_of_ble_eq_true rfl) (w' := ([(r, .inr (0, [.ref q9, .ref q10, .ref q11, .ref q12, .null])), (q9, .inl (cI, 12, .inl (fun _ => 0))), (q10, .inl (cQ, oB (rzo r1))), (q11, .inl (cQ, oB (rzo r2))), (q12, .inl (cQ, oB (rzo r3)))] ++ ((rws cI 200 r1 ++ rws cI 200 r2) ++ rws cI 40 r3))) rfl ?_
  refine v_aload_n E dX0_init_50 0 rfl rfl ?_
  refine v_bipush E dX0_init_51 (v := nI 12) rfl ?_
  refine v_bipush E dX0_init_53 (v := nI 40) rfl ?_
  refine v_mna E hA dX0_init_55 (by decide +kernel) hZ.1 (by decide +kernel) 0 2 rfl rfl (by decide) (by decide) (Nat.le_of_ble_eq_true rfl) (Nat.le_of_ble_eq_true rfl) (fun q13 r4 => ?_)
  refine v_perm (w' := ([(r, .inr (0, [.ref q9, .ref q10, .ref q11, .ref q12, .null])), (q9, .inl (cI, 12, .inl (fun _ => 0))), (q10, .inl (cQ, oB (rzo r1))), (q11, .inl (cQ, oB (rzo r2))), (q12, .inl (cQ, oB (rzo r3))), (q13, .inl (cQ, oB (rzo r4)))] ++ (((rws cI 200 r1 ++ rws cI 200 r2) ++ rws cI 40 r3) ++ rws cI 40 r4))) (pm (U := [(r, .inr (0, [.ref q9, .ref q10, .ref q11, .ref q12, .null])), (q9, .inl (cI, 12, .inl (fun _ => 0))), (q10, .inl (cQ, oB (rzo r1))), (q11, .inl (cQ, oB (rzo r2))), (q12, .inl (cQ, oB (rzo r3)))]) (R := ((rws cI 200 r1 ++ rws cI 200 r2) ++ rws cI 40 r3)) (R' := rws cI 40 r4) (x := (q13, .inl (cQ, oB (rzo r4))))) ?_
  refine v_putF E hin9 dX0_init_59 0 4 tyX0 tyX0_ok nmX0 hinX0 rfl rfl (by decide) (by decide +kernel) rfl rfl rfl rfl rfl rfl (Nat.le_of_ble_eq_true rfl) (w' := ([(r, .inr (0, [.ref q9, .ref q10, .ref q11, .ref q12, .ref q13])), (q9, .inl (cI, 12, .inl (fun _ => 0))), (q10, .inl (cQ, oB (rzo r1))), (q11, .inl (cQ, oB (rzo r2))), (q12, .inl (cQ, oB (rzo r3))), (q13, .inl (cQ, oB (rzo r4)))] ++ (((rws cI 200 r1 ++ rws cI 200 r2) ++ rws cI 40 r3) ++ rws cI 40 r4))) rfl ?_
  refine i_ret E hr (mkA (fun k => if k = 4 then r else if k = 9 then q9 else if k = 10 then q10 else if k = 11 then q11 else if k = 12 then q12 else q13) r1 r2 r3 r4) rfl ?_ rfl rfl dX0_init_62
  unfold wLog
  rw [zrows_of mkA_1, zrows_of mkA_2, zrows_of mkA_3, zrows_of mkA_4, zout_of mkA_1, zout_of mkA_2, zout_of mkA_3, zout_of mkA_4, List.append_assoc (rws cI 200 r1 ++ rws cI 200 r2), List.append_assoc (rws cI 200 r1)]
  rfl
set_option maxHeartbeats 4000000 in
set_option maxRecDepth 100000 in
theorem x_X1_init (l : Launch) (D : va_G) (cI cZ cQ cJ : ClassId) (r : Nat) : v_Ini l yX1_init wsX1_init { frames := 2, cells := 61, slots := 5941, locals := 32 } D (wTy cI cZ cQ cJ) [.ref r] [(r, .inr (1, [.null, .null, .null, .null, .null, .null, .null, .null, .int 0, .int 0, .int 0, .int 0, .int 0, .int 0, .int 0]))] (fun a => wX cI cZ cQ a S0) (fun a => a 0 = r) 61 5941 := by
  refine v_inits (cc := cX1_init) (maxL := 1) (own := RX1) (lv0 := [(0, .ref r)]) (by decide) rfl rfl rfl (Nat.le_of_ble_eq_true rfl) rfl ?_
  intro p9 e9 s9 m9 as9 bl9 me9 cd9 A E hA hZ hin9 hr
  have hinX1 : ∀ w ∈ u_ws RX1 TX1 15, w ∈ wsX1_init := by decide +kernel
  refine v_aload_n E dX1_init_0 0 rfl rfl ?_
  refine v_obj0 E dX1_init_1 (by decide +kernel) (by decide +kernel) (by decide +kernel) (Nat.le_of_ble_eq_true rfl) (Nat.le_of_ble_eq_true rfl) ?_
  refine v_aload_n E dX1_init_4 0 rfl rfl ?_
  refine v_bipush E dX1_init_5 (v := nI 16) rfl ?_
  refine v_newa E hA dX1_init_7 0 rfl (by decide +kernel) rfl (a0 := (16, .inl (fun _ => 0))) (fun _ => rfl) (by decide) (by decide) (Nat.le_of_ble_eq_true rfl) (Nat.le_of_ble_eq_true rfl) (fun q1 => ?_)
  refine v_putF E hin9 dX1_init_9 0 0 tyX1 tyX1_ok nmX1 hinX1 rfl rfl (by decide) (by decide +kernel) rfl rfl rfl rfl rfl rfl (Nat.le_of_ble_eq_true rfl) (w' := [(r, .inr (1, [.ref q1, .null, .null, .null, .null, .null, .null, .null, .int 0, .int 0, .int 0, .int 0, .int 0, .int 0, .int 0])), (q1, .inl (cI, 16, .inl (fun _ => 0)))]) rfl ?_
  refine v_aload_n E dX1_init_12 0 rfl rfl ?_
  refine v_bipush E dX1_init_13 (v := nI 40) rfl ?_
  refine v_newa E hA dX1_init_15 0 rfl (by decide +kernel) rfl (a0 := (40, .inl (fun _ => 0))) (fun _ => rfl) (by decide) (by decide) (Nat.le_of_ble_eq_true rfl) (Nat.le_of_ble_eq_true rfl) (fun q2 => ?_)
  refine v_putF E hin9 dX1_init_17 0 1 tyX1 tyX1_ok nmX1 hinX1 rfl rfl (by decide) (by decide +kernel) rfl rfl rfl rfl rfl rfl (Nat.le_of_ble_eq_true rfl) (w' := [(r, .inr (1, [.ref q1, .ref q2, .null, .null, .null, .null, .null, .null, .int 0, .int 0, .int 0, .int 0, .int 0, .int 0, .int 0])), (q1, .inl (cI, 16, .inl (fun _ => 0))), (q2, .inl (cI, 40, .inl (fun _ => 0)))]) rfl ?_
  refine v_aload_n E dX1_init_20 0 rfl rfl ?_
  refine v_bipush E dX1_init_21 (v := nI 12) rfl ?_
  refine v_newa E hA dX1_init_23 0 rfl (by decide +kernel) rfl (a0 := (12, .inl (fun _ => 0))) (fun _ => rfl) (by decide) (by decide) (Nat.le_of_ble_eq_true rfl) (Nat.le_of_ble_eq_true rfl) (fun q3 => ?_)
  refine v_putF E hin9 dX1_init_25 0 2 tyX1 tyX1_ok nmX1 hinX1 rfl rfl (by decide) (by decide +kernel) rfl rfl rfl rfl rfl rfl (Nat.le_of_ble_eq_true rfl) (w' := [(r, .inr (1, [.ref q1, .ref q2, .ref q3, .null, .null, .null, .null, .null, .int 0, .int 0, .int 0, .int 0, .int 0, .int 0, .int 0])), (q1, .inl (cI, 16, .inl (fun _ => 0))), (q2, .inl (cI, 40, .inl (fun _ => 0))), (q3, .inl (cI, 12, .inl (fun _ => 0)))]) rfl ?_
  refine v_aload_n E dX1_init_28 0 rfl rfl ?_
  have hinX0 : ∀ w ∈ u_ws RX0 TX0 5, w ∈ wsX1_init := by decide +kernel
  refine v_new (C := RX0) (T := TX0) (N := 5) (ci := 0) (fs := [.null, .null, .null, .null, .null]) E hA dX1_init_29 hinX0 tyX0 tyX0_ok (by decide +kernel) (by decide +kernel) (by decide +kernel) rfl (fun j hj => by rcases (show j = 0 ∨ j = 1 ∨ j = 2 ∨ j = 3 ∨ j = 4 by omega) with rfl | rfl | rfl | rfl | rfl <;> rfl) (Nat.le_of_ble_eq_true rfl) (Nat.le_of_ble_eq_true rfl) (fun q4 => ?_)
  refine v_dup E dX1_init_32 rfl ?_
  refine v_perm (w' := [(q4, .inr (0, [.null, .null, .null, .null, .null]))] ++ [(r, .inr (1, [.ref q1, .ref q2, .ref q3, .null, .null, .null, .null, .null, .int 0, .int 0, .int 0, .int 0, .int 0, .int 0, .int 0])), (q1, .inl (cI, 16, .inl (fun _ => 0))), (q2, .inl (cI, 40, .inl (fun _ => 0))), (q3, .inl (cI, 12, .inl (fun _ => 0)))]) List.perm_append_comm ?_
  refine x_cIN E hA hZ dX1_init_33 (x_X0_init l D cI cZ cQ cJ q4) (va_cnB 0 E.2.2.2.1 gX1_init_X0_init_n21 rfl rfl rfl hZ.2 (E.2.2.2.1 _ (by decide +kernel)) (by decide +kernel) ⟨Nat.le_of_ble_eq_true rfl, Nat.le_of_ble_eq_true rfl⟩) rfl (E.2.2.2.1 _ (by decide +kernel)) ⟨Nat.le_of_ble_eq_true rfl, Nat.le_of_ble_eq_true rfl⟩ (Nat.le_of_ble_eq_true rfl) (fun a1 ha1 => ?_)
  refine v_perm (w' := [(r, .inr (1, [.ref q1, .ref q2, .ref q3, .null, .null, .null, .null, .null, .int 0, .int 0, .int 0, .int 0, .int 0, .int 0, .int 0])), (q1, .inl (cI, 16, .inl (fun _ => 0))), (q2, .inl (cI, 40, .inl (fun _ => 0))), (q3, .inl (cI, 12, .inl (fun _ => 0)))] ++ wLog cI cQ a1) List.perm_append_comm ?_
  refine v_putF E hin9 dX1_init_36 0 3 tyX1 tyX1_ok nmX1 hinX1 rfl rfl (by decide) (by decide +kernel) rfl rfl rfl rfl rfl rfl (Nat.le_of_ble_eq_true rfl) (w' := ([(r, .inr (1, [.ref q1, .ref q2, .ref q3, .ref q4, .null, .null, .null, .null, .int 0, .int 0, .int 0, .int 0, .int 0, .int 0, .int 0])), (q1, .inl (cI, 16, .inl (fun _ => 0))), (q2, .inl (cI, 40, .inl (fun _ => 0))), (q3, .inl (cI, 12, .inl (fun _ => 0)))] ++ wLog cI cQ a1)) rfl ?_
  refine v_aload_n E dX1_init_39 0 rfl rfl ?_
  refine v_bipush E dX1_init_40 (v := nI 12) rfl ?_
  refine v_newa E hA dX1_init_42 1 rfl (by decide +kernel) rfl (a0 := (12, .inl (fun _ => bI false))) (fun _ => rfl) (by decide) (by decide) (Nat.le_of_ble_eq_true rfl) (Nat.le_of_ble_eq_true rfl) (fun q5 => ?_)
  refine v_perm (w' := ([(r, .inr (1, [.ref q1, .ref q2, .ref q3, .ref q4, .null, .null, .null, .null, .int 0, .int 0, .int 0, .int 0, .int 0, .int 0, .int 0])), (q1, .inl (cI, 16, .inl (fun _ => 0))), (q2, .inl (cI, 40, .inl (fun _ => 0))), (q3, .inl (cI, 12, .inl (fun _ => 0))), (q5, .inl (cZ, 12, .inl (fun _ => bI false)))] ++ wLog cI cQ a1)) (pm0 (U := [(r, .inr (1, [.ref q1, .ref q2, .ref q3, .ref q4, .null, .null, .null, .null, .int 0, .int 0, .int 0, .int 0, .int 0, .int 0, .int 0])), (q1, .inl (cI, 16, .inl (fun _ => 0))), (q2, .inl (cI, 40, .inl (fun _ => 0))), (q3, .inl (cI, 12, .inl (fun _ => 0)))]) (R := wLog cI cQ a1) (x := (q5, .inl (cZ, 12, .inl (fun _ => bI false))))) ?_
  refine v_putF E hin9 dX1_init_44 0 4 tyX1 tyX1_ok nmX1 hinX1 rfl rfl (by decide) (by decide +kernel) rfl rfl rfl rfl rfl rfl (Nat.le_of_ble_eq_true rfl) (w' := ([(r, .inr (1, [.ref q1, .ref q2, .ref q3, .ref q4, .ref q5, .null, .null, .null, .int 0, .int 0, .int 0, .int 0, .int 0, .int 0, .int 0])), (q1, .inl (cI, 16, .inl (fun _ => 0))), (q2, .inl (cI, 40, .inl (fun _ => 0))), (q3, .inl (cI, 12, .inl (fun _ => 0))), (q5, .inl (cZ, 12, .inl (fun _ => bI false)))] ++ wLog cI cQ a1)) rfl ?_
  refine v_aload_n E dX1_init_47 0 rfl rfl ?_
  refine v_bipush E dX1_init_48 (v := nI 12) rfl ?_
  refine v_newa E hA dX1_init_50 0 rfl (by decide +kernel) rfl (a0 := (12, .inl (fun _ => 0))) (fun _ => rfl) (by decide) (by decide) (Nat.le_of_ble_eq_true rfl) (Nat.le_of_ble_eq_true rfl) (fun q6 => ?_)
  refine v_perm (w' := ([(r, .inr (1, [.ref q1, .ref q2, .ref q3, .ref q4, .ref q5, .null, .null, .null, .int 0, .int 0, .int 0, .int 0, .int 0, .int 0, .int 0])), (q1, .inl (cI, 16, .inl (fun _ => 0))), (q2, .inl (cI, 40, .inl (fun _ => 0))), (q3, .inl (cI, 12, .inl (fun _ => 0))), (q5, .inl (cZ, 12, .inl (fun _ => bI false))), (q6, .inl (cI, 12, .inl (fun _ => 0)))] ++ wLog cI cQ a1)) (pm0 (U := [(r, .inr (1, [.ref q1, .ref q2, .ref q3, .ref q4, .ref q5, .null, .null, .null, .int 0, .int 0, .int 0, .int 0, .int 0, .int 0, .int 0])), (q1, .inl (cI, 16, .inl (fun _ => 0))), (q2, .inl (cI, 40, .inl (fun _ => 0))), (q3, .inl (cI, 12, .inl (fun _ => 0))), (q5, .inl (cZ, 12, .inl (fun _ => bI false)))]) (R := wLog cI cQ a1) (x := (q6, .inl (cI, 12, .inl (fun _ => 0))))) ?_
  refine v_putF E hin9 dX1_init_52 0 5 tyX1 tyX1_ok nmX1 hinX1 rfl rfl (by decide) (by decide +kernel) rfl rfl rfl rfl rfl rfl (Nat.le_of_ble_eq_true rfl) (w' := ([(r, .inr (1, [.ref q1, .ref q2, .ref q3, .ref q4, .ref q5, .ref q6, .null, .null, .int 0, .int 0, .int 0, .int 0, .int 0, .int 0, .int 0])), (q1, .inl (cI, 16, .inl (fun _ => 0))), (q2, .inl (cI, 40, .inl (fun _ => 0))), (q3, .inl (cI, 12, .inl (fun _ => 0))), (q5, .inl (cZ, 12, .inl (fun _ => bI false))), (q6, .inl (cI, 12, .inl (fun _ => 0)))] ++ wLog cI cQ a1)) rfl ?_
  refine v_aload_n E dX1_init_55 0 rfl rfl ?_
  refine v_bipush E dX1_init_56 (v := nI 12) rfl ?_
  refine v_newa E hA dX1_init_58 0 rfl (by decide +kernel) rfl (a0 := (12, .inl (fun _ => 0))) (fun _ => rfl) (by decide) (by decide) (Nat.le_of_ble_eq_true rfl) (Nat.le_of_ble_eq_true rfl) (fun q7 => ?_)
  refine v_perm (w' := ([(r, .inr (1, [.ref q1, .ref q2, .ref q3, .ref q4, .ref q5, .ref q6, .null, .null, .int 0, .int 0, .int 0, .int 0, .int 0, .int 0, .int 0])), (q1, .inl (cI, 16, .inl (fun _ => 0))), (q2, .inl (cI, 40, .inl (fun _ => 0))), (q3, .inl (cI, 12, .inl (fun _ => 0))), (q5, .inl (cZ, 12, .inl (fun _ => bI false))), (q6, .inl (cI, 12, .inl (fun _ => 0))), (q7, .inl (cI, 12, .inl (fun _ => 0)))] ++ wLog cI cQ a1)) (pm0 (U := [(r, .inr (1, [.ref q1, .ref q2, .ref q3, .ref q4, .ref q5, .ref q6, .null, .null, .int 0, .int 0, .int 0, .int 0, .int 0, .int 0, .int 0])), (q1, .inl (cI, 16, .inl (fun _ => 0))), (q2, .inl (cI, 40, .inl (fun _ => 0))), (q3, .inl (cI, 12, .inl (fun _ => 0))), (q5, .inl (cZ, 12, .inl (fun _ => bI false))), (q6, .inl (cI, 12, .inl (fun _ => 0)))]) (R := wLog cI cQ a1) (x := (q7, .inl (cI, 12, .inl (fun _ => 0))))) ?_
  refine v_putF E hin9 dX1_init_60 0 6 tyX1 tyX1_ok nmX1 hinX1 rfl rfl (by decide) (by decide +kernel) rfl rfl rfl rfl rfl rfl (Nat.le_of_ble_eq_true rfl) (w' := ([(r, .inr (1, [.ref q1, .ref q2, .ref q3, .ref q4, .ref q5, .ref q6, .ref q7, .null, .int 0, .int 0, .int 0, .int 0, .int 0, .int 0, .int 0])), (q1, .inl (cI, 16, .inl (fun _ => 0))), (q2, .inl (cI, 40, .inl (fun _ => 0))), (q3, .inl (cI, 12, .inl (fun _ => 0))), (q5, .inl (cZ, 12, .inl (fun _ => bI false))), (q6, .inl (cI, 12, .inl (fun _ => 0))), (q7, .inl (cI, 12, .inl (fun _ => 0)))] ++ wLog cI cQ a1)) rfl ?_
  refine v_aload_n E dX1_init_63 0 rfl rfl ?_
  refine v_bipush E dX1_init_64 (v := nI 12) rfl ?_
  refine v_newa E hA dX1_init_66 0 rfl (by decide +kernel) rfl (a0 := (12, .inl (fun _ => 0))) (fun _ => rfl) (by decide) (by decide) (Nat.le_of_ble_eq_true rfl) (Nat.le_of_ble_eq_true rfl) (fun q8 => ?_)
  refine v_perm (w' := ([(r, .inr (1, [.ref q1, .ref q2, .ref q3, .ref q4, .ref q5, .ref q6, .ref q7, .null, .int 0, .int 0, .int 0, .int 0, .int 0, .int 0, .int 0])), (q1, .inl (cI, 16, .inl (fun _ => 0))), (q2, .inl (cI, 40, .inl (fun _ => 0))), (q3, .inl (cI, 12, .inl (fun _ => 0))), (q5, .inl (cZ, 12, .inl (fun _ => bI false))), (q6, .inl (cI, 12, .inl (fun _ => 0))), (q7, .inl (cI, 12, .inl (fun _ => 0))), (q8, .inl (cI, 12, .inl (fun _ => 0)))] ++ wLog cI cQ a1)) (pm0 (U := [(r, .inr (1, [.ref q1, .ref q2, .ref q3, .ref q4, .ref q5, .ref q6, .ref q7, .null, .int 0, .int 0, .int 0, .int 0, .int 0, .int 0, .int 0])), (q1, .inl (cI, 16, .inl (fun _ => 0))), (q2, .inl (cI, 40, .inl (fun _ => 0))), (q3, .inl (cI, 12, .inl (fun _ => 0))), (q5, .inl (cZ, 12, .inl (fun _ => bI false))), (q6, .inl (cI, 12, .inl (fun _ => 0))), (q7, .inl (cI, 12, .inl (fun _ => 0)))]) (R := wLog cI cQ a1) (x := (q8, .inl (cI, 12, .inl (fun _ => 0))))) ?_
  refine v_putF E hin9 dX1_init_68 0 7 tyX1 tyX1_ok nmX1 hinX1 rfl rfl (by decide) (by decide +kernel) rfl rfl rfl rfl rfl rfl (Nat.le_of_ble_eq_true rfl) (w' := ([(r, .inr (1, [.ref q1, .ref q2, .ref q3, .ref q4, .ref q5, .ref q6, .ref q7, .ref q8, .int 0, .int 0, .int 0, .int 0, .int 0, .int 0, .int 0])), (q1, .inl (cI, 16, .inl (fun _ => 0))), (q2, .inl (cI, 40, .inl (fun _ => 0))), (q3, .inl (cI, 12, .inl (fun _ => 0))), (q5, .inl (cZ, 12, .inl (fun _ => bI false))), (q6, .inl (cI, 12, .inl (fun _ => 0))), (q7, .inl (cI, 12, .inl (fun _ => 0))), (q8, .inl (cI, 12, .inl (fun _ => 0)))] ++ wLog cI cQ a1)) rfl ?_
  refine v_aload_n E dX1_init_71 0 rfl rfl ?_
  refine v_iconst E dX1_init_72 (v := nI 0) rfl ?_
  refine v_put E dX1_init_73 0 8 tyX1 tyX1_ok nmX1 hinX1 rfl rfl (by decide) (by decide +kernel) rfl rfl rfl rfl rfl (Nat.le_of_ble_eq_true rfl) (w' := ([(r, .inr (1, [.ref q1, .ref q2, .ref q3, .ref q4, .ref q5, .ref q6, .ref q7, .ref q8, .int (nI 0), .int 0, .int 0, .int 0, .int 0, .int 0, .int 0])), (q1, .inl (cI, 16, .inl (fun _ => 0))), (q2, .inl (cI, 40, .inl (fun _ => 0))), (q3, .inl (cI, 12, .inl (fun _ => 0))), (q5, .inl (cZ, 12, .inl (fun _ => bI false))), (q6, .inl (cI, 12, .inl (fun _ => 0))), (q7, .inl (cI, 12, .inl (fun _ => 0))), (q8, .inl (cI, 12, .inl (fun _ => 0)))] ++ wLog cI cQ a1)) rfl ?_
  refine v_aload_n E dX1_init_76 0 rfl rfl ?_
  refine v_iconst E dX1_init_77 (v := nI 0) rfl ?_
  refine v_put E dX1_init_78 0 9 tyX1 tyX1_ok nmX1 hinX1 rfl rfl (by decide) (by decide +kernel) rfl rfl rfl rfl rfl (Nat.le_of_ble_eq_true rfl) (w' := ([(r, .inr (1, [.ref q1, .ref q2, .ref q3, .ref q4, .ref q5, .ref q6, .ref q7, .ref q8, .int (nI 0), .int (nI 0), .int 0, .int 0, .int 0, .int 0, .int 0])), (q1, .inl (cI, 16, .inl (fun _ => 0))), (q2, .inl (cI, 40, .inl (fun _ => 0))), (q3, .inl (cI, 12, .inl (fun _ => 0))), (q5, .inl (cZ, 12, .inl (fun _ => bI false))), (q6, .inl (cI, 12, .inl (fun _ => 0))), (q7, .inl (cI, 12, .inl (fun _ => 0))), (q8, .inl (cI, 12, .inl (fun _ => 0)))] ++ wLog cI cQ a1)) rfl ?_
  refine v_aload_n E dX1_init_81 0 rfl rfl ?_
  refine v_iconst E dX1_init_82 (v := nI 0) rfl ?_
  refine v_put E dX1_init_83 0 10 tyX1 tyX1_ok nmX1 hinX1 rfl rfl (by decide) (by decide +kernel) rfl rfl rfl rfl rfl (Nat.le_of_ble_eq_true rfl) (w' := ([(r, .inr (1, [.ref q1, .ref q2, .ref q3, .ref q4, .ref q5, .ref q6, .ref q7, .ref q8, .int (nI 0), .int (nI 0), .int (nI 0), .int 0, .int 0, .int 0, .int 0])), (q1, .inl (cI, 16, .inl (fun _ => 0))), (q2, .inl (cI, 40, .inl (fun _ => 0))), (q3, .inl (cI, 12, .inl (fun _ => 0))), (q5, .inl (cZ, 12, .inl (fun _ => bI false))), (q6, .inl (cI, 12, .inl (fun _ => 0))), (q7, .inl (cI, 12, .inl (fun _ => 0))), (q8, .inl (cI, 12, .inl (fun _ => 0)))] ++ wLog cI cQ a1)) rfl ?_
  refine v_aload_n E dX1_init_86 0 rfl rfl ?_
  refine v_iconst E dX1_init_87 (v := nI 2) rfl ?_
  refine v_put E dX1_init_88 0 11 tyX1 tyX1_ok nmX1 hinX1 rfl rfl (by decide) (by decide +kernel) rfl rfl rfl rfl rfl (Nat.le_of_ble_eq_true rfl) (w' := ([(r, .inr (1, [.ref q1, .ref q2, .ref q3, .ref q4, .ref q5, .ref q6, .ref q7, .ref q8, .int (nI 0), .int (nI 0), .int (nI 0), .int (nI 2), .int 0, .int 0, .int 0])), (q1, .inl (cI, 16, .inl (fun _ => 0))), (q2, .inl (cI, 40, .inl (fun _ => 0))), (q3, .inl (cI, 12, .inl (fun _ => 0))), (q5, .inl (cZ, 12, .inl (fun _ => bI false))), (q6, .inl (cI, 12, .inl (fun _ => 0))), (q7, .inl (cI, 12, .inl (fun _ => 0))), (q8, .inl (cI, 12, .inl (fun _ => 0)))] ++ wLog cI cQ a1)) rfl ?_
  refine v_aload_n E dX1_init_91 0 rfl rfl ?_
  refine v_bipush E dX1_init_92 (v := nI 10) rfl ?_
  refine v_put E dX1_init_94 0 12 tyX1 tyX1_ok nmX1 hinX1 rfl rfl (by decide) (by decide +kernel) rfl rfl rfl rfl rfl (Nat.le_of_ble_eq_true rfl) (w' := ([(r, .inr (1, [.ref q1, .ref q2, .ref q3, .ref q4, .ref q5, .ref q6, .ref q7, .ref q8, .int (nI 0), .int (nI 0), .int (nI 0), .int (nI 2), .int (nI 10), .int 0, .int 0])), (q1, .inl (cI, 16, .inl (fun _ => 0))), (q2, .inl (cI, 40, .inl (fun _ => 0))), (q3, .inl (cI, 12, .inl (fun _ => 0))), (q5, .inl (cZ, 12, .inl (fun _ => bI false))), (q6, .inl (cI, 12, .inl (fun _ => 0))), (q7, .inl (cI, 12, .inl (fun _ => 0))), (q8, .inl (cI, 12, .inl (fun _ => 0)))] ++ wLog cI cQ a1)) rfl ?_
  refine v_aload_n E dX1_init_97 0 rfl rfl ?_
  refine v_iconst E dX1_init_98 (v := nI 0) rfl ?_
  refine v_put E dX1_init_99 0 13 tyX1 tyX1_ok nmX1 hinX1 rfl rfl (by decide) (by decide +kernel) rfl rfl rfl rfl rfl (Nat.le_of_ble_eq_true rfl) (w' := ([(r, .inr (1, [.ref q1, .ref q2, .ref q3, .ref q4, .ref q5, .ref q6, .ref q7, .ref q8, .int (nI 0), .int (nI 0), .int (nI 0), .int (nI 2), .int (nI 10), .int (nI 0), .int 0])), (q1, .inl (cI, 16, .inl (fun _ => 0))), (q2, .inl (cI, 40, .inl (fun _ => 0))), (q3, .inl (cI, 12, .inl (fun _ => 0))), (q5, .inl (cZ, 12, .inl (fun _ => bI false))), (q6, .inl (cI, 12, .inl (fun _ => 0))), (q7, .inl (cI, 12, .inl (fun _ => 0))), (q8, .inl (cI, 12, .inl (fun _ => 0)))] ++ wLog cI cQ a1)) rfl ?_
  refine v_aload_n E dX1_init_102 0 rfl rfl ?_
  refine v_iconst E dX1_init_103 (v := nI 0) rfl ?_
  refine v_put E dX1_init_104 0 14 tyX1 tyX1_ok nmX1 hinX1 rfl rfl (by decide) (by decide +kernel) rfl rfl rfl rfl rfl (Nat.le_of_ble_eq_true rfl) (w' := ([(r, .inr (1, [.ref q1, .ref q2, .ref q3, .ref q4, .ref q5, .ref q6, .ref q7, .ref q8, .int (nI 0), .int (nI 0), .int (nI 0), .int (nI 2), .int (nI 10), .int (nI 0), .int (nI 0)])), (q1, .inl (cI, 16, .inl (fun _ => 0))), (q2, .inl (cI, 40, .inl (fun _ => 0))), (q3, .inl (cI, 12, .inl (fun _ => 0))), (q5, .inl (cZ, 12, .inl (fun _ => bI false))), (q6, .inl (cI, 12, .inl (fun _ => 0))), (q7, .inl (cI, 12, .inl (fun _ => 0))), (q8, .inl (cI, 12, .inl (fun _ => 0)))] ++ wLog cI cQ a1)) rfl ?_
  subst ha1
  have hLog : wLog cI cQ a1 = (a1 4, .inr (0, [.ref (a1 9), .ref (a1 10), .ref (a1 11), .ref (a1 12), .ref (a1 13)])) :: ([(a1 9, .inl (cI, 12, .inl (fun _ => 0))), (a1 10, .inl (cQ, oB (rzo (fun t => a1 (20 + t))))), (a1 11, .inl (cQ, oB (rzo (fun t => a1 (40 + t))))), (a1 12, .inl (cQ, oB (rzo (fun t => a1 (60 + t))))), (a1 13, .inl (cQ, oB (rzo (fun t => a1 (80 + t)))))] ++ (rws cI 200 (fun t => a1 (20 + t)) ++ (rws cI 200 (fun t => a1 (40 + t)) ++ (rws cI 40 (fun t => a1 (60 + t)) ++ rws cI 40 (fun t => a1 (80 + t))))) : va_W) := by
    unfold wLog
    rw [zrows_of (r := fun t => a1 (20 + t)) (fun _ _ => rfl), zrows_of (r := fun t => a1 (40 + t)) (fun _ _ => rfl), zrows_of (r := fun t => a1 (60 + t)) (fun _ _ => rfl), zrows_of (r := fun t => a1 (80 + t)) (fun _ _ => rfl), zout_of (r := fun t => a1 (20 + t)) (fun _ _ => rfl), zout_of (r := fun t => a1 (40 + t)) (fun _ _ => rfl), zout_of (r := fun t => a1 (60 + t)) (fun _ _ => rfl), zout_of (r := fun t => a1 (80 + t)) (fun _ _ => rfl)]
    rfl
  have hW9 : wX cI cZ cQ (mkA (fun k => if k = 0 then r else if k = 1 then q1 else if k = 2 then q2 else if k = 3 then q3 else if k = 5 then q5 else if k = 6 then q6 else if k = 7 then q7 else if k = 8 then q8 else a1 k) (fun t => a1 (20 + t)) (fun t => a1 (40 + t)) (fun t => a1 (60 + t)) (fun t => a1 (80 + t))) S0 = ([(r, .inr (1, [.ref q1, .ref q2, .ref q3, .ref (a1 4), .ref q5, .ref q6, .ref q7, .ref q8, .int (nI 0), .int (nI 0), .int (nI 0), .int (nI 2), .int (nI 10), .int (nI 0), .int (nI 0)])), (q1, .inl (cI, 16, .inl (fun _ => 0))), (q2, .inl (cI, 40, .inl (fun _ => 0))), (q3, .inl (cI, 12, .inl (fun _ => 0)))] : va_W) ++ ((a1 4, .inr (0, [.ref (a1 9), .ref (a1 10), .ref (a1 11), .ref (a1 12), .ref (a1 13)])) :: (([(q5, .inl (cZ, 12, .inl (fun _ => bI false))), (q6, .inl (cI, 12, .inl (fun _ => 0))), (q7, .inl (cI, 12, .inl (fun _ => 0))), (q8, .inl (cI, 12, .inl (fun _ => 0)))] : va_W) ++ ([(a1 9, .inl (cI, 12, .inl (fun _ => 0))), (a1 10, .inl (cQ, oB (rzo (fun t => a1 (20 + t))))), (a1 11, .inl (cQ, oB (rzo (fun t => a1 (40 + t))))), (a1 12, .inl (cQ, oB (rzo (fun t => a1 (60 + t))))), (a1 13, .inl (cQ, oB (rzo (fun t => a1 (80 + t)))))] ++ (rws cI 200 (fun t => a1 (20 + t)) ++ (rws cI 200 (fun t => a1 (40 + t)) ++ (rws cI 40 (fun t => a1 (60 + t)) ++ rws cI 40 (fun t => a1 (80 + t))))) : va_W))) := by
    show wX1 cI cZ cQ (mkA (fun k => if k = 0 then r else if k = 1 then q1 else if k = 2 then q2 else if k = 3 then q3 else if k = 5 then q5 else if k = 6 then q6 else if k = 7 then q7 else if k = 8 then q8 else a1 k) (fun t => a1 (20 + t)) (fun t => a1 (40 + t)) (fun t => a1 (60 + t)) (fun t => a1 (80 + t))) S0 ++ (zrows cI (mkA (fun k => if k = 0 then r else if k = 1 then q1 else if k = 2 then q2 else if k = 3 then q3 else if k = 5 then q5 else if k = 6 then q6 else if k = 7 then q7 else if k = 8 then q8 else a1 k) (fun t => a1 (20 + t)) (fun t => a1 (40 + t)) (fun t => a1 (60 + t)) (fun t => a1 (80 + t))) 20 200 (fun _ _ => 0) ++ (zrows cI (mkA (fun k => if k = 0 then r else if k = 1 then q1 else if k = 2 then q2 else if k = 3 then q3 else if k = 5 then q5 else if k = 6 then q6 else if k = 7 then q7 else if k = 8 then q8 else a1 k) (fun t => a1 (20 + t)) (fun t => a1 (40 + t)) (fun t => a1 (60 + t)) (fun t => a1 (80 + t))) 40 200 (fun _ _ => 0) ++ (zrows cI (mkA (fun k => if k = 0 then r else if k = 1 then q1 else if k = 2 then q2 else if k = 3 then q3 else if k = 5 then q5 else if k = 6 then q6 else if k = 7 then q7 else if k = 8 then q8 else a1 k) (fun t => a1 (20 + t)) (fun t => a1 (40 + t)) (fun t => a1 (60 + t)) (fun t => a1 (80 + t))) 60 40 (fun _ _ => 0) ++ zrows cI (mkA (fun k => if k = 0 then r else if k = 1 then q1 else if k = 2 then q2 else if k = 3 then q3 else if k = 5 then q5 else if k = 6 then q6 else if k = 7 then q7 else if k = 8 then q8 else a1 k) (fun t => a1 (20 + t)) (fun t => a1 (40 + t)) (fun t => a1 (60 + t)) (fun t => a1 (80 + t))) 80 40 (fun _ _ => 0)))) = _
    unfold wX1
    rw [zrows_of mkA_1, zrows_of mkA_2, zrows_of mkA_3, zrows_of mkA_4, zout_of mkA_1, zout_of mkA_2, zout_of mkA_3, zout_of mkA_4]
    rfl
  refine v_perm (w' := wX cI cZ cQ (mkA (fun k => if k = 0 then r else if k = 1 then q1 else if k = 2 then q2 else if k = 3 then q3 else if k = 5 then q5 else if k = 6 then q6 else if k = 7 then q7 else if k = 8 then q8 else a1 k) (fun t => a1 (20 + t)) (fun t => a1 (40 + t)) (fun t => a1 (60 + t)) (fun t => a1 (80 + t))) S0) ?_ ?_
  · rw [hLog, hW9]
    exact pmX (U := ([(r, .inr (1, [.ref q1, .ref q2, .ref q3, .ref (a1 4), .ref q5, .ref q6, .ref q7, .ref q8, .int (nI 0), .int (nI 0), .int (nI 0), .int (nI 2), .int (nI 10), .int (nI 0), .int (nI 0)])), (q1, .inl (cI, 16, .inl (fun _ => 0))), (q2, .inl (cI, 40, .inl (fun _ => 0))), (q3, .inl (cI, 12, .inl (fun _ => 0)))] : va_W)) (V := ([(q5, .inl (cZ, 12, .inl (fun _ => bI false))), (q6, .inl (cI, 12, .inl (fun _ => 0))), (q7, .inl (cI, 12, .inl (fun _ => 0))), (q8, .inl (cI, 12, .inl (fun _ => 0)))] : va_W))
  · exact i_ret E hr (mkA (fun k => if k = 0 then r else if k = 1 then q1 else if k = 2 then q2 else if k = 3 then q3 else if k = 5 then q5 else if k = 6 then q6 else if k = 7 then q7 else if k = 8 then q8 else a1 k) (fun t => a1 (20 + t)) (fun t => a1 (40 + t)) (fun t => a1 (60 + t)) (fun t => a1 (80 + t))) rfl rfl rfl rfl dX1_init_107
