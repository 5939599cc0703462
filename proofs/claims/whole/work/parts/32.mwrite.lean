/-! ===== the model: what it writes, what it notes ===== -/
section YRET
variable {p : Program} {l : Launch} {e : Env} {R : Room} {s : State} {m : MethodId} {args : Array Value} {below : List Frame} {meth : Method} {c : Code} {cells slots : Nat} {nL : Nat}
variable {D : va_G} {tys : List (ClassId × FieldType)} {cc : ByteArray} {Ts : List Cond} {own : String}
variable {pc : Nat} {lv : List (Nat × Value)} {w w' w2 : va_W} {A : Nat → Prop} {k mc ms : Nat} {ex : Nat → String} {o : Option Value} {kz : Prop}
theorem y_ret (E : v_E p s m args meth c D tys cc nL Ts own (v_rw D A s)) {v : Int32} (hr : meth.sig.returnType = some .int) (hk : kz) (ho : o = (some (.int v))) (hw : w = w') (hc : cells ≤ mc) (hs : slots ≤ ms) (hdg : decode cc pc = .ok (.ireturn, 1)) : V p l e R s m args below meth c cells slots (vx_MQ below (v_Qo D tys kz o w' A) (v_XC D tys k ex w2 A) args s mc ms A) (v_rw D A s) nL pc lv [.int v] w := by
  subst hw
  exact x_ret E hr hk ho hc hs hdg
theorem y_retz (E : v_E p s m args meth c D tys cc nL Ts own (v_rw D A s)) {v : Int32} (hr : meth.sig.returnType = some .boolean) (hz : narrow .boolean (.int v) = .int v) (hk : kz) (ho : o = (some (.int v))) (hw : w = w') (hc : cells ≤ mc) (hs : slots ≤ ms) (hdg : decode cc pc = .ok (.ireturn, 1)) : V p l e R s m args below meth c cells slots (vx_MQ below (v_Qo D tys kz o w' A) (v_XC D tys k ex w2 A) args s mc ms A) (v_rw D A s) nL pc lv [.int v] w := by
  subst hw
  exact x_retz E hr hz hk ho hc hs hdg
theorem y_retl (E : v_E p s m args meth c D tys cc nL Ts own (v_rw D A s)) {v : Int64} (hr : meth.sig.returnType = some .long) (hk : kz) (ho : o = (some (.long v))) (hw : w = w') (hc : cells ≤ mc) (hs : slots ≤ ms) (hdg : decode cc pc = .ok (.lreturn, 1)) : V p l e R s m args below meth c cells slots (vx_MQ below (v_Qo D tys kz o w' A) (v_XC D tys k ex w2 A) args s mc ms A) (v_rw D A s) nL pc lv [.long v] w := by
  subst hw
  exact x_retl E hr hk ho hc hs hdg
theorem y_retv (E : v_E p s m args meth c D tys cc nL Ts own (v_rw D A s)) (hr : meth.sig.returnType = none) (hk : kz) (ho : o = none) (hw : w = w') (hc : cells ≤ mc) (hs : slots ≤ ms) (hdg : decode cc pc = .ok (.return_, 1)) : V p l e R s m args below meth c cells slots (vx_MQ below (v_Qo D tys kz o w' A) (v_XC D tys k ex w2 A) args s mc ms A) (v_rw D A s) nL pc lv [] w := by
  subst hw
  exact x_retv E hr hk ho hc hs hdg
end YRET
theorem kk2_bt {b c : Bool} (h : (b && c) = true) : kk2 b c = 0 := by
  cases b <;> cases c <;> first | rfl | exact absurd h (by decide)
theorem kk2_bf {b c : Bool} (h : (b && c) = false) : kk2 b c ≠ 0 := by
  cases b <;> cases c <;> first | decide | exact absurd h (by decide)
theorem and_tt {b c : Bool} (h : (b && c) = true) : b = true ∧ c = true := by
  cases b <;> cases c <;> first | exact ⟨rfl, rfl⟩ | exact absurd h (by decide)
theorem n_p1 {n : Nat} (h : n < 2 ^ 30) : nI (n + 1) - nI 1 = nI n := by
  rw [pk_sub (show 1 ≤ n + 1 by omega), Nat.add_sub_cancel]
def zlt (a b : Int32) : Bool := decide (a.toInt < b.toInt)
theorem zlt_f {a b : Int32} (h : b ≤ a) : zlt a b = false := by
  rw [i_le] at h
  exact decide_eq_false (by omega)
theorem zlt_t {a b : Int32} (h : ¬ b ≤ a) : zlt a b = true := by
  rw [i_le] at h
  exact decide_eq_true (by omega)
theorem kk2_cg {b c c' : Bool} (h : b = true → c = c') : kk2 b c = kk2 b c' := by
  cases b
  · rfl
  · rw [h rfl]
theorem zlt_n {a b : Nat} (ha : a < 2 ^ 31) (hb : b < 2 ^ 31) : zlt (nI a) (nI b) = decide (a < b) := by
  unfold zlt
  rw [nI_toInt ha, nI_toInt hb]
  exact decide_eq_decide.mpr (by omega)
theorem tri_kk {a : Bool} {n : Nat} {u1 u2 : Int32} (hn : n ≤ 2 ^ 31) : kk2 (a && zin u1 n && zin u2 n) (zlt u1 u2) = kk2 (a && zin u1 n && zin u2 n) (decide (iN u1 < iN u2)) := kk2_cg (fun h => by
  obtain ⟨h1, h2⟩ := and_tt h
  obtain ⟨-, h3⟩ := and_tt h1
  obtain ⟨g, hg, rfl⟩ := zin_of hn h3
  obtain ⟨b, hb, rfl⟩ := zin_of hn h2
  rw [zlt_n (by omega) (by omega), iN_nI (by omega), iN_nI (by omega)])
theorem oI_m1 {p : Nat} (hp : p < 2 ^ 31) : oI p = -1 ↔ p = 0 := by
  cases p with
  | zero => exact ⟨fun _ => rfl, fun _ => rfl⟩
  | succ n =>
    rw [oI_s]
    exact ⟨fun h => absurd h (nI_m1 (by omega)), fun h => absurd h (Nat.succ_ne_zero n)⟩
theorem oI_n {p : Nat} (hp : p ≠ 0) : oI p = nI (p - 1) := if_neg hp
theorem zrm_go {S : zS} {Q : Nat → Nat} {p k : Nat} (h : p ≤ k) : zs_Q (zs_Q S (zrm Q p k)) (va_up (z_Q (zs_Q S (zrm Q p k))) k (z_Q (zs_Q S (zrm Q p k)) (k + 1))) = zs_Q S (zrm Q p (k + 1)) := by
  show zs_Q S (va_up (zrm Q p k) k (zrm Q p k (k + 1))) = _
  congr 1
  funext j
  unfold va_up zrm
  by_cases e : j = k
  · subst e
    rw [if_pos rfl, if_neg (by omega), if_pos (by omega)]
  · rw [if_neg e]
    by_cases d : p ≤ j ∧ j < k
    · rw [if_pos d, if_pos (by omega)]
    · rw [if_neg d, if_neg (by omega)]
theorem zrm_z (Q : Nat → Nat) (p : Nat) : zrm Q p p = Q := by
  funext j
  exact if_neg (by omega)
theorem sr_bh {S : zS} {t k : Nat} (h : k + 1 ≤ z_B S t + 1) : sr (fun i => b1 (cnd S t i)) (k + 1) (z_B S t + 1) = zcc S t - ct (cnd S t) (k + 1) := by
  have e := sr_ct (cnd S t) (k + 1) (z_B S t + 1) h
  unfold zcc
  omega
theorem zrn_le {S : zS} (hok : zOK S) (t c : Nat) : zrn S t c ≤ 400 := by
  have z1 := zP_le hok t c
  have z2 := zF_le hok t c
  unfold zrn
  omega
set_option maxHeartbeats 4000000 in
set_option maxRecDepth 100000 in
theorem x_X2_goes (l : Launch) (D : va_G) (cI cZ cQ cJ : ClassId) (b : Nat → Nat) (S : zS) (th : Nat) (hok : zOK S)  (P Q : Bool) : v_Thr l yX2_goes wsX2_goes { frames := 0, cells := 0, slots := 0, locals := 0 } D (wTy cI cZ cQ cJ) [.ref (b 0), .int (bI (P)), .int (bI (Q))] (wM cI b S th) (0) exI (some (.int (bI (P && Q)))) (wM cI b S (kk2 P Q)) 0 0 := by
  refine v_thrower (cc := cX2_goes) (maxL := 3) (ret := (some .boolean)) (own := RX2) (lv0 := [(0, .ref (b 0)), (1, .int (bI (P))), (2, .int (bI (Q)))]) (by decide) rfl rfl (Nat.le_of_ble_eq_true rfl) rfl ?_
  intro p9 e9 s9 m9 as9 bl9 me9 cd9 A E hA htab hTx hr
  have hinX2 : ∀ w ∈ u_ws RX2 TX2 16, w ∈ wsX2_goes := by decide +kernel
  refine v_aload_n E dX2_goes_0 0 rfl rfl ?_
  refine v_iload_n E dX2_goes_1 1 rfl rfl ?_
  refine b_if_ne E dX2_goes_2 (tgt := 9) (by decide) (fun c2 => ?_) (fun c2 => ?_)
  · refine v_iload_n E dX2_goes_9 2 rfl rfl ?_
    refine b_if_ne E dX2_goes_10 (tgt := 17) (by decide) (fun c10 => ?_) (fun c10 => ?_)
    · refine v_iconst E dX2_goes_17 (v := nI 0) rfl ?_
      refine v_put E dX2_goes_18 0 15 tyX2 tyX2_ok nmX2 hinX2 rfl rfl (by decide) (by decide +kernel) rfl rfl rfl rfl rfl (Nat.le_of_ble_eq_true rfl) (w' := (wM cI b S (0))) (wM_th _) ?_
      refine v_aload_n E dX2_goes_21 0 rfl rfl ?_
      refine v_get E dX2_goes_22 0 15 hinX2 rfl rfl (by decide) (by decide +kernel) rfl rfl ?_
      refine n_if_ne E dX2_goes_25 (by omega) (tgt := 32) (by decide) (fun c25 => ?_) (fun c25 => ?_)
      · exact absurd c25 (by omega)
      · refine v_iconst E dX2_goes_28 (v := nI 1) rfl ?_
        refine v_goto E dX2_goes_29 (tgt := 33) (by decide) ?_
        exact y_retz E hr rfl rfl (by rw [c2, c10]; rfl) (by rw [c2, c10]; rfl) (by decide) (by decide) dX2_goes_33
    · refine v_iconst E dX2_goes_13 (v := nI 2) rfl ?_
      refine v_goto E dX2_goes_14 (tgt := 18) (by decide) ?_
      refine v_put E dX2_goes_18 0 15 tyX2 tyX2_ok nmX2 hinX2 rfl rfl (by decide) (by decide +kernel) rfl rfl rfl rfl rfl (Nat.le_of_ble_eq_true rfl) (w' := (wM cI b S (2))) (wM_th _) ?_
      refine v_aload_n E dX2_goes_21 0 rfl rfl ?_
      refine v_get E dX2_goes_22 0 15 hinX2 rfl rfl (by decide) (by decide +kernel) rfl rfl ?_
      refine n_if_ne E dX2_goes_25 (by omega) (tgt := 32) (by decide) (fun c25 => ?_) (fun c25 => ?_)
      · refine v_iconst E dX2_goes_32 (v := nI 0) rfl ?_
        exact y_retz E hr rfl rfl (by rw [c2, c10]; rfl) (by rw [c2, c10]; rfl) (by decide) (by decide) dX2_goes_33
      · exact absurd c25 (by omega)
  · refine v_iconst E dX2_goes_5 (v := nI 1) rfl ?_
    refine v_goto E dX2_goes_6 (tgt := 18) (by decide) ?_
    refine v_put E dX2_goes_18 0 15 tyX2 tyX2_ok nmX2 hinX2 rfl rfl (by decide) (by decide +kernel) rfl rfl rfl rfl rfl (Nat.le_of_ble_eq_true rfl) (w' := (wM cI b S (1))) (wM_th _) ?_
    refine v_aload_n E dX2_goes_21 0 rfl rfl ?_
    refine v_get E dX2_goes_22 0 15 hinX2 rfl rfl (by decide) (by decide +kernel) rfl rfl ?_
    refine n_if_ne E dX2_goes_25 (by omega) (tgt := 32) (by decide) (fun c25 => ?_) (fun c25 => ?_)
    · refine v_iconst E dX2_goes_32 (v := nI 0) rfl ?_
      exact y_retz E hr rfl rfl (by rw [c2]; rfl) (by rw [c2]; rfl) (by decide) (by decide) dX2_goes_33
    · exact absurd c25 (by omega)

set_option maxHeartbeats 4000000 in
set_option maxRecDepth 100000 in
theorem x_X2_told (l : Launch) (D : va_G) (cI cZ cQ cJ : ClassId) (b : Nat → Nat) (S : zS) (th : Nat) (hok : zOK S)  (v : Int32) : v_Thr l yX2_told wsX2_told { frames := 0, cells := 0, slots := 0, locals := 0 } D (wTy cI cZ cQ cJ) [.ref (b 0), .int (v)] (wM cI b S th) (0) exI (some (.int v)) (wM cI b S 0) 0 0 := by
  refine v_thrower (cc := cX2_told) (maxL := 2) (ret := (some .int)) (own := RX2) (lv0 := [(0, .ref (b 0)), (1, .int (v))]) (by decide) rfl rfl (Nat.le_of_ble_eq_true rfl) rfl ?_
  intro p9 e9 s9 m9 as9 bl9 me9 cd9 A E hA htab hTx hr
  have hinX2 : ∀ w ∈ u_ws RX2 TX2 16, w ∈ wsX2_told := by decide +kernel
  refine v_aload_n E dX2_told_0 0 rfl rfl ?_
  refine v_iconst E dX2_told_1 (v := nI 0) rfl ?_
  refine v_put E dX2_told_2 0 15 tyX2 tyX2_ok nmX2 hinX2 rfl rfl (by decide) (by decide +kernel) rfl rfl rfl rfl rfl (Nat.le_of_ble_eq_true rfl) (w' := (wM cI b S (0))) (wM_th _) ?_
  refine v_iload_n E dX2_told_5 1 rfl rfl ?_
  exact y_ret E hr rfl rfl rfl (by decide) (by decide) dX2_told_6

set_option maxHeartbeats 4000000 in
set_option maxRecDepth 100000 in
theorem x_X2_leaves (l : Launch) (D : va_G) (cI cZ cQ cJ : ClassId) (b : Nat → Nat) (S : zS) (th : Nat) (hok : zOK S)  (p : Nat) (hp : p < z_qn S) : v_Thr l yX2_leaves wsX2_leaves { frames := 0, cells := 0, slots := 0, locals := 0 } D (wTy cI cZ cQ cJ) [.ref (b 0), .int (nI (p))] (wM cI b S th) (0) exI none (wM cI b (srm S p) th) 0 0 := by
  refine v_thrower (cc := cX2_leaves) (maxL := 3) (ret := none) (own := RX2) (lv0 := [(0, .ref (b 0)), (1, .int (nI (p)))]) (by decide) rfl rfl (Nat.le_of_ble_eq_true rfl) rfl ?_
  intro p9 e9 s9 m9 as9 bl9 me9 cd9 A E hA htab hTx hr
  have hinX2 : ∀ w ∈ u_ws RX2 TX2 16, w ∈ wsX2_leaves := by decide +kernel
  obtain ⟨⟨k1, k2, k3, k4, k5, k6, k7, k8⟩, k9, k10, k11, k12, k13⟩ := id hok
  have hqn := zqn_le hok
  refine v_aload_n E dX2_leaves_0 0 rfl rfl ?_
  refine v_dup E dX2_leaves_1 rfl ?_
  refine v_get E dX2_leaves_2 0 14 hinX2 rfl rfl (by decide) (by decide +kernel) rfl rfl ?_
  refine v_iconst E dX2_leaves_5 (v := nI 1) rfl ?_
  refine v_isub E dX2_leaves_6 (pk_sub (by omega)) ?_
  refine v_put E dX2_leaves_7 0 14 tyX2 tyX2_ok nmX2 hinX2 rfl rfl (by decide) (by decide +kernel) rfl rfl rfl rfl rfl (Nat.le_of_ble_eq_true rfl) (w' := (wM cI b (zs_qn S (z_qn S - 1)) (th))) (wM_f_qn _) ?_
  refine v_iload_n E dX2_leaves_10 1 rfl rfl ?_
  refine v_w (w' := wM cI b (zs_Q (zs_qn S (z_qn S - 1)) (zrm (z_Q S) p p)) th) (by rw [zrm_z]; rfl) ?_
  refine v_istore_n E dX2_leaves_11 rfl (by decide) rfl ?_
  have L12_1 : ∀ (n12 : Nat) (k : Nat), z_qn S - 1 - k < n12 → (p ≤ k) → (k ≤ z_qn S - 1) → V p9 l e9 (headSpec wsX2_leaves { frames := 0, cells := 0, slots := 0, locals := 0 }).room s9 m9 as9 bl9 me9 cd9 0 0 (vx_MQ bl9 (v_Qo D (wTy cI cZ cQ cJ) (0 = 0) none (wM cI b (srm S p) th) A) (v_XC D (wTy cI cZ cQ cJ) (0) exI (wM cI b S th) A) as9 s9 0 0 A) (v_rw D A s9) 3 12 [(2, .int (nI (k))), (0, .ref (b 0)), (1, .int (nI (p)))] [] (wM cI b (zs_Q (zs_qn S (z_qn S - 1)) (zrm (z_Q S) p k)) (th)) := by
    intro n12
    induction n12 with
    | zero => intro k hm12 h1 h2; exact absurd hm12 (Nat.not_lt_zero _)
    | succ n12 ih12 =>
      intro k hm12 h1 h2
      refine v_iload_n E dX2_leaves_12 0 rfl rfl ?_
      refine v_aload_n E dX2_leaves_13 1 rfl rfl ?_
      refine v_get E dX2_leaves_14 0 14 hinX2 rfl rfl (by decide) (by decide +kernel) rfl rfl ?_
      refine v_top (y := nI (z_qn S - 1)) rfl ?_
      refine n_icmp_ge E dX2_leaves_17 (by omega) (by omega) (tgt := 40) (by decide) (fun c17 => ?_) (fun c17 => ?_)
      · exact y_retv E hr rfl rfl (by rw [show k = z_qn S - 1 by omega]; rfl) (by decide) (by decide) dX2_leaves_40
      · refine v_aload_n E dX2_leaves_20 1 rfl rfl ?_
        refine v_get E dX2_leaves_21 0 13 hinX2 rfl rfl (by decide) (by decide +kernel) rfl rfl ?_
        refine v_iload_n E dX2_leaves_24 0 rfl rfl ?_
        refine v_aload_n E dX2_leaves_25 1 rfl rfl ?_
        refine v_get E dX2_leaves_26 0 13 hinX2 rfl rfl (by decide) (by decide +kernel) rfl rfl ?_
        refine v_iload_n E dX2_leaves_29 0 rfl rfl ?_
        refine v_iconst E dX2_leaves_30 (v := nI 1) rfl ?_
        refine v_iadd E dX2_leaves_31 (nI_add _ _) ?_
        refine v_iald E dX2_leaves_32 8 0 rfl rfl (by omega) (by decide) rfl ?_
        refine v_top (y := nI (z_Q (zs_Q (zs_qn S (z_qn S - 1)) (zrm (z_Q S) p k)) (k + 1))) rfl ?_
        refine v_iast E dX2_leaves_33 8 0 rfl rfl (by omega) (by decide) (w' := (wM cI b (zs_Q (zs_Q (zs_qn S (z_qn S - 1)) (zrm (z_Q S) p k)) (va_up (z_Q (zs_Q (zs_qn S (z_qn S - 1)) (zrm (z_Q S) p k))) (k) (z_Q (zs_Q (zs_qn S (z_qn S - 1)) (zrm (z_Q S) p k)) (k + 1)))) (th))) (wM_a_Q _ _) ?_
        refine v_w (w' := wM cI b (zs_Q (zs_qn S (z_qn S - 1)) (zrm (z_Q S) p (k + 1))) th) (congrArg (fun x => wM cI b x th) (zrm_go h1)) ?_
        refine v_iinc E dX2_leaves_34 0 rfl (nI_1 _) (by decide) rfl ?_
        refine v_goto E dX2_leaves_37 (tgt := 12) (by decide) ?_
        refine v_lv [0, 1, 2] rfl ?_
        exact ih12 (k + 1) (by omega) (by omega) (by omega)
  refine v_lv [0, 1, 2] rfl ?_
  exact L12_1 ((z_qn S - 1 - (p)) + 1) (p) (by omega) (Nat.le_refl _) (by omega)

set_option maxHeartbeats 4000000 in
set_option maxRecDepth 100000 in
theorem x_X2_joins (l : Launch) (D : va_G) (cI cZ cQ cJ : ClassId) (b : Nat → Nat) (S : zS) (th : Nat) (hok : zOK S)  (t : Nat) (ht : t < 12) (hq : z_qn S < 12) : v_Thr l yX2_joins wsX2_joins { frames := 0, cells := 0, slots := 0, locals := 0 } D (wTy cI cZ cQ cJ) [.ref (b 0), .int (nI (t))] (wM cI b S th) (0) exI none (wM cI b (sjn S t) th) 0 0 := by
  refine v_thrower (cc := cX2_joins) (maxL := 2) (ret := none) (own := RX2) (lv0 := [(0, .ref (b 0)), (1, .int (nI (t)))]) (by decide) rfl rfl (Nat.le_of_ble_eq_true rfl) rfl ?_
  intro p9 e9 s9 m9 as9 bl9 me9 cd9 A E hA htab hTx hr
  have hinX2 : ∀ w ∈ u_ws RX2 TX2 16, w ∈ wsX2_joins := by decide +kernel
  refine v_aload_n E dX2_joins_0 0 rfl rfl ?_
  refine v_get E dX2_joins_1 0 13 hinX2 rfl rfl (by decide) (by decide +kernel) rfl rfl ?_
  refine v_aload_n E dX2_joins_4 0 rfl rfl ?_
  refine v_get E dX2_joins_5 0 14 hinX2 rfl rfl (by decide) (by decide +kernel) rfl rfl ?_
  refine v_iload_n E dX2_joins_8 1 rfl rfl ?_
  refine v_iast E dX2_joins_9 8 0 rfl rfl (by omega) (by decide) (w' := (wM cI b (zs_Q S (va_up (z_Q S) (z_qn S) (t))) (th))) (wM_a_Q _ _) ?_
  refine v_aload_n E dX2_joins_10 0 rfl rfl ?_
  refine v_dup E dX2_joins_11 rfl ?_
  refine v_get E dX2_joins_12 0 14 hinX2 rfl rfl (by decide) (by decide +kernel) rfl rfl ?_
  refine v_iconst E dX2_joins_15 (v := nI 1) rfl ?_
  refine v_iadd E dX2_joins_16 (nI_add _ _) ?_
  refine v_top (y := nI (z_qn S + 1)) rfl ?_
  refine v_put E dX2_joins_17 0 14 tyX2 tyX2_ok nmX2 hinX2 rfl rfl (by decide) (by decide +kernel) rfl rfl rfl rfl rfl (Nat.le_of_ble_eq_true rfl) (w' := (wM cI b (zs_qn (zs_Q S (va_up (z_Q S) (z_qn S) (t))) (z_qn S + 1)) (th))) (wM_f_qn _) ?_
  exact y_retv E hr rfl rfl rfl (by decide) (by decide) dX2_joins_20

set_option maxHeartbeats 4000000 in
set_option maxRecDepth 100000 in
theorem x_X2_setUses (l : Launch) (D : va_G) (cI cZ cQ cJ : ClassId) (b : Nat → Nat) (S : zS) (th : Nat) (hok : zOK S)  (u0 u1 : Int32) : v_Thr l yX2_setUses wsX2_setUses { frames := 2, cells := 0, slots := 0, locals := 42 } D (wTy cI cZ cQ cJ) [.ref (b 0), .int (u0), .int (u1)] (wM cI b S th) (0) exI (some (.int (mV (kk2 (zin u0 16) (zin u1 65536)) (nI (z_U S (iN u0)))))) (wM cI b (mS (kk2 (zin u0 16) (zin u1 65536)) (zs_U S (va_up (z_U S) (iN u0) (iN u1))) S) (kk2 (zin u0 16) (zin u1 65536))) 0 0 := by
  refine v_thrower (cc := cX2_setUses) (maxL := 4) (ret := (some .int)) (own := RX2) (lv0 := [(0, .ref (b 0)), (1, .int (u0)), (2, .int (u1))]) (by decide) rfl rfl (Nat.le_of_ble_eq_true rfl) rfl ?_
  intro p9 e9 s9 m9 as9 bl9 me9 cd9 A E hA htab hTx hr
  have hinX2 : ∀ w ∈ u_ws RX2 TX2 16, w ∈ wsX2_setUses := by decide +kernel
  obtain ⟨⟨k1, k2, k3, k4, k5, k6, k7, k8⟩, k9, k10, k11, k12, k13⟩ := id hok
  have hqn := zqn_le hok
  refine v_aload_n E dX2_setUses_0 0 rfl rfl ?_
  refine v_iload_n E dX2_setUses_1 1 rfl rfl ?_
  refine v_iconst E dX2_setUses_2 (v := nI 0) rfl ?_
  refine v_bipush E dX2_setUses_3 (v := nI 15) rfl ?_
  refine v_cSi' E dX2_setUses_5 (x_X2_in l D cI cZ cQ cJ ((u0)) (nI (0)) (nI (15))) (va_cwS 3 E.2.2.2.1 gX2_setUses_X2_in rfl rfl rfl (by decide +kernel) ⟨Nat.le_of_ble_eq_true rfl, Nat.le_of_ble_eq_true rfl⟩) (fun _ _ => v_nil _) rfl rfl ⟨Nat.le_of_ble_eq_true rfl, Nat.le_of_ble_eq_true rfl⟩ (Nat.le_of_ble_eq_true rfl) ?_
  refine v_top (y := bI (zin u0 16)) (congrArg bI (zbt_z u0 (n := 15) (by decide))) ?_
  refine v_iload_n E dX2_setUses_8 2 rfl rfl ?_
  refine v_cSi' E dX2_setUses_9 (x_X2_areParts l D cI cZ cQ cJ ((u1))) (va_cwS 1 E.2.2.2.1 gX2_setUses_X2_areParts rfl rfl rfl (by decide +kernel) ⟨Nat.le_of_ble_eq_true rfl, Nat.le_of_ble_eq_true rfl⟩) (fun _ _ => v_nil _) rfl rfl ⟨Nat.le_of_ble_eq_true rfl, Nat.le_of_ble_eq_true rfl⟩ (Nat.le_of_ble_eq_true rfl) ?_
  refine x_cVn E hA hTx dX2_setUses_12 (x_X2_goes l D cI cZ cQ cJ b S (th) hok (zin u0 16) (zin ((u1)) 65536)) (cwV 2 E.2.2.2.1 gX2_setUses_X2_goes rfl rfl rfl (by decide +kernel) ⟨Nat.le_of_ble_eq_true rfl, Nat.le_of_ble_eq_true rfl⟩) 0 rfl rfl rfl rfl rfl ⟨Nat.le_of_ble_eq_true rfl, Nat.le_of_ble_eq_true rfl⟩ (Nat.le_of_ble_eq_true rfl) ?_
  refine b_if_ne E dX2_setUses_15 (tgt := 20) (by decide) (fun c15 => ?_) (fun c15 => ?_)
  · have hk0 : kk2 (zin u0 16) (zin u1 65536) = 0 := (by exact kk2_bt c15)
    refine v_w (w' := wM cI b S 0) (by rw [hk0]) ?_
    obtain ⟨h1, h2⟩ := kk2_0 hk0
    obtain ⟨i, hi, rfl⟩ := zin_of (by decide) h1
    try simp only [iN_nI (show i < 2 ^ 31 by omega)] at hk0 h2 ⊢
    obtain ⟨j, hj, rfl⟩ := zin_of (by decide) h2
    try simp only [iN_nI (show j < 2 ^ 31 by omega)] at hk0 ⊢
    refine v_aload_n E dX2_setUses_20 0 rfl rfl ?_
    refine v_get E dX2_setUses_21 0 6 hinX2 rfl rfl (by decide) (by decide +kernel) rfl rfl ?_
    refine v_iload_n E dX2_setUses_24 1 rfl rfl ?_
    refine v_iald E dX2_setUses_25 1 0 rfl rfl (by omega) (by decide) rfl ?_
    refine v_istore_n E dX2_setUses_26 rfl (by decide) rfl ?_
    refine v_aload_n E dX2_setUses_27 1 rfl rfl ?_
    refine v_get E dX2_setUses_28 0 6 hinX2 rfl rfl (by decide) (by decide +kernel) rfl rfl ?_
    refine v_iload_n E dX2_setUses_31 2 rfl rfl ?_
    refine v_iload_n E dX2_setUses_32 3 rfl rfl ?_
    refine v_iast E dX2_setUses_33 1 0 rfl rfl (by omega) (by decide) (w' := (wM cI b (zs_U S (va_up (z_U S) (i) (j))) (0))) (wM_a_U _ _) ?_
    refine v_iload_n E dX2_setUses_34 0 rfl rfl ?_
    exact y_ret E hr (by trivial) (by rw [mV_0 hk0]) (by rw [mS_0 hk0, hk0]) (by decide) (by decide) dX2_setUses_35
  · have hkn : kk2 (zin u0 16) (zin u1 65536) ≠ 0 := (by exact kk2_bf c15)
    refine v_iconst E dX2_setUses_18 (v := nI 0) rfl ?_
    exact y_ret E hr (by trivial) (by rw [mV_n hkn]) (by rw [mS_n hkn]) (by decide) (by decide) dX2_setUses_19

set_option maxHeartbeats 4000000 in
set_option maxRecDepth 100000 in
theorem x_X2_addCommit (l : Launch) (D : va_G) (cI cZ cQ cJ : ClassId) (b : Nat → Nat) (S : zS) (th : Nat) (hok : zOK S)  (u0 : Int32) : v_Thr l yX2_addCommit wsX2_addCommit { frames := 2, cells := 0, slots := 0, locals := 42 } D (wTy cI cZ cQ cJ) [.ref (b 0), .int (u0)] (wM cI b S th) (0) exI (some (.int (mV (kk2 (zin u0 65536) (decide (z_nc S < 40))) (nI (z_nc S))))) (wM cI b (mS (kk2 (zin u0 65536) (decide (z_nc S < 40))) (sadC S (iN u0)) S) (kk2 (zin u0 65536) (decide (z_nc S < 40)))) 0 0 := by
  refine v_thrower (cc := cX2_addCommit) (maxL := 2) (ret := (some .int)) (own := RX2) (lv0 := [(0, .ref (b 0)), (1, .int (u0))]) (by decide) rfl rfl (Nat.le_of_ble_eq_true rfl) rfl ?_
  intro p9 e9 s9 m9 as9 bl9 me9 cd9 A E hA htab hTx hr
  have hinX2 : ∀ w ∈ u_ws RX2 TX2 16, w ∈ wsX2_addCommit := by decide +kernel
  obtain ⟨⟨k1, k2, k3, k4, k5, k6, k7, k8⟩, k9, k10, k11, k12, k13⟩ := id hok
  have hqn := zqn_le hok
  refine v_aload_n E dX2_addCommit_0 0 rfl rfl ?_
  refine v_iload_n E dX2_addCommit_1 1 rfl rfl ?_
  refine v_cSi' E dX2_addCommit_2 (x_X2_areParts l D cI cZ cQ cJ ((u0))) (va_cwS 1 E.2.2.2.1 gX2_addCommit_X2_areParts rfl rfl rfl (by decide +kernel) ⟨Nat.le_of_ble_eq_true rfl, Nat.le_of_ble_eq_true rfl⟩) (fun _ _ => v_nil _) rfl rfl ⟨Nat.le_of_ble_eq_true rfl, Nat.le_of_ble_eq_true rfl⟩ (Nat.le_of_ble_eq_true rfl) ?_
  refine v_aload_n E dX2_addCommit_5 0 rfl rfl ?_
  refine v_get E dX2_addCommit_6 0 0 hinX2 rfl rfl (by decide) (by decide +kernel) rfl rfl ?_
  refine v_bipush E dX2_addCommit_9 (v := nI 40) rfl ?_
  refine n_icmp_ge E dX2_addCommit_11 (by omega) (by omega) (tgt := 18) (by decide) (fun c11 => ?_) (fun c11 => ?_)
  · refine v_iconst E dX2_addCommit_18 (v := nI 0) rfl ?_
    refine v_top (y := bI (decide (z_nc S < 40))) (by rw [decide_eq_false (show ¬ z_nc S < 40 by omega)]; rfl) ?_
    refine x_cVn E hA hTx dX2_addCommit_19 (x_X2_goes l D cI cZ cQ cJ b S (th) hok (zin ((u0)) 65536) (decide (z_nc S < 40))) (cwV 2 E.2.2.2.1 gX2_addCommit_X2_goes rfl rfl rfl (by decide +kernel) ⟨Nat.le_of_ble_eq_true rfl, Nat.le_of_ble_eq_true rfl⟩) 0 rfl rfl rfl rfl rfl ⟨Nat.le_of_ble_eq_true rfl, Nat.le_of_ble_eq_true rfl⟩ (Nat.le_of_ble_eq_true rfl) ?_
    refine b_if_ne E dX2_addCommit_22 (tgt := 27) (by decide) (fun c22 => ?_) (fun c22 => ?_)
    · have hk0 : kk2 (zin u0 65536) (decide (z_nc S < 40)) = 0 := (by exact kk2_bt c22)
      refine v_w (w' := wM cI b S 0) (by rw [hk0]) ?_
      obtain ⟨h1, h2⟩ := kk2_0 hk0
      obtain ⟨j, hj, rfl⟩ := zin_of (by decide) h1
      try simp only [iN_nI (show j < 2 ^ 31 by omega)] at hk0 ⊢
      have h3 := of_decide_eq_true h2
      refine v_aload_n E dX2_addCommit_27 0 rfl rfl ?_
      refine v_get E dX2_addCommit_28 0 7 hinX2 rfl rfl (by decide) (by decide +kernel) rfl rfl ?_
      refine v_aload_n E dX2_addCommit_31 0 rfl rfl ?_
      refine v_get E dX2_addCommit_32 0 0 hinX2 rfl rfl (by decide) (by decide +kernel) rfl rfl ?_
      refine v_iload_n E dX2_addCommit_35 1 rfl rfl ?_
      refine v_iast E dX2_addCommit_36 2 0 rfl rfl (by omega) (by decide) (w' := (wM cI b (zs_C S (va_up (z_C S) (z_nc S) (j))) (0))) (wM_a_C _ _) ?_
      refine v_aload_n E dX2_addCommit_37 0 rfl rfl ?_
      refine v_dup E dX2_addCommit_38 rfl ?_
      refine v_get E dX2_addCommit_39 0 0 hinX2 rfl rfl (by decide) (by decide +kernel) rfl rfl ?_
      refine v_iconst E dX2_addCommit_42 (v := nI 1) rfl ?_
      refine v_iadd E dX2_addCommit_43 (nI_add _ _) ?_
      refine v_top (y := nI (z_nc S + 1)) rfl ?_
      refine v_put E dX2_addCommit_44 0 0 tyX2 tyX2_ok nmX2 hinX2 rfl rfl (by decide) (by decide +kernel) rfl rfl rfl rfl rfl (Nat.le_of_ble_eq_true rfl) (w' := (wM cI b (zs_nc (zs_C S (va_up (z_C S) (z_nc S) (j))) (z_nc S + 1)) (0))) (wM_f_nc _) ?_
      refine v_aload_n E dX2_addCommit_47 0 rfl rfl ?_
      refine v_get E dX2_addCommit_48 0 0 hinX2 rfl rfl (by decide) (by decide +kernel) rfl rfl ?_
      refine v_iconst E dX2_addCommit_51 (v := nI 1) rfl ?_
      refine v_isub E dX2_addCommit_52 (z := (nI (z_nc S + 1) - nI 1)) rfl ?_
      refine v_top (y := nI (z_nc S)) (n_p1 (by omega)) ?_
      exact y_ret E hr (by trivial) (by rw [mV_0 hk0]) (by rw [mS_0 hk0, hk0]; rfl) (by decide) (by decide) dX2_addCommit_53
    · have hkn : kk2 (zin u0 65536) (decide (z_nc S < 40)) ≠ 0 := (by exact kk2_bf c22)
      refine v_iconst E dX2_addCommit_25 (v := nI 0) rfl ?_
      exact y_ret E hr (by trivial) (by rw [mV_n hkn]) (by rw [mS_n hkn]) (by decide) (by decide) dX2_addCommit_26
  · refine v_iconst E dX2_addCommit_14 (v := nI 1) rfl ?_
    refine v_goto E dX2_addCommit_15 (tgt := 19) (by decide) ?_
    refine v_top (y := bI (decide (z_nc S < 40))) (by rw [decide_eq_true (show z_nc S < 40 by omega)]; rfl) ?_
    refine x_cVn E hA hTx dX2_addCommit_19 (x_X2_goes l D cI cZ cQ cJ b S (th) hok (zin ((u0)) 65536) (decide (z_nc S < 40))) (cwV 2 E.2.2.2.1 gX2_addCommit_X2_goes rfl rfl rfl (by decide +kernel) ⟨Nat.le_of_ble_eq_true rfl, Nat.le_of_ble_eq_true rfl⟩) 0 rfl rfl rfl rfl rfl ⟨Nat.le_of_ble_eq_true rfl, Nat.le_of_ble_eq_true rfl⟩ (Nat.le_of_ble_eq_true rfl) ?_
    refine b_if_ne E dX2_addCommit_22 (tgt := 27) (by decide) (fun c22 => ?_) (fun c22 => ?_)
    · have hk0 : kk2 (zin u0 65536) (decide (z_nc S < 40)) = 0 := (by exact kk2_bt c22)
      refine v_w (w' := wM cI b S 0) (by rw [hk0]) ?_
      obtain ⟨h1, h2⟩ := kk2_0 hk0
      obtain ⟨j, hj, rfl⟩ := zin_of (by decide) h1
      try simp only [iN_nI (show j < 2 ^ 31 by omega)] at hk0 ⊢
      have h3 := of_decide_eq_true h2
      refine v_aload_n E dX2_addCommit_27 0 rfl rfl ?_
      refine v_get E dX2_addCommit_28 0 7 hinX2 rfl rfl (by decide) (by decide +kernel) rfl rfl ?_
      refine v_aload_n E dX2_addCommit_31 0 rfl rfl ?_
      refine v_get E dX2_addCommit_32 0 0 hinX2 rfl rfl (by decide) (by decide +kernel) rfl rfl ?_
      refine v_iload_n E dX2_addCommit_35 1 rfl rfl ?_
      refine v_iast E dX2_addCommit_36 2 0 rfl rfl (by omega) (by decide) (w' := (wM cI b (zs_C S (va_up (z_C S) (z_nc S) (j))) (0))) (wM_a_C _ _) ?_
      refine v_aload_n E dX2_addCommit_37 0 rfl rfl ?_
      refine v_dup E dX2_addCommit_38 rfl ?_
      refine v_get E dX2_addCommit_39 0 0 hinX2 rfl rfl (by decide) (by decide +kernel) rfl rfl ?_
      refine v_iconst E dX2_addCommit_42 (v := nI 1) rfl ?_
      refine v_iadd E dX2_addCommit_43 (nI_add _ _) ?_
      refine v_top (y := nI (z_nc S + 1)) rfl ?_
      refine v_put E dX2_addCommit_44 0 0 tyX2 tyX2_ok nmX2 hinX2 rfl rfl (by decide) (by decide +kernel) rfl rfl rfl rfl rfl (Nat.le_of_ble_eq_true rfl) (w' := (wM cI b (zs_nc (zs_C S (va_up (z_C S) (z_nc S) (j))) (z_nc S + 1)) (0))) (wM_f_nc _) ?_
      refine v_aload_n E dX2_addCommit_47 0 rfl rfl ?_
      refine v_get E dX2_addCommit_48 0 0 hinX2 rfl rfl (by decide) (by decide +kernel) rfl rfl ?_
      refine v_iconst E dX2_addCommit_51 (v := nI 1) rfl ?_
      refine v_isub E dX2_addCommit_52 (z := (nI (z_nc S + 1) - nI 1)) rfl ?_
      refine v_top (y := nI (z_nc S)) (n_p1 (by omega)) ?_
      exact y_ret E hr (by trivial) (by rw [mV_0 hk0]) (by rw [mS_0 hk0, hk0]; rfl) (by decide) (by decide) dX2_addCommit_53
    · have hkn : kk2 (zin u0 65536) (decide (z_nc S < 40)) ≠ 0 := (by exact kk2_bf c22)
      refine v_iconst E dX2_addCommit_25 (v := nI 0) rfl ?_
      exact y_ret E hr (by trivial) (by rw [mV_n hkn]) (by rw [mS_n hkn]) (by decide) (by decide) dX2_addCommit_26

set_option maxHeartbeats 4000000 in
set_option maxRecDepth 100000 in
theorem x_X2_addTest (l : Launch) (D : va_G) (cI cZ cQ cJ : ClassId) (b : Nat → Nat) (S : zS) (th : Nat) (hok : zOK S)  (u0 : Int32) : v_Thr l yX2_addTest wsX2_addTest { frames := 2, cells := 0, slots := 0, locals := 42 } D (wTy cI cZ cQ cJ) [.ref (b 0), .int (u0)] (wM cI b S th) (0) exI (some (.int (mV (kk2 (zin u0 65536) (decide (z_nt S < 12))) (nI (z_nt S))))) (wM cI b (mS (kk2 (zin u0 65536) (decide (z_nt S < 12))) (sadT S (iN u0)) S) (kk2 (zin u0 65536) (decide (z_nt S < 12)))) 0 0 := by
  refine v_thrower (cc := cX2_addTest) (maxL := 2) (ret := (some .int)) (own := RX2) (lv0 := [(0, .ref (b 0)), (1, .int (u0))]) (by decide) rfl rfl (Nat.le_of_ble_eq_true rfl) rfl ?_
  intro p9 e9 s9 m9 as9 bl9 me9 cd9 A E hA htab hTx hr
  have hinX2 : ∀ w ∈ u_ws RX2 TX2 16, w ∈ wsX2_addTest := by decide +kernel
  obtain ⟨⟨k1, k2, k3, k4, k5, k6, k7, k8⟩, k9, k10, k11, k12, k13⟩ := id hok
  have hqn := zqn_le hok
  refine v_aload_n E dX2_addTest_0 0 rfl rfl ?_
  refine v_iload_n E dX2_addTest_1 1 rfl rfl ?_
  refine v_cSi' E dX2_addTest_2 (x_X2_areParts l D cI cZ cQ cJ ((u0))) (va_cwS 1 E.2.2.2.1 gX2_addTest_X2_areParts rfl rfl rfl (by decide +kernel) ⟨Nat.le_of_ble_eq_true rfl, Nat.le_of_ble_eq_true rfl⟩) (fun _ _ => v_nil _) rfl rfl ⟨Nat.le_of_ble_eq_true rfl, Nat.le_of_ble_eq_true rfl⟩ (Nat.le_of_ble_eq_true rfl) ?_
  refine v_aload_n E dX2_addTest_5 0 rfl rfl ?_
  refine v_get E dX2_addTest_6 0 1 hinX2 rfl rfl (by decide) (by decide +kernel) rfl rfl ?_
  refine v_bipush E dX2_addTest_9 (v := nI 12) rfl ?_
  refine n_icmp_ge E dX2_addTest_11 (by omega) (by omega) (tgt := 18) (by decide) (fun c11 => ?_) (fun c11 => ?_)
  · refine v_iconst E dX2_addTest_18 (v := nI 0) rfl ?_
    refine v_top (y := bI (decide (z_nt S < 12))) (by rw [decide_eq_false (show ¬ z_nt S < 12 by omega)]; rfl) ?_
    refine x_cVn E hA hTx dX2_addTest_19 (x_X2_goes l D cI cZ cQ cJ b S (th) hok (zin ((u0)) 65536) (decide (z_nt S < 12))) (cwV 2 E.2.2.2.1 gX2_addTest_X2_goes rfl rfl rfl (by decide +kernel) ⟨Nat.le_of_ble_eq_true rfl, Nat.le_of_ble_eq_true rfl⟩) 0 rfl rfl rfl rfl rfl ⟨Nat.le_of_ble_eq_true rfl, Nat.le_of_ble_eq_true rfl⟩ (Nat.le_of_ble_eq_true rfl) ?_
    refine b_if_ne E dX2_addTest_22 (tgt := 27) (by decide) (fun c22 => ?_) (fun c22 => ?_)
    · have hk0 : kk2 (zin u0 65536) (decide (z_nt S < 12)) = 0 := (by exact kk2_bt c22)
      refine v_w (w' := wM cI b S 0) (by rw [hk0]) ?_
      obtain ⟨h1, h2⟩ := kk2_0 hk0
      obtain ⟨j, hj, rfl⟩ := zin_of (by decide) h1
      try simp only [iN_nI (show j < 2 ^ 31 by omega)] at hk0 ⊢
      have h3 := of_decide_eq_true h2
      refine v_aload_n E dX2_addTest_27 0 rfl rfl ?_
      refine v_get E dX2_addTest_28 0 8 hinX2 rfl rfl (by decide) (by decide +kernel) rfl rfl ?_
      refine v_aload_n E dX2_addTest_31 0 rfl rfl ?_
      refine v_get E dX2_addTest_32 0 1 hinX2 rfl rfl (by decide) (by decide +kernel) rfl rfl ?_
      refine v_iload_n E dX2_addTest_35 1 rfl rfl ?_
      refine v_iast E dX2_addTest_36 3 0 rfl rfl (by omega) (by decide) (w' := (wM cI b (zs_D S (va_up (z_D S) (z_nt S) (j))) (0))) (wM_a_D _ _) ?_
      refine v_aload_n E dX2_addTest_37 0 rfl rfl ?_
      refine v_dup E dX2_addTest_38 rfl ?_
      refine v_get E dX2_addTest_39 0 1 hinX2 rfl rfl (by decide) (by decide +kernel) rfl rfl ?_
      refine v_iconst E dX2_addTest_42 (v := nI 1) rfl ?_
      refine v_iadd E dX2_addTest_43 (nI_add _ _) ?_
      refine v_top (y := nI (z_nt S + 1)) rfl ?_
      refine v_put E dX2_addTest_44 0 1 tyX2 tyX2_ok nmX2 hinX2 rfl rfl (by decide) (by decide +kernel) rfl rfl rfl rfl rfl (Nat.le_of_ble_eq_true rfl) (w' := (wM cI b (zs_nt (zs_D S (va_up (z_D S) (z_nt S) (j))) (z_nt S + 1)) (0))) (wM_f_nt _) ?_
      refine v_aload_n E dX2_addTest_47 0 rfl rfl ?_
      refine v_get E dX2_addTest_48 0 1 hinX2 rfl rfl (by decide) (by decide +kernel) rfl rfl ?_
      refine v_iconst E dX2_addTest_51 (v := nI 1) rfl ?_
      refine v_isub E dX2_addTest_52 (z := (nI (z_nt S + 1) - nI 1)) rfl ?_
      refine v_top (y := nI (z_nt S)) (n_p1 (by omega)) ?_
      exact y_ret E hr (by trivial) (by rw [mV_0 hk0]) (by rw [mS_0 hk0, hk0]; rfl) (by decide) (by decide) dX2_addTest_53
    · have hkn : kk2 (zin u0 65536) (decide (z_nt S < 12)) ≠ 0 := (by exact kk2_bf c22)
      refine v_iconst E dX2_addTest_25 (v := nI 0) rfl ?_
      exact y_ret E hr (by trivial) (by rw [mV_n hkn]) (by rw [mS_n hkn]) (by decide) (by decide) dX2_addTest_26
  · refine v_iconst E dX2_addTest_14 (v := nI 1) rfl ?_
    refine v_goto E dX2_addTest_15 (tgt := 19) (by decide) ?_
    refine v_top (y := bI (decide (z_nt S < 12))) (by rw [decide_eq_true (show z_nt S < 12 by omega)]; rfl) ?_
    refine x_cVn E hA hTx dX2_addTest_19 (x_X2_goes l D cI cZ cQ cJ b S (th) hok (zin ((u0)) 65536) (decide (z_nt S < 12))) (cwV 2 E.2.2.2.1 gX2_addTest_X2_goes rfl rfl rfl (by decide +kernel) ⟨Nat.le_of_ble_eq_true rfl, Nat.le_of_ble_eq_true rfl⟩) 0 rfl rfl rfl rfl rfl ⟨Nat.le_of_ble_eq_true rfl, Nat.le_of_ble_eq_true rfl⟩ (Nat.le_of_ble_eq_true rfl) ?_
    refine b_if_ne E dX2_addTest_22 (tgt := 27) (by decide) (fun c22 => ?_) (fun c22 => ?_)
    · have hk0 : kk2 (zin u0 65536) (decide (z_nt S < 12)) = 0 := (by exact kk2_bt c22)
      refine v_w (w' := wM cI b S 0) (by rw [hk0]) ?_
      obtain ⟨h1, h2⟩ := kk2_0 hk0
      obtain ⟨j, hj, rfl⟩ := zin_of (by decide) h1
      try simp only [iN_nI (show j < 2 ^ 31 by omega)] at hk0 ⊢
      have h3 := of_decide_eq_true h2
      refine v_aload_n E dX2_addTest_27 0 rfl rfl ?_
      refine v_get E dX2_addTest_28 0 8 hinX2 rfl rfl (by decide) (by decide +kernel) rfl rfl ?_
      refine v_aload_n E dX2_addTest_31 0 rfl rfl ?_
      refine v_get E dX2_addTest_32 0 1 hinX2 rfl rfl (by decide) (by decide +kernel) rfl rfl ?_
      refine v_iload_n E dX2_addTest_35 1 rfl rfl ?_
      refine v_iast E dX2_addTest_36 3 0 rfl rfl (by omega) (by decide) (w' := (wM cI b (zs_D S (va_up (z_D S) (z_nt S) (j))) (0))) (wM_a_D _ _) ?_
      refine v_aload_n E dX2_addTest_37 0 rfl rfl ?_
      refine v_dup E dX2_addTest_38 rfl ?_
      refine v_get E dX2_addTest_39 0 1 hinX2 rfl rfl (by decide) (by decide +kernel) rfl rfl ?_
      refine v_iconst E dX2_addTest_42 (v := nI 1) rfl ?_
      refine v_iadd E dX2_addTest_43 (nI_add _ _) ?_
      refine v_top (y := nI (z_nt S + 1)) rfl ?_
      refine v_put E dX2_addTest_44 0 1 tyX2 tyX2_ok nmX2 hinX2 rfl rfl (by decide) (by decide +kernel) rfl rfl rfl rfl rfl (Nat.le_of_ble_eq_true rfl) (w' := (wM cI b (zs_nt (zs_D S (va_up (z_D S) (z_nt S) (j))) (z_nt S + 1)) (0))) (wM_f_nt _) ?_
      refine v_aload_n E dX2_addTest_47 0 rfl rfl ?_
      refine v_get E dX2_addTest_48 0 1 hinX2 rfl rfl (by decide) (by decide +kernel) rfl rfl ?_
      refine v_iconst E dX2_addTest_51 (v := nI 1) rfl ?_
      refine v_isub E dX2_addTest_52 (z := (nI (z_nt S + 1) - nI 1)) rfl ?_
      refine v_top (y := nI (z_nt S)) (n_p1 (by omega)) ?_
      exact y_ret E hr (by trivial) (by rw [mV_0 hk0]) (by rw [mS_0 hk0, hk0]; rfl) (by decide) (by decide) dX2_addTest_53
    · have hkn : kk2 (zin u0 65536) (decide (z_nt S < 12)) ≠ 0 := (by exact kk2_bf c22)
      refine v_iconst E dX2_addTest_25 (v := nI 0) rfl ?_
      exact y_ret E hr (by trivial) (by rw [mV_n hkn]) (by rw [mS_n hkn]) (by decide) (by decide) dX2_addTest_26

set_option maxHeartbeats 4000000 in
set_option maxRecDepth 100000 in
theorem x_X2_setQuarantine (l : Launch) (D : va_G) (cI cZ cQ cJ : ClassId) (b : Nat → Nat) (S : zS) (th : Nat) (hok : zOK S)  (u0 u1 : Int32) : v_Thr l yX2_setQuarantine wsX2_setQuarantine { frames := 1, cells := 0, slots := 0, locals := 22 } D (wTy cI cZ cQ cJ) [.ref (b 0), .int (u0), .int (u1)] (wM cI b S th) (0) exI none (wM cI b (mS (kk1 (zin1 u0 11 && zin1 u1 41)) (zs_wi (zs_li S (iN u0)) (iN u1)) S) (kk1 (zin1 u0 11 && zin1 u1 41))) 0 0 := by
  refine v_thrower (cc := cX2_setQuarantine) (maxL := 3) (ret := none) (own := RX2) (lv0 := [(0, .ref (b 0)), (1, .int (u0)), (2, .int (u1))]) (by decide) rfl rfl (Nat.le_of_ble_eq_true rfl) rfl ?_
  intro p9 e9 s9 m9 as9 bl9 me9 cd9 A E hA htab hTx hr
  have hinX2 : ∀ w ∈ u_ws RX2 TX2 16, w ∈ wsX2_setQuarantine := by decide +kernel
  obtain ⟨⟨k1, k2, k3, k4, k5, k6, k7, k8⟩, k9, k10, k11, k12, k13⟩ := id hok
  have hqn := zqn_le hok
  refine v_aload_n E dX2_setQuarantine_0 0 rfl rfl ?_
  refine v_iload_n E dX2_setQuarantine_1 1 rfl rfl ?_
  refine v_iconst E dX2_setQuarantine_2 (v := nI 1) rfl ?_
  refine v_bipush E dX2_setQuarantine_3 (v := nI 10) rfl ?_
  refine v_cSi' E dX2_setQuarantine_5 (x_X2_in l D cI cZ cQ cJ ((u0)) (nI (1)) (nI (10))) (va_cwS 3 E.2.2.2.1 gX2_setQuarantine_X2_in rfl rfl rfl (by decide +kernel) ⟨Nat.le_of_ble_eq_true rfl, Nat.le_of_ble_eq_true rfl⟩) (fun _ _ => v_nil _) rfl rfl ⟨Nat.le_of_ble_eq_true rfl, Nat.le_of_ble_eq_true rfl⟩ (Nat.le_of_ble_eq_true rfl) ?_
  refine v_top (y := bI (zin1 u0 11)) (congrArg bI (zbt_1 u0 (n := 10) (by decide))) ?_
  refine b_if_eq E dX2_setQuarantine_8 (tgt := 25) (by decide) (fun c8 => ?_) (fun c8 => ?_)
  · refine v_iconst E dX2_setQuarantine_25 (v := nI 0) rfl ?_
    refine v_top (y := bI ((zin1 u0 11 && zin1 u1 41))) (by rw [c8]; rfl) ?_
    refine v_iconst E dX2_setQuarantine_26 (v := nI 1) rfl ?_
    refine v_top (y := bI (true)) rfl ?_
    refine x_cVn E hA hTx dX2_setQuarantine_27 (x_X2_goes l D cI cZ cQ cJ b S (th) hok ((zin1 u0 11 && zin1 u1 41)) (true)) (cwV 2 E.2.2.2.1 gX2_setQuarantine_X2_goes rfl rfl rfl (by decide +kernel) ⟨Nat.le_of_ble_eq_true rfl, Nat.le_of_ble_eq_true rfl⟩) 0 rfl rfl rfl rfl rfl ⟨Nat.le_of_ble_eq_true rfl, Nat.le_of_ble_eq_true rfl⟩ (Nat.le_of_ble_eq_true rfl) ?_
    refine v_w (w' := wM cI b S (kk1 (zin1 u0 11 && zin1 u1 41))) (by rw [kk2_tt]) ?_
    refine b_if_eq E dX2_setQuarantine_30 (tgt := 43) (by decide) (fun c30 => ?_) (fun c30 => ?_)
    · have hkn : kk1 (zin1 u0 11 && zin1 u1 41) ≠ 0 := (by rw [← kk2_tt]; exact kk2_bf c30)
      exact y_retv E hr (by trivial) rfl (by rw [mS_n hkn]) (by decide) (by decide) dX2_setQuarantine_43
    · have hk0 : kk1 (zin1 u0 11 && zin1 u1 41) = 0 := (by rw [← kk2_tt]; exact kk2_bt c30)
      refine v_w (w' := wM cI b S 0) (by rw [hk0]) ?_
      obtain ⟨h1, h2⟩ := and_tt (kk1_z hk0)
      obtain ⟨i, hi1, hi, rfl⟩ := zin1_of (by decide) h1
      try simp only [iN_nI (show i < 2 ^ 31 by omega)] at hk0 h2 ⊢
      obtain ⟨j, hj1, hj, rfl⟩ := zin1_of (by decide) h2
      try simp only [iN_nI (show j < 2 ^ 31 by omega)] at hk0 ⊢
      refine v_aload_n E dX2_setQuarantine_33 0 rfl rfl ?_
      refine v_iload_n E dX2_setQuarantine_34 1 rfl rfl ?_
      refine v_put E dX2_setQuarantine_35 0 2 tyX2 tyX2_ok nmX2 hinX2 rfl rfl (by decide) (by decide +kernel) rfl rfl rfl rfl rfl (Nat.le_of_ble_eq_true rfl) (w' := (wM cI b (zs_li S (i)) (0))) (wM_f_li _) ?_
      refine v_aload_n E dX2_setQuarantine_38 0 rfl rfl ?_
      refine v_iload_n E dX2_setQuarantine_39 2 rfl rfl ?_
      refine v_put E dX2_setQuarantine_40 0 3 tyX2 tyX2_ok nmX2 hinX2 rfl rfl (by decide) (by decide +kernel) rfl rfl rfl rfl rfl (Nat.le_of_ble_eq_true rfl) (w' := (wM cI b (zs_wi (zs_li S (i)) (j)) (0))) (wM_f_wi _) ?_
      exact y_retv E hr (by trivial) rfl (by rw [mS_0 hk0, hk0]) (by decide) (by decide) dX2_setQuarantine_43
  · refine v_iload_n E dX2_setQuarantine_11 2 rfl rfl ?_
    refine v_iconst E dX2_setQuarantine_12 (v := nI 1) rfl ?_
    refine v_bipush E dX2_setQuarantine_13 (v := nI 40) rfl ?_
    refine v_cSi' E dX2_setQuarantine_15 (x_X2_in l D cI cZ cQ cJ ((u1)) (nI (1)) (nI (40))) (va_cwS 3 E.2.2.2.1 gX2_setQuarantine_X2_in rfl rfl rfl (by decide +kernel) ⟨Nat.le_of_ble_eq_true rfl, Nat.le_of_ble_eq_true rfl⟩) (fun _ _ => v_nil _) rfl rfl ⟨Nat.le_of_ble_eq_true rfl, Nat.le_of_ble_eq_true rfl⟩ (Nat.le_of_ble_eq_true rfl) ?_
    refine v_top (y := bI (zin1 u1 41)) (congrArg bI (zbt_1 u1 (n := 40) (by decide))) ?_
    refine b_if_eq E dX2_setQuarantine_18 (tgt := 25) (by decide) (fun c18 => ?_) (fun c18 => ?_)
    · refine v_iconst E dX2_setQuarantine_25 (v := nI 0) rfl ?_
      refine v_top (y := bI ((zin1 u0 11 && zin1 u1 41))) (by rw [c18, Bool.and_false]; rfl) ?_
      refine v_iconst E dX2_setQuarantine_26 (v := nI 1) rfl ?_
      refine v_top (y := bI (true)) rfl ?_
      refine x_cVn E hA hTx dX2_setQuarantine_27 (x_X2_goes l D cI cZ cQ cJ b S (th) hok ((zin1 u0 11 && zin1 u1 41)) (true)) (cwV 2 E.2.2.2.1 gX2_setQuarantine_X2_goes rfl rfl rfl (by decide +kernel) ⟨Nat.le_of_ble_eq_true rfl, Nat.le_of_ble_eq_true rfl⟩) 0 rfl rfl rfl rfl rfl ⟨Nat.le_of_ble_eq_true rfl, Nat.le_of_ble_eq_true rfl⟩ (Nat.le_of_ble_eq_true rfl) ?_
      refine v_w (w' := wM cI b S (kk1 (zin1 u0 11 && zin1 u1 41))) (by rw [kk2_tt]) ?_
      refine b_if_eq E dX2_setQuarantine_30 (tgt := 43) (by decide) (fun c30 => ?_) (fun c30 => ?_)
      · have hkn : kk1 (zin1 u0 11 && zin1 u1 41) ≠ 0 := (by rw [← kk2_tt]; exact kk2_bf c30)
        exact y_retv E hr (by trivial) rfl (by rw [mS_n hkn]) (by decide) (by decide) dX2_setQuarantine_43
      · have hk0 : kk1 (zin1 u0 11 && zin1 u1 41) = 0 := (by rw [← kk2_tt]; exact kk2_bt c30)
        refine v_w (w' := wM cI b S 0) (by rw [hk0]) ?_
        obtain ⟨h1, h2⟩ := and_tt (kk1_z hk0)
        obtain ⟨i, hi1, hi, rfl⟩ := zin1_of (by decide) h1
        try simp only [iN_nI (show i < 2 ^ 31 by omega)] at hk0 h2 ⊢
        obtain ⟨j, hj1, hj, rfl⟩ := zin1_of (by decide) h2
        try simp only [iN_nI (show j < 2 ^ 31 by omega)] at hk0 ⊢
        refine v_aload_n E dX2_setQuarantine_33 0 rfl rfl ?_
        refine v_iload_n E dX2_setQuarantine_34 1 rfl rfl ?_
        refine v_put E dX2_setQuarantine_35 0 2 tyX2 tyX2_ok nmX2 hinX2 rfl rfl (by decide) (by decide +kernel) rfl rfl rfl rfl rfl (Nat.le_of_ble_eq_true rfl) (w' := (wM cI b (zs_li S (i)) (0))) (wM_f_li _) ?_
        refine v_aload_n E dX2_setQuarantine_38 0 rfl rfl ?_
        refine v_iload_n E dX2_setQuarantine_39 2 rfl rfl ?_
        refine v_put E dX2_setQuarantine_40 0 3 tyX2 tyX2_ok nmX2 hinX2 rfl rfl (by decide) (by decide +kernel) rfl rfl rfl rfl rfl (Nat.le_of_ble_eq_true rfl) (w' := (wM cI b (zs_wi (zs_li S (i)) (j)) (0))) (wM_f_wi _) ?_
        exact y_retv E hr (by trivial) rfl (by rw [mS_0 hk0, hk0]) (by decide) (by decide) dX2_setQuarantine_43
    · refine v_iconst E dX2_setQuarantine_21 (v := nI 1) rfl ?_
      refine v_goto E dX2_setQuarantine_22 (tgt := 26) (by decide) ?_
      refine v_top (y := bI ((zin1 u0 11 && zin1 u1 41))) (by rw [c8, c18]; rfl) ?_
      refine v_iconst E dX2_setQuarantine_26 (v := nI 1) rfl ?_
      refine v_top (y := bI (true)) rfl ?_
      refine x_cVn E hA hTx dX2_setQuarantine_27 (x_X2_goes l D cI cZ cQ cJ b S (th) hok ((zin1 u0 11 && zin1 u1 41)) (true)) (cwV 2 E.2.2.2.1 gX2_setQuarantine_X2_goes rfl rfl rfl (by decide +kernel) ⟨Nat.le_of_ble_eq_true rfl, Nat.le_of_ble_eq_true rfl⟩) 0 rfl rfl rfl rfl rfl ⟨Nat.le_of_ble_eq_true rfl, Nat.le_of_ble_eq_true rfl⟩ (Nat.le_of_ble_eq_true rfl) ?_
      refine v_w (w' := wM cI b S (kk1 (zin1 u0 11 && zin1 u1 41))) (by rw [kk2_tt]) ?_
      refine b_if_eq E dX2_setQuarantine_30 (tgt := 43) (by decide) (fun c30 => ?_) (fun c30 => ?_)
      · have hkn : kk1 (zin1 u0 11 && zin1 u1 41) ≠ 0 := (by rw [← kk2_tt]; exact kk2_bf c30)
        exact y_retv E hr (by trivial) rfl (by rw [mS_n hkn]) (by decide) (by decide) dX2_setQuarantine_43
      · have hk0 : kk1 (zin1 u0 11 && zin1 u1 41) = 0 := (by rw [← kk2_tt]; exact kk2_bt c30)
        refine v_w (w' := wM cI b S 0) (by rw [hk0]) ?_
        obtain ⟨h1, h2⟩ := and_tt (kk1_z hk0)
        obtain ⟨i, hi1, hi, rfl⟩ := zin1_of (by decide) h1
        try simp only [iN_nI (show i < 2 ^ 31 by omega)] at hk0 h2 ⊢
        obtain ⟨j, hj1, hj, rfl⟩ := zin1_of (by decide) h2
        try simp only [iN_nI (show j < 2 ^ 31 by omega)] at hk0 ⊢
        refine v_aload_n E dX2_setQuarantine_33 0 rfl rfl ?_
        refine v_iload_n E dX2_setQuarantine_34 1 rfl rfl ?_
        refine v_put E dX2_setQuarantine_35 0 2 tyX2 tyX2_ok nmX2 hinX2 rfl rfl (by decide) (by decide +kernel) rfl rfl rfl rfl rfl (Nat.le_of_ble_eq_true rfl) (w' := (wM cI b (zs_li S (i)) (0))) (wM_f_li _) ?_
        refine v_aload_n E dX2_setQuarantine_38 0 rfl rfl ?_
        refine v_iload_n E dX2_setQuarantine_39 2 rfl rfl ?_
        refine v_put E dX2_setQuarantine_40 0 3 tyX2 tyX2_ok nmX2 hinX2 rfl rfl (by decide) (by decide +kernel) rfl rfl rfl rfl rfl (Nat.le_of_ble_eq_true rfl) (w' := (wM cI b (zs_wi (zs_li S (i)) (j)) (0))) (wM_f_wi _) ?_
        exact y_retv E hr (by trivial) rfl (by rw [mS_0 hk0, hk0]) (by decide) (by decide) dX2_setQuarantine_43

set_option maxHeartbeats 4000000 in
set_option maxRecDepth 100000 in
theorem x_X2_setNoise (l : Launch) (D : va_G) (cI cZ cQ cJ : ClassId) (b : Nat → Nat) (S : zS) (th : Nat) (hok : zOK S)  (u0 : Int32) : v_Thr l yX2_setNoise wsX2_setNoise { frames := 1, cells := 0, slots := 0, locals := 22 } D (wTy cI cZ cQ cJ) [.ref (b 0), .int (u0)] (wM cI b S th) (0) exI (some (.int (mV (kk1 (zin u0 21)) (nI (z_no S))))) (wM cI b (mS (kk1 (zin u0 21)) (zs_no S (iN u0)) S) (kk1 (zin u0 21))) 0 0 := by
  refine v_thrower (cc := cX2_setNoise) (maxL := 3) (ret := (some .int)) (own := RX2) (lv0 := [(0, .ref (b 0)), (1, .int (u0))]) (by decide) rfl rfl (Nat.le_of_ble_eq_true rfl) rfl ?_
  intro p9 e9 s9 m9 as9 bl9 me9 cd9 A E hA htab hTx hr
  have hinX2 : ∀ w ∈ u_ws RX2 TX2 16, w ∈ wsX2_setNoise := by decide +kernel
  obtain ⟨⟨k1, k2, k3, k4, k5, k6, k7, k8⟩, k9, k10, k11, k12, k13⟩ := id hok
  have hqn := zqn_le hok
  refine v_aload_n E dX2_setNoise_0 0 rfl rfl ?_
  refine v_iload_n E dX2_setNoise_1 1 rfl rfl ?_
  refine v_iconst E dX2_setNoise_2 (v := nI 0) rfl ?_
  refine v_bipush E dX2_setNoise_3 (v := nI 20) rfl ?_
  refine v_cSi' E dX2_setNoise_5 (x_X2_in l D cI cZ cQ cJ ((u0)) (nI (0)) (nI (20))) (va_cwS 3 E.2.2.2.1 gX2_setNoise_X2_in rfl rfl rfl (by decide +kernel) ⟨Nat.le_of_ble_eq_true rfl, Nat.le_of_ble_eq_true rfl⟩) (fun _ _ => v_nil _) rfl rfl ⟨Nat.le_of_ble_eq_true rfl, Nat.le_of_ble_eq_true rfl⟩ (Nat.le_of_ble_eq_true rfl) ?_
  refine v_top (y := bI (zin u0 21)) (congrArg bI (zbt_z u0 (n := 20) (by decide))) ?_
  refine v_iconst E dX2_setNoise_8 (v := nI 1) rfl ?_
  refine v_top (y := bI (true)) rfl ?_
  refine x_cVn E hA hTx dX2_setNoise_9 (x_X2_goes l D cI cZ cQ cJ b S (th) hok (zin u0 21) (true)) (cwV 2 E.2.2.2.1 gX2_setNoise_X2_goes rfl rfl rfl (by decide +kernel) ⟨Nat.le_of_ble_eq_true rfl, Nat.le_of_ble_eq_true rfl⟩) 0 rfl rfl rfl rfl rfl ⟨Nat.le_of_ble_eq_true rfl, Nat.le_of_ble_eq_true rfl⟩ (Nat.le_of_ble_eq_true rfl) ?_
  refine v_w (w' := wM cI b S (kk1 (zin u0 21))) (by rw [kk2_tt]) ?_
  refine b_if_ne E dX2_setNoise_12 (tgt := 17) (by decide) (fun c12 => ?_) (fun c12 => ?_)
  · have hk0 : kk1 (zin u0 21) = 0 := (by rw [← kk2_tt]; exact kk2_bt c12)
    refine v_w (w' := wM cI b S 0) (by rw [hk0]) ?_
    have h2 := kk1_z hk0
    obtain ⟨i, hi, rfl⟩ := zin_of (by decide) h2
    try simp only [iN_nI (show i < 2 ^ 31 by omega)] at hk0 ⊢
    refine v_aload_n E dX2_setNoise_17 0 rfl rfl ?_
    refine v_get E dX2_setNoise_18 0 4 hinX2 rfl rfl (by decide) (by decide +kernel) rfl rfl ?_
    refine v_istore_n E dX2_setNoise_21 rfl (by decide) rfl ?_
    refine v_aload_n E dX2_setNoise_22 1 rfl rfl ?_
    refine v_iload_n E dX2_setNoise_23 2 rfl rfl ?_
    refine v_put E dX2_setNoise_24 0 4 tyX2 tyX2_ok nmX2 hinX2 rfl rfl (by decide) (by decide +kernel) rfl rfl rfl rfl rfl (Nat.le_of_ble_eq_true rfl) (w' := (wM cI b (zs_no S (i)) (0))) (wM_f_no _) ?_
    refine v_iload_n E dX2_setNoise_27 0 rfl rfl ?_
    exact y_ret E hr (by trivial) (by rw [mV_0 hk0]) (by rw [mS_0 hk0, hk0]) (by decide) (by decide) dX2_setNoise_28
  · have hkn : kk1 (zin u0 21) ≠ 0 := (by rw [← kk2_tt]; exact kk2_bf c12)
    refine v_iconst E dX2_setNoise_15 (v := nI 0) rfl ?_
    exact y_ret E hr (by trivial) (by rw [mV_n hkn]) (by rw [mS_n hkn]) (by decide) (by decide) dX2_setNoise_16

set_option maxHeartbeats 4000000 in
set_option maxRecDepth 100000 in
theorem x_X2_newDay (l : Launch) (D : va_G) (cI cZ cQ cJ : ClassId) (b : Nat → Nat) (S : zS) (th : Nat) (hok : zOK S)  (u0 : Int32) : v_Thr l yX2_newDay wsX2_newDay { frames := 1, cells := 0, slots := 0, locals := 22 } D (wTy cI cZ cQ cJ) [.ref (b 0), .int (u0)] (wM cI b S th) (0) exI (some (.int (mV (kk1 (zin u0 101)) (nI (z_bu S))))) (wM cI b (mS (kk1 (zin u0 101)) (zs_bu S (iN u0)) S) (kk1 (zin u0 101))) 0 0 := by
  refine v_thrower (cc := cX2_newDay) (maxL := 3) (ret := (some .int)) (own := RX2) (lv0 := [(0, .ref (b 0)), (1, .int (u0))]) (by decide) rfl rfl (Nat.le_of_ble_eq_true rfl) rfl ?_
  intro p9 e9 s9 m9 as9 bl9 me9 cd9 A E hA htab hTx hr
  have hinX2 : ∀ w ∈ u_ws RX2 TX2 16, w ∈ wsX2_newDay := by decide +kernel
  obtain ⟨⟨k1, k2, k3, k4, k5, k6, k7, k8⟩, k9, k10, k11, k12, k13⟩ := id hok
  have hqn := zqn_le hok
  refine v_aload_n E dX2_newDay_0 0 rfl rfl ?_
  refine v_iload_n E dX2_newDay_1 1 rfl rfl ?_
  refine v_iconst E dX2_newDay_2 (v := nI 0) rfl ?_
  refine v_bipush E dX2_newDay_3 (v := nI 100) rfl ?_
  refine v_cSi' E dX2_newDay_5 (x_X2_in l D cI cZ cQ cJ ((u0)) (nI (0)) (nI (100))) (va_cwS 3 E.2.2.2.1 gX2_newDay_X2_in rfl rfl rfl (by decide +kernel) ⟨Nat.le_of_ble_eq_true rfl, Nat.le_of_ble_eq_true rfl⟩) (fun _ _ => v_nil _) rfl rfl ⟨Nat.le_of_ble_eq_true rfl, Nat.le_of_ble_eq_true rfl⟩ (Nat.le_of_ble_eq_true rfl) ?_
  refine v_top (y := bI (zin u0 101)) (congrArg bI (zbt_z u0 (n := 100) (by decide))) ?_
  refine v_iconst E dX2_newDay_8 (v := nI 1) rfl ?_
  refine v_top (y := bI (true)) rfl ?_
  refine x_cVn E hA hTx dX2_newDay_9 (x_X2_goes l D cI cZ cQ cJ b S (th) hok (zin u0 101) (true)) (cwV 2 E.2.2.2.1 gX2_newDay_X2_goes rfl rfl rfl (by decide +kernel) ⟨Nat.le_of_ble_eq_true rfl, Nat.le_of_ble_eq_true rfl⟩) 0 rfl rfl rfl rfl rfl ⟨Nat.le_of_ble_eq_true rfl, Nat.le_of_ble_eq_true rfl⟩ (Nat.le_of_ble_eq_true rfl) ?_
  refine v_w (w' := wM cI b S (kk1 (zin u0 101))) (by rw [kk2_tt]) ?_
  refine b_if_ne E dX2_newDay_12 (tgt := 17) (by decide) (fun c12 => ?_) (fun c12 => ?_)
  · have hk0 : kk1 (zin u0 101) = 0 := (by rw [← kk2_tt]; exact kk2_bt c12)
    refine v_w (w' := wM cI b S 0) (by rw [hk0]) ?_
    have h2 := kk1_z hk0
    obtain ⟨i, hi, rfl⟩ := zin_of (by decide) h2
    try simp only [iN_nI (show i < 2 ^ 31 by omega)] at hk0 ⊢
    refine v_aload_n E dX2_newDay_17 0 rfl rfl ?_
    refine v_get E dX2_newDay_18 0 5 hinX2 rfl rfl (by decide) (by decide +kernel) rfl rfl ?_
    refine v_istore_n E dX2_newDay_21 rfl (by decide) rfl ?_
    refine v_aload_n E dX2_newDay_22 1 rfl rfl ?_
    refine v_iload_n E dX2_newDay_23 2 rfl rfl ?_
    refine v_put E dX2_newDay_24 0 5 tyX2 tyX2_ok nmX2 hinX2 rfl rfl (by decide) (by decide +kernel) rfl rfl rfl rfl rfl (Nat.le_of_ble_eq_true rfl) (w' := (wM cI b (zs_bu S (i)) (0))) (wM_f_bu _) ?_
    refine v_iload_n E dX2_newDay_27 0 rfl rfl ?_
    exact y_ret E hr (by trivial) (by rw [mV_0 hk0]) (by rw [mS_0 hk0, hk0]) (by decide) (by decide) dX2_newDay_28
  · have hkn : kk1 (zin u0 101) ≠ 0 := (by rw [← kk2_tt]; exact kk2_bf c12)
    refine v_iconst E dX2_newDay_15 (v := nI 0) rfl ?_
    exact y_ret E hr (by trivial) (by rw [mV_n hkn]) (by rw [mS_n hkn]) (by decide) (by decide) dX2_newDay_16

set_option maxHeartbeats 4000000 in
set_option maxRecDepth 100000 in
theorem x_X2_record (l : Launch) (D : va_G) (cI cZ cQ cJ : ClassId) (b : Nat → Nat) (S : zS) (th : Nat) (hok : zOK S)  (u0 u1 : Int32) (pp : Bool) : v_Thr l yX2_record wsX2_record { frames := 2, cells := 0, slots := 0, locals := 45 } D (wTy cI cZ cQ cJ) [.ref (b 0), .int (u0), .int (u1), .int (bI (pp))] (wM cI b S th) (0) exI (some (.int (mV (kk2 (zin u0 (z_nt S) && zin u1 (z_nc S)) (decide (z_R S (iN u0) < 200))) (nI (vd (z_P (srec S (iN u0) (iN u1) pp) (iN u0) (iN u1)) (z_F (srec S (iN u0) (iN u1) pp) (iN u0) (iN u1))))))) (wM cI b (mS (kk2 (zin u0 (z_nt S) && zin u1 (z_nc S)) (decide (z_R S (iN u0) < 200))) (srec S (iN u0) (iN u1) pp) S) (kk2 (zin u0 (z_nt S) && zin u1 (z_nc S)) (decide (z_R S (iN u0) < 200)))) 0 0 := by
  refine v_thrower (cc := cX2_record) (maxL := 5) (ret := (some .int)) (own := RX2) (lv0 := [(0, .ref (b 0)), (1, .int (u0)), (2, .int (u1)), (3, .int (bI (pp)))]) (by decide) rfl rfl (Nat.le_of_ble_eq_true rfl) rfl ?_
  intro p9 e9 s9 m9 as9 bl9 me9 cd9 A E hA htab hTx hr
  have hinX2 : ∀ w ∈ u_ws RX2 TX2 16, w ∈ wsX2_record := by decide +kernel
  obtain ⟨⟨k1, k2, k3, k4, k5, k6, k7, k8⟩, k9, k10, k11, k12, k13⟩ := id hok
  have hqn := zqn_le hok
  refine v_aload_n E dX2_record_0 0 rfl rfl ?_
  refine v_iload_n E dX2_record_1 1 rfl rfl ?_
  refine v_cVi' E dX2_record_2 (x_X2_isTest l D cI cZ cQ cJ b S (th) hok ((u0))) (cwV 1 E.2.2.2.1 gX2_record_X2_isTest rfl rfl rfl (by decide +kernel) ⟨Nat.le_of_ble_eq_true rfl, Nat.le_of_ble_eq_true rfl⟩) 0 rfl rfl rfl (fun _ h => h) rfl rfl ⟨Nat.le_of_ble_eq_true rfl, Nat.le_of_ble_eq_true rfl⟩ (Nat.le_of_ble_eq_true rfl) ?_
  refine b_if_eq E dX2_record_5 (tgt := 20) (by decide) (fun c5 => ?_) (fun c5 => ?_)
  · refine v_iconst E dX2_record_20 (v := nI 0) rfl ?_
    refine v_top (y := bI ((zin u0 (z_nt S) && zin u1 (z_nc S)))) (by rw [c5]; rfl) ?_
    refine v_istore E dX2_record_21 (by decide) rfl ?_
    refine v_aload_n E dX2_record_23 1 rfl rfl ?_
    refine v_iload E dX2_record_24 0 rfl ?_
    refine v_iload E dX2_record_26 0 rfl ?_
    refine b_if_eq E dX2_record_28 (tgt := 46) (by decide) (fun c28 => ?_) (fun c28 => ?_)
    · refine v_iconst E dX2_record_46 (v := nI 0) rfl ?_
      refine v_top (y := bI ((zin u0 (z_nt S) && zin u1 (z_nc S)) && decide (z_R S (iN u0) < 200))) (by rw [c28]; rfl) ?_
      refine x_cVn E hA hTx dX2_record_47 (x_X2_goes l D cI cZ cQ cJ b S (th) hok ((zin u0 (z_nt S) && zin u1 (z_nc S))) ((zin u0 (z_nt S) && zin u1 (z_nc S)) && decide (z_R S (iN u0) < 200))) (cwV 2 E.2.2.2.1 gX2_record_X2_goes rfl rfl rfl (by decide +kernel) ⟨Nat.le_of_ble_eq_true rfl, Nat.le_of_ble_eq_true rfl⟩) 0 rfl rfl rfl rfl rfl ⟨Nat.le_of_ble_eq_true rfl, Nat.le_of_ble_eq_true rfl⟩ (Nat.le_of_ble_eq_true rfl) ?_
      refine v_w (w' := wM cI b S (kk2 (zin u0 (z_nt S) && zin u1 (z_nc S)) (decide (z_R S (iN u0) < 200)))) (by rw [kk2_and]) ?_
      refine b_if_ne E dX2_record_50 (tgt := 55) (by decide) (fun c50 => ?_) (fun c50 => ?_)
      · exact absurd (and_tt c50).1 (by rw [c28]; decide)
      · have hkn : kk2 (zin u0 (z_nt S) && zin u1 (z_nc S)) (decide (z_R S (iN u0) < 200)) ≠ 0 := (by rw [← kk2_and]; exact kk2_bf c50)
        refine v_iconst E dX2_record_53 (v := nI 0) rfl ?_
        exact y_ret E hr (by trivial) (by rw [mV_n hkn]) (by rw [mS_n hkn]) (by decide) (by decide) dX2_record_54
    · exact absurd c28 (by rw [c5, Bool.false_and]; decide)
  · refine v_aload_n E dX2_record_8 0 rfl rfl ?_
    refine v_iload_n E dX2_record_9 2 rfl rfl ?_
    refine v_cVi' E dX2_record_10 (x_X2_isCommit l D cI cZ cQ cJ b S (th) hok ((u1))) (cwV 1 E.2.2.2.1 gX2_record_X2_isCommit rfl rfl rfl (by decide +kernel) ⟨Nat.le_of_ble_eq_true rfl, Nat.le_of_ble_eq_true rfl⟩) 0 rfl rfl rfl (fun _ h => h) rfl rfl ⟨Nat.le_of_ble_eq_true rfl, Nat.le_of_ble_eq_true rfl⟩ (Nat.le_of_ble_eq_true rfl) ?_
    refine b_if_eq E dX2_record_13 (tgt := 20) (by decide) (fun c13 => ?_) (fun c13 => ?_)
    · refine v_iconst E dX2_record_20 (v := nI 0) rfl ?_
      refine v_top (y := bI ((zin u0 (z_nt S) && zin u1 (z_nc S)))) (by rw [c13, Bool.and_false]; rfl) ?_
      refine v_istore E dX2_record_21 (by decide) rfl ?_
      refine v_aload_n E dX2_record_23 1 rfl rfl ?_
      refine v_iload E dX2_record_24 0 rfl ?_
      refine v_iload E dX2_record_26 0 rfl ?_
      refine b_if_eq E dX2_record_28 (tgt := 46) (by decide) (fun c28 => ?_) (fun c28 => ?_)
      · refine v_iconst E dX2_record_46 (v := nI 0) rfl ?_
        refine v_top (y := bI ((zin u0 (z_nt S) && zin u1 (z_nc S)) && decide (z_R S (iN u0) < 200))) (by rw [c28]; rfl) ?_
        refine x_cVn E hA hTx dX2_record_47 (x_X2_goes l D cI cZ cQ cJ b S (th) hok ((zin u0 (z_nt S) && zin u1 (z_nc S))) ((zin u0 (z_nt S) && zin u1 (z_nc S)) && decide (z_R S (iN u0) < 200))) (cwV 2 E.2.2.2.1 gX2_record_X2_goes rfl rfl rfl (by decide +kernel) ⟨Nat.le_of_ble_eq_true rfl, Nat.le_of_ble_eq_true rfl⟩) 0 rfl rfl rfl rfl rfl ⟨Nat.le_of_ble_eq_true rfl, Nat.le_of_ble_eq_true rfl⟩ (Nat.le_of_ble_eq_true rfl) ?_
        refine v_w (w' := wM cI b S (kk2 (zin u0 (z_nt S) && zin u1 (z_nc S)) (decide (z_R S (iN u0) < 200)))) (by rw [kk2_and]) ?_
        refine b_if_ne E dX2_record_50 (tgt := 55) (by decide) (fun c50 => ?_) (fun c50 => ?_)
        · exact absurd (and_tt c50).1 (by rw [c28]; decide)
        · have hkn : kk2 (zin u0 (z_nt S) && zin u1 (z_nc S)) (decide (z_R S (iN u0) < 200)) ≠ 0 := (by rw [← kk2_and]; exact kk2_bf c50)
          refine v_iconst E dX2_record_53 (v := nI 0) rfl ?_
          exact y_ret E hr (by trivial) (by rw [mV_n hkn]) (by rw [mS_n hkn]) (by decide) (by decide) dX2_record_54
      · exact absurd c28 (by rw [c13, Bool.and_false]; decide)
    · refine v_iconst E dX2_record_16 (v := nI 1) rfl ?_
      refine v_goto E dX2_record_17 (tgt := 21) (by decide) ?_
      refine v_top (y := bI ((zin u0 (z_nt S) && zin u1 (z_nc S)))) (by rw [c5, c13]; rfl) ?_
      refine v_istore E dX2_record_21 (by decide) rfl ?_
      refine v_aload_n E dX2_record_23 1 rfl rfl ?_
      refine v_iload E dX2_record_24 0 rfl ?_
      refine v_iload E dX2_record_26 0 rfl ?_
      refine b_if_eq E dX2_record_28 (tgt := 46) (by decide) (fun c28 => ?_) (fun c28 => ?_)
      · refine v_iconst E dX2_record_46 (v := nI 0) rfl ?_
        refine v_top (y := bI ((zin u0 (z_nt S) && zin u1 (z_nc S)) && decide (z_R S (iN u0) < 200))) (by rw [c28]; rfl) ?_
        refine x_cVn E hA hTx dX2_record_47 (x_X2_goes l D cI cZ cQ cJ b S (th) hok ((zin u0 (z_nt S) && zin u1 (z_nc S))) ((zin u0 (z_nt S) && zin u1 (z_nc S)) && decide (z_R S (iN u0) < 200))) (cwV 2 E.2.2.2.1 gX2_record_X2_goes rfl rfl rfl (by decide +kernel) ⟨Nat.le_of_ble_eq_true rfl, Nat.le_of_ble_eq_true rfl⟩) 0 rfl rfl rfl rfl rfl ⟨Nat.le_of_ble_eq_true rfl, Nat.le_of_ble_eq_true rfl⟩ (Nat.le_of_ble_eq_true rfl) ?_
        refine v_w (w' := wM cI b S (kk2 (zin u0 (z_nt S) && zin u1 (z_nc S)) (decide (z_R S (iN u0) < 200)))) (by rw [kk2_and]) ?_
        refine b_if_ne E dX2_record_50 (tgt := 55) (by decide) (fun c50 => ?_) (fun c50 => ?_)
        · exact absurd (and_tt c50).1 (by rw [c28]; decide)
        · have hkn : kk2 (zin u0 (z_nt S) && zin u1 (z_nc S)) (decide (z_R S (iN u0) < 200)) ≠ 0 := (by rw [← kk2_and]; exact kk2_bf c50)
          refine v_iconst E dX2_record_53 (v := nI 0) rfl ?_
          exact y_ret E hr (by trivial) (by rw [mV_n hkn]) (by rw [mS_n hkn]) (by decide) (by decide) dX2_record_54
      · obtain ⟨g1, g2⟩ := and_tt c28
        obtain ⟨t, ht, rfl⟩ := zin_of (by omega) g1
        try simp only [iN_nI (show t < 2 ^ 31 by omega)]
        have hRt := (k12 t).1
        refine v_aload_n E dX2_record_31 1 rfl rfl ?_
        refine v_iload_n E dX2_record_32 2 rfl rfl ?_
        refine v_cVi' E dX2_record_33 (x_X2_allRuns l D cI cZ cQ cJ b S (th) hok (t) (by omega)) (cwV 1 E.2.2.2.1 gX2_record_X2_allRuns rfl rfl rfl (by decide +kernel) ⟨Nat.le_of_ble_eq_true rfl, Nat.le_of_ble_eq_true rfl⟩) 0 rfl rfl rfl (fun _ h => h) rfl rfl ⟨Nat.le_of_ble_eq_true rfl, Nat.le_of_ble_eq_true rfl⟩ (Nat.le_of_ble_eq_true rfl) ?_
        refine v_sipush E dX2_record_36 (v := nI 200) rfl ?_
        refine n_icmp_ge E dX2_record_39 (by omega) (by omega) (tgt := 46) (by decide) (fun c39 => ?_) (fun c39 => ?_)
        · refine v_iconst E dX2_record_46 (v := nI 0) rfl ?_
          refine v_top (y := bI ((zin (nI (t)) (z_nt S) && zin u1 (z_nc S)) && decide (z_R S (t) < 200))) (by rw [decide_eq_false (show ¬ z_R S t < 200 by omega), Bool.and_false]; rfl) ?_
          refine x_cVn E hA hTx dX2_record_47 (x_X2_goes l D cI cZ cQ cJ b S (th) hok ((zin (nI (t)) (z_nt S) && zin u1 (z_nc S))) ((zin (nI (t)) (z_nt S) && zin u1 (z_nc S)) && decide (z_R S (t) < 200))) (cwV 2 E.2.2.2.1 gX2_record_X2_goes rfl rfl rfl (by decide +kernel) ⟨Nat.le_of_ble_eq_true rfl, Nat.le_of_ble_eq_true rfl⟩) 0 rfl rfl rfl rfl rfl ⟨Nat.le_of_ble_eq_true rfl, Nat.le_of_ble_eq_true rfl⟩ (Nat.le_of_ble_eq_true rfl) ?_
          refine v_w (w' := wM cI b S (kk2 (zin (nI (t)) (z_nt S) && zin u1 (z_nc S)) (decide (z_R S (t) < 200)))) (by rw [kk2_and]) ?_
          refine b_if_ne E dX2_record_50 (tgt := 55) (by decide) (fun c50 => ?_) (fun c50 => ?_)
          · exact absurd (of_decide_eq_true (and_tt (and_tt c50).2).2) (by omega)
          · have hkn : kk2 (zin (nI (t)) (z_nt S) && zin u1 (z_nc S)) (decide (z_R S (t) < 200)) ≠ 0 := (by rw [← kk2_and]; exact kk2_bf c50)
            refine v_iconst E dX2_record_53 (v := nI 0) rfl ?_
            exact y_ret E hr (by trivial) (by rw [mV_n hkn]) (by rw [mS_n hkn]) (by decide) (by decide) dX2_record_54
        · refine v_iconst E dX2_record_42 (v := nI 1) rfl ?_
          refine v_goto E dX2_record_43 (tgt := 47) (by decide) ?_
          refine v_top (y := bI ((zin (nI (t)) (z_nt S) && zin u1 (z_nc S)) && decide (z_R S (t) < 200))) (by rw [c28, decide_eq_true (show z_R S t < 200 by omega)]; rfl) ?_
          refine x_cVn E hA hTx dX2_record_47 (x_X2_goes l D cI cZ cQ cJ b S (th) hok ((zin (nI (t)) (z_nt S) && zin u1 (z_nc S))) ((zin (nI (t)) (z_nt S) && zin u1 (z_nc S)) && decide (z_R S (t) < 200))) (cwV 2 E.2.2.2.1 gX2_record_X2_goes rfl rfl rfl (by decide +kernel) ⟨Nat.le_of_ble_eq_true rfl, Nat.le_of_ble_eq_true rfl⟩) 0 rfl rfl rfl rfl rfl ⟨Nat.le_of_ble_eq_true rfl, Nat.le_of_ble_eq_true rfl⟩ (Nat.le_of_ble_eq_true rfl) ?_
          refine v_w (w' := wM cI b S (kk2 (zin (nI (t)) (z_nt S) && zin u1 (z_nc S)) (decide (z_R S (t) < 200)))) (by rw [kk2_and]) ?_
          refine b_if_ne E dX2_record_50 (tgt := 55) (by decide) (fun c50 => ?_) (fun c50 => ?_)
          · have hk0 : kk2 (zin (nI (t)) (z_nt S) && zin u1 (z_nc S)) (decide (z_R S (t) < 200)) = 0 := (by rw [← kk2_and]; exact kk2_bt c50)
            refine v_w (w' := wM cI b S 0) (by rw [hk0]) ?_
            obtain ⟨h1, h2⟩ := kk2_0 hk0
            obtain ⟨h3, h4⟩ := and_tt h1
            obtain ⟨c, hc, rfl⟩ := zin_of (by omega) h4
            try simp only [iN_nI (show c < 2 ^ 31 by omega)] at hk0 h2 ⊢
            have h5 := of_decide_eq_true h2
            have hPt := zP_le hok t c
            have hFt := zF_le hok t c
            refine v_aload_n E dX2_record_55 1 rfl rfl ?_
            refine v_get E dX2_record_56 0 9 hinX2 rfl rfl (by decide) (by decide +kernel) rfl rfl ?_
            refine v_bipush E dX2_record_59 (v := nI 40) rfl ?_
            refine v_iload_n E dX2_record_61 2 rfl rfl ?_
            refine v_imul E dX2_record_62 (pk_mul _ _) ?_
            refine v_iload_n E dX2_record_63 3 rfl rfl ?_
            refine v_iadd E dX2_record_64 (nI_add _ _) ?_
            refine v_dup2 E dX2_record_65 rfl rfl ?_
            refine v_iald E dX2_record_66 (v := nI (z_P S (t) (c))) 4 0 rfl rfl (by omega) (by decide) (zP_e (by omega)) ?_
            refine v_iload_n E dX2_record_67 4 rfl rfl ?_
            refine b_if_eq E dX2_record_68 (tgt := 75) (by decide) (fun c68 => ?_) (fun c68 => ?_)
            · subst c68
              refine v_iconst E dX2_record_75 (v := nI 0) rfl ?_
              refine v_iadd E dX2_record_76 (nI_add _ _) ?_
              refine v_iast E dX2_record_77 4 0 rfl rfl (by omega) (by decide) (w' := (wM cI b (zs_P S (up2 (z_P S) (t) (c) (z_P S (t) (c) + 0))) (0))) (wM_a_P (by omega)) ?_
              refine v_aload_n E dX2_record_78 1 rfl rfl ?_
              refine v_get E dX2_record_79 0 10 hinX2 rfl rfl (by decide) (by decide +kernel) rfl rfl ?_
              refine v_bipush E dX2_record_82 (v := nI 40) rfl ?_
              refine v_iload_n E dX2_record_84 2 rfl rfl ?_
              refine v_imul E dX2_record_85 (pk_mul _ _) ?_
              refine v_iload_n E dX2_record_86 3 rfl rfl ?_
              refine v_iadd E dX2_record_87 (nI_add _ _) ?_
              refine v_dup2 E dX2_record_88 rfl rfl ?_
              refine v_iald E dX2_record_89 (v := nI (z_F (zs_P S (up2 (z_P S) (t) (c) (z_P S (t) (c) + 0))) (t) (c))) 5 0 rfl rfl (by omega) (by decide) (zF_e (by omega)) ?_
              refine v_iload_n E dX2_record_90 4 rfl rfl ?_
              refine b_if_eq E dX2_record_91 (tgt := 98) (by decide) (fun c91 => ?_) (fun c91 => ?_)
              · refine v_iconst E dX2_record_98 (v := nI 1) rfl ?_
                refine v_iadd E dX2_record_99 (nI_add _ _) ?_
                refine v_iast E dX2_record_100 5 0 rfl rfl (by omega) (by decide) (w' := (wM cI b (zs_F (zs_P S (up2 (z_P S) (t) (c) (z_P S (t) (c) + 0))) (up2 (z_F (zs_P S (up2 (z_P S) (t) (c) (z_P S (t) (c) + 0)))) (t) (c) (z_F (zs_P S (up2 (z_P S) (t) (c) (z_P S (t) (c) + 0))) (t) (c) + 1))) (0))) (wM_a_F (by omega)) ?_
                refine v_w (w' := wM cI b (srec S t c false) 0) (rec_wf t c) ?_
                refine v_aload_n E dX2_record_101 1 rfl rfl ?_
                refine v_iload_n E dX2_record_102 2 rfl rfl ?_
                refine v_iload_n E dX2_record_103 3 rfl rfl ?_
                refine v_cVi' E dX2_record_104 (x_X2_verdictOf l D cI cZ cQ cJ b (srec S t c false) (0) (zOK_rec hok false hc h5) (t) (c) (by omega) (by omega)) (cwV 2 E.2.2.2.1 gX2_record_X2_verdictOf rfl rfl rfl (by decide +kernel) ⟨Nat.le_of_ble_eq_true rfl, Nat.le_of_ble_eq_true rfl⟩) 0 rfl rfl rfl (fun _ h => h) rfl rfl ⟨Nat.le_of_ble_eq_true rfl, Nat.le_of_ble_eq_true rfl⟩ (Nat.le_of_ble_eq_true rfl) ?_
                exact y_ret E hr (by trivial) (by rw [mV_0 hk0]) (by rw [mS_0 hk0, hk0]) (by decide) (by decide) dX2_record_107
              · exact absurd c91 (by decide)
            · subst c68
              refine v_iconst E dX2_record_71 (v := nI 1) rfl ?_
              refine v_goto E dX2_record_72 (tgt := 76) (by decide) ?_
              refine v_iadd E dX2_record_76 (nI_add _ _) ?_
              refine v_iast E dX2_record_77 4 0 rfl rfl (by omega) (by decide) (w' := (wM cI b (zs_P S (up2 (z_P S) (t) (c) (z_P S (t) (c) + 1))) (0))) (wM_a_P (by omega)) ?_
              refine v_aload_n E dX2_record_78 1 rfl rfl ?_
              refine v_get E dX2_record_79 0 10 hinX2 rfl rfl (by decide) (by decide +kernel) rfl rfl ?_
              refine v_bipush E dX2_record_82 (v := nI 40) rfl ?_
              refine v_iload_n E dX2_record_84 2 rfl rfl ?_
              refine v_imul E dX2_record_85 (pk_mul _ _) ?_
              refine v_iload_n E dX2_record_86 3 rfl rfl ?_
              refine v_iadd E dX2_record_87 (nI_add _ _) ?_
              refine v_dup2 E dX2_record_88 rfl rfl ?_
              refine v_iald E dX2_record_89 (v := nI (z_F (zs_P S (up2 (z_P S) (t) (c) (z_P S (t) (c) + 1))) (t) (c))) 5 0 rfl rfl (by omega) (by decide) (zF_e (by omega)) ?_
              refine v_iload_n E dX2_record_90 4 rfl rfl ?_
              refine b_if_eq E dX2_record_91 (tgt := 98) (by decide) (fun c91 => ?_) (fun c91 => ?_)
              · exact absurd c91 (by decide)
              · refine v_iconst E dX2_record_94 (v := nI 0) rfl ?_
                refine v_goto E dX2_record_95 (tgt := 99) (by decide) ?_
                refine v_iadd E dX2_record_99 (nI_add _ _) ?_
                refine v_iast E dX2_record_100 5 0 rfl rfl (by omega) (by decide) (w' := (wM cI b (zs_F (zs_P S (up2 (z_P S) (t) (c) (z_P S (t) (c) + 1))) (up2 (z_F (zs_P S (up2 (z_P S) (t) (c) (z_P S (t) (c) + 1)))) (t) (c) (z_F (zs_P S (up2 (z_P S) (t) (c) (z_P S (t) (c) + 1))) (t) (c) + 0))) (0))) (wM_a_F (by omega)) ?_
                refine v_w (w' := wM cI b (srec S t c true) 0) (rec_wt t c) ?_
                refine v_aload_n E dX2_record_101 1 rfl rfl ?_
                refine v_iload_n E dX2_record_102 2 rfl rfl ?_
                refine v_iload_n E dX2_record_103 3 rfl rfl ?_
                refine v_cVi' E dX2_record_104 (x_X2_verdictOf l D cI cZ cQ cJ b (srec S t c true) (0) (zOK_rec hok true hc h5) (t) (c) (by omega) (by omega)) (cwV 2 E.2.2.2.1 gX2_record_X2_verdictOf rfl rfl rfl (by decide +kernel) ⟨Nat.le_of_ble_eq_true rfl, Nat.le_of_ble_eq_true rfl⟩) 0 rfl rfl rfl (fun _ h => h) rfl rfl ⟨Nat.le_of_ble_eq_true rfl, Nat.le_of_ble_eq_true rfl⟩ (Nat.le_of_ble_eq_true rfl) ?_
                exact y_ret E hr (by trivial) (by rw [mV_0 hk0]) (by rw [mS_0 hk0, hk0]) (by decide) (by decide) dX2_record_107
          · have hkn : kk2 (zin (nI (t)) (z_nt S) && zin u1 (z_nc S)) (decide (z_R S (t) < 200)) ≠ 0 := (by rw [← kk2_and]; exact kk2_bf c50)
            refine v_iconst E dX2_record_53 (v := nI 0) rfl ?_
            exact y_ret E hr (by trivial) (by rw [mV_n hkn]) (by rw [mS_n hkn]) (by decide) (by decide) dX2_record_54

set_option maxHeartbeats 4000000 in
set_option maxRecDepth 100000 in
theorem x_X2_triage (l : Launch) (D : va_G) (cI cZ cQ cJ : ClassId) (b : Nat → Nat) (S : zS) (th : Nat) (hok : zOK S)  (u0 u1 u2 : Int32) : v_Thr l yX2_triage wsX2_triage { frames := 5, cells := 0, slots := 0, locals := 114 } D (wTy cI cZ cQ cJ) [.ref (b 0), .int (u0), .int (u1), .int (u2)] (wM cI b S th) (0) exI (some (.int (mV (kk2 (zin u0 (z_nt S) && zin u1 (z_nc S) && zin u2 (z_nc S)) (decide (iN u1 < iN u2))) (nI (zcc (stri S (iN u0) (iN u1) (iN u2)) (iN u0)))))) (wM cI b (mS (kk2 (zin u0 (z_nt S) && zin u1 (z_nc S) && zin u2 (z_nc S)) (decide (iN u1 < iN u2))) (stri S (iN u0) (iN u1) (iN u2)) S) (kk2 (zin u0 (z_nt S) && zin u1 (z_nc S) && zin u2 (z_nc S)) (decide (iN u1 < iN u2)))) 0 0 := by
  refine v_thrower (cc := cX2_triage) (maxL := 4) (ret := (some .int)) (own := RX2) (lv0 := [(0, .ref (b 0)), (1, .int (u0)), (2, .int (u1)), (3, .int (u2))]) (by decide) rfl rfl (Nat.le_of_ble_eq_true rfl) rfl ?_
  intro p9 e9 s9 m9 as9 bl9 me9 cd9 A E hA htab hTx hr
  have hinX2 : ∀ w ∈ u_ws RX2 TX2 16, w ∈ wsX2_triage := by decide +kernel
  obtain ⟨⟨k1, k2, k3, k4, k5, k6, k7, k8⟩, k9, k10, k11, k12, k13⟩ := id hok
  have hqn := zqn_le hok
  refine v_aload_n E dX2_triage_0 0 rfl rfl ?_
  refine v_aload_n E dX2_triage_1 0 rfl rfl ?_
  refine v_iload_n E dX2_triage_2 1 rfl rfl ?_
  refine v_cVi' E dX2_triage_3 (x_X2_isTest l D cI cZ cQ cJ b S (th) hok ((u0))) (cwV 1 E.2.2.2.1 gX2_triage_X2_isTest rfl rfl rfl (by decide +kernel) ⟨Nat.le_of_ble_eq_true rfl, Nat.le_of_ble_eq_true rfl⟩) 0 rfl rfl rfl (fun _ h => h) rfl rfl ⟨Nat.le_of_ble_eq_true rfl, Nat.le_of_ble_eq_true rfl⟩ (Nat.le_of_ble_eq_true rfl) ?_
  refine b_if_eq E dX2_triage_6 (tgt := 29) (by decide) (fun c6 => ?_) (fun c6 => ?_)
  · refine v_iconst E dX2_triage_29 (v := nI 0) rfl ?_
    refine v_top (y := bI ((zin u0 (z_nt S) && zin u1 (z_nc S) && zin u2 (z_nc S)))) (by rw [c6, Bool.false_and, Bool.false_and]; rfl) ?_
    refine v_iload_n E dX2_triage_30 3 rfl rfl ?_
    refine v_iload_n E dX2_triage_31 2 rfl rfl ?_
    refine v_icmp_le E dX2_triage_32 (tgt := 39) (by decide) (fun c32 => ?_) (fun c32 => ?_)
    · refine v_iconst E dX2_triage_39 (v := nI 0) rfl ?_
      refine v_top (y := bI (zlt u1 u2)) (by rw [zlt_f c32]; rfl) ?_
      refine x_cVn E hA hTx dX2_triage_40 (x_X2_goes l D cI cZ cQ cJ b S (th) hok ((zin u0 (z_nt S) && zin u1 (z_nc S) && zin u2 (z_nc S))) (zlt u1 u2)) (cwV 2 E.2.2.2.1 gX2_triage_X2_goes rfl rfl rfl (by decide +kernel) ⟨Nat.le_of_ble_eq_true rfl, Nat.le_of_ble_eq_true rfl⟩) 0 rfl rfl rfl rfl rfl ⟨Nat.le_of_ble_eq_true rfl, Nat.le_of_ble_eq_true rfl⟩ (Nat.le_of_ble_eq_true rfl) ?_
      refine v_w (w' := wM cI b S (kk2 (zin u0 (z_nt S) && zin u1 (z_nc S) && zin u2 (z_nc S)) (decide (iN u1 < iN u2)))) (by rw [tri_kk (by omega)]) ?_
      refine b_if_ne E dX2_triage_43 (tgt := 48) (by decide) (fun c43 => ?_) (fun c43 => ?_)
      · exact absurd (and_tt c43).1 (by rw [c6, Bool.false_and, Bool.false_and]; decide)
      · have hkn : kk2 (zin u0 (z_nt S) && zin u1 (z_nc S) && zin u2 (z_nc S)) (decide (iN u1 < iN u2)) ≠ 0 := (by rw [← tri_kk (by omega)]; exact kk2_bf c43)
        refine v_iconst E dX2_triage_46 (v := nI 0) rfl ?_
        exact y_ret E hr (by trivial) (by rw [mV_n hkn]) (by rw [mS_n hkn]) (by decide) (by decide) dX2_triage_47
    · refine v_iconst E dX2_triage_35 (v := nI 1) rfl ?_
      refine v_goto E dX2_triage_36 (tgt := 40) (by decide) ?_
      refine v_top (y := bI (zlt u1 u2)) (by rw [zlt_t c32]; rfl) ?_
      refine x_cVn E hA hTx dX2_triage_40 (x_X2_goes l D cI cZ cQ cJ b S (th) hok ((zin u0 (z_nt S) && zin u1 (z_nc S) && zin u2 (z_nc S))) (zlt u1 u2)) (cwV 2 E.2.2.2.1 gX2_triage_X2_goes rfl rfl rfl (by decide +kernel) ⟨Nat.le_of_ble_eq_true rfl, Nat.le_of_ble_eq_true rfl⟩) 0 rfl rfl rfl rfl rfl ⟨Nat.le_of_ble_eq_true rfl, Nat.le_of_ble_eq_true rfl⟩ (Nat.le_of_ble_eq_true rfl) ?_
      refine v_w (w' := wM cI b S (kk2 (zin u0 (z_nt S) && zin u1 (z_nc S) && zin u2 (z_nc S)) (decide (iN u1 < iN u2)))) (by rw [tri_kk (by omega)]) ?_
      refine b_if_ne E dX2_triage_43 (tgt := 48) (by decide) (fun c43 => ?_) (fun c43 => ?_)
      · exact absurd (and_tt c43).1 (by rw [c6, Bool.false_and, Bool.false_and]; decide)
      · have hkn : kk2 (zin u0 (z_nt S) && zin u1 (z_nc S) && zin u2 (z_nc S)) (decide (iN u1 < iN u2)) ≠ 0 := (by rw [← tri_kk (by omega)]; exact kk2_bf c43)
        refine v_iconst E dX2_triage_46 (v := nI 0) rfl ?_
        exact y_ret E hr (by trivial) (by rw [mV_n hkn]) (by rw [mS_n hkn]) (by decide) (by decide) dX2_triage_47
  · refine v_aload_n E dX2_triage_9 0 rfl rfl ?_
    refine v_iload_n E dX2_triage_10 2 rfl rfl ?_
    refine v_cVi' E dX2_triage_11 (x_X2_isCommit l D cI cZ cQ cJ b S (th) hok ((u1))) (cwV 1 E.2.2.2.1 gX2_triage_X2_isCommit rfl rfl rfl (by decide +kernel) ⟨Nat.le_of_ble_eq_true rfl, Nat.le_of_ble_eq_true rfl⟩) 0 rfl rfl rfl (fun _ h => h) rfl rfl ⟨Nat.le_of_ble_eq_true rfl, Nat.le_of_ble_eq_true rfl⟩ (Nat.le_of_ble_eq_true rfl) ?_
    refine b_if_eq E dX2_triage_14 (tgt := 29) (by decide) (fun c14 => ?_) (fun c14 => ?_)
    · refine v_iconst E dX2_triage_29 (v := nI 0) rfl ?_
      refine v_top (y := bI ((zin u0 (z_nt S) && zin u1 (z_nc S) && zin u2 (z_nc S)))) (by rw [c14, Bool.and_false, Bool.false_and]; rfl) ?_
      refine v_iload_n E dX2_triage_30 3 rfl rfl ?_
      refine v_iload_n E dX2_triage_31 2 rfl rfl ?_
      refine v_icmp_le E dX2_triage_32 (tgt := 39) (by decide) (fun c32 => ?_) (fun c32 => ?_)
      · refine v_iconst E dX2_triage_39 (v := nI 0) rfl ?_
        refine v_top (y := bI (zlt u1 u2)) (by rw [zlt_f c32]; rfl) ?_
        refine x_cVn E hA hTx dX2_triage_40 (x_X2_goes l D cI cZ cQ cJ b S (th) hok ((zin u0 (z_nt S) && zin u1 (z_nc S) && zin u2 (z_nc S))) (zlt u1 u2)) (cwV 2 E.2.2.2.1 gX2_triage_X2_goes rfl rfl rfl (by decide +kernel) ⟨Nat.le_of_ble_eq_true rfl, Nat.le_of_ble_eq_true rfl⟩) 0 rfl rfl rfl rfl rfl ⟨Nat.le_of_ble_eq_true rfl, Nat.le_of_ble_eq_true rfl⟩ (Nat.le_of_ble_eq_true rfl) ?_
        refine v_w (w' := wM cI b S (kk2 (zin u0 (z_nt S) && zin u1 (z_nc S) && zin u2 (z_nc S)) (decide (iN u1 < iN u2)))) (by rw [tri_kk (by omega)]) ?_
        refine b_if_ne E dX2_triage_43 (tgt := 48) (by decide) (fun c43 => ?_) (fun c43 => ?_)
        · exact absurd (and_tt c43).1 (by rw [c14, Bool.and_false, Bool.false_and]; decide)
        · have hkn : kk2 (zin u0 (z_nt S) && zin u1 (z_nc S) && zin u2 (z_nc S)) (decide (iN u1 < iN u2)) ≠ 0 := (by rw [← tri_kk (by omega)]; exact kk2_bf c43)
          refine v_iconst E dX2_triage_46 (v := nI 0) rfl ?_
          exact y_ret E hr (by trivial) (by rw [mV_n hkn]) (by rw [mS_n hkn]) (by decide) (by decide) dX2_triage_47
      · refine v_iconst E dX2_triage_35 (v := nI 1) rfl ?_
        refine v_goto E dX2_triage_36 (tgt := 40) (by decide) ?_
        refine v_top (y := bI (zlt u1 u2)) (by rw [zlt_t c32]; rfl) ?_
        refine x_cVn E hA hTx dX2_triage_40 (x_X2_goes l D cI cZ cQ cJ b S (th) hok ((zin u0 (z_nt S) && zin u1 (z_nc S) && zin u2 (z_nc S))) (zlt u1 u2)) (cwV 2 E.2.2.2.1 gX2_triage_X2_goes rfl rfl rfl (by decide +kernel) ⟨Nat.le_of_ble_eq_true rfl, Nat.le_of_ble_eq_true rfl⟩) 0 rfl rfl rfl rfl rfl ⟨Nat.le_of_ble_eq_true rfl, Nat.le_of_ble_eq_true rfl⟩ (Nat.le_of_ble_eq_true rfl) ?_
        refine v_w (w' := wM cI b S (kk2 (zin u0 (z_nt S) && zin u1 (z_nc S) && zin u2 (z_nc S)) (decide (iN u1 < iN u2)))) (by rw [tri_kk (by omega)]) ?_
        refine b_if_ne E dX2_triage_43 (tgt := 48) (by decide) (fun c43 => ?_) (fun c43 => ?_)
        · exact absurd (and_tt c43).1 (by rw [c14, Bool.and_false, Bool.false_and]; decide)
        · have hkn : kk2 (zin u0 (z_nt S) && zin u1 (z_nc S) && zin u2 (z_nc S)) (decide (iN u1 < iN u2)) ≠ 0 := (by rw [← tri_kk (by omega)]; exact kk2_bf c43)
          refine v_iconst E dX2_triage_46 (v := nI 0) rfl ?_
          exact y_ret E hr (by trivial) (by rw [mV_n hkn]) (by rw [mS_n hkn]) (by decide) (by decide) dX2_triage_47
    · refine v_aload_n E dX2_triage_17 0 rfl rfl ?_
      refine v_iload_n E dX2_triage_18 3 rfl rfl ?_
      refine v_cVi' E dX2_triage_19 (x_X2_isCommit l D cI cZ cQ cJ b S (th) hok ((u2))) (cwV 1 E.2.2.2.1 gX2_triage_X2_isCommit rfl rfl rfl (by decide +kernel) ⟨Nat.le_of_ble_eq_true rfl, Nat.le_of_ble_eq_true rfl⟩) 0 rfl rfl rfl (fun _ h => h) rfl rfl ⟨Nat.le_of_ble_eq_true rfl, Nat.le_of_ble_eq_true rfl⟩ (Nat.le_of_ble_eq_true rfl) ?_
      refine b_if_eq E dX2_triage_22 (tgt := 29) (by decide) (fun c22 => ?_) (fun c22 => ?_)
      · refine v_iconst E dX2_triage_29 (v := nI 0) rfl ?_
        refine v_top (y := bI ((zin u0 (z_nt S) && zin u1 (z_nc S) && zin u2 (z_nc S)))) (by rw [c22, Bool.and_false]; rfl) ?_
        refine v_iload_n E dX2_triage_30 3 rfl rfl ?_
        refine v_iload_n E dX2_triage_31 2 rfl rfl ?_
        refine v_icmp_le E dX2_triage_32 (tgt := 39) (by decide) (fun c32 => ?_) (fun c32 => ?_)
        · refine v_iconst E dX2_triage_39 (v := nI 0) rfl ?_
          refine v_top (y := bI (zlt u1 u2)) (by rw [zlt_f c32]; rfl) ?_
          refine x_cVn E hA hTx dX2_triage_40 (x_X2_goes l D cI cZ cQ cJ b S (th) hok ((zin u0 (z_nt S) && zin u1 (z_nc S) && zin u2 (z_nc S))) (zlt u1 u2)) (cwV 2 E.2.2.2.1 gX2_triage_X2_goes rfl rfl rfl (by decide +kernel) ⟨Nat.le_of_ble_eq_true rfl, Nat.le_of_ble_eq_true rfl⟩) 0 rfl rfl rfl rfl rfl ⟨Nat.le_of_ble_eq_true rfl, Nat.le_of_ble_eq_true rfl⟩ (Nat.le_of_ble_eq_true rfl) ?_
          refine v_w (w' := wM cI b S (kk2 (zin u0 (z_nt S) && zin u1 (z_nc S) && zin u2 (z_nc S)) (decide (iN u1 < iN u2)))) (by rw [tri_kk (by omega)]) ?_
          refine b_if_ne E dX2_triage_43 (tgt := 48) (by decide) (fun c43 => ?_) (fun c43 => ?_)
          · exact absurd (and_tt c43).1 (by rw [c22, Bool.and_false]; decide)
          · have hkn : kk2 (zin u0 (z_nt S) && zin u1 (z_nc S) && zin u2 (z_nc S)) (decide (iN u1 < iN u2)) ≠ 0 := (by rw [← tri_kk (by omega)]; exact kk2_bf c43)
            refine v_iconst E dX2_triage_46 (v := nI 0) rfl ?_
            exact y_ret E hr (by trivial) (by rw [mV_n hkn]) (by rw [mS_n hkn]) (by decide) (by decide) dX2_triage_47
        · refine v_iconst E dX2_triage_35 (v := nI 1) rfl ?_
          refine v_goto E dX2_triage_36 (tgt := 40) (by decide) ?_
          refine v_top (y := bI (zlt u1 u2)) (by rw [zlt_t c32]; rfl) ?_
          refine x_cVn E hA hTx dX2_triage_40 (x_X2_goes l D cI cZ cQ cJ b S (th) hok ((zin u0 (z_nt S) && zin u1 (z_nc S) && zin u2 (z_nc S))) (zlt u1 u2)) (cwV 2 E.2.2.2.1 gX2_triage_X2_goes rfl rfl rfl (by decide +kernel) ⟨Nat.le_of_ble_eq_true rfl, Nat.le_of_ble_eq_true rfl⟩) 0 rfl rfl rfl rfl rfl ⟨Nat.le_of_ble_eq_true rfl, Nat.le_of_ble_eq_true rfl⟩ (Nat.le_of_ble_eq_true rfl) ?_
          refine v_w (w' := wM cI b S (kk2 (zin u0 (z_nt S) && zin u1 (z_nc S) && zin u2 (z_nc S)) (decide (iN u1 < iN u2)))) (by rw [tri_kk (by omega)]) ?_
          refine b_if_ne E dX2_triage_43 (tgt := 48) (by decide) (fun c43 => ?_) (fun c43 => ?_)
          · exact absurd (and_tt c43).1 (by rw [c22, Bool.and_false]; decide)
          · have hkn : kk2 (zin u0 (z_nt S) && zin u1 (z_nc S) && zin u2 (z_nc S)) (decide (iN u1 < iN u2)) ≠ 0 := (by rw [← tri_kk (by omega)]; exact kk2_bf c43)
            refine v_iconst E dX2_triage_46 (v := nI 0) rfl ?_
            exact y_ret E hr (by trivial) (by rw [mV_n hkn]) (by rw [mS_n hkn]) (by decide) (by decide) dX2_triage_47
      · refine v_iconst E dX2_triage_25 (v := nI 1) rfl ?_
        refine v_goto E dX2_triage_26 (tgt := 30) (by decide) ?_
        refine v_top (y := bI ((zin u0 (z_nt S) && zin u1 (z_nc S) && zin u2 (z_nc S)))) (by rw [c6, c14, c22]; rfl) ?_
        refine v_iload_n E dX2_triage_30 3 rfl rfl ?_
        refine v_iload_n E dX2_triage_31 2 rfl rfl ?_
        refine v_icmp_le E dX2_triage_32 (tgt := 39) (by decide) (fun c32 => ?_) (fun c32 => ?_)
        · refine v_iconst E dX2_triage_39 (v := nI 0) rfl ?_
          refine v_top (y := bI (zlt u1 u2)) (by rw [zlt_f c32]; rfl) ?_
          refine x_cVn E hA hTx dX2_triage_40 (x_X2_goes l D cI cZ cQ cJ b S (th) hok ((zin u0 (z_nt S) && zin u1 (z_nc S) && zin u2 (z_nc S))) (zlt u1 u2)) (cwV 2 E.2.2.2.1 gX2_triage_X2_goes rfl rfl rfl (by decide +kernel) ⟨Nat.le_of_ble_eq_true rfl, Nat.le_of_ble_eq_true rfl⟩) 0 rfl rfl rfl rfl rfl ⟨Nat.le_of_ble_eq_true rfl, Nat.le_of_ble_eq_true rfl⟩ (Nat.le_of_ble_eq_true rfl) ?_
          refine v_w (w' := wM cI b S (kk2 (zin u0 (z_nt S) && zin u1 (z_nc S) && zin u2 (z_nc S)) (decide (iN u1 < iN u2)))) (by rw [tri_kk (by omega)]) ?_
          refine b_if_ne E dX2_triage_43 (tgt := 48) (by decide) (fun c43 => ?_) (fun c43 => ?_)
          · exact absurd (and_tt c43).2 (by rw [zlt_f c32]; decide)
          · have hkn : kk2 (zin u0 (z_nt S) && zin u1 (z_nc S) && zin u2 (z_nc S)) (decide (iN u1 < iN u2)) ≠ 0 := (by rw [← tri_kk (by omega)]; exact kk2_bf c43)
            refine v_iconst E dX2_triage_46 (v := nI 0) rfl ?_
            exact y_ret E hr (by trivial) (by rw [mV_n hkn]) (by rw [mS_n hkn]) (by decide) (by decide) dX2_triage_47
        · refine v_iconst E dX2_triage_35 (v := nI 1) rfl ?_
          refine v_goto E dX2_triage_36 (tgt := 40) (by decide) ?_
          refine v_top (y := bI (zlt u1 u2)) (by rw [zlt_t c32]; rfl) ?_
          refine x_cVn E hA hTx dX2_triage_40 (x_X2_goes l D cI cZ cQ cJ b S (th) hok ((zin u0 (z_nt S) && zin u1 (z_nc S) && zin u2 (z_nc S))) (zlt u1 u2)) (cwV 2 E.2.2.2.1 gX2_triage_X2_goes rfl rfl rfl (by decide +kernel) ⟨Nat.le_of_ble_eq_true rfl, Nat.le_of_ble_eq_true rfl⟩) 0 rfl rfl rfl rfl rfl ⟨Nat.le_of_ble_eq_true rfl, Nat.le_of_ble_eq_true rfl⟩ (Nat.le_of_ble_eq_true rfl) ?_
          refine v_w (w' := wM cI b S (kk2 (zin u0 (z_nt S) && zin u1 (z_nc S) && zin u2 (z_nc S)) (decide (iN u1 < iN u2)))) (by rw [tri_kk (by omega)]) ?_
          refine b_if_ne E dX2_triage_43 (tgt := 48) (by decide) (fun c43 => ?_) (fun c43 => ?_)
          · have hk0 : kk2 (zin u0 (z_nt S) && zin u1 (z_nc S) && zin u2 (z_nc S)) (decide (iN u1 < iN u2)) = 0 := (by rw [← tri_kk (by omega)]; exact kk2_bt c43)
            refine v_w (w' := wM cI b S 0) (by rw [hk0]) ?_
            obtain ⟨h1, h2⟩ := kk2_0 hk0
            obtain ⟨h3, h4⟩ := and_tt h1
            obtain ⟨h5, h6⟩ := and_tt h3
            obtain ⟨t, ht, rfl⟩ := zin_of (by omega) h5
            try simp only [iN_nI (show t < 2 ^ 31 by omega)] at hk0 h2 ⊢
            have hzt := zin_n ht (show z_nt S ≤ 2 ^ 31 by omega)
            obtain ⟨g, hg, rfl⟩ := zin_of (by omega) h6
            try simp only [iN_nI (show g < 2 ^ 31 by omega)] at hk0 h2 ⊢
            have hzg := zin_n hg (show z_nc S ≤ 2 ^ 31 by omega)
            obtain ⟨bb, hbb, rfl⟩ := zin_of (by omega) h4
            try simp only [iN_nI (show bb < 2 ^ 31 by omega)] at hk0 h2 ⊢
            have hzbb := zin_n hbb (show z_nc S ≤ 2 ^ 31 by omega)
            have h7 := of_decide_eq_true h2
            refine v_aload_n E dX2_triage_48 0 rfl rfl ?_
            refine v_get E dX2_triage_49 0 11 hinX2 rfl rfl (by decide) (by decide +kernel) rfl rfl ?_
            refine v_iload_n E dX2_triage_52 1 rfl rfl ?_
            refine v_iload_n E dX2_triage_53 2 rfl rfl ?_
            refine v_iast E dX2_triage_54 6 0 rfl rfl (by omega) (by decide) (w' := (wM cI b (zs_G (zs_T S (va_up (z_T S) (t) true)) (va_up (z_G S) (t) (g))) (0))) (wM_a_G1 _ _) ?_
            refine v_aload_n E dX2_triage_55 0 rfl rfl ?_
            refine v_get E dX2_triage_56 0 12 hinX2 rfl rfl (by decide) (by decide +kernel) rfl rfl ?_
            refine v_iload_n E dX2_triage_59 1 rfl rfl ?_
            refine v_iload_n E dX2_triage_60 3 rfl rfl ?_
            refine v_iast E dX2_triage_61 7 0 rfl rfl (by omega) (by decide) (w' := (wM cI b (zs_B (zs_G (zs_T S (va_up (z_T S) (t) true)) (va_up (z_G S) (t) (g))) (va_up (z_B (zs_G (zs_T S (va_up (z_T S) (t) true)) (va_up (z_G S) (t) (g)))) (t) (bb))) (0))) (wM_a_B _ _) ?_
            refine v_w (w' := wM cI b (stri S t g bb) 0) (by rfl) ?_
            refine v_aload_n E dX2_triage_62 0 rfl rfl ?_
            refine v_iload_n E dX2_triage_63 1 rfl rfl ?_
            refine v_cVi' E dX2_triage_64 (x_X2_candidatesOf l D cI cZ cQ cJ b (stri S t g bb) (0) (zOK_tri hok ht h7 hbb) (t) (by omega) (stri_T S t g bb)) (cwV 1 E.2.2.2.1 gX2_triage_X2_candidatesOf rfl rfl rfl (by decide +kernel) ⟨Nat.le_of_ble_eq_true rfl, Nat.le_of_ble_eq_true rfl⟩) 0 rfl rfl rfl (fun _ h => h) rfl rfl ⟨Nat.le_of_ble_eq_true rfl, Nat.le_of_ble_eq_true rfl⟩ (Nat.le_of_ble_eq_true rfl) ?_
            exact y_ret E hr (by trivial) (by rw [mV_0 hk0]) (by rw [mS_0 hk0, hk0]) (by decide) (by decide) dX2_triage_67
          · have hkn : kk2 (zin u0 (z_nt S) && zin u1 (z_nc S) && zin u2 (z_nc S)) (decide (iN u1 < iN u2)) ≠ 0 := (by rw [← tri_kk (by omega)]; exact kk2_bf c43)
            refine v_iconst E dX2_triage_46 (v := nI 0) rfl ?_
            exact y_ret E hr (by trivial) (by rw [mV_n hkn]) (by rw [mS_n hkn]) (by decide) (by decide) dX2_triage_47

set_option maxHeartbeats 4000000 in
set_option maxRecDepth 100000 in
theorem x_X2_close (l : Launch) (D : va_G) (cI cZ cQ cJ : ClassId) (b : Nat → Nat) (S : zS) (th : Nat) (hok : zOK S)  (u0 : Int32) : v_Thr l yX2_close wsX2_close { frames := 6, cells := 0, slots := 0, locals := 137 } D (wTy cI cZ cQ cJ) [.ref (b 0), .int (u0)] (wM cI b S th) (0) exI (some (.int (mV (kk2 (zin u0 (z_nt S)) (z_T S (iN u0))) (zonly S (iN u0))))) (wM cI b (mS (kk2 (zin u0 (z_nt S)) (z_T S (iN u0))) (sclo S (iN u0)) S) (kk2 (zin u0 (z_nt S)) (z_T S (iN u0)))) 0 0 := by
  refine v_thrower (cc := cX2_close) (maxL := 3) (ret := (some .int)) (own := RX2) (lv0 := [(0, .ref (b 0)), (1, .int (u0))]) (by decide) rfl rfl (Nat.le_of_ble_eq_true rfl) rfl ?_
  intro p9 e9 s9 m9 as9 bl9 me9 cd9 A E hA htab hTx hr
  have hinX2 : ∀ w ∈ u_ws RX2 TX2 16, w ∈ wsX2_close := by decide +kernel
  obtain ⟨⟨k1, k2, k3, k4, k5, k6, k7, k8⟩, k9, k10, k11, k12, k13⟩ := id hok
  have hqn := zqn_le hok
  refine v_aload_n E dX2_close_0 0 rfl rfl ?_
  refine v_aload_n E dX2_close_1 0 rfl rfl ?_
  refine v_iload_n E dX2_close_2 1 rfl rfl ?_
  refine v_cVi' E dX2_close_3 (x_X2_isTest l D cI cZ cQ cJ b S (th) hok ((u0))) (cwV 1 E.2.2.2.1 gX2_close_X2_isTest rfl rfl rfl (by decide +kernel) ⟨Nat.le_of_ble_eq_true rfl, Nat.le_of_ble_eq_true rfl⟩) 0 rfl rfl rfl (fun _ h => h) rfl rfl ⟨Nat.le_of_ble_eq_true rfl, Nat.le_of_ble_eq_true rfl⟩ (Nat.le_of_ble_eq_true rfl) ?_
  refine v_aload_n E dX2_close_6 0 rfl rfl ?_
  refine v_iload_n E dX2_close_7 1 rfl rfl ?_
  refine v_cVi' E dX2_close_8 (x_X2_isInTriage l D cI cZ cQ cJ b S (th) hok ((u0))) (cwV 1 E.2.2.2.1 gX2_close_X2_isInTriage rfl rfl rfl (by decide +kernel) ⟨Nat.le_of_ble_eq_true rfl, Nat.le_of_ble_eq_true rfl⟩) 0 rfl rfl rfl (fun _ h => h) rfl rfl ⟨Nat.le_of_ble_eq_true rfl, Nat.le_of_ble_eq_true rfl⟩ (Nat.le_of_ble_eq_true rfl) ?_
  refine x_cVn E hA hTx dX2_close_11 (x_X2_goes l D cI cZ cQ cJ b S (th) hok (zin ((u0)) (z_nt S)) (zin ((u0)) (z_nt S) && z_T S (iN u0))) (cwV 2 E.2.2.2.1 gX2_close_X2_goes rfl rfl rfl (by decide +kernel) ⟨Nat.le_of_ble_eq_true rfl, Nat.le_of_ble_eq_true rfl⟩) 0 rfl rfl rfl rfl rfl ⟨Nat.le_of_ble_eq_true rfl, Nat.le_of_ble_eq_true rfl⟩ (Nat.le_of_ble_eq_true rfl) ?_
  refine v_w (w' := wM cI b S (kk2 (zin u0 (z_nt S)) (z_T S (iN u0)))) (by rw [kk2_and]) ?_
  refine b_if_ne E dX2_close_14 (tgt := 19) (by decide) (fun c14 => ?_) (fun c14 => ?_)
  · have hk0 : kk2 (zin u0 (z_nt S)) (z_T S (iN u0)) = 0 := (by rw [← kk2_and]; exact kk2_bt c14)
    refine v_w (w' := wM cI b S 0) (by rw [hk0]) ?_
    obtain ⟨h1, h2⟩ := kk2_0 hk0
    obtain ⟨t, ht, rfl⟩ := zin_of (by omega) h1
    try simp only [iN_nI (show t < 2 ^ 31 by omega)] at hk0 h2 ⊢
    have hzt := zin_n ht (show z_nt S ≤ 2 ^ 31 by omega)
    have hT := h2
    obtain ⟨q1, q2, q3⟩ := k10 t hT
    have hpt := plc_le (z_Q S) t (z_qn S)
    refine v_aload_n E dX2_close_19 0 rfl rfl ?_
    refine v_iload_n E dX2_close_20 1 rfl rfl ?_
    refine v_cVi' E dX2_close_21 (x_X2_only l D cI cZ cQ cJ b S (0) hok (t) (by omega) hT) (cwV 1 E.2.2.2.1 gX2_close_X2_only rfl rfl rfl (by decide +kernel) ⟨Nat.le_of_ble_eq_true rfl, Nat.le_of_ble_eq_true rfl⟩) 0 rfl rfl rfl (fun _ h => h) rfl rfl ⟨Nat.le_of_ble_eq_true rfl, Nat.le_of_ble_eq_true rfl⟩ (Nat.le_of_ble_eq_true rfl) ?_
    refine v_istore_n E dX2_close_24 rfl (by decide) rfl ?_
    refine v_aload_n E dX2_close_25 1 rfl rfl ?_
    refine v_iload_n E dX2_close_26 2 rfl rfl ?_
    refine v_cVi' E dX2_close_27 (x_X2_placeOf l D cI cZ cQ cJ b S (0) hok (t) (by omega)) (cwV 1 E.2.2.2.1 gX2_close_X2_placeOf rfl rfl rfl (by decide +kernel) ⟨Nat.le_of_ble_eq_true rfl, Nat.le_of_ble_eq_true rfl⟩) 0 rfl rfl rfl (fun _ h => h) rfl rfl ⟨Nat.le_of_ble_eq_true rfl, Nat.le_of_ble_eq_true rfl⟩ (Nat.le_of_ble_eq_true rfl) ?_
    refine v_iconst E dX2_close_30 (v := (-1)) rfl ?_
    refine v_icmp_eq E dX2_close_31 (tgt := 43) (by decide) (fun c31 => ?_) (fun c31 => ?_)
    · have c31 := (oI_m1 (by omega)).mp c31
      refine v_w (w' := wM cI b (slv S t) 0) (by rw [show slv S t = S from if_pos c31]) ?_
      refine v_aload_n E dX2_close_43 1 rfl rfl ?_
      refine v_get E dX2_close_44 0 11 hinX2 rfl rfl (by decide) (by decide +kernel) rfl rfl ?_
      refine v_iload_n E dX2_close_47 2 rfl rfl ?_
      refine v_iconst E dX2_close_48 (v := (-1)) rfl ?_
      refine v_iast E dX2_close_49 6 0 rfl rfl (by omega) (by decide) (w' := (wM cI b (zs_T (slv S t) (va_up (z_T (slv S t)) (t) false)) (0))) (wM_a_G0 _) ?_
      refine v_iload_n E dX2_close_50 0 rfl rfl ?_
      exact y_ret E hr (by trivial) (by rw [mV_0 hk0]) (by rw [mS_0 hk0, hk0]; rfl) (by decide) (by decide) dX2_close_51
    · have c31 : plc (z_Q S) (z_qn S) t ≠ 0 := fun q => c31 ((oI_m1 (by omega)).mpr q)
      refine v_aload_n E dX2_close_34 1 rfl rfl ?_
      refine v_aload_n E dX2_close_35 1 rfl rfl ?_
      refine v_iload_n E dX2_close_36 2 rfl rfl ?_
      refine v_cVi' E dX2_close_37 (x_X2_placeOf l D cI cZ cQ cJ b S (0) hok (t) (by omega)) (cwV 1 E.2.2.2.1 gX2_close_X2_placeOf rfl rfl rfl (by decide +kernel) ⟨Nat.le_of_ble_eq_true rfl, Nat.le_of_ble_eq_true rfl⟩) 0 rfl rfl rfl (fun _ h => h) rfl rfl ⟨Nat.le_of_ble_eq_true rfl, Nat.le_of_ble_eq_true rfl⟩ (Nat.le_of_ble_eq_true rfl) ?_
      refine v_top (y := nI (plc (z_Q S) (z_qn S) t - 1)) (oI_n c31) ?_
      refine x_cVn E hA hTx dX2_close_40 (x_X2_leaves l D cI cZ cQ cJ b S (0) hok (plc (z_Q S) (z_qn S) t - 1) (by omega)) (cwV 1 E.2.2.2.1 gX2_close_X2_leaves rfl rfl rfl (by decide +kernel) ⟨Nat.le_of_ble_eq_true rfl, Nat.le_of_ble_eq_true rfl⟩) 0 rfl rfl rfl rfl rfl ⟨Nat.le_of_ble_eq_true rfl, Nat.le_of_ble_eq_true rfl⟩ (Nat.le_of_ble_eq_true rfl) ?_
      refine v_w (w' := wM cI b (slv S t) 0) (by rw [show slv S t = srm S (plc (z_Q S) (z_qn S) t - 1) from if_neg c31]) ?_
      refine v_aload_n E dX2_close_43 1 rfl rfl ?_
      refine v_get E dX2_close_44 0 11 hinX2 rfl rfl (by decide) (by decide +kernel) rfl rfl ?_
      refine v_iload_n E dX2_close_47 2 rfl rfl ?_
      refine v_iconst E dX2_close_48 (v := (-1)) rfl ?_
      refine v_iast E dX2_close_49 6 0 rfl rfl (by omega) (by decide) (w' := (wM cI b (zs_T (slv S t) (va_up (z_T (slv S t)) (t) false)) (0))) (wM_a_G0 _) ?_
      refine v_iload_n E dX2_close_50 0 rfl rfl ?_
      exact y_ret E hr (by trivial) (by rw [mV_0 hk0]) (by rw [mS_0 hk0, hk0]; rfl) (by decide) (by decide) dX2_close_51
  · have hkn : kk2 (zin u0 (z_nt S)) (z_T S (iN u0)) ≠ 0 := (by rw [← kk2_and]; exact kk2_bf c14)
    refine v_iconst E dX2_close_17 (v := nI 0) rfl ?_
    exact y_ret E hr (by trivial) (by rw [mV_n hkn]) (by rw [mS_n hkn]) (by decide) (by decide) dX2_close_18

set_option maxHeartbeats 4000000 in
set_option maxRecDepth 100000 in
theorem x_X2_enqueue (l : Launch) (D : va_G) (cI cZ cQ cJ : ClassId) (b : Nat → Nat) (S : zS) (th : Nat) (hok : zOK S)  (u0 : Int32) : v_Thr l yX2_enqueue wsX2_enqueue { frames := 3, cells := 0, slots := 0, locals := 64 } D (wTy cI cZ cQ cJ) [.ref (b 0), .int (u0)] (wM cI b S th) (0) exI (some (.int (mV (kk2 (zin u0 (z_nt S)) (z_T S (iN u0) && decide (plc (z_Q S) (z_qn S) (iN u0) = 0))) (nI (z_qn S + 1))))) (wM cI b (mS (kk2 (zin u0 (z_nt S)) (z_T S (iN u0) && decide (plc (z_Q S) (z_qn S) (iN u0) = 0))) (sjn S (iN u0)) S) (kk2 (zin u0 (z_nt S)) (z_T S (iN u0) && decide (plc (z_Q S) (z_qn S) (iN u0) = 0)))) 0 0 := by
  refine v_thrower (cc := cX2_enqueue) (maxL := 2) (ret := (some .int)) (own := RX2) (lv0 := [(0, .ref (b 0)), (1, .int (u0))]) (by decide) rfl rfl (Nat.le_of_ble_eq_true rfl) rfl ?_
  intro p9 e9 s9 m9 as9 bl9 me9 cd9 A E hA htab hTx hr
  have hinX2 : ∀ w ∈ u_ws RX2 TX2 16, w ∈ wsX2_enqueue := by decide +kernel
  obtain ⟨⟨k1, k2, k3, k4, k5, k6, k7, k8⟩, k9, k10, k11, k12, k13⟩ := id hok
  have hqn := zqn_le hok
  refine v_aload_n E dX2_enqueue_0 0 rfl rfl ?_
  refine v_aload_n E dX2_enqueue_1 0 rfl rfl ?_
  refine v_iload_n E dX2_enqueue_2 1 rfl rfl ?_
  refine v_cVi' E dX2_enqueue_3 (x_X2_isTest l D cI cZ cQ cJ b S (th) hok ((u0))) (cwV 1 E.2.2.2.1 gX2_enqueue_X2_isTest rfl rfl rfl (by decide +kernel) ⟨Nat.le_of_ble_eq_true rfl, Nat.le_of_ble_eq_true rfl⟩) 0 rfl rfl rfl (fun _ h => h) rfl rfl ⟨Nat.le_of_ble_eq_true rfl, Nat.le_of_ble_eq_true rfl⟩ (Nat.le_of_ble_eq_true rfl) ?_
  refine v_aload_n E dX2_enqueue_6 0 rfl rfl ?_
  refine v_iload_n E dX2_enqueue_7 1 rfl rfl ?_
  refine v_cVi' E dX2_enqueue_8 (x_X2_isInTriage l D cI cZ cQ cJ b S (th) hok ((u0))) (cwV 1 E.2.2.2.1 gX2_enqueue_X2_isInTriage rfl rfl rfl (by decide +kernel) ⟨Nat.le_of_ble_eq_true rfl, Nat.le_of_ble_eq_true rfl⟩) 0 rfl rfl rfl (fun _ h => h) rfl rfl ⟨Nat.le_of_ble_eq_true rfl, Nat.le_of_ble_eq_true rfl⟩ (Nat.le_of_ble_eq_true rfl) ?_
  refine b_if_eq E dX2_enqueue_11 (tgt := 27) (by decide) (fun c11 => ?_) (fun c11 => ?_)
  · refine v_iconst E dX2_enqueue_27 (v := nI 0) rfl ?_
    refine v_top (y := bI ((zin u0 (z_nt S) && z_T S (iN u0)) && decide (plc (z_Q S) (z_qn S) (iN u0) = 0))) (by rw [c11]; rfl) ?_
    refine x_cVn E hA hTx dX2_enqueue_28 (x_X2_goes l D cI cZ cQ cJ b S (th) hok (zin ((u0)) (z_nt S)) ((zin u0 (z_nt S) && z_T S (iN u0)) && decide (plc (z_Q S) (z_qn S) (iN u0) = 0))) (cwV 2 E.2.2.2.1 gX2_enqueue_X2_goes rfl rfl rfl (by decide +kernel) ⟨Nat.le_of_ble_eq_true rfl, Nat.le_of_ble_eq_true rfl⟩) 0 rfl rfl rfl rfl rfl ⟨Nat.le_of_ble_eq_true rfl, Nat.le_of_ble_eq_true rfl⟩ (Nat.le_of_ble_eq_true rfl) ?_
    refine v_w (w' := wM cI b S (kk2 (zin u0 (z_nt S)) (z_T S (iN u0) && decide (plc (z_Q S) (z_qn S) (iN u0) = 0)))) (by rw [Bool.and_assoc, kk2_and]) ?_
    refine b_if_ne E dX2_enqueue_31 (tgt := 36) (by decide) (fun c31 => ?_) (fun c31 => ?_)
    · exact absurd (and_tt (and_tt c31).2).1 (by rw [c11]; decide)
    · have hkn : kk2 (zin u0 (z_nt S)) (z_T S (iN u0) && decide (plc (z_Q S) (z_qn S) (iN u0) = 0)) ≠ 0 := (by rw [← kk2_and, ← Bool.and_assoc]; exact kk2_bf c31)
      refine v_iconst E dX2_enqueue_34 (v := nI 0) rfl ?_
      exact y_ret E hr (by trivial) (by rw [mV_n hkn]) (by rw [mS_n hkn]) (by decide) (by decide) dX2_enqueue_35
  · obtain ⟨g1, g2⟩ := and_tt c11
    obtain ⟨t, ht, rfl⟩ := zin_of (by omega) g1
    try simp only [iN_nI (show t < 2 ^ 31 by omega)] at c11 g2 ⊢
    have hpt := plc_le (z_Q S) t (z_qn S)
    refine v_aload_n E dX2_enqueue_14 0 rfl rfl ?_
    refine v_iload_n E dX2_enqueue_15 1 rfl rfl ?_
    refine v_cVi' E dX2_enqueue_16 (x_X2_placeOf l D cI cZ cQ cJ b S (th) hok (t) (by omega)) (cwV 1 E.2.2.2.1 gX2_enqueue_X2_placeOf rfl rfl rfl (by decide +kernel) ⟨Nat.le_of_ble_eq_true rfl, Nat.le_of_ble_eq_true rfl⟩) 0 rfl rfl rfl (fun _ h => h) rfl rfl ⟨Nat.le_of_ble_eq_true rfl, Nat.le_of_ble_eq_true rfl⟩ (Nat.le_of_ble_eq_true rfl) ?_
    refine v_iconst E dX2_enqueue_19 (v := (-1)) rfl ?_
    refine v_icmp_ne E dX2_enqueue_20 (tgt := 27) (by decide) (fun c20 => ?_) (fun c20 => ?_)
    · refine v_iconst E dX2_enqueue_27 (v := nI 0) rfl ?_
      refine v_top (y := bI ((zin (nI (t)) (z_nt S) && z_T S (t)) && decide (plc (z_Q S) (z_qn S) (t) = 0))) (by rw [decide_eq_false (fun q => c20 ((oI_m1 (by omega)).mpr q)), Bool.and_false]; rfl) ?_
      refine x_cVn E hA hTx dX2_enqueue_28 (x_X2_goes l D cI cZ cQ cJ b S (th) hok (zin (((nI (t)))) (z_nt S)) ((zin (nI (t)) (z_nt S) && z_T S (t)) && decide (plc (z_Q S) (z_qn S) (t) = 0))) (cwV 2 E.2.2.2.1 gX2_enqueue_X2_goes rfl rfl rfl (by decide +kernel) ⟨Nat.le_of_ble_eq_true rfl, Nat.le_of_ble_eq_true rfl⟩) 0 rfl rfl rfl rfl rfl ⟨Nat.le_of_ble_eq_true rfl, Nat.le_of_ble_eq_true rfl⟩ (Nat.le_of_ble_eq_true rfl) ?_
      refine v_w (w' := wM cI b S (kk2 (zin (nI (t)) (z_nt S)) (z_T S (t) && decide (plc (z_Q S) (z_qn S) (t) = 0)))) (by rw [Bool.and_assoc, kk2_and]) ?_
      refine b_if_ne E dX2_enqueue_31 (tgt := 36) (by decide) (fun c31 => ?_) (fun c31 => ?_)
      · exact absurd (of_decide_eq_true (and_tt (and_tt c31).2).2) (fun q => c20 ((oI_m1 (by omega)).mpr q))
      · have hkn : kk2 (zin (nI (t)) (z_nt S)) (z_T S (t) && decide (plc (z_Q S) (z_qn S) (t) = 0)) ≠ 0 := (by rw [← kk2_and, ← Bool.and_assoc]; exact kk2_bf c31)
        refine v_iconst E dX2_enqueue_34 (v := nI 0) rfl ?_
        exact y_ret E hr (by trivial) (by rw [mV_n hkn]) (by rw [mS_n hkn]) (by decide) (by decide) dX2_enqueue_35
    · refine v_iconst E dX2_enqueue_23 (v := nI 1) rfl ?_
      refine v_goto E dX2_enqueue_24 (tgt := 28) (by decide) ?_
      refine v_top (y := bI ((zin (nI (t)) (z_nt S) && z_T S (t)) && decide (plc (z_Q S) (z_qn S) (t) = 0))) (by rw [c11, decide_eq_true ((oI_m1 (by omega)).mp c20)]; rfl) ?_
      refine x_cVn E hA hTx dX2_enqueue_28 (x_X2_goes l D cI cZ cQ cJ b S (th) hok (zin (((nI (t)))) (z_nt S)) ((zin (nI (t)) (z_nt S) && z_T S (t)) && decide (plc (z_Q S) (z_qn S) (t) = 0))) (cwV 2 E.2.2.2.1 gX2_enqueue_X2_goes rfl rfl rfl (by decide +kernel) ⟨Nat.le_of_ble_eq_true rfl, Nat.le_of_ble_eq_true rfl⟩) 0 rfl rfl rfl rfl rfl ⟨Nat.le_of_ble_eq_true rfl, Nat.le_of_ble_eq_true rfl⟩ (Nat.le_of_ble_eq_true rfl) ?_
      refine v_w (w' := wM cI b S (kk2 (zin (nI (t)) (z_nt S)) (z_T S (t) && decide (plc (z_Q S) (z_qn S) (t) = 0)))) (by rw [Bool.and_assoc, kk2_and]) ?_
      refine b_if_ne E dX2_enqueue_31 (tgt := 36) (by decide) (fun c31 => ?_) (fun c31 => ?_)
      · have hk0 : kk2 (zin (nI (t)) (z_nt S)) (z_T S (t) && decide (plc (z_Q S) (z_qn S) (t) = 0)) = 0 := (by rw [← kk2_and, ← Bool.and_assoc]; exact kk2_bt c31)
        refine v_w (w' := wM cI b S 0) (by rw [hk0]) ?_
        obtain ⟨h1, h2⟩ := kk2_0 hk0
        obtain ⟨h3, h4⟩ := and_tt h2
        have hpz := of_decide_eq_true h4
        have hq12 := zqn_le (zOK_jn hok h3 (fun k hk => plc_n hpz k11.2 hk))
        have hq11 : z_qn S + 1 ≤ z_nt S := hq12
        refine v_aload_n E dX2_enqueue_36 0 rfl rfl ?_
        refine v_iload_n E dX2_enqueue_37 1 rfl rfl ?_
        refine x_cVn E hA hTx dX2_enqueue_38 (x_X2_joins l D cI cZ cQ cJ b S (0) hok (t) (by omega) (by omega)) (cwV 1 E.2.2.2.1 gX2_enqueue_X2_joins rfl rfl rfl (by decide +kernel) ⟨Nat.le_of_ble_eq_true rfl, Nat.le_of_ble_eq_true rfl⟩) 0 rfl rfl rfl rfl rfl ⟨Nat.le_of_ble_eq_true rfl, Nat.le_of_ble_eq_true rfl⟩ (Nat.le_of_ble_eq_true rfl) ?_
        refine v_aload_n E dX2_enqueue_41 0 rfl rfl ?_
        refine v_get E dX2_enqueue_42 0 14 hinX2 rfl rfl (by decide) (by decide +kernel) rfl rfl ?_
        exact y_ret E hr (by trivial) (by rw [mV_0 hk0]; rfl) (by rw [mS_0 hk0, hk0]) (by decide) (by decide) dX2_enqueue_45
      · have hkn : kk2 (zin (nI (t)) (z_nt S)) (z_T S (t) && decide (plc (z_Q S) (z_qn S) (t) = 0)) ≠ 0 := (by rw [← kk2_and, ← Bool.and_assoc]; exact kk2_bf c31)
        refine v_iconst E dX2_enqueue_34 (v := nI 0) rfl ?_
        exact y_ret E hr (by trivial) (by rw [mV_n hkn]) (by rw [mS_n hkn]) (by decide) (by decide) dX2_enqueue_35

set_option maxHeartbeats 4000000 in
set_option maxRecDepth 100000 in
theorem x_X2_take (l : Launch) (D : va_G) (cI cZ cQ cJ : ClassId) (b : Nat → Nat) (S : zS) (th : Nat) (hok : zOK S)   : v_Thr l yX2_take wsX2_take { frames := 5, cells := 0, slots := 0, locals := 114 } D (wTy cI cZ cQ cJ) [.ref (b 0)] (wM cI b S th) (0) exI (some (.int (mV (kk1 (decide (0 < z_qn S) && decide (0 < z_bu S))) (nI (z_Q S 0))))) (wM cI b (mS (kk1 (decide (0 < z_qn S) && decide (0 < z_bu S))) (stak S) S) (kk1 (decide (0 < z_qn S) && decide (0 < z_bu S)))) 0 0 := by
  refine v_thrower (cc := cX2_take) (maxL := 2) (ret := (some .int)) (own := RX2) (lv0 := [(0, .ref (b 0))]) (by decide) rfl rfl (Nat.le_of_ble_eq_true rfl) rfl ?_
  intro p9 e9 s9 m9 as9 bl9 me9 cd9 A E hA htab hTx hr
  have hinX2 : ∀ w ∈ u_ws RX2 TX2 16, w ∈ wsX2_take := by decide +kernel
  obtain ⟨⟨k1, k2, k3, k4, k5, k6, k7, k8⟩, k9, k10, k11, k12, k13⟩ := id hok
  have hqn := zqn_le hok
  refine v_aload_n E dX2_take_0 0 rfl rfl ?_
  refine v_aload_n E dX2_take_1 0 rfl rfl ?_
  refine v_get E dX2_take_2 0 14 hinX2 rfl rfl (by decide) (by decide +kernel) rfl rfl ?_
  refine n_if_le E dX2_take_5 (by omega) (tgt := 19) (by decide) (fun c5 => ?_) (fun c5 => ?_)
  · refine v_iconst E dX2_take_19 (v := nI 0) rfl ?_
    refine v_top (y := bI ((decide (0 < z_qn S) && decide (0 < z_bu S)))) (by rw [decide_eq_false (show ¬ 0 < z_qn S by omega)]; rfl) ?_
    refine v_iconst E dX2_take_20 (v := nI 1) rfl ?_
    refine v_top (y := bI (true)) rfl ?_
    refine x_cVn E hA hTx dX2_take_21 (x_X2_goes l D cI cZ cQ cJ b S (th) hok ((decide (0 < z_qn S) && decide (0 < z_bu S))) (true)) (cwV 2 E.2.2.2.1 gX2_take_X2_goes rfl rfl rfl (by decide +kernel) ⟨Nat.le_of_ble_eq_true rfl, Nat.le_of_ble_eq_true rfl⟩) 0 rfl rfl rfl rfl rfl ⟨Nat.le_of_ble_eq_true rfl, Nat.le_of_ble_eq_true rfl⟩ (Nat.le_of_ble_eq_true rfl) ?_
    refine v_w (w' := wM cI b S (kk1 (decide (0 < z_qn S) && decide (0 < z_bu S)))) (by rw [kk2_tt]) ?_
    refine b_if_ne E dX2_take_24 (tgt := 29) (by decide) (fun c24 => ?_) (fun c24 => ?_)
    · exact absurd (of_decide_eq_true (and_tt (and_tt c24).1).1) (by omega)
    · have hkn : kk1 (decide (0 < z_qn S) && decide (0 < z_bu S)) ≠ 0 := (by rw [← kk2_tt]; exact kk2_bf c24)
      refine v_iconst E dX2_take_27 (v := nI 0) rfl ?_
      exact y_ret E hr (by trivial) (by rw [mV_n hkn]) (by rw [mS_n hkn]) (by decide) (by decide) dX2_take_28
  · refine v_aload_n E dX2_take_8 0 rfl rfl ?_
    refine v_get E dX2_take_9 0 5 hinX2 rfl rfl (by decide) (by decide +kernel) rfl rfl ?_
    refine n_if_le E dX2_take_12 (by omega) (tgt := 19) (by decide) (fun c12 => ?_) (fun c12 => ?_)
    · refine v_iconst E dX2_take_19 (v := nI 0) rfl ?_
      refine v_top (y := bI ((decide (0 < z_qn S) && decide (0 < z_bu S)))) (by rw [decide_eq_false (show ¬ 0 < z_bu S by omega), Bool.and_false]; rfl) ?_
      refine v_iconst E dX2_take_20 (v := nI 1) rfl ?_
      refine v_top (y := bI (true)) rfl ?_
      refine x_cVn E hA hTx dX2_take_21 (x_X2_goes l D cI cZ cQ cJ b S (th) hok ((decide (0 < z_qn S) && decide (0 < z_bu S))) (true)) (cwV 2 E.2.2.2.1 gX2_take_X2_goes rfl rfl rfl (by decide +kernel) ⟨Nat.le_of_ble_eq_true rfl, Nat.le_of_ble_eq_true rfl⟩) 0 rfl rfl rfl rfl rfl ⟨Nat.le_of_ble_eq_true rfl, Nat.le_of_ble_eq_true rfl⟩ (Nat.le_of_ble_eq_true rfl) ?_
      refine v_w (w' := wM cI b S (kk1 (decide (0 < z_qn S) && decide (0 < z_bu S)))) (by rw [kk2_tt]) ?_
      refine b_if_ne E dX2_take_24 (tgt := 29) (by decide) (fun c24 => ?_) (fun c24 => ?_)
      · exact absurd (of_decide_eq_true (and_tt (and_tt c24).1).2) (by omega)
      · have hkn : kk1 (decide (0 < z_qn S) && decide (0 < z_bu S)) ≠ 0 := (by rw [← kk2_tt]; exact kk2_bf c24)
        refine v_iconst E dX2_take_27 (v := nI 0) rfl ?_
        exact y_ret E hr (by trivial) (by rw [mV_n hkn]) (by rw [mS_n hkn]) (by decide) (by decide) dX2_take_28
    · refine v_iconst E dX2_take_15 (v := nI 1) rfl ?_
      refine v_goto E dX2_take_16 (tgt := 20) (by decide) ?_
      refine v_top (y := bI ((decide (0 < z_qn S) && decide (0 < z_bu S)))) (by rw [decide_eq_true (show 0 < z_qn S by omega), decide_eq_true (show 0 < z_bu S by omega)]; rfl) ?_
      refine v_iconst E dX2_take_20 (v := nI 1) rfl ?_
      refine v_top (y := bI (true)) rfl ?_
      refine x_cVn E hA hTx dX2_take_21 (x_X2_goes l D cI cZ cQ cJ b S (th) hok ((decide (0 < z_qn S) && decide (0 < z_bu S))) (true)) (cwV 2 E.2.2.2.1 gX2_take_X2_goes rfl rfl rfl (by decide +kernel) ⟨Nat.le_of_ble_eq_true rfl, Nat.le_of_ble_eq_true rfl⟩) 0 rfl rfl rfl rfl rfl ⟨Nat.le_of_ble_eq_true rfl, Nat.le_of_ble_eq_true rfl⟩ (Nat.le_of_ble_eq_true rfl) ?_
      refine v_w (w' := wM cI b S (kk1 (decide (0 < z_qn S) && decide (0 < z_bu S)))) (by rw [kk2_tt]) ?_
      refine b_if_ne E dX2_take_24 (tgt := 29) (by decide) (fun c24 => ?_) (fun c24 => ?_)
      · have hk0 : kk1 (decide (0 < z_qn S) && decide (0 < z_bu S)) = 0 := (by rw [← kk2_tt]; exact kk2_bt c24)
        refine v_w (w' := wM cI b S 0) (by rw [hk0]) ?_
        obtain ⟨h1, h2⟩ := and_tt (kk1_z hk0)
        have h1 := of_decide_eq_true h1
        have h2 := of_decide_eq_true h2
        have hT0 := k11.1 0 h1
        obtain ⟨q1, q2, q3⟩ := k10 _ hT0
        have hok1 : zOK (zs_bu S (z_bu S - 1)) := zOK_bu hok (by omega)
        have hok2 : zOK (srm (zs_bu S (z_bu S - 1)) 0) := zOK_srm hok1 0 h1
        refine v_aload_n E dX2_take_29 0 rfl rfl ?_
        refine v_get E dX2_take_30 0 13 hinX2 rfl rfl (by decide) (by decide +kernel) rfl rfl ?_
        refine v_iconst E dX2_take_33 (v := nI 0) rfl ?_
        refine v_iald E dX2_take_34 8 0 rfl rfl (by omega) (by decide) rfl ?_
        refine v_top (y := nI (z_Q S 0)) rfl ?_
        refine v_istore_n E dX2_take_35 rfl (by decide) rfl ?_
        refine v_aload_n E dX2_take_36 1 rfl rfl ?_
        refine v_dup E dX2_take_37 rfl ?_
        refine v_get E dX2_take_38 0 5 hinX2 rfl rfl (by decide) (by decide +kernel) rfl rfl ?_
        refine v_iconst E dX2_take_41 (v := nI 1) rfl ?_
        refine v_isub E dX2_take_42 (pk_sub (by omega)) ?_
        refine v_put E dX2_take_43 0 5 tyX2 tyX2_ok nmX2 hinX2 rfl rfl (by decide) (by decide +kernel) rfl rfl rfl rfl rfl (Nat.le_of_ble_eq_true rfl) (w' := (wM cI b (zs_bu S (z_bu S - 1)) (0))) (wM_f_bu _) ?_
        refine v_aload_n E dX2_take_46 1 rfl rfl ?_
        refine v_iconst E dX2_take_47 (v := nI 0) rfl ?_
        refine x_cVn E hA hTx dX2_take_48 (x_X2_leaves l D cI cZ cQ cJ b (zs_bu S (z_bu S - 1)) (0) hok1 (0) h1) (cwV 1 E.2.2.2.1 gX2_take_X2_leaves rfl rfl rfl (by decide +kernel) ⟨Nat.le_of_ble_eq_true rfl, Nat.le_of_ble_eq_true rfl⟩) 0 rfl rfl rfl rfl rfl ⟨Nat.le_of_ble_eq_true rfl, Nat.le_of_ble_eq_true rfl⟩ (Nat.le_of_ble_eq_true rfl) ?_
        refine v_aload_n E dX2_take_51 1 rfl rfl ?_
        refine v_iload_n E dX2_take_52 0 rfl rfl ?_
        refine v_cVi' E dX2_take_53 (x_X2_candidatesOf l D cI cZ cQ cJ b (srm (zs_bu S (z_bu S - 1)) (0)) (0) hok2 (z_Q S 0) (by omega) hT0) (cwV 1 E.2.2.2.1 gX2_take_X2_candidatesOf rfl rfl rfl (by decide +kernel) ⟨Nat.le_of_ble_eq_true rfl, Nat.le_of_ble_eq_true rfl⟩) 0 rfl rfl rfl (fun _ h => h) rfl rfl ⟨Nat.le_of_ble_eq_true rfl, Nat.le_of_ble_eq_true rfl⟩ (Nat.le_of_ble_eq_true rfl) ?_
        refine v_top (y := nI (zcc S (z_Q S 0))) (congrArg nI (show zcc (srm (zs_bu S (z_bu S - 1)) 0) (z_Q S 0) = zcc S (z_Q S 0) from rfl)) ?_
        refine v_iconst E dX2_take_56 (v := nI 1) rfl ?_
        have hzl : zcc S (z_Q S 0) ≤ z_B S (z_Q S 0) + 1 := ct_le _ _
        refine n_icmp_le E dX2_take_57 (by omega) (by omega) (tgt := 65) (by decide) (fun c57 => ?_) (fun c57 => ?_)
        · refine v_iload_n E dX2_take_65 0 rfl rfl ?_
          exact y_ret E hr (by trivial) (by rw [mV_0 hk0]) (by rw [mS_0 hk0, hk0]; rw [show stak S = (srm (zs_bu S (z_bu S - 1)) 0) from if_neg (by omega)]) (by decide) (by decide) dX2_take_66
        · refine v_aload_n E dX2_take_60 1 rfl rfl ?_
          refine v_iload_n E dX2_take_61 0 rfl rfl ?_
          refine x_cVn E hA hTx dX2_take_62 (x_X2_joins l D cI cZ cQ cJ b (srm (zs_bu S (z_bu S - 1)) (0)) (0) hok2 (z_Q S 0) (by omega) (show z_qn S - 1 < 12 by omega)) (cwV 1 E.2.2.2.1 gX2_take_X2_joins rfl rfl rfl (by decide +kernel) ⟨Nat.le_of_ble_eq_true rfl, Nat.le_of_ble_eq_true rfl⟩) 0 rfl rfl rfl rfl rfl ⟨Nat.le_of_ble_eq_true rfl, Nat.le_of_ble_eq_true rfl⟩ (Nat.le_of_ble_eq_true rfl) ?_
          refine v_iload_n E dX2_take_65 0 rfl rfl ?_
          exact y_ret E hr (by trivial) (by rw [mV_0 hk0]) (by rw [mS_0 hk0, hk0]; rw [show stak S = sjn (srm (zs_bu S (z_bu S - 1)) 0) (z_Q S 0) from if_pos (by omega)]) (by decide) (by decide) dX2_take_66
      · have hkn : kk1 (decide (0 < z_qn S) && decide (0 < z_bu S)) ≠ 0 := (by rw [← kk2_tt]; exact kk2_bf c24)
        refine v_iconst E dX2_take_27 (v := nI 0) rfl ?_
        exact y_ret E hr (by trivial) (by rw [mV_n hkn]) (by rw [mS_n hkn]) (by decide) (by decide) dX2_take_28

set_option maxHeartbeats 4000000 in
set_option maxRecDepth 100000 in
theorem x_X2_commits (l : Launch) (D : va_G) (cI cZ cQ cJ : ClassId) (b : Nat → Nat) (S : zS) (th : Nat) (hok : zOK S)   : v_Thr l yX2_commits wsX2_commits { frames := 1, cells := 0, slots := 0, locals := 21 } D (wTy cI cZ cQ cJ) [.ref (b 0)] (wM cI b S th) (0) exI (some (.int (nI (z_nc S)))) (wM cI b S 0) 0 0 := by
  refine v_thrower (cc := cX2_commits) (maxL := 1) (ret := (some .int)) (own := RX2) (lv0 := [(0, .ref (b 0))]) (by decide) rfl rfl (Nat.le_of_ble_eq_true rfl) rfl ?_
  intro p9 e9 s9 m9 as9 bl9 me9 cd9 A E hA htab hTx hr
  have hinX2 : ∀ w ∈ u_ws RX2 TX2 16, w ∈ wsX2_commits := by decide +kernel
  refine v_aload_n E dX2_commits_0 0 rfl rfl ?_
  refine v_aload_n E dX2_commits_1 0 rfl rfl ?_
  refine v_get E dX2_commits_2 0 0 hinX2 rfl rfl (by decide) (by decide +kernel) rfl rfl ?_
  refine x_cVn E hA hTx dX2_commits_5 (x_X2_told l D cI cZ cQ cJ b S (th) hok (nI (z_nc S))) (cwV 1 E.2.2.2.1 gX2_commits_X2_told rfl rfl rfl (by decide +kernel) ⟨Nat.le_of_ble_eq_true rfl, Nat.le_of_ble_eq_true rfl⟩) 0 rfl rfl rfl rfl rfl ⟨Nat.le_of_ble_eq_true rfl, Nat.le_of_ble_eq_true rfl⟩ (Nat.le_of_ble_eq_true rfl) ?_
  exact y_ret E hr rfl rfl rfl (by decide) (by decide) dX2_commits_8

set_option maxHeartbeats 4000000 in
set_option maxRecDepth 100000 in
theorem x_X2_tests (l : Launch) (D : va_G) (cI cZ cQ cJ : ClassId) (b : Nat → Nat) (S : zS) (th : Nat) (hok : zOK S)   : v_Thr l yX2_tests wsX2_tests { frames := 1, cells := 0, slots := 0, locals := 21 } D (wTy cI cZ cQ cJ) [.ref (b 0)] (wM cI b S th) (0) exI (some (.int (nI (z_nt S)))) (wM cI b S 0) 0 0 := by
  refine v_thrower (cc := cX2_tests) (maxL := 1) (ret := (some .int)) (own := RX2) (lv0 := [(0, .ref (b 0))]) (by decide) rfl rfl (Nat.le_of_ble_eq_true rfl) rfl ?_
  intro p9 e9 s9 m9 as9 bl9 me9 cd9 A E hA htab hTx hr
  have hinX2 : ∀ w ∈ u_ws RX2 TX2 16, w ∈ wsX2_tests := by decide +kernel
  refine v_aload_n E dX2_tests_0 0 rfl rfl ?_
  refine v_aload_n E dX2_tests_1 0 rfl rfl ?_
  refine v_get E dX2_tests_2 0 1 hinX2 rfl rfl (by decide) (by decide +kernel) rfl rfl ?_
  refine x_cVn E hA hTx dX2_tests_5 (x_X2_told l D cI cZ cQ cJ b S (th) hok (nI (z_nt S))) (cwV 1 E.2.2.2.1 gX2_tests_X2_told rfl rfl rfl (by decide +kernel) ⟨Nat.le_of_ble_eq_true rfl, Nat.le_of_ble_eq_true rfl⟩) 0 rfl rfl rfl rfl rfl ⟨Nat.le_of_ble_eq_true rfl, Nat.le_of_ble_eq_true rfl⟩ (Nat.le_of_ble_eq_true rfl) ?_
  exact y_ret E hr rfl rfl rfl (by decide) (by decide) dX2_tests_8

set_option maxHeartbeats 4000000 in
set_option maxRecDepth 100000 in
theorem x_X2_budget (l : Launch) (D : va_G) (cI cZ cQ cJ : ClassId) (b : Nat → Nat) (S : zS) (th : Nat) (hok : zOK S)   : v_Thr l yX2_budget wsX2_budget { frames := 1, cells := 0, slots := 0, locals := 21 } D (wTy cI cZ cQ cJ) [.ref (b 0)] (wM cI b S th) (0) exI (some (.int (nI (z_bu S)))) (wM cI b S 0) 0 0 := by
  refine v_thrower (cc := cX2_budget) (maxL := 1) (ret := (some .int)) (own := RX2) (lv0 := [(0, .ref (b 0))]) (by decide) rfl rfl (Nat.le_of_ble_eq_true rfl) rfl ?_
  intro p9 e9 s9 m9 as9 bl9 me9 cd9 A E hA htab hTx hr
  have hinX2 : ∀ w ∈ u_ws RX2 TX2 16, w ∈ wsX2_budget := by decide +kernel
  refine v_aload_n E dX2_budget_0 0 rfl rfl ?_
  refine v_aload_n E dX2_budget_1 0 rfl rfl ?_
  refine v_get E dX2_budget_2 0 5 hinX2 rfl rfl (by decide) (by decide +kernel) rfl rfl ?_
  refine x_cVn E hA hTx dX2_budget_5 (x_X2_told l D cI cZ cQ cJ b S (th) hok (nI (z_bu S))) (cwV 1 E.2.2.2.1 gX2_budget_X2_told rfl rfl rfl (by decide +kernel) ⟨Nat.le_of_ble_eq_true rfl, Nat.le_of_ble_eq_true rfl⟩) 0 rfl rfl rfl rfl rfl ⟨Nat.le_of_ble_eq_true rfl, Nat.le_of_ble_eq_true rfl⟩ (Nat.le_of_ble_eq_true rfl) ?_
  exact y_ret E hr rfl rfl rfl (by decide) (by decide) dX2_budget_8

set_option maxHeartbeats 4000000 in
set_option maxRecDepth 100000 in
theorem x_X2_queued (l : Launch) (D : va_G) (cI cZ cQ cJ : ClassId) (b : Nat → Nat) (S : zS) (th : Nat) (hok : zOK S)   : v_Thr l yX2_queued wsX2_queued { frames := 1, cells := 0, slots := 0, locals := 21 } D (wTy cI cZ cQ cJ) [.ref (b 0)] (wM cI b S th) (0) exI (some (.int (nI (z_qn S)))) (wM cI b S 0) 0 0 := by
  refine v_thrower (cc := cX2_queued) (maxL := 1) (ret := (some .int)) (own := RX2) (lv0 := [(0, .ref (b 0))]) (by decide) rfl rfl (Nat.le_of_ble_eq_true rfl) rfl ?_
  intro p9 e9 s9 m9 as9 bl9 me9 cd9 A E hA htab hTx hr
  have hinX2 : ∀ w ∈ u_ws RX2 TX2 16, w ∈ wsX2_queued := by decide +kernel
  refine v_aload_n E dX2_queued_0 0 rfl rfl ?_
  refine v_aload_n E dX2_queued_1 0 rfl rfl ?_
  refine v_get E dX2_queued_2 0 14 hinX2 rfl rfl (by decide) (by decide +kernel) rfl rfl ?_
  refine x_cVn E hA hTx dX2_queued_5 (x_X2_told l D cI cZ cQ cJ b S (th) hok (nI (z_qn S))) (cwV 1 E.2.2.2.1 gX2_queued_X2_told rfl rfl rfl (by decide +kernel) ⟨Nat.le_of_ble_eq_true rfl, Nat.le_of_ble_eq_true rfl⟩) 0 rfl rfl rfl rfl rfl ⟨Nat.le_of_ble_eq_true rfl, Nat.le_of_ble_eq_true rfl⟩ (Nat.le_of_ble_eq_true rfl) ?_
  exact y_ret E hr rfl rfl rfl (by decide) (by decide) dX2_queued_8

