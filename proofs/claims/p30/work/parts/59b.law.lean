/-! ===== the law: from its first store on ===== -/
abbrev LV (p : Program) (l : Launch) (e : Env) (s : State) (m : MethodId) (b : Nat) (below : List Frame) (meth : Method) (c : Code) (D : va_G) (cells slots pc : Nat) (lv : List (Nat × Value)) (st : List Value) (w : va_W) : Prop :=
  V p l e room_1 s m #[Value.ref b] below meth c cells slots (lw_Z below #[Value.ref b] s) (v_rw D (fun q : Nat => s.heap.size ≤ q) s) 15 pc lv st w
abbrev LE9 (p : Program) (s : State) (m : MethodId) (b : Nat) (meth : Method) (c : Code) (D : va_G) (cI cZ cQ cJ : ClassId) : Prop := v_E p s m #[Value.ref b] meth c D (wTy cI cZ cQ cJ) cL_law 15 wsL_law RL (v_rw D (fun q : Nat => s.heap.size ≤ q) s)
def kx9 (L : Nat) (xs : Nat → Int32) (k : Nat) : Int32 := if k < 12 then nI (k % 5) else at9 L xs (2 * k)
section LAWL
variable {p : Program} {l : Launch} {e : Env} {s : State} {m : MethodId} {below : List Frame} {meth : Method} {c : Code} {D : va_G} {cI cZ cQ cJ : ClassId} {b L : Nat} {xs : Nat → Int32} {a bx : Nat → Nat} {cells slots : Nat}
theorem v_lawret (E : LE9 p s m b meth c D cI cZ cQ cJ) (hr : meth.sig.returnType = ret) {lv : List (Nat × Value)} {w : va_W} (hc : cells ≤ 718090) (hs : slots ≤ 6947199) : LV p l e s m b below meth c D cells slots 364 lv [.int (nI 1)] w := by
  intro H locs ls hP hl
  refine va_forget (fun q hq => hP.2.2.2.2 q hq) ?_
  refine W.widen (k := 718090) (n := 6947199) hc hs ?_
  exact lw_ret E.1 E.2.1 hr E.2.2.2.2.2.2.1 dL_law_364
theorem zN_0 : zN S0 := fun t c _ => ⟨rfl, rfl⟩
set_option maxHeartbeats 16000000 in
set_option maxRecDepth 100000 in
theorem law_53 (E : LE9 p s m b meth c D cI cZ cQ cJ) (hr : meth.sig.returnType = ret) (hA : ∀ q : Nat, s.heap.size ≤ q → (fun q : Nat => s.heap.size ≤ q) q) (hTx : z_Tx (fun q : Nat => s.heap.size ≤ q) s s.heap) (hl : l.stackTraces = false) (hX : va_X b L xs s s.heap) (hbl : b < s.heap.size) (hbA : ¬ (fun q : Nat => s.heap.size ≤ q) b) (hL : L ≤ 260) : LV p l e s m b below meth c D (80) (6200) 53 [(0, .ref (b)), (1, .ref (a 0)), (2, .ref (bx 0)), (3, .ref (bx 1)), (4, .ref (bx 2)), (5, .ref (bx 3)), (6, .ref (bx 4)), (7, .ref (bx 5)), (8, .ref (bx 6)), (9, .ref (bx 7))] [] ((wA cI bx (z_U S0) (z_C S0) (z_D S0) (g9 S0) (z_B S0) (f9 S0) (fun _ => 0) (n9 0 0 0 0 0)) ++ wX cI cZ cQ a S0) := by
  have e1 : z_nc S0 = 0 := rfl
  have e2 : z_nt S0 = 0 := rfl
  have e3 : z_bu S0 = 0 := rfl
  have e4 : z_qn S0 = 0 := rfl
  refine v_aload E dL_law_53 9 rfl ?_
  refine v_iconst E dL_law_55 (v := nI 1) rfl ?_
  refine v_iconst E dL_law_56 (v := nI 2) rfl ?_
  refine v_iast E dL_law_57 7 0 rfl rfl (by omega) (by decide) (w' := ((wA cI bx (z_U S0) (z_C S0) (z_D S0) (g9 S0) (z_B S0) (f9 S0) (fun _ => 0) (n9 0 2 0 0 0)) ++ wX cI cZ cQ a S0)) (wA_n1 _) ?_
  refine v_aload E dL_law_58 9 rfl ?_
  refine v_iconst E dL_law_60 (v := nI 2) rfl ?_
  refine v_bipush E dL_law_61 (v := nI 10) rfl ?_
  refine v_iast E dL_law_63 7 0 rfl rfl (by omega) (by decide) (w' := ((wA cI bx (z_U S0) (z_C S0) (z_D S0) (g9 S0) (z_B S0) (f9 S0) (fun _ => 0) (n9 0 2 10 0 0)) ++ wX cI cZ cQ a S0)) (wA_n2 _) ?_
  refine v_aload_n E dL_law_64 1 rfl rfl ?_
  refine v_cVi' E dL_law_65 (x_X1_commits l D cI cZ cQ cJ a S0 zOK_0) (cwV 0 E.2.2.2.1 gL_law_X1_commits rfl rfl rfl (by decide +kernel) ⟨Nat.le_of_ble_eq_true rfl, Nat.le_of_ble_eq_true rfl⟩) 8 rfl rfl rfl (fun H h => subR H h) rfl rfl ⟨(by show _ ≤ 718090; omega), (by show _ ≤ 6947199; omega)⟩ (Nat.le_of_ble_eq_true rfl) ?_
  refine n_if_ne E dL_law_68 (by omega) (tgt := 115) (by decide) (fun c68 => ?_) (fun c68 => ?_)
  · exact absurd c68 (by omega)
  · refine v_aload_n E dL_law_71 1 rfl rfl ?_
    refine v_cVi' E dL_law_72 (x_X1_tests l D cI cZ cQ cJ a S0 zOK_0) (cwV 0 E.2.2.2.1 gL_law_X1_tests rfl rfl rfl (by decide +kernel) ⟨Nat.le_of_ble_eq_true rfl, Nat.le_of_ble_eq_true rfl⟩) 8 rfl rfl rfl (fun H h => subR H h) rfl rfl ⟨(by show _ ≤ 718090; omega), (by show _ ≤ 6947199; omega)⟩ (Nat.le_of_ble_eq_true rfl) ?_
    refine n_if_ne E dL_law_75 (by omega) (tgt := 115) (by decide) (fun c75 => ?_) (fun c75 => ?_)
    · exact absurd c75 (by omega)
    · refine v_aload_n E dL_law_78 1 rfl rfl ?_
      refine v_cVi' E dL_law_79 (x_X1_budget l D cI cZ cQ cJ a S0 zOK_0) (cwV 0 E.2.2.2.1 gL_law_X1_budget rfl rfl rfl (by decide +kernel) ⟨Nat.le_of_ble_eq_true rfl, Nat.le_of_ble_eq_true rfl⟩) 8 rfl rfl rfl (fun H h => subR H h) rfl rfl ⟨(by show _ ≤ 718090; omega), (by show _ ≤ 6947199; omega)⟩ (Nat.le_of_ble_eq_true rfl) ?_
      refine n_if_ne E dL_law_82 (by omega) (tgt := 115) (by decide) (fun c82 => ?_) (fun c82 => ?_)
      · exact absurd c82 (by omega)
      · refine v_aload_n E dL_law_85 1 rfl rfl ?_
        refine v_cVi' E dL_law_86 (x_X1_queued l D cI cZ cQ cJ a S0 zOK_0) (cwV 0 E.2.2.2.1 gL_law_X1_queued rfl rfl rfl (by decide +kernel) ⟨Nat.le_of_ble_eq_true rfl, Nat.le_of_ble_eq_true rfl⟩) 8 rfl rfl rfl (fun H h => subR H h) rfl rfl ⟨(by show _ ≤ 718090; omega), (by show _ ≤ 6947199; omega)⟩ (Nat.le_of_ble_eq_true rfl) ?_
        refine n_if_ne E dL_law_89 (by omega) (tgt := 115) (by decide) (fun c89 => ?_) (fun c89 => ?_)
        · exact absurd c89 (by omega)
        · refine v_aload_n E dL_law_92 1 rfl rfl ?_
          refine x_cSn E hA hTx dL_law_93 (l_takeF l D cI cZ cQ cJ a S0 zOK_0 hl (wA cI bx (z_U S0) (z_C S0) (z_D S0) (g9 S0) (z_B S0) (f9 S0) (fun _ => 0) (n9 0 2 10 0 0))  (Or.inl rfl)) (vx_cwSW 1 E.2.2.2.1 gL_law_L_take rfl rfl rfl (by decide +kernel) ⟨Nat.le_of_ble_eq_true rfl, Nat.le_of_ble_eq_true rfl⟩) rfl rfl ⟨(by show _ ≤ 718090; omega), (by show _ ≤ 6947199; omega)⟩ (Nat.le_of_ble_eq_true rfl) ?_
          refine v_ldc E dL_law_96 (v := -1000003) (x := (-1000003)) (by decide +kernel) rfl ?_
          refine v_icmp_ne E dL_law_98 (tgt := 115) (by decide) (fun c98 => ?_) (fun c98 => ?_)
          · exact absurd rfl c98
          · refine v_aload_n E dL_law_101 1 rfl rfl ?_
            refine v_iconst E dL_law_102 (v := nI 0) rfl ?_
            refine x_cSn E hA hTx dL_law_103 (l_partsOfX l D cI cZ cQ cJ a S0 zOK_0 hl (wA cI bx (z_U S0) (z_C S0) (z_D S0) (g9 S0) (z_B S0) (f9 S0) (fun _ => 0) (n9 0 2 10 0 0))  rfl) (vx_cwSW 2 E.2.2.2.1 gL_law_L_partsOf rfl rfl rfl (by decide +kernel) ⟨Nat.le_of_ble_eq_true rfl, Nat.le_of_ble_eq_true rfl⟩) rfl rfl ⟨(by show _ ≤ 718090; omega), (by show _ ≤ 6947199; omega)⟩ (Nat.le_of_ble_eq_true rfl) ?_
            refine v_ldc E dL_law_106 (v := -1000001) (x := (-1000001)) (by decide +kernel) rfl ?_
            refine v_icmp_ne E dL_law_108 (tgt := 115) (by decide) (fun c108 => ?_) (fun c108 => ?_)
            · exact absurd rfl c108
            · refine v_iconst E dL_law_111 (v := nI 1) rfl ?_
              refine v_goto E dL_law_112 (tgt := 116) (by decide) ?_
              refine v_istore E dL_law_116 (by decide) rfl ?_
              refine v_iconst E dL_law_118 (v := nI 0) rfl ?_
              refine v_istore E dL_law_119 (by decide) rfl ?_
              have L121_1 : ∀ (n121 : Nat) (k : Nat) (S : zS) (qf : Nat → Nat), 80 - k < n121 → (k ≤ 80) → (zOK S) → (zN S) → (∀ i, i < z_qn S → qf i = z_Q S i) → LV p l e s m b below meth c D (100 + 7951 * k) (7000 + 47706 * k) 121 [(10, .int (nI (1))), (11, .int (nI (k))), (0, .ref (b)), (1, .ref (a 0)), (2, .ref (bx 0)), (3, .ref (bx 1)), (4, .ref (bx 2)), (5, .ref (bx 3)), (6, .ref (bx 4)), (7, .ref (bx 5)), (8, .ref (bx 6)), (9, .ref (bx 7))] [] ((wA cI bx (z_U S) (z_C S) (z_D S) (g9 S) (z_B S) (f9 S) qf (n9 (z_no S) (z_li S) (z_wi S) (z_bu S) (z_qn S))) ++ wX cI cZ cQ a S) := by
                intro n121
                induction n121 with
                | zero => intro k S qf hm121 hk hok hN hq; exact absurd hm121 (Nat.not_lt_zero _)
                | succ n121 ih121 =>
                  intro k S qf hm121 hk hok hN hq
                  refine v_iload E dL_law_121 1 rfl ?_
                  refine v_bipush E dL_law_123 (v := nI 80) rfl ?_
                  refine n_icmp_ge E dL_law_125 (by omega) (by omega) (tgt := 310) (by decide) (fun c125 => ?_) (fun c125 => ?_)
                  · refine v_iload E dL_law_310 0 rfl ?_
                    refine n_if_eq E dL_law_312 (by omega) (tgt := 363) (by decide) (fun c312 => ?_) (fun c312 => ?_)
                    · exact absurd c312 (by omega)
                    · refine v_aload_n E dL_law_315 3 rfl rfl ?_
                      refine v_bipush E dL_law_316 (v := nI 12) rfl ?_
                      refine x_cSn E hA hTx dL_law_318 (l_suspectsX l D cI cZ cQ cJ a S hok hl (wA cI bx (z_U S) (z_C S) (z_D S) (g9 S) (z_B S) (f9 S) qf (n9 (z_no S) (z_li S) (z_wi S) (z_bu S) (z_qn S)))  ) (vx_cwSW 2 E.2.2.2.1 gL_law_L_suspects rfl rfl rfl (by decide +kernel) ⟨Nat.le_of_ble_eq_true rfl, Nat.le_of_ble_eq_true rfl⟩) rfl rfl ⟨(by show _ ≤ 718090; omega), (by show _ ≤ 6947199; omega)⟩ (Nat.le_of_ble_eq_true rfl) ?_
                      refine v_ldc2 E dL_law_321 (v := -1000001) (x := (-1000001)) (by decide +kernel) rfl ?_
                      refine v_lcmp E dL_law_324 (z := nI (0)) (lcmp_self _) ?_
                      refine n_if_ne E dL_law_325 (by omega) (tgt := 363) (by decide) (fun c325 => ?_) (fun c325 => ?_)
                      · exact absurd c325 (by omega)
                      · refine v_aload_n E dL_law_328 3 rfl rfl ?_
                        refine v_iconst E dL_law_329 (v := (-1)) rfl ?_
                        refine x_cSn E hA hTx dL_law_330 (l_closeX l D cI cZ cQ cJ a S hok hl (wA cI bx (z_U S) (z_C S) (z_D S) (g9 S) (z_B S) (f9 S) qf (n9 (z_no S) (z_li S) (z_wi S) (z_bu S) (z_qn S)))  ) (vx_cwSW 2 E.2.2.2.1 gL_law_L_close rfl rfl rfl (by decide +kernel) ⟨Nat.le_of_ble_eq_true rfl, Nat.le_of_ble_eq_true rfl⟩) rfl rfl ⟨(by show _ ≤ 718090; omega), (by show _ ≤ 6947199; omega)⟩ (Nat.le_of_ble_eq_true rfl) ?_
                        refine v_ldc E dL_law_333 (v := -1000001) (x := (-1000001)) (by decide +kernel) rfl ?_
                        refine v_icmp_ne E dL_law_335 (tgt := 363) (by decide) (fun c335 => ?_) (fun c335 => ?_)
                        · exact absurd rfl c335
                        · refine v_aload_n E dL_law_338 3 rfl rfl ?_
                          refine v_bipush E dL_law_339 (v := nI 12) rfl ?_
                          refine x_cSn E hA hTx dL_law_341 (l_enqueueX l D cI cZ cQ cJ a S hok hl (wA cI bx (z_U S) (z_C S) (z_D S) (g9 S) (z_B S) (f9 S) qf (n9 (z_no S) (z_li S) (z_wi S) (z_bu S) (z_qn S)))  ) (vx_cwSW 2 E.2.2.2.1 gL_law_L_enqueue rfl rfl rfl (by decide +kernel) ⟨Nat.le_of_ble_eq_true rfl, Nat.le_of_ble_eq_true rfl⟩) rfl rfl ⟨(by show _ ≤ 718090; omega), (by show _ ≤ 6947199; omega)⟩ (Nat.le_of_ble_eq_true rfl) ?_
                          refine v_ldc E dL_law_344 (v := -1000001) (x := (-1000001)) (by decide +kernel) rfl ?_
                          refine v_icmp_ne E dL_law_346 (tgt := 363) (by decide) (fun c346 => ?_) (fun c346 => ?_)
                          · exact absurd rfl c346
                          · refine v_aload_n E dL_law_349 3 rfl rfl ?_
                            refine v_iconst E dL_law_350 (v := (-1)) rfl ?_
                            refine x_cSn E hA hTx dL_law_351 (l_nextX l D cI cZ cQ cJ a S hok hl (wA cI bx (z_U S) (z_C S) (z_D S) (g9 S) (z_B S) (f9 S) qf (n9 (z_no S) (z_li S) (z_wi S) (z_bu S) (z_qn S)))  ) (vx_cwSW 2 E.2.2.2.1 gL_law_L_next rfl rfl rfl (by decide +kernel) ⟨Nat.le_of_ble_eq_true rfl, Nat.le_of_ble_eq_true rfl⟩) rfl rfl ⟨(by show _ ≤ 718090; omega), (by show _ ≤ 6947199; omega)⟩ (Nat.le_of_ble_eq_true rfl) ?_
                            refine v_ldc E dL_law_354 (v := -1000001) (x := (-1000001)) (by decide +kernel) rfl ?_
                            refine v_icmp_ne E dL_law_356 (tgt := 363) (by decide) (fun c356 => ?_) (fun c356 => ?_)
                            · exact absurd rfl c356
                            · refine v_iconst E dL_law_359 (v := nI 1) rfl ?_
                              refine v_goto E dL_law_360 (tgt := 364) (by decide) ?_
                              exact v_lawret E hr (by omega) (by omega)
                  · refine v_iload E dL_law_128 0 rfl ?_
                    refine n_if_eq E dL_law_130 (by omega) (tgt := 310) (by decide) (fun c130 => ?_) (fun c130 => ?_)
                    · exact absurd c130 (by omega)
                    · refine v_aload_n E dL_law_133 2 rfl rfl ?_
                      refine v_iconst E dL_law_134 (v := nI 2) rfl ?_
                      refine v_iload E dL_law_135 1 rfl ?_
                      refine v_imul E dL_law_137 (z := nI (2 * k)) (pk_mul _ _) ?_
                      refine x_cAt E dL_law_138 (x_L_at l D (wTy cI cZ cQ cJ) b L xs (2 * k) (by omega) (by omega)) (va_cwS 2 E.2.2.2.1 gL_law_L_at rfl rfl rfl (by decide +kernel) ⟨Nat.le_of_ble_eq_true rfl, Nat.le_of_ble_eq_true rfl⟩) hX hbl hbA rfl rfl ⟨(by show _ ≤ 718090; omega), (by show _ ≤ 6947199; omega)⟩ (Nat.le_of_ble_eq_true rfl) ?_
                      refine v_istore E dL_law_141 (by decide) rfl ?_
                      refine v_aload_n E dL_law_143 3 rfl rfl ?_
                      refine v_iconst E dL_law_144 (v := nI 2) rfl ?_
                      refine v_iload E dL_law_145 2 rfl ?_
                      refine v_imul E dL_law_147 (z := nI (2 * k)) (pk_mul _ _) ?_
                      refine v_iconst E dL_law_148 (v := nI 1) rfl ?_
                      refine v_iadd E dL_law_149 (nI_add _ _) ?_
                      refine x_cAt E dL_law_150 (x_L_at l D (wTy cI cZ cQ cJ) b L xs (2 * k + 1) (by omega) (by omega)) (va_cwS 2 E.2.2.2.1 gL_law_L_at rfl rfl rfl (by decide +kernel) ⟨Nat.le_of_ble_eq_true rfl, Nat.le_of_ble_eq_true rfl⟩) hX hbl hbA rfl rfl ⟨(by show _ ≤ 718090; omega), (by show _ ≤ 6947199; omega)⟩ (Nat.le_of_ble_eq_true rfl) ?_
                      refine v_istore E dL_law_153 (by decide) rfl ?_
                      refine v_aload_n E dL_law_155 5 rfl rfl ?_
                      refine v_aload_n E dL_law_156 6 rfl rfl ?_
                      refine v_aload_n E dL_law_157 7 rfl rfl ?_
                      refine v_aload E dL_law_158 8 rfl ?_
                      refine v_aload E dL_law_160 9 rfl ?_
                      refine v_aload E dL_law_162 10 rfl ?_
                      refine v_aload E dL_law_164 11 rfl ?_
                      refine v_aload E dL_law_166 12 rfl ?_
                      refine v_aload E dL_law_168 13 rfl ?_
                      refine v_iload E dL_law_170 3 rfl ?_
                      refine v_bipush E dL_law_172 (v := nI 12) rfl ?_
                      have J186_2 : LV p l e s m b below meth c D (100 + 7951 * k) (7000 + 47706 * k) 186 [(13, .int ((at9 L xs (2 * k + 1)))), (12, .int ((at9 L xs (2 * k)))), (10, .int (nI (1))), (11, .int (nI (k))), (0, .ref (b)), (1, .ref (a 0)), (2, .ref (bx 0)), (3, .ref (bx 1)), (4, .ref (bx 2)), (5, .ref (bx 3)), (6, .ref (bx 4)), (7, .ref (bx 5)), (8, .ref (bx 6)), (9, .ref (bx 7))] [.int ((kx9 L xs k)), .ref (bx 7), .ref (bx 6), .ref (bx 5), .ref (bx 4), .ref (bx 3), .ref (bx 2), .ref (bx 1), .ref (bx 0), .ref (a 0)] ((wA cI bx (z_U S) (z_C S) (z_D S) (g9 S) (z_B S) (f9 S) qf (n9 (z_no S) (z_li S) (z_wi S) (z_bu S) (z_qn S))) ++ wX cI cZ cQ a S) := by
                        refine v_iload E dL_law_186 0 rfl ?_
                        obtain ⟨S2, qf2, hok2, hN2, hq2, hcon⟩ := acts_ex l D cI cZ cQ cJ a bx S hok hl qf hN hq (kx9 L xs k) (at9 L xs (2 * k + 1))
                        have hm1 := hok2.1.1
                        have hm2 := hok2.1.2.1
                        refine x_cSz E hA hTx dL_law_188 hcon (va_cwS 11 E.2.2.2.1 gL_law_L_acts rfl rfl rfl (by decide +kernel) ⟨Nat.le_of_ble_eq_true rfl, Nat.le_of_ble_eq_true rfl⟩) rfl rfl ⟨(by show _ ≤ 718090; omega), (by show _ ≤ 6947199; omega)⟩ (Nat.le_of_ble_eq_true rfl) ?_
                        refine n_if_eq E dL_law_191 (by omega) (tgt := 220) (by decide) (fun c191 => ?_) (fun c191 => ?_)
                        · exact absurd c191 (by omega)
                        · refine v_aload_n E dL_law_194 5 rfl rfl ?_
                          refine v_cVi' E dL_law_195 (x_X1_budget l D cI cZ cQ cJ a S2 hok2) (cwV 0 E.2.2.2.1 gL_law_X1_budget rfl rfl rfl (by decide +kernel) ⟨Nat.le_of_ble_eq_true rfl, Nat.le_of_ble_eq_true rfl⟩) 8 rfl rfl rfl (fun H h => subR H h) rfl rfl ⟨(by show _ ≤ 718090; omega), (by show _ ≤ 6947199; omega)⟩ (Nat.le_of_ble_eq_true rfl) ?_
                          refine v_aload E dL_law_198 13 rfl ?_
                          refine v_iconst E dL_law_200 (v := nI 3) rfl ?_
                          refine v_iald E dL_law_201 (v := nI (z_bu S2)) 7 0 rfl rfl (by omega) (by decide) rfl ?_
                          refine v_icmp_ne E dL_law_202 (tgt := 220) (by decide) (fun c202 => ?_) (fun c202 => ?_)
                          · exact absurd rfl c202
                          · refine v_aload_n E dL_law_205 5 rfl rfl ?_
                            refine v_cVi' E dL_law_206 (x_X1_queued l D cI cZ cQ cJ a S2 hok2) (cwV 0 E.2.2.2.1 gL_law_X1_queued rfl rfl rfl (by decide +kernel) ⟨Nat.le_of_ble_eq_true rfl, Nat.le_of_ble_eq_true rfl⟩) 8 rfl rfl rfl (fun H h => subR H h) rfl rfl ⟨(by show _ ≤ 718090; omega), (by show _ ≤ 6947199; omega)⟩ (Nat.le_of_ble_eq_true rfl) ?_
                            refine v_aload E dL_law_209 13 rfl ?_
                            refine v_iconst E dL_law_211 (v := nI 4) rfl ?_
                            refine v_iald E dL_law_212 (v := nI (z_qn S2)) 7 0 rfl rfl (by omega) (by decide) rfl ?_
                            refine v_icmp_ne E dL_law_213 (tgt := 220) (by decide) (fun c213 => ?_) (fun c213 => ?_)
                            · exact absurd rfl c213
                            · refine v_iconst E dL_law_216 (v := nI 1) rfl ?_
                              refine v_goto E dL_law_217 (tgt := 221) (by decide) ?_
                              refine v_istore E dL_law_221 (by decide) rfl ?_
                              refine v_iload E dL_law_223 0 rfl ?_
                              refine n_if_eq E dL_law_225 (by omega) (tgt := 304) (by decide) (fun c225 => ?_) (fun c225 => ?_)
                              · exact absurd c225 (by omega)
                              · refine v_iload E dL_law_228 3 rfl ?_
                                refine v_iconst E dL_law_230 (v := nI 4) rfl ?_
                                refine v_irem E dL_law_231 (z := nI (k % 4)) (n_ne0 (by omega) (by omega)) (pk_rem (by omega) (by omega) (by omega)) ?_
                                refine v_iconst E dL_law_232 (v := nI 3) rfl ?_
                                have J304_3 : LV p l e s m b below meth c D (100 + 7951 * (k + 1)) (7000 + 47706 * (k + 1)) 304 [(10, .int (nI (1))), (13, .int ((at9 L xs (2 * k + 1)))), (12, .int ((at9 L xs (2 * k)))), (11, .int (nI (k))), (0, .ref (b)), (1, .ref (a 0)), (2, .ref (bx 0)), (3, .ref (bx 1)), (4, .ref (bx 2)), (5, .ref (bx 3)), (6, .ref (bx 4)), (7, .ref (bx 5)), (8, .ref (bx 6)), (9, .ref (bx 7))] [] ((wA cI bx (z_U S2) (z_C S2) (z_D S2) (g9 S2) (z_B S2) (f9 S2) qf2 (n9 (z_no S2) (z_li S2) (z_wi S2) (z_bu S2) (z_qn S2))) ++ wX cI cZ cQ a S2) := by
                                  refine v_iinc E dL_law_304 3 rfl (nI_1 _) (by decide) rfl ?_
                                  refine v_goto E dL_law_307 (tgt := 121) (by decide) ?_
                                  refine v_lv [1, 0, 4, 5, 6, 7, 8, 9, 10, 11, 12, 13] rfl ?_
                                  exact ih121 (k + 1) (S2) (qf2) (by omega) (by omega) hok2 hN2 hq2
                                refine n_icmp_ne E dL_law_233 (by omega) (by omega) (tgt := 304) (by decide) (fun c233 => ?_) (fun c233 => ?_)
                                · refine v_more (c2 := 100 + 7951 * (k + 1)) (s2 := 7000 + 47706 * (k + 1)) (by omega) (by omega) ?_
                                  exact J304_3
                                · refine v_aload_n E dL_law_236 5 rfl rfl ?_
                                  refine v_aload_n E dL_law_237 7 rfl rfl ?_
                                  refine v_aload E dL_law_238 11 rfl ?_
                                  refine v_aload E dL_law_240 13 rfl ?_
                                  refine x_cSz E hA hTx dL_law_242 (z_verdicts l D cI cZ cQ cJ a bx S2 hok2 hl qf2 hN2) (va_cwS 4 E.2.2.2.1 gL_law_L_verdicts rfl rfl rfl (by decide +kernel) ⟨Nat.le_of_ble_eq_true rfl, Nat.le_of_ble_eq_true rfl⟩) rfl rfl ⟨(by show _ ≤ 718090; omega), (by show _ ≤ 6947199; omega)⟩ (Nat.le_of_ble_eq_true rfl) ?_
                                  refine v_istore E dL_law_245 (by decide) rfl ?_
                                  refine v_iconst E dL_law_247 (v := nI 0) rfl ?_
                                  refine v_istore E dL_law_248 (by decide) rfl ?_
                                  have L250_4 : ∀ (n250 : Nat) (t : Nat), z_nt S2 - t < n250 → (t ≤ z_nt S2) → LV p l e s m b below meth c D (100 + 7951 * k + 4003 + 329 * t) (7000 + 47706 * k + 24018 + 1974 * t) 250 [(10, .int (nI (1))), (14, .int (nI (t))), (13, .int ((at9 L xs (2 * k + 1)))), (12, .int ((at9 L xs (2 * k)))), (11, .int (nI (k))), (0, .ref (b)), (1, .ref (a 0)), (2, .ref (bx 0)), (3, .ref (bx 1)), (4, .ref (bx 2)), (5, .ref (bx 3)), (6, .ref (bx 4)), (7, .ref (bx 5)), (8, .ref (bx 6)), (9, .ref (bx 7))] [] ((wA cI bx (z_U S2) (z_C S2) (z_D S2) (g9 S2) (z_B S2) (f9 S2) qf2 (n9 (z_no S2) (z_li S2) (z_wi S2) (z_bu S2) (z_qn S2))) ++ wX cI cZ cQ a S2) := by
                                    intro n250
                                    induction n250 with
                                    | zero => intro t hm250 htt; exact absurd hm250 (Nat.not_lt_zero _)
                                    | succ n250 ih250 =>
                                      intro t hm250 htt
                                      refine v_iload E dL_law_250 1 rfl ?_
                                      refine v_aload_n E dL_law_252 6 rfl rfl ?_
                                      refine v_cVi' E dL_law_253 (x_X1_tests l D cI cZ cQ cJ a S2 hok2) (cwV 0 E.2.2.2.1 gL_law_X1_tests rfl rfl rfl (by decide +kernel) ⟨Nat.le_of_ble_eq_true rfl, Nat.le_of_ble_eq_true rfl⟩) 8 rfl rfl rfl (fun H h => subR H h) rfl rfl ⟨(by show _ ≤ 718090; omega), (by show _ ≤ 6947199; omega)⟩ (Nat.le_of_ble_eq_true rfl) ?_
                                      refine n_icmp_ge E dL_law_256 (by omega) (by omega) (tgt := 304) (by decide) (fun c256 => ?_) (fun c256 => ?_)
                                      · refine v_iinc E dL_law_304 4 rfl (nI_1 _) (by decide) rfl ?_
                                        refine v_goto E dL_law_307 (tgt := 121) (by decide) ?_
                                        refine v_more (c2 := 100 + 7951 * (k + 1)) (s2 := 7000 + 47706 * (k + 1)) (by omega) (by omega) ?_
                                        refine v_lv [1, 0, 5, 6, 7, 8, 9, 10, 11, 12, 13, 14] rfl ?_
                                        exact ih121 (k + 1) (S2) (qf2) (by omega) (by omega) hok2 hN2 hq2
                                      · refine v_iload E dL_law_259 0 rfl ?_
                                        refine n_if_eq E dL_law_261 (by omega) (tgt := 304) (by decide) (fun c261 => ?_) (fun c261 => ?_)
                                        · exact absurd c261 (by omega)
                                        · refine v_aload_n E dL_law_264 6 rfl rfl ?_
                                          refine v_aload_n E dL_law_265 7 rfl rfl ?_
                                          refine v_aload E dL_law_266 9 rfl ?_
                                          refine v_iload E dL_law_268 1 rfl ?_
                                          refine x_cSz E hA hTx dL_law_270 (z_parts l D cI cZ cQ cJ a bx S2 hok2 hl qf2 t c256) (va_cwS 4 E.2.2.2.1 gL_law_L_parts rfl rfl rfl (by decide +kernel) ⟨Nat.le_of_ble_eq_true rfl, Nat.le_of_ble_eq_true rfl⟩) rfl rfl ⟨(by show _ ≤ 718090; omega), (by show _ ≤ 6947199; omega)⟩ (Nat.le_of_ble_eq_true rfl) ?_
                                          refine n_if_eq E dL_law_273 (by omega) (tgt := 295) (by decide) (fun c273 => ?_) (fun c273 => ?_)
                                          · exact absurd c273 (by omega)
                                          · refine v_aload_n E dL_law_276 6 rfl rfl ?_
                                            refine v_aload E dL_law_277 10 rfl ?_
                                            refine v_aload E dL_law_279 11 rfl ?_
                                            refine v_aload E dL_law_281 14 rfl ?_
                                            refine v_iload E dL_law_283 1 rfl ?_
                                            refine x_cSz E hA hTx dL_law_285 (z_culprits l D cI cZ cQ cJ a bx S2 hok2 hl qf2 t c256) (va_cwS 5 E.2.2.2.1 gL_law_L_culprits rfl rfl rfl (by decide +kernel) ⟨Nat.le_of_ble_eq_true rfl, Nat.le_of_ble_eq_true rfl⟩) rfl rfl ⟨(by show _ ≤ 718090; omega), (by show _ ≤ 6947199; omega)⟩ (Nat.le_of_ble_eq_true rfl) ?_
                                            refine n_if_eq E dL_law_288 (by omega) (tgt := 295) (by decide) (fun c288 => ?_) (fun c288 => ?_)
                                            · exact absurd c288 (by omega)
                                            · refine v_iconst E dL_law_291 (v := nI 1) rfl ?_
                                              refine v_goto E dL_law_292 (tgt := 296) (by decide) ?_
                                              refine v_istore E dL_law_296 (by decide) rfl ?_
                                              refine v_iinc E dL_law_298 1 rfl (nI_1 _) (by decide) rfl ?_
                                              refine v_goto E dL_law_301 (tgt := 250) (by decide) ?_
                                              refine v_more (c2 := 100 + 7951 * k + 4003 + 329 * (t + 1)) (s2 := 7000 + 47706 * k + 24018 + 1974 * (t + 1)) (by omega) (by omega) ?_
                                              refine v_lv [1, 0, 2, 3, 4, 5, 6, 7, 8, 9, 10, 11, 12, 13, 14] rfl ?_
                                              exact ih250 (t + 1) (by omega) (by omega)
                                  refine v_more (c2 := 100 + 7951 * k + 4003 + 329 * (0)) (s2 := 7000 + 47706 * k + 24018 + 1974 * (0)) (by omega) (by omega) ?_
                                  refine v_lv [1, 0, 2, 3, 4, 5, 6, 7, 8, 9, 10, 11, 12, 13, 14] rfl ?_
                                  exact L250_4 (z_nt S2 - (0) + 1) (0) (by omega) (by omega)
                      refine n_icmp_ge E dL_law_174 (by omega) (by omega) (tgt := 184) (by decide) (fun c174 => ?_) (fun c174 => ?_)
                      · refine v_iload E dL_law_184 1 rfl ?_
                        refine v_top (y := ((kx9 L xs k))) (by unfold kx9; rw [if_neg (by omega)]) ?_
                        exact J186_2
                      · refine v_iload E dL_law_177 3 rfl ?_
                        refine v_iconst E dL_law_179 (v := nI 5) rfl ?_
                        refine v_irem E dL_law_180 (z := nI (k % 5)) (n_ne0 (by omega) (by omega)) (pk_rem (by omega) (by omega) (by omega)) ?_
                        refine v_goto E dL_law_181 (tgt := 186) (by decide) ?_
                        refine v_top (y := ((kx9 L xs k))) (by unfold kx9; rw [if_pos c174]) ?_
                        exact J186_2
              refine v_more (c2 := 100 + 7951 * (0)) (s2 := 7000 + 47706 * (0)) (by omega) (by omega) ?_
              refine v_lv [1, 0, 2, 3, 4, 5, 6, 7, 8, 9, 10, 11] rfl ?_
              exact L121_1 (80 - (0) + 1) (0) (S0) (fun _ => 0) (by omega) (by omega) zOK_0 zN_0 (fun i hi => absurd hi (Nat.not_lt_zero _))
end LAWL
