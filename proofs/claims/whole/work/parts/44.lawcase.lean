/-! ===== the law's cases ===== -/
abbrev LV (p : Program) (l : Launch) (e : Env) (s : State) (m : MethodId) (b : Nat) (below : List Frame) (meth : Method) (c : Code) (D : va_G) (cells slots pc : Nat) (lv : List (Nat × Value)) (st : List Value) (w : va_W) : Prop :=
  V p l e room_1 s m #[Value.ref b] below meth c cells slots (lw_Z below #[Value.ref b] s) (v_rw D (fun q : Nat => s.heap.size ≤ q) s) 8 pc lv st w
abbrev LE9 (p : Program) (s : State) (m : MethodId) (b : Nat) (meth : Method) (c : Code) (D : va_G) (cI cZ cQ cJ : ClassId) : Prop := v_E p s m #[Value.ref b] meth c D (wTy cI cZ cQ cJ) cL_law 8 wsL_law RL (v_rw D (fun q : Nat => s.heap.size ≤ q) s)
section LAWC
variable {p : Program} {l : Launch} {e : Env} {s : State} {m : MethodId} {below : List Frame} {meth : Method} {c : Code} {D : va_G} {cI cZ cQ cJ : ClassId} {b L : Nat} {xs : Nat → Int32} {a bb : Nat → Nat} {o i cells slots th : Nat} {S : zS} {f : Nat → Int64}
set_option maxHeartbeats 4000000 in
set_option maxRecDepth 100000 in
theorem law_c0 (E : LE9 p s m b meth c D cI cZ cQ cJ) (hA : ∀ q : Nat, s.heap.size ≤ q → (fun q : Nat => s.heap.size ≤ q) q) (hTx : z_Tx (fun q : Nat => s.heap.size ≤ q) s s.heap) (hl : l.stackTraces = false) (hX : va_X b L xs s s.heap) (hbl : b < s.heap.size) (hbA : ¬ (fun q : Nat => s.heap.size ≤ q) b) (hL : L ≤ 2048) (hok : zOK S) (hi : i + 4 ≤ L) (hcc : cells + 4 ≤ 601024) (hss : slots + 24 ≤ 7293034)
    (K : ∀ (S' : zS) (f' : Nat → Int64) (th' cells' slots' : Nat), zOK S' → cells' ≤ cells + 4 → slots' ≤ slots + 24 → LV p l e s m b below meth c D cells' slots' 1585 [(4, .int (nI i)), (0, .ref b), (1, .ref (a 0)), (2, .ref (bb 0)), (3, .ref o)] [] (wL cI cZ cQ cJ a bb o S' f' th')) : LV p l e s m b below meth c D cells slots 160 [(4, .int (nI i)), (0, .ref b), (1, .ref (a 0)), (2, .ref (bb 0)), (3, .ref o)] [] (wL cI cZ cQ cJ a bb o S f th) := by
  refine v_aload_n E dL_law_160 2 rfl rfl ?_
  refine v_aload_n E dL_law_161 1 rfl rfl ?_
  refine v_iload E dL_law_162 0 rfl ?_
  refine v_iconst E dL_law_164 (v := nI 1) rfl ?_
  refine v_iadd E dL_law_165 (nI_add _ _) ?_
  refine v_sld E dL_law_166 hX hbl hbA (by omega) (by omega) ?_
  refine v_aload_n E dL_law_167 1 rfl rfl ?_
  refine v_iload E dL_law_168 0 rfl ?_
  refine v_iconst E dL_law_170 (v := nI 2) rfl ?_
  refine v_iadd E dL_law_171 (nI_add _ _) ?_
  refine v_sld E dL_law_172 hX hbl hbA (by omega) (by omega) ?_
  refine v_aload_n E dL_law_173 4 rfl rfl ?_
  refine x_cSn E hA hTx dL_law_174 (thr_perm (x_L_setUses l D cI cZ cQ cJ a S hok hl o f (xs (i + 1)) (xs (i + 2))) (wM cI bb S th) perm1 perm1) (vx_cwSW 4 E.2.2.2.1 gL_law_L_setUses rfl rfl rfl (by decide +kernel) ⟨Nat.le_of_ble_eq_true rfl, Nat.le_of_ble_eq_true rfl⟩) rfl rfl ⟨(by show _ ≤ 601024; omega), (by show _ ≤ 7293034; omega)⟩ (Nat.le_of_ble_eq_true rfl) ?_
  refine v_istore E dL_law_177 (by decide) rfl ?_
  refine v_aload_n E dL_law_179 4 rfl rfl ?_
  refine v_aload_n E dL_law_180 2 rfl rfl ?_
  refine v_iload E dL_law_181 1 rfl ?_
  refine v_iconst E dL_law_183 (v := nI 1) rfl ?_
  refine v_iadd E dL_law_184 (nI_add _ _) ?_
  refine v_sld E dL_law_185 hX hbl hbA (by omega) (by omega) ?_
  refine v_aload_n E dL_law_186 2 rfl rfl ?_
  refine v_iload E dL_law_187 1 rfl ?_
  refine v_iconst E dL_law_189 (v := nI 2) rfl ?_
  refine v_iadd E dL_law_190 (nI_add _ _) ?_
  refine v_sld E dL_law_191 hX hbl hbA (by omega) (by omega) ?_
  refine x_cVn E hA hTx dL_law_192 (thr_perm (x_X2_setUses l D cI cZ cQ cJ bb S th hok (xs (i + 1)) (xs (i + 2))) (outE cJ o (mF (kk2 (zin (xs (i + 1)) 16) (zin (xs (i + 2)) 65536)) (vp_updL f 0 (nI (z_U S (iN (xs (i + 1))))).toInt64) f) :: wX cI cZ cQ a (mS (kk2 (zin (xs (i + 1)) 16) (zin (xs (i + 2)) 65536)) (zs_U S (va_up (z_U S) (iN (xs (i + 1))) (iN (xs (i + 2))))) S)) perm2 perm2) (cwV 2 E.2.2.2.1 gL_law_X2_setUses rfl rfl rfl (by decide +kernel) ⟨Nat.le_of_ble_eq_true rfl, Nat.le_of_ble_eq_true rfl⟩) 1 rfl rfl rfl rfl rfl ⟨(by show _ ≤ 601024; omega), (by show _ ≤ 7293034; omega)⟩ (Nat.le_of_ble_eq_true rfl) ?_
  have hK9 : kk2 (zin (xs (i + 1)) 16) (zin (xs (i + 2)) 65536) < 3 := kk2_lt _ _
  have hok1 : zOK (mS (kk2 (zin (xs (i + 1)) 16) (zin (xs (i + 2)) 65536)) (zs_U S (va_up (z_U S) (iN (xs (i + 1))) (iN (xs (i + 2))))) S) := zm_setUses hok (xs (i + 1)) (xs (i + 2)) 0 (true)
  refine v_istore E dL_law_195 (by decide) rfl ?_
  refine v_aload_n E dL_law_197 5 rfl rfl ?_
  refine v_cVi' E dL_law_198 (x_X2_thrown l D cI cZ cQ cJ bb (mS (kk2 (zin (xs (i + 1)) 16) (zin (xs (i + 2)) 65536)) (zs_U S (va_up (z_U S) (iN (xs (i + 1))) (iN (xs (i + 2))))) S) ((kk2 (zin (xs (i + 1)) 16) (zin (xs (i + 2)) 65536))) hok1) (cwV 0 E.2.2.2.1 gL_law_X2_thrown rfl rfl rfl (by decide +kernel) ⟨Nat.le_of_ble_eq_true rfl, Nat.le_of_ble_eq_true rfl⟩) 1 rfl rfl rfl subM rfl rfl ⟨(by show _ ≤ 601024; omega), (by show _ ≤ 7293034; omega)⟩ (Nat.le_of_ble_eq_true rfl) ?_
  refine v_iload E dL_law_201 1 rfl ?_
  refine v_icmp_eq E dL_law_203 (tgt := 208) (by decide) (fun _ => ?_) (fun z => absurd rfl z)
  refine v_iload E dL_law_208 1 rfl ?_
  refine n_if_ne E dL_law_210 (by omega) (tgt := 225) (by decide) (fun c9 => ?_) (fun c9 => ?_)
  · refine v_goto E dL_law_225 (tgt := 1585) (by decide) ?_
    refine v_lv [2, 3, 4, 5, 6] rfl ?_
    exact K (mS (kk2 (zin (xs (i + 1)) 16) (zin (xs (i + 2)) 65536)) (zs_U S (va_up (z_U S) (iN (xs (i + 1))) (iN (xs (i + 2))))) S) (mF (kk2 (zin (xs (i + 1)) 16) (zin (xs (i + 2)) 65536)) (vp_updL f 0 (nI (z_U S (iN (xs (i + 1))))).toInt64) f) (kk2 (zin (xs (i + 1)) 16) (zin (xs (i + 2)) 65536)) _ _ hok1 (by omega) (by omega)
  · refine v_aload_n E dL_law_213 6 rfl rfl ?_
    refine v_iconst E dL_law_214 (v := nI 0) rfl ?_
    refine v_lald E dL_law_215 0 3 rfl rfl (by decide) (by decide) rfl ?_
    refine v_iload E dL_law_216 0 rfl ?_
    refine v_i2l E dL_law_218 (z := (mV (kk2 (zin (xs (i + 1)) 16) (zin (xs (i + 2)) 65536)) (nI (z_U S (iN (xs (i + 1)))))).toInt64) rfl ?_
    refine v_lcmp E dL_law_219 (z := 0) (out_i c9 f _) ?_
    refine v_if_eq E dL_law_220 (tgt := 225) (by decide) (fun _ => ?_) (fun z => absurd rfl z)
    refine v_goto E dL_law_225 (tgt := 1585) (by decide) ?_
    refine v_lv [2, 3, 4, 5, 6] rfl ?_
    exact K (mS (kk2 (zin (xs (i + 1)) 16) (zin (xs (i + 2)) 65536)) (zs_U S (va_up (z_U S) (iN (xs (i + 1))) (iN (xs (i + 2))))) S) (mF (kk2 (zin (xs (i + 1)) 16) (zin (xs (i + 2)) 65536)) (vp_updL f 0 (nI (z_U S (iN (xs (i + 1))))).toInt64) f) (kk2 (zin (xs (i + 1)) 16) (zin (xs (i + 2)) 65536)) _ _ hok1 (by omega) (by omega)
set_option maxHeartbeats 4000000 in
set_option maxRecDepth 100000 in
theorem law_c1 (E : LE9 p s m b meth c D cI cZ cQ cJ) (hA : ∀ q : Nat, s.heap.size ≤ q → (fun q : Nat => s.heap.size ≤ q) q) (hTx : z_Tx (fun q : Nat => s.heap.size ≤ q) s s.heap) (hl : l.stackTraces = false) (hX : va_X b L xs s s.heap) (hbl : b < s.heap.size) (hbA : ¬ (fun q : Nat => s.heap.size ≤ q) b) (hL : L ≤ 2048) (hok : zOK S) (hi : i + 4 ≤ L) (hcc : cells + 4 ≤ 601024) (hss : slots + 24 ≤ 7293034)
    (K : ∀ (S' : zS) (f' : Nat → Int64) (th' cells' slots' : Nat), zOK S' → cells' ≤ cells + 4 → slots' ≤ slots + 24 → LV p l e s m b below meth c D cells' slots' 1585 [(4, .int (nI i)), (0, .ref b), (1, .ref (a 0)), (2, .ref (bb 0)), (3, .ref o)] [] (wL cI cZ cQ cJ a bb o S' f' th')) : LV p l e s m b below meth c D cells slots 228 [(4, .int (nI i)), (0, .ref b), (1, .ref (a 0)), (2, .ref (bb 0)), (3, .ref o)] [] (wL cI cZ cQ cJ a bb o S f th) := by
  refine v_aload_n E dL_law_228 2 rfl rfl ?_
  refine v_aload_n E dL_law_229 1 rfl rfl ?_
  refine v_iload E dL_law_230 0 rfl ?_
  refine v_iconst E dL_law_232 (v := nI 1) rfl ?_
  refine v_iadd E dL_law_233 (nI_add _ _) ?_
  refine v_sld E dL_law_234 hX hbl hbA (by omega) (by omega) ?_
  refine v_aload_n E dL_law_235 4 rfl rfl ?_
  refine x_cSn E hA hTx dL_law_236 (thr_perm (x_L_addCommit l D cI cZ cQ cJ a S hok hl o f (xs (i + 1))) (wM cI bb S th) perm1 perm1) (vx_cwSW 3 E.2.2.2.1 gL_law_L_addCommit rfl rfl rfl (by decide +kernel) ⟨Nat.le_of_ble_eq_true rfl, Nat.le_of_ble_eq_true rfl⟩) rfl rfl ⟨(by show _ ≤ 601024; omega), (by show _ ≤ 7293034; omega)⟩ (Nat.le_of_ble_eq_true rfl) ?_
  refine v_istore E dL_law_239 (by decide) rfl ?_
  refine v_aload_n E dL_law_241 4 rfl rfl ?_
  refine v_aload_n E dL_law_242 2 rfl rfl ?_
  refine v_iload E dL_law_243 1 rfl ?_
  refine v_iconst E dL_law_245 (v := nI 1) rfl ?_
  refine v_iadd E dL_law_246 (nI_add _ _) ?_
  refine v_sld E dL_law_247 hX hbl hbA (by omega) (by omega) ?_
  refine x_cVn E hA hTx dL_law_248 (thr_perm (x_X2_addCommit l D cI cZ cQ cJ bb S th hok (xs (i + 1))) (outE cJ o (mF (kk2 (zin (xs (i + 1)) 65536) (decide (z_nc S < 40))) (vp_updL f 0 (nI (z_nc S)).toInt64) f) :: wX cI cZ cQ a (mS (kk2 (zin (xs (i + 1)) 65536) (decide (z_nc S < 40))) (sadC S (iN (xs (i + 1)))) S)) perm2 perm2) (cwV 1 E.2.2.2.1 gL_law_X2_addCommit rfl rfl rfl (by decide +kernel) ⟨Nat.le_of_ble_eq_true rfl, Nat.le_of_ble_eq_true rfl⟩) 1 rfl rfl rfl rfl rfl ⟨(by show _ ≤ 601024; omega), (by show _ ≤ 7293034; omega)⟩ (Nat.le_of_ble_eq_true rfl) ?_
  have hK9 : kk2 (zin (xs (i + 1)) 65536) (decide (z_nc S < 40)) < 3 := kk2_lt _ _
  have hok1 : zOK (mS (kk2 (zin (xs (i + 1)) 65536) (decide (z_nc S < 40))) (sadC S (iN (xs (i + 1)))) S) := zm_addCommit hok (xs (i + 1)) 0 0 (true)
  refine v_istore E dL_law_251 (by decide) rfl ?_
  refine v_aload_n E dL_law_253 5 rfl rfl ?_
  refine v_cVi' E dL_law_254 (x_X2_thrown l D cI cZ cQ cJ bb (mS (kk2 (zin (xs (i + 1)) 65536) (decide (z_nc S < 40))) (sadC S (iN (xs (i + 1)))) S) ((kk2 (zin (xs (i + 1)) 65536) (decide (z_nc S < 40)))) hok1) (cwV 0 E.2.2.2.1 gL_law_X2_thrown rfl rfl rfl (by decide +kernel) ⟨Nat.le_of_ble_eq_true rfl, Nat.le_of_ble_eq_true rfl⟩) 1 rfl rfl rfl subM rfl rfl ⟨(by show _ ≤ 601024; omega), (by show _ ≤ 7293034; omega)⟩ (Nat.le_of_ble_eq_true rfl) ?_
  refine v_iload E dL_law_257 1 rfl ?_
  refine v_icmp_eq E dL_law_259 (tgt := 264) (by decide) (fun _ => ?_) (fun z => absurd rfl z)
  refine v_iload E dL_law_264 1 rfl ?_
  refine n_if_ne E dL_law_266 (by omega) (tgt := 281) (by decide) (fun c9 => ?_) (fun c9 => ?_)
  · refine v_goto E dL_law_281 (tgt := 1585) (by decide) ?_
    refine v_lv [2, 3, 4, 5, 6] rfl ?_
    exact K (mS (kk2 (zin (xs (i + 1)) 65536) (decide (z_nc S < 40))) (sadC S (iN (xs (i + 1)))) S) (mF (kk2 (zin (xs (i + 1)) 65536) (decide (z_nc S < 40))) (vp_updL f 0 (nI (z_nc S)).toInt64) f) (kk2 (zin (xs (i + 1)) 65536) (decide (z_nc S < 40))) _ _ hok1 (by omega) (by omega)
  · refine v_aload_n E dL_law_269 6 rfl rfl ?_
    refine v_iconst E dL_law_270 (v := nI 0) rfl ?_
    refine v_lald E dL_law_271 0 3 rfl rfl (by decide) (by decide) rfl ?_
    refine v_iload E dL_law_272 0 rfl ?_
    refine v_i2l E dL_law_274 (z := (mV (kk2 (zin (xs (i + 1)) 65536) (decide (z_nc S < 40))) (nI (z_nc S))).toInt64) rfl ?_
    refine v_lcmp E dL_law_275 (z := 0) (out_i c9 f _) ?_
    refine v_if_eq E dL_law_276 (tgt := 281) (by decide) (fun _ => ?_) (fun z => absurd rfl z)
    refine v_goto E dL_law_281 (tgt := 1585) (by decide) ?_
    refine v_lv [2, 3, 4, 5, 6] rfl ?_
    exact K (mS (kk2 (zin (xs (i + 1)) 65536) (decide (z_nc S < 40))) (sadC S (iN (xs (i + 1)))) S) (mF (kk2 (zin (xs (i + 1)) 65536) (decide (z_nc S < 40))) (vp_updL f 0 (nI (z_nc S)).toInt64) f) (kk2 (zin (xs (i + 1)) 65536) (decide (z_nc S < 40))) _ _ hok1 (by omega) (by omega)
set_option maxHeartbeats 4000000 in
set_option maxRecDepth 100000 in
theorem law_c2 (E : LE9 p s m b meth c D cI cZ cQ cJ) (hA : ∀ q : Nat, s.heap.size ≤ q → (fun q : Nat => s.heap.size ≤ q) q) (hTx : z_Tx (fun q : Nat => s.heap.size ≤ q) s s.heap) (hl : l.stackTraces = false) (hX : va_X b L xs s s.heap) (hbl : b < s.heap.size) (hbA : ¬ (fun q : Nat => s.heap.size ≤ q) b) (hL : L ≤ 2048) (hok : zOK S) (hi : i + 4 ≤ L) (hcc : cells + 4 ≤ 601024) (hss : slots + 24 ≤ 7293034)
    (K : ∀ (S' : zS) (f' : Nat → Int64) (th' cells' slots' : Nat), zOK S' → cells' ≤ cells + 4 → slots' ≤ slots + 24 → LV p l e s m b below meth c D cells' slots' 1585 [(4, .int (nI i)), (0, .ref b), (1, .ref (a 0)), (2, .ref (bb 0)), (3, .ref o)] [] (wL cI cZ cQ cJ a bb o S' f' th')) : LV p l e s m b below meth c D cells slots 284 [(4, .int (nI i)), (0, .ref b), (1, .ref (a 0)), (2, .ref (bb 0)), (3, .ref o)] [] (wL cI cZ cQ cJ a bb o S f th) := by
  refine v_aload_n E dL_law_284 2 rfl rfl ?_
  refine v_aload_n E dL_law_285 1 rfl rfl ?_
  refine v_iload E dL_law_286 0 rfl ?_
  refine v_iconst E dL_law_288 (v := nI 1) rfl ?_
  refine v_iadd E dL_law_289 (nI_add _ _) ?_
  refine v_sld E dL_law_290 hX hbl hbA (by omega) (by omega) ?_
  refine v_aload_n E dL_law_291 4 rfl rfl ?_
  refine x_cSn E hA hTx dL_law_292 (thr_perm (x_L_addTest l D cI cZ cQ cJ a S hok hl o f (xs (i + 1))) (wM cI bb S th) perm1 perm1) (vx_cwSW 3 E.2.2.2.1 gL_law_L_addTest rfl rfl rfl (by decide +kernel) ⟨Nat.le_of_ble_eq_true rfl, Nat.le_of_ble_eq_true rfl⟩) rfl rfl ⟨(by show _ ≤ 601024; omega), (by show _ ≤ 7293034; omega)⟩ (Nat.le_of_ble_eq_true rfl) ?_
  refine v_istore E dL_law_295 (by decide) rfl ?_
  refine v_aload_n E dL_law_297 4 rfl rfl ?_
  refine v_aload_n E dL_law_298 2 rfl rfl ?_
  refine v_iload E dL_law_299 1 rfl ?_
  refine v_iconst E dL_law_301 (v := nI 1) rfl ?_
  refine v_iadd E dL_law_302 (nI_add _ _) ?_
  refine v_sld E dL_law_303 hX hbl hbA (by omega) (by omega) ?_
  refine x_cVn E hA hTx dL_law_304 (thr_perm (x_X2_addTest l D cI cZ cQ cJ bb S th hok (xs (i + 1))) (outE cJ o (mF (kk2 (zin (xs (i + 1)) 65536) (decide (z_nt S < 12))) (vp_updL f 0 (nI (z_nt S)).toInt64) f) :: wX cI cZ cQ a (mS (kk2 (zin (xs (i + 1)) 65536) (decide (z_nt S < 12))) (sadT S (iN (xs (i + 1)))) S)) perm2 perm2) (cwV 1 E.2.2.2.1 gL_law_X2_addTest rfl rfl rfl (by decide +kernel) ⟨Nat.le_of_ble_eq_true rfl, Nat.le_of_ble_eq_true rfl⟩) 1 rfl rfl rfl rfl rfl ⟨(by show _ ≤ 601024; omega), (by show _ ≤ 7293034; omega)⟩ (Nat.le_of_ble_eq_true rfl) ?_
  have hK9 : kk2 (zin (xs (i + 1)) 65536) (decide (z_nt S < 12)) < 3 := kk2_lt _ _
  have hok1 : zOK (mS (kk2 (zin (xs (i + 1)) 65536) (decide (z_nt S < 12))) (sadT S (iN (xs (i + 1)))) S) := zm_addTest hok (xs (i + 1)) 0 0 (true)
  refine v_istore E dL_law_307 (by decide) rfl ?_
  refine v_aload_n E dL_law_309 5 rfl rfl ?_
  refine v_cVi' E dL_law_310 (x_X2_thrown l D cI cZ cQ cJ bb (mS (kk2 (zin (xs (i + 1)) 65536) (decide (z_nt S < 12))) (sadT S (iN (xs (i + 1)))) S) ((kk2 (zin (xs (i + 1)) 65536) (decide (z_nt S < 12)))) hok1) (cwV 0 E.2.2.2.1 gL_law_X2_thrown rfl rfl rfl (by decide +kernel) ⟨Nat.le_of_ble_eq_true rfl, Nat.le_of_ble_eq_true rfl⟩) 1 rfl rfl rfl subM rfl rfl ⟨(by show _ ≤ 601024; omega), (by show _ ≤ 7293034; omega)⟩ (Nat.le_of_ble_eq_true rfl) ?_
  refine v_iload E dL_law_313 1 rfl ?_
  refine v_icmp_eq E dL_law_315 (tgt := 320) (by decide) (fun _ => ?_) (fun z => absurd rfl z)
  refine v_iload E dL_law_320 1 rfl ?_
  refine n_if_ne E dL_law_322 (by omega) (tgt := 337) (by decide) (fun c9 => ?_) (fun c9 => ?_)
  · refine v_goto E dL_law_337 (tgt := 1585) (by decide) ?_
    refine v_lv [2, 3, 4, 5, 6] rfl ?_
    exact K (mS (kk2 (zin (xs (i + 1)) 65536) (decide (z_nt S < 12))) (sadT S (iN (xs (i + 1)))) S) (mF (kk2 (zin (xs (i + 1)) 65536) (decide (z_nt S < 12))) (vp_updL f 0 (nI (z_nt S)).toInt64) f) (kk2 (zin (xs (i + 1)) 65536) (decide (z_nt S < 12))) _ _ hok1 (by omega) (by omega)
  · refine v_aload_n E dL_law_325 6 rfl rfl ?_
    refine v_iconst E dL_law_326 (v := nI 0) rfl ?_
    refine v_lald E dL_law_327 0 3 rfl rfl (by decide) (by decide) rfl ?_
    refine v_iload E dL_law_328 0 rfl ?_
    refine v_i2l E dL_law_330 (z := (mV (kk2 (zin (xs (i + 1)) 65536) (decide (z_nt S < 12))) (nI (z_nt S))).toInt64) rfl ?_
    refine v_lcmp E dL_law_331 (z := 0) (out_i c9 f _) ?_
    refine v_if_eq E dL_law_332 (tgt := 337) (by decide) (fun _ => ?_) (fun z => absurd rfl z)
    refine v_goto E dL_law_337 (tgt := 1585) (by decide) ?_
    refine v_lv [2, 3, 4, 5, 6] rfl ?_
    exact K (mS (kk2 (zin (xs (i + 1)) 65536) (decide (z_nt S < 12))) (sadT S (iN (xs (i + 1)))) S) (mF (kk2 (zin (xs (i + 1)) 65536) (decide (z_nt S < 12))) (vp_updL f 0 (nI (z_nt S)).toInt64) f) (kk2 (zin (xs (i + 1)) 65536) (decide (z_nt S < 12))) _ _ hok1 (by omega) (by omega)
set_option maxHeartbeats 4000000 in
set_option maxRecDepth 100000 in
theorem law_c3 (E : LE9 p s m b meth c D cI cZ cQ cJ) (hA : ∀ q : Nat, s.heap.size ≤ q → (fun q : Nat => s.heap.size ≤ q) q) (hTx : z_Tx (fun q : Nat => s.heap.size ≤ q) s s.heap) (hl : l.stackTraces = false) (hX : va_X b L xs s s.heap) (hbl : b < s.heap.size) (hbA : ¬ (fun q : Nat => s.heap.size ≤ q) b) (hL : L ≤ 2048) (hok : zOK S) (hi : i + 4 ≤ L) (hcc : cells + 4 ≤ 601024) (hss : slots + 24 ≤ 7293034)
    (K : ∀ (S' : zS) (f' : Nat → Int64) (th' cells' slots' : Nat), zOK S' → cells' ≤ cells + 4 → slots' ≤ slots + 24 → LV p l e s m b below meth c D cells' slots' 1585 [(4, .int (nI i)), (0, .ref b), (1, .ref (a 0)), (2, .ref (bb 0)), (3, .ref o)] [] (wL cI cZ cQ cJ a bb o S' f' th')) : LV p l e s m b below meth c D cells slots 340 [(4, .int (nI i)), (0, .ref b), (1, .ref (a 0)), (2, .ref (bb 0)), (3, .ref o)] [] (wL cI cZ cQ cJ a bb o S f th) := by
  refine v_aload_n E dL_law_340 2 rfl rfl ?_
  refine v_aload_n E dL_law_341 1 rfl rfl ?_
  refine v_iload E dL_law_342 0 rfl ?_
  refine v_iconst E dL_law_344 (v := nI 1) rfl ?_
  refine v_iadd E dL_law_345 (nI_add _ _) ?_
  refine v_sld E dL_law_346 hX hbl hbA (by omega) (by omega) ?_
  refine v_aload_n E dL_law_347 1 rfl rfl ?_
  refine v_iload E dL_law_348 0 rfl ?_
  refine v_iconst E dL_law_350 (v := nI 2) rfl ?_
  refine v_iadd E dL_law_351 (nI_add _ _) ?_
  refine v_sld E dL_law_352 hX hbl hbA (by omega) (by omega) ?_
  refine x_cSn E hA hTx dL_law_353 (thr_perm (x_L_setQuarantine l D cI cZ cQ cJ a S hok hl (xs (i + 1)) (xs (i + 2))) (outE cJ o f :: wM cI bb S th) perm3x perm3x) (vx_cwSW 3 E.2.2.2.1 gL_law_L_setQuarantine rfl rfl rfl (by decide +kernel) ⟨Nat.le_of_ble_eq_true rfl, Nat.le_of_ble_eq_true rfl⟩) rfl rfl ⟨(by show _ ≤ 601024; omega), (by show _ ≤ 7293034; omega)⟩ (Nat.le_of_ble_eq_true rfl) ?_
  refine v_istore E dL_law_356 (by decide) rfl ?_
  refine v_aload_n E dL_law_358 4 rfl rfl ?_
  refine v_aload_n E dL_law_359 2 rfl rfl ?_
  refine v_iload E dL_law_360 1 rfl ?_
  refine v_iconst E dL_law_362 (v := nI 1) rfl ?_
  refine v_iadd E dL_law_363 (nI_add _ _) ?_
  refine v_sld E dL_law_364 hX hbl hbA (by omega) (by omega) ?_
  refine v_aload_n E dL_law_365 2 rfl rfl ?_
  refine v_iload E dL_law_366 1 rfl ?_
  refine v_iconst E dL_law_368 (v := nI 2) rfl ?_
  refine v_iadd E dL_law_369 (nI_add _ _) ?_
  refine v_sld E dL_law_370 hX hbl hbA (by omega) (by omega) ?_
  refine x_cVn E hA hTx dL_law_371 (thr_perm (x_X2_setQuarantine l D cI cZ cQ cJ bb S th hok (xs (i + 1)) (xs (i + 2))) (outE cJ o f :: wX cI cZ cQ a (mS (kk1 (zin1 (xs (i + 1)) 11 && zin1 (xs (i + 2)) 41)) (zs_wi (zs_li S (iN (xs (i + 1)))) (iN (xs (i + 2)))) S)) perm2 perm2) (cwV 2 E.2.2.2.1 gL_law_X2_setQuarantine rfl rfl rfl (by decide +kernel) ⟨Nat.le_of_ble_eq_true rfl, Nat.le_of_ble_eq_true rfl⟩) 1 rfl rfl rfl rfl rfl ⟨(by show _ ≤ 601024; omega), (by show _ ≤ 7293034; omega)⟩ (Nat.le_of_ble_eq_true rfl) ?_
  have hK9 : kk1 (zin1 (xs (i + 1)) 11 && zin1 (xs (i + 2)) 41) < 3 := kk1_lt _
  have hok1 : zOK (mS (kk1 (zin1 (xs (i + 1)) 11 && zin1 (xs (i + 2)) 41)) (zs_wi (zs_li S (iN (xs (i + 1)))) (iN (xs (i + 2)))) S) := zm_setQuarantine hok (xs (i + 1)) (xs (i + 2)) 0 (true)
  refine v_aload_n E dL_law_374 4 rfl rfl ?_
  refine v_cVi' E dL_law_375 (x_X2_thrown l D cI cZ cQ cJ bb (mS (kk1 (zin1 (xs (i + 1)) 11 && zin1 (xs (i + 2)) 41)) (zs_wi (zs_li S (iN (xs (i + 1)))) (iN (xs (i + 2)))) S) ((kk1 (zin1 (xs (i + 1)) 11 && zin1 (xs (i + 2)) 41))) hok1) (cwV 0 E.2.2.2.1 gL_law_X2_thrown rfl rfl rfl (by decide +kernel) ⟨Nat.le_of_ble_eq_true rfl, Nat.le_of_ble_eq_true rfl⟩) 1 rfl rfl rfl subM rfl rfl ⟨(by show _ ≤ 601024; omega), (by show _ ≤ 7293034; omega)⟩ (Nat.le_of_ble_eq_true rfl) ?_
  refine v_iload E dL_law_378 0 rfl ?_
  refine v_icmp_eq E dL_law_380 (tgt := 385) (by decide) (fun _ => ?_) (fun z => absurd rfl z)
  refine v_goto E dL_law_385 (tgt := 1585) (by decide) ?_
  refine v_lv [1, 2, 3, 4, 5] rfl ?_
  exact K (mS (kk1 (zin1 (xs (i + 1)) 11 && zin1 (xs (i + 2)) 41)) (zs_wi (zs_li S (iN (xs (i + 1)))) (iN (xs (i + 2)))) S) f (kk1 (zin1 (xs (i + 1)) 11 && zin1 (xs (i + 2)) 41)) _ _ hok1 (by omega) (by omega)
set_option maxHeartbeats 4000000 in
set_option maxRecDepth 100000 in
theorem law_c4 (E : LE9 p s m b meth c D cI cZ cQ cJ) (hA : ∀ q : Nat, s.heap.size ≤ q → (fun q : Nat => s.heap.size ≤ q) q) (hTx : z_Tx (fun q : Nat => s.heap.size ≤ q) s s.heap) (hl : l.stackTraces = false) (hX : va_X b L xs s s.heap) (hbl : b < s.heap.size) (hbA : ¬ (fun q : Nat => s.heap.size ≤ q) b) (hL : L ≤ 2048) (hok : zOK S) (hi : i + 4 ≤ L) (hcc : cells + 4 ≤ 601024) (hss : slots + 24 ≤ 7293034)
    (K : ∀ (S' : zS) (f' : Nat → Int64) (th' cells' slots' : Nat), zOK S' → cells' ≤ cells + 4 → slots' ≤ slots + 24 → LV p l e s m b below meth c D cells' slots' 1585 [(4, .int (nI i)), (0, .ref b), (1, .ref (a 0)), (2, .ref (bb 0)), (3, .ref o)] [] (wL cI cZ cQ cJ a bb o S' f' th')) : LV p l e s m b below meth c D cells slots 388 [(4, .int (nI i)), (0, .ref b), (1, .ref (a 0)), (2, .ref (bb 0)), (3, .ref o)] [] (wL cI cZ cQ cJ a bb o S f th) := by
  refine v_aload_n E dL_law_388 2 rfl rfl ?_
  refine v_aload_n E dL_law_389 1 rfl rfl ?_
  refine v_iload E dL_law_390 0 rfl ?_
  refine v_iconst E dL_law_392 (v := nI 1) rfl ?_
  refine v_iadd E dL_law_393 (nI_add _ _) ?_
  refine v_sld E dL_law_394 hX hbl hbA (by omega) (by omega) ?_
  refine v_aload_n E dL_law_395 4 rfl rfl ?_
  refine x_cSn E hA hTx dL_law_396 (thr_perm (x_L_setNoise l D cI cZ cQ cJ a S hok hl o f (xs (i + 1))) (wM cI bb S th) perm1 perm1) (vx_cwSW 3 E.2.2.2.1 gL_law_L_setNoise rfl rfl rfl (by decide +kernel) ⟨Nat.le_of_ble_eq_true rfl, Nat.le_of_ble_eq_true rfl⟩) rfl rfl ⟨(by show _ ≤ 601024; omega), (by show _ ≤ 7293034; omega)⟩ (Nat.le_of_ble_eq_true rfl) ?_
  refine v_istore E dL_law_399 (by decide) rfl ?_
  refine v_aload_n E dL_law_401 4 rfl rfl ?_
  refine v_aload_n E dL_law_402 2 rfl rfl ?_
  refine v_iload E dL_law_403 1 rfl ?_
  refine v_iconst E dL_law_405 (v := nI 1) rfl ?_
  refine v_iadd E dL_law_406 (nI_add _ _) ?_
  refine v_sld E dL_law_407 hX hbl hbA (by omega) (by omega) ?_
  refine x_cVn E hA hTx dL_law_408 (thr_perm (x_X2_setNoise l D cI cZ cQ cJ bb S th hok (xs (i + 1))) (outE cJ o (mF (kk1 (zin (xs (i + 1)) 21)) (vp_updL f 0 (nI (z_no S)).toInt64) f) :: wX cI cZ cQ a (mS (kk1 (zin (xs (i + 1)) 21)) (zs_no S (iN (xs (i + 1)))) S)) perm2 perm2) (cwV 1 E.2.2.2.1 gL_law_X2_setNoise rfl rfl rfl (by decide +kernel) ⟨Nat.le_of_ble_eq_true rfl, Nat.le_of_ble_eq_true rfl⟩) 1 rfl rfl rfl rfl rfl ⟨(by show _ ≤ 601024; omega), (by show _ ≤ 7293034; omega)⟩ (Nat.le_of_ble_eq_true rfl) ?_
  have hK9 : kk1 (zin (xs (i + 1)) 21) < 3 := kk1_lt _
  have hok1 : zOK (mS (kk1 (zin (xs (i + 1)) 21)) (zs_no S (iN (xs (i + 1)))) S) := zm_setNoise hok (xs (i + 1)) 0 0 (true)
  refine v_istore E dL_law_411 (by decide) rfl ?_
  refine v_aload_n E dL_law_413 5 rfl rfl ?_
  refine v_cVi' E dL_law_414 (x_X2_thrown l D cI cZ cQ cJ bb (mS (kk1 (zin (xs (i + 1)) 21)) (zs_no S (iN (xs (i + 1)))) S) ((kk1 (zin (xs (i + 1)) 21))) hok1) (cwV 0 E.2.2.2.1 gL_law_X2_thrown rfl rfl rfl (by decide +kernel) ⟨Nat.le_of_ble_eq_true rfl, Nat.le_of_ble_eq_true rfl⟩) 1 rfl rfl rfl subM rfl rfl ⟨(by show _ ≤ 601024; omega), (by show _ ≤ 7293034; omega)⟩ (Nat.le_of_ble_eq_true rfl) ?_
  refine v_iload E dL_law_417 1 rfl ?_
  refine v_icmp_eq E dL_law_419 (tgt := 424) (by decide) (fun _ => ?_) (fun z => absurd rfl z)
  refine v_iload E dL_law_424 1 rfl ?_
  refine n_if_ne E dL_law_426 (by omega) (tgt := 441) (by decide) (fun c9 => ?_) (fun c9 => ?_)
  · refine v_goto E dL_law_441 (tgt := 1585) (by decide) ?_
    refine v_lv [2, 3, 4, 5, 6] rfl ?_
    exact K (mS (kk1 (zin (xs (i + 1)) 21)) (zs_no S (iN (xs (i + 1)))) S) (mF (kk1 (zin (xs (i + 1)) 21)) (vp_updL f 0 (nI (z_no S)).toInt64) f) (kk1 (zin (xs (i + 1)) 21)) _ _ hok1 (by omega) (by omega)
  · refine v_aload_n E dL_law_429 6 rfl rfl ?_
    refine v_iconst E dL_law_430 (v := nI 0) rfl ?_
    refine v_lald E dL_law_431 0 3 rfl rfl (by decide) (by decide) rfl ?_
    refine v_iload E dL_law_432 0 rfl ?_
    refine v_i2l E dL_law_434 (z := (mV (kk1 (zin (xs (i + 1)) 21)) (nI (z_no S))).toInt64) rfl ?_
    refine v_lcmp E dL_law_435 (z := 0) (out_i c9 f _) ?_
    refine v_if_eq E dL_law_436 (tgt := 441) (by decide) (fun _ => ?_) (fun z => absurd rfl z)
    refine v_goto E dL_law_441 (tgt := 1585) (by decide) ?_
    refine v_lv [2, 3, 4, 5, 6] rfl ?_
    exact K (mS (kk1 (zin (xs (i + 1)) 21)) (zs_no S (iN (xs (i + 1)))) S) (mF (kk1 (zin (xs (i + 1)) 21)) (vp_updL f 0 (nI (z_no S)).toInt64) f) (kk1 (zin (xs (i + 1)) 21)) _ _ hok1 (by omega) (by omega)
set_option maxHeartbeats 4000000 in
set_option maxRecDepth 100000 in
theorem law_c5 (E : LE9 p s m b meth c D cI cZ cQ cJ) (hA : ∀ q : Nat, s.heap.size ≤ q → (fun q : Nat => s.heap.size ≤ q) q) (hTx : z_Tx (fun q : Nat => s.heap.size ≤ q) s s.heap) (hl : l.stackTraces = false) (hX : va_X b L xs s s.heap) (hbl : b < s.heap.size) (hbA : ¬ (fun q : Nat => s.heap.size ≤ q) b) (hL : L ≤ 2048) (hok : zOK S) (hi : i + 4 ≤ L) (hcc : cells + 4 ≤ 601024) (hss : slots + 24 ≤ 7293034)
    (K : ∀ (S' : zS) (f' : Nat → Int64) (th' cells' slots' : Nat), zOK S' → cells' ≤ cells + 4 → slots' ≤ slots + 24 → LV p l e s m b below meth c D cells' slots' 1585 [(4, .int (nI i)), (0, .ref b), (1, .ref (a 0)), (2, .ref (bb 0)), (3, .ref o)] [] (wL cI cZ cQ cJ a bb o S' f' th')) : LV p l e s m b below meth c D cells slots 444 [(4, .int (nI i)), (0, .ref b), (1, .ref (a 0)), (2, .ref (bb 0)), (3, .ref o)] [] (wL cI cZ cQ cJ a bb o S f th) := by
  refine v_aload_n E dL_law_444 2 rfl rfl ?_
  refine v_aload_n E dL_law_445 1 rfl rfl ?_
  refine v_iload E dL_law_446 0 rfl ?_
  refine v_iconst E dL_law_448 (v := nI 1) rfl ?_
  refine v_iadd E dL_law_449 (nI_add _ _) ?_
  refine v_sld E dL_law_450 hX hbl hbA (by omega) (by omega) ?_
  refine v_aload_n E dL_law_451 1 rfl rfl ?_
  refine v_iload E dL_law_452 0 rfl ?_
  refine v_iconst E dL_law_454 (v := nI 2) rfl ?_
  refine v_iadd E dL_law_455 (nI_add _ _) ?_
  refine v_sld E dL_law_456 hX hbl hbA (by omega) (by omega) ?_
  refine v_aload_n E dL_law_457 1 rfl rfl ?_
  refine v_iload E dL_law_458 0 rfl ?_
  refine v_iconst E dL_law_460 (v := nI 3) rfl ?_
  refine v_iadd E dL_law_461 (nI_add _ _) ?_
  refine v_sld E dL_law_462 hX hbl hbA (by omega) (by omega) ?_
  refine v_if_eq E dL_law_463 (tgt := 470) (by decide) (fun c7 => ?_) (fun c7 => ?_)
  · refine v_iconst E dL_law_470 (v := nI 0) rfl ?_
    refine v_top (y := bI (decide (¬ xs (i + 3) = 0))) (by rw [decide_eq_false (fun z => z c7)]; rfl) ?_
    refine v_aload_n E dL_law_471 4 rfl rfl ?_
    refine x_cSn E hA hTx dL_law_472 (thr_perm (x_L_record l D cI cZ cQ cJ a S hok hl o f (xs (i + 1)) (xs (i + 2)) (decide (¬ xs (i + 3) = 0))) (wM cI bb S th) perm1 perm1) (vx_cwSW 5 E.2.2.2.1 gL_law_L_record rfl rfl rfl (by decide +kernel) ⟨Nat.le_of_ble_eq_true rfl, Nat.le_of_ble_eq_true rfl⟩) rfl rfl ⟨(by show _ ≤ 601024; omega), (by show _ ≤ 7293034; omega)⟩ (Nat.le_of_ble_eq_true rfl) ?_
    refine v_istore E dL_law_475 (by decide) rfl ?_
    refine v_aload_n E dL_law_477 4 rfl rfl ?_
    refine v_aload_n E dL_law_478 2 rfl rfl ?_
    refine v_iload E dL_law_479 1 rfl ?_
    refine v_iconst E dL_law_481 (v := nI 1) rfl ?_
    refine v_iadd E dL_law_482 (nI_add _ _) ?_
    refine v_sld E dL_law_483 hX hbl hbA (by omega) (by omega) ?_
    refine v_aload_n E dL_law_484 2 rfl rfl ?_
    refine v_iload E dL_law_485 1 rfl ?_
    refine v_iconst E dL_law_487 (v := nI 2) rfl ?_
    refine v_iadd E dL_law_488 (nI_add _ _) ?_
    refine v_sld E dL_law_489 hX hbl hbA (by omega) (by omega) ?_
    refine v_aload_n E dL_law_490 2 rfl rfl ?_
    refine v_iload E dL_law_491 1 rfl ?_
    refine v_iconst E dL_law_493 (v := nI 3) rfl ?_
    refine v_iadd E dL_law_494 (nI_add _ _) ?_
    refine v_sld E dL_law_495 hX hbl hbA (by omega) (by omega) ?_
    refine v_if_eq E dL_law_496 (tgt := 503) (by decide) (fun c7 => ?_) (fun c7 => ?_)
    · refine v_iconst E dL_law_503 (v := nI 0) rfl ?_
      refine v_top (y := bI (decide (¬ xs (i + 3) = 0))) (by rw [decide_eq_false (fun z => z c7)]; rfl) ?_
      refine x_cVn E hA hTx dL_law_504 (thr_perm (x_X2_record l D cI cZ cQ cJ bb S th hok (xs (i + 1)) (xs (i + 2)) (decide (¬ xs (i + 3) = 0))) (outE cJ o (mF (kk2 (zin (xs (i + 1)) (z_nt S) && zin (xs (i + 2)) (z_nc S)) (decide (z_R S (iN (xs (i + 1))) < 200))) (vp_updL f 0 (nI (vd (z_P (srec S (iN (xs (i + 1))) (iN (xs (i + 2))) (decide (¬ xs (i + 3) = 0))) (iN (xs (i + 1))) (iN (xs (i + 2)))) (z_F (srec S (iN (xs (i + 1))) (iN (xs (i + 2))) (decide (¬ xs (i + 3) = 0))) (iN (xs (i + 1))) (iN (xs (i + 2)))))).toInt64) f) :: wX cI cZ cQ a (mS (kk2 (zin (xs (i + 1)) (z_nt S) && zin (xs (i + 2)) (z_nc S)) (decide (z_R S (iN (xs (i + 1))) < 200))) (srec S (iN (xs (i + 1))) (iN (xs (i + 2))) (decide (¬ xs (i + 3) = 0))) S)) perm2 perm2) (cwV 3 E.2.2.2.1 gL_law_X2_record rfl rfl rfl (by decide +kernel) ⟨Nat.le_of_ble_eq_true rfl, Nat.le_of_ble_eq_true rfl⟩) 1 rfl rfl rfl rfl rfl ⟨(by show _ ≤ 601024; omega), (by show _ ≤ 7293034; omega)⟩ (Nat.le_of_ble_eq_true rfl) ?_
      have hK9 : kk2 (zin (xs (i + 1)) (z_nt S) && zin (xs (i + 2)) (z_nc S)) (decide (z_R S (iN (xs (i + 1))) < 200)) < 3 := kk2_lt _ _
      have hok1 : zOK (mS (kk2 (zin (xs (i + 1)) (z_nt S) && zin (xs (i + 2)) (z_nc S)) (decide (z_R S (iN (xs (i + 1))) < 200))) (srec S (iN (xs (i + 1))) (iN (xs (i + 2))) (decide (¬ xs (i + 3) = 0))) S) := zm_record hok (xs (i + 1)) (xs (i + 2)) 0 (decide (¬ xs (i + 3) = 0))
      refine v_istore E dL_law_507 (by decide) rfl ?_
      refine v_aload_n E dL_law_509 5 rfl rfl ?_
      refine v_cVi' E dL_law_510 (x_X2_thrown l D cI cZ cQ cJ bb (mS (kk2 (zin (xs (i + 1)) (z_nt S) && zin (xs (i + 2)) (z_nc S)) (decide (z_R S (iN (xs (i + 1))) < 200))) (srec S (iN (xs (i + 1))) (iN (xs (i + 2))) (decide (¬ xs (i + 3) = 0))) S) ((kk2 (zin (xs (i + 1)) (z_nt S) && zin (xs (i + 2)) (z_nc S)) (decide (z_R S (iN (xs (i + 1))) < 200)))) hok1) (cwV 0 E.2.2.2.1 gL_law_X2_thrown rfl rfl rfl (by decide +kernel) ⟨Nat.le_of_ble_eq_true rfl, Nat.le_of_ble_eq_true rfl⟩) 1 rfl rfl rfl subM rfl rfl ⟨(by show _ ≤ 601024; omega), (by show _ ≤ 7293034; omega)⟩ (Nat.le_of_ble_eq_true rfl) ?_
      refine v_iload E dL_law_513 1 rfl ?_
      refine v_icmp_eq E dL_law_515 (tgt := 520) (by decide) (fun _ => ?_) (fun z => absurd rfl z)
      refine v_iload E dL_law_520 1 rfl ?_
      refine n_if_ne E dL_law_522 (by omega) (tgt := 537) (by decide) (fun c9 => ?_) (fun c9 => ?_)
      · refine v_goto E dL_law_537 (tgt := 1585) (by decide) ?_
        refine v_lv [2, 3, 4, 5, 6] rfl ?_
        exact K (mS (kk2 (zin (xs (i + 1)) (z_nt S) && zin (xs (i + 2)) (z_nc S)) (decide (z_R S (iN (xs (i + 1))) < 200))) (srec S (iN (xs (i + 1))) (iN (xs (i + 2))) (decide (¬ xs (i + 3) = 0))) S) (mF (kk2 (zin (xs (i + 1)) (z_nt S) && zin (xs (i + 2)) (z_nc S)) (decide (z_R S (iN (xs (i + 1))) < 200))) (vp_updL f 0 (nI (vd (z_P (srec S (iN (xs (i + 1))) (iN (xs (i + 2))) (decide (¬ xs (i + 3) = 0))) (iN (xs (i + 1))) (iN (xs (i + 2)))) (z_F (srec S (iN (xs (i + 1))) (iN (xs (i + 2))) (decide (¬ xs (i + 3) = 0))) (iN (xs (i + 1))) (iN (xs (i + 2)))))).toInt64) f) (kk2 (zin (xs (i + 1)) (z_nt S) && zin (xs (i + 2)) (z_nc S)) (decide (z_R S (iN (xs (i + 1))) < 200))) _ _ hok1 (by omega) (by omega)
      · refine v_aload_n E dL_law_525 6 rfl rfl ?_
        refine v_iconst E dL_law_526 (v := nI 0) rfl ?_
        refine v_lald E dL_law_527 0 3 rfl rfl (by decide) (by decide) rfl ?_
        refine v_iload E dL_law_528 0 rfl ?_
        refine v_i2l E dL_law_530 (z := (mV (kk2 (zin (xs (i + 1)) (z_nt S) && zin (xs (i + 2)) (z_nc S)) (decide (z_R S (iN (xs (i + 1))) < 200))) (nI (vd (z_P (srec S (iN (xs (i + 1))) (iN (xs (i + 2))) (decide (¬ xs (i + 3) = 0))) (iN (xs (i + 1))) (iN (xs (i + 2)))) (z_F (srec S (iN (xs (i + 1))) (iN (xs (i + 2))) (decide (¬ xs (i + 3) = 0))) (iN (xs (i + 1))) (iN (xs (i + 2))))))).toInt64) rfl ?_
        refine v_lcmp E dL_law_531 (z := 0) (out_i c9 f _) ?_
        refine v_if_eq E dL_law_532 (tgt := 537) (by decide) (fun _ => ?_) (fun z => absurd rfl z)
        refine v_goto E dL_law_537 (tgt := 1585) (by decide) ?_
        refine v_lv [2, 3, 4, 5, 6] rfl ?_
        exact K (mS (kk2 (zin (xs (i + 1)) (z_nt S) && zin (xs (i + 2)) (z_nc S)) (decide (z_R S (iN (xs (i + 1))) < 200))) (srec S (iN (xs (i + 1))) (iN (xs (i + 2))) (decide (¬ xs (i + 3) = 0))) S) (mF (kk2 (zin (xs (i + 1)) (z_nt S) && zin (xs (i + 2)) (z_nc S)) (decide (z_R S (iN (xs (i + 1))) < 200))) (vp_updL f 0 (nI (vd (z_P (srec S (iN (xs (i + 1))) (iN (xs (i + 2))) (decide (¬ xs (i + 3) = 0))) (iN (xs (i + 1))) (iN (xs (i + 2)))) (z_F (srec S (iN (xs (i + 1))) (iN (xs (i + 2))) (decide (¬ xs (i + 3) = 0))) (iN (xs (i + 1))) (iN (xs (i + 2)))))).toInt64) f) (kk2 (zin (xs (i + 1)) (z_nt S) && zin (xs (i + 2)) (z_nc S)) (decide (z_R S (iN (xs (i + 1))) < 200))) _ _ hok1 (by omega) (by omega)
    · refine v_iconst E dL_law_499 (v := nI 1) rfl ?_
      refine v_goto E dL_law_500 (tgt := 504) (by decide) ?_
      refine v_top (y := bI (decide (¬ xs (i + 3) = 0))) (by rw [decide_eq_true c7]; rfl) ?_
      refine x_cVn E hA hTx dL_law_504 (thr_perm (x_X2_record l D cI cZ cQ cJ bb S th hok (xs (i + 1)) (xs (i + 2)) (decide (¬ xs (i + 3) = 0))) (outE cJ o (mF (kk2 (zin (xs (i + 1)) (z_nt S) && zin (xs (i + 2)) (z_nc S)) (decide (z_R S (iN (xs (i + 1))) < 200))) (vp_updL f 0 (nI (vd (z_P (srec S (iN (xs (i + 1))) (iN (xs (i + 2))) (decide (¬ xs (i + 3) = 0))) (iN (xs (i + 1))) (iN (xs (i + 2)))) (z_F (srec S (iN (xs (i + 1))) (iN (xs (i + 2))) (decide (¬ xs (i + 3) = 0))) (iN (xs (i + 1))) (iN (xs (i + 2)))))).toInt64) f) :: wX cI cZ cQ a (mS (kk2 (zin (xs (i + 1)) (z_nt S) && zin (xs (i + 2)) (z_nc S)) (decide (z_R S (iN (xs (i + 1))) < 200))) (srec S (iN (xs (i + 1))) (iN (xs (i + 2))) (decide (¬ xs (i + 3) = 0))) S)) perm2 perm2) (cwV 3 E.2.2.2.1 gL_law_X2_record rfl rfl rfl (by decide +kernel) ⟨Nat.le_of_ble_eq_true rfl, Nat.le_of_ble_eq_true rfl⟩) 1 rfl rfl rfl rfl rfl ⟨(by show _ ≤ 601024; omega), (by show _ ≤ 7293034; omega)⟩ (Nat.le_of_ble_eq_true rfl) ?_
      have hK9 : kk2 (zin (xs (i + 1)) (z_nt S) && zin (xs (i + 2)) (z_nc S)) (decide (z_R S (iN (xs (i + 1))) < 200)) < 3 := kk2_lt _ _
      have hok1 : zOK (mS (kk2 (zin (xs (i + 1)) (z_nt S) && zin (xs (i + 2)) (z_nc S)) (decide (z_R S (iN (xs (i + 1))) < 200))) (srec S (iN (xs (i + 1))) (iN (xs (i + 2))) (decide (¬ xs (i + 3) = 0))) S) := zm_record hok (xs (i + 1)) (xs (i + 2)) 0 (decide (¬ xs (i + 3) = 0))
      refine v_istore E dL_law_507 (by decide) rfl ?_
      refine v_aload_n E dL_law_509 5 rfl rfl ?_
      refine v_cVi' E dL_law_510 (x_X2_thrown l D cI cZ cQ cJ bb (mS (kk2 (zin (xs (i + 1)) (z_nt S) && zin (xs (i + 2)) (z_nc S)) (decide (z_R S (iN (xs (i + 1))) < 200))) (srec S (iN (xs (i + 1))) (iN (xs (i + 2))) (decide (¬ xs (i + 3) = 0))) S) ((kk2 (zin (xs (i + 1)) (z_nt S) && zin (xs (i + 2)) (z_nc S)) (decide (z_R S (iN (xs (i + 1))) < 200)))) hok1) (cwV 0 E.2.2.2.1 gL_law_X2_thrown rfl rfl rfl (by decide +kernel) ⟨Nat.le_of_ble_eq_true rfl, Nat.le_of_ble_eq_true rfl⟩) 1 rfl rfl rfl subM rfl rfl ⟨(by show _ ≤ 601024; omega), (by show _ ≤ 7293034; omega)⟩ (Nat.le_of_ble_eq_true rfl) ?_
      refine v_iload E dL_law_513 1 rfl ?_
      refine v_icmp_eq E dL_law_515 (tgt := 520) (by decide) (fun _ => ?_) (fun z => absurd rfl z)
      refine v_iload E dL_law_520 1 rfl ?_
      refine n_if_ne E dL_law_522 (by omega) (tgt := 537) (by decide) (fun c9 => ?_) (fun c9 => ?_)
      · refine v_goto E dL_law_537 (tgt := 1585) (by decide) ?_
        refine v_lv [2, 3, 4, 5, 6] rfl ?_
        exact K (mS (kk2 (zin (xs (i + 1)) (z_nt S) && zin (xs (i + 2)) (z_nc S)) (decide (z_R S (iN (xs (i + 1))) < 200))) (srec S (iN (xs (i + 1))) (iN (xs (i + 2))) (decide (¬ xs (i + 3) = 0))) S) (mF (kk2 (zin (xs (i + 1)) (z_nt S) && zin (xs (i + 2)) (z_nc S)) (decide (z_R S (iN (xs (i + 1))) < 200))) (vp_updL f 0 (nI (vd (z_P (srec S (iN (xs (i + 1))) (iN (xs (i + 2))) (decide (¬ xs (i + 3) = 0))) (iN (xs (i + 1))) (iN (xs (i + 2)))) (z_F (srec S (iN (xs (i + 1))) (iN (xs (i + 2))) (decide (¬ xs (i + 3) = 0))) (iN (xs (i + 1))) (iN (xs (i + 2)))))).toInt64) f) (kk2 (zin (xs (i + 1)) (z_nt S) && zin (xs (i + 2)) (z_nc S)) (decide (z_R S (iN (xs (i + 1))) < 200))) _ _ hok1 (by omega) (by omega)
      · refine v_aload_n E dL_law_525 6 rfl rfl ?_
        refine v_iconst E dL_law_526 (v := nI 0) rfl ?_
        refine v_lald E dL_law_527 0 3 rfl rfl (by decide) (by decide) rfl ?_
        refine v_iload E dL_law_528 0 rfl ?_
        refine v_i2l E dL_law_530 (z := (mV (kk2 (zin (xs (i + 1)) (z_nt S) && zin (xs (i + 2)) (z_nc S)) (decide (z_R S (iN (xs (i + 1))) < 200))) (nI (vd (z_P (srec S (iN (xs (i + 1))) (iN (xs (i + 2))) (decide (¬ xs (i + 3) = 0))) (iN (xs (i + 1))) (iN (xs (i + 2)))) (z_F (srec S (iN (xs (i + 1))) (iN (xs (i + 2))) (decide (¬ xs (i + 3) = 0))) (iN (xs (i + 1))) (iN (xs (i + 2))))))).toInt64) rfl ?_
        refine v_lcmp E dL_law_531 (z := 0) (out_i c9 f _) ?_
        refine v_if_eq E dL_law_532 (tgt := 537) (by decide) (fun _ => ?_) (fun z => absurd rfl z)
        refine v_goto E dL_law_537 (tgt := 1585) (by decide) ?_
        refine v_lv [2, 3, 4, 5, 6] rfl ?_
        exact K (mS (kk2 (zin (xs (i + 1)) (z_nt S) && zin (xs (i + 2)) (z_nc S)) (decide (z_R S (iN (xs (i + 1))) < 200))) (srec S (iN (xs (i + 1))) (iN (xs (i + 2))) (decide (¬ xs (i + 3) = 0))) S) (mF (kk2 (zin (xs (i + 1)) (z_nt S) && zin (xs (i + 2)) (z_nc S)) (decide (z_R S (iN (xs (i + 1))) < 200))) (vp_updL f 0 (nI (vd (z_P (srec S (iN (xs (i + 1))) (iN (xs (i + 2))) (decide (¬ xs (i + 3) = 0))) (iN (xs (i + 1))) (iN (xs (i + 2)))) (z_F (srec S (iN (xs (i + 1))) (iN (xs (i + 2))) (decide (¬ xs (i + 3) = 0))) (iN (xs (i + 1))) (iN (xs (i + 2)))))).toInt64) f) (kk2 (zin (xs (i + 1)) (z_nt S) && zin (xs (i + 2)) (z_nc S)) (decide (z_R S (iN (xs (i + 1))) < 200))) _ _ hok1 (by omega) (by omega)
  · refine v_iconst E dL_law_466 (v := nI 1) rfl ?_
    refine v_goto E dL_law_467 (tgt := 471) (by decide) ?_
    refine v_top (y := bI (decide (¬ xs (i + 3) = 0))) (by rw [decide_eq_true c7]; rfl) ?_
    refine v_aload_n E dL_law_471 4 rfl rfl ?_
    refine x_cSn E hA hTx dL_law_472 (thr_perm (x_L_record l D cI cZ cQ cJ a S hok hl o f (xs (i + 1)) (xs (i + 2)) (decide (¬ xs (i + 3) = 0))) (wM cI bb S th) perm1 perm1) (vx_cwSW 5 E.2.2.2.1 gL_law_L_record rfl rfl rfl (by decide +kernel) ⟨Nat.le_of_ble_eq_true rfl, Nat.le_of_ble_eq_true rfl⟩) rfl rfl ⟨(by show _ ≤ 601024; omega), (by show _ ≤ 7293034; omega)⟩ (Nat.le_of_ble_eq_true rfl) ?_
    refine v_istore E dL_law_475 (by decide) rfl ?_
    refine v_aload_n E dL_law_477 4 rfl rfl ?_
    refine v_aload_n E dL_law_478 2 rfl rfl ?_
    refine v_iload E dL_law_479 1 rfl ?_
    refine v_iconst E dL_law_481 (v := nI 1) rfl ?_
    refine v_iadd E dL_law_482 (nI_add _ _) ?_
    refine v_sld E dL_law_483 hX hbl hbA (by omega) (by omega) ?_
    refine v_aload_n E dL_law_484 2 rfl rfl ?_
    refine v_iload E dL_law_485 1 rfl ?_
    refine v_iconst E dL_law_487 (v := nI 2) rfl ?_
    refine v_iadd E dL_law_488 (nI_add _ _) ?_
    refine v_sld E dL_law_489 hX hbl hbA (by omega) (by omega) ?_
    refine v_aload_n E dL_law_490 2 rfl rfl ?_
    refine v_iload E dL_law_491 1 rfl ?_
    refine v_iconst E dL_law_493 (v := nI 3) rfl ?_
    refine v_iadd E dL_law_494 (nI_add _ _) ?_
    refine v_sld E dL_law_495 hX hbl hbA (by omega) (by omega) ?_
    refine v_if_eq E dL_law_496 (tgt := 503) (by decide) (fun c7 => ?_) (fun c7 => ?_)
    · refine v_iconst E dL_law_503 (v := nI 0) rfl ?_
      refine v_top (y := bI (decide (¬ xs (i + 3) = 0))) (by rw [decide_eq_false (fun z => z c7)]; rfl) ?_
      refine x_cVn E hA hTx dL_law_504 (thr_perm (x_X2_record l D cI cZ cQ cJ bb S th hok (xs (i + 1)) (xs (i + 2)) (decide (¬ xs (i + 3) = 0))) (outE cJ o (mF (kk2 (zin (xs (i + 1)) (z_nt S) && zin (xs (i + 2)) (z_nc S)) (decide (z_R S (iN (xs (i + 1))) < 200))) (vp_updL f 0 (nI (vd (z_P (srec S (iN (xs (i + 1))) (iN (xs (i + 2))) (decide (¬ xs (i + 3) = 0))) (iN (xs (i + 1))) (iN (xs (i + 2)))) (z_F (srec S (iN (xs (i + 1))) (iN (xs (i + 2))) (decide (¬ xs (i + 3) = 0))) (iN (xs (i + 1))) (iN (xs (i + 2)))))).toInt64) f) :: wX cI cZ cQ a (mS (kk2 (zin (xs (i + 1)) (z_nt S) && zin (xs (i + 2)) (z_nc S)) (decide (z_R S (iN (xs (i + 1))) < 200))) (srec S (iN (xs (i + 1))) (iN (xs (i + 2))) (decide (¬ xs (i + 3) = 0))) S)) perm2 perm2) (cwV 3 E.2.2.2.1 gL_law_X2_record rfl rfl rfl (by decide +kernel) ⟨Nat.le_of_ble_eq_true rfl, Nat.le_of_ble_eq_true rfl⟩) 1 rfl rfl rfl rfl rfl ⟨(by show _ ≤ 601024; omega), (by show _ ≤ 7293034; omega)⟩ (Nat.le_of_ble_eq_true rfl) ?_
      have hK9 : kk2 (zin (xs (i + 1)) (z_nt S) && zin (xs (i + 2)) (z_nc S)) (decide (z_R S (iN (xs (i + 1))) < 200)) < 3 := kk2_lt _ _
      have hok1 : zOK (mS (kk2 (zin (xs (i + 1)) (z_nt S) && zin (xs (i + 2)) (z_nc S)) (decide (z_R S (iN (xs (i + 1))) < 200))) (srec S (iN (xs (i + 1))) (iN (xs (i + 2))) (decide (¬ xs (i + 3) = 0))) S) := zm_record hok (xs (i + 1)) (xs (i + 2)) 0 (decide (¬ xs (i + 3) = 0))
      refine v_istore E dL_law_507 (by decide) rfl ?_
      refine v_aload_n E dL_law_509 5 rfl rfl ?_
      refine v_cVi' E dL_law_510 (x_X2_thrown l D cI cZ cQ cJ bb (mS (kk2 (zin (xs (i + 1)) (z_nt S) && zin (xs (i + 2)) (z_nc S)) (decide (z_R S (iN (xs (i + 1))) < 200))) (srec S (iN (xs (i + 1))) (iN (xs (i + 2))) (decide (¬ xs (i + 3) = 0))) S) ((kk2 (zin (xs (i + 1)) (z_nt S) && zin (xs (i + 2)) (z_nc S)) (decide (z_R S (iN (xs (i + 1))) < 200)))) hok1) (cwV 0 E.2.2.2.1 gL_law_X2_thrown rfl rfl rfl (by decide +kernel) ⟨Nat.le_of_ble_eq_true rfl, Nat.le_of_ble_eq_true rfl⟩) 1 rfl rfl rfl subM rfl rfl ⟨(by show _ ≤ 601024; omega), (by show _ ≤ 7293034; omega)⟩ (Nat.le_of_ble_eq_true rfl) ?_
      refine v_iload E dL_law_513 1 rfl ?_
      refine v_icmp_eq E dL_law_515 (tgt := 520) (by decide) (fun _ => ?_) (fun z => absurd rfl z)
      refine v_iload E dL_law_520 1 rfl ?_
      refine n_if_ne E dL_law_522 (by omega) (tgt := 537) (by decide) (fun c9 => ?_) (fun c9 => ?_)
      · refine v_goto E dL_law_537 (tgt := 1585) (by decide) ?_
        refine v_lv [2, 3, 4, 5, 6] rfl ?_
        exact K (mS (kk2 (zin (xs (i + 1)) (z_nt S) && zin (xs (i + 2)) (z_nc S)) (decide (z_R S (iN (xs (i + 1))) < 200))) (srec S (iN (xs (i + 1))) (iN (xs (i + 2))) (decide (¬ xs (i + 3) = 0))) S) (mF (kk2 (zin (xs (i + 1)) (z_nt S) && zin (xs (i + 2)) (z_nc S)) (decide (z_R S (iN (xs (i + 1))) < 200))) (vp_updL f 0 (nI (vd (z_P (srec S (iN (xs (i + 1))) (iN (xs (i + 2))) (decide (¬ xs (i + 3) = 0))) (iN (xs (i + 1))) (iN (xs (i + 2)))) (z_F (srec S (iN (xs (i + 1))) (iN (xs (i + 2))) (decide (¬ xs (i + 3) = 0))) (iN (xs (i + 1))) (iN (xs (i + 2)))))).toInt64) f) (kk2 (zin (xs (i + 1)) (z_nt S) && zin (xs (i + 2)) (z_nc S)) (decide (z_R S (iN (xs (i + 1))) < 200))) _ _ hok1 (by omega) (by omega)
      · refine v_aload_n E dL_law_525 6 rfl rfl ?_
        refine v_iconst E dL_law_526 (v := nI 0) rfl ?_
        refine v_lald E dL_law_527 0 3 rfl rfl (by decide) (by decide) rfl ?_
        refine v_iload E dL_law_528 0 rfl ?_
        refine v_i2l E dL_law_530 (z := (mV (kk2 (zin (xs (i + 1)) (z_nt S) && zin (xs (i + 2)) (z_nc S)) (decide (z_R S (iN (xs (i + 1))) < 200))) (nI (vd (z_P (srec S (iN (xs (i + 1))) (iN (xs (i + 2))) (decide (¬ xs (i + 3) = 0))) (iN (xs (i + 1))) (iN (xs (i + 2)))) (z_F (srec S (iN (xs (i + 1))) (iN (xs (i + 2))) (decide (¬ xs (i + 3) = 0))) (iN (xs (i + 1))) (iN (xs (i + 2))))))).toInt64) rfl ?_
        refine v_lcmp E dL_law_531 (z := 0) (out_i c9 f _) ?_
        refine v_if_eq E dL_law_532 (tgt := 537) (by decide) (fun _ => ?_) (fun z => absurd rfl z)
        refine v_goto E dL_law_537 (tgt := 1585) (by decide) ?_
        refine v_lv [2, 3, 4, 5, 6] rfl ?_
        exact K (mS (kk2 (zin (xs (i + 1)) (z_nt S) && zin (xs (i + 2)) (z_nc S)) (decide (z_R S (iN (xs (i + 1))) < 200))) (srec S (iN (xs (i + 1))) (iN (xs (i + 2))) (decide (¬ xs (i + 3) = 0))) S) (mF (kk2 (zin (xs (i + 1)) (z_nt S) && zin (xs (i + 2)) (z_nc S)) (decide (z_R S (iN (xs (i + 1))) < 200))) (vp_updL f 0 (nI (vd (z_P (srec S (iN (xs (i + 1))) (iN (xs (i + 2))) (decide (¬ xs (i + 3) = 0))) (iN (xs (i + 1))) (iN (xs (i + 2)))) (z_F (srec S (iN (xs (i + 1))) (iN (xs (i + 2))) (decide (¬ xs (i + 3) = 0))) (iN (xs (i + 1))) (iN (xs (i + 2)))))).toInt64) f) (kk2 (zin (xs (i + 1)) (z_nt S) && zin (xs (i + 2)) (z_nc S)) (decide (z_R S (iN (xs (i + 1))) < 200))) _ _ hok1 (by omega) (by omega)
    · refine v_iconst E dL_law_499 (v := nI 1) rfl ?_
      refine v_goto E dL_law_500 (tgt := 504) (by decide) ?_
      refine v_top (y := bI (decide (¬ xs (i + 3) = 0))) (by rw [decide_eq_true c7]; rfl) ?_
      refine x_cVn E hA hTx dL_law_504 (thr_perm (x_X2_record l D cI cZ cQ cJ bb S th hok (xs (i + 1)) (xs (i + 2)) (decide (¬ xs (i + 3) = 0))) (outE cJ o (mF (kk2 (zin (xs (i + 1)) (z_nt S) && zin (xs (i + 2)) (z_nc S)) (decide (z_R S (iN (xs (i + 1))) < 200))) (vp_updL f 0 (nI (vd (z_P (srec S (iN (xs (i + 1))) (iN (xs (i + 2))) (decide (¬ xs (i + 3) = 0))) (iN (xs (i + 1))) (iN (xs (i + 2)))) (z_F (srec S (iN (xs (i + 1))) (iN (xs (i + 2))) (decide (¬ xs (i + 3) = 0))) (iN (xs (i + 1))) (iN (xs (i + 2)))))).toInt64) f) :: wX cI cZ cQ a (mS (kk2 (zin (xs (i + 1)) (z_nt S) && zin (xs (i + 2)) (z_nc S)) (decide (z_R S (iN (xs (i + 1))) < 200))) (srec S (iN (xs (i + 1))) (iN (xs (i + 2))) (decide (¬ xs (i + 3) = 0))) S)) perm2 perm2) (cwV 3 E.2.2.2.1 gL_law_X2_record rfl rfl rfl (by decide +kernel) ⟨Nat.le_of_ble_eq_true rfl, Nat.le_of_ble_eq_true rfl⟩) 1 rfl rfl rfl rfl rfl ⟨(by show _ ≤ 601024; omega), (by show _ ≤ 7293034; omega)⟩ (Nat.le_of_ble_eq_true rfl) ?_
      have hK9 : kk2 (zin (xs (i + 1)) (z_nt S) && zin (xs (i + 2)) (z_nc S)) (decide (z_R S (iN (xs (i + 1))) < 200)) < 3 := kk2_lt _ _
      have hok1 : zOK (mS (kk2 (zin (xs (i + 1)) (z_nt S) && zin (xs (i + 2)) (z_nc S)) (decide (z_R S (iN (xs (i + 1))) < 200))) (srec S (iN (xs (i + 1))) (iN (xs (i + 2))) (decide (¬ xs (i + 3) = 0))) S) := zm_record hok (xs (i + 1)) (xs (i + 2)) 0 (decide (¬ xs (i + 3) = 0))
      refine v_istore E dL_law_507 (by decide) rfl ?_
      refine v_aload_n E dL_law_509 5 rfl rfl ?_
      refine v_cVi' E dL_law_510 (x_X2_thrown l D cI cZ cQ cJ bb (mS (kk2 (zin (xs (i + 1)) (z_nt S) && zin (xs (i + 2)) (z_nc S)) (decide (z_R S (iN (xs (i + 1))) < 200))) (srec S (iN (xs (i + 1))) (iN (xs (i + 2))) (decide (¬ xs (i + 3) = 0))) S) ((kk2 (zin (xs (i + 1)) (z_nt S) && zin (xs (i + 2)) (z_nc S)) (decide (z_R S (iN (xs (i + 1))) < 200)))) hok1) (cwV 0 E.2.2.2.1 gL_law_X2_thrown rfl rfl rfl (by decide +kernel) ⟨Nat.le_of_ble_eq_true rfl, Nat.le_of_ble_eq_true rfl⟩) 1 rfl rfl rfl subM rfl rfl ⟨(by show _ ≤ 601024; omega), (by show _ ≤ 7293034; omega)⟩ (Nat.le_of_ble_eq_true rfl) ?_
      refine v_iload E dL_law_513 1 rfl ?_
      refine v_icmp_eq E dL_law_515 (tgt := 520) (by decide) (fun _ => ?_) (fun z => absurd rfl z)
      refine v_iload E dL_law_520 1 rfl ?_
      refine n_if_ne E dL_law_522 (by omega) (tgt := 537) (by decide) (fun c9 => ?_) (fun c9 => ?_)
      · refine v_goto E dL_law_537 (tgt := 1585) (by decide) ?_
        refine v_lv [2, 3, 4, 5, 6] rfl ?_
        exact K (mS (kk2 (zin (xs (i + 1)) (z_nt S) && zin (xs (i + 2)) (z_nc S)) (decide (z_R S (iN (xs (i + 1))) < 200))) (srec S (iN (xs (i + 1))) (iN (xs (i + 2))) (decide (¬ xs (i + 3) = 0))) S) (mF (kk2 (zin (xs (i + 1)) (z_nt S) && zin (xs (i + 2)) (z_nc S)) (decide (z_R S (iN (xs (i + 1))) < 200))) (vp_updL f 0 (nI (vd (z_P (srec S (iN (xs (i + 1))) (iN (xs (i + 2))) (decide (¬ xs (i + 3) = 0))) (iN (xs (i + 1))) (iN (xs (i + 2)))) (z_F (srec S (iN (xs (i + 1))) (iN (xs (i + 2))) (decide (¬ xs (i + 3) = 0))) (iN (xs (i + 1))) (iN (xs (i + 2)))))).toInt64) f) (kk2 (zin (xs (i + 1)) (z_nt S) && zin (xs (i + 2)) (z_nc S)) (decide (z_R S (iN (xs (i + 1))) < 200))) _ _ hok1 (by omega) (by omega)
      · refine v_aload_n E dL_law_525 6 rfl rfl ?_
        refine v_iconst E dL_law_526 (v := nI 0) rfl ?_
        refine v_lald E dL_law_527 0 3 rfl rfl (by decide) (by decide) rfl ?_
        refine v_iload E dL_law_528 0 rfl ?_
        refine v_i2l E dL_law_530 (z := (mV (kk2 (zin (xs (i + 1)) (z_nt S) && zin (xs (i + 2)) (z_nc S)) (decide (z_R S (iN (xs (i + 1))) < 200))) (nI (vd (z_P (srec S (iN (xs (i + 1))) (iN (xs (i + 2))) (decide (¬ xs (i + 3) = 0))) (iN (xs (i + 1))) (iN (xs (i + 2)))) (z_F (srec S (iN (xs (i + 1))) (iN (xs (i + 2))) (decide (¬ xs (i + 3) = 0))) (iN (xs (i + 1))) (iN (xs (i + 2))))))).toInt64) rfl ?_
        refine v_lcmp E dL_law_531 (z := 0) (out_i c9 f _) ?_
        refine v_if_eq E dL_law_532 (tgt := 537) (by decide) (fun _ => ?_) (fun z => absurd rfl z)
        refine v_goto E dL_law_537 (tgt := 1585) (by decide) ?_
        refine v_lv [2, 3, 4, 5, 6] rfl ?_
        exact K (mS (kk2 (zin (xs (i + 1)) (z_nt S) && zin (xs (i + 2)) (z_nc S)) (decide (z_R S (iN (xs (i + 1))) < 200))) (srec S (iN (xs (i + 1))) (iN (xs (i + 2))) (decide (¬ xs (i + 3) = 0))) S) (mF (kk2 (zin (xs (i + 1)) (z_nt S) && zin (xs (i + 2)) (z_nc S)) (decide (z_R S (iN (xs (i + 1))) < 200))) (vp_updL f 0 (nI (vd (z_P (srec S (iN (xs (i + 1))) (iN (xs (i + 2))) (decide (¬ xs (i + 3) = 0))) (iN (xs (i + 1))) (iN (xs (i + 2)))) (z_F (srec S (iN (xs (i + 1))) (iN (xs (i + 2))) (decide (¬ xs (i + 3) = 0))) (iN (xs (i + 1))) (iN (xs (i + 2)))))).toInt64) f) (kk2 (zin (xs (i + 1)) (z_nt S) && zin (xs (i + 2)) (z_nc S)) (decide (z_R S (iN (xs (i + 1))) < 200))) _ _ hok1 (by omega) (by omega)
set_option maxHeartbeats 4000000 in
set_option maxRecDepth 100000 in
theorem law_c6 (E : LE9 p s m b meth c D cI cZ cQ cJ) (hA : ∀ q : Nat, s.heap.size ≤ q → (fun q : Nat => s.heap.size ≤ q) q) (hTx : z_Tx (fun q : Nat => s.heap.size ≤ q) s s.heap) (hl : l.stackTraces = false) (hX : va_X b L xs s s.heap) (hbl : b < s.heap.size) (hbA : ¬ (fun q : Nat => s.heap.size ≤ q) b) (hL : L ≤ 2048) (hok : zOK S) (hi : i + 4 ≤ L) (hcc : cells + 4 ≤ 601024) (hss : slots + 24 ≤ 7293034)
    (K : ∀ (S' : zS) (f' : Nat → Int64) (th' cells' slots' : Nat), zOK S' → cells' ≤ cells + 4 → slots' ≤ slots + 24 → LV p l e s m b below meth c D cells' slots' 1585 [(4, .int (nI i)), (0, .ref b), (1, .ref (a 0)), (2, .ref (bb 0)), (3, .ref o)] [] (wL cI cZ cQ cJ a bb o S' f' th')) : LV p l e s m b below meth c D cells slots 540 [(4, .int (nI i)), (0, .ref b), (1, .ref (a 0)), (2, .ref (bb 0)), (3, .ref o)] [] (wL cI cZ cQ cJ a bb o S f th) := by
  refine v_aload_n E dL_law_540 2 rfl rfl ?_
  refine v_aload_n E dL_law_541 1 rfl rfl ?_
  refine v_iload E dL_law_542 0 rfl ?_
  refine v_iconst E dL_law_544 (v := nI 1) rfl ?_
  refine v_iadd E dL_law_545 (nI_add _ _) ?_
  refine v_sld E dL_law_546 hX hbl hbA (by omega) (by omega) ?_
  refine v_aload_n E dL_law_547 1 rfl rfl ?_
  refine v_iload E dL_law_548 0 rfl ?_
  refine v_iconst E dL_law_550 (v := nI 2) rfl ?_
  refine v_iadd E dL_law_551 (nI_add _ _) ?_
  refine v_sld E dL_law_552 hX hbl hbA (by omega) (by omega) ?_
  refine v_aload_n E dL_law_553 1 rfl rfl ?_
  refine v_iload E dL_law_554 0 rfl ?_
  refine v_iconst E dL_law_556 (v := nI 3) rfl ?_
  refine v_iadd E dL_law_557 (nI_add _ _) ?_
  refine v_sld E dL_law_558 hX hbl hbA (by omega) (by omega) ?_
  refine v_aload_n E dL_law_559 4 rfl rfl ?_
  refine x_cSn E hA hTx dL_law_560 (thr_perm (x_L_triage l D cI cZ cQ cJ a S hok hl o f (xs (i + 1)) (xs (i + 2)) (xs (i + 3))) (wM cI bb S th) perm1 perm1) (vx_cwSW 5 E.2.2.2.1 gL_law_L_triage rfl rfl rfl (by decide +kernel) ⟨Nat.le_of_ble_eq_true rfl, Nat.le_of_ble_eq_true rfl⟩) rfl rfl ⟨(by show _ ≤ 601024; omega), (by show _ ≤ 7293034; omega)⟩ (Nat.le_of_ble_eq_true rfl) ?_
  refine v_istore E dL_law_563 (by decide) rfl ?_
  refine v_aload_n E dL_law_565 4 rfl rfl ?_
  refine v_aload_n E dL_law_566 2 rfl rfl ?_
  refine v_iload E dL_law_567 1 rfl ?_
  refine v_iconst E dL_law_569 (v := nI 1) rfl ?_
  refine v_iadd E dL_law_570 (nI_add _ _) ?_
  refine v_sld E dL_law_571 hX hbl hbA (by omega) (by omega) ?_
  refine v_aload_n E dL_law_572 2 rfl rfl ?_
  refine v_iload E dL_law_573 1 rfl ?_
  refine v_iconst E dL_law_575 (v := nI 2) rfl ?_
  refine v_iadd E dL_law_576 (nI_add _ _) ?_
  refine v_sld E dL_law_577 hX hbl hbA (by omega) (by omega) ?_
  refine v_aload_n E dL_law_578 2 rfl rfl ?_
  refine v_iload E dL_law_579 1 rfl ?_
  refine v_iconst E dL_law_581 (v := nI 3) rfl ?_
  refine v_iadd E dL_law_582 (nI_add _ _) ?_
  refine v_sld E dL_law_583 hX hbl hbA (by omega) (by omega) ?_
  refine x_cVn E hA hTx dL_law_584 (thr_perm (x_X2_triage l D cI cZ cQ cJ bb S th hok (xs (i + 1)) (xs (i + 2)) (xs (i + 3))) (outE cJ o (mF (kk2 (zin (xs (i + 1)) (z_nt S) && zin (xs (i + 2)) (z_nc S) && zin (xs (i + 3)) (z_nc S)) (decide (iN (xs (i + 2)) < iN (xs (i + 3))))) (vp_updL f 0 (nI (zcc (stri S (iN (xs (i + 1))) (iN (xs (i + 2))) (iN (xs (i + 3)))) (iN (xs (i + 1))))).toInt64) f) :: wX cI cZ cQ a (mS (kk2 (zin (xs (i + 1)) (z_nt S) && zin (xs (i + 2)) (z_nc S) && zin (xs (i + 3)) (z_nc S)) (decide (iN (xs (i + 2)) < iN (xs (i + 3))))) (stri S (iN (xs (i + 1))) (iN (xs (i + 2))) (iN (xs (i + 3)))) S)) perm2 perm2) (cwV 3 E.2.2.2.1 gL_law_X2_triage rfl rfl rfl (by decide +kernel) ⟨Nat.le_of_ble_eq_true rfl, Nat.le_of_ble_eq_true rfl⟩) 1 rfl rfl rfl rfl rfl ⟨(by show _ ≤ 601024; omega), (by show _ ≤ 7293034; omega)⟩ (Nat.le_of_ble_eq_true rfl) ?_
  have hK9 : kk2 (zin (xs (i + 1)) (z_nt S) && zin (xs (i + 2)) (z_nc S) && zin (xs (i + 3)) (z_nc S)) (decide (iN (xs (i + 2)) < iN (xs (i + 3)))) < 3 := kk2_lt _ _
  have hok1 : zOK (mS (kk2 (zin (xs (i + 1)) (z_nt S) && zin (xs (i + 2)) (z_nc S) && zin (xs (i + 3)) (z_nc S)) (decide (iN (xs (i + 2)) < iN (xs (i + 3))))) (stri S (iN (xs (i + 1))) (iN (xs (i + 2))) (iN (xs (i + 3)))) S) := zm_triage hok (xs (i + 1)) (xs (i + 2)) (xs (i + 3)) (true)
  refine v_istore E dL_law_587 (by decide) rfl ?_
  refine v_aload_n E dL_law_589 5 rfl rfl ?_
  refine v_cVi' E dL_law_590 (x_X2_thrown l D cI cZ cQ cJ bb (mS (kk2 (zin (xs (i + 1)) (z_nt S) && zin (xs (i + 2)) (z_nc S) && zin (xs (i + 3)) (z_nc S)) (decide (iN (xs (i + 2)) < iN (xs (i + 3))))) (stri S (iN (xs (i + 1))) (iN (xs (i + 2))) (iN (xs (i + 3)))) S) ((kk2 (zin (xs (i + 1)) (z_nt S) && zin (xs (i + 2)) (z_nc S) && zin (xs (i + 3)) (z_nc S)) (decide (iN (xs (i + 2)) < iN (xs (i + 3)))))) hok1) (cwV 0 E.2.2.2.1 gL_law_X2_thrown rfl rfl rfl (by decide +kernel) ⟨Nat.le_of_ble_eq_true rfl, Nat.le_of_ble_eq_true rfl⟩) 1 rfl rfl rfl subM rfl rfl ⟨(by show _ ≤ 601024; omega), (by show _ ≤ 7293034; omega)⟩ (Nat.le_of_ble_eq_true rfl) ?_
  refine v_iload E dL_law_593 1 rfl ?_
  refine v_icmp_eq E dL_law_595 (tgt := 600) (by decide) (fun _ => ?_) (fun z => absurd rfl z)
  refine v_iload E dL_law_600 1 rfl ?_
  refine n_if_ne E dL_law_602 (by omega) (tgt := 617) (by decide) (fun c9 => ?_) (fun c9 => ?_)
  · refine v_goto E dL_law_617 (tgt := 1585) (by decide) ?_
    refine v_lv [2, 3, 4, 5, 6] rfl ?_
    exact K (mS (kk2 (zin (xs (i + 1)) (z_nt S) && zin (xs (i + 2)) (z_nc S) && zin (xs (i + 3)) (z_nc S)) (decide (iN (xs (i + 2)) < iN (xs (i + 3))))) (stri S (iN (xs (i + 1))) (iN (xs (i + 2))) (iN (xs (i + 3)))) S) (mF (kk2 (zin (xs (i + 1)) (z_nt S) && zin (xs (i + 2)) (z_nc S) && zin (xs (i + 3)) (z_nc S)) (decide (iN (xs (i + 2)) < iN (xs (i + 3))))) (vp_updL f 0 (nI (zcc (stri S (iN (xs (i + 1))) (iN (xs (i + 2))) (iN (xs (i + 3)))) (iN (xs (i + 1))))).toInt64) f) (kk2 (zin (xs (i + 1)) (z_nt S) && zin (xs (i + 2)) (z_nc S) && zin (xs (i + 3)) (z_nc S)) (decide (iN (xs (i + 2)) < iN (xs (i + 3))))) _ _ hok1 (by omega) (by omega)
  · refine v_aload_n E dL_law_605 6 rfl rfl ?_
    refine v_iconst E dL_law_606 (v := nI 0) rfl ?_
    refine v_lald E dL_law_607 0 3 rfl rfl (by decide) (by decide) rfl ?_
    refine v_iload E dL_law_608 0 rfl ?_
    refine v_i2l E dL_law_610 (z := (mV (kk2 (zin (xs (i + 1)) (z_nt S) && zin (xs (i + 2)) (z_nc S) && zin (xs (i + 3)) (z_nc S)) (decide (iN (xs (i + 2)) < iN (xs (i + 3))))) (nI (zcc (stri S (iN (xs (i + 1))) (iN (xs (i + 2))) (iN (xs (i + 3)))) (iN (xs (i + 1)))))).toInt64) rfl ?_
    refine v_lcmp E dL_law_611 (z := 0) (out_i c9 f _) ?_
    refine v_if_eq E dL_law_612 (tgt := 617) (by decide) (fun _ => ?_) (fun z => absurd rfl z)
    refine v_goto E dL_law_617 (tgt := 1585) (by decide) ?_
    refine v_lv [2, 3, 4, 5, 6] rfl ?_
    exact K (mS (kk2 (zin (xs (i + 1)) (z_nt S) && zin (xs (i + 2)) (z_nc S) && zin (xs (i + 3)) (z_nc S)) (decide (iN (xs (i + 2)) < iN (xs (i + 3))))) (stri S (iN (xs (i + 1))) (iN (xs (i + 2))) (iN (xs (i + 3)))) S) (mF (kk2 (zin (xs (i + 1)) (z_nt S) && zin (xs (i + 2)) (z_nc S) && zin (xs (i + 3)) (z_nc S)) (decide (iN (xs (i + 2)) < iN (xs (i + 3))))) (vp_updL f 0 (nI (zcc (stri S (iN (xs (i + 1))) (iN (xs (i + 2))) (iN (xs (i + 3)))) (iN (xs (i + 1))))).toInt64) f) (kk2 (zin (xs (i + 1)) (z_nt S) && zin (xs (i + 2)) (z_nc S) && zin (xs (i + 3)) (z_nc S)) (decide (iN (xs (i + 2)) < iN (xs (i + 3))))) _ _ hok1 (by omega) (by omega)
set_option maxHeartbeats 4000000 in
set_option maxRecDepth 100000 in
theorem law_c7 (E : LE9 p s m b meth c D cI cZ cQ cJ) (hA : ∀ q : Nat, s.heap.size ≤ q → (fun q : Nat => s.heap.size ≤ q) q) (hTx : z_Tx (fun q : Nat => s.heap.size ≤ q) s s.heap) (hl : l.stackTraces = false) (hX : va_X b L xs s s.heap) (hbl : b < s.heap.size) (hbA : ¬ (fun q : Nat => s.heap.size ≤ q) b) (hL : L ≤ 2048) (hok : zOK S) (hi : i + 4 ≤ L) (hcc : cells + 4 ≤ 601024) (hss : slots + 24 ≤ 7293034)
    (K : ∀ (S' : zS) (f' : Nat → Int64) (th' cells' slots' : Nat), zOK S' → cells' ≤ cells + 4 → slots' ≤ slots + 24 → LV p l e s m b below meth c D cells' slots' 1585 [(4, .int (nI i)), (0, .ref b), (1, .ref (a 0)), (2, .ref (bb 0)), (3, .ref o)] [] (wL cI cZ cQ cJ a bb o S' f' th')) : LV p l e s m b below meth c D cells slots 620 [(4, .int (nI i)), (0, .ref b), (1, .ref (a 0)), (2, .ref (bb 0)), (3, .ref o)] [] (wL cI cZ cQ cJ a bb o S f th) := by
  refine v_aload_n E dL_law_620 2 rfl rfl ?_
  refine v_aload_n E dL_law_621 1 rfl rfl ?_
  refine v_iload E dL_law_622 0 rfl ?_
  refine v_iconst E dL_law_624 (v := nI 1) rfl ?_
  refine v_iadd E dL_law_625 (nI_add _ _) ?_
  refine v_sld E dL_law_626 hX hbl hbA (by omega) (by omega) ?_
  refine v_aload_n E dL_law_627 4 rfl rfl ?_
  refine x_cSn E hA hTx dL_law_628 (thr_perm (x_L_close l D cI cZ cQ cJ a S hok hl o f (xs (i + 1))) (wM cI bb S th) perm1 perm1) (vx_cwSW 3 E.2.2.2.1 gL_law_L_close rfl rfl rfl (by decide +kernel) ⟨Nat.le_of_ble_eq_true rfl, Nat.le_of_ble_eq_true rfl⟩) rfl rfl ⟨(by show _ ≤ 601024; omega), (by show _ ≤ 7293034; omega)⟩ (Nat.le_of_ble_eq_true rfl) ?_
  refine v_istore E dL_law_631 (by decide) rfl ?_
  refine v_aload_n E dL_law_633 4 rfl rfl ?_
  refine v_aload_n E dL_law_634 2 rfl rfl ?_
  refine v_iload E dL_law_635 1 rfl ?_
  refine v_iconst E dL_law_637 (v := nI 1) rfl ?_
  refine v_iadd E dL_law_638 (nI_add _ _) ?_
  refine v_sld E dL_law_639 hX hbl hbA (by omega) (by omega) ?_
  refine x_cVn E hA hTx dL_law_640 (thr_perm (x_X2_close l D cI cZ cQ cJ bb S th hok (xs (i + 1))) (outE cJ o (mF (kk2 (zin (xs (i + 1)) (z_nt S)) (z_T S (iN (xs (i + 1))))) (vp_updL f 0 (zonly S (iN (xs (i + 1)))).toInt64) f) :: wX cI cZ cQ a (mS (kk2 (zin (xs (i + 1)) (z_nt S)) (z_T S (iN (xs (i + 1))))) (sclo S (iN (xs (i + 1)))) S)) perm2 perm2) (cwV 1 E.2.2.2.1 gL_law_X2_close rfl rfl rfl (by decide +kernel) ⟨Nat.le_of_ble_eq_true rfl, Nat.le_of_ble_eq_true rfl⟩) 1 rfl rfl rfl rfl rfl ⟨(by show _ ≤ 601024; omega), (by show _ ≤ 7293034; omega)⟩ (Nat.le_of_ble_eq_true rfl) ?_
  have hK9 : kk2 (zin (xs (i + 1)) (z_nt S)) (z_T S (iN (xs (i + 1)))) < 3 := kk2_lt _ _
  have hok1 : zOK (mS (kk2 (zin (xs (i + 1)) (z_nt S)) (z_T S (iN (xs (i + 1))))) (sclo S (iN (xs (i + 1)))) S) := zm_close hok (xs (i + 1)) 0 0 (true)
  refine v_istore E dL_law_643 (by decide) rfl ?_
  refine v_aload_n E dL_law_645 5 rfl rfl ?_
  refine v_cVi' E dL_law_646 (x_X2_thrown l D cI cZ cQ cJ bb (mS (kk2 (zin (xs (i + 1)) (z_nt S)) (z_T S (iN (xs (i + 1))))) (sclo S (iN (xs (i + 1)))) S) ((kk2 (zin (xs (i + 1)) (z_nt S)) (z_T S (iN (xs (i + 1)))))) hok1) (cwV 0 E.2.2.2.1 gL_law_X2_thrown rfl rfl rfl (by decide +kernel) ⟨Nat.le_of_ble_eq_true rfl, Nat.le_of_ble_eq_true rfl⟩) 1 rfl rfl rfl subM rfl rfl ⟨(by show _ ≤ 601024; omega), (by show _ ≤ 7293034; omega)⟩ (Nat.le_of_ble_eq_true rfl) ?_
  refine v_iload E dL_law_649 1 rfl ?_
  refine v_icmp_eq E dL_law_651 (tgt := 656) (by decide) (fun _ => ?_) (fun z => absurd rfl z)
  refine v_iload E dL_law_656 1 rfl ?_
  refine n_if_ne E dL_law_658 (by omega) (tgt := 673) (by decide) (fun c9 => ?_) (fun c9 => ?_)
  · refine v_goto E dL_law_673 (tgt := 1585) (by decide) ?_
    refine v_lv [2, 3, 4, 5, 6] rfl ?_
    exact K (mS (kk2 (zin (xs (i + 1)) (z_nt S)) (z_T S (iN (xs (i + 1))))) (sclo S (iN (xs (i + 1)))) S) (mF (kk2 (zin (xs (i + 1)) (z_nt S)) (z_T S (iN (xs (i + 1))))) (vp_updL f 0 (zonly S (iN (xs (i + 1)))).toInt64) f) (kk2 (zin (xs (i + 1)) (z_nt S)) (z_T S (iN (xs (i + 1))))) _ _ hok1 (by omega) (by omega)
  · refine v_aload_n E dL_law_661 6 rfl rfl ?_
    refine v_iconst E dL_law_662 (v := nI 0) rfl ?_
    refine v_lald E dL_law_663 0 3 rfl rfl (by decide) (by decide) rfl ?_
    refine v_iload E dL_law_664 0 rfl ?_
    refine v_i2l E dL_law_666 (z := (mV (kk2 (zin (xs (i + 1)) (z_nt S)) (z_T S (iN (xs (i + 1))))) (zonly S (iN (xs (i + 1))))).toInt64) rfl ?_
    refine v_lcmp E dL_law_667 (z := 0) (out_i c9 f _) ?_
    refine v_if_eq E dL_law_668 (tgt := 673) (by decide) (fun _ => ?_) (fun z => absurd rfl z)
    refine v_goto E dL_law_673 (tgt := 1585) (by decide) ?_
    refine v_lv [2, 3, 4, 5, 6] rfl ?_
    exact K (mS (kk2 (zin (xs (i + 1)) (z_nt S)) (z_T S (iN (xs (i + 1))))) (sclo S (iN (xs (i + 1)))) S) (mF (kk2 (zin (xs (i + 1)) (z_nt S)) (z_T S (iN (xs (i + 1))))) (vp_updL f 0 (zonly S (iN (xs (i + 1)))).toInt64) f) (kk2 (zin (xs (i + 1)) (z_nt S)) (z_T S (iN (xs (i + 1))))) _ _ hok1 (by omega) (by omega)
set_option maxHeartbeats 4000000 in
set_option maxRecDepth 100000 in
theorem law_c8 (E : LE9 p s m b meth c D cI cZ cQ cJ) (hA : ∀ q : Nat, s.heap.size ≤ q → (fun q : Nat => s.heap.size ≤ q) q) (hTx : z_Tx (fun q : Nat => s.heap.size ≤ q) s s.heap) (hl : l.stackTraces = false) (hX : va_X b L xs s s.heap) (hbl : b < s.heap.size) (hbA : ¬ (fun q : Nat => s.heap.size ≤ q) b) (hL : L ≤ 2048) (hok : zOK S) (hi : i + 4 ≤ L) (hcc : cells + 4 ≤ 601024) (hss : slots + 24 ≤ 7293034)
    (K : ∀ (S' : zS) (f' : Nat → Int64) (th' cells' slots' : Nat), zOK S' → cells' ≤ cells + 4 → slots' ≤ slots + 24 → LV p l e s m b below meth c D cells' slots' 1585 [(4, .int (nI i)), (0, .ref b), (1, .ref (a 0)), (2, .ref (bb 0)), (3, .ref o)] [] (wL cI cZ cQ cJ a bb o S' f' th')) : LV p l e s m b below meth c D cells slots 676 [(4, .int (nI i)), (0, .ref b), (1, .ref (a 0)), (2, .ref (bb 0)), (3, .ref o)] [] (wL cI cZ cQ cJ a bb o S f th) := by
  refine v_aload_n E dL_law_676 2 rfl rfl ?_
  refine v_aload_n E dL_law_677 1 rfl rfl ?_
  refine v_iload E dL_law_678 0 rfl ?_
  refine v_iconst E dL_law_680 (v := nI 1) rfl ?_
  refine v_iadd E dL_law_681 (nI_add _ _) ?_
  refine v_sld E dL_law_682 hX hbl hbA (by omega) (by omega) ?_
  refine v_aload_n E dL_law_683 4 rfl rfl ?_
  refine x_cSn E hA hTx dL_law_684 (thr_perm (x_L_enqueue l D cI cZ cQ cJ a S hok hl o f (xs (i + 1))) (wM cI bb S th) perm1 perm1) (vx_cwSW 3 E.2.2.2.1 gL_law_L_enqueue rfl rfl rfl (by decide +kernel) ⟨Nat.le_of_ble_eq_true rfl, Nat.le_of_ble_eq_true rfl⟩) rfl rfl ⟨(by show _ ≤ 601024; omega), (by show _ ≤ 7293034; omega)⟩ (Nat.le_of_ble_eq_true rfl) ?_
  refine v_istore E dL_law_687 (by decide) rfl ?_
  refine v_aload_n E dL_law_689 4 rfl rfl ?_
  refine v_aload_n E dL_law_690 2 rfl rfl ?_
  refine v_iload E dL_law_691 1 rfl ?_
  refine v_iconst E dL_law_693 (v := nI 1) rfl ?_
  refine v_iadd E dL_law_694 (nI_add _ _) ?_
  refine v_sld E dL_law_695 hX hbl hbA (by omega) (by omega) ?_
  refine x_cVn E hA hTx dL_law_696 (thr_perm (x_X2_enqueue l D cI cZ cQ cJ bb S th hok (xs (i + 1))) (outE cJ o (mF (kk2 (zin (xs (i + 1)) (z_nt S)) (z_T S (iN (xs (i + 1))) && decide (plc (z_Q S) (z_qn S) (iN (xs (i + 1))) = 0))) (vp_updL f 0 (nI (z_qn S + 1)).toInt64) f) :: wX cI cZ cQ a (mS (kk2 (zin (xs (i + 1)) (z_nt S)) (z_T S (iN (xs (i + 1))) && decide (plc (z_Q S) (z_qn S) (iN (xs (i + 1))) = 0))) (sjn S (iN (xs (i + 1)))) S)) perm2 perm2) (cwV 1 E.2.2.2.1 gL_law_X2_enqueue rfl rfl rfl (by decide +kernel) ⟨Nat.le_of_ble_eq_true rfl, Nat.le_of_ble_eq_true rfl⟩) 1 rfl rfl rfl rfl rfl ⟨(by show _ ≤ 601024; omega), (by show _ ≤ 7293034; omega)⟩ (Nat.le_of_ble_eq_true rfl) ?_
  have hK9 : kk2 (zin (xs (i + 1)) (z_nt S)) (z_T S (iN (xs (i + 1))) && decide (plc (z_Q S) (z_qn S) (iN (xs (i + 1))) = 0)) < 3 := kk2_lt _ _
  have hok1 : zOK (mS (kk2 (zin (xs (i + 1)) (z_nt S)) (z_T S (iN (xs (i + 1))) && decide (plc (z_Q S) (z_qn S) (iN (xs (i + 1))) = 0))) (sjn S (iN (xs (i + 1)))) S) := zm_enqueue hok (xs (i + 1)) 0 0 (true)
  refine v_istore E dL_law_699 (by decide) rfl ?_
  refine v_aload_n E dL_law_701 5 rfl rfl ?_
  refine v_cVi' E dL_law_702 (x_X2_thrown l D cI cZ cQ cJ bb (mS (kk2 (zin (xs (i + 1)) (z_nt S)) (z_T S (iN (xs (i + 1))) && decide (plc (z_Q S) (z_qn S) (iN (xs (i + 1))) = 0))) (sjn S (iN (xs (i + 1)))) S) ((kk2 (zin (xs (i + 1)) (z_nt S)) (z_T S (iN (xs (i + 1))) && decide (plc (z_Q S) (z_qn S) (iN (xs (i + 1))) = 0)))) hok1) (cwV 0 E.2.2.2.1 gL_law_X2_thrown rfl rfl rfl (by decide +kernel) ⟨Nat.le_of_ble_eq_true rfl, Nat.le_of_ble_eq_true rfl⟩) 1 rfl rfl rfl subM rfl rfl ⟨(by show _ ≤ 601024; omega), (by show _ ≤ 7293034; omega)⟩ (Nat.le_of_ble_eq_true rfl) ?_
  refine v_iload E dL_law_705 1 rfl ?_
  refine v_icmp_eq E dL_law_707 (tgt := 712) (by decide) (fun _ => ?_) (fun z => absurd rfl z)
  refine v_iload E dL_law_712 1 rfl ?_
  refine n_if_ne E dL_law_714 (by omega) (tgt := 729) (by decide) (fun c9 => ?_) (fun c9 => ?_)
  · refine v_goto E dL_law_729 (tgt := 1585) (by decide) ?_
    refine v_lv [2, 3, 4, 5, 6] rfl ?_
    exact K (mS (kk2 (zin (xs (i + 1)) (z_nt S)) (z_T S (iN (xs (i + 1))) && decide (plc (z_Q S) (z_qn S) (iN (xs (i + 1))) = 0))) (sjn S (iN (xs (i + 1)))) S) (mF (kk2 (zin (xs (i + 1)) (z_nt S)) (z_T S (iN (xs (i + 1))) && decide (plc (z_Q S) (z_qn S) (iN (xs (i + 1))) = 0))) (vp_updL f 0 (nI (z_qn S + 1)).toInt64) f) (kk2 (zin (xs (i + 1)) (z_nt S)) (z_T S (iN (xs (i + 1))) && decide (plc (z_Q S) (z_qn S) (iN (xs (i + 1))) = 0))) _ _ hok1 (by omega) (by omega)
  · refine v_aload_n E dL_law_717 6 rfl rfl ?_
    refine v_iconst E dL_law_718 (v := nI 0) rfl ?_
    refine v_lald E dL_law_719 0 3 rfl rfl (by decide) (by decide) rfl ?_
    refine v_iload E dL_law_720 0 rfl ?_
    refine v_i2l E dL_law_722 (z := (mV (kk2 (zin (xs (i + 1)) (z_nt S)) (z_T S (iN (xs (i + 1))) && decide (plc (z_Q S) (z_qn S) (iN (xs (i + 1))) = 0))) (nI (z_qn S + 1))).toInt64) rfl ?_
    refine v_lcmp E dL_law_723 (z := 0) (out_i c9 f _) ?_
    refine v_if_eq E dL_law_724 (tgt := 729) (by decide) (fun _ => ?_) (fun z => absurd rfl z)
    refine v_goto E dL_law_729 (tgt := 1585) (by decide) ?_
    refine v_lv [2, 3, 4, 5, 6] rfl ?_
    exact K (mS (kk2 (zin (xs (i + 1)) (z_nt S)) (z_T S (iN (xs (i + 1))) && decide (plc (z_Q S) (z_qn S) (iN (xs (i + 1))) = 0))) (sjn S (iN (xs (i + 1)))) S) (mF (kk2 (zin (xs (i + 1)) (z_nt S)) (z_T S (iN (xs (i + 1))) && decide (plc (z_Q S) (z_qn S) (iN (xs (i + 1))) = 0))) (vp_updL f 0 (nI (z_qn S + 1)).toInt64) f) (kk2 (zin (xs (i + 1)) (z_nt S)) (z_T S (iN (xs (i + 1))) && decide (plc (z_Q S) (z_qn S) (iN (xs (i + 1))) = 0))) _ _ hok1 (by omega) (by omega)
set_option maxHeartbeats 4000000 in
set_option maxRecDepth 100000 in
theorem law_c9 (E : LE9 p s m b meth c D cI cZ cQ cJ) (hA : ∀ q : Nat, s.heap.size ≤ q → (fun q : Nat => s.heap.size ≤ q) q) (hTx : z_Tx (fun q : Nat => s.heap.size ≤ q) s s.heap) (hl : l.stackTraces = false) (hX : va_X b L xs s s.heap) (hbl : b < s.heap.size) (hbA : ¬ (fun q : Nat => s.heap.size ≤ q) b) (hL : L ≤ 2048) (hok : zOK S) (hi : i + 4 ≤ L) (hcc : cells + 4 ≤ 601024) (hss : slots + 24 ≤ 7293034)
    (K : ∀ (S' : zS) (f' : Nat → Int64) (th' cells' slots' : Nat), zOK S' → cells' ≤ cells + 4 → slots' ≤ slots + 24 → LV p l e s m b below meth c D cells' slots' 1585 [(4, .int (nI i)), (0, .ref b), (1, .ref (a 0)), (2, .ref (bb 0)), (3, .ref o)] [] (wL cI cZ cQ cJ a bb o S' f' th')) : LV p l e s m b below meth c D cells slots 732 [(4, .int (nI i)), (0, .ref b), (1, .ref (a 0)), (2, .ref (bb 0)), (3, .ref o)] [] (wL cI cZ cQ cJ a bb o S f th) := by
  refine v_aload_n E dL_law_732 2 rfl rfl ?_
  refine v_aload_n E dL_law_733 1 rfl rfl ?_
  refine v_iload E dL_law_734 0 rfl ?_
  refine v_iconst E dL_law_736 (v := nI 1) rfl ?_
  refine v_iadd E dL_law_737 (nI_add _ _) ?_
  refine v_sld E dL_law_738 hX hbl hbA (by omega) (by omega) ?_
  refine v_aload_n E dL_law_739 4 rfl rfl ?_
  refine x_cSn E hA hTx dL_law_740 (thr_perm (x_L_newDay l D cI cZ cQ cJ a S hok hl o f (xs (i + 1))) (wM cI bb S th) perm1 perm1) (vx_cwSW 3 E.2.2.2.1 gL_law_L_newDay rfl rfl rfl (by decide +kernel) ⟨Nat.le_of_ble_eq_true rfl, Nat.le_of_ble_eq_true rfl⟩) rfl rfl ⟨(by show _ ≤ 601024; omega), (by show _ ≤ 7293034; omega)⟩ (Nat.le_of_ble_eq_true rfl) ?_
  refine v_istore E dL_law_743 (by decide) rfl ?_
  refine v_aload_n E dL_law_745 4 rfl rfl ?_
  refine v_aload_n E dL_law_746 2 rfl rfl ?_
  refine v_iload E dL_law_747 1 rfl ?_
  refine v_iconst E dL_law_749 (v := nI 1) rfl ?_
  refine v_iadd E dL_law_750 (nI_add _ _) ?_
  refine v_sld E dL_law_751 hX hbl hbA (by omega) (by omega) ?_
  refine x_cVn E hA hTx dL_law_752 (thr_perm (x_X2_newDay l D cI cZ cQ cJ bb S th hok (xs (i + 1))) (outE cJ o (mF (kk1 (zin (xs (i + 1)) 101)) (vp_updL f 0 (nI (z_bu S)).toInt64) f) :: wX cI cZ cQ a (mS (kk1 (zin (xs (i + 1)) 101)) (zs_bu S (iN (xs (i + 1)))) S)) perm2 perm2) (cwV 1 E.2.2.2.1 gL_law_X2_newDay rfl rfl rfl (by decide +kernel) ⟨Nat.le_of_ble_eq_true rfl, Nat.le_of_ble_eq_true rfl⟩) 1 rfl rfl rfl rfl rfl ⟨(by show _ ≤ 601024; omega), (by show _ ≤ 7293034; omega)⟩ (Nat.le_of_ble_eq_true rfl) ?_
  have hK9 : kk1 (zin (xs (i + 1)) 101) < 3 := kk1_lt _
  have hok1 : zOK (mS (kk1 (zin (xs (i + 1)) 101)) (zs_bu S (iN (xs (i + 1)))) S) := zm_newDay hok (xs (i + 1)) 0 0 (true)
  refine v_istore E dL_law_755 (by decide) rfl ?_
  refine v_aload_n E dL_law_757 5 rfl rfl ?_
  refine v_cVi' E dL_law_758 (x_X2_thrown l D cI cZ cQ cJ bb (mS (kk1 (zin (xs (i + 1)) 101)) (zs_bu S (iN (xs (i + 1)))) S) ((kk1 (zin (xs (i + 1)) 101))) hok1) (cwV 0 E.2.2.2.1 gL_law_X2_thrown rfl rfl rfl (by decide +kernel) ⟨Nat.le_of_ble_eq_true rfl, Nat.le_of_ble_eq_true rfl⟩) 1 rfl rfl rfl subM rfl rfl ⟨(by show _ ≤ 601024; omega), (by show _ ≤ 7293034; omega)⟩ (Nat.le_of_ble_eq_true rfl) ?_
  refine v_iload E dL_law_761 1 rfl ?_
  refine v_icmp_eq E dL_law_763 (tgt := 768) (by decide) (fun _ => ?_) (fun z => absurd rfl z)
  refine v_iload E dL_law_768 1 rfl ?_
  refine n_if_ne E dL_law_770 (by omega) (tgt := 785) (by decide) (fun c9 => ?_) (fun c9 => ?_)
  · refine v_goto E dL_law_785 (tgt := 1585) (by decide) ?_
    refine v_lv [2, 3, 4, 5, 6] rfl ?_
    exact K (mS (kk1 (zin (xs (i + 1)) 101)) (zs_bu S (iN (xs (i + 1)))) S) (mF (kk1 (zin (xs (i + 1)) 101)) (vp_updL f 0 (nI (z_bu S)).toInt64) f) (kk1 (zin (xs (i + 1)) 101)) _ _ hok1 (by omega) (by omega)
  · refine v_aload_n E dL_law_773 6 rfl rfl ?_
    refine v_iconst E dL_law_774 (v := nI 0) rfl ?_
    refine v_lald E dL_law_775 0 3 rfl rfl (by decide) (by decide) rfl ?_
    refine v_iload E dL_law_776 0 rfl ?_
    refine v_i2l E dL_law_778 (z := (mV (kk1 (zin (xs (i + 1)) 101)) (nI (z_bu S))).toInt64) rfl ?_
    refine v_lcmp E dL_law_779 (z := 0) (out_i c9 f _) ?_
    refine v_if_eq E dL_law_780 (tgt := 785) (by decide) (fun _ => ?_) (fun z => absurd rfl z)
    refine v_goto E dL_law_785 (tgt := 1585) (by decide) ?_
    refine v_lv [2, 3, 4, 5, 6] rfl ?_
    exact K (mS (kk1 (zin (xs (i + 1)) 101)) (zs_bu S (iN (xs (i + 1)))) S) (mF (kk1 (zin (xs (i + 1)) 101)) (vp_updL f 0 (nI (z_bu S)).toInt64) f) (kk1 (zin (xs (i + 1)) 101)) _ _ hok1 (by omega) (by omega)
set_option maxHeartbeats 4000000 in
set_option maxRecDepth 100000 in
theorem law_c10 (E : LE9 p s m b meth c D cI cZ cQ cJ) (hA : ∀ q : Nat, s.heap.size ≤ q → (fun q : Nat => s.heap.size ≤ q) q) (hTx : z_Tx (fun q : Nat => s.heap.size ≤ q) s s.heap) (hl : l.stackTraces = false) (hX : va_X b L xs s s.heap) (hbl : b < s.heap.size) (hbA : ¬ (fun q : Nat => s.heap.size ≤ q) b) (hL : L ≤ 2048) (hok : zOK S) (hi : i + 4 ≤ L) (hcc : cells + 4 ≤ 601024) (hss : slots + 24 ≤ 7293034)
    (K : ∀ (S' : zS) (f' : Nat → Int64) (th' cells' slots' : Nat), zOK S' → cells' ≤ cells + 4 → slots' ≤ slots + 24 → LV p l e s m b below meth c D cells' slots' 1585 [(4, .int (nI i)), (0, .ref b), (1, .ref (a 0)), (2, .ref (bb 0)), (3, .ref o)] [] (wL cI cZ cQ cJ a bb o S' f' th')) : LV p l e s m b below meth c D cells slots 788 [(4, .int (nI i)), (0, .ref b), (1, .ref (a 0)), (2, .ref (bb 0)), (3, .ref o)] [] (wL cI cZ cQ cJ a bb o S f th) := by
  refine v_aload_n E dL_law_788 2 rfl rfl ?_
  refine v_aload_n E dL_law_789 4 rfl rfl ?_
  refine x_cSn E hA hTx dL_law_790 (thr_perm (x_L_take l D cI cZ cQ cJ a S hok hl o f ) (wM cI bb S th) perm1 perm1) (vx_cwSW 2 E.2.2.2.1 gL_law_L_take rfl rfl rfl (by decide +kernel) ⟨Nat.le_of_ble_eq_true rfl, Nat.le_of_ble_eq_true rfl⟩) rfl rfl ⟨(by show _ ≤ 601024; omega), (by show _ ≤ 7293034; omega)⟩ (Nat.le_of_ble_eq_true rfl) ?_
  refine v_istore E dL_law_793 (by decide) rfl ?_
  refine v_aload_n E dL_law_795 4 rfl rfl ?_
  refine x_cVn E hA hTx dL_law_796 (thr_perm (x_X2_take l D cI cZ cQ cJ bb S th hok ) (outE cJ o (mF (kk1 (decide (0 < z_qn S) && decide (0 < z_bu S))) (vp_updL f 0 (nI (z_Q S 0)).toInt64) f) :: wX cI cZ cQ a (mS (kk1 (decide (0 < z_qn S) && decide (0 < z_bu S))) (stak S) S)) perm2 perm2) (cwV 0 E.2.2.2.1 gL_law_X2_take rfl rfl rfl (by decide +kernel) ⟨Nat.le_of_ble_eq_true rfl, Nat.le_of_ble_eq_true rfl⟩) 1 rfl rfl rfl rfl rfl ⟨(by show _ ≤ 601024; omega), (by show _ ≤ 7293034; omega)⟩ (Nat.le_of_ble_eq_true rfl) ?_
  have hK9 : kk1 (decide (0 < z_qn S) && decide (0 < z_bu S)) < 3 := kk1_lt _
  have hok1 : zOK (mS (kk1 (decide (0 < z_qn S) && decide (0 < z_bu S))) (stak S) S) := zm_take hok 0 0 0 (true)
  refine v_istore E dL_law_799 (by decide) rfl ?_
  refine v_aload_n E dL_law_801 5 rfl rfl ?_
  refine v_cVi' E dL_law_802 (x_X2_thrown l D cI cZ cQ cJ bb (mS (kk1 (decide (0 < z_qn S) && decide (0 < z_bu S))) (stak S) S) ((kk1 (decide (0 < z_qn S) && decide (0 < z_bu S)))) hok1) (cwV 0 E.2.2.2.1 gL_law_X2_thrown rfl rfl rfl (by decide +kernel) ⟨Nat.le_of_ble_eq_true rfl, Nat.le_of_ble_eq_true rfl⟩) 1 rfl rfl rfl subM rfl rfl ⟨(by show _ ≤ 601024; omega), (by show _ ≤ 7293034; omega)⟩ (Nat.le_of_ble_eq_true rfl) ?_
  refine v_iload E dL_law_805 1 rfl ?_
  refine v_icmp_eq E dL_law_807 (tgt := 812) (by decide) (fun _ => ?_) (fun z => absurd rfl z)
  refine v_iload E dL_law_812 1 rfl ?_
  refine n_if_ne E dL_law_814 (by omega) (tgt := 829) (by decide) (fun c9 => ?_) (fun c9 => ?_)
  · refine v_goto E dL_law_829 (tgt := 1585) (by decide) ?_
    refine v_lv [2, 3, 4, 5, 6] rfl ?_
    exact K (mS (kk1 (decide (0 < z_qn S) && decide (0 < z_bu S))) (stak S) S) (mF (kk1 (decide (0 < z_qn S) && decide (0 < z_bu S))) (vp_updL f 0 (nI (z_Q S 0)).toInt64) f) (kk1 (decide (0 < z_qn S) && decide (0 < z_bu S))) _ _ hok1 (by omega) (by omega)
  · refine v_aload_n E dL_law_817 6 rfl rfl ?_
    refine v_iconst E dL_law_818 (v := nI 0) rfl ?_
    refine v_lald E dL_law_819 0 3 rfl rfl (by decide) (by decide) rfl ?_
    refine v_iload E dL_law_820 0 rfl ?_
    refine v_i2l E dL_law_822 (z := (mV (kk1 (decide (0 < z_qn S) && decide (0 < z_bu S))) (nI (z_Q S 0))).toInt64) rfl ?_
    refine v_lcmp E dL_law_823 (z := 0) (out_i c9 f _) ?_
    refine v_if_eq E dL_law_824 (tgt := 829) (by decide) (fun _ => ?_) (fun z => absurd rfl z)
    refine v_goto E dL_law_829 (tgt := 1585) (by decide) ?_
    refine v_lv [2, 3, 4, 5, 6] rfl ?_
    exact K (mS (kk1 (decide (0 < z_qn S) && decide (0 < z_bu S))) (stak S) S) (mF (kk1 (decide (0 < z_qn S) && decide (0 < z_bu S))) (vp_updL f 0 (nI (z_Q S 0)).toInt64) f) (kk1 (decide (0 < z_qn S) && decide (0 < z_bu S))) _ _ hok1 (by omega) (by omega)
set_option maxHeartbeats 4000000 in
set_option maxRecDepth 100000 in
theorem law_c11 (E : LE9 p s m b meth c D cI cZ cQ cJ) (hA : ∀ q : Nat, s.heap.size ≤ q → (fun q : Nat => s.heap.size ≤ q) q) (hTx : z_Tx (fun q : Nat => s.heap.size ≤ q) s s.heap) (hl : l.stackTraces = false) (hX : va_X b L xs s s.heap) (hbl : b < s.heap.size) (hbA : ¬ (fun q : Nat => s.heap.size ≤ q) b) (hL : L ≤ 2048) (hok : zOK S) (hi : i + 4 ≤ L) (hcc : cells + 4 ≤ 601024) (hss : slots + 24 ≤ 7293034)
    (K : ∀ (S' : zS) (f' : Nat → Int64) (th' cells' slots' : Nat), zOK S' → cells' ≤ cells + 4 → slots' ≤ slots + 24 → LV p l e s m b below meth c D cells' slots' 1585 [(4, .int (nI i)), (0, .ref b), (1, .ref (a 0)), (2, .ref (bb 0)), (3, .ref o)] [] (wL cI cZ cQ cJ a bb o S' f' th')) : LV p l e s m b below meth c D cells slots 832 [(4, .int (nI i)), (0, .ref b), (1, .ref (a 0)), (2, .ref (bb 0)), (3, .ref o)] [] (wL cI cZ cQ cJ a bb o S f th) := by
  refine v_aload_n E dL_law_832 2 rfl rfl ?_
  refine v_cVi' E dL_law_833 (x_X1_commits l D cI cZ cQ cJ a S hok) (cwV 0 E.2.2.2.1 gL_law_X1_commits rfl rfl rfl (by decide +kernel) ⟨Nat.le_of_ble_eq_true rfl, Nat.le_of_ble_eq_true rfl⟩) 10 rfl rfl rfl subX rfl rfl ⟨(by show _ ≤ 601024; omega), (by show _ ≤ 7293034; omega)⟩ (Nat.le_of_ble_eq_true rfl) ?_
  refine v_aload_n E dL_law_836 3 rfl rfl ?_
  refine x_cVn E hA hTx dL_law_837 (thr_perm (x_X2_commits l D cI cZ cQ cJ bb S th hok) (outE cJ o f :: wX cI cZ cQ a S) perm2 perm2) (cwV 0 E.2.2.2.1 gL_law_X2_commits rfl rfl rfl (by decide +kernel) ⟨Nat.le_of_ble_eq_true rfl, Nat.le_of_ble_eq_true rfl⟩) 1 rfl rfl rfl rfl rfl ⟨(by show _ ≤ 601024; omega), (by show _ ≤ 7293034; omega)⟩ (Nat.le_of_ble_eq_true rfl) ?_
  refine v_icmp_eq E dL_law_840 (tgt := 1585) (by decide) (fun _ => ?_) (fun z => absurd rfl z)
  refine v_lv [0, 1, 2, 3, 4] rfl ?_
  exact K S f 0 _ _ hok (by omega) (by omega)
set_option maxHeartbeats 4000000 in
set_option maxRecDepth 100000 in
theorem law_c12 (E : LE9 p s m b meth c D cI cZ cQ cJ) (hA : ∀ q : Nat, s.heap.size ≤ q → (fun q : Nat => s.heap.size ≤ q) q) (hTx : z_Tx (fun q : Nat => s.heap.size ≤ q) s s.heap) (hl : l.stackTraces = false) (hX : va_X b L xs s s.heap) (hbl : b < s.heap.size) (hbA : ¬ (fun q : Nat => s.heap.size ≤ q) b) (hL : L ≤ 2048) (hok : zOK S) (hi : i + 4 ≤ L) (hcc : cells + 4 ≤ 601024) (hss : slots + 24 ≤ 7293034)
    (K : ∀ (S' : zS) (f' : Nat → Int64) (th' cells' slots' : Nat), zOK S' → cells' ≤ cells + 4 → slots' ≤ slots + 24 → LV p l e s m b below meth c D cells' slots' 1585 [(4, .int (nI i)), (0, .ref b), (1, .ref (a 0)), (2, .ref (bb 0)), (3, .ref o)] [] (wL cI cZ cQ cJ a bb o S' f' th')) : LV p l e s m b below meth c D cells slots 845 [(4, .int (nI i)), (0, .ref b), (1, .ref (a 0)), (2, .ref (bb 0)), (3, .ref o)] [] (wL cI cZ cQ cJ a bb o S f th) := by
  refine v_aload_n E dL_law_845 2 rfl rfl ?_
  refine v_cVi' E dL_law_846 (x_X1_tests l D cI cZ cQ cJ a S hok) (cwV 0 E.2.2.2.1 gL_law_X1_tests rfl rfl rfl (by decide +kernel) ⟨Nat.le_of_ble_eq_true rfl, Nat.le_of_ble_eq_true rfl⟩) 10 rfl rfl rfl subX rfl rfl ⟨(by show _ ≤ 601024; omega), (by show _ ≤ 7293034; omega)⟩ (Nat.le_of_ble_eq_true rfl) ?_
  refine v_aload_n E dL_law_849 3 rfl rfl ?_
  refine x_cVn E hA hTx dL_law_850 (thr_perm (x_X2_tests l D cI cZ cQ cJ bb S th hok) (outE cJ o f :: wX cI cZ cQ a S) perm2 perm2) (cwV 0 E.2.2.2.1 gL_law_X2_tests rfl rfl rfl (by decide +kernel) ⟨Nat.le_of_ble_eq_true rfl, Nat.le_of_ble_eq_true rfl⟩) 1 rfl rfl rfl rfl rfl ⟨(by show _ ≤ 601024; omega), (by show _ ≤ 7293034; omega)⟩ (Nat.le_of_ble_eq_true rfl) ?_
  refine v_icmp_eq E dL_law_853 (tgt := 1585) (by decide) (fun _ => ?_) (fun z => absurd rfl z)
  refine v_lv [0, 1, 2, 3, 4] rfl ?_
  exact K S f 0 _ _ hok (by omega) (by omega)
set_option maxHeartbeats 4000000 in
set_option maxRecDepth 100000 in
theorem law_c13 (E : LE9 p s m b meth c D cI cZ cQ cJ) (hA : ∀ q : Nat, s.heap.size ≤ q → (fun q : Nat => s.heap.size ≤ q) q) (hTx : z_Tx (fun q : Nat => s.heap.size ≤ q) s s.heap) (hl : l.stackTraces = false) (hX : va_X b L xs s s.heap) (hbl : b < s.heap.size) (hbA : ¬ (fun q : Nat => s.heap.size ≤ q) b) (hL : L ≤ 2048) (hok : zOK S) (hi : i + 4 ≤ L) (hcc : cells + 4 ≤ 601024) (hss : slots + 24 ≤ 7293034)
    (K : ∀ (S' : zS) (f' : Nat → Int64) (th' cells' slots' : Nat), zOK S' → cells' ≤ cells + 4 → slots' ≤ slots + 24 → LV p l e s m b below meth c D cells' slots' 1585 [(4, .int (nI i)), (0, .ref b), (1, .ref (a 0)), (2, .ref (bb 0)), (3, .ref o)] [] (wL cI cZ cQ cJ a bb o S' f' th')) : LV p l e s m b below meth c D cells slots 858 [(4, .int (nI i)), (0, .ref b), (1, .ref (a 0)), (2, .ref (bb 0)), (3, .ref o)] [] (wL cI cZ cQ cJ a bb o S f th) := by
  refine v_aload_n E dL_law_858 2 rfl rfl ?_
  refine v_cVi' E dL_law_859 (x_X1_budget l D cI cZ cQ cJ a S hok) (cwV 0 E.2.2.2.1 gL_law_X1_budget rfl rfl rfl (by decide +kernel) ⟨Nat.le_of_ble_eq_true rfl, Nat.le_of_ble_eq_true rfl⟩) 10 rfl rfl rfl subX rfl rfl ⟨(by show _ ≤ 601024; omega), (by show _ ≤ 7293034; omega)⟩ (Nat.le_of_ble_eq_true rfl) ?_
  refine v_aload_n E dL_law_862 3 rfl rfl ?_
  refine x_cVn E hA hTx dL_law_863 (thr_perm (x_X2_budget l D cI cZ cQ cJ bb S th hok) (outE cJ o f :: wX cI cZ cQ a S) perm2 perm2) (cwV 0 E.2.2.2.1 gL_law_X2_budget rfl rfl rfl (by decide +kernel) ⟨Nat.le_of_ble_eq_true rfl, Nat.le_of_ble_eq_true rfl⟩) 1 rfl rfl rfl rfl rfl ⟨(by show _ ≤ 601024; omega), (by show _ ≤ 7293034; omega)⟩ (Nat.le_of_ble_eq_true rfl) ?_
  refine v_icmp_eq E dL_law_866 (tgt := 1585) (by decide) (fun _ => ?_) (fun z => absurd rfl z)
  refine v_lv [0, 1, 2, 3, 4] rfl ?_
  exact K S f 0 _ _ hok (by omega) (by omega)
set_option maxHeartbeats 4000000 in
set_option maxRecDepth 100000 in
theorem law_c14 (E : LE9 p s m b meth c D cI cZ cQ cJ) (hA : ∀ q : Nat, s.heap.size ≤ q → (fun q : Nat => s.heap.size ≤ q) q) (hTx : z_Tx (fun q : Nat => s.heap.size ≤ q) s s.heap) (hl : l.stackTraces = false) (hX : va_X b L xs s s.heap) (hbl : b < s.heap.size) (hbA : ¬ (fun q : Nat => s.heap.size ≤ q) b) (hL : L ≤ 2048) (hok : zOK S) (hi : i + 4 ≤ L) (hcc : cells + 4 ≤ 601024) (hss : slots + 24 ≤ 7293034)
    (K : ∀ (S' : zS) (f' : Nat → Int64) (th' cells' slots' : Nat), zOK S' → cells' ≤ cells + 4 → slots' ≤ slots + 24 → LV p l e s m b below meth c D cells' slots' 1585 [(4, .int (nI i)), (0, .ref b), (1, .ref (a 0)), (2, .ref (bb 0)), (3, .ref o)] [] (wL cI cZ cQ cJ a bb o S' f' th')) : LV p l e s m b below meth c D cells slots 871 [(4, .int (nI i)), (0, .ref b), (1, .ref (a 0)), (2, .ref (bb 0)), (3, .ref o)] [] (wL cI cZ cQ cJ a bb o S f th) := by
  refine v_aload_n E dL_law_871 2 rfl rfl ?_
  refine v_cVi' E dL_law_872 (x_X1_queued l D cI cZ cQ cJ a S hok) (cwV 0 E.2.2.2.1 gL_law_X1_queued rfl rfl rfl (by decide +kernel) ⟨Nat.le_of_ble_eq_true rfl, Nat.le_of_ble_eq_true rfl⟩) 10 rfl rfl rfl subX rfl rfl ⟨(by show _ ≤ 601024; omega), (by show _ ≤ 7293034; omega)⟩ (Nat.le_of_ble_eq_true rfl) ?_
  refine v_aload_n E dL_law_875 3 rfl rfl ?_
  refine x_cVn E hA hTx dL_law_876 (thr_perm (x_X2_queued l D cI cZ cQ cJ bb S th hok) (outE cJ o f :: wX cI cZ cQ a S) perm2 perm2) (cwV 0 E.2.2.2.1 gL_law_X2_queued rfl rfl rfl (by decide +kernel) ⟨Nat.le_of_ble_eq_true rfl, Nat.le_of_ble_eq_true rfl⟩) 1 rfl rfl rfl rfl rfl ⟨(by show _ ≤ 601024; omega), (by show _ ≤ 7293034; omega)⟩ (Nat.le_of_ble_eq_true rfl) ?_
  refine v_icmp_eq E dL_law_879 (tgt := 1585) (by decide) (fun _ => ?_) (fun z => absurd rfl z)
  refine v_lv [0, 1, 2, 3, 4] rfl ?_
  exact K S f 0 _ _ hok (by omega) (by omega)
set_option maxHeartbeats 4000000 in
set_option maxRecDepth 100000 in
theorem law_c15 (E : LE9 p s m b meth c D cI cZ cQ cJ) (hA : ∀ q : Nat, s.heap.size ≤ q → (fun q : Nat => s.heap.size ≤ q) q) (hTx : z_Tx (fun q : Nat => s.heap.size ≤ q) s s.heap) (hl : l.stackTraces = false) (hX : va_X b L xs s s.heap) (hbl : b < s.heap.size) (hbA : ¬ (fun q : Nat => s.heap.size ≤ q) b) (hL : L ≤ 2048) (hok : zOK S) (hi : i + 4 ≤ L) (hcc : cells + 4 ≤ 601024) (hss : slots + 24 ≤ 7293034)
    (K : ∀ (S' : zS) (f' : Nat → Int64) (th' cells' slots' : Nat), zOK S' → cells' ≤ cells + 4 → slots' ≤ slots + 24 → LV p l e s m b below meth c D cells' slots' 1585 [(4, .int (nI i)), (0, .ref b), (1, .ref (a 0)), (2, .ref (bb 0)), (3, .ref o)] [] (wL cI cZ cQ cJ a bb o S' f' th')) : LV p l e s m b below meth c D cells slots 884 [(4, .int (nI i)), (0, .ref b), (1, .ref (a 0)), (2, .ref (bb 0)), (3, .ref o)] [] (wL cI cZ cQ cJ a bb o S f th) := by
  refine v_aload_n E dL_law_884 2 rfl rfl ?_
  refine v_aload_n E dL_law_885 1 rfl rfl ?_
  refine v_iload E dL_law_886 0 rfl ?_
  refine v_iconst E dL_law_888 (v := nI 1) rfl ?_
  refine v_iadd E dL_law_889 (nI_add _ _) ?_
  refine v_sld E dL_law_890 hX hbl hbA (by omega) (by omega) ?_
  refine v_aload_n E dL_law_891 4 rfl rfl ?_
  refine x_cSn E hA hTx dL_law_892 (thr_perm (x_L_partsOf l D cI cZ cQ cJ a S hok hl o f (xs (i + 1))) (wM cI bb S th) perm1 perm1) (vx_cwSW 3 E.2.2.2.1 gL_law_L_partsOf rfl rfl rfl (by decide +kernel) ⟨Nat.le_of_ble_eq_true rfl, Nat.le_of_ble_eq_true rfl⟩) rfl rfl ⟨(by show _ ≤ 601024; omega), (by show _ ≤ 7293034; omega)⟩ (Nat.le_of_ble_eq_true rfl) ?_
  refine v_istore E dL_law_895 (by decide) rfl ?_
  refine v_aload_n E dL_law_897 4 rfl rfl ?_
  refine v_aload_n E dL_law_898 2 rfl rfl ?_
  refine v_iload E dL_law_899 1 rfl ?_
  refine v_iconst E dL_law_901 (v := nI 1) rfl ?_
  refine v_iadd E dL_law_902 (nI_add _ _) ?_
  refine v_sld E dL_law_903 hX hbl hbA (by omega) (by omega) ?_
  refine x_cVn E hA hTx dL_law_904 (thr_perm (x_X2_partsOf l D cI cZ cQ cJ bb S th hok (xs (i + 1))) (outE cJ o (mF (kk1 (zin (xs (i + 1)) (z_nt S))) (vp_updL f 0 (nI (zre S (iN (xs (i + 1))))).toInt64) f) :: wX cI cZ cQ a S) perm2 perm2) (cwV 1 E.2.2.2.1 gL_law_X2_partsOf rfl rfl rfl (by decide +kernel) ⟨Nat.le_of_ble_eq_true rfl, Nat.le_of_ble_eq_true rfl⟩) 1 rfl rfl rfl rfl rfl ⟨(by show _ ≤ 601024; omega), (by show _ ≤ 7293034; omega)⟩ (Nat.le_of_ble_eq_true rfl) ?_
  have hK9 : kk1 (zin (xs (i + 1)) (z_nt S)) < 3 := kk1_lt _
  refine v_istore E dL_law_907 (by decide) rfl ?_
  refine v_aload_n E dL_law_909 5 rfl rfl ?_
  refine v_cVi' E dL_law_910 (x_X2_thrown l D cI cZ cQ cJ bb S ((kk1 (zin (xs (i + 1)) (z_nt S)))) hok) (cwV 0 E.2.2.2.1 gL_law_X2_thrown rfl rfl rfl (by decide +kernel) ⟨Nat.le_of_ble_eq_true rfl, Nat.le_of_ble_eq_true rfl⟩) 1 rfl rfl rfl subM rfl rfl ⟨(by show _ ≤ 601024; omega), (by show _ ≤ 7293034; omega)⟩ (Nat.le_of_ble_eq_true rfl) ?_
  refine v_iload E dL_law_913 1 rfl ?_
  refine v_icmp_eq E dL_law_915 (tgt := 920) (by decide) (fun _ => ?_) (fun z => absurd rfl z)
  refine v_iload E dL_law_920 1 rfl ?_
  refine n_if_ne E dL_law_922 (by omega) (tgt := 937) (by decide) (fun c9 => ?_) (fun c9 => ?_)
  · refine v_goto E dL_law_937 (tgt := 1585) (by decide) ?_
    refine v_lv [2, 3, 4, 5, 6] rfl ?_
    exact K S (mF (kk1 (zin (xs (i + 1)) (z_nt S))) (vp_updL f 0 (nI (zre S (iN (xs (i + 1))))).toInt64) f) (kk1 (zin (xs (i + 1)) (z_nt S))) _ _ hok (by omega) (by omega)
  · refine v_aload_n E dL_law_925 6 rfl rfl ?_
    refine v_iconst E dL_law_926 (v := nI 0) rfl ?_
    refine v_lald E dL_law_927 0 3 rfl rfl (by decide) (by decide) rfl ?_
    refine v_iload E dL_law_928 0 rfl ?_
    refine v_i2l E dL_law_930 (z := (mV (kk1 (zin (xs (i + 1)) (z_nt S))) (nI (zre S (iN (xs (i + 1)))))).toInt64) rfl ?_
    refine v_lcmp E dL_law_931 (z := 0) (out_i c9 f _) ?_
    refine v_if_eq E dL_law_932 (tgt := 937) (by decide) (fun _ => ?_) (fun z => absurd rfl z)
    refine v_goto E dL_law_937 (tgt := 1585) (by decide) ?_
    refine v_lv [2, 3, 4, 5, 6] rfl ?_
    exact K S (mF (kk1 (zin (xs (i + 1)) (z_nt S))) (vp_updL f 0 (nI (zre S (iN (xs (i + 1))))).toInt64) f) (kk1 (zin (xs (i + 1)) (z_nt S))) _ _ hok (by omega) (by omega)
set_option maxHeartbeats 4000000 in
set_option maxRecDepth 100000 in
theorem law_c16 (E : LE9 p s m b meth c D cI cZ cQ cJ) (hA : ∀ q : Nat, s.heap.size ≤ q → (fun q : Nat => s.heap.size ≤ q) q) (hTx : z_Tx (fun q : Nat => s.heap.size ≤ q) s s.heap) (hl : l.stackTraces = false) (hX : va_X b L xs s s.heap) (hbl : b < s.heap.size) (hbA : ¬ (fun q : Nat => s.heap.size ≤ q) b) (hL : L ≤ 2048) (hok : zOK S) (hi : i + 4 ≤ L) (hcc : cells + 4 ≤ 601024) (hss : slots + 24 ≤ 7293034)
    (K : ∀ (S' : zS) (f' : Nat → Int64) (th' cells' slots' : Nat), zOK S' → cells' ≤ cells + 4 → slots' ≤ slots + 24 → LV p l e s m b below meth c D cells' slots' 1585 [(4, .int (nI i)), (0, .ref b), (1, .ref (a 0)), (2, .ref (bb 0)), (3, .ref o)] [] (wL cI cZ cQ cJ a bb o S' f' th')) : LV p l e s m b below meth c D cells slots 940 [(4, .int (nI i)), (0, .ref b), (1, .ref (a 0)), (2, .ref (bb 0)), (3, .ref o)] [] (wL cI cZ cQ cJ a bb o S f th) := by
  refine v_aload_n E dL_law_940 2 rfl rfl ?_
  refine v_aload_n E dL_law_941 1 rfl rfl ?_
  refine v_iload E dL_law_942 0 rfl ?_
  refine v_iconst E dL_law_944 (v := nI 1) rfl ?_
  refine v_iadd E dL_law_945 (nI_add _ _) ?_
  refine v_sld E dL_law_946 hX hbl hbA (by omega) (by omega) ?_
  refine v_aload_n E dL_law_947 4 rfl rfl ?_
  refine x_cSn E hA hTx dL_law_948 (thr_perm (x_L_touches l D cI cZ cQ cJ a S hok hl o f (xs (i + 1))) (wM cI bb S th) perm1 perm1) (vx_cwSW 3 E.2.2.2.1 gL_law_L_touches rfl rfl rfl (by decide +kernel) ⟨Nat.le_of_ble_eq_true rfl, Nat.le_of_ble_eq_true rfl⟩) rfl rfl ⟨(by show _ ≤ 601024; omega), (by show _ ≤ 7293034; omega)⟩ (Nat.le_of_ble_eq_true rfl) ?_
  refine v_istore E dL_law_951 (by decide) rfl ?_
  refine v_aload_n E dL_law_953 4 rfl rfl ?_
  refine v_aload_n E dL_law_954 2 rfl rfl ?_
  refine v_iload E dL_law_955 1 rfl ?_
  refine v_iconst E dL_law_957 (v := nI 1) rfl ?_
  refine v_iadd E dL_law_958 (nI_add _ _) ?_
  refine v_sld E dL_law_959 hX hbl hbA (by omega) (by omega) ?_
  refine x_cVn E hA hTx dL_law_960 (thr_perm (x_X2_touches l D cI cZ cQ cJ bb S th hok (xs (i + 1))) (outE cJ o (mF (kk1 (zin (xs (i + 1)) (z_nc S))) (vp_updL f 0 (nI (msk (ztou S (iN (xs (i + 1)))) (z_nt S))).toInt64) f) :: wX cI cZ cQ a S) perm2 perm2) (cwV 1 E.2.2.2.1 gL_law_X2_touches rfl rfl rfl (by decide +kernel) ⟨Nat.le_of_ble_eq_true rfl, Nat.le_of_ble_eq_true rfl⟩) 1 rfl rfl rfl rfl rfl ⟨(by show _ ≤ 601024; omega), (by show _ ≤ 7293034; omega)⟩ (Nat.le_of_ble_eq_true rfl) ?_
  have hK9 : kk1 (zin (xs (i + 1)) (z_nc S)) < 3 := kk1_lt _
  refine v_istore E dL_law_963 (by decide) rfl ?_
  refine v_aload_n E dL_law_965 5 rfl rfl ?_
  refine v_cVi' E dL_law_966 (x_X2_thrown l D cI cZ cQ cJ bb S ((kk1 (zin (xs (i + 1)) (z_nc S)))) hok) (cwV 0 E.2.2.2.1 gL_law_X2_thrown rfl rfl rfl (by decide +kernel) ⟨Nat.le_of_ble_eq_true rfl, Nat.le_of_ble_eq_true rfl⟩) 1 rfl rfl rfl subM rfl rfl ⟨(by show _ ≤ 601024; omega), (by show _ ≤ 7293034; omega)⟩ (Nat.le_of_ble_eq_true rfl) ?_
  refine v_iload E dL_law_969 1 rfl ?_
  refine v_icmp_eq E dL_law_971 (tgt := 976) (by decide) (fun _ => ?_) (fun z => absurd rfl z)
  refine v_iload E dL_law_976 1 rfl ?_
  refine n_if_ne E dL_law_978 (by omega) (tgt := 993) (by decide) (fun c9 => ?_) (fun c9 => ?_)
  · refine v_goto E dL_law_993 (tgt := 1585) (by decide) ?_
    refine v_lv [2, 3, 4, 5, 6] rfl ?_
    exact K S (mF (kk1 (zin (xs (i + 1)) (z_nc S))) (vp_updL f 0 (nI (msk (ztou S (iN (xs (i + 1)))) (z_nt S))).toInt64) f) (kk1 (zin (xs (i + 1)) (z_nc S))) _ _ hok (by omega) (by omega)
  · refine v_aload_n E dL_law_981 6 rfl rfl ?_
    refine v_iconst E dL_law_982 (v := nI 0) rfl ?_
    refine v_lald E dL_law_983 0 3 rfl rfl (by decide) (by decide) rfl ?_
    refine v_iload E dL_law_984 0 rfl ?_
    refine v_i2l E dL_law_986 (z := (mV (kk1 (zin (xs (i + 1)) (z_nc S))) (nI (msk (ztou S (iN (xs (i + 1)))) (z_nt S)))).toInt64) rfl ?_
    refine v_lcmp E dL_law_987 (z := 0) (out_i c9 f _) ?_
    refine v_if_eq E dL_law_988 (tgt := 993) (by decide) (fun _ => ?_) (fun z => absurd rfl z)
    refine v_goto E dL_law_993 (tgt := 1585) (by decide) ?_
    refine v_lv [2, 3, 4, 5, 6] rfl ?_
    exact K S (mF (kk1 (zin (xs (i + 1)) (z_nc S))) (vp_updL f 0 (nI (msk (ztou S (iN (xs (i + 1)))) (z_nt S))).toInt64) f) (kk1 (zin (xs (i + 1)) (z_nc S))) _ _ hok (by omega) (by omega)
set_option maxHeartbeats 4000000 in
set_option maxRecDepth 100000 in
theorem law_c17 (E : LE9 p s m b meth c D cI cZ cQ cJ) (hA : ∀ q : Nat, s.heap.size ≤ q → (fun q : Nat => s.heap.size ≤ q) q) (hTx : z_Tx (fun q : Nat => s.heap.size ≤ q) s s.heap) (hl : l.stackTraces = false) (hX : va_X b L xs s s.heap) (hbl : b < s.heap.size) (hbA : ¬ (fun q : Nat => s.heap.size ≤ q) b) (hL : L ≤ 2048) (hok : zOK S) (hi : i + 4 ≤ L) (hcc : cells + 4 ≤ 601024) (hss : slots + 24 ≤ 7293034)
    (K : ∀ (S' : zS) (f' : Nat → Int64) (th' cells' slots' : Nat), zOK S' → cells' ≤ cells + 4 → slots' ≤ slots + 24 → LV p l e s m b below meth c D cells' slots' 1585 [(4, .int (nI i)), (0, .ref b), (1, .ref (a 0)), (2, .ref (bb 0)), (3, .ref o)] [] (wL cI cZ cQ cJ a bb o S' f' th')) : LV p l e s m b below meth c D cells slots 996 [(4, .int (nI i)), (0, .ref b), (1, .ref (a 0)), (2, .ref (bb 0)), (3, .ref o)] [] (wL cI cZ cQ cJ a bb o S f th) := by
  refine v_aload_n E dL_law_996 2 rfl rfl ?_
  refine v_aload_n E dL_law_997 1 rfl rfl ?_
  refine v_iload E dL_law_998 0 rfl ?_
  refine v_iconst E dL_law_1000 (v := nI 1) rfl ?_
  refine v_iadd E dL_law_1001 (nI_add _ _) ?_
  refine v_sld E dL_law_1002 hX hbl hbA (by omega) (by omega) ?_
  refine v_aload_n E dL_law_1003 4 rfl rfl ?_
  refine x_cSn E hA hTx dL_law_1004 (thr_perm (x_L_runs l D cI cZ cQ cJ a S hok hl o f (xs (i + 1))) (wM cI bb S th) perm1 perm1) (vx_cwSW 3 E.2.2.2.1 gL_law_L_runs rfl rfl rfl (by decide +kernel) ⟨Nat.le_of_ble_eq_true rfl, Nat.le_of_ble_eq_true rfl⟩) rfl rfl ⟨(by show _ ≤ 601024; omega), (by show _ ≤ 7293034; omega)⟩ (Nat.le_of_ble_eq_true rfl) ?_
  refine v_istore E dL_law_1007 (by decide) rfl ?_
  refine v_aload_n E dL_law_1009 4 rfl rfl ?_
  refine v_aload_n E dL_law_1010 2 rfl rfl ?_
  refine v_iload E dL_law_1011 1 rfl ?_
  refine v_iconst E dL_law_1013 (v := nI 1) rfl ?_
  refine v_iadd E dL_law_1014 (nI_add _ _) ?_
  refine v_sld E dL_law_1015 hX hbl hbA (by omega) (by omega) ?_
  refine x_cVn E hA hTx dL_law_1016 (thr_perm (x_X2_runs l D cI cZ cQ cJ bb S th hok (xs (i + 1))) (outE cJ o (mF (kk1 (zin (xs (i + 1)) (z_nt S))) (vp_updL f 0 (nI (z_R S (iN (xs (i + 1))))).toInt64) f) :: wX cI cZ cQ a S) perm2 perm2) (cwV 1 E.2.2.2.1 gL_law_X2_runs rfl rfl rfl (by decide +kernel) ⟨Nat.le_of_ble_eq_true rfl, Nat.le_of_ble_eq_true rfl⟩) 1 rfl rfl rfl rfl rfl ⟨(by show _ ≤ 601024; omega), (by show _ ≤ 7293034; omega)⟩ (Nat.le_of_ble_eq_true rfl) ?_
  have hK9 : kk1 (zin (xs (i + 1)) (z_nt S)) < 3 := kk1_lt _
  refine v_istore E dL_law_1019 (by decide) rfl ?_
  refine v_aload_n E dL_law_1021 5 rfl rfl ?_
  refine v_cVi' E dL_law_1022 (x_X2_thrown l D cI cZ cQ cJ bb S ((kk1 (zin (xs (i + 1)) (z_nt S)))) hok) (cwV 0 E.2.2.2.1 gL_law_X2_thrown rfl rfl rfl (by decide +kernel) ⟨Nat.le_of_ble_eq_true rfl, Nat.le_of_ble_eq_true rfl⟩) 1 rfl rfl rfl subM rfl rfl ⟨(by show _ ≤ 601024; omega), (by show _ ≤ 7293034; omega)⟩ (Nat.le_of_ble_eq_true rfl) ?_
  refine v_iload E dL_law_1025 1 rfl ?_
  refine v_icmp_eq E dL_law_1027 (tgt := 1032) (by decide) (fun _ => ?_) (fun z => absurd rfl z)
  refine v_iload E dL_law_1032 1 rfl ?_
  refine n_if_ne E dL_law_1034 (by omega) (tgt := 1049) (by decide) (fun c9 => ?_) (fun c9 => ?_)
  · refine v_goto E dL_law_1049 (tgt := 1585) (by decide) ?_
    refine v_lv [2, 3, 4, 5, 6] rfl ?_
    exact K S (mF (kk1 (zin (xs (i + 1)) (z_nt S))) (vp_updL f 0 (nI (z_R S (iN (xs (i + 1))))).toInt64) f) (kk1 (zin (xs (i + 1)) (z_nt S))) _ _ hok (by omega) (by omega)
  · refine v_aload_n E dL_law_1037 6 rfl rfl ?_
    refine v_iconst E dL_law_1038 (v := nI 0) rfl ?_
    refine v_lald E dL_law_1039 0 3 rfl rfl (by decide) (by decide) rfl ?_
    refine v_iload E dL_law_1040 0 rfl ?_
    refine v_i2l E dL_law_1042 (z := (mV (kk1 (zin (xs (i + 1)) (z_nt S))) (nI (z_R S (iN (xs (i + 1)))))).toInt64) rfl ?_
    refine v_lcmp E dL_law_1043 (z := 0) (out_i c9 f _) ?_
    refine v_if_eq E dL_law_1044 (tgt := 1049) (by decide) (fun _ => ?_) (fun z => absurd rfl z)
    refine v_goto E dL_law_1049 (tgt := 1585) (by decide) ?_
    refine v_lv [2, 3, 4, 5, 6] rfl ?_
    exact K S (mF (kk1 (zin (xs (i + 1)) (z_nt S))) (vp_updL f 0 (nI (z_R S (iN (xs (i + 1))))).toInt64) f) (kk1 (zin (xs (i + 1)) (z_nt S))) _ _ hok (by omega) (by omega)
set_option maxHeartbeats 4000000 in
set_option maxRecDepth 100000 in
theorem law_c18 (E : LE9 p s m b meth c D cI cZ cQ cJ) (hA : ∀ q : Nat, s.heap.size ≤ q → (fun q : Nat => s.heap.size ≤ q) q) (hTx : z_Tx (fun q : Nat => s.heap.size ≤ q) s s.heap) (hl : l.stackTraces = false) (hX : va_X b L xs s s.heap) (hbl : b < s.heap.size) (hbA : ¬ (fun q : Nat => s.heap.size ≤ q) b) (hL : L ≤ 2048) (hok : zOK S) (hi : i + 4 ≤ L) (hcc : cells + 4 ≤ 601024) (hss : slots + 24 ≤ 7293034)
    (K : ∀ (S' : zS) (f' : Nat → Int64) (th' cells' slots' : Nat), zOK S' → cells' ≤ cells + 4 → slots' ≤ slots + 24 → LV p l e s m b below meth c D cells' slots' 1585 [(4, .int (nI i)), (0, .ref b), (1, .ref (a 0)), (2, .ref (bb 0)), (3, .ref o)] [] (wL cI cZ cQ cJ a bb o S' f' th')) : LV p l e s m b below meth c D cells slots 1052 [(4, .int (nI i)), (0, .ref b), (1, .ref (a 0)), (2, .ref (bb 0)), (3, .ref o)] [] (wL cI cZ cQ cJ a bb o S f th) := by
  refine v_aload_n E dL_law_1052 2 rfl rfl ?_
  refine v_aload_n E dL_law_1053 1 rfl rfl ?_
  refine v_iload E dL_law_1054 0 rfl ?_
  refine v_iconst E dL_law_1056 (v := nI 1) rfl ?_
  refine v_iadd E dL_law_1057 (nI_add _ _) ?_
  refine v_sld E dL_law_1058 hX hbl hbA (by omega) (by omega) ?_
  refine v_aload_n E dL_law_1059 1 rfl rfl ?_
  refine v_iload E dL_law_1060 0 rfl ?_
  refine v_iconst E dL_law_1062 (v := nI 2) rfl ?_
  refine v_iadd E dL_law_1063 (nI_add _ _) ?_
  refine v_sld E dL_law_1064 hX hbl hbA (by omega) (by omega) ?_
  refine v_aload_n E dL_law_1065 4 rfl rfl ?_
  refine x_cSn E hA hTx dL_law_1066 (thr_perm (x_L_verdict l D cI cZ cQ cJ a S hok hl o f (xs (i + 1)) (xs (i + 2))) (wM cI bb S th) perm1 perm1) (vx_cwSW 4 E.2.2.2.1 gL_law_L_verdict rfl rfl rfl (by decide +kernel) ⟨Nat.le_of_ble_eq_true rfl, Nat.le_of_ble_eq_true rfl⟩) rfl rfl ⟨(by show _ ≤ 601024; omega), (by show _ ≤ 7293034; omega)⟩ (Nat.le_of_ble_eq_true rfl) ?_
  refine v_istore E dL_law_1069 (by decide) rfl ?_
  refine v_aload_n E dL_law_1071 4 rfl rfl ?_
  refine v_aload_n E dL_law_1072 2 rfl rfl ?_
  refine v_iload E dL_law_1073 1 rfl ?_
  refine v_iconst E dL_law_1075 (v := nI 1) rfl ?_
  refine v_iadd E dL_law_1076 (nI_add _ _) ?_
  refine v_sld E dL_law_1077 hX hbl hbA (by omega) (by omega) ?_
  refine v_aload_n E dL_law_1078 2 rfl rfl ?_
  refine v_iload E dL_law_1079 1 rfl ?_
  refine v_iconst E dL_law_1081 (v := nI 2) rfl ?_
  refine v_iadd E dL_law_1082 (nI_add _ _) ?_
  refine v_sld E dL_law_1083 hX hbl hbA (by omega) (by omega) ?_
  refine x_cVn E hA hTx dL_law_1084 (thr_perm (x_X2_verdict l D cI cZ cQ cJ bb S th hok (xs (i + 1)) (xs (i + 2))) (outE cJ o (mF (kk1 (zin (xs (i + 1)) (z_nt S) && zin (xs (i + 2)) (z_nc S))) (vp_updL f 0 (nI (vd (z_P S (iN (xs (i + 1))) (iN (xs (i + 2)))) (z_F S (iN (xs (i + 1))) (iN (xs (i + 2)))))).toInt64) f) :: wX cI cZ cQ a S) perm2 perm2) (cwV 2 E.2.2.2.1 gL_law_X2_verdict rfl rfl rfl (by decide +kernel) ⟨Nat.le_of_ble_eq_true rfl, Nat.le_of_ble_eq_true rfl⟩) 1 rfl rfl rfl rfl rfl ⟨(by show _ ≤ 601024; omega), (by show _ ≤ 7293034; omega)⟩ (Nat.le_of_ble_eq_true rfl) ?_
  have hK9 : kk1 (zin (xs (i + 1)) (z_nt S) && zin (xs (i + 2)) (z_nc S)) < 3 := kk1_lt _
  refine v_istore E dL_law_1087 (by decide) rfl ?_
  refine v_aload_n E dL_law_1089 5 rfl rfl ?_
  refine v_cVi' E dL_law_1090 (x_X2_thrown l D cI cZ cQ cJ bb S ((kk1 (zin (xs (i + 1)) (z_nt S) && zin (xs (i + 2)) (z_nc S)))) hok) (cwV 0 E.2.2.2.1 gL_law_X2_thrown rfl rfl rfl (by decide +kernel) ⟨Nat.le_of_ble_eq_true rfl, Nat.le_of_ble_eq_true rfl⟩) 1 rfl rfl rfl subM rfl rfl ⟨(by show _ ≤ 601024; omega), (by show _ ≤ 7293034; omega)⟩ (Nat.le_of_ble_eq_true rfl) ?_
  refine v_iload E dL_law_1093 1 rfl ?_
  refine v_icmp_eq E dL_law_1095 (tgt := 1100) (by decide) (fun _ => ?_) (fun z => absurd rfl z)
  refine v_iload E dL_law_1100 1 rfl ?_
  refine n_if_ne E dL_law_1102 (by omega) (tgt := 1117) (by decide) (fun c9 => ?_) (fun c9 => ?_)
  · refine v_goto E dL_law_1117 (tgt := 1585) (by decide) ?_
    refine v_lv [2, 3, 4, 5, 6] rfl ?_
    exact K S (mF (kk1 (zin (xs (i + 1)) (z_nt S) && zin (xs (i + 2)) (z_nc S))) (vp_updL f 0 (nI (vd (z_P S (iN (xs (i + 1))) (iN (xs (i + 2)))) (z_F S (iN (xs (i + 1))) (iN (xs (i + 2)))))).toInt64) f) (kk1 (zin (xs (i + 1)) (z_nt S) && zin (xs (i + 2)) (z_nc S))) _ _ hok (by omega) (by omega)
  · refine v_aload_n E dL_law_1105 6 rfl rfl ?_
    refine v_iconst E dL_law_1106 (v := nI 0) rfl ?_
    refine v_lald E dL_law_1107 0 3 rfl rfl (by decide) (by decide) rfl ?_
    refine v_iload E dL_law_1108 0 rfl ?_
    refine v_i2l E dL_law_1110 (z := (mV (kk1 (zin (xs (i + 1)) (z_nt S) && zin (xs (i + 2)) (z_nc S))) (nI (vd (z_P S (iN (xs (i + 1))) (iN (xs (i + 2)))) (z_F S (iN (xs (i + 1))) (iN (xs (i + 2))))))).toInt64) rfl ?_
    refine v_lcmp E dL_law_1111 (z := 0) (out_i c9 f _) ?_
    refine v_if_eq E dL_law_1112 (tgt := 1117) (by decide) (fun _ => ?_) (fun z => absurd rfl z)
    refine v_goto E dL_law_1117 (tgt := 1585) (by decide) ?_
    refine v_lv [2, 3, 4, 5, 6] rfl ?_
    exact K S (mF (kk1 (zin (xs (i + 1)) (z_nt S) && zin (xs (i + 2)) (z_nc S))) (vp_updL f 0 (nI (vd (z_P S (iN (xs (i + 1))) (iN (xs (i + 2)))) (z_F S (iN (xs (i + 1))) (iN (xs (i + 2)))))).toInt64) f) (kk1 (zin (xs (i + 1)) (z_nt S) && zin (xs (i + 2)) (z_nc S))) _ _ hok (by omega) (by omega)
set_option maxHeartbeats 4000000 in
set_option maxRecDepth 100000 in
theorem law_c19 (E : LE9 p s m b meth c D cI cZ cQ cJ) (hA : ∀ q : Nat, s.heap.size ≤ q → (fun q : Nat => s.heap.size ≤ q) q) (hTx : z_Tx (fun q : Nat => s.heap.size ≤ q) s s.heap) (hl : l.stackTraces = false) (hX : va_X b L xs s s.heap) (hbl : b < s.heap.size) (hbA : ¬ (fun q : Nat => s.heap.size ≤ q) b) (hL : L ≤ 2048) (hok : zOK S) (hi : i + 4 ≤ L) (hcc : cells + 4 ≤ 601024) (hss : slots + 24 ≤ 7293034)
    (K : ∀ (S' : zS) (f' : Nat → Int64) (th' cells' slots' : Nat), zOK S' → cells' ≤ cells + 4 → slots' ≤ slots + 24 → LV p l e s m b below meth c D cells' slots' 1585 [(4, .int (nI i)), (0, .ref b), (1, .ref (a 0)), (2, .ref (bb 0)), (3, .ref o)] [] (wL cI cZ cQ cJ a bb o S' f' th')) : LV p l e s m b below meth c D cells slots 1120 [(4, .int (nI i)), (0, .ref b), (1, .ref (a 0)), (2, .ref (bb 0)), (3, .ref o)] [] (wL cI cZ cQ cJ a bb o S f th) := by
  refine v_aload_n E dL_law_1120 2 rfl rfl ?_
  refine v_aload_n E dL_law_1121 1 rfl rfl ?_
  refine v_iload E dL_law_1122 0 rfl ?_
  refine v_iconst E dL_law_1124 (v := nI 1) rfl ?_
  refine v_iadd E dL_law_1125 (nI_add _ _) ?_
  refine v_sld E dL_law_1126 hX hbl hbA (by omega) (by omega) ?_
  refine v_aload_n E dL_law_1127 4 rfl rfl ?_
  refine x_cSn E hA hTx dL_law_1128 (thr_perm (x_L_failing l D cI cZ cQ cJ a S hok hl o f (xs (i + 1))) (wM cI bb S th) perm1 perm1) (vx_cwSW 3 E.2.2.2.1 gL_law_L_failing rfl rfl rfl (by decide +kernel) ⟨Nat.le_of_ble_eq_true rfl, Nat.le_of_ble_eq_true rfl⟩) rfl rfl ⟨(by show _ ≤ 601024; omega), (by show _ ≤ 7293034; omega)⟩ (Nat.le_of_ble_eq_true rfl) ?_
  refine v_istore E dL_law_1131 (by decide) rfl ?_
  refine v_aload_n E dL_law_1133 4 rfl rfl ?_
  refine v_aload_n E dL_law_1134 2 rfl rfl ?_
  refine v_iload E dL_law_1135 1 rfl ?_
  refine v_iconst E dL_law_1137 (v := nI 1) rfl ?_
  refine v_iadd E dL_law_1138 (nI_add _ _) ?_
  refine v_sld E dL_law_1139 hX hbl hbA (by omega) (by omega) ?_
  refine x_cVn E hA hTx dL_law_1140 (thr_perm (x_X2_failing l D cI cZ cQ cJ bb S th hok (xs (i + 1))) (outE cJ o (mF (kk1 (zin (xs (i + 1)) (z_nt S))) (vp_updL f 0 (nI (zfai S (iN (xs (i + 1))))).toInt64) f) :: wX cI cZ cQ a S) perm2 perm2) (cwV 1 E.2.2.2.1 gL_law_X2_failing rfl rfl rfl (by decide +kernel) ⟨Nat.le_of_ble_eq_true rfl, Nat.le_of_ble_eq_true rfl⟩) 1 rfl rfl rfl rfl rfl ⟨(by show _ ≤ 601024; omega), (by show _ ≤ 7293034; omega)⟩ (Nat.le_of_ble_eq_true rfl) ?_
  have hK9 : kk1 (zin (xs (i + 1)) (z_nt S)) < 3 := kk1_lt _
  refine v_istore E dL_law_1143 (by decide) rfl ?_
  refine v_aload_n E dL_law_1145 5 rfl rfl ?_
  refine v_cVi' E dL_law_1146 (x_X2_thrown l D cI cZ cQ cJ bb S ((kk1 (zin (xs (i + 1)) (z_nt S)))) hok) (cwV 0 E.2.2.2.1 gL_law_X2_thrown rfl rfl rfl (by decide +kernel) ⟨Nat.le_of_ble_eq_true rfl, Nat.le_of_ble_eq_true rfl⟩) 1 rfl rfl rfl subM rfl rfl ⟨(by show _ ≤ 601024; omega), (by show _ ≤ 7293034; omega)⟩ (Nat.le_of_ble_eq_true rfl) ?_
  refine v_iload E dL_law_1149 1 rfl ?_
  refine v_icmp_eq E dL_law_1151 (tgt := 1156) (by decide) (fun _ => ?_) (fun z => absurd rfl z)
  refine v_iload E dL_law_1156 1 rfl ?_
  refine n_if_ne E dL_law_1158 (by omega) (tgt := 1173) (by decide) (fun c9 => ?_) (fun c9 => ?_)
  · refine v_goto E dL_law_1173 (tgt := 1585) (by decide) ?_
    refine v_lv [2, 3, 4, 5, 6] rfl ?_
    exact K S (mF (kk1 (zin (xs (i + 1)) (z_nt S))) (vp_updL f 0 (nI (zfai S (iN (xs (i + 1))))).toInt64) f) (kk1 (zin (xs (i + 1)) (z_nt S))) _ _ hok (by omega) (by omega)
  · refine v_aload_n E dL_law_1161 6 rfl rfl ?_
    refine v_iconst E dL_law_1162 (v := nI 0) rfl ?_
    refine v_lald E dL_law_1163 0 3 rfl rfl (by decide) (by decide) rfl ?_
    refine v_iload E dL_law_1164 0 rfl ?_
    refine v_i2l E dL_law_1166 (z := (mV (kk1 (zin (xs (i + 1)) (z_nt S))) (nI (zfai S (iN (xs (i + 1)))))).toInt64) rfl ?_
    refine v_lcmp E dL_law_1167 (z := 0) (out_i c9 f _) ?_
    refine v_if_eq E dL_law_1168 (tgt := 1173) (by decide) (fun _ => ?_) (fun z => absurd rfl z)
    refine v_goto E dL_law_1173 (tgt := 1585) (by decide) ?_
    refine v_lv [2, 3, 4, 5, 6] rfl ?_
    exact K S (mF (kk1 (zin (xs (i + 1)) (z_nt S))) (vp_updL f 0 (nI (zfai S (iN (xs (i + 1))))).toInt64) f) (kk1 (zin (xs (i + 1)) (z_nt S))) _ _ hok (by omega) (by omega)
set_option maxHeartbeats 4000000 in
set_option maxRecDepth 100000 in
theorem law_c20 (E : LE9 p s m b meth c D cI cZ cQ cJ) (hA : ∀ q : Nat, s.heap.size ≤ q → (fun q : Nat => s.heap.size ≤ q) q) (hTx : z_Tx (fun q : Nat => s.heap.size ≤ q) s s.heap) (hl : l.stackTraces = false) (hX : va_X b L xs s s.heap) (hbl : b < s.heap.size) (hbA : ¬ (fun q : Nat => s.heap.size ≤ q) b) (hL : L ≤ 2048) (hok : zOK S) (hi : i + 4 ≤ L) (hcc : cells + 4 ≤ 601024) (hss : slots + 24 ≤ 7293034)
    (K : ∀ (S' : zS) (f' : Nat → Int64) (th' cells' slots' : Nat), zOK S' → cells' ≤ cells + 4 → slots' ≤ slots + 24 → LV p l e s m b below meth c D cells' slots' 1585 [(4, .int (nI i)), (0, .ref b), (1, .ref (a 0)), (2, .ref (bb 0)), (3, .ref o)] [] (wL cI cZ cQ cJ a bb o S' f' th')) : LV p l e s m b below meth c D cells slots 1176 [(4, .int (nI i)), (0, .ref b), (1, .ref (a 0)), (2, .ref (bb 0)), (3, .ref o)] [] (wL cI cZ cQ cJ a bb o S f th) := by
  refine v_aload_n E dL_law_1176 2 rfl rfl ?_
  refine v_aload_n E dL_law_1177 1 rfl rfl ?_
  refine v_iload E dL_law_1178 0 rfl ?_
  refine v_iconst E dL_law_1180 (v := nI 1) rfl ?_
  refine v_iadd E dL_law_1181 (nI_add _ _) ?_
  refine v_sld E dL_law_1182 hX hbl hbA (by omega) (by omega) ?_
  refine v_aload_n E dL_law_1183 4 rfl rfl ?_
  refine x_cSn E hA hTx dL_law_1184 (thr_perm (x_L_isQuarantined l D cI cZ cQ cJ a S hok hl o f (xs (i + 1))) (wM cI bb S th) perm1 perm1) (vx_cwSW 3 E.2.2.2.1 gL_law_L_isQuarantined rfl rfl rfl (by decide +kernel) ⟨Nat.le_of_ble_eq_true rfl, Nat.le_of_ble_eq_true rfl⟩) rfl rfl ⟨(by show _ ≤ 601024; omega), (by show _ ≤ 7293034; omega)⟩ (Nat.le_of_ble_eq_true rfl) ?_
  refine v_istore E dL_law_1187 (by decide) rfl ?_
  refine v_aload_n E dL_law_1189 4 rfl rfl ?_
  refine v_aload_n E dL_law_1190 2 rfl rfl ?_
  refine v_iload E dL_law_1191 1 rfl ?_
  refine v_iconst E dL_law_1193 (v := nI 1) rfl ?_
  refine v_iadd E dL_law_1194 (nI_add _ _) ?_
  refine v_sld E dL_law_1195 hX hbl hbA (by omega) (by omega) ?_
  refine x_cVn E hA hTx dL_law_1196 (thr_perm (x_X2_isQuarantined l D cI cZ cQ cJ bb S th hok (xs (i + 1))) (outE cJ o (mF (kk1 (zin (xs (i + 1)) (z_nt S))) (vp_updL f 0 (zL (decide (z_li S ≤ zmix S (iN (xs (i + 1))))))) f) :: wX cI cZ cQ a S) perm2 perm2) (cwV 1 E.2.2.2.1 gL_law_X2_isQuarantined rfl rfl rfl (by decide +kernel) ⟨Nat.le_of_ble_eq_true rfl, Nat.le_of_ble_eq_true rfl⟩) 1 rfl rfl rfl rfl rfl ⟨(by show _ ≤ 601024; omega), (by show _ ≤ 7293034; omega)⟩ (Nat.le_of_ble_eq_true rfl) ?_
  have hK9 : kk1 (zin (xs (i + 1)) (z_nt S)) < 3 := kk1_lt _
  refine v_istore E dL_law_1199 (by decide) rfl ?_
  refine v_aload_n E dL_law_1201 5 rfl rfl ?_
  refine v_cVi' E dL_law_1202 (x_X2_thrown l D cI cZ cQ cJ bb S ((kk1 (zin (xs (i + 1)) (z_nt S)))) hok) (cwV 0 E.2.2.2.1 gL_law_X2_thrown rfl rfl rfl (by decide +kernel) ⟨Nat.le_of_ble_eq_true rfl, Nat.le_of_ble_eq_true rfl⟩) 1 rfl rfl rfl subM rfl rfl ⟨(by show _ ≤ 601024; omega), (by show _ ≤ 7293034; omega)⟩ (Nat.le_of_ble_eq_true rfl) ?_
  refine v_iload E dL_law_1205 1 rfl ?_
  refine v_icmp_eq E dL_law_1207 (tgt := 1212) (by decide) (fun _ => ?_) (fun z => absurd rfl z)
  refine v_iload E dL_law_1212 1 rfl ?_
  refine n_if_ne E dL_law_1214 (by omega) (tgt := 1236) (by decide) (fun c9 => ?_) (fun c9 => ?_)
  · refine v_goto E dL_law_1236 (tgt := 1585) (by decide) ?_
    refine v_lv [2, 3, 4, 5, 6] rfl ?_
    exact K S (mF (kk1 (zin (xs (i + 1)) (z_nt S))) (vp_updL f 0 (zL (decide (z_li S ≤ zmix S (iN (xs (i + 1))))))) f) (kk1 (zin (xs (i + 1)) (z_nt S))) _ _ hok (by omega) (by omega)
  · refine v_aload_n E dL_law_1217 6 rfl rfl ?_
    refine v_iconst E dL_law_1218 (v := nI 0) rfl ?_
    refine v_lald E dL_law_1219 0 3 rfl rfl (by decide) (by decide) rfl ?_
    refine v_iload E dL_law_1220 0 rfl ?_
    refine b_if_eq E dL_law_1222 (tgt := 1229) (by decide) (fun c7 => ?_) (fun c7 => ?_)
    · refine v_lconst E dL_law_1229 (v := lN 0) rfl ?_
      refine v_topl (y := zL (mB (kk1 (zin (xs (i + 1)) (z_nt S))) (decide (z_li S ≤ zmix S (iN (xs (i + 1))))))) (by rw [c7]; rfl) ?_
      refine v_lcmp E dL_law_1230 (z := 0) (out_b c9 f _) ?_
      refine v_if_eq E dL_law_1231 (tgt := 1236) (by decide) (fun _ => ?_) (fun z => absurd rfl z)
      refine v_goto E dL_law_1236 (tgt := 1585) (by decide) ?_
      refine v_lv [2, 3, 4, 5, 6] rfl ?_
      exact K S (mF (kk1 (zin (xs (i + 1)) (z_nt S))) (vp_updL f 0 (zL (decide (z_li S ≤ zmix S (iN (xs (i + 1))))))) f) (kk1 (zin (xs (i + 1)) (z_nt S))) _ _ hok (by omega) (by omega)
    · refine v_lconst E dL_law_1225 (v := lN 1) rfl ?_
      refine v_goto E dL_law_1226 (tgt := 1230) (by decide) ?_
      refine v_topl (y := zL (mB (kk1 (zin (xs (i + 1)) (z_nt S))) (decide (z_li S ≤ zmix S (iN (xs (i + 1))))))) (by rw [c7]; rfl) ?_
      refine v_lcmp E dL_law_1230 (z := 0) (out_b c9 f _) ?_
      refine v_if_eq E dL_law_1231 (tgt := 1236) (by decide) (fun _ => ?_) (fun z => absurd rfl z)
      refine v_goto E dL_law_1236 (tgt := 1585) (by decide) ?_
      refine v_lv [2, 3, 4, 5, 6] rfl ?_
      exact K S (mF (kk1 (zin (xs (i + 1)) (z_nt S))) (vp_updL f 0 (zL (decide (z_li S ≤ zmix S (iN (xs (i + 1))))))) f) (kk1 (zin (xs (i + 1)) (z_nt S))) _ _ hok (by omega) (by omega)
set_option maxHeartbeats 4000000 in
set_option maxRecDepth 100000 in
theorem law_c21 (E : LE9 p s m b meth c D cI cZ cQ cJ) (hA : ∀ q : Nat, s.heap.size ≤ q → (fun q : Nat => s.heap.size ≤ q) q) (hTx : z_Tx (fun q : Nat => s.heap.size ≤ q) s s.heap) (hl : l.stackTraces = false) (hX : va_X b L xs s s.heap) (hbl : b < s.heap.size) (hbA : ¬ (fun q : Nat => s.heap.size ≤ q) b) (hL : L ≤ 2048) (hok : zOK S) (hi : i + 4 ≤ L) (hcc : cells + 4 ≤ 601024) (hss : slots + 24 ≤ 7293034)
    (K : ∀ (S' : zS) (f' : Nat → Int64) (th' cells' slots' : Nat), zOK S' → cells' ≤ cells + 4 → slots' ≤ slots + 24 → LV p l e s m b below meth c D cells' slots' 1585 [(4, .int (nI i)), (0, .ref b), (1, .ref (a 0)), (2, .ref (bb 0)), (3, .ref o)] [] (wL cI cZ cQ cJ a bb o S' f' th')) : LV p l e s m b below meth c D cells slots 1239 [(4, .int (nI i)), (0, .ref b), (1, .ref (a 0)), (2, .ref (bb 0)), (3, .ref o)] [] (wL cI cZ cQ cJ a bb o S f th) := by
  refine v_aload_n E dL_law_1239 2 rfl rfl ?_
  refine v_aload_n E dL_law_1240 1 rfl rfl ?_
  refine v_iload E dL_law_1241 0 rfl ?_
  refine v_iconst E dL_law_1243 (v := nI 1) rfl ?_
  refine v_iadd E dL_law_1244 (nI_add _ _) ?_
  refine v_sld E dL_law_1245 hX hbl hbA (by omega) (by omega) ?_
  refine v_aload_n E dL_law_1246 4 rfl rfl ?_
  refine x_cSn E hA hTx dL_law_1247 (thr_perm (x_L_broken l D cI cZ cQ cJ a S hok hl o f (xs (i + 1))) (wM cI bb S th) perm1 perm1) (vx_cwSW 3 E.2.2.2.1 gL_law_L_broken rfl rfl rfl (by decide +kernel) ⟨Nat.le_of_ble_eq_true rfl, Nat.le_of_ble_eq_true rfl⟩) rfl rfl ⟨(by show _ ≤ 601024; omega), (by show _ ≤ 7293034; omega)⟩ (Nat.le_of_ble_eq_true rfl) ?_
  refine v_istore E dL_law_1250 (by decide) rfl ?_
  refine v_aload_n E dL_law_1252 4 rfl rfl ?_
  refine v_aload_n E dL_law_1253 2 rfl rfl ?_
  refine v_iload E dL_law_1254 1 rfl ?_
  refine v_iconst E dL_law_1256 (v := nI 1) rfl ?_
  refine v_iadd E dL_law_1257 (nI_add _ _) ?_
  refine v_sld E dL_law_1258 hX hbl hbA (by omega) (by omega) ?_
  refine x_cVn E hA hTx dL_law_1259 (thr_perm (x_X2_broken l D cI cZ cQ cJ bb S th hok (xs (i + 1))) (outE cJ o (mF (kk1 (zin (xs (i + 1)) (z_nc S))) (vp_updL f 0 (nI (msk (zbro S (iN (xs (i + 1)))) (z_nt S))).toInt64) f) :: wX cI cZ cQ a S) perm2 perm2) (cwV 1 E.2.2.2.1 gL_law_X2_broken rfl rfl rfl (by decide +kernel) ⟨Nat.le_of_ble_eq_true rfl, Nat.le_of_ble_eq_true rfl⟩) 1 rfl rfl rfl rfl rfl ⟨(by show _ ≤ 601024; omega), (by show _ ≤ 7293034; omega)⟩ (Nat.le_of_ble_eq_true rfl) ?_
  have hK9 : kk1 (zin (xs (i + 1)) (z_nc S)) < 3 := kk1_lt _
  refine v_istore E dL_law_1262 (by decide) rfl ?_
  refine v_aload_n E dL_law_1264 5 rfl rfl ?_
  refine v_cVi' E dL_law_1265 (x_X2_thrown l D cI cZ cQ cJ bb S ((kk1 (zin (xs (i + 1)) (z_nc S)))) hok) (cwV 0 E.2.2.2.1 gL_law_X2_thrown rfl rfl rfl (by decide +kernel) ⟨Nat.le_of_ble_eq_true rfl, Nat.le_of_ble_eq_true rfl⟩) 1 rfl rfl rfl subM rfl rfl ⟨(by show _ ≤ 601024; omega), (by show _ ≤ 7293034; omega)⟩ (Nat.le_of_ble_eq_true rfl) ?_
  refine v_iload E dL_law_1268 1 rfl ?_
  refine v_icmp_eq E dL_law_1270 (tgt := 1275) (by decide) (fun _ => ?_) (fun z => absurd rfl z)
  refine v_iload E dL_law_1275 1 rfl ?_
  refine n_if_ne E dL_law_1277 (by omega) (tgt := 1292) (by decide) (fun c9 => ?_) (fun c9 => ?_)
  · refine v_goto E dL_law_1292 (tgt := 1585) (by decide) ?_
    refine v_lv [2, 3, 4, 5, 6] rfl ?_
    exact K S (mF (kk1 (zin (xs (i + 1)) (z_nc S))) (vp_updL f 0 (nI (msk (zbro S (iN (xs (i + 1)))) (z_nt S))).toInt64) f) (kk1 (zin (xs (i + 1)) (z_nc S))) _ _ hok (by omega) (by omega)
  · refine v_aload_n E dL_law_1280 6 rfl rfl ?_
    refine v_iconst E dL_law_1281 (v := nI 0) rfl ?_
    refine v_lald E dL_law_1282 0 3 rfl rfl (by decide) (by decide) rfl ?_
    refine v_iload E dL_law_1283 0 rfl ?_
    refine v_i2l E dL_law_1285 (z := (mV (kk1 (zin (xs (i + 1)) (z_nc S))) (nI (msk (zbro S (iN (xs (i + 1)))) (z_nt S)))).toInt64) rfl ?_
    refine v_lcmp E dL_law_1286 (z := 0) (out_i c9 f _) ?_
    refine v_if_eq E dL_law_1287 (tgt := 1292) (by decide) (fun _ => ?_) (fun z => absurd rfl z)
    refine v_goto E dL_law_1292 (tgt := 1585) (by decide) ?_
    refine v_lv [2, 3, 4, 5, 6] rfl ?_
    exact K S (mF (kk1 (zin (xs (i + 1)) (z_nc S))) (vp_updL f 0 (nI (msk (zbro S (iN (xs (i + 1)))) (z_nt S))).toInt64) f) (kk1 (zin (xs (i + 1)) (z_nc S))) _ _ hok (by omega) (by omega)
set_option maxHeartbeats 4000000 in
set_option maxRecDepth 100000 in
theorem law_c22 (E : LE9 p s m b meth c D cI cZ cQ cJ) (hA : ∀ q : Nat, s.heap.size ≤ q → (fun q : Nat => s.heap.size ≤ q) q) (hTx : z_Tx (fun q : Nat => s.heap.size ≤ q) s s.heap) (hl : l.stackTraces = false) (hX : va_X b L xs s s.heap) (hbl : b < s.heap.size) (hbA : ¬ (fun q : Nat => s.heap.size ≤ q) b) (hL : L ≤ 2048) (hok : zOK S) (hi : i + 4 ≤ L) (hcc : cells + 4 ≤ 601024) (hss : slots + 24 ≤ 7293034)
    (K : ∀ (S' : zS) (f' : Nat → Int64) (th' cells' slots' : Nat), zOK S' → cells' ≤ cells + 4 → slots' ≤ slots + 24 → LV p l e s m b below meth c D cells' slots' 1585 [(4, .int (nI i)), (0, .ref b), (1, .ref (a 0)), (2, .ref (bb 0)), (3, .ref o)] [] (wL cI cZ cQ cJ a bb o S' f' th')) : LV p l e s m b below meth c D cells slots 1295 [(4, .int (nI i)), (0, .ref b), (1, .ref (a 0)), (2, .ref (bb 0)), (3, .ref o)] [] (wL cI cZ cQ cJ a bb o S f th) := by
  refine v_aload_n E dL_law_1295 2 rfl rfl ?_
  refine v_aload_n E dL_law_1296 1 rfl rfl ?_
  refine v_iload E dL_law_1297 0 rfl ?_
  refine v_iconst E dL_law_1299 (v := nI 1) rfl ?_
  refine v_iadd E dL_law_1300 (nI_add _ _) ?_
  refine v_sld E dL_law_1301 hX hbl hbA (by omega) (by omega) ?_
  refine v_aload_n E dL_law_1302 4 rfl rfl ?_
  refine x_cSn E hA hTx dL_law_1303 (thr_perm (x_L_suspects l D cI cZ cQ cJ a S hok hl o f (xs (i + 1))) (wM cI bb S th) perm1 perm1) (vx_cwSW 3 E.2.2.2.1 gL_law_L_suspects rfl rfl rfl (by decide +kernel) ⟨Nat.le_of_ble_eq_true rfl, Nat.le_of_ble_eq_true rfl⟩) rfl rfl ⟨(by show _ ≤ 601024; omega), (by show _ ≤ 7293034; omega)⟩ (Nat.le_of_ble_eq_true rfl) ?_
  refine v_istore E dL_law_1306 (by decide) rfl ?_
  refine v_aload_n E dL_law_1308 4 rfl rfl ?_
  refine v_aload_n E dL_law_1309 2 rfl rfl ?_
  refine v_iload E dL_law_1310 1 rfl ?_
  refine v_iconst E dL_law_1312 (v := nI 1) rfl ?_
  refine v_iadd E dL_law_1313 (nI_add _ _) ?_
  refine v_sld E dL_law_1314 hX hbl hbA (by omega) (by omega) ?_
  refine x_cVn E hA hTx dL_law_1315 (thr_perm (x_X2_suspects l D cI cZ cQ cJ bb S th hok (xs (i + 1))) (outE cJ o (mF (kk2 (zin (xs (i + 1)) (z_nt S)) (z_T S (iN (xs (i + 1))))) (vp_updL f 0 (lN (msk (sus S (iN (xs (i + 1)))) (z_B S (iN (xs (i + 1))) + 1)))) f) :: wX cI cZ cQ a S) perm2 perm2) (cwV 1 E.2.2.2.1 gL_law_X2_suspects rfl rfl rfl (by decide +kernel) ⟨Nat.le_of_ble_eq_true rfl, Nat.le_of_ble_eq_true rfl⟩) 1 rfl rfl rfl rfl rfl ⟨(by show _ ≤ 601024; omega), (by show _ ≤ 7293034; omega)⟩ (Nat.le_of_ble_eq_true rfl) ?_
  have hK9 : kk2 (zin (xs (i + 1)) (z_nt S)) (z_T S (iN (xs (i + 1)))) < 3 := kk2_lt _ _
  refine v_lstore E dL_law_1318 (by decide) rfl ?_
  refine v_aload_n E dL_law_1320 5 rfl rfl ?_
  refine v_cVi' E dL_law_1321 (x_X2_thrown l D cI cZ cQ cJ bb S ((kk2 (zin (xs (i + 1)) (z_nt S)) (z_T S (iN (xs (i + 1)))))) hok) (cwV 0 E.2.2.2.1 gL_law_X2_thrown rfl rfl rfl (by decide +kernel) ⟨Nat.le_of_ble_eq_true rfl, Nat.le_of_ble_eq_true rfl⟩) 1 rfl rfl rfl subM rfl rfl ⟨(by show _ ≤ 601024; omega), (by show _ ≤ 7293034; omega)⟩ (Nat.le_of_ble_eq_true rfl) ?_
  refine v_iload E dL_law_1324 1 rfl ?_
  refine v_icmp_eq E dL_law_1326 (tgt := 1331) (by decide) (fun _ => ?_) (fun z => absurd rfl z)
  refine v_iload E dL_law_1331 1 rfl ?_
  refine n_if_ne E dL_law_1333 (by omega) (tgt := 1347) (by decide) (fun c9 => ?_) (fun c9 => ?_)
  · refine v_goto E dL_law_1347 (tgt := 1585) (by decide) ?_
    refine v_lv [2, 3, 4, 5, 6] rfl ?_
    exact K S (mF (kk2 (zin (xs (i + 1)) (z_nt S)) (z_T S (iN (xs (i + 1))))) (vp_updL f 0 (lN (msk (sus S (iN (xs (i + 1)))) (z_B S (iN (xs (i + 1))) + 1)))) f) (kk2 (zin (xs (i + 1)) (z_nt S)) (z_T S (iN (xs (i + 1))))) _ _ hok (by omega) (by omega)
  · refine v_aload_n E dL_law_1336 6 rfl rfl ?_
    refine v_iconst E dL_law_1337 (v := nI 0) rfl ?_
    refine v_lald E dL_law_1338 0 3 rfl rfl (by decide) (by decide) rfl ?_
    refine v_lload E dL_law_1339 0 rfl ?_
    refine v_lcmp E dL_law_1341 (z := 0) (out_l c9 f _) ?_
    refine v_if_eq E dL_law_1342 (tgt := 1347) (by decide) (fun _ => ?_) (fun z => absurd rfl z)
    refine v_goto E dL_law_1347 (tgt := 1585) (by decide) ?_
    refine v_lv [2, 3, 4, 5, 6] rfl ?_
    exact K S (mF (kk2 (zin (xs (i + 1)) (z_nt S)) (z_T S (iN (xs (i + 1))))) (vp_updL f 0 (lN (msk (sus S (iN (xs (i + 1)))) (z_B S (iN (xs (i + 1))) + 1)))) f) (kk2 (zin (xs (i + 1)) (z_nt S)) (z_T S (iN (xs (i + 1))))) _ _ hok (by omega) (by omega)
set_option maxHeartbeats 4000000 in
set_option maxRecDepth 100000 in
theorem law_c23 (E : LE9 p s m b meth c D cI cZ cQ cJ) (hA : ∀ q : Nat, s.heap.size ≤ q → (fun q : Nat => s.heap.size ≤ q) q) (hTx : z_Tx (fun q : Nat => s.heap.size ≤ q) s s.heap) (hl : l.stackTraces = false) (hX : va_X b L xs s s.heap) (hbl : b < s.heap.size) (hbA : ¬ (fun q : Nat => s.heap.size ≤ q) b) (hL : L ≤ 2048) (hok : zOK S) (hi : i + 4 ≤ L) (hcc : cells + 4 ≤ 601024) (hss : slots + 24 ≤ 7293034)
    (K : ∀ (S' : zS) (f' : Nat → Int64) (th' cells' slots' : Nat), zOK S' → cells' ≤ cells + 4 → slots' ≤ slots + 24 → LV p l e s m b below meth c D cells' slots' 1585 [(4, .int (nI i)), (0, .ref b), (1, .ref (a 0)), (2, .ref (bb 0)), (3, .ref o)] [] (wL cI cZ cQ cJ a bb o S' f' th')) : LV p l e s m b below meth c D cells slots 1350 [(4, .int (nI i)), (0, .ref b), (1, .ref (a 0)), (2, .ref (bb 0)), (3, .ref o)] [] (wL cI cZ cQ cJ a bb o S f th) := by
  refine v_aload_n E dL_law_1350 2 rfl rfl ?_
  refine v_aload_n E dL_law_1351 1 rfl rfl ?_
  refine v_iload E dL_law_1352 0 rfl ?_
  refine v_iconst E dL_law_1354 (v := nI 1) rfl ?_
  refine v_iadd E dL_law_1355 (nI_add _ _) ?_
  refine v_sld E dL_law_1356 hX hbl hbA (by omega) (by omega) ?_
  refine v_aload_n E dL_law_1357 1 rfl rfl ?_
  refine v_iload E dL_law_1358 0 rfl ?_
  refine v_iconst E dL_law_1360 (v := nI 2) rfl ?_
  refine v_iadd E dL_law_1361 (nI_add _ _) ?_
  refine v_sld E dL_law_1362 hX hbl hbA (by omega) (by omega) ?_
  refine v_aload_n E dL_law_1363 4 rfl rfl ?_
  refine x_cSn E hA hTx dL_law_1364 (thr_perm (x_L_contradictions l D cI cZ cQ cJ a S hok hl o f (xs (i + 1)) (xs (i + 2))) (wM cI bb S th) perm1 perm1) (vx_cwSW 4 E.2.2.2.1 gL_law_L_contradictions rfl rfl rfl (by decide +kernel) ⟨Nat.le_of_ble_eq_true rfl, Nat.le_of_ble_eq_true rfl⟩) rfl rfl ⟨(by show _ ≤ 601024; omega), (by show _ ≤ 7293034; omega)⟩ (Nat.le_of_ble_eq_true rfl) ?_
  refine v_istore E dL_law_1367 (by decide) rfl ?_
  refine v_aload_n E dL_law_1369 4 rfl rfl ?_
  refine v_aload_n E dL_law_1370 2 rfl rfl ?_
  refine v_iload E dL_law_1371 1 rfl ?_
  refine v_iconst E dL_law_1373 (v := nI 1) rfl ?_
  refine v_iadd E dL_law_1374 (nI_add _ _) ?_
  refine v_sld E dL_law_1375 hX hbl hbA (by omega) (by omega) ?_
  refine v_aload_n E dL_law_1376 2 rfl rfl ?_
  refine v_iload E dL_law_1377 1 rfl ?_
  refine v_iconst E dL_law_1379 (v := nI 2) rfl ?_
  refine v_iadd E dL_law_1380 (nI_add _ _) ?_
  refine v_sld E dL_law_1381 hX hbl hbA (by omega) (by omega) ?_
  refine x_cVn E hA hTx dL_law_1382 (thr_perm (x_X2_contradictions l D cI cZ cQ cJ bb S th hok (xs (i + 1)) (xs (i + 2))) (outE cJ o (mF (kk2 (zin (xs (i + 1)) (z_nt S) && zin (xs (i + 2)) (z_nc S)) (z_T S (iN (xs (i + 1))))) (vp_updL f 0 (zco S (iN (xs (i + 1))) (iN (xs (i + 2)))).toInt64) f) :: wX cI cZ cQ a S) perm2 perm2) (cwV 2 E.2.2.2.1 gL_law_X2_contradictions rfl rfl rfl (by decide +kernel) ⟨Nat.le_of_ble_eq_true rfl, Nat.le_of_ble_eq_true rfl⟩) 1 rfl rfl rfl rfl rfl ⟨(by show _ ≤ 601024; omega), (by show _ ≤ 7293034; omega)⟩ (Nat.le_of_ble_eq_true rfl) ?_
  have hK9 : kk2 (zin (xs (i + 1)) (z_nt S) && zin (xs (i + 2)) (z_nc S)) (z_T S (iN (xs (i + 1)))) < 3 := kk2_lt _ _
  refine v_istore E dL_law_1385 (by decide) rfl ?_
  refine v_aload_n E dL_law_1387 5 rfl rfl ?_
  refine v_cVi' E dL_law_1388 (x_X2_thrown l D cI cZ cQ cJ bb S ((kk2 (zin (xs (i + 1)) (z_nt S) && zin (xs (i + 2)) (z_nc S)) (z_T S (iN (xs (i + 1)))))) hok) (cwV 0 E.2.2.2.1 gL_law_X2_thrown rfl rfl rfl (by decide +kernel) ⟨Nat.le_of_ble_eq_true rfl, Nat.le_of_ble_eq_true rfl⟩) 1 rfl rfl rfl subM rfl rfl ⟨(by show _ ≤ 601024; omega), (by show _ ≤ 7293034; omega)⟩ (Nat.le_of_ble_eq_true rfl) ?_
  refine v_iload E dL_law_1391 1 rfl ?_
  refine v_icmp_eq E dL_law_1393 (tgt := 1398) (by decide) (fun _ => ?_) (fun z => absurd rfl z)
  refine v_iload E dL_law_1398 1 rfl ?_
  refine n_if_ne E dL_law_1400 (by omega) (tgt := 1415) (by decide) (fun c9 => ?_) (fun c9 => ?_)
  · refine v_goto E dL_law_1415 (tgt := 1585) (by decide) ?_
    refine v_lv [2, 3, 4, 5, 6] rfl ?_
    exact K S (mF (kk2 (zin (xs (i + 1)) (z_nt S) && zin (xs (i + 2)) (z_nc S)) (z_T S (iN (xs (i + 1))))) (vp_updL f 0 (zco S (iN (xs (i + 1))) (iN (xs (i + 2)))).toInt64) f) (kk2 (zin (xs (i + 1)) (z_nt S) && zin (xs (i + 2)) (z_nc S)) (z_T S (iN (xs (i + 1))))) _ _ hok (by omega) (by omega)
  · refine v_aload_n E dL_law_1403 6 rfl rfl ?_
    refine v_iconst E dL_law_1404 (v := nI 0) rfl ?_
    refine v_lald E dL_law_1405 0 3 rfl rfl (by decide) (by decide) rfl ?_
    refine v_iload E dL_law_1406 0 rfl ?_
    refine v_i2l E dL_law_1408 (z := (mV (kk2 (zin (xs (i + 1)) (z_nt S) && zin (xs (i + 2)) (z_nc S)) (z_T S (iN (xs (i + 1))))) (zco S (iN (xs (i + 1))) (iN (xs (i + 2))))).toInt64) rfl ?_
    refine v_lcmp E dL_law_1409 (z := 0) (out_i c9 f _) ?_
    refine v_if_eq E dL_law_1410 (tgt := 1415) (by decide) (fun _ => ?_) (fun z => absurd rfl z)
    refine v_goto E dL_law_1415 (tgt := 1585) (by decide) ?_
    refine v_lv [2, 3, 4, 5, 6] rfl ?_
    exact K S (mF (kk2 (zin (xs (i + 1)) (z_nt S) && zin (xs (i + 2)) (z_nc S)) (z_T S (iN (xs (i + 1))))) (vp_updL f 0 (zco S (iN (xs (i + 1))) (iN (xs (i + 2)))).toInt64) f) (kk2 (zin (xs (i + 1)) (z_nt S) && zin (xs (i + 2)) (z_nc S)) (z_T S (iN (xs (i + 1))))) _ _ hok (by omega) (by omega)
set_option maxHeartbeats 4000000 in
set_option maxRecDepth 100000 in
theorem law_c24 (E : LE9 p s m b meth c D cI cZ cQ cJ) (hA : ∀ q : Nat, s.heap.size ≤ q → (fun q : Nat => s.heap.size ≤ q) q) (hTx : z_Tx (fun q : Nat => s.heap.size ≤ q) s s.heap) (hl : l.stackTraces = false) (hX : va_X b L xs s s.heap) (hbl : b < s.heap.size) (hbA : ¬ (fun q : Nat => s.heap.size ≤ q) b) (hL : L ≤ 2048) (hok : zOK S) (hi : i + 4 ≤ L) (hcc : cells + 4 ≤ 601024) (hss : slots + 24 ≤ 7293034)
    (K : ∀ (S' : zS) (f' : Nat → Int64) (th' cells' slots' : Nat), zOK S' → cells' ≤ cells + 4 → slots' ≤ slots + 24 → LV p l e s m b below meth c D cells' slots' 1585 [(4, .int (nI i)), (0, .ref b), (1, .ref (a 0)), (2, .ref (bb 0)), (3, .ref o)] [] (wL cI cZ cQ cJ a bb o S' f' th')) : LV p l e s m b below meth c D cells slots 1418 [(4, .int (nI i)), (0, .ref b), (1, .ref (a 0)), (2, .ref (bb 0)), (3, .ref o)] [] (wL cI cZ cQ cJ a bb o S f th) := by
  refine v_aload_n E dL_law_1418 2 rfl rfl ?_
  refine v_aload_n E dL_law_1419 1 rfl rfl ?_
  refine v_iload E dL_law_1420 0 rfl ?_
  refine v_iconst E dL_law_1422 (v := nI 1) rfl ?_
  refine v_iadd E dL_law_1423 (nI_add _ _) ?_
  refine v_sld E dL_law_1424 hX hbl hbA (by omega) (by omega) ?_
  refine v_aload_n E dL_law_1425 4 rfl rfl ?_
  refine x_cSn E hA hTx dL_law_1426 (thr_perm (x_L_candidates l D cI cZ cQ cJ a S hok hl o f (xs (i + 1))) (wM cI bb S th) perm1 perm1) (vx_cwSW 3 E.2.2.2.1 gL_law_L_candidates rfl rfl rfl (by decide +kernel) ⟨Nat.le_of_ble_eq_true rfl, Nat.le_of_ble_eq_true rfl⟩) rfl rfl ⟨(by show _ ≤ 601024; omega), (by show _ ≤ 7293034; omega)⟩ (Nat.le_of_ble_eq_true rfl) ?_
  refine v_istore E dL_law_1429 (by decide) rfl ?_
  refine v_aload_n E dL_law_1431 4 rfl rfl ?_
  refine v_aload_n E dL_law_1432 2 rfl rfl ?_
  refine v_iload E dL_law_1433 1 rfl ?_
  refine v_iconst E dL_law_1435 (v := nI 1) rfl ?_
  refine v_iadd E dL_law_1436 (nI_add _ _) ?_
  refine v_sld E dL_law_1437 hX hbl hbA (by omega) (by omega) ?_
  refine x_cVn E hA hTx dL_law_1438 (thr_perm (x_X2_candidates l D cI cZ cQ cJ bb S th hok (xs (i + 1))) (outE cJ o (mF (kk2 (zin (xs (i + 1)) (z_nt S)) (z_T S (iN (xs (i + 1))))) (vp_updL f 0 (lN (msk (cnd S (iN (xs (i + 1)))) (z_B S (iN (xs (i + 1))) + 1)))) f) :: wX cI cZ cQ a S) perm2 perm2) (cwV 1 E.2.2.2.1 gL_law_X2_candidates rfl rfl rfl (by decide +kernel) ⟨Nat.le_of_ble_eq_true rfl, Nat.le_of_ble_eq_true rfl⟩) 1 rfl rfl rfl rfl rfl ⟨(by show _ ≤ 601024; omega), (by show _ ≤ 7293034; omega)⟩ (Nat.le_of_ble_eq_true rfl) ?_
  have hK9 : kk2 (zin (xs (i + 1)) (z_nt S)) (z_T S (iN (xs (i + 1)))) < 3 := kk2_lt _ _
  refine v_lstore E dL_law_1441 (by decide) rfl ?_
  refine v_aload_n E dL_law_1443 5 rfl rfl ?_
  refine v_cVi' E dL_law_1444 (x_X2_thrown l D cI cZ cQ cJ bb S ((kk2 (zin (xs (i + 1)) (z_nt S)) (z_T S (iN (xs (i + 1)))))) hok) (cwV 0 E.2.2.2.1 gL_law_X2_thrown rfl rfl rfl (by decide +kernel) ⟨Nat.le_of_ble_eq_true rfl, Nat.le_of_ble_eq_true rfl⟩) 1 rfl rfl rfl subM rfl rfl ⟨(by show _ ≤ 601024; omega), (by show _ ≤ 7293034; omega)⟩ (Nat.le_of_ble_eq_true rfl) ?_
  refine v_iload E dL_law_1447 1 rfl ?_
  refine v_icmp_eq E dL_law_1449 (tgt := 1454) (by decide) (fun _ => ?_) (fun z => absurd rfl z)
  refine v_iload E dL_law_1454 1 rfl ?_
  refine n_if_ne E dL_law_1456 (by omega) (tgt := 1470) (by decide) (fun c9 => ?_) (fun c9 => ?_)
  · refine v_goto E dL_law_1470 (tgt := 1585) (by decide) ?_
    refine v_lv [2, 3, 4, 5, 6] rfl ?_
    exact K S (mF (kk2 (zin (xs (i + 1)) (z_nt S)) (z_T S (iN (xs (i + 1))))) (vp_updL f 0 (lN (msk (cnd S (iN (xs (i + 1)))) (z_B S (iN (xs (i + 1))) + 1)))) f) (kk2 (zin (xs (i + 1)) (z_nt S)) (z_T S (iN (xs (i + 1))))) _ _ hok (by omega) (by omega)
  · refine v_aload_n E dL_law_1459 6 rfl rfl ?_
    refine v_iconst E dL_law_1460 (v := nI 0) rfl ?_
    refine v_lald E dL_law_1461 0 3 rfl rfl (by decide) (by decide) rfl ?_
    refine v_lload E dL_law_1462 0 rfl ?_
    refine v_lcmp E dL_law_1464 (z := 0) (out_l c9 f _) ?_
    refine v_if_eq E dL_law_1465 (tgt := 1470) (by decide) (fun _ => ?_) (fun z => absurd rfl z)
    refine v_goto E dL_law_1470 (tgt := 1585) (by decide) ?_
    refine v_lv [2, 3, 4, 5, 6] rfl ?_
    exact K S (mF (kk2 (zin (xs (i + 1)) (z_nt S)) (z_T S (iN (xs (i + 1))))) (vp_updL f 0 (lN (msk (cnd S (iN (xs (i + 1)))) (z_B S (iN (xs (i + 1))) + 1)))) f) (kk2 (zin (xs (i + 1)) (z_nt S)) (z_T S (iN (xs (i + 1))))) _ _ hok (by omega) (by omega)
set_option maxHeartbeats 4000000 in
set_option maxRecDepth 100000 in
theorem law_c25 (E : LE9 p s m b meth c D cI cZ cQ cJ) (hA : ∀ q : Nat, s.heap.size ≤ q → (fun q : Nat => s.heap.size ≤ q) q) (hTx : z_Tx (fun q : Nat => s.heap.size ≤ q) s s.heap) (hl : l.stackTraces = false) (hX : va_X b L xs s s.heap) (hbl : b < s.heap.size) (hbA : ¬ (fun q : Nat => s.heap.size ≤ q) b) (hL : L ≤ 2048) (hok : zOK S) (hi : i + 4 ≤ L) (hcc : cells + 4 ≤ 601024) (hss : slots + 24 ≤ 7293034)
    (K : ∀ (S' : zS) (f' : Nat → Int64) (th' cells' slots' : Nat), zOK S' → cells' ≤ cells + 4 → slots' ≤ slots + 24 → LV p l e s m b below meth c D cells' slots' 1585 [(4, .int (nI i)), (0, .ref b), (1, .ref (a 0)), (2, .ref (bb 0)), (3, .ref o)] [] (wL cI cZ cQ cJ a bb o S' f' th')) : LV p l e s m b below meth c D cells slots 1473 [(4, .int (nI i)), (0, .ref b), (1, .ref (a 0)), (2, .ref (bb 0)), (3, .ref o)] [] (wL cI cZ cQ cJ a bb o S f th) := by
  refine v_aload_n E dL_law_1473 2 rfl rfl ?_
  refine v_aload_n E dL_law_1474 1 rfl rfl ?_
  refine v_iload E dL_law_1475 0 rfl ?_
  refine v_iconst E dL_law_1477 (v := nI 1) rfl ?_
  refine v_iadd E dL_law_1478 (nI_add _ _) ?_
  refine v_sld E dL_law_1479 hX hbl hbA (by omega) (by omega) ?_
  refine v_aload_n E dL_law_1480 4 rfl rfl ?_
  refine x_cSn E hA hTx dL_law_1481 (thr_perm (x_L_likeliest l D cI cZ cQ cJ a S hok hl o f (xs (i + 1))) (wM cI bb S th) perm1 perm1) (vx_cwSW 3 E.2.2.2.1 gL_law_L_likeliest rfl rfl rfl (by decide +kernel) ⟨Nat.le_of_ble_eq_true rfl, Nat.le_of_ble_eq_true rfl⟩) rfl rfl ⟨(by show _ ≤ 601024; omega), (by show _ ≤ 7293034; omega)⟩ (Nat.le_of_ble_eq_true rfl) ?_
  refine v_istore E dL_law_1484 (by decide) rfl ?_
  refine v_aload_n E dL_law_1486 4 rfl rfl ?_
  refine v_aload_n E dL_law_1487 2 rfl rfl ?_
  refine v_iload E dL_law_1488 1 rfl ?_
  refine v_iconst E dL_law_1490 (v := nI 1) rfl ?_
  refine v_iadd E dL_law_1491 (nI_add _ _) ?_
  refine v_sld E dL_law_1492 hX hbl hbA (by omega) (by omega) ?_
  refine x_cVn E hA hTx dL_law_1493 (thr_perm (x_X2_likeliest l D cI cZ cQ cJ bb S th hok (xs (i + 1))) (outE cJ o (mF (kk2 (zin (xs (i + 1)) (z_nt S)) (z_T S (iN (xs (i + 1))))) (vp_updL f 0 (oI (zlk S (iN (xs (i + 1))) (z_B S (iN (xs (i + 1))) + 1))).toInt64) f) :: wX cI cZ cQ a S) perm2 perm2) (cwV 1 E.2.2.2.1 gL_law_X2_likeliest rfl rfl rfl (by decide +kernel) ⟨Nat.le_of_ble_eq_true rfl, Nat.le_of_ble_eq_true rfl⟩) 1 rfl rfl rfl rfl rfl ⟨(by show _ ≤ 601024; omega), (by show _ ≤ 7293034; omega)⟩ (Nat.le_of_ble_eq_true rfl) ?_
  have hK9 : kk2 (zin (xs (i + 1)) (z_nt S)) (z_T S (iN (xs (i + 1)))) < 3 := kk2_lt _ _
  refine v_istore E dL_law_1496 (by decide) rfl ?_
  refine v_aload_n E dL_law_1498 5 rfl rfl ?_
  refine v_cVi' E dL_law_1499 (x_X2_thrown l D cI cZ cQ cJ bb S ((kk2 (zin (xs (i + 1)) (z_nt S)) (z_T S (iN (xs (i + 1)))))) hok) (cwV 0 E.2.2.2.1 gL_law_X2_thrown rfl rfl rfl (by decide +kernel) ⟨Nat.le_of_ble_eq_true rfl, Nat.le_of_ble_eq_true rfl⟩) 1 rfl rfl rfl subM rfl rfl ⟨(by show _ ≤ 601024; omega), (by show _ ≤ 7293034; omega)⟩ (Nat.le_of_ble_eq_true rfl) ?_
  refine v_iload E dL_law_1502 1 rfl ?_
  refine v_icmp_eq E dL_law_1504 (tgt := 1509) (by decide) (fun _ => ?_) (fun z => absurd rfl z)
  refine v_iload E dL_law_1509 1 rfl ?_
  refine n_if_ne E dL_law_1511 (by omega) (tgt := 1526) (by decide) (fun c9 => ?_) (fun c9 => ?_)
  · refine v_goto E dL_law_1526 (tgt := 1585) (by decide) ?_
    refine v_lv [2, 3, 4, 5, 6] rfl ?_
    exact K S (mF (kk2 (zin (xs (i + 1)) (z_nt S)) (z_T S (iN (xs (i + 1))))) (vp_updL f 0 (oI (zlk S (iN (xs (i + 1))) (z_B S (iN (xs (i + 1))) + 1))).toInt64) f) (kk2 (zin (xs (i + 1)) (z_nt S)) (z_T S (iN (xs (i + 1))))) _ _ hok (by omega) (by omega)
  · refine v_aload_n E dL_law_1514 6 rfl rfl ?_
    refine v_iconst E dL_law_1515 (v := nI 0) rfl ?_
    refine v_lald E dL_law_1516 0 3 rfl rfl (by decide) (by decide) rfl ?_
    refine v_iload E dL_law_1517 0 rfl ?_
    refine v_i2l E dL_law_1519 (z := (mV (kk2 (zin (xs (i + 1)) (z_nt S)) (z_T S (iN (xs (i + 1))))) (oI (zlk S (iN (xs (i + 1))) (z_B S (iN (xs (i + 1))) + 1)))).toInt64) rfl ?_
    refine v_lcmp E dL_law_1520 (z := 0) (out_i c9 f _) ?_
    refine v_if_eq E dL_law_1521 (tgt := 1526) (by decide) (fun _ => ?_) (fun z => absurd rfl z)
    refine v_goto E dL_law_1526 (tgt := 1585) (by decide) ?_
    refine v_lv [2, 3, 4, 5, 6] rfl ?_
    exact K S (mF (kk2 (zin (xs (i + 1)) (z_nt S)) (z_T S (iN (xs (i + 1))))) (vp_updL f 0 (oI (zlk S (iN (xs (i + 1))) (z_B S (iN (xs (i + 1))) + 1))).toInt64) f) (kk2 (zin (xs (i + 1)) (z_nt S)) (z_T S (iN (xs (i + 1))))) _ _ hok (by omega) (by omega)
set_option maxHeartbeats 4000000 in
set_option maxRecDepth 100000 in
theorem law_c26 (E : LE9 p s m b meth c D cI cZ cQ cJ) (hA : ∀ q : Nat, s.heap.size ≤ q → (fun q : Nat => s.heap.size ≤ q) q) (hTx : z_Tx (fun q : Nat => s.heap.size ≤ q) s s.heap) (hl : l.stackTraces = false) (hX : va_X b L xs s s.heap) (hbl : b < s.heap.size) (hbA : ¬ (fun q : Nat => s.heap.size ≤ q) b) (hL : L ≤ 2048) (hok : zOK S) (hi : i + 4 ≤ L) (hcc : cells + 4 ≤ 601024) (hss : slots + 24 ≤ 7293034)
    (K : ∀ (S' : zS) (f' : Nat → Int64) (th' cells' slots' : Nat), zOK S' → cells' ≤ cells + 4 → slots' ≤ slots + 24 → LV p l e s m b below meth c D cells' slots' 1585 [(4, .int (nI i)), (0, .ref b), (1, .ref (a 0)), (2, .ref (bb 0)), (3, .ref o)] [] (wL cI cZ cQ cJ a bb o S' f' th')) : LV p l e s m b below meth c D cells slots 1529 [(4, .int (nI i)), (0, .ref b), (1, .ref (a 0)), (2, .ref (bb 0)), (3, .ref o)] [] (wL cI cZ cQ cJ a bb o S f th) := by
  refine v_aload_n E dL_law_1529 2 rfl rfl ?_
  refine v_aload_n E dL_law_1530 1 rfl rfl ?_
  refine v_iload E dL_law_1531 0 rfl ?_
  refine v_iconst E dL_law_1533 (v := nI 1) rfl ?_
  refine v_iadd E dL_law_1534 (nI_add _ _) ?_
  refine v_sld E dL_law_1535 hX hbl hbA (by omega) (by omega) ?_
  refine v_aload_n E dL_law_1536 4 rfl rfl ?_
  refine x_cSn E hA hTx dL_law_1537 (thr_perm (x_L_next l D cI cZ cQ cJ a S hok hl o f (xs (i + 1))) (wM cI bb S th) perm1 perm1) (vx_cwSW 3 E.2.2.2.1 gL_law_L_next rfl rfl rfl (by decide +kernel) ⟨Nat.le_of_ble_eq_true rfl, Nat.le_of_ble_eq_true rfl⟩) rfl rfl ⟨(by show _ ≤ 601024; omega), (by show _ ≤ 7293034; omega)⟩ (Nat.le_of_ble_eq_true rfl) ?_
  refine v_istore E dL_law_1540 (by decide) rfl ?_
  refine v_aload_n E dL_law_1542 4 rfl rfl ?_
  refine v_aload_n E dL_law_1543 2 rfl rfl ?_
  refine v_iload E dL_law_1544 1 rfl ?_
  refine v_iconst E dL_law_1546 (v := nI 1) rfl ?_
  refine v_iadd E dL_law_1547 (nI_add _ _) ?_
  refine v_sld E dL_law_1548 hX hbl hbA (by omega) (by omega) ?_
  refine x_cVn E hA hTx dL_law_1549 (thr_perm (x_X2_next l D cI cZ cQ cJ bb S th hok (xs (i + 1))) (outE cJ o (mF (kk2 (zin (xs (i + 1)) (z_nt S)) (z_T S (iN (xs (i + 1))))) (vp_updL f 0 (oI (znx S (iN (xs (i + 1))) (z_B S (iN (xs (i + 1)))))).toInt64) f) :: wX cI cZ cQ a S) perm2 perm2) (cwV 1 E.2.2.2.1 gL_law_X2_next rfl rfl rfl (by decide +kernel) ⟨Nat.le_of_ble_eq_true rfl, Nat.le_of_ble_eq_true rfl⟩) 1 rfl rfl rfl rfl rfl ⟨(by show _ ≤ 601024; omega), (by show _ ≤ 7293034; omega)⟩ (Nat.le_of_ble_eq_true rfl) ?_
  have hK9 : kk2 (zin (xs (i + 1)) (z_nt S)) (z_T S (iN (xs (i + 1)))) < 3 := kk2_lt _ _
  refine v_istore E dL_law_1552 (by decide) rfl ?_
  refine v_aload_n E dL_law_1554 5 rfl rfl ?_
  refine v_cVi' E dL_law_1555 (x_X2_thrown l D cI cZ cQ cJ bb S ((kk2 (zin (xs (i + 1)) (z_nt S)) (z_T S (iN (xs (i + 1)))))) hok) (cwV 0 E.2.2.2.1 gL_law_X2_thrown rfl rfl rfl (by decide +kernel) ⟨Nat.le_of_ble_eq_true rfl, Nat.le_of_ble_eq_true rfl⟩) 1 rfl rfl rfl subM rfl rfl ⟨(by show _ ≤ 601024; omega), (by show _ ≤ 7293034; omega)⟩ (Nat.le_of_ble_eq_true rfl) ?_
  refine v_iload E dL_law_1558 1 rfl ?_
  refine v_icmp_eq E dL_law_1560 (tgt := 1565) (by decide) (fun _ => ?_) (fun z => absurd rfl z)
  refine v_iload E dL_law_1565 1 rfl ?_
  refine n_if_ne E dL_law_1567 (by omega) (tgt := 1582) (by decide) (fun c9 => ?_) (fun c9 => ?_)
  · refine v_goto E dL_law_1582 (tgt := 1585) (by decide) ?_
    refine v_lv [2, 3, 4, 5, 6] rfl ?_
    exact K S (mF (kk2 (zin (xs (i + 1)) (z_nt S)) (z_T S (iN (xs (i + 1))))) (vp_updL f 0 (oI (znx S (iN (xs (i + 1))) (z_B S (iN (xs (i + 1)))))).toInt64) f) (kk2 (zin (xs (i + 1)) (z_nt S)) (z_T S (iN (xs (i + 1))))) _ _ hok (by omega) (by omega)
  · refine v_aload_n E dL_law_1570 6 rfl rfl ?_
    refine v_iconst E dL_law_1571 (v := nI 0) rfl ?_
    refine v_lald E dL_law_1572 0 3 rfl rfl (by decide) (by decide) rfl ?_
    refine v_iload E dL_law_1573 0 rfl ?_
    refine v_i2l E dL_law_1575 (z := (mV (kk2 (zin (xs (i + 1)) (z_nt S)) (z_T S (iN (xs (i + 1))))) (oI (znx S (iN (xs (i + 1))) (z_B S (iN (xs (i + 1))))))).toInt64) rfl ?_
    refine v_lcmp E dL_law_1576 (z := 0) (out_i c9 f _) ?_
    refine v_if_eq E dL_law_1577 (tgt := 1582) (by decide) (fun _ => ?_) (fun z => absurd rfl z)
    refine v_goto E dL_law_1582 (tgt := 1585) (by decide) ?_
    refine v_lv [2, 3, 4, 5, 6] rfl ?_
    exact K S (mF (kk2 (zin (xs (i + 1)) (z_nt S)) (z_T S (iN (xs (i + 1))))) (vp_updL f 0 (oI (znx S (iN (xs (i + 1))) (z_B S (iN (xs (i + 1)))))).toInt64) f) (kk2 (zin (xs (i + 1)) (z_nt S)) (z_T S (iN (xs (i + 1))))) _ _ hok (by omega) (by omega)
end LAWC
