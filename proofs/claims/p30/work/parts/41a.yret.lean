/-! ===== ends with a world to be shown ===== -/
section YRET
variable {p : Program} {l : Launch} {e : Env} {R : Room} {s : State} {m : MethodId} {args : Array Value} {below : List Frame} {meth : Method} {c : Code} {cells slots : Nat} {nL : Nat}
variable {D : va_G} {tys : List (ClassId × FieldType)} {cc : ByteArray} {Ts : List Cond} {own : String}
variable {pc : Nat} {lv : List (Nat × Value)} {w w' w2 : va_W} {A : Nat → Prop} {k mc ms : Nat} {ex : Nat → String} {o : Option Value} {kz : Prop}
theorem y_ret (E : v_E p s m args meth c D tys cc nL Ts own (v_rw D A s)) {v : Int32} (hr : meth.sig.returnType = some .int) (hk : kz) (ho : o = (some (.int v))) (hw : w = w') (hc : cells ≤ mc) (hs : slots ≤ ms) (hdg : decode cc pc = .ok (.ireturn, 1)) : V p l e R s m args below meth c cells slots (vx_MQ below (v_Qo D tys kz o w' A) (v_XC D tys k ex w2 A) args s mc ms A) (v_rw D A s) nL pc lv [.int v] w := by
  subst hw
  exact x_ret E hr hk ho hc hs hdg
theorem y_retz (E : v_E p s m args meth c D tys cc nL Ts own (v_rw D A s)) {v : Int32} (hr : meth.sig.returnType = some .boolean) (hz : narrow .boolean (.int v) = .int v) (hk : kz) (ho : o = (some (.int v))) (hw : w = w') (hc : cells ≤ mc) (hs : slots ≤ ms) (hdg : decode cc pc = .ok (.ireturn, 1)) : V p l e R s m args below meth c cells slots (vx_MQ below (v_Qo D tys kz o w' A) (v_XC D tys k ex w2 A) args s mc ms A) (v_rw D A s) nL pc lv [.int v] w := by
  subst hw
  exact x_retz E hr hz hk ho hc hs hdg
theorem y_retl (E : v_E p s m args meth c D tys cc nL Ts own (v_rw D A s)) {v : Int64} (hr : meth.sig.returnType = some .long) (hk : kz) (ho : o = (some (.long v))) (hw : w = w') (hc : cells ≤ mc) (hs : slots ≤ ms) (hdg : decode cc pc = .ok (.lreturn, 1)) : V p l e R s m args below meth c cells slots (vx_MQ below (v_Qo D tys kz o w' A) (v_XC D tys k ex w2 A) args s mc ms A) (v_rw D A s) nL pc lv [.long v] w := by
  subst hw
  exact x_retl E hr hk ho hc hs hdg
theorem y_retv (E : v_E p s m args meth c D tys cc nL Ts own (v_rw D A s)) (hr : meth.sig.returnType = none) (hk : kz) (ho : o = none) (hw : w = w') (hc : cells ≤ mc) (hs : slots ≤ ms) (hdg : decode cc pc = .ok (.return_, 1)) : V p l e R s m args below meth c cells slots (vx_MQ below (v_Qo D tys kz o w' A) (v_XC D tys k ex w2 A) args s mc ms A) (v_rw D A s) nL pc lv [] w := by
  subst hw
  exact x_retv E hr hk ho hc hs hdg
end YRET
