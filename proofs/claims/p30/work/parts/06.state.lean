/-! ===== the state of the system: one value for the class and for the model ===== -/
abbrev zS : Type := (Nat → Nat) × (Nat → Nat) × (Nat → Nat) × (Nat → Bool) × (Nat → Nat) × (Nat → Nat) × (Nat → Nat) × (Nat) × (Nat) × (Nat) × (Nat) × (Nat) × (Nat) × (Nat) × (Nat → Nat) × (Nat → Nat → Nat) × (Nat → Nat → Nat) × (Nat → Nat → Nat) × (Nat → Nat → Nat)
def z_U (S : zS) : Nat → Nat := S.1
def z_C (S : zS) : Nat → Nat := S.2.1
def z_D (S : zS) : Nat → Nat := S.2.2.1
def z_T (S : zS) : Nat → Bool := S.2.2.2.1
def z_G (S : zS) : Nat → Nat := S.2.2.2.2.1
def z_B (S : zS) : Nat → Nat := S.2.2.2.2.2.1
def z_Q (S : zS) : Nat → Nat := S.2.2.2.2.2.2.1
def z_qn (S : zS) : Nat := S.2.2.2.2.2.2.2.1
def z_nc (S : zS) : Nat := S.2.2.2.2.2.2.2.2.1
def z_nt (S : zS) : Nat := S.2.2.2.2.2.2.2.2.2.1
def z_li (S : zS) : Nat := S.2.2.2.2.2.2.2.2.2.2.1
def z_wi (S : zS) : Nat := S.2.2.2.2.2.2.2.2.2.2.2.1
def z_no (S : zS) : Nat := S.2.2.2.2.2.2.2.2.2.2.2.2.1
def z_bu (S : zS) : Nat := S.2.2.2.2.2.2.2.2.2.2.2.2.2.1
def z_R (S : zS) : Nat → Nat := S.2.2.2.2.2.2.2.2.2.2.2.2.2.2.1
def z_rC (S : zS) : Nat → Nat → Nat := S.2.2.2.2.2.2.2.2.2.2.2.2.2.2.2.1
def z_rP (S : zS) : Nat → Nat → Nat := S.2.2.2.2.2.2.2.2.2.2.2.2.2.2.2.2.1
def z_P (S : zS) : Nat → Nat → Nat := S.2.2.2.2.2.2.2.2.2.2.2.2.2.2.2.2.2.1
def z_F (S : zS) : Nat → Nat → Nat := S.2.2.2.2.2.2.2.2.2.2.2.2.2.2.2.2.2.2
def zs_U (S : zS) (v : Nat → Nat) : zS := (v, S.2.1, S.2.2.1, S.2.2.2.1, S.2.2.2.2.1, S.2.2.2.2.2.1, S.2.2.2.2.2.2.1, S.2.2.2.2.2.2.2.1, S.2.2.2.2.2.2.2.2.1, S.2.2.2.2.2.2.2.2.2.1, S.2.2.2.2.2.2.2.2.2.2.1, S.2.2.2.2.2.2.2.2.2.2.2.1, S.2.2.2.2.2.2.2.2.2.2.2.2.1, S.2.2.2.2.2.2.2.2.2.2.2.2.2.1, S.2.2.2.2.2.2.2.2.2.2.2.2.2.2.1, S.2.2.2.2.2.2.2.2.2.2.2.2.2.2.2.1, S.2.2.2.2.2.2.2.2.2.2.2.2.2.2.2.2.1, S.2.2.2.2.2.2.2.2.2.2.2.2.2.2.2.2.2.1, S.2.2.2.2.2.2.2.2.2.2.2.2.2.2.2.2.2.2)
def zs_C (S : zS) (v : Nat → Nat) : zS := (S.1, v, S.2.2.1, S.2.2.2.1, S.2.2.2.2.1, S.2.2.2.2.2.1, S.2.2.2.2.2.2.1, S.2.2.2.2.2.2.2.1, S.2.2.2.2.2.2.2.2.1, S.2.2.2.2.2.2.2.2.2.1, S.2.2.2.2.2.2.2.2.2.2.1, S.2.2.2.2.2.2.2.2.2.2.2.1, S.2.2.2.2.2.2.2.2.2.2.2.2.1, S.2.2.2.2.2.2.2.2.2.2.2.2.2.1, S.2.2.2.2.2.2.2.2.2.2.2.2.2.2.1, S.2.2.2.2.2.2.2.2.2.2.2.2.2.2.2.1, S.2.2.2.2.2.2.2.2.2.2.2.2.2.2.2.2.1, S.2.2.2.2.2.2.2.2.2.2.2.2.2.2.2.2.2.1, S.2.2.2.2.2.2.2.2.2.2.2.2.2.2.2.2.2.2)
def zs_D (S : zS) (v : Nat → Nat) : zS := (S.1, S.2.1, v, S.2.2.2.1, S.2.2.2.2.1, S.2.2.2.2.2.1, S.2.2.2.2.2.2.1, S.2.2.2.2.2.2.2.1, S.2.2.2.2.2.2.2.2.1, S.2.2.2.2.2.2.2.2.2.1, S.2.2.2.2.2.2.2.2.2.2.1, S.2.2.2.2.2.2.2.2.2.2.2.1, S.2.2.2.2.2.2.2.2.2.2.2.2.1, S.2.2.2.2.2.2.2.2.2.2.2.2.2.1, S.2.2.2.2.2.2.2.2.2.2.2.2.2.2.1, S.2.2.2.2.2.2.2.2.2.2.2.2.2.2.2.1, S.2.2.2.2.2.2.2.2.2.2.2.2.2.2.2.2.1, S.2.2.2.2.2.2.2.2.2.2.2.2.2.2.2.2.2.1, S.2.2.2.2.2.2.2.2.2.2.2.2.2.2.2.2.2.2)
def zs_T (S : zS) (v : Nat → Bool) : zS := (S.1, S.2.1, S.2.2.1, v, S.2.2.2.2.1, S.2.2.2.2.2.1, S.2.2.2.2.2.2.1, S.2.2.2.2.2.2.2.1, S.2.2.2.2.2.2.2.2.1, S.2.2.2.2.2.2.2.2.2.1, S.2.2.2.2.2.2.2.2.2.2.1, S.2.2.2.2.2.2.2.2.2.2.2.1, S.2.2.2.2.2.2.2.2.2.2.2.2.1, S.2.2.2.2.2.2.2.2.2.2.2.2.2.1, S.2.2.2.2.2.2.2.2.2.2.2.2.2.2.1, S.2.2.2.2.2.2.2.2.2.2.2.2.2.2.2.1, S.2.2.2.2.2.2.2.2.2.2.2.2.2.2.2.2.1, S.2.2.2.2.2.2.2.2.2.2.2.2.2.2.2.2.2.1, S.2.2.2.2.2.2.2.2.2.2.2.2.2.2.2.2.2.2)
def zs_G (S : zS) (v : Nat → Nat) : zS := (S.1, S.2.1, S.2.2.1, S.2.2.2.1, v, S.2.2.2.2.2.1, S.2.2.2.2.2.2.1, S.2.2.2.2.2.2.2.1, S.2.2.2.2.2.2.2.2.1, S.2.2.2.2.2.2.2.2.2.1, S.2.2.2.2.2.2.2.2.2.2.1, S.2.2.2.2.2.2.2.2.2.2.2.1, S.2.2.2.2.2.2.2.2.2.2.2.2.1, S.2.2.2.2.2.2.2.2.2.2.2.2.2.1, S.2.2.2.2.2.2.2.2.2.2.2.2.2.2.1, S.2.2.2.2.2.2.2.2.2.2.2.2.2.2.2.1, S.2.2.2.2.2.2.2.2.2.2.2.2.2.2.2.2.1, S.2.2.2.2.2.2.2.2.2.2.2.2.2.2.2.2.2.1, S.2.2.2.2.2.2.2.2.2.2.2.2.2.2.2.2.2.2)
def zs_B (S : zS) (v : Nat → Nat) : zS := (S.1, S.2.1, S.2.2.1, S.2.2.2.1, S.2.2.2.2.1, v, S.2.2.2.2.2.2.1, S.2.2.2.2.2.2.2.1, S.2.2.2.2.2.2.2.2.1, S.2.2.2.2.2.2.2.2.2.1, S.2.2.2.2.2.2.2.2.2.2.1, S.2.2.2.2.2.2.2.2.2.2.2.1, S.2.2.2.2.2.2.2.2.2.2.2.2.1, S.2.2.2.2.2.2.2.2.2.2.2.2.2.1, S.2.2.2.2.2.2.2.2.2.2.2.2.2.2.1, S.2.2.2.2.2.2.2.2.2.2.2.2.2.2.2.1, S.2.2.2.2.2.2.2.2.2.2.2.2.2.2.2.2.1, S.2.2.2.2.2.2.2.2.2.2.2.2.2.2.2.2.2.1, S.2.2.2.2.2.2.2.2.2.2.2.2.2.2.2.2.2.2)
def zs_Q (S : zS) (v : Nat → Nat) : zS := (S.1, S.2.1, S.2.2.1, S.2.2.2.1, S.2.2.2.2.1, S.2.2.2.2.2.1, v, S.2.2.2.2.2.2.2.1, S.2.2.2.2.2.2.2.2.1, S.2.2.2.2.2.2.2.2.2.1, S.2.2.2.2.2.2.2.2.2.2.1, S.2.2.2.2.2.2.2.2.2.2.2.1, S.2.2.2.2.2.2.2.2.2.2.2.2.1, S.2.2.2.2.2.2.2.2.2.2.2.2.2.1, S.2.2.2.2.2.2.2.2.2.2.2.2.2.2.1, S.2.2.2.2.2.2.2.2.2.2.2.2.2.2.2.1, S.2.2.2.2.2.2.2.2.2.2.2.2.2.2.2.2.1, S.2.2.2.2.2.2.2.2.2.2.2.2.2.2.2.2.2.1, S.2.2.2.2.2.2.2.2.2.2.2.2.2.2.2.2.2.2)
def zs_qn (S : zS) (v : Nat) : zS := (S.1, S.2.1, S.2.2.1, S.2.2.2.1, S.2.2.2.2.1, S.2.2.2.2.2.1, S.2.2.2.2.2.2.1, v, S.2.2.2.2.2.2.2.2.1, S.2.2.2.2.2.2.2.2.2.1, S.2.2.2.2.2.2.2.2.2.2.1, S.2.2.2.2.2.2.2.2.2.2.2.1, S.2.2.2.2.2.2.2.2.2.2.2.2.1, S.2.2.2.2.2.2.2.2.2.2.2.2.2.1, S.2.2.2.2.2.2.2.2.2.2.2.2.2.2.1, S.2.2.2.2.2.2.2.2.2.2.2.2.2.2.2.1, S.2.2.2.2.2.2.2.2.2.2.2.2.2.2.2.2.1, S.2.2.2.2.2.2.2.2.2.2.2.2.2.2.2.2.2.1, S.2.2.2.2.2.2.2.2.2.2.2.2.2.2.2.2.2.2)
def zs_nc (S : zS) (v : Nat) : zS := (S.1, S.2.1, S.2.2.1, S.2.2.2.1, S.2.2.2.2.1, S.2.2.2.2.2.1, S.2.2.2.2.2.2.1, S.2.2.2.2.2.2.2.1, v, S.2.2.2.2.2.2.2.2.2.1, S.2.2.2.2.2.2.2.2.2.2.1, S.2.2.2.2.2.2.2.2.2.2.2.1, S.2.2.2.2.2.2.2.2.2.2.2.2.1, S.2.2.2.2.2.2.2.2.2.2.2.2.2.1, S.2.2.2.2.2.2.2.2.2.2.2.2.2.2.1, S.2.2.2.2.2.2.2.2.2.2.2.2.2.2.2.1, S.2.2.2.2.2.2.2.2.2.2.2.2.2.2.2.2.1, S.2.2.2.2.2.2.2.2.2.2.2.2.2.2.2.2.2.1, S.2.2.2.2.2.2.2.2.2.2.2.2.2.2.2.2.2.2)
def zs_nt (S : zS) (v : Nat) : zS := (S.1, S.2.1, S.2.2.1, S.2.2.2.1, S.2.2.2.2.1, S.2.2.2.2.2.1, S.2.2.2.2.2.2.1, S.2.2.2.2.2.2.2.1, S.2.2.2.2.2.2.2.2.1, v, S.2.2.2.2.2.2.2.2.2.2.1, S.2.2.2.2.2.2.2.2.2.2.2.1, S.2.2.2.2.2.2.2.2.2.2.2.2.1, S.2.2.2.2.2.2.2.2.2.2.2.2.2.1, S.2.2.2.2.2.2.2.2.2.2.2.2.2.2.1, S.2.2.2.2.2.2.2.2.2.2.2.2.2.2.2.1, S.2.2.2.2.2.2.2.2.2.2.2.2.2.2.2.2.1, S.2.2.2.2.2.2.2.2.2.2.2.2.2.2.2.2.2.1, S.2.2.2.2.2.2.2.2.2.2.2.2.2.2.2.2.2.2)
def zs_li (S : zS) (v : Nat) : zS := (S.1, S.2.1, S.2.2.1, S.2.2.2.1, S.2.2.2.2.1, S.2.2.2.2.2.1, S.2.2.2.2.2.2.1, S.2.2.2.2.2.2.2.1, S.2.2.2.2.2.2.2.2.1, S.2.2.2.2.2.2.2.2.2.1, v, S.2.2.2.2.2.2.2.2.2.2.2.1, S.2.2.2.2.2.2.2.2.2.2.2.2.1, S.2.2.2.2.2.2.2.2.2.2.2.2.2.1, S.2.2.2.2.2.2.2.2.2.2.2.2.2.2.1, S.2.2.2.2.2.2.2.2.2.2.2.2.2.2.2.1, S.2.2.2.2.2.2.2.2.2.2.2.2.2.2.2.2.1, S.2.2.2.2.2.2.2.2.2.2.2.2.2.2.2.2.2.1, S.2.2.2.2.2.2.2.2.2.2.2.2.2.2.2.2.2.2)
def zs_wi (S : zS) (v : Nat) : zS := (S.1, S.2.1, S.2.2.1, S.2.2.2.1, S.2.2.2.2.1, S.2.2.2.2.2.1, S.2.2.2.2.2.2.1, S.2.2.2.2.2.2.2.1, S.2.2.2.2.2.2.2.2.1, S.2.2.2.2.2.2.2.2.2.1, S.2.2.2.2.2.2.2.2.2.2.1, v, S.2.2.2.2.2.2.2.2.2.2.2.2.1, S.2.2.2.2.2.2.2.2.2.2.2.2.2.1, S.2.2.2.2.2.2.2.2.2.2.2.2.2.2.1, S.2.2.2.2.2.2.2.2.2.2.2.2.2.2.2.1, S.2.2.2.2.2.2.2.2.2.2.2.2.2.2.2.2.1, S.2.2.2.2.2.2.2.2.2.2.2.2.2.2.2.2.2.1, S.2.2.2.2.2.2.2.2.2.2.2.2.2.2.2.2.2.2)
def zs_no (S : zS) (v : Nat) : zS := (S.1, S.2.1, S.2.2.1, S.2.2.2.1, S.2.2.2.2.1, S.2.2.2.2.2.1, S.2.2.2.2.2.2.1, S.2.2.2.2.2.2.2.1, S.2.2.2.2.2.2.2.2.1, S.2.2.2.2.2.2.2.2.2.1, S.2.2.2.2.2.2.2.2.2.2.1, S.2.2.2.2.2.2.2.2.2.2.2.1, v, S.2.2.2.2.2.2.2.2.2.2.2.2.2.1, S.2.2.2.2.2.2.2.2.2.2.2.2.2.2.1, S.2.2.2.2.2.2.2.2.2.2.2.2.2.2.2.1, S.2.2.2.2.2.2.2.2.2.2.2.2.2.2.2.2.1, S.2.2.2.2.2.2.2.2.2.2.2.2.2.2.2.2.2.1, S.2.2.2.2.2.2.2.2.2.2.2.2.2.2.2.2.2.2)
def zs_bu (S : zS) (v : Nat) : zS := (S.1, S.2.1, S.2.2.1, S.2.2.2.1, S.2.2.2.2.1, S.2.2.2.2.2.1, S.2.2.2.2.2.2.1, S.2.2.2.2.2.2.2.1, S.2.2.2.2.2.2.2.2.1, S.2.2.2.2.2.2.2.2.2.1, S.2.2.2.2.2.2.2.2.2.2.1, S.2.2.2.2.2.2.2.2.2.2.2.1, S.2.2.2.2.2.2.2.2.2.2.2.2.1, v, S.2.2.2.2.2.2.2.2.2.2.2.2.2.2.1, S.2.2.2.2.2.2.2.2.2.2.2.2.2.2.2.1, S.2.2.2.2.2.2.2.2.2.2.2.2.2.2.2.2.1, S.2.2.2.2.2.2.2.2.2.2.2.2.2.2.2.2.2.1, S.2.2.2.2.2.2.2.2.2.2.2.2.2.2.2.2.2.2)
def zs_R (S : zS) (v : Nat → Nat) : zS := (S.1, S.2.1, S.2.2.1, S.2.2.2.1, S.2.2.2.2.1, S.2.2.2.2.2.1, S.2.2.2.2.2.2.1, S.2.2.2.2.2.2.2.1, S.2.2.2.2.2.2.2.2.1, S.2.2.2.2.2.2.2.2.2.1, S.2.2.2.2.2.2.2.2.2.2.1, S.2.2.2.2.2.2.2.2.2.2.2.1, S.2.2.2.2.2.2.2.2.2.2.2.2.1, S.2.2.2.2.2.2.2.2.2.2.2.2.2.1, v, S.2.2.2.2.2.2.2.2.2.2.2.2.2.2.2.1, S.2.2.2.2.2.2.2.2.2.2.2.2.2.2.2.2.1, S.2.2.2.2.2.2.2.2.2.2.2.2.2.2.2.2.2.1, S.2.2.2.2.2.2.2.2.2.2.2.2.2.2.2.2.2.2)
def zs_rC (S : zS) (v : Nat → Nat → Nat) : zS := (S.1, S.2.1, S.2.2.1, S.2.2.2.1, S.2.2.2.2.1, S.2.2.2.2.2.1, S.2.2.2.2.2.2.1, S.2.2.2.2.2.2.2.1, S.2.2.2.2.2.2.2.2.1, S.2.2.2.2.2.2.2.2.2.1, S.2.2.2.2.2.2.2.2.2.2.1, S.2.2.2.2.2.2.2.2.2.2.2.1, S.2.2.2.2.2.2.2.2.2.2.2.2.1, S.2.2.2.2.2.2.2.2.2.2.2.2.2.1, S.2.2.2.2.2.2.2.2.2.2.2.2.2.2.1, v, S.2.2.2.2.2.2.2.2.2.2.2.2.2.2.2.2.1, S.2.2.2.2.2.2.2.2.2.2.2.2.2.2.2.2.2.1, S.2.2.2.2.2.2.2.2.2.2.2.2.2.2.2.2.2.2)
def zs_rP (S : zS) (v : Nat → Nat → Nat) : zS := (S.1, S.2.1, S.2.2.1, S.2.2.2.1, S.2.2.2.2.1, S.2.2.2.2.2.1, S.2.2.2.2.2.2.1, S.2.2.2.2.2.2.2.1, S.2.2.2.2.2.2.2.2.1, S.2.2.2.2.2.2.2.2.2.1, S.2.2.2.2.2.2.2.2.2.2.1, S.2.2.2.2.2.2.2.2.2.2.2.1, S.2.2.2.2.2.2.2.2.2.2.2.2.1, S.2.2.2.2.2.2.2.2.2.2.2.2.2.1, S.2.2.2.2.2.2.2.2.2.2.2.2.2.2.1, S.2.2.2.2.2.2.2.2.2.2.2.2.2.2.2.1, v, S.2.2.2.2.2.2.2.2.2.2.2.2.2.2.2.2.2.1, S.2.2.2.2.2.2.2.2.2.2.2.2.2.2.2.2.2.2)
def zs_P (S : zS) (v : Nat → Nat → Nat) : zS := (S.1, S.2.1, S.2.2.1, S.2.2.2.1, S.2.2.2.2.1, S.2.2.2.2.2.1, S.2.2.2.2.2.2.1, S.2.2.2.2.2.2.2.1, S.2.2.2.2.2.2.2.2.1, S.2.2.2.2.2.2.2.2.2.1, S.2.2.2.2.2.2.2.2.2.2.1, S.2.2.2.2.2.2.2.2.2.2.2.1, S.2.2.2.2.2.2.2.2.2.2.2.2.1, S.2.2.2.2.2.2.2.2.2.2.2.2.2.1, S.2.2.2.2.2.2.2.2.2.2.2.2.2.2.1, S.2.2.2.2.2.2.2.2.2.2.2.2.2.2.2.1, S.2.2.2.2.2.2.2.2.2.2.2.2.2.2.2.2.1, v, S.2.2.2.2.2.2.2.2.2.2.2.2.2.2.2.2.2.2)
def zs_F (S : zS) (v : Nat → Nat → Nat) : zS := (S.1, S.2.1, S.2.2.1, S.2.2.2.1, S.2.2.2.2.1, S.2.2.2.2.2.1, S.2.2.2.2.2.2.1, S.2.2.2.2.2.2.2.1, S.2.2.2.2.2.2.2.2.1, S.2.2.2.2.2.2.2.2.2.1, S.2.2.2.2.2.2.2.2.2.2.1, S.2.2.2.2.2.2.2.2.2.2.2.1, S.2.2.2.2.2.2.2.2.2.2.2.2.1, S.2.2.2.2.2.2.2.2.2.2.2.2.2.1, S.2.2.2.2.2.2.2.2.2.2.2.2.2.2.1, S.2.2.2.2.2.2.2.2.2.2.2.2.2.2.2.1, S.2.2.2.2.2.2.2.2.2.2.2.2.2.2.2.2.1, S.2.2.2.2.2.2.2.2.2.2.2.2.2.2.2.2.2.1, v)
theorem zl_U_U (S : zS) (v : Nat → Nat) : z_U (zs_U S v) = v := rfl
theorem zl_C_U (S : zS) (v : Nat → Nat) : z_C (zs_U S v) = z_C S := rfl
theorem zl_D_U (S : zS) (v : Nat → Nat) : z_D (zs_U S v) = z_D S := rfl
theorem zl_T_U (S : zS) (v : Nat → Nat) : z_T (zs_U S v) = z_T S := rfl
theorem zl_G_U (S : zS) (v : Nat → Nat) : z_G (zs_U S v) = z_G S := rfl
theorem zl_B_U (S : zS) (v : Nat → Nat) : z_B (zs_U S v) = z_B S := rfl
theorem zl_Q_U (S : zS) (v : Nat → Nat) : z_Q (zs_U S v) = z_Q S := rfl
theorem zl_qn_U (S : zS) (v : Nat → Nat) : z_qn (zs_U S v) = z_qn S := rfl
theorem zl_nc_U (S : zS) (v : Nat → Nat) : z_nc (zs_U S v) = z_nc S := rfl
theorem zl_nt_U (S : zS) (v : Nat → Nat) : z_nt (zs_U S v) = z_nt S := rfl
theorem zl_li_U (S : zS) (v : Nat → Nat) : z_li (zs_U S v) = z_li S := rfl
theorem zl_wi_U (S : zS) (v : Nat → Nat) : z_wi (zs_U S v) = z_wi S := rfl
theorem zl_no_U (S : zS) (v : Nat → Nat) : z_no (zs_U S v) = z_no S := rfl
theorem zl_bu_U (S : zS) (v : Nat → Nat) : z_bu (zs_U S v) = z_bu S := rfl
theorem zl_R_U (S : zS) (v : Nat → Nat) : z_R (zs_U S v) = z_R S := rfl
theorem zl_rC_U (S : zS) (v : Nat → Nat) : z_rC (zs_U S v) = z_rC S := rfl
theorem zl_rP_U (S : zS) (v : Nat → Nat) : z_rP (zs_U S v) = z_rP S := rfl
theorem zl_P_U (S : zS) (v : Nat → Nat) : z_P (zs_U S v) = z_P S := rfl
theorem zl_F_U (S : zS) (v : Nat → Nat) : z_F (zs_U S v) = z_F S := rfl
theorem zl_U_C (S : zS) (v : Nat → Nat) : z_U (zs_C S v) = z_U S := rfl
theorem zl_C_C (S : zS) (v : Nat → Nat) : z_C (zs_C S v) = v := rfl
theorem zl_D_C (S : zS) (v : Nat → Nat) : z_D (zs_C S v) = z_D S := rfl
theorem zl_T_C (S : zS) (v : Nat → Nat) : z_T (zs_C S v) = z_T S := rfl
theorem zl_G_C (S : zS) (v : Nat → Nat) : z_G (zs_C S v) = z_G S := rfl
theorem zl_B_C (S : zS) (v : Nat → Nat) : z_B (zs_C S v) = z_B S := rfl
theorem zl_Q_C (S : zS) (v : Nat → Nat) : z_Q (zs_C S v) = z_Q S := rfl
theorem zl_qn_C (S : zS) (v : Nat → Nat) : z_qn (zs_C S v) = z_qn S := rfl
theorem zl_nc_C (S : zS) (v : Nat → Nat) : z_nc (zs_C S v) = z_nc S := rfl
theorem zl_nt_C (S : zS) (v : Nat → Nat) : z_nt (zs_C S v) = z_nt S := rfl
theorem zl_li_C (S : zS) (v : Nat → Nat) : z_li (zs_C S v) = z_li S := rfl
theorem zl_wi_C (S : zS) (v : Nat → Nat) : z_wi (zs_C S v) = z_wi S := rfl
theorem zl_no_C (S : zS) (v : Nat → Nat) : z_no (zs_C S v) = z_no S := rfl
theorem zl_bu_C (S : zS) (v : Nat → Nat) : z_bu (zs_C S v) = z_bu S := rfl
theorem zl_R_C (S : zS) (v : Nat → Nat) : z_R (zs_C S v) = z_R S := rfl
theorem zl_rC_C (S : zS) (v : Nat → Nat) : z_rC (zs_C S v) = z_rC S := rfl
theorem zl_rP_C (S : zS) (v : Nat → Nat) : z_rP (zs_C S v) = z_rP S := rfl
theorem zl_P_C (S : zS) (v : Nat → Nat) : z_P (zs_C S v) = z_P S := rfl
theorem zl_F_C (S : zS) (v : Nat → Nat) : z_F (zs_C S v) = z_F S := rfl
theorem zl_U_D (S : zS) (v : Nat → Nat) : z_U (zs_D S v) = z_U S := rfl
theorem zl_C_D (S : zS) (v : Nat → Nat) : z_C (zs_D S v) = z_C S := rfl
theorem zl_D_D (S : zS) (v : Nat → Nat) : z_D (zs_D S v) = v := rfl
theorem zl_T_D (S : zS) (v : Nat → Nat) : z_T (zs_D S v) = z_T S := rfl
theorem zl_G_D (S : zS) (v : Nat → Nat) : z_G (zs_D S v) = z_G S := rfl
theorem zl_B_D (S : zS) (v : Nat → Nat) : z_B (zs_D S v) = z_B S := rfl
theorem zl_Q_D (S : zS) (v : Nat → Nat) : z_Q (zs_D S v) = z_Q S := rfl
theorem zl_qn_D (S : zS) (v : Nat → Nat) : z_qn (zs_D S v) = z_qn S := rfl
theorem zl_nc_D (S : zS) (v : Nat → Nat) : z_nc (zs_D S v) = z_nc S := rfl
theorem zl_nt_D (S : zS) (v : Nat → Nat) : z_nt (zs_D S v) = z_nt S := rfl
theorem zl_li_D (S : zS) (v : Nat → Nat) : z_li (zs_D S v) = z_li S := rfl
theorem zl_wi_D (S : zS) (v : Nat → Nat) : z_wi (zs_D S v) = z_wi S := rfl
theorem zl_no_D (S : zS) (v : Nat → Nat) : z_no (zs_D S v) = z_no S := rfl
theorem zl_bu_D (S : zS) (v : Nat → Nat) : z_bu (zs_D S v) = z_bu S := rfl
theorem zl_R_D (S : zS) (v : Nat → Nat) : z_R (zs_D S v) = z_R S := rfl
theorem zl_rC_D (S : zS) (v : Nat → Nat) : z_rC (zs_D S v) = z_rC S := rfl
theorem zl_rP_D (S : zS) (v : Nat → Nat) : z_rP (zs_D S v) = z_rP S := rfl
theorem zl_P_D (S : zS) (v : Nat → Nat) : z_P (zs_D S v) = z_P S := rfl
theorem zl_F_D (S : zS) (v : Nat → Nat) : z_F (zs_D S v) = z_F S := rfl
theorem zl_U_T (S : zS) (v : Nat → Bool) : z_U (zs_T S v) = z_U S := rfl
theorem zl_C_T (S : zS) (v : Nat → Bool) : z_C (zs_T S v) = z_C S := rfl
theorem zl_D_T (S : zS) (v : Nat → Bool) : z_D (zs_T S v) = z_D S := rfl
theorem zl_T_T (S : zS) (v : Nat → Bool) : z_T (zs_T S v) = v := rfl
theorem zl_G_T (S : zS) (v : Nat → Bool) : z_G (zs_T S v) = z_G S := rfl
theorem zl_B_T (S : zS) (v : Nat → Bool) : z_B (zs_T S v) = z_B S := rfl
theorem zl_Q_T (S : zS) (v : Nat → Bool) : z_Q (zs_T S v) = z_Q S := rfl
theorem zl_qn_T (S : zS) (v : Nat → Bool) : z_qn (zs_T S v) = z_qn S := rfl
theorem zl_nc_T (S : zS) (v : Nat → Bool) : z_nc (zs_T S v) = z_nc S := rfl
theorem zl_nt_T (S : zS) (v : Nat → Bool) : z_nt (zs_T S v) = z_nt S := rfl
theorem zl_li_T (S : zS) (v : Nat → Bool) : z_li (zs_T S v) = z_li S := rfl
theorem zl_wi_T (S : zS) (v : Nat → Bool) : z_wi (zs_T S v) = z_wi S := rfl
theorem zl_no_T (S : zS) (v : Nat → Bool) : z_no (zs_T S v) = z_no S := rfl
theorem zl_bu_T (S : zS) (v : Nat → Bool) : z_bu (zs_T S v) = z_bu S := rfl
theorem zl_R_T (S : zS) (v : Nat → Bool) : z_R (zs_T S v) = z_R S := rfl
theorem zl_rC_T (S : zS) (v : Nat → Bool) : z_rC (zs_T S v) = z_rC S := rfl
theorem zl_rP_T (S : zS) (v : Nat → Bool) : z_rP (zs_T S v) = z_rP S := rfl
theorem zl_P_T (S : zS) (v : Nat → Bool) : z_P (zs_T S v) = z_P S := rfl
theorem zl_F_T (S : zS) (v : Nat → Bool) : z_F (zs_T S v) = z_F S := rfl
theorem zl_U_G (S : zS) (v : Nat → Nat) : z_U (zs_G S v) = z_U S := rfl
theorem zl_C_G (S : zS) (v : Nat → Nat) : z_C (zs_G S v) = z_C S := rfl
theorem zl_D_G (S : zS) (v : Nat → Nat) : z_D (zs_G S v) = z_D S := rfl
theorem zl_T_G (S : zS) (v : Nat → Nat) : z_T (zs_G S v) = z_T S := rfl
theorem zl_G_G (S : zS) (v : Nat → Nat) : z_G (zs_G S v) = v := rfl
theorem zl_B_G (S : zS) (v : Nat → Nat) : z_B (zs_G S v) = z_B S := rfl
theorem zl_Q_G (S : zS) (v : Nat → Nat) : z_Q (zs_G S v) = z_Q S := rfl
theorem zl_qn_G (S : zS) (v : Nat → Nat) : z_qn (zs_G S v) = z_qn S := rfl
theorem zl_nc_G (S : zS) (v : Nat → Nat) : z_nc (zs_G S v) = z_nc S := rfl
theorem zl_nt_G (S : zS) (v : Nat → Nat) : z_nt (zs_G S v) = z_nt S := rfl
theorem zl_li_G (S : zS) (v : Nat → Nat) : z_li (zs_G S v) = z_li S := rfl
theorem zl_wi_G (S : zS) (v : Nat → Nat) : z_wi (zs_G S v) = z_wi S := rfl
theorem zl_no_G (S : zS) (v : Nat → Nat) : z_no (zs_G S v) = z_no S := rfl
theorem zl_bu_G (S : zS) (v : Nat → Nat) : z_bu (zs_G S v) = z_bu S := rfl
theorem zl_R_G (S : zS) (v : Nat → Nat) : z_R (zs_G S v) = z_R S := rfl
theorem zl_rC_G (S : zS) (v : Nat → Nat) : z_rC (zs_G S v) = z_rC S := rfl
theorem zl_rP_G (S : zS) (v : Nat → Nat) : z_rP (zs_G S v) = z_rP S := rfl
theorem zl_P_G (S : zS) (v : Nat → Nat) : z_P (zs_G S v) = z_P S := rfl
theorem zl_F_G (S : zS) (v : Nat → Nat) : z_F (zs_G S v) = z_F S := rfl
theorem zl_U_B (S : zS) (v : Nat → Nat) : z_U (zs_B S v) = z_U S := rfl
theorem zl_C_B (S : zS) (v : Nat → Nat) : z_C (zs_B S v) = z_C S := rfl
theorem zl_D_B (S : zS) (v : Nat → Nat) : z_D (zs_B S v) = z_D S := rfl
theorem zl_T_B (S : zS) (v : Nat → Nat) : z_T (zs_B S v) = z_T S := rfl
theorem zl_G_B (S : zS) (v : Nat → Nat) : z_G (zs_B S v) = z_G S := rfl
theorem zl_B_B (S : zS) (v : Nat → Nat) : z_B (zs_B S v) = v := rfl
theorem zl_Q_B (S : zS) (v : Nat → Nat) : z_Q (zs_B S v) = z_Q S := rfl
theorem zl_qn_B (S : zS) (v : Nat → Nat) : z_qn (zs_B S v) = z_qn S := rfl
theorem zl_nc_B (S : zS) (v : Nat → Nat) : z_nc (zs_B S v) = z_nc S := rfl
theorem zl_nt_B (S : zS) (v : Nat → Nat) : z_nt (zs_B S v) = z_nt S := rfl
theorem zl_li_B (S : zS) (v : Nat → Nat) : z_li (zs_B S v) = z_li S := rfl
theorem zl_wi_B (S : zS) (v : Nat → Nat) : z_wi (zs_B S v) = z_wi S := rfl
theorem zl_no_B (S : zS) (v : Nat → Nat) : z_no (zs_B S v) = z_no S := rfl
theorem zl_bu_B (S : zS) (v : Nat → Nat) : z_bu (zs_B S v) = z_bu S := rfl
theorem zl_R_B (S : zS) (v : Nat → Nat) : z_R (zs_B S v) = z_R S := rfl
theorem zl_rC_B (S : zS) (v : Nat → Nat) : z_rC (zs_B S v) = z_rC S := rfl
theorem zl_rP_B (S : zS) (v : Nat → Nat) : z_rP (zs_B S v) = z_rP S := rfl
theorem zl_P_B (S : zS) (v : Nat → Nat) : z_P (zs_B S v) = z_P S := rfl
theorem zl_F_B (S : zS) (v : Nat → Nat) : z_F (zs_B S v) = z_F S := rfl
theorem zl_U_Q (S : zS) (v : Nat → Nat) : z_U (zs_Q S v) = z_U S := rfl
theorem zl_C_Q (S : zS) (v : Nat → Nat) : z_C (zs_Q S v) = z_C S := rfl
theorem zl_D_Q (S : zS) (v : Nat → Nat) : z_D (zs_Q S v) = z_D S := rfl
theorem zl_T_Q (S : zS) (v : Nat → Nat) : z_T (zs_Q S v) = z_T S := rfl
theorem zl_G_Q (S : zS) (v : Nat → Nat) : z_G (zs_Q S v) = z_G S := rfl
theorem zl_B_Q (S : zS) (v : Nat → Nat) : z_B (zs_Q S v) = z_B S := rfl
theorem zl_Q_Q (S : zS) (v : Nat → Nat) : z_Q (zs_Q S v) = v := rfl
theorem zl_qn_Q (S : zS) (v : Nat → Nat) : z_qn (zs_Q S v) = z_qn S := rfl
theorem zl_nc_Q (S : zS) (v : Nat → Nat) : z_nc (zs_Q S v) = z_nc S := rfl
theorem zl_nt_Q (S : zS) (v : Nat → Nat) : z_nt (zs_Q S v) = z_nt S := rfl
theorem zl_li_Q (S : zS) (v : Nat → Nat) : z_li (zs_Q S v) = z_li S := rfl
theorem zl_wi_Q (S : zS) (v : Nat → Nat) : z_wi (zs_Q S v) = z_wi S := rfl
theorem zl_no_Q (S : zS) (v : Nat → Nat) : z_no (zs_Q S v) = z_no S := rfl
theorem zl_bu_Q (S : zS) (v : Nat → Nat) : z_bu (zs_Q S v) = z_bu S := rfl
theorem zl_R_Q (S : zS) (v : Nat → Nat) : z_R (zs_Q S v) = z_R S := rfl
theorem zl_rC_Q (S : zS) (v : Nat → Nat) : z_rC (zs_Q S v) = z_rC S := rfl
theorem zl_rP_Q (S : zS) (v : Nat → Nat) : z_rP (zs_Q S v) = z_rP S := rfl
theorem zl_P_Q (S : zS) (v : Nat → Nat) : z_P (zs_Q S v) = z_P S := rfl
theorem zl_F_Q (S : zS) (v : Nat → Nat) : z_F (zs_Q S v) = z_F S := rfl
theorem zl_U_qn (S : zS) (v : Nat) : z_U (zs_qn S v) = z_U S := rfl
theorem zl_C_qn (S : zS) (v : Nat) : z_C (zs_qn S v) = z_C S := rfl
theorem zl_D_qn (S : zS) (v : Nat) : z_D (zs_qn S v) = z_D S := rfl
theorem zl_T_qn (S : zS) (v : Nat) : z_T (zs_qn S v) = z_T S := rfl
theorem zl_G_qn (S : zS) (v : Nat) : z_G (zs_qn S v) = z_G S := rfl
theorem zl_B_qn (S : zS) (v : Nat) : z_B (zs_qn S v) = z_B S := rfl
theorem zl_Q_qn (S : zS) (v : Nat) : z_Q (zs_qn S v) = z_Q S := rfl
theorem zl_qn_qn (S : zS) (v : Nat) : z_qn (zs_qn S v) = v := rfl
theorem zl_nc_qn (S : zS) (v : Nat) : z_nc (zs_qn S v) = z_nc S := rfl
theorem zl_nt_qn (S : zS) (v : Nat) : z_nt (zs_qn S v) = z_nt S := rfl
theorem zl_li_qn (S : zS) (v : Nat) : z_li (zs_qn S v) = z_li S := rfl
theorem zl_wi_qn (S : zS) (v : Nat) : z_wi (zs_qn S v) = z_wi S := rfl
theorem zl_no_qn (S : zS) (v : Nat) : z_no (zs_qn S v) = z_no S := rfl
theorem zl_bu_qn (S : zS) (v : Nat) : z_bu (zs_qn S v) = z_bu S := rfl
theorem zl_R_qn (S : zS) (v : Nat) : z_R (zs_qn S v) = z_R S := rfl
theorem zl_rC_qn (S : zS) (v : Nat) : z_rC (zs_qn S v) = z_rC S := rfl
theorem zl_rP_qn (S : zS) (v : Nat) : z_rP (zs_qn S v) = z_rP S := rfl
theorem zl_P_qn (S : zS) (v : Nat) : z_P (zs_qn S v) = z_P S := rfl
theorem zl_F_qn (S : zS) (v : Nat) : z_F (zs_qn S v) = z_F S := rfl
theorem zl_U_nc (S : zS) (v : Nat) : z_U (zs_nc S v) = z_U S := rfl
theorem zl_C_nc (S : zS) (v : Nat) : z_C (zs_nc S v) = z_C S := rfl
theorem zl_D_nc (S : zS) (v : Nat) : z_D (zs_nc S v) = z_D S := rfl
theorem zl_T_nc (S : zS) (v : Nat) : z_T (zs_nc S v) = z_T S := rfl
theorem zl_G_nc (S : zS) (v : Nat) : z_G (zs_nc S v) = z_G S := rfl
theorem zl_B_nc (S : zS) (v : Nat) : z_B (zs_nc S v) = z_B S := rfl
theorem zl_Q_nc (S : zS) (v : Nat) : z_Q (zs_nc S v) = z_Q S := rfl
theorem zl_qn_nc (S : zS) (v : Nat) : z_qn (zs_nc S v) = z_qn S := rfl
theorem zl_nc_nc (S : zS) (v : Nat) : z_nc (zs_nc S v) = v := rfl
theorem zl_nt_nc (S : zS) (v : Nat) : z_nt (zs_nc S v) = z_nt S := rfl
theorem zl_li_nc (S : zS) (v : Nat) : z_li (zs_nc S v) = z_li S := rfl
theorem zl_wi_nc (S : zS) (v : Nat) : z_wi (zs_nc S v) = z_wi S := rfl
theorem zl_no_nc (S : zS) (v : Nat) : z_no (zs_nc S v) = z_no S := rfl
theorem zl_bu_nc (S : zS) (v : Nat) : z_bu (zs_nc S v) = z_bu S := rfl
theorem zl_R_nc (S : zS) (v : Nat) : z_R (zs_nc S v) = z_R S := rfl
theorem zl_rC_nc (S : zS) (v : Nat) : z_rC (zs_nc S v) = z_rC S := rfl
theorem zl_rP_nc (S : zS) (v : Nat) : z_rP (zs_nc S v) = z_rP S := rfl
theorem zl_P_nc (S : zS) (v : Nat) : z_P (zs_nc S v) = z_P S := rfl
theorem zl_F_nc (S : zS) (v : Nat) : z_F (zs_nc S v) = z_F S := rfl
theorem zl_U_nt (S : zS) (v : Nat) : z_U (zs_nt S v) = z_U S := rfl
theorem zl_C_nt (S : zS) (v : Nat) : z_C (zs_nt S v) = z_C S := rfl
theorem zl_D_nt (S : zS) (v : Nat) : z_D (zs_nt S v) = z_D S := rfl
theorem zl_T_nt (S : zS) (v : Nat) : z_T (zs_nt S v) = z_T S := rfl
theorem zl_G_nt (S : zS) (v : Nat) : z_G (zs_nt S v) = z_G S := rfl
theorem zl_B_nt (S : zS) (v : Nat) : z_B (zs_nt S v) = z_B S := rfl
theorem zl_Q_nt (S : zS) (v : Nat) : z_Q (zs_nt S v) = z_Q S := rfl
theorem zl_qn_nt (S : zS) (v : Nat) : z_qn (zs_nt S v) = z_qn S := rfl
theorem zl_nc_nt (S : zS) (v : Nat) : z_nc (zs_nt S v) = z_nc S := rfl
theorem zl_nt_nt (S : zS) (v : Nat) : z_nt (zs_nt S v) = v := rfl
theorem zl_li_nt (S : zS) (v : Nat) : z_li (zs_nt S v) = z_li S := rfl
theorem zl_wi_nt (S : zS) (v : Nat) : z_wi (zs_nt S v) = z_wi S := rfl
theorem zl_no_nt (S : zS) (v : Nat) : z_no (zs_nt S v) = z_no S := rfl
theorem zl_bu_nt (S : zS) (v : Nat) : z_bu (zs_nt S v) = z_bu S := rfl
theorem zl_R_nt (S : zS) (v : Nat) : z_R (zs_nt S v) = z_R S := rfl
theorem zl_rC_nt (S : zS) (v : Nat) : z_rC (zs_nt S v) = z_rC S := rfl
theorem zl_rP_nt (S : zS) (v : Nat) : z_rP (zs_nt S v) = z_rP S := rfl
theorem zl_P_nt (S : zS) (v : Nat) : z_P (zs_nt S v) = z_P S := rfl
theorem zl_F_nt (S : zS) (v : Nat) : z_F (zs_nt S v) = z_F S := rfl
theorem zl_U_li (S : zS) (v : Nat) : z_U (zs_li S v) = z_U S := rfl
theorem zl_C_li (S : zS) (v : Nat) : z_C (zs_li S v) = z_C S := rfl
theorem zl_D_li (S : zS) (v : Nat) : z_D (zs_li S v) = z_D S := rfl
theorem zl_T_li (S : zS) (v : Nat) : z_T (zs_li S v) = z_T S := rfl
theorem zl_G_li (S : zS) (v : Nat) : z_G (zs_li S v) = z_G S := rfl
theorem zl_B_li (S : zS) (v : Nat) : z_B (zs_li S v) = z_B S := rfl
theorem zl_Q_li (S : zS) (v : Nat) : z_Q (zs_li S v) = z_Q S := rfl
theorem zl_qn_li (S : zS) (v : Nat) : z_qn (zs_li S v) = z_qn S := rfl
theorem zl_nc_li (S : zS) (v : Nat) : z_nc (zs_li S v) = z_nc S := rfl
theorem zl_nt_li (S : zS) (v : Nat) : z_nt (zs_li S v) = z_nt S := rfl
theorem zl_li_li (S : zS) (v : Nat) : z_li (zs_li S v) = v := rfl
theorem zl_wi_li (S : zS) (v : Nat) : z_wi (zs_li S v) = z_wi S := rfl
theorem zl_no_li (S : zS) (v : Nat) : z_no (zs_li S v) = z_no S := rfl
theorem zl_bu_li (S : zS) (v : Nat) : z_bu (zs_li S v) = z_bu S := rfl
theorem zl_R_li (S : zS) (v : Nat) : z_R (zs_li S v) = z_R S := rfl
theorem zl_rC_li (S : zS) (v : Nat) : z_rC (zs_li S v) = z_rC S := rfl
theorem zl_rP_li (S : zS) (v : Nat) : z_rP (zs_li S v) = z_rP S := rfl
theorem zl_P_li (S : zS) (v : Nat) : z_P (zs_li S v) = z_P S := rfl
theorem zl_F_li (S : zS) (v : Nat) : z_F (zs_li S v) = z_F S := rfl
theorem zl_U_wi (S : zS) (v : Nat) : z_U (zs_wi S v) = z_U S := rfl
theorem zl_C_wi (S : zS) (v : Nat) : z_C (zs_wi S v) = z_C S := rfl
theorem zl_D_wi (S : zS) (v : Nat) : z_D (zs_wi S v) = z_D S := rfl
theorem zl_T_wi (S : zS) (v : Nat) : z_T (zs_wi S v) = z_T S := rfl
theorem zl_G_wi (S : zS) (v : Nat) : z_G (zs_wi S v) = z_G S := rfl
theorem zl_B_wi (S : zS) (v : Nat) : z_B (zs_wi S v) = z_B S := rfl
theorem zl_Q_wi (S : zS) (v : Nat) : z_Q (zs_wi S v) = z_Q S := rfl
theorem zl_qn_wi (S : zS) (v : Nat) : z_qn (zs_wi S v) = z_qn S := rfl
theorem zl_nc_wi (S : zS) (v : Nat) : z_nc (zs_wi S v) = z_nc S := rfl
theorem zl_nt_wi (S : zS) (v : Nat) : z_nt (zs_wi S v) = z_nt S := rfl
theorem zl_li_wi (S : zS) (v : Nat) : z_li (zs_wi S v) = z_li S := rfl
theorem zl_wi_wi (S : zS) (v : Nat) : z_wi (zs_wi S v) = v := rfl
theorem zl_no_wi (S : zS) (v : Nat) : z_no (zs_wi S v) = z_no S := rfl
theorem zl_bu_wi (S : zS) (v : Nat) : z_bu (zs_wi S v) = z_bu S := rfl
theorem zl_R_wi (S : zS) (v : Nat) : z_R (zs_wi S v) = z_R S := rfl
theorem zl_rC_wi (S : zS) (v : Nat) : z_rC (zs_wi S v) = z_rC S := rfl
theorem zl_rP_wi (S : zS) (v : Nat) : z_rP (zs_wi S v) = z_rP S := rfl
theorem zl_P_wi (S : zS) (v : Nat) : z_P (zs_wi S v) = z_P S := rfl
theorem zl_F_wi (S : zS) (v : Nat) : z_F (zs_wi S v) = z_F S := rfl
theorem zl_U_no (S : zS) (v : Nat) : z_U (zs_no S v) = z_U S := rfl
theorem zl_C_no (S : zS) (v : Nat) : z_C (zs_no S v) = z_C S := rfl
theorem zl_D_no (S : zS) (v : Nat) : z_D (zs_no S v) = z_D S := rfl
theorem zl_T_no (S : zS) (v : Nat) : z_T (zs_no S v) = z_T S := rfl
theorem zl_G_no (S : zS) (v : Nat) : z_G (zs_no S v) = z_G S := rfl
theorem zl_B_no (S : zS) (v : Nat) : z_B (zs_no S v) = z_B S := rfl
theorem zl_Q_no (S : zS) (v : Nat) : z_Q (zs_no S v) = z_Q S := rfl
theorem zl_qn_no (S : zS) (v : Nat) : z_qn (zs_no S v) = z_qn S := rfl
theorem zl_nc_no (S : zS) (v : Nat) : z_nc (zs_no S v) = z_nc S := rfl
theorem zl_nt_no (S : zS) (v : Nat) : z_nt (zs_no S v) = z_nt S := rfl
theorem zl_li_no (S : zS) (v : Nat) : z_li (zs_no S v) = z_li S := rfl
theorem zl_wi_no (S : zS) (v : Nat) : z_wi (zs_no S v) = z_wi S := rfl
theorem zl_no_no (S : zS) (v : Nat) : z_no (zs_no S v) = v := rfl
theorem zl_bu_no (S : zS) (v : Nat) : z_bu (zs_no S v) = z_bu S := rfl
theorem zl_R_no (S : zS) (v : Nat) : z_R (zs_no S v) = z_R S := rfl
theorem zl_rC_no (S : zS) (v : Nat) : z_rC (zs_no S v) = z_rC S := rfl
theorem zl_rP_no (S : zS) (v : Nat) : z_rP (zs_no S v) = z_rP S := rfl
theorem zl_P_no (S : zS) (v : Nat) : z_P (zs_no S v) = z_P S := rfl
theorem zl_F_no (S : zS) (v : Nat) : z_F (zs_no S v) = z_F S := rfl
theorem zl_U_bu (S : zS) (v : Nat) : z_U (zs_bu S v) = z_U S := rfl
theorem zl_C_bu (S : zS) (v : Nat) : z_C (zs_bu S v) = z_C S := rfl
theorem zl_D_bu (S : zS) (v : Nat) : z_D (zs_bu S v) = z_D S := rfl
theorem zl_T_bu (S : zS) (v : Nat) : z_T (zs_bu S v) = z_T S := rfl
theorem zl_G_bu (S : zS) (v : Nat) : z_G (zs_bu S v) = z_G S := rfl
theorem zl_B_bu (S : zS) (v : Nat) : z_B (zs_bu S v) = z_B S := rfl
theorem zl_Q_bu (S : zS) (v : Nat) : z_Q (zs_bu S v) = z_Q S := rfl
theorem zl_qn_bu (S : zS) (v : Nat) : z_qn (zs_bu S v) = z_qn S := rfl
theorem zl_nc_bu (S : zS) (v : Nat) : z_nc (zs_bu S v) = z_nc S := rfl
theorem zl_nt_bu (S : zS) (v : Nat) : z_nt (zs_bu S v) = z_nt S := rfl
theorem zl_li_bu (S : zS) (v : Nat) : z_li (zs_bu S v) = z_li S := rfl
theorem zl_wi_bu (S : zS) (v : Nat) : z_wi (zs_bu S v) = z_wi S := rfl
theorem zl_no_bu (S : zS) (v : Nat) : z_no (zs_bu S v) = z_no S := rfl
theorem zl_bu_bu (S : zS) (v : Nat) : z_bu (zs_bu S v) = v := rfl
theorem zl_R_bu (S : zS) (v : Nat) : z_R (zs_bu S v) = z_R S := rfl
theorem zl_rC_bu (S : zS) (v : Nat) : z_rC (zs_bu S v) = z_rC S := rfl
theorem zl_rP_bu (S : zS) (v : Nat) : z_rP (zs_bu S v) = z_rP S := rfl
theorem zl_P_bu (S : zS) (v : Nat) : z_P (zs_bu S v) = z_P S := rfl
theorem zl_F_bu (S : zS) (v : Nat) : z_F (zs_bu S v) = z_F S := rfl
theorem zl_U_R (S : zS) (v : Nat → Nat) : z_U (zs_R S v) = z_U S := rfl
theorem zl_C_R (S : zS) (v : Nat → Nat) : z_C (zs_R S v) = z_C S := rfl
theorem zl_D_R (S : zS) (v : Nat → Nat) : z_D (zs_R S v) = z_D S := rfl
theorem zl_T_R (S : zS) (v : Nat → Nat) : z_T (zs_R S v) = z_T S := rfl
theorem zl_G_R (S : zS) (v : Nat → Nat) : z_G (zs_R S v) = z_G S := rfl
theorem zl_B_R (S : zS) (v : Nat → Nat) : z_B (zs_R S v) = z_B S := rfl
theorem zl_Q_R (S : zS) (v : Nat → Nat) : z_Q (zs_R S v) = z_Q S := rfl
theorem zl_qn_R (S : zS) (v : Nat → Nat) : z_qn (zs_R S v) = z_qn S := rfl
theorem zl_nc_R (S : zS) (v : Nat → Nat) : z_nc (zs_R S v) = z_nc S := rfl
theorem zl_nt_R (S : zS) (v : Nat → Nat) : z_nt (zs_R S v) = z_nt S := rfl
theorem zl_li_R (S : zS) (v : Nat → Nat) : z_li (zs_R S v) = z_li S := rfl
theorem zl_wi_R (S : zS) (v : Nat → Nat) : z_wi (zs_R S v) = z_wi S := rfl
theorem zl_no_R (S : zS) (v : Nat → Nat) : z_no (zs_R S v) = z_no S := rfl
theorem zl_bu_R (S : zS) (v : Nat → Nat) : z_bu (zs_R S v) = z_bu S := rfl
theorem zl_R_R (S : zS) (v : Nat → Nat) : z_R (zs_R S v) = v := rfl
theorem zl_rC_R (S : zS) (v : Nat → Nat) : z_rC (zs_R S v) = z_rC S := rfl
theorem zl_rP_R (S : zS) (v : Nat → Nat) : z_rP (zs_R S v) = z_rP S := rfl
theorem zl_P_R (S : zS) (v : Nat → Nat) : z_P (zs_R S v) = z_P S := rfl
theorem zl_F_R (S : zS) (v : Nat → Nat) : z_F (zs_R S v) = z_F S := rfl
theorem zl_U_rC (S : zS) (v : Nat → Nat → Nat) : z_U (zs_rC S v) = z_U S := rfl
theorem zl_C_rC (S : zS) (v : Nat → Nat → Nat) : z_C (zs_rC S v) = z_C S := rfl
theorem zl_D_rC (S : zS) (v : Nat → Nat → Nat) : z_D (zs_rC S v) = z_D S := rfl
theorem zl_T_rC (S : zS) (v : Nat → Nat → Nat) : z_T (zs_rC S v) = z_T S := rfl
theorem zl_G_rC (S : zS) (v : Nat → Nat → Nat) : z_G (zs_rC S v) = z_G S := rfl
theorem zl_B_rC (S : zS) (v : Nat → Nat → Nat) : z_B (zs_rC S v) = z_B S := rfl
theorem zl_Q_rC (S : zS) (v : Nat → Nat → Nat) : z_Q (zs_rC S v) = z_Q S := rfl
theorem zl_qn_rC (S : zS) (v : Nat → Nat → Nat) : z_qn (zs_rC S v) = z_qn S := rfl
theorem zl_nc_rC (S : zS) (v : Nat → Nat → Nat) : z_nc (zs_rC S v) = z_nc S := rfl
theorem zl_nt_rC (S : zS) (v : Nat → Nat → Nat) : z_nt (zs_rC S v) = z_nt S := rfl
theorem zl_li_rC (S : zS) (v : Nat → Nat → Nat) : z_li (zs_rC S v) = z_li S := rfl
theorem zl_wi_rC (S : zS) (v : Nat → Nat → Nat) : z_wi (zs_rC S v) = z_wi S := rfl
theorem zl_no_rC (S : zS) (v : Nat → Nat → Nat) : z_no (zs_rC S v) = z_no S := rfl
theorem zl_bu_rC (S : zS) (v : Nat → Nat → Nat) : z_bu (zs_rC S v) = z_bu S := rfl
theorem zl_R_rC (S : zS) (v : Nat → Nat → Nat) : z_R (zs_rC S v) = z_R S := rfl
theorem zl_rC_rC (S : zS) (v : Nat → Nat → Nat) : z_rC (zs_rC S v) = v := rfl
theorem zl_rP_rC (S : zS) (v : Nat → Nat → Nat) : z_rP (zs_rC S v) = z_rP S := rfl
theorem zl_P_rC (S : zS) (v : Nat → Nat → Nat) : z_P (zs_rC S v) = z_P S := rfl
theorem zl_F_rC (S : zS) (v : Nat → Nat → Nat) : z_F (zs_rC S v) = z_F S := rfl
theorem zl_U_rP (S : zS) (v : Nat → Nat → Nat) : z_U (zs_rP S v) = z_U S := rfl
theorem zl_C_rP (S : zS) (v : Nat → Nat → Nat) : z_C (zs_rP S v) = z_C S := rfl
theorem zl_D_rP (S : zS) (v : Nat → Nat → Nat) : z_D (zs_rP S v) = z_D S := rfl
theorem zl_T_rP (S : zS) (v : Nat → Nat → Nat) : z_T (zs_rP S v) = z_T S := rfl
theorem zl_G_rP (S : zS) (v : Nat → Nat → Nat) : z_G (zs_rP S v) = z_G S := rfl
theorem zl_B_rP (S : zS) (v : Nat → Nat → Nat) : z_B (zs_rP S v) = z_B S := rfl
theorem zl_Q_rP (S : zS) (v : Nat → Nat → Nat) : z_Q (zs_rP S v) = z_Q S := rfl
theorem zl_qn_rP (S : zS) (v : Nat → Nat → Nat) : z_qn (zs_rP S v) = z_qn S := rfl
theorem zl_nc_rP (S : zS) (v : Nat → Nat → Nat) : z_nc (zs_rP S v) = z_nc S := rfl
theorem zl_nt_rP (S : zS) (v : Nat → Nat → Nat) : z_nt (zs_rP S v) = z_nt S := rfl
theorem zl_li_rP (S : zS) (v : Nat → Nat → Nat) : z_li (zs_rP S v) = z_li S := rfl
theorem zl_wi_rP (S : zS) (v : Nat → Nat → Nat) : z_wi (zs_rP S v) = z_wi S := rfl
theorem zl_no_rP (S : zS) (v : Nat → Nat → Nat) : z_no (zs_rP S v) = z_no S := rfl
theorem zl_bu_rP (S : zS) (v : Nat → Nat → Nat) : z_bu (zs_rP S v) = z_bu S := rfl
theorem zl_R_rP (S : zS) (v : Nat → Nat → Nat) : z_R (zs_rP S v) = z_R S := rfl
theorem zl_rC_rP (S : zS) (v : Nat → Nat → Nat) : z_rC (zs_rP S v) = z_rC S := rfl
theorem zl_rP_rP (S : zS) (v : Nat → Nat → Nat) : z_rP (zs_rP S v) = v := rfl
theorem zl_P_rP (S : zS) (v : Nat → Nat → Nat) : z_P (zs_rP S v) = z_P S := rfl
theorem zl_F_rP (S : zS) (v : Nat → Nat → Nat) : z_F (zs_rP S v) = z_F S := rfl
theorem zl_U_P (S : zS) (v : Nat → Nat → Nat) : z_U (zs_P S v) = z_U S := rfl
theorem zl_C_P (S : zS) (v : Nat → Nat → Nat) : z_C (zs_P S v) = z_C S := rfl
theorem zl_D_P (S : zS) (v : Nat → Nat → Nat) : z_D (zs_P S v) = z_D S := rfl
theorem zl_T_P (S : zS) (v : Nat → Nat → Nat) : z_T (zs_P S v) = z_T S := rfl
theorem zl_G_P (S : zS) (v : Nat → Nat → Nat) : z_G (zs_P S v) = z_G S := rfl
theorem zl_B_P (S : zS) (v : Nat → Nat → Nat) : z_B (zs_P S v) = z_B S := rfl
theorem zl_Q_P (S : zS) (v : Nat → Nat → Nat) : z_Q (zs_P S v) = z_Q S := rfl
theorem zl_qn_P (S : zS) (v : Nat → Nat → Nat) : z_qn (zs_P S v) = z_qn S := rfl
theorem zl_nc_P (S : zS) (v : Nat → Nat → Nat) : z_nc (zs_P S v) = z_nc S := rfl
theorem zl_nt_P (S : zS) (v : Nat → Nat → Nat) : z_nt (zs_P S v) = z_nt S := rfl
theorem zl_li_P (S : zS) (v : Nat → Nat → Nat) : z_li (zs_P S v) = z_li S := rfl
theorem zl_wi_P (S : zS) (v : Nat → Nat → Nat) : z_wi (zs_P S v) = z_wi S := rfl
theorem zl_no_P (S : zS) (v : Nat → Nat → Nat) : z_no (zs_P S v) = z_no S := rfl
theorem zl_bu_P (S : zS) (v : Nat → Nat → Nat) : z_bu (zs_P S v) = z_bu S := rfl
theorem zl_R_P (S : zS) (v : Nat → Nat → Nat) : z_R (zs_P S v) = z_R S := rfl
theorem zl_rC_P (S : zS) (v : Nat → Nat → Nat) : z_rC (zs_P S v) = z_rC S := rfl
theorem zl_rP_P (S : zS) (v : Nat → Nat → Nat) : z_rP (zs_P S v) = z_rP S := rfl
theorem zl_P_P (S : zS) (v : Nat → Nat → Nat) : z_P (zs_P S v) = v := rfl
theorem zl_F_P (S : zS) (v : Nat → Nat → Nat) : z_F (zs_P S v) = z_F S := rfl
theorem zl_U_F (S : zS) (v : Nat → Nat → Nat) : z_U (zs_F S v) = z_U S := rfl
theorem zl_C_F (S : zS) (v : Nat → Nat → Nat) : z_C (zs_F S v) = z_C S := rfl
theorem zl_D_F (S : zS) (v : Nat → Nat → Nat) : z_D (zs_F S v) = z_D S := rfl
theorem zl_T_F (S : zS) (v : Nat → Nat → Nat) : z_T (zs_F S v) = z_T S := rfl
theorem zl_G_F (S : zS) (v : Nat → Nat → Nat) : z_G (zs_F S v) = z_G S := rfl
theorem zl_B_F (S : zS) (v : Nat → Nat → Nat) : z_B (zs_F S v) = z_B S := rfl
theorem zl_Q_F (S : zS) (v : Nat → Nat → Nat) : z_Q (zs_F S v) = z_Q S := rfl
theorem zl_qn_F (S : zS) (v : Nat → Nat → Nat) : z_qn (zs_F S v) = z_qn S := rfl
theorem zl_nc_F (S : zS) (v : Nat → Nat → Nat) : z_nc (zs_F S v) = z_nc S := rfl
theorem zl_nt_F (S : zS) (v : Nat → Nat → Nat) : z_nt (zs_F S v) = z_nt S := rfl
theorem zl_li_F (S : zS) (v : Nat → Nat → Nat) : z_li (zs_F S v) = z_li S := rfl
theorem zl_wi_F (S : zS) (v : Nat → Nat → Nat) : z_wi (zs_F S v) = z_wi S := rfl
theorem zl_no_F (S : zS) (v : Nat → Nat → Nat) : z_no (zs_F S v) = z_no S := rfl
theorem zl_bu_F (S : zS) (v : Nat → Nat → Nat) : z_bu (zs_F S v) = z_bu S := rfl
theorem zl_R_F (S : zS) (v : Nat → Nat → Nat) : z_R (zs_F S v) = z_R S := rfl
theorem zl_rC_F (S : zS) (v : Nat → Nat → Nat) : z_rC (zs_F S v) = z_rC S := rfl
theorem zl_rP_F (S : zS) (v : Nat → Nat → Nat) : z_rP (zs_F S v) = z_rP S := rfl
theorem zl_P_F (S : zS) (v : Nat → Nat → Nat) : z_P (zs_F S v) = z_P S := rfl
theorem zl_F_F (S : zS) (v : Nat → Nat → Nat) : z_F (zs_F S v) = v := rfl
/-! ===== sums, counts, masks ===== -/
def sm (f : Nat → Nat) : Nat → Nat
  | 0 => 0
  | n + 1 => sm f n + f n
def b1 (b : Bool) : Nat := if b then 1 else 0
def ct (p : Nat → Bool) (n : Nat) : Nat := sm (fun i => b1 (p i)) n
def msk (p : Nat → Bool) : Nat → Nat
  | 0 => 0
  | n + 1 => msk p n ||| (if p n then 2 ^ n else 0)
/-- the place of t among the first n of Q, from 1 on; 0: none -/
def plc (Q : Nat → Nat) : Nat → Nat → Nat
  | 0, _ => 0
  | n + 1, t => if Q n = t then n + 1 else plc Q n t
/-- a round over the parts: those of m and those that these use (of the first n) -/
def stp (U : Nat → Nat) (m : Nat) : Nat → Nat
  | 0 => m
  | n + 1 => if m.testBit n then stp U m n ||| U n else stp U m n
def rch (U : Nat → Nat) (m : Nat) : Nat → Nat
  | 0 => m
  | n + 1 => stp U (rch U m n) 16
def up2 (f : Nat → Nat → Nat) (a b v : Nat) : Nat → Nat → Nat := fun i j => if i = a then (if j = b then v else f i j) else f i j
/-! ===== the class's cells ===== -/
def zrows (cI : ClassId) (a : Nat → Nat) (b n : Nat) (f : Nat → Nat → Nat) : va_W := (List.range 12).map (fun t => (a (b + t), .inl (cI, n, .inl (fun j => nI (f t j)))))
def zout (a : Nat → Nat) (b : Nat) : Nat → Option Nat := fun i => if i < 12 then some (a (b + i)) else none
def wX1 (cI cZ cQ : ClassId) (a : Nat → Nat) (S : zS) : va_W :=
  [(a 0, .inr (1, [.ref (a 1), .ref (a 2), .ref (a 3), .ref (a 4), .ref (a 5), .ref (a 6), .ref (a 7), .ref (a 8), .int (nI (z_qn S)), .int (nI (z_nc S)), .int (nI (z_nt S)), .int (nI (z_li S)), .int (nI (z_wi S)), .int (nI (z_no S)), .int (nI (z_bu S))])),
   (a 1, .inl (cI, 16, .inl (fun j => nI (z_U S j)))),
   (a 2, .inl (cI, 40, .inl (fun j => nI (z_C S j)))),
   (a 3, .inl (cI, 12, .inl (fun j => nI (z_D S j)))),
   (a 4, .inr (0, [.ref (a 9), .ref (a 10), .ref (a 11), .ref (a 12), .ref (a 13)])),
   (a 5, .inl (cZ, 12, .inl (fun j => bI (z_T S j)))),
   (a 6, .inl (cI, 12, .inl (fun j => nI (z_G S j)))),
   (a 7, .inl (cI, 12, .inl (fun j => nI (z_B S j)))),
   (a 8, .inl (cI, 12, .inl (fun j => nI (plc (z_Q S) (z_qn S) j)))),
   (a 9, .inl (cI, 12, .inl (fun j => nI (z_R S j)))),
   (a 10, .inl (cQ, 12, .inr (.inr (.inr (.inr (zout a 20)))))),
   (a 11, .inl (cQ, 12, .inr (.inr (.inr (.inr (zout a 40)))))),
   (a 12, .inl (cQ, 12, .inr (.inr (.inr (.inr (zout a 60)))))),
   (a 13, .inl (cQ, 12, .inr (.inr (.inr (.inr (zout a 80))))))]
def wX2 (cI : ClassId) (a : Nat → Nat) (S : zS) : va_W := zrows cI a 20 200 (z_rC S) ++ (zrows cI a 40 200 (z_rP S) ++ (zrows cI a 60 40 (z_P S) ++ zrows cI a 80 40 (z_F S)))
def wX (cI cZ cQ : ClassId) (a : Nat → Nat) (S : zS) : va_W := wX1 cI cZ cQ a S ++ wX2 cI a S
abbrev wTy (cI cZ cQ _cJ : ClassId) : List (ClassId × FieldType) := [(cI, .int), (cZ, .boolean), (cQ, .array .int)]
/-! ===== the model's cells ===== -/
def zgood (S : zS) : Nat → Int32 := fun j => if z_T S j then nI (z_G S j) else -1
def wM (cI : ClassId) (b : Nat → Nat) (S : zS) (th : Nat) : va_W :=
  [(b 0, .inr (2, [.int (nI (z_nc S)), .int (nI (z_nt S)), .int (nI (z_li S)), .int (nI (z_wi S)), .int (nI (z_no S)), .int (nI (z_bu S)), .ref (b 1), .ref (b 2), .ref (b 3), .ref (b 4), .ref (b 5), .ref (b 6), .ref (b 7), .ref (b 8), .int (nI (z_qn S)), .int (nI th)])),
   (b 1, .inl (cI, 16, .inl (fun j => nI (z_U S j)))),
   (b 2, .inl (cI, 40, .inl (fun j => nI (z_C S j)))),
   (b 3, .inl (cI, 12, .inl (fun j => nI (z_D S j)))),
   (b 4, .inl (cI, 480, .inl (fun j => nI (z_P S (j / 40) (j % 40))))),
   (b 5, .inl (cI, 480, .inl (fun j => nI (z_F S (j / 40) (j % 40))))),
   (b 6, .inl (cI, 12, .inl (zgood S))),
   (b 7, .inl (cI, 12, .inl (fun j => nI (z_B S j)))),
   (b 8, .inl (cI, 12, .inl (fun j => nI (z_Q S j))))]
/-! ===== what holds of every state that is reached ===== -/
def hit (S : zS) (t c v : Nat) : Nat → Bool := fun r => decide (z_rC S t r = c ∧ z_rP S t r = v)
def zOK (S : zS) : Prop :=
  (z_nc S ≤ 40 ∧ z_nt S ≤ 12 ∧ 1 ≤ z_li S ∧ z_li S ≤ 10 ∧ 1 ≤ z_wi S ∧ z_wi S ≤ 40 ∧ z_no S ≤ 20 ∧ z_bu S ≤ 100) ∧
  (∀ j, z_U S j < 65536 ∧ z_C S j < 65536 ∧ z_D S j < 65536) ∧
  (∀ t, z_T S t = true → t < z_nt S ∧ z_G S t < z_B S t ∧ z_B S t < z_nc S) ∧
  ((∀ k, k < z_qn S → z_T S (z_Q S k) = true) ∧ (∀ i j, i < z_qn S → j < z_qn S → z_Q S i = z_Q S j → i = j)) ∧
  (∀ t, z_R S t ≤ 200 ∧ (∀ r, r < z_R S t → z_rC S t r < 40 ∧ z_rP S t r ≤ 1)) ∧
  (∀ t c, z_P S t c = ct (hit S t c 1) (z_R S t) ∧ z_F S t c = ct (hit S t c 0) (z_R S t))
