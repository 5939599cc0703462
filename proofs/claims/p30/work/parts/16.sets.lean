/-! ===== what a store makes of a world ===== -/
section SETS
variable {cI cZ cQ : ClassId} {a b : Nat → Nat} {S : zS} {th : Nat}
theorem wX_f_nc (v : Nat) : (wX cI cZ cQ a S).set 0 (a 0, .inr (1, [.ref (a 1), .ref (a 2), .ref (a 3), .ref (a 4), .ref (a 5), .ref (a 6), .ref (a 7), .ref (a 8), .int (nI (z_qn S)), .int (nI v), .int (nI (z_nt S)), .int (nI (z_li S)), .int (nI (z_wi S)), .int (nI (z_no S)), .int (nI (z_bu S))])) = wX cI cZ cQ a (zs_nc S v) := by
  have e2 : wX2 cI a (zs_nc S v) = wX2 cI a S := by
    unfold wX2
    rw [zl_rC_nc, zl_rP_nc, zl_P_nc, zl_F_nc]
  show (wX1 cI cZ cQ a S).set 0 (a 0, .inr (1, [.ref (a 1), .ref (a 2), .ref (a 3), .ref (a 4), .ref (a 5), .ref (a 6), .ref (a 7), .ref (a 8), .int (nI (z_qn S)), .int (nI v), .int (nI (z_nt S)), .int (nI (z_li S)), .int (nI (z_wi S)), .int (nI (z_no S)), .int (nI (z_bu S))])) ++ wX2 cI a S = wX1 cI cZ cQ a (zs_nc S v) ++ wX2 cI a (zs_nc S v)
  rw [e2]
  congr 1
theorem wX_f_nt (v : Nat) : (wX cI cZ cQ a S).set 0 (a 0, .inr (1, [.ref (a 1), .ref (a 2), .ref (a 3), .ref (a 4), .ref (a 5), .ref (a 6), .ref (a 7), .ref (a 8), .int (nI (z_qn S)), .int (nI (z_nc S)), .int (nI v), .int (nI (z_li S)), .int (nI (z_wi S)), .int (nI (z_no S)), .int (nI (z_bu S))])) = wX cI cZ cQ a (zs_nt S v) := by
  have e2 : wX2 cI a (zs_nt S v) = wX2 cI a S := by
    unfold wX2
    rw [zl_rC_nt, zl_rP_nt, zl_P_nt, zl_F_nt]
  show (wX1 cI cZ cQ a S).set 0 (a 0, .inr (1, [.ref (a 1), .ref (a 2), .ref (a 3), .ref (a 4), .ref (a 5), .ref (a 6), .ref (a 7), .ref (a 8), .int (nI (z_qn S)), .int (nI (z_nc S)), .int (nI v), .int (nI (z_li S)), .int (nI (z_wi S)), .int (nI (z_no S)), .int (nI (z_bu S))])) ++ wX2 cI a S = wX1 cI cZ cQ a (zs_nt S v) ++ wX2 cI a (zs_nt S v)
  rw [e2]
  congr 1
theorem wX_f_li (v : Nat) : (wX cI cZ cQ a S).set 0 (a 0, .inr (1, [.ref (a 1), .ref (a 2), .ref (a 3), .ref (a 4), .ref (a 5), .ref (a 6), .ref (a 7), .ref (a 8), .int (nI (z_qn S)), .int (nI (z_nc S)), .int (nI (z_nt S)), .int (nI v), .int (nI (z_wi S)), .int (nI (z_no S)), .int (nI (z_bu S))])) = wX cI cZ cQ a (zs_li S v) := by
  have e2 : wX2 cI a (zs_li S v) = wX2 cI a S := by
    unfold wX2
    rw [zl_rC_li, zl_rP_li, zl_P_li, zl_F_li]
  show (wX1 cI cZ cQ a S).set 0 (a 0, .inr (1, [.ref (a 1), .ref (a 2), .ref (a 3), .ref (a 4), .ref (a 5), .ref (a 6), .ref (a 7), .ref (a 8), .int (nI (z_qn S)), .int (nI (z_nc S)), .int (nI (z_nt S)), .int (nI v), .int (nI (z_wi S)), .int (nI (z_no S)), .int (nI (z_bu S))])) ++ wX2 cI a S = wX1 cI cZ cQ a (zs_li S v) ++ wX2 cI a (zs_li S v)
  rw [e2]
  congr 1
theorem wX_f_wi (v : Nat) : (wX cI cZ cQ a S).set 0 (a 0, .inr (1, [.ref (a 1), .ref (a 2), .ref (a 3), .ref (a 4), .ref (a 5), .ref (a 6), .ref (a 7), .ref (a 8), .int (nI (z_qn S)), .int (nI (z_nc S)), .int (nI (z_nt S)), .int (nI (z_li S)), .int (nI v), .int (nI (z_no S)), .int (nI (z_bu S))])) = wX cI cZ cQ a (zs_wi S v) := by
  have e2 : wX2 cI a (zs_wi S v) = wX2 cI a S := by
    unfold wX2
    rw [zl_rC_wi, zl_rP_wi, zl_P_wi, zl_F_wi]
  show (wX1 cI cZ cQ a S).set 0 (a 0, .inr (1, [.ref (a 1), .ref (a 2), .ref (a 3), .ref (a 4), .ref (a 5), .ref (a 6), .ref (a 7), .ref (a 8), .int (nI (z_qn S)), .int (nI (z_nc S)), .int (nI (z_nt S)), .int (nI (z_li S)), .int (nI v), .int (nI (z_no S)), .int (nI (z_bu S))])) ++ wX2 cI a S = wX1 cI cZ cQ a (zs_wi S v) ++ wX2 cI a (zs_wi S v)
  rw [e2]
  congr 1
theorem wX_f_no (v : Nat) : (wX cI cZ cQ a S).set 0 (a 0, .inr (1, [.ref (a 1), .ref (a 2), .ref (a 3), .ref (a 4), .ref (a 5), .ref (a 6), .ref (a 7), .ref (a 8), .int (nI (z_qn S)), .int (nI (z_nc S)), .int (nI (z_nt S)), .int (nI (z_li S)), .int (nI (z_wi S)), .int (nI v), .int (nI (z_bu S))])) = wX cI cZ cQ a (zs_no S v) := by
  have e2 : wX2 cI a (zs_no S v) = wX2 cI a S := by
    unfold wX2
    rw [zl_rC_no, zl_rP_no, zl_P_no, zl_F_no]
  show (wX1 cI cZ cQ a S).set 0 (a 0, .inr (1, [.ref (a 1), .ref (a 2), .ref (a 3), .ref (a 4), .ref (a 5), .ref (a 6), .ref (a 7), .ref (a 8), .int (nI (z_qn S)), .int (nI (z_nc S)), .int (nI (z_nt S)), .int (nI (z_li S)), .int (nI (z_wi S)), .int (nI v), .int (nI (z_bu S))])) ++ wX2 cI a S = wX1 cI cZ cQ a (zs_no S v) ++ wX2 cI a (zs_no S v)
  rw [e2]
  congr 1
theorem wX_f_bu (v : Nat) : (wX cI cZ cQ a S).set 0 (a 0, .inr (1, [.ref (a 1), .ref (a 2), .ref (a 3), .ref (a 4), .ref (a 5), .ref (a 6), .ref (a 7), .ref (a 8), .int (nI (z_qn S)), .int (nI (z_nc S)), .int (nI (z_nt S)), .int (nI (z_li S)), .int (nI (z_wi S)), .int (nI (z_no S)), .int (nI v)])) = wX cI cZ cQ a (zs_bu S v) := by
  have e2 : wX2 cI a (zs_bu S v) = wX2 cI a S := by
    unfold wX2
    rw [zl_rC_bu, zl_rP_bu, zl_P_bu, zl_F_bu]
  show (wX1 cI cZ cQ a S).set 0 (a 0, .inr (1, [.ref (a 1), .ref (a 2), .ref (a 3), .ref (a 4), .ref (a 5), .ref (a 6), .ref (a 7), .ref (a 8), .int (nI (z_qn S)), .int (nI (z_nc S)), .int (nI (z_nt S)), .int (nI (z_li S)), .int (nI (z_wi S)), .int (nI (z_no S)), .int (nI v)])) ++ wX2 cI a S = wX1 cI cZ cQ a (zs_bu S v) ++ wX2 cI a (zs_bu S v)
  rw [e2]
  congr 1
theorem wX_a_U (i v : Nat) : (wX cI cZ cQ a S).set 1 (a 1, .inl (cI, 16, .inl (upd (fun j => nI (z_U S j)) i (nI v)))) = wX cI cZ cQ a (zs_U S (va_up (z_U S) i v)) := by
  have e2 : wX2 cI a (zs_U S (va_up (z_U S) i v)) = wX2 cI a S := by
    unfold wX2
    rw [zl_rC_U, zl_rP_U, zl_P_U, zl_F_U]
  show (wX1 cI cZ cQ a S).set 1 (a 1, .inl (cI, 16, .inl (upd (fun j => nI (z_U S j)) i (nI v)))) ++ wX2 cI a S = wX1 cI cZ cQ a (zs_U S (va_up (z_U S) i v)) ++ wX2 cI a (zs_U S (va_up (z_U S) i v))
  rw [e2, up_nI]
  congr 1
theorem wX_a_C (i v : Nat) : (wX cI cZ cQ a S).set 2 (a 2, .inl (cI, 40, .inl (upd (fun j => nI (z_C S j)) i (nI v)))) = wX cI cZ cQ a (zs_C S (va_up (z_C S) i v)) := by
  have e2 : wX2 cI a (zs_C S (va_up (z_C S) i v)) = wX2 cI a S := by
    unfold wX2
    rw [zl_rC_C, zl_rP_C, zl_P_C, zl_F_C]
  show (wX1 cI cZ cQ a S).set 2 (a 2, .inl (cI, 40, .inl (upd (fun j => nI (z_C S j)) i (nI v)))) ++ wX2 cI a S = wX1 cI cZ cQ a (zs_C S (va_up (z_C S) i v)) ++ wX2 cI a (zs_C S (va_up (z_C S) i v))
  rw [e2, up_nI]
  congr 1
theorem wX_a_D (i v : Nat) : (wX cI cZ cQ a S).set 3 (a 3, .inl (cI, 12, .inl (upd (fun j => nI (z_D S j)) i (nI v)))) = wX cI cZ cQ a (zs_D S (va_up (z_D S) i v)) := by
  have e2 : wX2 cI a (zs_D S (va_up (z_D S) i v)) = wX2 cI a S := by
    unfold wX2
    rw [zl_rC_D, zl_rP_D, zl_P_D, zl_F_D]
  show (wX1 cI cZ cQ a S).set 3 (a 3, .inl (cI, 12, .inl (upd (fun j => nI (z_D S j)) i (nI v)))) ++ wX2 cI a S = wX1 cI cZ cQ a (zs_D S (va_up (z_D S) i v)) ++ wX2 cI a (zs_D S (va_up (z_D S) i v))
  rw [e2, up_nI]
  congr 1
theorem wX_a_G (i v : Nat) : (wX cI cZ cQ a S).set 6 (a 6, .inl (cI, 12, .inl (upd (fun j => nI (z_G S j)) i (nI v)))) = wX cI cZ cQ a (zs_G S (va_up (z_G S) i v)) := by
  have e2 : wX2 cI a (zs_G S (va_up (z_G S) i v)) = wX2 cI a S := by
    unfold wX2
    rw [zl_rC_G, zl_rP_G, zl_P_G, zl_F_G]
  show (wX1 cI cZ cQ a S).set 6 (a 6, .inl (cI, 12, .inl (upd (fun j => nI (z_G S j)) i (nI v)))) ++ wX2 cI a S = wX1 cI cZ cQ a (zs_G S (va_up (z_G S) i v)) ++ wX2 cI a (zs_G S (va_up (z_G S) i v))
  rw [e2, up_nI]
  congr 1
theorem wX_a_B (i v : Nat) : (wX cI cZ cQ a S).set 7 (a 7, .inl (cI, 12, .inl (upd (fun j => nI (z_B S j)) i (nI v)))) = wX cI cZ cQ a (zs_B S (va_up (z_B S) i v)) := by
  have e2 : wX2 cI a (zs_B S (va_up (z_B S) i v)) = wX2 cI a S := by
    unfold wX2
    rw [zl_rC_B, zl_rP_B, zl_P_B, zl_F_B]
  show (wX1 cI cZ cQ a S).set 7 (a 7, .inl (cI, 12, .inl (upd (fun j => nI (z_B S j)) i (nI v)))) ++ wX2 cI a S = wX1 cI cZ cQ a (zs_B S (va_up (z_B S) i v)) ++ wX2 cI a (zs_B S (va_up (z_B S) i v))
  rw [e2, up_nI]
  congr 1
theorem wX_a_R (i v : Nat) : (wX cI cZ cQ a S).set 9 (a 9, .inl (cI, 12, .inl (upd (fun j => nI (z_R S j)) i (nI v)))) = wX cI cZ cQ a (zs_R S (va_up (z_R S) i v)) := by
  have e2 : wX2 cI a (zs_R S (va_up (z_R S) i v)) = wX2 cI a S := by
    unfold wX2
    rw [zl_rC_R, zl_rP_R, zl_P_R, zl_F_R]
  show (wX1 cI cZ cQ a S).set 9 (a 9, .inl (cI, 12, .inl (upd (fun j => nI (z_R S j)) i (nI v)))) ++ wX2 cI a S = wX1 cI cZ cQ a (zs_R S (va_up (z_R S) i v)) ++ wX2 cI a (zs_R S (va_up (z_R S) i v))
  rw [e2, up_nI]
  congr 1
theorem wX_a_T (i : Nat) (v : Bool) : (wX cI cZ cQ a S).set 5 (a 5, .inl (cZ, 12, .inl (upd (fun j => bI (z_T S j)) i (bI v)))) = wX cI cZ cQ a (zs_T S (va_up (z_T S) i v)) := by
  have e2 : wX2 cI a (zs_T S (va_up (z_T S) i v)) = wX2 cI a S := by
    unfold wX2
    rw [zl_rC_T, zl_rP_T, zl_P_T, zl_F_T]
  show (wX1 cI cZ cQ a S).set 5 (a 5, .inl (cZ, 12, .inl (upd (fun j => bI (z_T S j)) i (bI v)))) ++ wX2 cI a S = wX1 cI cZ cQ a (zs_T S (va_up (z_T S) i v)) ++ wX2 cI a (zs_T S (va_up (z_T S) i v))
  rw [e2, up_bI]
  congr 1
/-- the class's cells with the places pl -/
def wXp (cI cZ cQ : ClassId) (a : Nat → Nat) (S : zS) (pl : Nat → Nat) : va_W := (wX cI cZ cQ a S).set 8 (a 8, .inl (cI, 12, .inl (fun j => nI (pl j))))
theorem wXp_of {pl9 : Nat → Nat} (h : ∀ j, plc (z_Q S) (z_qn S) j = pl9 j) : wXp cI cZ cQ a S pl9 = wX cI cZ cQ a S := by
  have e : pl9 = fun j => plc (z_Q S) (z_qn S) j := funext fun j => (h j).symm
  rw [e]
  rfl
theorem wXp_qn {pl : Nat → Nat} (v : Nat) : (wXp cI cZ cQ a S pl).set 0 (a 0, .inr (1, [.ref (a 1), .ref (a 2), .ref (a 3), .ref (a 4), .ref (a 5), .ref (a 6), .ref (a 7), .ref (a 8), .int (nI v), .int (nI (z_nc S)), .int (nI (z_nt S)), .int (nI (z_li S)), .int (nI (z_wi S)), .int (nI (z_no S)), .int (nI (z_bu S))])) = wXp cI cZ cQ a (zs_qn S v) pl := by
  have e2 : wX2 cI a (zs_qn S v) = wX2 cI a S := by
    unfold wX2
    rw [zl_rC_qn, zl_rP_qn, zl_P_qn, zl_F_qn]
  unfold wXp
  show (((wX1 cI cZ cQ a S).set 8 (a 8, .inl (cI, 12, .inl (fun j => nI (pl j))))).set 0 (a 0, .inr (1, [.ref (a 1), .ref (a 2), .ref (a 3), .ref (a 4), .ref (a 5), .ref (a 6), .ref (a 7), .ref (a 8), .int (nI v), .int (nI (z_nc S)), .int (nI (z_nt S)), .int (nI (z_li S)), .int (nI (z_wi S)), .int (nI (z_no S)), .int (nI (z_bu S))]))) ++ wX2 cI a S = (wX1 cI cZ cQ a (zs_qn S v)).set 8 (a 8, .inl (cI, 12, .inl (fun j => nI (pl j)))) ++ wX2 cI a (zs_qn S v)
  rw [e2]
  congr 1
theorem wXp_pl {pl : Nat → Nat} (i v : Nat) : (wXp cI cZ cQ a S pl).set 8 (a 8, .inl (cI, 12, .inl (upd (fun j => nI (pl j)) i (nI v)))) = wXp cI cZ cQ a S (va_up pl i v) := by
  rw [up_nI]
  rfl
theorem wXp_self : wX cI cZ cQ a S = wXp cI cZ cQ a S (fun j => plc (z_Q S) (z_qn S) j) := rfl
theorem wX2_Q (f : Nat → Nat) : wX2 cI a (zs_Q S f) = wX2 cI a S := by
  unfold wX2
  rw [zl_rC_Q, zl_rP_Q, zl_P_Q, zl_F_Q]
theorem wXp_Q {pl : Nat → Nat} (f : Nat → Nat) : wXp cI cZ cQ a (zs_Q S f) pl = wXp cI cZ cQ a S pl := by
  show (wX1 cI cZ cQ a (zs_Q S f)).set 8 (a 8, .inl (cI, 12, .inl (fun j => nI (pl j)))) ++ wX2 cI a (zs_Q S f) = (wX1 cI cZ cQ a S).set 8 (a 8, .inl (cI, 12, .inl (fun j => nI (pl j)))) ++ wX2 cI a S
  rw [wX2_Q]
  congr 1
theorem zrows_set {c n b0 t i v : Nat} {f : Nat → Nat → Nat} (ht : t < 12) (hb : b0 + t = c) : (zrows cI a b0 n f).set t (a c, .inl (cI, n, .inl (upd (fun j => nI (f t j)) i (nI v)))) = zrows cI a b0 n (up2 f t i v) := by
  subst hb
  unfold zrows
  refine List.ext_getElem (by simp) (fun q h1 h2 => ?_)
  have hq : q < 12 := by simpa using h2
  rw [List.getElem_set]
  by_cases e : t = q
  · subst e
    rw [if_pos rfl, List.getElem_map, List.getElem_range, up_nI]
    have e9 : up2 f t i v t = va_up (f t) i v := by
      funext j
      unfold up2 va_up
      rw [if_pos rfl]
    rw [e9]
  · rw [if_neg e, List.getElem_map, List.getElem_map, List.getElem_range]
    have e9 : up2 f t i v q = f q := by
      funext j
      unfold up2
      rw [if_neg (fun z => e z.symm)]
    rw [e9]
theorem zrows_len {n b0 : Nat} {f : Nat → Nat → Nat} : (zrows cI a b0 n f).length = 12 := by
  unfold zrows
  rw [List.length_map, List.length_range]
theorem wX1_rC {x : Nat → Nat → Nat} : wX1 cI cZ cQ a (zs_rC S x) = wX1 cI cZ cQ a S := by
  unfold wX1
  rw [zl_U_rC, zl_C_rC, zl_D_rC, zl_T_rC, zl_G_rC, zl_B_rC, zl_Q_rC, zl_qn_rC, zl_nc_rC, zl_nt_rC, zl_li_rC, zl_wi_rC, zl_no_rC, zl_bu_rC, zl_R_rC]
theorem wX_set_rC {t i v : Nat} (ht : t < 12) : (wX cI cZ cQ a S).set (14 + t) (a (20 + t), .inl (cI, 200, .inl (upd (fun j => nI (z_rC S t j)) i (nI v)))) = wX cI cZ cQ a (zs_rC S (up2 (z_rC S) t i v)) := by
  unfold wX
  rw [wX1_rC, List.set_append_right _ _ (by show 14 ≤ 14 + t; omega), show 14 + t - (wX1 cI cZ cQ a S).length = 0 + t by show 14 + t - 14 = _; omega]
  congr 1
  unfold wX2
  rw [zl_rC_rC, zl_rP_rC, zl_P_rC, zl_F_rC]
  rw [List.set_append_left _ _ (by rw [zrows_len]; omega), Nat.zero_add, zrows_set ht rfl]
theorem wX1_rP {x : Nat → Nat → Nat} : wX1 cI cZ cQ a (zs_rP S x) = wX1 cI cZ cQ a S := by
  unfold wX1
  rw [zl_U_rP, zl_C_rP, zl_D_rP, zl_T_rP, zl_G_rP, zl_B_rP, zl_Q_rP, zl_qn_rP, zl_nc_rP, zl_nt_rP, zl_li_rP, zl_wi_rP, zl_no_rP, zl_bu_rP, zl_R_rP]
theorem wX_set_rP {t i v : Nat} (ht : t < 12) : (wX cI cZ cQ a S).set (26 + t) (a (40 + t), .inl (cI, 200, .inl (upd (fun j => nI (z_rP S t j)) i (nI v)))) = wX cI cZ cQ a (zs_rP S (up2 (z_rP S) t i v)) := by
  unfold wX
  rw [wX1_rP, List.set_append_right _ _ (by show 14 ≤ 26 + t; omega), show 26 + t - (wX1 cI cZ cQ a S).length = 12 + t by show 26 + t - 14 = _; omega]
  congr 1
  unfold wX2
  rw [zl_rC_rP, zl_rP_rP, zl_P_rP, zl_F_rP]
  rw [List.set_append_right _ _ (by rw [zrows_len]; omega), show 12 + t - (zrows cI a 20 200 (z_rC S)).length = 0 + t by rw [zrows_len]; omega]
  congr 1
  rw [List.set_append_left _ _ (by rw [zrows_len]; omega), Nat.zero_add, zrows_set ht rfl]
theorem wX1_P {x : Nat → Nat → Nat} : wX1 cI cZ cQ a (zs_P S x) = wX1 cI cZ cQ a S := by
  unfold wX1
  rw [zl_U_P, zl_C_P, zl_D_P, zl_T_P, zl_G_P, zl_B_P, zl_Q_P, zl_qn_P, zl_nc_P, zl_nt_P, zl_li_P, zl_wi_P, zl_no_P, zl_bu_P, zl_R_P]
theorem wX_set_P {t i v : Nat} (ht : t < 12) : (wX cI cZ cQ a S).set (38 + t) (a (60 + t), .inl (cI, 40, .inl (upd (fun j => nI (z_P S t j)) i (nI v)))) = wX cI cZ cQ a (zs_P S (up2 (z_P S) t i v)) := by
  unfold wX
  rw [wX1_P, List.set_append_right _ _ (by show 14 ≤ 38 + t; omega), show 38 + t - (wX1 cI cZ cQ a S).length = 24 + t by show 38 + t - 14 = _; omega]
  congr 1
  unfold wX2
  rw [zl_rC_P, zl_rP_P, zl_P_P, zl_F_P]
  rw [List.set_append_right _ _ (by rw [zrows_len]; omega), show 24 + t - (zrows cI a 20 200 (z_rC S)).length = 12 + t by rw [zrows_len]; omega]
  congr 1
  rw [List.set_append_right _ _ (by rw [zrows_len]; omega), show 12 + t - (zrows cI a 40 200 (z_rP S)).length = 0 + t by rw [zrows_len]; omega]
  congr 1
  rw [List.set_append_left _ _ (by rw [zrows_len]; omega), Nat.zero_add, zrows_set ht rfl]
theorem wX1_F {x : Nat → Nat → Nat} : wX1 cI cZ cQ a (zs_F S x) = wX1 cI cZ cQ a S := by
  unfold wX1
  rw [zl_U_F, zl_C_F, zl_D_F, zl_T_F, zl_G_F, zl_B_F, zl_Q_F, zl_qn_F, zl_nc_F, zl_nt_F, zl_li_F, zl_wi_F, zl_no_F, zl_bu_F, zl_R_F]
theorem wX_set_F {t i v : Nat} (ht : t < 12) : (wX cI cZ cQ a S).set (50 + t) (a (80 + t), .inl (cI, 40, .inl (upd (fun j => nI (z_F S t j)) i (nI v)))) = wX cI cZ cQ a (zs_F S (up2 (z_F S) t i v)) := by
  unfold wX
  rw [wX1_F, List.set_append_right _ _ (by show 14 ≤ 50 + t; omega), show 50 + t - (wX1 cI cZ cQ a S).length = 36 + t by show 50 + t - 14 = _; omega]
  congr 1
  unfold wX2
  rw [zl_rC_F, zl_rP_F, zl_P_F, zl_F_F]
  rw [List.set_append_right _ _ (by rw [zrows_len]; omega), show 36 + t - (zrows cI a 20 200 (z_rC S)).length = 24 + t by rw [zrows_len]; omega]
  congr 1
  rw [List.set_append_right _ _ (by rw [zrows_len]; omega), show 24 + t - (zrows cI a 40 200 (z_rP S)).length = 12 + t by rw [zrows_len]; omega]
  congr 1
  rw [List.set_append_right _ _ (by rw [zrows_len]; omega), show 12 + t - (zrows cI a 60 40 (z_P S)).length = 0 + t by rw [zrows_len]; omega]
  congr 1
  rw [Nat.zero_add, zrows_set ht rfl]
theorem wM_f_nc (v : Nat) : (wM cI b S th).set 0 (b 0, .inr (2, [.int (nI v), .int (nI (z_nt S)), .int (nI (z_li S)), .int (nI (z_wi S)), .int (nI (z_no S)), .int (nI (z_bu S)), .ref (b 1), .ref (b 2), .ref (b 3), .ref (b 4), .ref (b 5), .ref (b 6), .ref (b 7), .ref (b 8), .int (nI (z_qn S)), .int (nI th)])) = wM cI b (zs_nc S v) th := by
  unfold wM zgood
  rw [zl_U_nc, zl_C_nc, zl_D_nc, zl_T_nc, zl_G_nc, zl_B_nc, zl_Q_nc, zl_qn_nc, zl_nc_nc, zl_nt_nc, zl_li_nc, zl_wi_nc, zl_no_nc, zl_bu_nc, zl_P_nc, zl_F_nc]
  rfl
theorem wM_f_nt (v : Nat) : (wM cI b S th).set 0 (b 0, .inr (2, [.int (nI (z_nc S)), .int (nI v), .int (nI (z_li S)), .int (nI (z_wi S)), .int (nI (z_no S)), .int (nI (z_bu S)), .ref (b 1), .ref (b 2), .ref (b 3), .ref (b 4), .ref (b 5), .ref (b 6), .ref (b 7), .ref (b 8), .int (nI (z_qn S)), .int (nI th)])) = wM cI b (zs_nt S v) th := by
  unfold wM zgood
  rw [zl_U_nt, zl_C_nt, zl_D_nt, zl_T_nt, zl_G_nt, zl_B_nt, zl_Q_nt, zl_qn_nt, zl_nc_nt, zl_nt_nt, zl_li_nt, zl_wi_nt, zl_no_nt, zl_bu_nt, zl_P_nt, zl_F_nt]
  rfl
theorem wM_f_li (v : Nat) : (wM cI b S th).set 0 (b 0, .inr (2, [.int (nI (z_nc S)), .int (nI (z_nt S)), .int (nI v), .int (nI (z_wi S)), .int (nI (z_no S)), .int (nI (z_bu S)), .ref (b 1), .ref (b 2), .ref (b 3), .ref (b 4), .ref (b 5), .ref (b 6), .ref (b 7), .ref (b 8), .int (nI (z_qn S)), .int (nI th)])) = wM cI b (zs_li S v) th := by
  unfold wM zgood
  rw [zl_U_li, zl_C_li, zl_D_li, zl_T_li, zl_G_li, zl_B_li, zl_Q_li, zl_qn_li, zl_nc_li, zl_nt_li, zl_li_li, zl_wi_li, zl_no_li, zl_bu_li, zl_P_li, zl_F_li]
  rfl
theorem wM_f_wi (v : Nat) : (wM cI b S th).set 0 (b 0, .inr (2, [.int (nI (z_nc S)), .int (nI (z_nt S)), .int (nI (z_li S)), .int (nI v), .int (nI (z_no S)), .int (nI (z_bu S)), .ref (b 1), .ref (b 2), .ref (b 3), .ref (b 4), .ref (b 5), .ref (b 6), .ref (b 7), .ref (b 8), .int (nI (z_qn S)), .int (nI th)])) = wM cI b (zs_wi S v) th := by
  unfold wM zgood
  rw [zl_U_wi, zl_C_wi, zl_D_wi, zl_T_wi, zl_G_wi, zl_B_wi, zl_Q_wi, zl_qn_wi, zl_nc_wi, zl_nt_wi, zl_li_wi, zl_wi_wi, zl_no_wi, zl_bu_wi, zl_P_wi, zl_F_wi]
  rfl
theorem wM_f_no (v : Nat) : (wM cI b S th).set 0 (b 0, .inr (2, [.int (nI (z_nc S)), .int (nI (z_nt S)), .int (nI (z_li S)), .int (nI (z_wi S)), .int (nI v), .int (nI (z_bu S)), .ref (b 1), .ref (b 2), .ref (b 3), .ref (b 4), .ref (b 5), .ref (b 6), .ref (b 7), .ref (b 8), .int (nI (z_qn S)), .int (nI th)])) = wM cI b (zs_no S v) th := by
  unfold wM zgood
  rw [zl_U_no, zl_C_no, zl_D_no, zl_T_no, zl_G_no, zl_B_no, zl_Q_no, zl_qn_no, zl_nc_no, zl_nt_no, zl_li_no, zl_wi_no, zl_no_no, zl_bu_no, zl_P_no, zl_F_no]
  rfl
theorem wM_f_bu (v : Nat) : (wM cI b S th).set 0 (b 0, .inr (2, [.int (nI (z_nc S)), .int (nI (z_nt S)), .int (nI (z_li S)), .int (nI (z_wi S)), .int (nI (z_no S)), .int (nI v), .ref (b 1), .ref (b 2), .ref (b 3), .ref (b 4), .ref (b 5), .ref (b 6), .ref (b 7), .ref (b 8), .int (nI (z_qn S)), .int (nI th)])) = wM cI b (zs_bu S v) th := by
  unfold wM zgood
  rw [zl_U_bu, zl_C_bu, zl_D_bu, zl_T_bu, zl_G_bu, zl_B_bu, zl_Q_bu, zl_qn_bu, zl_nc_bu, zl_nt_bu, zl_li_bu, zl_wi_bu, zl_no_bu, zl_bu_bu, zl_P_bu, zl_F_bu]
  rfl
theorem wM_f_qn (v : Nat) : (wM cI b S th).set 0 (b 0, .inr (2, [.int (nI (z_nc S)), .int (nI (z_nt S)), .int (nI (z_li S)), .int (nI (z_wi S)), .int (nI (z_no S)), .int (nI (z_bu S)), .ref (b 1), .ref (b 2), .ref (b 3), .ref (b 4), .ref (b 5), .ref (b 6), .ref (b 7), .ref (b 8), .int (nI v), .int (nI th)])) = wM cI b (zs_qn S v) th := by
  unfold wM zgood
  rw [zl_U_qn, zl_C_qn, zl_D_qn, zl_T_qn, zl_G_qn, zl_B_qn, zl_Q_qn, zl_qn_qn, zl_nc_qn, zl_nt_qn, zl_li_qn, zl_wi_qn, zl_no_qn, zl_bu_qn, zl_P_qn, zl_F_qn]
  rfl
theorem wM_th (v : Nat) : (wM cI b S th).set 0 (b 0, .inr (2, [.int (nI (z_nc S)), .int (nI (z_nt S)), .int (nI (z_li S)), .int (nI (z_wi S)), .int (nI (z_no S)), .int (nI (z_bu S)), .ref (b 1), .ref (b 2), .ref (b 3), .ref (b 4), .ref (b 5), .ref (b 6), .ref (b 7), .ref (b 8), .int (nI (z_qn S)), .int (nI v)])) = wM cI b S v := rfl
theorem wM_a_U (i v : Nat) : (wM cI b S th).set 1 (b 1, .inl (cI, 16, .inl (upd (fun j => nI (z_U S j)) i (nI v)))) = wM cI b (zs_U S (va_up (z_U S) i v)) th := by
  rw [up_nI]
  unfold wM zgood
  rw [zl_U_U, zl_C_U, zl_D_U, zl_T_U, zl_G_U, zl_B_U, zl_Q_U, zl_qn_U, zl_nc_U, zl_nt_U, zl_li_U, zl_wi_U, zl_no_U, zl_bu_U, zl_P_U, zl_F_U]
  rfl
theorem wM_a_C (i v : Nat) : (wM cI b S th).set 2 (b 2, .inl (cI, 40, .inl (upd (fun j => nI (z_C S j)) i (nI v)))) = wM cI b (zs_C S (va_up (z_C S) i v)) th := by
  rw [up_nI]
  unfold wM zgood
  rw [zl_U_C, zl_C_C, zl_D_C, zl_T_C, zl_G_C, zl_B_C, zl_Q_C, zl_qn_C, zl_nc_C, zl_nt_C, zl_li_C, zl_wi_C, zl_no_C, zl_bu_C, zl_P_C, zl_F_C]
  rfl
theorem wM_a_D (i v : Nat) : (wM cI b S th).set 3 (b 3, .inl (cI, 12, .inl (upd (fun j => nI (z_D S j)) i (nI v)))) = wM cI b (zs_D S (va_up (z_D S) i v)) th := by
  rw [up_nI]
  unfold wM zgood
  rw [zl_U_D, zl_C_D, zl_D_D, zl_T_D, zl_G_D, zl_B_D, zl_Q_D, zl_qn_D, zl_nc_D, zl_nt_D, zl_li_D, zl_wi_D, zl_no_D, zl_bu_D, zl_P_D, zl_F_D]
  rfl
theorem wM_a_B (i v : Nat) : (wM cI b S th).set 7 (b 7, .inl (cI, 12, .inl (upd (fun j => nI (z_B S j)) i (nI v)))) = wM cI b (zs_B S (va_up (z_B S) i v)) th := by
  rw [up_nI]
  unfold wM zgood
  rw [zl_U_B, zl_C_B, zl_D_B, zl_T_B, zl_G_B, zl_B_B, zl_Q_B, zl_qn_B, zl_nc_B, zl_nt_B, zl_li_B, zl_wi_B, zl_no_B, zl_bu_B, zl_P_B, zl_F_B]
  rfl
theorem wM_a_Q (i v : Nat) : (wM cI b S th).set 8 (b 8, .inl (cI, 12, .inl (upd (fun j => nI (z_Q S j)) i (nI v)))) = wM cI b (zs_Q S (va_up (z_Q S) i v)) th := by
  rw [up_nI]
  unfold wM zgood
  rw [zl_U_Q, zl_C_Q, zl_D_Q, zl_T_Q, zl_G_Q, zl_B_Q, zl_Q_Q, zl_qn_Q, zl_nc_Q, zl_nt_Q, zl_li_Q, zl_wi_Q, zl_no_Q, zl_bu_Q, zl_P_Q, zl_F_Q]
  rfl
end SETS
