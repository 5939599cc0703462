/-! ===== the law: its loop ===== -/
section LAWL
variable {p : Program} {l : Launch} {e : Env} {s : State} {m : MethodId} {below : List Frame} {meth : Method} {c : Code} {D : va_G} {cI cZ cQ cJ : ClassId} {b L : Nat} {xs : Nat → Int32} {a bb : Nat → Nat} {o i cells slots th : Nat} {S : zS} {f : Nat → Int64}
theorem v_lawret (E : LE9 p s m b meth c D cI cZ cQ cJ) (hr : meth.sig.returnType = ret) {lv : List (Nat × Value)} {w : va_W} (hc : cells ≤ 601024) (hs : slots ≤ 7293034) : LV p l e s m b below meth c D cells slots 1592 lv [.int (nI 1)] w := by
  intro H locs ls hP hl
  refine va_forget (fun q hq => hP.2.2.2.2 q hq) ?_
  refine W.widen (k := 601024) (n := 7293034) hc hs ?_
  exact lw_ret E.1 E.2.1 hr E.2.2.2.2.2.2.1 dL_law_1592
set_option maxHeartbeats 4000000 in
set_option maxRecDepth 100000 in
theorem law_loop (E : LE9 p s m b meth c D cI cZ cQ cJ) (hr : meth.sig.returnType = ret) (hA : ∀ q : Nat, s.heap.size ≤ q → (fun q : Nat => s.heap.size ≤ q) q) (hTx : z_Tx (fun q : Nat => s.heap.size ≤ q) s s.heap) (hl : l.stackTraces = false) (hX : va_X b L xs s s.heap) (hbl : b < s.heap.size) (hbA : ¬ (fun q : Nat => s.heap.size ≤ q) b) (hL : L ≤ 2048) :
    ∀ (n i : Nat) (S : zS) (f : Nat → Int64) (th cells slots : Nat), L - i < n → zOK S → i ≤ L → cells ≤ 200 + i → slots ≤ 20000 + 6 * i →
      LV p l e s m b below meth c D cells slots 23 [(4, .int (nI i)), (0, .ref b), (1, .ref (a 0)), (2, .ref (bb 0)), (3, .ref o)] [] (wL cI cZ cQ cJ a bb o S f th) := by
  intro n
  induction n with
  | zero => intro i S f th cells slots h; exact absurd h (Nat.not_lt_zero _)
  | succ n ih =>
    intro i S f th cells slots hn hok hi hcc hss
    refine v_iload E dL_law_23 0 rfl ?_
    refine v_aload_n E dL_law_25 1 rfl rfl ?_
    refine v_slen E dL_law_26 hX hbl hbA ?_
    refine v_iconst E dL_law_27 (v := nI 4) rfl ?_
    refine v_isub E dL_law_28 (z := nI L - nI 4) rfl ?_
    refine v_icmp_gt E dL_law_29 (tgt := 1591) (by decide) (fun _ => ?_) (fun c29 => ?_)
    · refine v_iconst E dL_law_1591 (v := nI 1) rfl ?_
      exact v_lawret E hr (by omega) (by omega)
    · have hi4 : i + 4 ≤ L := by
        rw [i_lt, pk_sub_toInt (by omega) (by decide), nI_toInt (by omega)] at c29
        omega
      have K : ∀ (S' : zS) (f' : Nat → Int64) (th' cells' slots' : Nat), zOK S' → cells' ≤ cells + 4 → slots' ≤ slots + 24 → LV p l e s m b below meth c D cells' slots' 1585 [(4, .int (nI i)), (0, .ref b), (1, .ref (a 0)), (2, .ref (bb 0)), (3, .ref o)] [] (wL cI cZ cQ cJ a bb o S' f' th') := by
        intro S' f' th' cells' slots' hok' hc' hs'
        refine v_iinc E dL_law_1585 (v := nI (i + 4)) 0 rfl (nI_add _ _) (by decide) rfl ?_
        refine v_goto E dL_law_1588 (tgt := 23) (by decide) ?_
        exact ih (i + 4) S' f' th' cells' slots' (by omega) hok' hi4 (by omega) (by omega)
      refine v_aload_n E dL_law_32 1 rfl rfl ?_
      refine v_iload E dL_law_33 0 rfl ?_
      refine v_sld E dL_law_35 hX hbl hbA (by omega) (by omega) ?_
      refine v_bipush E dL_law_36 (v := nI 31) rfl ?_
      refine v_iand E dL_law_38 (z := xs i &&& nI 31) rfl ?_
      obtain ⟨d, hd, e9⟩ := and_31 (xs i)
      refine v_top (y := nI d) e9 ?_
      have hcc4 : cells + 4 ≤ 601024 := by omega
      have hss4 : slots + 24 ≤ 7293034 := by omega
      have hd9 : d = 0 ∨ d = 1 ∨ d = 2 ∨ d = 3 ∨ d = 4 ∨ d = 5 ∨ d = 6 ∨ d = 7 ∨ d = 8 ∨ d = 9 ∨ d = 10 ∨ d = 11 ∨ d = 12 ∨ d = 13 ∨ d = 14 ∨ d = 15 ∨ d = 16 ∨ d = 17 ∨ d = 18 ∨ d = 19 ∨ d = 20 ∨ d = 21 ∨ d = 22 ∨ d = 23 ∨ d = 24 ∨ d = 25 ∨ d = 26 ∨ 27 ≤ d := by omega
      rcases hd9 with rfl | rfl | rfl | rfl | rfl | rfl | rfl | rfl | rfl | rfl | rfl | rfl | rfl | rfl | rfl | rfl | rfl | rfl | rfl | rfl | rfl | rfl | rfl | rfl | rfl | rfl | rfl | hd9
      · exact v_tabIn E dL_law_39 (d := 0) (off := 121) (tgt := 160) (by decide) (by decide) (by decide) (by decide) (by decide) (law_c0 E hA hTx hl hX hbl hbA hL hok hi4 hcc4 hss4 K)
      · exact v_tabIn E dL_law_39 (d := 1) (off := 189) (tgt := 228) (by decide) (by decide) (by decide) (by decide) (by decide) (law_c1 E hA hTx hl hX hbl hbA hL hok hi4 hcc4 hss4 K)
      · exact v_tabIn E dL_law_39 (d := 2) (off := 245) (tgt := 284) (by decide) (by decide) (by decide) (by decide) (by decide) (law_c2 E hA hTx hl hX hbl hbA hL hok hi4 hcc4 hss4 K)
      · exact v_tabIn E dL_law_39 (d := 3) (off := 301) (tgt := 340) (by decide) (by decide) (by decide) (by decide) (by decide) (law_c3 E hA hTx hl hX hbl hbA hL hok hi4 hcc4 hss4 K)
      · exact v_tabIn E dL_law_39 (d := 4) (off := 349) (tgt := 388) (by decide) (by decide) (by decide) (by decide) (by decide) (law_c4 E hA hTx hl hX hbl hbA hL hok hi4 hcc4 hss4 K)
      · exact v_tabIn E dL_law_39 (d := 5) (off := 405) (tgt := 444) (by decide) (by decide) (by decide) (by decide) (by decide) (law_c5 E hA hTx hl hX hbl hbA hL hok hi4 hcc4 hss4 K)
      · exact v_tabIn E dL_law_39 (d := 6) (off := 501) (tgt := 540) (by decide) (by decide) (by decide) (by decide) (by decide) (law_c6 E hA hTx hl hX hbl hbA hL hok hi4 hcc4 hss4 K)
      · exact v_tabIn E dL_law_39 (d := 7) (off := 581) (tgt := 620) (by decide) (by decide) (by decide) (by decide) (by decide) (law_c7 E hA hTx hl hX hbl hbA hL hok hi4 hcc4 hss4 K)
      · exact v_tabIn E dL_law_39 (d := 8) (off := 637) (tgt := 676) (by decide) (by decide) (by decide) (by decide) (by decide) (law_c8 E hA hTx hl hX hbl hbA hL hok hi4 hcc4 hss4 K)
      · exact v_tabIn E dL_law_39 (d := 9) (off := 693) (tgt := 732) (by decide) (by decide) (by decide) (by decide) (by decide) (law_c9 E hA hTx hl hX hbl hbA hL hok hi4 hcc4 hss4 K)
      · exact v_tabIn E dL_law_39 (d := 10) (off := 749) (tgt := 788) (by decide) (by decide) (by decide) (by decide) (by decide) (law_c10 E hA hTx hl hX hbl hbA hL hok hi4 hcc4 hss4 K)
      · exact v_tabIn E dL_law_39 (d := 11) (off := 793) (tgt := 832) (by decide) (by decide) (by decide) (by decide) (by decide) (law_c11 E hA hTx hl hX hbl hbA hL hok hi4 hcc4 hss4 K)
      · exact v_tabIn E dL_law_39 (d := 12) (off := 806) (tgt := 845) (by decide) (by decide) (by decide) (by decide) (by decide) (law_c12 E hA hTx hl hX hbl hbA hL hok hi4 hcc4 hss4 K)
      · exact v_tabIn E dL_law_39 (d := 13) (off := 819) (tgt := 858) (by decide) (by decide) (by decide) (by decide) (by decide) (law_c13 E hA hTx hl hX hbl hbA hL hok hi4 hcc4 hss4 K)
      · exact v_tabIn E dL_law_39 (d := 14) (off := 832) (tgt := 871) (by decide) (by decide) (by decide) (by decide) (by decide) (law_c14 E hA hTx hl hX hbl hbA hL hok hi4 hcc4 hss4 K)
      · exact v_tabIn E dL_law_39 (d := 15) (off := 845) (tgt := 884) (by decide) (by decide) (by decide) (by decide) (by decide) (law_c15 E hA hTx hl hX hbl hbA hL hok hi4 hcc4 hss4 K)
      · exact v_tabIn E dL_law_39 (d := 16) (off := 901) (tgt := 940) (by decide) (by decide) (by decide) (by decide) (by decide) (law_c16 E hA hTx hl hX hbl hbA hL hok hi4 hcc4 hss4 K)
      · exact v_tabIn E dL_law_39 (d := 17) (off := 957) (tgt := 996) (by decide) (by decide) (by decide) (by decide) (by decide) (law_c17 E hA hTx hl hX hbl hbA hL hok hi4 hcc4 hss4 K)
      · exact v_tabIn E dL_law_39 (d := 18) (off := 1013) (tgt := 1052) (by decide) (by decide) (by decide) (by decide) (by decide) (law_c18 E hA hTx hl hX hbl hbA hL hok hi4 hcc4 hss4 K)
      · exact v_tabIn E dL_law_39 (d := 19) (off := 1081) (tgt := 1120) (by decide) (by decide) (by decide) (by decide) (by decide) (law_c19 E hA hTx hl hX hbl hbA hL hok hi4 hcc4 hss4 K)
      · exact v_tabIn E dL_law_39 (d := 20) (off := 1137) (tgt := 1176) (by decide) (by decide) (by decide) (by decide) (by decide) (law_c20 E hA hTx hl hX hbl hbA hL hok hi4 hcc4 hss4 K)
      · exact v_tabIn E dL_law_39 (d := 21) (off := 1200) (tgt := 1239) (by decide) (by decide) (by decide) (by decide) (by decide) (law_c21 E hA hTx hl hX hbl hbA hL hok hi4 hcc4 hss4 K)
      · exact v_tabIn E dL_law_39 (d := 22) (off := 1256) (tgt := 1295) (by decide) (by decide) (by decide) (by decide) (by decide) (law_c22 E hA hTx hl hX hbl hbA hL hok hi4 hcc4 hss4 K)
      · exact v_tabIn E dL_law_39 (d := 23) (off := 1311) (tgt := 1350) (by decide) (by decide) (by decide) (by decide) (by decide) (law_c23 E hA hTx hl hX hbl hbA hL hok hi4 hcc4 hss4 K)
      · exact v_tabIn E dL_law_39 (d := 24) (off := 1379) (tgt := 1418) (by decide) (by decide) (by decide) (by decide) (by decide) (law_c24 E hA hTx hl hX hbl hbA hL hok hi4 hcc4 hss4 K)
      · exact v_tabIn E dL_law_39 (d := 25) (off := 1434) (tgt := 1473) (by decide) (by decide) (by decide) (by decide) (by decide) (law_c25 E hA hTx hl hX hbl hbA hL hok hi4 hcc4 hss4 K)
      · exact v_tabIn E dL_law_39 (d := 26) (off := 1490) (tgt := 1529) (by decide) (by decide) (by decide) (by decide) (by decide) (law_c26 E hA hTx hl hX hbl hbA hL hok hi4 hcc4 hss4 K)
      · exact v_tabOut E dL_law_39 (tgt := 1585) (by omega) (by omega) (by decide) (K S f th cells slots hok (by omega) (by omega))
end LAWL
