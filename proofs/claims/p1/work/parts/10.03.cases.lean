set_option maxHeartbeats 4000000 in
set_option maxRecDepth 100000 in
theorem law_18 {p : Program} {e : Env} {s : State} {m : MethodId} {below : List Frame} {meth : Method} {c : Code} (l : Launch) (hlt : l.stackTraces = false) {b : Nat} {xs : Nat → Int32} (C0 : lw_At p s m meth c b 6 xs) (em : Nat → Nat) (dC : Nat → ClassId) (dI : Nat → Nat → Nat) (j : Nat) (hjj : ∀ z : Int32, z = ((xs 1).toUInt32 % 65536).toInt32 → 97 ≤ z.toInt → z.toInt ≤ 122 → (z - 97).toNatClampNeg = j) (x0 : Nat) (ca : Nat) (dr : Nat) (ty0 : Nat) (sf : Nat) (sb : Nat) (ra0 : Nat) (bk : Nat) (c0 : Nat) (th : Nat) (rr : Nat) (a0 : Nat) (a1 : Nat) (a2 : Nat) (mo : Nat) (vp : Value) (vm : Value) (u1 : Value) (u2 : Value) (sf1 : Value) (sb1 : Value) (fC : Nat → Option Nat) (fD : Nat → Option Nat) (cC : ClassId) (cH : ClassId) (cO : ClassId) (cI : ClassId) (cT : ClassId) (cR : ClassId) (cB0 : ClassId) (cB1 : ClassId) (cB2 : ClassId) (cM : ClassId) (m0 : Nat) (lc : Nat) (lp : Nat) (dl : Nat) (rr8 : Nat) (ff : Nat) (fb : Nat) (lw : Nat) (lo : Nat) (tf : Value) (tb : Value) (fL : Nat → Option Nat) (cO8 : ClassId) (cI8 : ClassId) (ou : Nat) (od : Nat) (cOut : ClassId) (cOd : ClassId) (hfC : fC 0 = some c0) (hfD : fD j = some rr) (hfL : fL j = some rr8) {H : Heap} {locs : List Loc} (hamb : amb em (fun q : Nat => s.heap.size ≤ q) s s.heap) (hK : va_K (dC, dI) vwCl [(cC, (.object "Bothfaces$Card")), (cH, .int), (cO, (.array .int)), (cI, .int), (cT, .int), (cR, .int), (cB0, .int), (cB1, .int), (cB2, .int), (cM, .int), (cO8, (.array .int)), (cI8, .int), (cOut, .long), (cOd, .double)] s) (hP : va_P (dC, dI) vwCl [(x0, .inr (11, [.ref ca, .int 0, .int 0, .ref dr, .ref ty0, .int 0, .ref sf, .ref sb, vp, vm, .ref ra0, .int 0, .ref bk])), (ca, .inl (cC, 16, .inr (.inr (.inr (.inr fC))))), (c0, .inr (7, [.ref th, u1, u2, .int 0, .int 0, .int 0, .int 0])), (th, .inl (cH, 4, .inl (fun _ => 0))), (dr, .inl (cO, 26, .inr (.inr (.inr (.inr fD))))), (rr, .inl (cI, 5, .inl (fun _ => 0))), (ty0, .inl (cT, 8, .inl (fun _ => 0))), (sf, .inr (10, [.int 0, sf1, .int 0, .int 0, .int 0, .int 1, .int 0])), (sb, .inr (10, [.int 1, sb1, .int 0, .int 0, .int 0, .int 1, .int 0])), (ra0, .inl (cR, 6, .inl (fun _ => 0))), (bk, .inr (6, [.ref a0, .ref a1, .ref a2, .ref mo, .int 0])), (a0, .inl (cB0, 8, .inl (fun _ => 0))), (a1, .inl (cB1, 8, .inl (fun _ => 0))), (a2, .inl (cB2, 8, .inl (fun _ => 0))), (mo, .inl (cM, 256, .inl (fun _ => 0))), (m0, .inr (14, [.ref lc, .ref lp, .ref dl, .ref ff, .ref fb, .ref lw, .ref lo, .ref (em 1), .int 0])), (lc, .inr (5, [.int 0, .ref (em 0), .int 0])), (lp, .inr (5, [.int 0, .ref (em 0), .int 0])), (dl, .inl (cO8, 26, .inr (.inr (.inr (.inr fL))))), (rr8, .inl (cI8, 5, .inl (fun _ => 0))), (ff, .inr (13, [tf, .int 0, .int 0, .int 1, .int 0])), (fb, .inr (13, [tb, .int 0, .int 0, .int 1, .int 0])), (lw, .inr (5, [.int 0, .ref (em 0), .int 0])), (lo, .inr (5, [.int 0, .ref (em 0), .int 0])), (ou, .inl (cOut, 1, .inr (.inl (fun _ => 0)))), (od, .inl (cOd, 1, .inr (.inr (.inr (.inl (fun _ => 0))))))] H) (hD : va_D (fun q : Nat => s.heap.size ≤ q) [(x0, .inr (11, [.ref ca, .int 0, .int 0, .ref dr, .ref ty0, .int 0, .ref sf, .ref sb, vp, vm, .ref ra0, .int 0, .ref bk])), (ca, .inl (cC, 16, .inr (.inr (.inr (.inr fC))))), (c0, .inr (7, [.ref th, u1, u2, .int 0, .int 0, .int 0, .int 0])), (th, .inl (cH, 4, .inl (fun _ => 0))), (dr, .inl (cO, 26, .inr (.inr (.inr (.inr fD))))), (rr, .inl (cI, 5, .inl (fun _ => 0))), (ty0, .inl (cT, 8, .inl (fun _ => 0))), (sf, .inr (10, [.int 0, sf1, .int 0, .int 0, .int 0, .int 1, .int 0])), (sb, .inr (10, [.int 1, sb1, .int 0, .int 0, .int 0, .int 1, .int 0])), (ra0, .inl (cR, 6, .inl (fun _ => 0))), (bk, .inr (6, [.ref a0, .ref a1, .ref a2, .ref mo, .int 0])), (a0, .inl (cB0, 8, .inl (fun _ => 0))), (a1, .inl (cB1, 8, .inl (fun _ => 0))), (a2, .inl (cB2, 8, .inl (fun _ => 0))), (mo, .inl (cM, 256, .inl (fun _ => 0))), (m0, .inr (14, [.ref lc, .ref lp, .ref dl, .ref ff, .ref fb, .ref lw, .ref lo, .ref (em 1), .int 0])), (lc, .inr (5, [.int 0, .ref (em 0), .int 0])), (lp, .inr (5, [.int 0, .ref (em 0), .int 0])), (dl, .inl (cO8, 26, .inr (.inr (.inr (.inr fL))))), (rr8, .inl (cI8, 5, .inl (fun _ => 0))), (ff, .inr (13, [tf, .int 0, .int 0, .int 1, .int 0])), (fb, .inr (13, [tb, .int 0, .int 0, .int 1, .int 0])), (lw, .inr (5, [.int 0, .ref (em 0), .int 0])), (lo, .inr (5, [.int 0, .ref (em 0), .int 0])), (ou, .inl (cOut, 1, .inr (.inl (fun _ => 0)))), (od, .inl (cOd, 1, .inr (.inr (.inr (.inl (fun _ => 0))))))]) (hS : va_S (fun q : Nat => s.heap.size ≤ q) s.heap H locs) {ls : Array Slot} (hl : lv_has ls 9 [(5, .int 0), (4, .ref od), (3, .ref ou), (2, .ref m0), (1, .ref x0), (0, .ref b)]) : W p l e room_1 s m #[Value.ref b] below meth c H locs 146 2187 (lw_Z below #[Value.ref b] s) (F0 m 1340 ls []) := by
  obtain ⟨hx, hb, hr, hml, hown0, hts0, hX, hbl, hlocks, hgv⟩ := id C0
  have hts := ow_hts hts0
  have hown : s.vm.findClass RL = some m.cls := hown0
  have hA : ∀ q : Nat, s.heap.size ≤ q → (fun q : Nat => s.heap.size ≤ q) q := fun _ h => h
  have hbA : ¬ (fun q : Nat => s.heap.size ≤ q) b := Nat.not_le.mpr hbl
  refine lv_aload_n hx hb dL_law_1340 rfl (lv_at hl 4 rfl) ?_
  refine lv_aload_n hx hb dL_law_1341 rfl (lv_at hl 5 rfl) ?_
  refine lv_iload hx hb dL_law_1342 (lv_at hl 0 rfl) ?_
  refine lv_iconst (v := 1) hx hb dL_law_1344 (by decide) ?_
  refine lv_iadd hx hb dL_law_1345 ?_
  refine lv_topi (fun k_1 ek_1 => ?_)
  obtain rfl : k_1 = 1 := ek_1.trans (by decide)
  refine va_sld hx hb hX hbl hbA hS (vp_in_iff.mpr ⟨by decide, by decide⟩) dL_law_1346 ?_
  refine lv_topi (fun y_2 ey_2 => ?_)
  have ey_2 : y_2 = xs 1 := ey_2
  refine lv_if_eq (tgt := 1354) hx hb dL_law_1347 (by decide) (fun c_3 => ?_) (fun c_3 => ?_)
  · refine lv_iconst (v := 0) hx hb dL_law_1354 (by decide) ?_
    refine lv_aload_n hx hb dL_law_1355 rfl (lv_at hl 5 rfl) ?_
    refine lv_iload hx hb dL_law_1356 (lv_at hl 0 rfl) ?_
    refine lv_iconst (v := 2) hx hb dL_law_1358 (by decide) ?_
    refine lv_iadd hx hb dL_law_1359 ?_
    refine lv_topi (fun k_4 ek_4 => ?_)
    obtain rfl : k_4 = 2 := ek_4.trans (by decide)
    refine va_sld hx hb hX hbl hbA hS (vp_in_iff.mpr ⟨by decide, by decide⟩) dL_law_1360 ?_
    refine lv_topi (fun y_5 ey_5 => ?_)
    have ey_5 : y_5 = xs 2 := ey_5
    refine lv_aload_n hx hb dL_law_1361 rfl (lv_at hl 2 rfl) ?_
    have hPc := hP.sub (ws' := [(x0, .inr (11, [.ref ca, .int 0, .int 0, .ref dr, .ref ty0, .int 0, .ref sf, .ref sb, vp, vm, .ref ra0, .int 0, .ref bk])), (sf, .inr (10, [.int 0, sf1, .int 0, .int 0, .int 0, .int 1, .int 0])), (sb, .inr (10, [.int 1, sb1, .int 0, .int 0, .int 0, .int 1, .int 0])), (ou, .inl (cOut, 1, .inr (.inl (fun _ => 0))))]) [0, 7, 8, 24] rfl
    have hDc := hD.sub (ws' := [(x0, .inr (11, [.ref ca, .int 0, .int 0, .ref dr, .ref ty0, .int 0, .ref sf, .ref sb, vp, vm, .ref ra0, .int 0, .ref bk])), (sf, .inr (10, [.int 0, sf1, .int 0, .int 0, .int 0, .int 1, .int 0])), (sb, .inr (10, [.int 1, sb1, .int 0, .int 0, .int 0, .int 1, .int 0])), (ou, .inl (cOut, 1, .inr (.inl (fun _ => 0))))]) [0, 7, 8, 24] (by decide) rfl
    have hKc := hK.sub (tys' := [(cOut, .long)]) [12] rfl
    have hFc := va_free (wc := [(x0, .inr (11, [.ref ca, .int 0, .int 0, .ref dr, .ref ty0, .int 0, .ref sf, .ref sb, vp, vm, .ref ra0, .int 0, .ref bk])), (sf, .inr (10, [.int 0, sf1, .int 0, .int 0, .int 0, .int 1, .int 0])), (sb, .inr (10, [.int 1, sb1, .int 0, .int 0, .int 0, .int 1, .int 0])), (ou, .inl (cOut, 1, .inr (.inl (fun _ => 0))))]) hD hS hA [0, 7, 8, 24] rfl
    refine va_calli (vx_runSW (As := [.ref x0, .int 0, .int y_5, .ref ou]) (rest := []) ⟨hx, hb, hml, hown, hts⟩ (c_L_setGround_0 l hlt em dC dI x0 sf sb y_5 (.ref ca) (.int 0) (.int 0) (.ref dr) (.ref ty0) (.int 0) vp vm (.ref ra0) (.int 0) (.ref bk) (.int 0) sf1 (.int 0) (.int 0) (.int 0) (.int 1) sb1 (.int 0) (.int 0) (.int 0) ou cOut (fun _ => 0) H.size) (vx_cwSW 4 hts gT_L_setGround rfl rfl rfl (by decide +kernel) ⟨Nat.le_of_ble_eq_true rfl, Nat.le_of_ble_eq_true rfl⟩) ⟨Pw.blind _ _ _ _ _ _ _, fun U hU hW => ⟨rfl, Pw.go hPc hKc hDc hamb hS hFc hU hW⟩⟩ rfl rfl hl.1 rfl (lv_room (Nat.le_of_ble_eq_true rfl)) dL_law_1362 ⟨Nat.le_of_ble_eq_true rfl, Nat.le_of_ble_eq_true rfl⟩) hS (fun q _ h => hFc q h) hFc (fun r_6 u t H1 locs1 ht hvm hw hB hz1 hk1 hS => ?_)
    obtain ⟨gOx_7, ⟨hP1, hK1, hD1⟩, f_8⟩ := hB
    rw [ht] at hP1
    have hK1 := va_K.moved hvm.symm hK1
    obtain ⟨hP, hD⟩ := va_join (wr := [(ca, .inl (cC, 16, .inr (.inr (.inr (.inr fC))))), (c0, .inr (7, [.ref th, u1, u2, .int 0, .int 0, .int 0, .int 0])), (th, .inl (cH, 4, .inl (fun _ => 0))), (dr, .inl (cO, 26, .inr (.inr (.inr (.inr fD))))), (rr, .inl (cI, 5, .inl (fun _ => 0))), (ty0, .inl (cT, 8, .inl (fun _ => 0))), (ra0, .inl (cR, 6, .inl (fun _ => 0))), (bk, .inr (6, [.ref a0, .ref a1, .ref a2, .ref mo, .int 0])), (a0, .inl (cB0, 8, .inl (fun _ => 0))), (a1, .inl (cB1, 8, .inl (fun _ => 0))), (a2, .inl (cB2, 8, .inl (fun _ => 0))), (mo, .inl (cM, 256, .inl (fun _ => 0))), (m0, .inr (14, [.ref lc, .ref lp, .ref dl, .ref ff, .ref fb, .ref lw, .ref lo, .ref (em 1), .int 0])), (lc, .inr (5, [.int 0, .ref (em 0), .int 0])), (lp, .inr (5, [.int 0, .ref (em 0), .int 0])), (dl, .inl (cO8, 26, .inr (.inr (.inr (.inr fL))))), (rr8, .inl (cI8, 5, .inl (fun _ => 0))), (ff, .inr (13, [tf, .int 0, .int 0, .int 1, .int 0])), (fb, .inr (13, [tb, .int 0, .int 0, .int 1, .int 0])), (lw, .inr (5, [.int 0, .ref (em 0), .int 0])), (lo, .inr (5, [.int 0, .ref (em 0), .int 0])), (od, .inl (cOd, 1, .inr (.inr (.inr (.inl (fun _ => 0))))))]) (w1 := [(ou, .inl (cOut, 1, .inr (.inl gOx_7)))]) hP hD [0, 7, 8, 24] [1, 2, 3, 4, 5, 6, 9, 10, 11, 12, 13, 14, 15, 16, 17, 18, 19, 20, 21, 22, 23, 25] rfl rfl (by decide) (by decide) hk1 hFc hP1 hD1
    have hK := (hK.sub (tys' := [(cC, (.object "Bothfaces$Card")), (cH, .int), (cO, (.array .int)), (cI, .int), (cT, .int), (cR, .int), (cB0, .int), (cB1, .int), (cB2, .int), (cM, .int), (cO8, (.array .int)), (cI8, .int), (cOd, .double)]) [0, 1, 2, 3, 4, 5, 6, 7, 8, 9, 10, 11, 13] rfl).app hK1
    generalize H1 = H at hP hS ⊢
    have hP : va_P (dC, dI) vwCl [(ca, .inl (cC, 16, .inr (.inr (.inr (.inr fC))))), (c0, .inr (7, [.ref th, u1, u2, .int 0, .int 0, .int 0, .int 0])), (th, .inl (cH, 4, .inl (fun _ => 0))), (dr, .inl (cO, 26, .inr (.inr (.inr (.inr fD))))), (rr, .inl (cI, 5, .inl (fun _ => 0))), (ty0, .inl (cT, 8, .inl (fun _ => 0))), (ra0, .inl (cR, 6, .inl (fun _ => 0))), (bk, .inr (6, [.ref a0, .ref a1, .ref a2, .ref mo, .int 0])), (a0, .inl (cB0, 8, .inl (fun _ => 0))), (a1, .inl (cB1, 8, .inl (fun _ => 0))), (a2, .inl (cB2, 8, .inl (fun _ => 0))), (mo, .inl (cM, 256, .inl (fun _ => 0))), (m0, .inr (14, [.ref lc, .ref lp, .ref dl, .ref ff, .ref fb, .ref lw, .ref lo, .ref (em 1), .int 0])), (lc, .inr (5, [.int 0, .ref (em 0), .int 0])), (lp, .inr (5, [.int 0, .ref (em 0), .int 0])), (dl, .inl (cO8, 26, .inr (.inr (.inr (.inr fL))))), (rr8, .inl (cI8, 5, .inl (fun _ => 0))), (ff, .inr (13, [tf, .int 0, .int 0, .int 1, .int 0])), (fb, .inr (13, [tb, .int 0, .int 0, .int 1, .int 0])), (lw, .inr (5, [.int 0, .ref (em 0), .int 0])), (lo, .inr (5, [.int 0, .ref (em 0), .int 0])), (od, .inl (cOd, 1, .inr (.inr (.inr (.inl (fun _ => 0)))))), (ou, .inl (cOut, 1, .inr (.inl gOx_7)))] H := hP
    have hD : va_D (fun q : Nat => s.heap.size ≤ q) [(ca, .inl (cC, 16, .inr (.inr (.inr (.inr fC))))), (c0, .inr (7, [.ref th, u1, u2, .int 0, .int 0, .int 0, .int 0])), (th, .inl (cH, 4, .inl (fun _ => 0))), (dr, .inl (cO, 26, .inr (.inr (.inr (.inr fD))))), (rr, .inl (cI, 5, .inl (fun _ => 0))), (ty0, .inl (cT, 8, .inl (fun _ => 0))), (ra0, .inl (cR, 6, .inl (fun _ => 0))), (bk, .inr (6, [.ref a0, .ref a1, .ref a2, .ref mo, .int 0])), (a0, .inl (cB0, 8, .inl (fun _ => 0))), (a1, .inl (cB1, 8, .inl (fun _ => 0))), (a2, .inl (cB2, 8, .inl (fun _ => 0))), (mo, .inl (cM, 256, .inl (fun _ => 0))), (m0, .inr (14, [.ref lc, .ref lp, .ref dl, .ref ff, .ref fb, .ref lw, .ref lo, .ref (em 1), .int 0])), (lc, .inr (5, [.int 0, .ref (em 0), .int 0])), (lp, .inr (5, [.int 0, .ref (em 0), .int 0])), (dl, .inl (cO8, 26, .inr (.inr (.inr (.inr fL))))), (rr8, .inl (cI8, 5, .inl (fun _ => 0))), (ff, .inr (13, [tf, .int 0, .int 0, .int 1, .int 0])), (fb, .inr (13, [tb, .int 0, .int 0, .int 1, .int 0])), (lw, .inr (5, [.int 0, .ref (em 0), .int 0])), (lo, .inr (5, [.int 0, .ref (em 0), .int 0])), (od, .inl (cOd, 1, .inr (.inr (.inr (.inl (fun _ => 0)))))), (ou, .inl (cOut, 1, .inr (.inl gOx_7)))] := hD
    have hK : va_K (dC, dI) vwCl [(cC, (.object "Bothfaces$Card")), (cH, .int), (cO, (.array .int)), (cI, .int), (cT, .int), (cR, .int), (cB0, .int), (cB1, .int), (cB2, .int), (cM, .int), (cO8, (.array .int)), (cI8, .int), (cOd, .double), (cOut, .long)] s := hK
    refine W.widen (k := 147) (n := 2193) (Nat.le_of_ble_eq_true rfl) (Nat.le_of_ble_eq_true rfl) ?_
    have hw : ((y_5.toInt < 0 ∨ 7 < y_5.toInt) → r_6 = 1) ∧ (¬ (y_5.toInt < 0 ∨ 7 < y_5.toInt) → r_6 = 0) := hw
    rcases Classical.em (y_5.toInt < 0 ∨ 7 < y_5.toInt) with t_9 | t_9
    · have hw := hw.1 t_9
      rw [hw]
      refine lv_istore (lv' := [(6, .int 1), (5, .int 0), (4, .ref od), (3, .ref ou), (2, .ref m0), (1, .ref x0), (0, .ref b)]) hx hb dL_law_1365 hl (by decide) rfl (fun ls hl => ?_)
      refine lv_aload_n hx hb dL_law_1367 rfl (lv_at hl 4 rfl) ?_
      refine lv_aload_n hx hb dL_law_1368 rfl (lv_at hl 6 rfl) ?_
      refine lv_iload hx hb dL_law_1369 (lv_at hl 1 rfl) ?_
      refine lv_iconst (v := 1) hx hb dL_law_1371 (by decide) ?_
      refine lv_iadd hx hb dL_law_1372 ?_
      refine lv_topi (fun k_10 ek_10 => ?_)
      obtain rfl : k_10 = 1 := ek_10.trans (by decide)
      refine va_sld hx hb hX hbl hbA hS (vp_in_iff.mpr ⟨by decide, by decide⟩) dL_law_1373 ?_
      refine lv_topi (fun y_11 ey_11 => ?_)
      have ey_11 : y_11 = xs 1 := ey_11
      obtain rfl : y_2 = y_11 := ey_2.trans ey_11.symm
      refine lv_if_eq (tgt := 1381) hx hb dL_law_1374 (by decide) (fun c_12 => ?_) (fun c_12 => ?_)
      · refine lv_iconst (v := 0) hx hb dL_law_1381 (by decide) ?_
        refine lv_aload_n hx hb dL_law_1382 rfl (lv_at hl 6 rfl) ?_
        refine lv_iload hx hb dL_law_1383 (lv_at hl 1 rfl) ?_
        refine lv_iconst (v := 2) hx hb dL_law_1385 (by decide) ?_
        refine lv_iadd hx hb dL_law_1386 ?_
        refine lv_topi (fun k_13 ek_13 => ?_)
        obtain rfl : k_13 = 2 := ek_13.trans (by decide)
        refine va_sld hx hb hX hbl hbA hS (vp_in_iff.mpr ⟨by decide, by decide⟩) dL_law_1387 ?_
        refine lv_topi (fun y_14 ey_14 => ?_)
        have ey_14 : y_14 = xs 2 := ey_14
        obtain rfl : y_5 = y_14 := ey_5.trans ey_14.symm
        have hPc := hP.sub (ws' := [(m0, .inr (14, [.ref lc, .ref lp, .ref dl, .ref ff, .ref fb, .ref lw, .ref lo, .ref (em 1), .int 0])), (ff, .inr (13, [tf, .int 0, .int 0, .int 1, .int 0])), (fb, .inr (13, [tb, .int 0, .int 0, .int 1, .int 0]))]) [12, 17, 18] rfl
        have hDc := hD.sub (ws' := [(m0, .inr (14, [.ref lc, .ref lp, .ref dl, .ref ff, .ref fb, .ref lw, .ref lo, .ref (em 1), .int 0])), (ff, .inr (13, [tf, .int 0, .int 0, .int 1, .int 0])), (fb, .inr (13, [tb, .int 0, .int 0, .int 1, .int 0]))]) [12, 17, 18] (by decide) rfl
        have hKc := hK.sub (tys' := []) [] rfl
        have hFc := va_free (wc := [(m0, .inr (14, [.ref lc, .ref lp, .ref dl, .ref ff, .ref fb, .ref lw, .ref lo, .ref (em 1), .int 0])), (ff, .inr (13, [tf, .int 0, .int 0, .int 1, .int 0])), (fb, .inr (13, [tb, .int 0, .int 0, .int 1, .int 0]))]) hD hS hA [12, 17, 18] rfl
        refine va_calli (va_runV (As := [.int 0, .int y_5]) (rest := []) ⟨hx, hb, hml, hown, hts⟩ (c_X8_setGround_0 l em dC dI m0 y_5 (.ref lc) (.ref lp) (.ref dl) (.ref lw) (.ref lo) (.ref (em 1)) (.int 0) ff fb tf tb H.size) (cwV 2 hts gT_X8_setGround rfl rfl rfl (by decide +kernel) ⟨Nat.le_of_ble_eq_true rfl, Nat.le_of_ble_eq_true rfl⟩) ⟨Pw.blind _ _ _ _ _ _ _, va_recv hKc hPc (ci := 14) (q0 := 0) rfl rfl, fun U hU hW => ⟨rfl, Pw.go hPc hKc hDc hamb hS hFc hU hW⟩⟩ rfl rfl hl.1 rfl (lv_room (Nat.le_of_ble_eq_true rfl)) dL_law_1388 ⟨Nat.le_of_ble_eq_true rfl, Nat.le_of_ble_eq_true rfl⟩) hS (fun q _ h => hFc q h) hFc (fun r_15 u t H1 locs1 ht hvm hw hB hz1 hk1 hS => ?_)
        obtain ⟨tvx_16, ⟨hP1, hK1, hD1⟩, f_17, f_18⟩ := hB
        rw [ht] at hP1
        have hK1 := va_K.moved hvm.symm hK1
        obtain ⟨hP, hD⟩ := va_join (wr := [(ca, .inl (cC, 16, .inr (.inr (.inr (.inr fC))))), (c0, .inr (7, [.ref th, u1, u2, .int 0, .int 0, .int 0, .int 0])), (th, .inl (cH, 4, .inl (fun _ => 0))), (dr, .inl (cO, 26, .inr (.inr (.inr (.inr fD))))), (rr, .inl (cI, 5, .inl (fun _ => 0))), (ty0, .inl (cT, 8, .inl (fun _ => 0))), (ra0, .inl (cR, 6, .inl (fun _ => 0))), (bk, .inr (6, [.ref a0, .ref a1, .ref a2, .ref mo, .int 0])), (a0, .inl (cB0, 8, .inl (fun _ => 0))), (a1, .inl (cB1, 8, .inl (fun _ => 0))), (a2, .inl (cB2, 8, .inl (fun _ => 0))), (mo, .inl (cM, 256, .inl (fun _ => 0))), (lc, .inr (5, [.int 0, .ref (em 0), .int 0])), (lp, .inr (5, [.int 0, .ref (em 0), .int 0])), (dl, .inl (cO8, 26, .inr (.inr (.inr (.inr fL))))), (rr8, .inl (cI8, 5, .inl (fun _ => 0))), (lw, .inr (5, [.int 0, .ref (em 0), .int 0])), (lo, .inr (5, [.int 0, .ref (em 0), .int 0])), (od, .inl (cOd, 1, .inr (.inr (.inr (.inl (fun _ => 0)))))), (ou, .inl (cOut, 1, .inr (.inl gOx_7)))]) (w1 := [(m0, .inr (14, [.ref lc, .ref lp, .ref dl, .ref ff, .ref fb, .ref lw, .ref lo, .ref (em 1), .int tvx_16]))]) hP hD [12, 17, 18] [0, 1, 2, 3, 4, 5, 6, 7, 8, 9, 10, 11, 13, 14, 15, 16, 19, 20, 21, 22] rfl rfl (by decide) (by decide) hk1 hFc hP1 hD1
        have hK := (hK.sub (tys' := [(cC, (.object "Bothfaces$Card")), (cH, .int), (cO, (.array .int)), (cI, .int), (cT, .int), (cR, .int), (cB0, .int), (cB1, .int), (cB2, .int), (cM, .int), (cO8, (.array .int)), (cI8, .int), (cOd, .double), (cOut, .long)]) [0, 1, 2, 3, 4, 5, 6, 7, 8, 9, 10, 11, 12, 13] rfl).app hK1
        generalize H1 = H at hP hS ⊢
        have hP : va_P (dC, dI) vwCl [(ca, .inl (cC, 16, .inr (.inr (.inr (.inr fC))))), (c0, .inr (7, [.ref th, u1, u2, .int 0, .int 0, .int 0, .int 0])), (th, .inl (cH, 4, .inl (fun _ => 0))), (dr, .inl (cO, 26, .inr (.inr (.inr (.inr fD))))), (rr, .inl (cI, 5, .inl (fun _ => 0))), (ty0, .inl (cT, 8, .inl (fun _ => 0))), (ra0, .inl (cR, 6, .inl (fun _ => 0))), (bk, .inr (6, [.ref a0, .ref a1, .ref a2, .ref mo, .int 0])), (a0, .inl (cB0, 8, .inl (fun _ => 0))), (a1, .inl (cB1, 8, .inl (fun _ => 0))), (a2, .inl (cB2, 8, .inl (fun _ => 0))), (mo, .inl (cM, 256, .inl (fun _ => 0))), (lc, .inr (5, [.int 0, .ref (em 0), .int 0])), (lp, .inr (5, [.int 0, .ref (em 0), .int 0])), (dl, .inl (cO8, 26, .inr (.inr (.inr (.inr fL))))), (rr8, .inl (cI8, 5, .inl (fun _ => 0))), (lw, .inr (5, [.int 0, .ref (em 0), .int 0])), (lo, .inr (5, [.int 0, .ref (em 0), .int 0])), (od, .inl (cOd, 1, .inr (.inr (.inr (.inl (fun _ => 0)))))), (ou, .inl (cOut, 1, .inr (.inl gOx_7))), (m0, .inr (14, [.ref lc, .ref lp, .ref dl, .ref ff, .ref fb, .ref lw, .ref lo, .ref (em 1), .int tvx_16]))] H := hP
        have hD : va_D (fun q : Nat => s.heap.size ≤ q) [(ca, .inl (cC, 16, .inr (.inr (.inr (.inr fC))))), (c0, .inr (7, [.ref th, u1, u2, .int 0, .int 0, .int 0, .int 0])), (th, .inl (cH, 4, .inl (fun _ => 0))), (dr, .inl (cO, 26, .inr (.inr (.inr (.inr fD))))), (rr, .inl (cI, 5, .inl (fun _ => 0))), (ty0, .inl (cT, 8, .inl (fun _ => 0))), (ra0, .inl (cR, 6, .inl (fun _ => 0))), (bk, .inr (6, [.ref a0, .ref a1, .ref a2, .ref mo, .int 0])), (a0, .inl (cB0, 8, .inl (fun _ => 0))), (a1, .inl (cB1, 8, .inl (fun _ => 0))), (a2, .inl (cB2, 8, .inl (fun _ => 0))), (mo, .inl (cM, 256, .inl (fun _ => 0))), (lc, .inr (5, [.int 0, .ref (em 0), .int 0])), (lp, .inr (5, [.int 0, .ref (em 0), .int 0])), (dl, .inl (cO8, 26, .inr (.inr (.inr (.inr fL))))), (rr8, .inl (cI8, 5, .inl (fun _ => 0))), (lw, .inr (5, [.int 0, .ref (em 0), .int 0])), (lo, .inr (5, [.int 0, .ref (em 0), .int 0])), (od, .inl (cOd, 1, .inr (.inr (.inr (.inl (fun _ => 0)))))), (ou, .inl (cOut, 1, .inr (.inl gOx_7))), (m0, .inr (14, [.ref lc, .ref lp, .ref dl, .ref ff, .ref fb, .ref lw, .ref lo, .ref (em 1), .int tvx_16]))] := hD
        have hK : va_K (dC, dI) vwCl [(cC, (.object "Bothfaces$Card")), (cH, .int), (cO, (.array .int)), (cI, .int), (cT, .int), (cR, .int), (cB0, .int), (cB1, .int), (cB2, .int), (cM, .int), (cO8, (.array .int)), (cI8, .int), (cOd, .double), (cOut, .long)] s := hK
        refine W.widen (k := 147) (n := 2193) (Nat.le_of_ble_eq_true rfl) (Nat.le_of_ble_eq_true rfl) ?_
        have hw : ((y_5.toInt < 0 ∨ 7 < y_5.toInt) → r_15 = 0) ∧ (¬ (y_5.toInt < 0 ∨ 7 < y_5.toInt) → r_15 = 0) := hw
        have hw := hw.1 t_9
        rw [hw]
        obtain rfl : tvx_16 = 1 := f_17 t_9
        refine lv_istore (lv' := [(7, .int 0), (6, .int 1), (5, .int 0), (4, .ref od), (3, .ref ou), (2, .ref m0), (1, .ref x0), (0, .ref b)]) hx hb dL_law_1391 hl (by decide) rfl (fun ls hl => ?_)
        refine lv_aload_n hx hb dL_law_1393 rfl (lv_at hl 5 rfl) ?_
        have hPc := hP.sub (ws' := [(m0, .inr (14, [.ref lc, .ref lp, .ref dl, .ref ff, .ref fb, .ref lw, .ref lo, .ref (em 1), .int 1]))]) [20] rfl
        have hDc := hD.sub (ws' := [(m0, .inr (14, [.ref lc, .ref lp, .ref dl, .ref ff, .ref fb, .ref lw, .ref lo, .ref (em 1), .int 1]))]) [20] (by decide) rfl
        have hKc := hK.sub (tys' := []) [] rfl
        have hFc := va_free (wc := [(m0, .inr (14, [.ref lc, .ref lp, .ref dl, .ref ff, .ref fb, .ref lw, .ref lo, .ref (em 1), .int 1]))]) hD hS hA [20] rfl
        refine va_calli (va_runV (As := []) (rest := []) ⟨hx, hb, hml, hown, hts⟩ (c_X8_thrown l em dC dI m0 1 (.ref lc) (.ref lp) (.ref dl) (.ref ff) (.ref fb) (.ref lw) (.ref lo) (.ref (em 1)) H.size) (cwV 0 hts gT_X8_thrown rfl rfl rfl (by decide +kernel) ⟨Nat.le_of_ble_eq_true rfl, Nat.le_of_ble_eq_true rfl⟩) ⟨Pw.blind _ _ _ _ _ _ _, va_recv hKc hPc (ci := 14) (q0 := 0) rfl rfl, fun U hU hW => ⟨rfl, Pw.go hPc hKc hDc hamb hS hFc hU hW⟩⟩ rfl rfl hl.1 rfl (lv_room (Nat.le_of_ble_eq_true rfl)) dL_law_1394 ⟨Nat.le_of_ble_eq_true rfl, Nat.le_of_ble_eq_true rfl⟩) hS (fun q _ h => hFc q h) hFc (fun r_20 u t H1 locs1 ht hvm hw hB hz1 hk1 hS => ?_)
        obtain ⟨hP, hD⟩ := va_rest (wr := [(ca, .inl (cC, 16, .inr (.inr (.inr (.inr fC))))), (c0, .inr (7, [.ref th, u1, u2, .int 0, .int 0, .int 0, .int 0])), (th, .inl (cH, 4, .inl (fun _ => 0))), (dr, .inl (cO, 26, .inr (.inr (.inr (.inr fD))))), (rr, .inl (cI, 5, .inl (fun _ => 0))), (ty0, .inl (cT, 8, .inl (fun _ => 0))), (ra0, .inl (cR, 6, .inl (fun _ => 0))), (bk, .inr (6, [.ref a0, .ref a1, .ref a2, .ref mo, .int 0])), (a0, .inl (cB0, 8, .inl (fun _ => 0))), (a1, .inl (cB1, 8, .inl (fun _ => 0))), (a2, .inl (cB2, 8, .inl (fun _ => 0))), (mo, .inl (cM, 256, .inl (fun _ => 0))), (lc, .inr (5, [.int 0, .ref (em 0), .int 0])), (lp, .inr (5, [.int 0, .ref (em 0), .int 0])), (dl, .inl (cO8, 26, .inr (.inr (.inr (.inr fL))))), (rr8, .inl (cI8, 5, .inl (fun _ => 0))), (lw, .inr (5, [.int 0, .ref (em 0), .int 0])), (lo, .inr (5, [.int 0, .ref (em 0), .int 0])), (od, .inl (cOd, 1, .inr (.inr (.inr (.inl (fun _ => 0)))))), (ou, .inl (cOut, 1, .inr (.inl gOx_7)))]) hP hD [20] [0, 1, 2, 3, 4, 5, 6, 7, 8, 9, 10, 11, 12, 13, 14, 15, 16, 17, 18, 19] rfl rfl (by decide) (by decide) hk1 hFc
        generalize H1 = H at hP hS ⊢
        refine W.widen (k := 147) (n := 2193) (Nat.le_of_ble_eq_true rfl) (Nat.le_of_ble_eq_true rfl) ?_
        have hw : r_20 = 1 := hw
        rw [hw]
        refine lv_iload hx hb dL_law_1397 (lv_at hl 1 rfl) ?_
        refine lv_icmp_eq (tgt := 1404) hx hb dL_law_1399 (by decide) (fun c_21 => ?_) (fun c_21 => ?_)
        · refine lv_iload hx hb dL_law_1404 (lv_at hl 1 rfl) ?_
          refine lv_if_ne (tgt := 1421) hx hb dL_law_1406 (by decide) (fun c_22 => ?_) (fun c_22 => ?_)
          · refine lv_goto (tgt := 2636) hx hb dL_law_1421 (by decide) ?_
            refine lv_iinc (v := 6) (lv' := [(5, .int 6), (7, .int 0), (6, .int 1), (4, .ref od), (3, .ref ou), (2, .ref m0), (1, .ref x0), (0, .ref b)]) hx hb dL_law_2636 hl (k := 2) rfl (by decide) (by decide) rfl (fun ls hl => ?_)
            refine lv_goto (tgt := 28) hx hb dL_law_2639 (by decide) ?_
            refine lv_iload hx hb dL_law_28 (lv_at hl 0 rfl) ?_
            refine lv_aload_n hx hb dL_law_30 rfl (lv_at hl 7 rfl) ?_
            refine va_slen hx hb hX hbl hbA hS dL_law_31 ?_
            refine lv_topi (fun n_23 en_23 => ?_)
            obtain rfl : n_23 = 6 := en_23.trans (by decide)
            refine lv_bipush (v := 6) hx hb dL_law_32 (by decide) ?_
            refine lv_isub hx hb dL_law_34 ?_
            refine lv_topi (fun k_24 ek_24 => ?_)
            obtain rfl : k_24 = 0 := ek_24.trans (by decide)
            refine lv_icmp_gt (tgt := 2642) hx hb dL_law_35 (by decide) (fun c_25 => ?_) (fun c_25 => ?_)
            · refine lv_iconst (v := 1) hx hb dL_law_2642 (by decide) ?_
              refine W.widen (k := 600006) (n := 7302072) (Nat.le_of_ble_eq_true rfl) (Nat.le_of_ble_eq_true rfl) ?_
              refine va_forget hS.2.2 ?_
              refine W.base ?_
              exact lw_ret (Drawn.sameBut.refl s.drawn lw_cs) hx hb hr hlocks dL_law_2643
            · exact absurd (by decide) c_25
          · exact absurd c_22 (by decide)
        · exact absurd (by decide) c_21
      · exact absurd c_3 c_12
    · have hw := hw.2 t_9
      rw [hw]
      refine lv_istore (lv' := [(6, .int 0), (5, .int 0), (4, .ref od), (3, .ref ou), (2, .ref m0), (1, .ref x0), (0, .ref b)]) hx hb dL_law_1365 hl (by decide) rfl (fun ls hl => ?_)
      refine lv_aload_n hx hb dL_law_1367 rfl (lv_at hl 4 rfl) ?_
      refine lv_aload_n hx hb dL_law_1368 rfl (lv_at hl 6 rfl) ?_
      refine lv_iload hx hb dL_law_1369 (lv_at hl 1 rfl) ?_
      refine lv_iconst (v := 1) hx hb dL_law_1371 (by decide) ?_
      refine lv_iadd hx hb dL_law_1372 ?_
      refine lv_topi (fun k_26 ek_26 => ?_)
      obtain rfl : k_26 = 1 := ek_26.trans (by decide)
      refine va_sld hx hb hX hbl hbA hS (vp_in_iff.mpr ⟨by decide, by decide⟩) dL_law_1373 ?_
      refine lv_topi (fun y_27 ey_27 => ?_)
      have ey_27 : y_27 = xs 1 := ey_27
      obtain rfl : y_2 = y_27 := ey_2.trans ey_27.symm
      refine lv_if_eq (tgt := 1381) hx hb dL_law_1374 (by decide) (fun c_28 => ?_) (fun c_28 => ?_)
      · refine lv_iconst (v := 0) hx hb dL_law_1381 (by decide) ?_
        refine lv_aload_n hx hb dL_law_1382 rfl (lv_at hl 6 rfl) ?_
        refine lv_iload hx hb dL_law_1383 (lv_at hl 1 rfl) ?_
        refine lv_iconst (v := 2) hx hb dL_law_1385 (by decide) ?_
        refine lv_iadd hx hb dL_law_1386 ?_
        refine lv_topi (fun k_29 ek_29 => ?_)
        obtain rfl : k_29 = 2 := ek_29.trans (by decide)
        refine va_sld hx hb hX hbl hbA hS (vp_in_iff.mpr ⟨by decide, by decide⟩) dL_law_1387 ?_
        refine lv_topi (fun y_30 ey_30 => ?_)
        have ey_30 : y_30 = xs 2 := ey_30
        obtain rfl : y_5 = y_30 := ey_5.trans ey_30.symm
        have hPc := hP.sub (ws' := [(m0, .inr (14, [.ref lc, .ref lp, .ref dl, .ref ff, .ref fb, .ref lw, .ref lo, .ref (em 1), .int 0])), (ff, .inr (13, [tf, .int 0, .int 0, .int 1, .int 0])), (fb, .inr (13, [tb, .int 0, .int 0, .int 1, .int 0]))]) [12, 17, 18] rfl
        have hDc := hD.sub (ws' := [(m0, .inr (14, [.ref lc, .ref lp, .ref dl, .ref ff, .ref fb, .ref lw, .ref lo, .ref (em 1), .int 0])), (ff, .inr (13, [tf, .int 0, .int 0, .int 1, .int 0])), (fb, .inr (13, [tb, .int 0, .int 0, .int 1, .int 0]))]) [12, 17, 18] (by decide) rfl
        have hKc := hK.sub (tys' := []) [] rfl
        have hFc := va_free (wc := [(m0, .inr (14, [.ref lc, .ref lp, .ref dl, .ref ff, .ref fb, .ref lw, .ref lo, .ref (em 1), .int 0])), (ff, .inr (13, [tf, .int 0, .int 0, .int 1, .int 0])), (fb, .inr (13, [tb, .int 0, .int 0, .int 1, .int 0]))]) hD hS hA [12, 17, 18] rfl
        refine va_calli (va_runV (As := [.int 0, .int y_5]) (rest := []) ⟨hx, hb, hml, hown, hts⟩ (c_X8_setGround_0 l em dC dI m0 y_5 (.ref lc) (.ref lp) (.ref dl) (.ref lw) (.ref lo) (.ref (em 1)) (.int 0) ff fb tf tb H.size) (cwV 2 hts gT_X8_setGround rfl rfl rfl (by decide +kernel) ⟨Nat.le_of_ble_eq_true rfl, Nat.le_of_ble_eq_true rfl⟩) ⟨Pw.blind _ _ _ _ _ _ _, va_recv hKc hPc (ci := 14) (q0 := 0) rfl rfl, fun U hU hW => ⟨rfl, Pw.go hPc hKc hDc hamb hS hFc hU hW⟩⟩ rfl rfl hl.1 rfl (lv_room (Nat.le_of_ble_eq_true rfl)) dL_law_1388 ⟨Nat.le_of_ble_eq_true rfl, Nat.le_of_ble_eq_true rfl⟩) hS (fun q _ h => hFc q h) hFc (fun r_31 u t H1 locs1 ht hvm hw hB hz1 hk1 hS => ?_)
        obtain ⟨tvx_32, ⟨hP1, hK1, hD1⟩, f_33, f_34⟩ := hB
        rw [ht] at hP1
        have hK1 := va_K.moved hvm.symm hK1
        obtain ⟨hP, hD⟩ := va_join (wr := [(ca, .inl (cC, 16, .inr (.inr (.inr (.inr fC))))), (c0, .inr (7, [.ref th, u1, u2, .int 0, .int 0, .int 0, .int 0])), (th, .inl (cH, 4, .inl (fun _ => 0))), (dr, .inl (cO, 26, .inr (.inr (.inr (.inr fD))))), (rr, .inl (cI, 5, .inl (fun _ => 0))), (ty0, .inl (cT, 8, .inl (fun _ => 0))), (ra0, .inl (cR, 6, .inl (fun _ => 0))), (bk, .inr (6, [.ref a0, .ref a1, .ref a2, .ref mo, .int 0])), (a0, .inl (cB0, 8, .inl (fun _ => 0))), (a1, .inl (cB1, 8, .inl (fun _ => 0))), (a2, .inl (cB2, 8, .inl (fun _ => 0))), (mo, .inl (cM, 256, .inl (fun _ => 0))), (lc, .inr (5, [.int 0, .ref (em 0), .int 0])), (lp, .inr (5, [.int 0, .ref (em 0), .int 0])), (dl, .inl (cO8, 26, .inr (.inr (.inr (.inr fL))))), (rr8, .inl (cI8, 5, .inl (fun _ => 0))), (lw, .inr (5, [.int 0, .ref (em 0), .int 0])), (lo, .inr (5, [.int 0, .ref (em 0), .int 0])), (od, .inl (cOd, 1, .inr (.inr (.inr (.inl (fun _ => 0)))))), (ou, .inl (cOut, 1, .inr (.inl gOx_7)))]) (w1 := [(m0, .inr (14, [.ref lc, .ref lp, .ref dl, .ref ff, .ref fb, .ref lw, .ref lo, .ref (em 1), .int tvx_32]))]) hP hD [12, 17, 18] [0, 1, 2, 3, 4, 5, 6, 7, 8, 9, 10, 11, 13, 14, 15, 16, 19, 20, 21, 22] rfl rfl (by decide) (by decide) hk1 hFc hP1 hD1
        have hK := (hK.sub (tys' := [(cC, (.object "Bothfaces$Card")), (cH, .int), (cO, (.array .int)), (cI, .int), (cT, .int), (cR, .int), (cB0, .int), (cB1, .int), (cB2, .int), (cM, .int), (cO8, (.array .int)), (cI8, .int), (cOd, .double), (cOut, .long)]) [0, 1, 2, 3, 4, 5, 6, 7, 8, 9, 10, 11, 12, 13] rfl).app hK1
        generalize H1 = H at hP hS ⊢
        have hP : va_P (dC, dI) vwCl [(ca, .inl (cC, 16, .inr (.inr (.inr (.inr fC))))), (c0, .inr (7, [.ref th, u1, u2, .int 0, .int 0, .int 0, .int 0])), (th, .inl (cH, 4, .inl (fun _ => 0))), (dr, .inl (cO, 26, .inr (.inr (.inr (.inr fD))))), (rr, .inl (cI, 5, .inl (fun _ => 0))), (ty0, .inl (cT, 8, .inl (fun _ => 0))), (ra0, .inl (cR, 6, .inl (fun _ => 0))), (bk, .inr (6, [.ref a0, .ref a1, .ref a2, .ref mo, .int 0])), (a0, .inl (cB0, 8, .inl (fun _ => 0))), (a1, .inl (cB1, 8, .inl (fun _ => 0))), (a2, .inl (cB2, 8, .inl (fun _ => 0))), (mo, .inl (cM, 256, .inl (fun _ => 0))), (lc, .inr (5, [.int 0, .ref (em 0), .int 0])), (lp, .inr (5, [.int 0, .ref (em 0), .int 0])), (dl, .inl (cO8, 26, .inr (.inr (.inr (.inr fL))))), (rr8, .inl (cI8, 5, .inl (fun _ => 0))), (lw, .inr (5, [.int 0, .ref (em 0), .int 0])), (lo, .inr (5, [.int 0, .ref (em 0), .int 0])), (od, .inl (cOd, 1, .inr (.inr (.inr (.inl (fun _ => 0)))))), (ou, .inl (cOut, 1, .inr (.inl gOx_7))), (m0, .inr (14, [.ref lc, .ref lp, .ref dl, .ref ff, .ref fb, .ref lw, .ref lo, .ref (em 1), .int tvx_32]))] H := hP
        have hD : va_D (fun q : Nat => s.heap.size ≤ q) [(ca, .inl (cC, 16, .inr (.inr (.inr (.inr fC))))), (c0, .inr (7, [.ref th, u1, u2, .int 0, .int 0, .int 0, .int 0])), (th, .inl (cH, 4, .inl (fun _ => 0))), (dr, .inl (cO, 26, .inr (.inr (.inr (.inr fD))))), (rr, .inl (cI, 5, .inl (fun _ => 0))), (ty0, .inl (cT, 8, .inl (fun _ => 0))), (ra0, .inl (cR, 6, .inl (fun _ => 0))), (bk, .inr (6, [.ref a0, .ref a1, .ref a2, .ref mo, .int 0])), (a0, .inl (cB0, 8, .inl (fun _ => 0))), (a1, .inl (cB1, 8, .inl (fun _ => 0))), (a2, .inl (cB2, 8, .inl (fun _ => 0))), (mo, .inl (cM, 256, .inl (fun _ => 0))), (lc, .inr (5, [.int 0, .ref (em 0), .int 0])), (lp, .inr (5, [.int 0, .ref (em 0), .int 0])), (dl, .inl (cO8, 26, .inr (.inr (.inr (.inr fL))))), (rr8, .inl (cI8, 5, .inl (fun _ => 0))), (lw, .inr (5, [.int 0, .ref (em 0), .int 0])), (lo, .inr (5, [.int 0, .ref (em 0), .int 0])), (od, .inl (cOd, 1, .inr (.inr (.inr (.inl (fun _ => 0)))))), (ou, .inl (cOut, 1, .inr (.inl gOx_7))), (m0, .inr (14, [.ref lc, .ref lp, .ref dl, .ref ff, .ref fb, .ref lw, .ref lo, .ref (em 1), .int tvx_32]))] := hD
        have hK : va_K (dC, dI) vwCl [(cC, (.object "Bothfaces$Card")), (cH, .int), (cO, (.array .int)), (cI, .int), (cT, .int), (cR, .int), (cB0, .int), (cB1, .int), (cB2, .int), (cM, .int), (cO8, (.array .int)), (cI8, .int), (cOd, .double), (cOut, .long)] s := hK
        refine W.widen (k := 147) (n := 2193) (Nat.le_of_ble_eq_true rfl) (Nat.le_of_ble_eq_true rfl) ?_
        have hw : ((y_5.toInt < 0 ∨ 7 < y_5.toInt) → r_31 = 0) ∧ (¬ (y_5.toInt < 0 ∨ 7 < y_5.toInt) → r_31 = 0) := hw
        have hw := hw.2 t_9
        rw [hw]
        obtain rfl : tvx_32 = 0 := f_34 t_9
        refine lv_istore (lv' := [(7, .int 0), (6, .int 0), (5, .int 0), (4, .ref od), (3, .ref ou), (2, .ref m0), (1, .ref x0), (0, .ref b)]) hx hb dL_law_1391 hl (by decide) rfl (fun ls hl => ?_)
        refine lv_aload_n hx hb dL_law_1393 rfl (lv_at hl 5 rfl) ?_
        have hPc := hP.sub (ws' := [(m0, .inr (14, [.ref lc, .ref lp, .ref dl, .ref ff, .ref fb, .ref lw, .ref lo, .ref (em 1), .int 0]))]) [20] rfl
        have hDc := hD.sub (ws' := [(m0, .inr (14, [.ref lc, .ref lp, .ref dl, .ref ff, .ref fb, .ref lw, .ref lo, .ref (em 1), .int 0]))]) [20] (by decide) rfl
        have hKc := hK.sub (tys' := []) [] rfl
        have hFc := va_free (wc := [(m0, .inr (14, [.ref lc, .ref lp, .ref dl, .ref ff, .ref fb, .ref lw, .ref lo, .ref (em 1), .int 0]))]) hD hS hA [20] rfl
        refine va_calli (va_runV (As := []) (rest := []) ⟨hx, hb, hml, hown, hts⟩ (c_X8_thrown l em dC dI m0 0 (.ref lc) (.ref lp) (.ref dl) (.ref ff) (.ref fb) (.ref lw) (.ref lo) (.ref (em 1)) H.size) (cwV 0 hts gT_X8_thrown rfl rfl rfl (by decide +kernel) ⟨Nat.le_of_ble_eq_true rfl, Nat.le_of_ble_eq_true rfl⟩) ⟨Pw.blind _ _ _ _ _ _ _, va_recv hKc hPc (ci := 14) (q0 := 0) rfl rfl, fun U hU hW => ⟨rfl, Pw.go hPc hKc hDc hamb hS hFc hU hW⟩⟩ rfl rfl hl.1 rfl (lv_room (Nat.le_of_ble_eq_true rfl)) dL_law_1394 ⟨Nat.le_of_ble_eq_true rfl, Nat.le_of_ble_eq_true rfl⟩) hS (fun q _ h => hFc q h) hFc (fun r_36 u t H1 locs1 ht hvm hw hB hz1 hk1 hS => ?_)
        obtain ⟨hP, hD⟩ := va_rest (wr := [(ca, .inl (cC, 16, .inr (.inr (.inr (.inr fC))))), (c0, .inr (7, [.ref th, u1, u2, .int 0, .int 0, .int 0, .int 0])), (th, .inl (cH, 4, .inl (fun _ => 0))), (dr, .inl (cO, 26, .inr (.inr (.inr (.inr fD))))), (rr, .inl (cI, 5, .inl (fun _ => 0))), (ty0, .inl (cT, 8, .inl (fun _ => 0))), (ra0, .inl (cR, 6, .inl (fun _ => 0))), (bk, .inr (6, [.ref a0, .ref a1, .ref a2, .ref mo, .int 0])), (a0, .inl (cB0, 8, .inl (fun _ => 0))), (a1, .inl (cB1, 8, .inl (fun _ => 0))), (a2, .inl (cB2, 8, .inl (fun _ => 0))), (mo, .inl (cM, 256, .inl (fun _ => 0))), (lc, .inr (5, [.int 0, .ref (em 0), .int 0])), (lp, .inr (5, [.int 0, .ref (em 0), .int 0])), (dl, .inl (cO8, 26, .inr (.inr (.inr (.inr fL))))), (rr8, .inl (cI8, 5, .inl (fun _ => 0))), (lw, .inr (5, [.int 0, .ref (em 0), .int 0])), (lo, .inr (5, [.int 0, .ref (em 0), .int 0])), (od, .inl (cOd, 1, .inr (.inr (.inr (.inl (fun _ => 0)))))), (ou, .inl (cOut, 1, .inr (.inl gOx_7)))]) hP hD [20] [0, 1, 2, 3, 4, 5, 6, 7, 8, 9, 10, 11, 12, 13, 14, 15, 16, 17, 18, 19] rfl rfl (by decide) (by decide) hk1 hFc
        generalize H1 = H at hP hS ⊢
        refine W.widen (k := 147) (n := 2193) (Nat.le_of_ble_eq_true rfl) (Nat.le_of_ble_eq_true rfl) ?_
        have hw : r_36 = 0 := hw
        rw [hw]
        refine lv_iload hx hb dL_law_1397 (lv_at hl 1 rfl) ?_
        refine lv_icmp_eq (tgt := 1404) hx hb dL_law_1399 (by decide) (fun c_37 => ?_) (fun c_37 => ?_)
        · refine lv_iload hx hb dL_law_1404 (lv_at hl 1 rfl) ?_
          refine lv_if_ne (tgt := 1421) hx hb dL_law_1406 (by decide) (fun c_38 => ?_) (fun c_38 => ?_)
          · exact absurd (by decide) c_38
          · refine lv_aload_n hx hb dL_law_1409 rfl (lv_at hl 4 rfl) ?_
            refine lv_iconst (v := 0) hx hb dL_law_1410 (by decide) ?_
            refine va_lald hx hb hK hP 19 13 rfl rfl (vp_in_iff.mpr ⟨by decide, by decide⟩) dL_law_1411 ?_
            refine lv_topl (fun k_39 ek_39 => ?_)
            obtain rfl : 0 = k_39 := (ek_39.trans (f_8 t_9)).symm
            refine lv_iload hx hb dL_law_1412 (lv_at hl 0 rfl) ?_
            refine lv_i2l (v := 0) hx hb dL_law_1414 (by decide) ?_
            refine W.lcmp hx hb dL_law_1415 ?_
            refine lv_topi (fun k_40 ek_40 => ?_)
            obtain rfl : k_40 = 0 := ek_40.trans (by decide)
            refine lv_if_eq (tgt := 1421) hx hb dL_law_1416 (by decide) (fun c_41 => ?_) (fun c_41 => ?_)
            · refine lv_goto (tgt := 2636) hx hb dL_law_1421 (by decide) ?_
              refine lv_iinc (v := 6) (lv' := [(5, .int 6), (7, .int 0), (6, .int 0), (4, .ref od), (3, .ref ou), (2, .ref m0), (1, .ref x0), (0, .ref b)]) hx hb dL_law_2636 hl (k := 2) rfl (by decide) (by decide) rfl (fun ls hl => ?_)
              refine lv_goto (tgt := 28) hx hb dL_law_2639 (by decide) ?_
              refine lv_iload hx hb dL_law_28 (lv_at hl 0 rfl) ?_
              refine lv_aload_n hx hb dL_law_30 rfl (lv_at hl 7 rfl) ?_
              refine va_slen hx hb hX hbl hbA hS dL_law_31 ?_
              refine lv_topi (fun n_42 en_42 => ?_)
              obtain rfl : n_42 = 6 := en_42.trans (by decide)
              refine lv_bipush (v := 6) hx hb dL_law_32 (by decide) ?_
              refine lv_isub hx hb dL_law_34 ?_
              refine lv_topi (fun k_43 ek_43 => ?_)
              obtain rfl : k_43 = 0 := ek_43.trans (by decide)
              refine lv_icmp_gt (tgt := 2642) hx hb dL_law_35 (by decide) (fun c_44 => ?_) (fun c_44 => ?_)
              · refine lv_iconst (v := 1) hx hb dL_law_2642 (by decide) ?_
                refine W.widen (k := 600006) (n := 7302072) (Nat.le_of_ble_eq_true rfl) (Nat.le_of_ble_eq_true rfl) ?_
                refine va_forget hS.2.2 ?_
                refine W.base ?_
                exact lw_ret (Drawn.sameBut.refl s.drawn lw_cs) hx hb hr hlocks dL_law_2643
              · exact absurd (by decide) c_44
            · exact absurd (by decide) c_41
        · exact absurd (by decide) c_37
      · exact absurd c_3 c_28
  · refine lv_iconst (v := 1) hx hb dL_law_1350 (by decide) ?_
    refine lv_goto (tgt := 1355) hx hb dL_law_1351 (by decide) ?_
    refine lv_aload_n hx hb dL_law_1355 rfl (lv_at hl 5 rfl) ?_
    refine lv_iload hx hb dL_law_1356 (lv_at hl 0 rfl) ?_
    refine lv_iconst (v := 2) hx hb dL_law_1358 (by decide) ?_
    refine lv_iadd hx hb dL_law_1359 ?_
    refine lv_topi (fun k_45 ek_45 => ?_)
    obtain rfl : k_45 = 2 := ek_45.trans (by decide)
    refine va_sld hx hb hX hbl hbA hS (vp_in_iff.mpr ⟨by decide, by decide⟩) dL_law_1360 ?_
    refine lv_topi (fun y_46 ey_46 => ?_)
    have ey_46 : y_46 = xs 2 := ey_46
    refine lv_aload_n hx hb dL_law_1361 rfl (lv_at hl 2 rfl) ?_
    have hPc := hP.sub (ws' := [(x0, .inr (11, [.ref ca, .int 0, .int 0, .ref dr, .ref ty0, .int 0, .ref sf, .ref sb, vp, vm, .ref ra0, .int 0, .ref bk])), (sf, .inr (10, [.int 0, sf1, .int 0, .int 0, .int 0, .int 1, .int 0])), (sb, .inr (10, [.int 1, sb1, .int 0, .int 0, .int 0, .int 1, .int 0])), (ou, .inl (cOut, 1, .inr (.inl (fun _ => 0))))]) [0, 7, 8, 24] rfl
    have hDc := hD.sub (ws' := [(x0, .inr (11, [.ref ca, .int 0, .int 0, .ref dr, .ref ty0, .int 0, .ref sf, .ref sb, vp, vm, .ref ra0, .int 0, .ref bk])), (sf, .inr (10, [.int 0, sf1, .int 0, .int 0, .int 0, .int 1, .int 0])), (sb, .inr (10, [.int 1, sb1, .int 0, .int 0, .int 0, .int 1, .int 0])), (ou, .inl (cOut, 1, .inr (.inl (fun _ => 0))))]) [0, 7, 8, 24] (by decide) rfl
    have hKc := hK.sub (tys' := [(cOut, .long)]) [12] rfl
    have hFc := va_free (wc := [(x0, .inr (11, [.ref ca, .int 0, .int 0, .ref dr, .ref ty0, .int 0, .ref sf, .ref sb, vp, vm, .ref ra0, .int 0, .ref bk])), (sf, .inr (10, [.int 0, sf1, .int 0, .int 0, .int 0, .int 1, .int 0])), (sb, .inr (10, [.int 1, sb1, .int 0, .int 0, .int 0, .int 1, .int 0])), (ou, .inl (cOut, 1, .inr (.inl (fun _ => 0))))]) hD hS hA [0, 7, 8, 24] rfl
    refine va_calli (vx_runSW (As := [.ref x0, .int 1, .int y_46, .ref ou]) (rest := []) ⟨hx, hb, hml, hown, hts⟩ (c_L_setGround_1 l hlt em dC dI x0 sf sb y_46 (.ref ca) (.int 0) (.int 0) (.ref dr) (.ref ty0) (.int 0) vp vm (.ref ra0) (.int 0) (.ref bk) (.int 0) sf1 (.int 0) (.int 0) (.int 0) (.int 1) sb1 (.int 0) (.int 0) (.int 0) ou cOut (fun _ => 0) H.size) (vx_cwSW 4 hts gT_L_setGround rfl rfl rfl (by decide +kernel) ⟨Nat.le_of_ble_eq_true rfl, Nat.le_of_ble_eq_true rfl⟩) ⟨Pw.blind _ _ _ _ _ _ _, fun U hU hW => ⟨rfl, Pw.go hPc hKc hDc hamb hS hFc hU hW⟩⟩ rfl rfl hl.1 rfl (lv_room (Nat.le_of_ble_eq_true rfl)) dL_law_1362 ⟨Nat.le_of_ble_eq_true rfl, Nat.le_of_ble_eq_true rfl⟩) hS (fun q _ h => hFc q h) hFc (fun r_47 u t H1 locs1 ht hvm hw hB hz1 hk1 hS => ?_)
    obtain ⟨gOx_48, ⟨hP1, hK1, hD1⟩, f_49⟩ := hB
    rw [ht] at hP1
    have hK1 := va_K.moved hvm.symm hK1
    obtain ⟨hP, hD⟩ := va_join (wr := [(ca, .inl (cC, 16, .inr (.inr (.inr (.inr fC))))), (c0, .inr (7, [.ref th, u1, u2, .int 0, .int 0, .int 0, .int 0])), (th, .inl (cH, 4, .inl (fun _ => 0))), (dr, .inl (cO, 26, .inr (.inr (.inr (.inr fD))))), (rr, .inl (cI, 5, .inl (fun _ => 0))), (ty0, .inl (cT, 8, .inl (fun _ => 0))), (ra0, .inl (cR, 6, .inl (fun _ => 0))), (bk, .inr (6, [.ref a0, .ref a1, .ref a2, .ref mo, .int 0])), (a0, .inl (cB0, 8, .inl (fun _ => 0))), (a1, .inl (cB1, 8, .inl (fun _ => 0))), (a2, .inl (cB2, 8, .inl (fun _ => 0))), (mo, .inl (cM, 256, .inl (fun _ => 0))), (m0, .inr (14, [.ref lc, .ref lp, .ref dl, .ref ff, .ref fb, .ref lw, .ref lo, .ref (em 1), .int 0])), (lc, .inr (5, [.int 0, .ref (em 0), .int 0])), (lp, .inr (5, [.int 0, .ref (em 0), .int 0])), (dl, .inl (cO8, 26, .inr (.inr (.inr (.inr fL))))), (rr8, .inl (cI8, 5, .inl (fun _ => 0))), (ff, .inr (13, [tf, .int 0, .int 0, .int 1, .int 0])), (fb, .inr (13, [tb, .int 0, .int 0, .int 1, .int 0])), (lw, .inr (5, [.int 0, .ref (em 0), .int 0])), (lo, .inr (5, [.int 0, .ref (em 0), .int 0])), (od, .inl (cOd, 1, .inr (.inr (.inr (.inl (fun _ => 0))))))]) (w1 := [(ou, .inl (cOut, 1, .inr (.inl gOx_48)))]) hP hD [0, 7, 8, 24] [1, 2, 3, 4, 5, 6, 9, 10, 11, 12, 13, 14, 15, 16, 17, 18, 19, 20, 21, 22, 23, 25] rfl rfl (by decide) (by decide) hk1 hFc hP1 hD1
    have hK := (hK.sub (tys' := [(cC, (.object "Bothfaces$Card")), (cH, .int), (cO, (.array .int)), (cI, .int), (cT, .int), (cR, .int), (cB0, .int), (cB1, .int), (cB2, .int), (cM, .int), (cO8, (.array .int)), (cI8, .int), (cOd, .double)]) [0, 1, 2, 3, 4, 5, 6, 7, 8, 9, 10, 11, 13] rfl).app hK1
    generalize H1 = H at hP hS ⊢
    have hP : va_P (dC, dI) vwCl [(ca, .inl (cC, 16, .inr (.inr (.inr (.inr fC))))), (c0, .inr (7, [.ref th, u1, u2, .int 0, .int 0, .int 0, .int 0])), (th, .inl (cH, 4, .inl (fun _ => 0))), (dr, .inl (cO, 26, .inr (.inr (.inr (.inr fD))))), (rr, .inl (cI, 5, .inl (fun _ => 0))), (ty0, .inl (cT, 8, .inl (fun _ => 0))), (ra0, .inl (cR, 6, .inl (fun _ => 0))), (bk, .inr (6, [.ref a0, .ref a1, .ref a2, .ref mo, .int 0])), (a0, .inl (cB0, 8, .inl (fun _ => 0))), (a1, .inl (cB1, 8, .inl (fun _ => 0))), (a2, .inl (cB2, 8, .inl (fun _ => 0))), (mo, .inl (cM, 256, .inl (fun _ => 0))), (m0, .inr (14, [.ref lc, .ref lp, .ref dl, .ref ff, .ref fb, .ref lw, .ref lo, .ref (em 1), .int 0])), (lc, .inr (5, [.int 0, .ref (em 0), .int 0])), (lp, .inr (5, [.int 0, .ref (em 0), .int 0])), (dl, .inl (cO8, 26, .inr (.inr (.inr (.inr fL))))), (rr8, .inl (cI8, 5, .inl (fun _ => 0))), (ff, .inr (13, [tf, .int 0, .int 0, .int 1, .int 0])), (fb, .inr (13, [tb, .int 0, .int 0, .int 1, .int 0])), (lw, .inr (5, [.int 0, .ref (em 0), .int 0])), (lo, .inr (5, [.int 0, .ref (em 0), .int 0])), (od, .inl (cOd, 1, .inr (.inr (.inr (.inl (fun _ => 0)))))), (ou, .inl (cOut, 1, .inr (.inl gOx_48)))] H := hP
    have hD : va_D (fun q : Nat => s.heap.size ≤ q) [(ca, .inl (cC, 16, .inr (.inr (.inr (.inr fC))))), (c0, .inr (7, [.ref th, u1, u2, .int 0, .int 0, .int 0, .int 0])), (th, .inl (cH, 4, .inl (fun _ => 0))), (dr, .inl (cO, 26, .inr (.inr (.inr (.inr fD))))), (rr, .inl (cI, 5, .inl (fun _ => 0))), (ty0, .inl (cT, 8, .inl (fun _ => 0))), (ra0, .inl (cR, 6, .inl (fun _ => 0))), (bk, .inr (6, [.ref a0, .ref a1, .ref a2, .ref mo, .int 0])), (a0, .inl (cB0, 8, .inl (fun _ => 0))), (a1, .inl (cB1, 8, .inl (fun _ => 0))), (a2, .inl (cB2, 8, .inl (fun _ => 0))), (mo, .inl (cM, 256, .inl (fun _ => 0))), (m0, .inr (14, [.ref lc, .ref lp, .ref dl, .ref ff, .ref fb, .ref lw, .ref lo, .ref (em 1), .int 0])), (lc, .inr (5, [.int 0, .ref (em 0), .int 0])), (lp, .inr (5, [.int 0, .ref (em 0), .int 0])), (dl, .inl (cO8, 26, .inr (.inr (.inr (.inr fL))))), (rr8, .inl (cI8, 5, .inl (fun _ => 0))), (ff, .inr (13, [tf, .int 0, .int 0, .int 1, .int 0])), (fb, .inr (13, [tb, .int 0, .int 0, .int 1, .int 0])), (lw, .inr (5, [.int 0, .ref (em 0), .int 0])), (lo, .inr (5, [.int 0, .ref (em 0), .int 0])), (od, .inl (cOd, 1, .inr (.inr (.inr (.inl (fun _ => 0)))))), (ou, .inl (cOut, 1, .inr (.inl gOx_48)))] := hD
    have hK : va_K (dC, dI) vwCl [(cC, (.object "Bothfaces$Card")), (cH, .int), (cO, (.array .int)), (cI, .int), (cT, .int), (cR, .int), (cB0, .int), (cB1, .int), (cB2, .int), (cM, .int), (cO8, (.array .int)), (cI8, .int), (cOd, .double), (cOut, .long)] s := hK
    refine W.widen (k := 147) (n := 2193) (Nat.le_of_ble_eq_true rfl) (Nat.le_of_ble_eq_true rfl) ?_
    have hw : ((y_46.toInt < 0 ∨ 7 < y_46.toInt) → r_47 = 1) ∧ (¬ (y_46.toInt < 0 ∨ 7 < y_46.toInt) → r_47 = 0) := hw
    rcases Classical.em (y_46.toInt < 0 ∨ 7 < y_46.toInt) with t_50 | t_50
    · have hw := hw.1 t_50
      rw [hw]
      refine lv_istore (lv' := [(6, .int 1), (5, .int 0), (4, .ref od), (3, .ref ou), (2, .ref m0), (1, .ref x0), (0, .ref b)]) hx hb dL_law_1365 hl (by decide) rfl (fun ls hl => ?_)
      refine lv_aload_n hx hb dL_law_1367 rfl (lv_at hl 4 rfl) ?_
      refine lv_aload_n hx hb dL_law_1368 rfl (lv_at hl 6 rfl) ?_
      refine lv_iload hx hb dL_law_1369 (lv_at hl 1 rfl) ?_
      refine lv_iconst (v := 1) hx hb dL_law_1371 (by decide) ?_
      refine lv_iadd hx hb dL_law_1372 ?_
      refine lv_topi (fun k_51 ek_51 => ?_)
      obtain rfl : k_51 = 1 := ek_51.trans (by decide)
      refine va_sld hx hb hX hbl hbA hS (vp_in_iff.mpr ⟨by decide, by decide⟩) dL_law_1373 ?_
      refine lv_topi (fun y_52 ey_52 => ?_)
      have ey_52 : y_52 = xs 1 := ey_52
      obtain rfl : y_2 = y_52 := ey_2.trans ey_52.symm
      refine lv_if_eq (tgt := 1381) hx hb dL_law_1374 (by decide) (fun c_53 => ?_) (fun c_53 => ?_)
      · exact absurd c_53 c_3
      · refine lv_iconst (v := 1) hx hb dL_law_1377 (by decide) ?_
        refine lv_goto (tgt := 1382) hx hb dL_law_1378 (by decide) ?_
        refine lv_aload_n hx hb dL_law_1382 rfl (lv_at hl 6 rfl) ?_
        refine lv_iload hx hb dL_law_1383 (lv_at hl 1 rfl) ?_
        refine lv_iconst (v := 2) hx hb dL_law_1385 (by decide) ?_
        refine lv_iadd hx hb dL_law_1386 ?_
        refine lv_topi (fun k_54 ek_54 => ?_)
        obtain rfl : k_54 = 2 := ek_54.trans (by decide)
        refine va_sld hx hb hX hbl hbA hS (vp_in_iff.mpr ⟨by decide, by decide⟩) dL_law_1387 ?_
        refine lv_topi (fun y_55 ey_55 => ?_)
        have ey_55 : y_55 = xs 2 := ey_55
        obtain rfl : y_46 = y_55 := ey_46.trans ey_55.symm
        have hPc := hP.sub (ws' := [(m0, .inr (14, [.ref lc, .ref lp, .ref dl, .ref ff, .ref fb, .ref lw, .ref lo, .ref (em 1), .int 0])), (ff, .inr (13, [tf, .int 0, .int 0, .int 1, .int 0])), (fb, .inr (13, [tb, .int 0, .int 0, .int 1, .int 0]))]) [12, 17, 18] rfl
        have hDc := hD.sub (ws' := [(m0, .inr (14, [.ref lc, .ref lp, .ref dl, .ref ff, .ref fb, .ref lw, .ref lo, .ref (em 1), .int 0])), (ff, .inr (13, [tf, .int 0, .int 0, .int 1, .int 0])), (fb, .inr (13, [tb, .int 0, .int 0, .int 1, .int 0]))]) [12, 17, 18] (by decide) rfl
        have hKc := hK.sub (tys' := []) [] rfl
        have hFc := va_free (wc := [(m0, .inr (14, [.ref lc, .ref lp, .ref dl, .ref ff, .ref fb, .ref lw, .ref lo, .ref (em 1), .int 0])), (ff, .inr (13, [tf, .int 0, .int 0, .int 1, .int 0])), (fb, .inr (13, [tb, .int 0, .int 0, .int 1, .int 0]))]) hD hS hA [12, 17, 18] rfl
        refine va_calli (va_runV (As := [.int 1, .int y_46]) (rest := []) ⟨hx, hb, hml, hown, hts⟩ (c_X8_setGround_1 l em dC dI m0 y_46 (.ref lc) (.ref lp) (.ref dl) (.ref lw) (.ref lo) (.ref (em 1)) (.int 0) ff fb tf tb H.size) (cwV 2 hts gT_X8_setGround rfl rfl rfl (by decide +kernel) ⟨Nat.le_of_ble_eq_true rfl, Nat.le_of_ble_eq_true rfl⟩) ⟨Pw.blind _ _ _ _ _ _ _, va_recv hKc hPc (ci := 14) (q0 := 0) rfl rfl, fun U hU hW => ⟨rfl, Pw.go hPc hKc hDc hamb hS hFc hU hW⟩⟩ rfl rfl hl.1 rfl (lv_room (Nat.le_of_ble_eq_true rfl)) dL_law_1388 ⟨Nat.le_of_ble_eq_true rfl, Nat.le_of_ble_eq_true rfl⟩) hS (fun q _ h => hFc q h) hFc (fun r_56 u t H1 locs1 ht hvm hw hB hz1 hk1 hS => ?_)
        obtain ⟨tvx_57, ⟨hP1, hK1, hD1⟩, f_58, f_59⟩ := hB
        rw [ht] at hP1
        have hK1 := va_K.moved hvm.symm hK1
        obtain ⟨hP, hD⟩ := va_join (wr := [(ca, .inl (cC, 16, .inr (.inr (.inr (.inr fC))))), (c0, .inr (7, [.ref th, u1, u2, .int 0, .int 0, .int 0, .int 0])), (th, .inl (cH, 4, .inl (fun _ => 0))), (dr, .inl (cO, 26, .inr (.inr (.inr (.inr fD))))), (rr, .inl (cI, 5, .inl (fun _ => 0))), (ty0, .inl (cT, 8, .inl (fun _ => 0))), (ra0, .inl (cR, 6, .inl (fun _ => 0))), (bk, .inr (6, [.ref a0, .ref a1, .ref a2, .ref mo, .int 0])), (a0, .inl (cB0, 8, .inl (fun _ => 0))), (a1, .inl (cB1, 8, .inl (fun _ => 0))), (a2, .inl (cB2, 8, .inl (fun _ => 0))), (mo, .inl (cM, 256, .inl (fun _ => 0))), (lc, .inr (5, [.int 0, .ref (em 0), .int 0])), (lp, .inr (5, [.int 0, .ref (em 0), .int 0])), (dl, .inl (cO8, 26, .inr (.inr (.inr (.inr fL))))), (rr8, .inl (cI8, 5, .inl (fun _ => 0))), (lw, .inr (5, [.int 0, .ref (em 0), .int 0])), (lo, .inr (5, [.int 0, .ref (em 0), .int 0])), (od, .inl (cOd, 1, .inr (.inr (.inr (.inl (fun _ => 0)))))), (ou, .inl (cOut, 1, .inr (.inl gOx_48)))]) (w1 := [(m0, .inr (14, [.ref lc, .ref lp, .ref dl, .ref ff, .ref fb, .ref lw, .ref lo, .ref (em 1), .int tvx_57]))]) hP hD [12, 17, 18] [0, 1, 2, 3, 4, 5, 6, 7, 8, 9, 10, 11, 13, 14, 15, 16, 19, 20, 21, 22] rfl rfl (by decide) (by decide) hk1 hFc hP1 hD1
        have hK := (hK.sub (tys' := [(cC, (.object "Bothfaces$Card")), (cH, .int), (cO, (.array .int)), (cI, .int), (cT, .int), (cR, .int), (cB0, .int), (cB1, .int), (cB2, .int), (cM, .int), (cO8, (.array .int)), (cI8, .int), (cOd, .double), (cOut, .long)]) [0, 1, 2, 3, 4, 5, 6, 7, 8, 9, 10, 11, 12, 13] rfl).app hK1
        generalize H1 = H at hP hS ⊢
        have hP : va_P (dC, dI) vwCl [(ca, .inl (cC, 16, .inr (.inr (.inr (.inr fC))))), (c0, .inr (7, [.ref th, u1, u2, .int 0, .int 0, .int 0, .int 0])), (th, .inl (cH, 4, .inl (fun _ => 0))), (dr, .inl (cO, 26, .inr (.inr (.inr (.inr fD))))), (rr, .inl (cI, 5, .inl (fun _ => 0))), (ty0, .inl (cT, 8, .inl (fun _ => 0))), (ra0, .inl (cR, 6, .inl (fun _ => 0))), (bk, .inr (6, [.ref a0, .ref a1, .ref a2, .ref mo, .int 0])), (a0, .inl (cB0, 8, .inl (fun _ => 0))), (a1, .inl (cB1, 8, .inl (fun _ => 0))), (a2, .inl (cB2, 8, .inl (fun _ => 0))), (mo, .inl (cM, 256, .inl (fun _ => 0))), (lc, .inr (5, [.int 0, .ref (em 0), .int 0])), (lp, .inr (5, [.int 0, .ref (em 0), .int 0])), (dl, .inl (cO8, 26, .inr (.inr (.inr (.inr fL))))), (rr8, .inl (cI8, 5, .inl (fun _ => 0))), (lw, .inr (5, [.int 0, .ref (em 0), .int 0])), (lo, .inr (5, [.int 0, .ref (em 0), .int 0])), (od, .inl (cOd, 1, .inr (.inr (.inr (.inl (fun _ => 0)))))), (ou, .inl (cOut, 1, .inr (.inl gOx_48))), (m0, .inr (14, [.ref lc, .ref lp, .ref dl, .ref ff, .ref fb, .ref lw, .ref lo, .ref (em 1), .int tvx_57]))] H := hP
        have hD : va_D (fun q : Nat => s.heap.size ≤ q) [(ca, .inl (cC, 16, .inr (.inr (.inr (.inr fC))))), (c0, .inr (7, [.ref th, u1, u2, .int 0, .int 0, .int 0, .int 0])), (th, .inl (cH, 4, .inl (fun _ => 0))), (dr, .inl (cO, 26, .inr (.inr (.inr (.inr fD))))), (rr, .inl (cI, 5, .inl (fun _ => 0))), (ty0, .inl (cT, 8, .inl (fun _ => 0))), (ra0, .inl (cR, 6, .inl (fun _ => 0))), (bk, .inr (6, [.ref a0, .ref a1, .ref a2, .ref mo, .int 0])), (a0, .inl (cB0, 8, .inl (fun _ => 0))), (a1, .inl (cB1, 8, .inl (fun _ => 0))), (a2, .inl (cB2, 8, .inl (fun _ => 0))), (mo, .inl (cM, 256, .inl (fun _ => 0))), (lc, .inr (5, [.int 0, .ref (em 0), .int 0])), (lp, .inr (5, [.int 0, .ref (em 0), .int 0])), (dl, .inl (cO8, 26, .inr (.inr (.inr (.inr fL))))), (rr8, .inl (cI8, 5, .inl (fun _ => 0))), (lw, .inr (5, [.int 0, .ref (em 0), .int 0])), (lo, .inr (5, [.int 0, .ref (em 0), .int 0])), (od, .inl (cOd, 1, .inr (.inr (.inr (.inl (fun _ => 0)))))), (ou, .inl (cOut, 1, .inr (.inl gOx_48))), (m0, .inr (14, [.ref lc, .ref lp, .ref dl, .ref ff, .ref fb, .ref lw, .ref lo, .ref (em 1), .int tvx_57]))] := hD
        have hK : va_K (dC, dI) vwCl [(cC, (.object "Bothfaces$Card")), (cH, .int), (cO, (.array .int)), (cI, .int), (cT, .int), (cR, .int), (cB0, .int), (cB1, .int), (cB2, .int), (cM, .int), (cO8, (.array .int)), (cI8, .int), (cOd, .double), (cOut, .long)] s := hK
        refine W.widen (k := 147) (n := 2193) (Nat.le_of_ble_eq_true rfl) (Nat.le_of_ble_eq_true rfl) ?_
        have hw : ((y_46.toInt < 0 ∨ 7 < y_46.toInt) → r_56 = 0) ∧ (¬ (y_46.toInt < 0 ∨ 7 < y_46.toInt) → r_56 = 0) := hw
        have hw := hw.1 t_50
        rw [hw]
        obtain rfl : tvx_57 = 1 := f_58 t_50
        refine lv_istore (lv' := [(7, .int 0), (6, .int 1), (5, .int 0), (4, .ref od), (3, .ref ou), (2, .ref m0), (1, .ref x0), (0, .ref b)]) hx hb dL_law_1391 hl (by decide) rfl (fun ls hl => ?_)
        refine lv_aload_n hx hb dL_law_1393 rfl (lv_at hl 5 rfl) ?_
        have hPc := hP.sub (ws' := [(m0, .inr (14, [.ref lc, .ref lp, .ref dl, .ref ff, .ref fb, .ref lw, .ref lo, .ref (em 1), .int 1]))]) [20] rfl
        have hDc := hD.sub (ws' := [(m0, .inr (14, [.ref lc, .ref lp, .ref dl, .ref ff, .ref fb, .ref lw, .ref lo, .ref (em 1), .int 1]))]) [20] (by decide) rfl
        have hKc := hK.sub (tys' := []) [] rfl
        have hFc := va_free (wc := [(m0, .inr (14, [.ref lc, .ref lp, .ref dl, .ref ff, .ref fb, .ref lw, .ref lo, .ref (em 1), .int 1]))]) hD hS hA [20] rfl
        refine va_calli (va_runV (As := []) (rest := []) ⟨hx, hb, hml, hown, hts⟩ (c_X8_thrown l em dC dI m0 1 (.ref lc) (.ref lp) (.ref dl) (.ref ff) (.ref fb) (.ref lw) (.ref lo) (.ref (em 1)) H.size) (cwV 0 hts gT_X8_thrown rfl rfl rfl (by decide +kernel) ⟨Nat.le_of_ble_eq_true rfl, Nat.le_of_ble_eq_true rfl⟩) ⟨Pw.blind _ _ _ _ _ _ _, va_recv hKc hPc (ci := 14) (q0 := 0) rfl rfl, fun U hU hW => ⟨rfl, Pw.go hPc hKc hDc hamb hS hFc hU hW⟩⟩ rfl rfl hl.1 rfl (lv_room (Nat.le_of_ble_eq_true rfl)) dL_law_1394 ⟨Nat.le_of_ble_eq_true rfl, Nat.le_of_ble_eq_true rfl⟩) hS (fun q _ h => hFc q h) hFc (fun r_61 u t H1 locs1 ht hvm hw hB hz1 hk1 hS => ?_)
        obtain ⟨hP, hD⟩ := va_rest (wr := [(ca, .inl (cC, 16, .inr (.inr (.inr (.inr fC))))), (c0, .inr (7, [.ref th, u1, u2, .int 0, .int 0, .int 0, .int 0])), (th, .inl (cH, 4, .inl (fun _ => 0))), (dr, .inl (cO, 26, .inr (.inr (.inr (.inr fD))))), (rr, .inl (cI, 5, .inl (fun _ => 0))), (ty0, .inl (cT, 8, .inl (fun _ => 0))), (ra0, .inl (cR, 6, .inl (fun _ => 0))), (bk, .inr (6, [.ref a0, .ref a1, .ref a2, .ref mo, .int 0])), (a0, .inl (cB0, 8, .inl (fun _ => 0))), (a1, .inl (cB1, 8, .inl (fun _ => 0))), (a2, .inl (cB2, 8, .inl (fun _ => 0))), (mo, .inl (cM, 256, .inl (fun _ => 0))), (lc, .inr (5, [.int 0, .ref (em 0), .int 0])), (lp, .inr (5, [.int 0, .ref (em 0), .int 0])), (dl, .inl (cO8, 26, .inr (.inr (.inr (.inr fL))))), (rr8, .inl (cI8, 5, .inl (fun _ => 0))), (lw, .inr (5, [.int 0, .ref (em 0), .int 0])), (lo, .inr (5, [.int 0, .ref (em 0), .int 0])), (od, .inl (cOd, 1, .inr (.inr (.inr (.inl (fun _ => 0)))))), (ou, .inl (cOut, 1, .inr (.inl gOx_48)))]) hP hD [20] [0, 1, 2, 3, 4, 5, 6, 7, 8, 9, 10, 11, 12, 13, 14, 15, 16, 17, 18, 19] rfl rfl (by decide) (by decide) hk1 hFc
        generalize H1 = H at hP hS ⊢
        refine W.widen (k := 147) (n := 2193) (Nat.le_of_ble_eq_true rfl) (Nat.le_of_ble_eq_true rfl) ?_
        have hw : r_61 = 1 := hw
        rw [hw]
        refine lv_iload hx hb dL_law_1397 (lv_at hl 1 rfl) ?_
        refine lv_icmp_eq (tgt := 1404) hx hb dL_law_1399 (by decide) (fun c_62 => ?_) (fun c_62 => ?_)
        · refine lv_iload hx hb dL_law_1404 (lv_at hl 1 rfl) ?_
          refine lv_if_ne (tgt := 1421) hx hb dL_law_1406 (by decide) (fun c_63 => ?_) (fun c_63 => ?_)
          · refine lv_goto (tgt := 2636) hx hb dL_law_1421 (by decide) ?_
            refine lv_iinc (v := 6) (lv' := [(5, .int 6), (7, .int 0), (6, .int 1), (4, .ref od), (3, .ref ou), (2, .ref m0), (1, .ref x0), (0, .ref b)]) hx hb dL_law_2636 hl (k := 2) rfl (by decide) (by decide) rfl (fun ls hl => ?_)
            refine lv_goto (tgt := 28) hx hb dL_law_2639 (by decide) ?_
            refine lv_iload hx hb dL_law_28 (lv_at hl 0 rfl) ?_
            refine lv_aload_n hx hb dL_law_30 rfl (lv_at hl 7 rfl) ?_
            refine va_slen hx hb hX hbl hbA hS dL_law_31 ?_
            refine lv_topi (fun n_64 en_64 => ?_)
            obtain rfl : n_64 = 6 := en_64.trans (by decide)
            refine lv_bipush (v := 6) hx hb dL_law_32 (by decide) ?_
            refine lv_isub hx hb dL_law_34 ?_
            refine lv_topi (fun k_65 ek_65 => ?_)
            obtain rfl : k_65 = 0 := ek_65.trans (by decide)
            refine lv_icmp_gt (tgt := 2642) hx hb dL_law_35 (by decide) (fun c_66 => ?_) (fun c_66 => ?_)
            · refine lv_iconst (v := 1) hx hb dL_law_2642 (by decide) ?_
              refine W.widen (k := 600006) (n := 7302072) (Nat.le_of_ble_eq_true rfl) (Nat.le_of_ble_eq_true rfl) ?_
              refine va_forget hS.2.2 ?_
              refine W.base ?_
              exact lw_ret (Drawn.sameBut.refl s.drawn lw_cs) hx hb hr hlocks dL_law_2643
            · exact absurd (by decide) c_66
          · exact absurd c_63 (by decide)
        · exact absurd (by decide) c_62
    · have hw := hw.2 t_50
      rw [hw]
      refine lv_istore (lv' := [(6, .int 0), (5, .int 0), (4, .ref od), (3, .ref ou), (2, .ref m0), (1, .ref x0), (0, .ref b)]) hx hb dL_law_1365 hl (by decide) rfl (fun ls hl => ?_)
      refine lv_aload_n hx hb dL_law_1367 rfl (lv_at hl 4 rfl) ?_
      refine lv_aload_n hx hb dL_law_1368 rfl (lv_at hl 6 rfl) ?_
      refine lv_iload hx hb dL_law_1369 (lv_at hl 1 rfl) ?_
      refine lv_iconst (v := 1) hx hb dL_law_1371 (by decide) ?_
      refine lv_iadd hx hb dL_law_1372 ?_
      refine lv_topi (fun k_67 ek_67 => ?_)
      obtain rfl : k_67 = 1 := ek_67.trans (by decide)
      refine va_sld hx hb hX hbl hbA hS (vp_in_iff.mpr ⟨by decide, by decide⟩) dL_law_1373 ?_
      refine lv_topi (fun y_68 ey_68 => ?_)
      have ey_68 : y_68 = xs 1 := ey_68
      obtain rfl : y_2 = y_68 := ey_2.trans ey_68.symm
      refine lv_if_eq (tgt := 1381) hx hb dL_law_1374 (by decide) (fun c_69 => ?_) (fun c_69 => ?_)
      · exact absurd c_69 c_3
      · refine lv_iconst (v := 1) hx hb dL_law_1377 (by decide) ?_
        refine lv_goto (tgt := 1382) hx hb dL_law_1378 (by decide) ?_
        refine lv_aload_n hx hb dL_law_1382 rfl (lv_at hl 6 rfl) ?_
        refine lv_iload hx hb dL_law_1383 (lv_at hl 1 rfl) ?_
        refine lv_iconst (v := 2) hx hb dL_law_1385 (by decide) ?_
        refine lv_iadd hx hb dL_law_1386 ?_
        refine lv_topi (fun k_70 ek_70 => ?_)
        obtain rfl : k_70 = 2 := ek_70.trans (by decide)
        refine va_sld hx hb hX hbl hbA hS (vp_in_iff.mpr ⟨by decide, by decide⟩) dL_law_1387 ?_
        refine lv_topi (fun y_71 ey_71 => ?_)
        have ey_71 : y_71 = xs 2 := ey_71
        obtain rfl : y_46 = y_71 := ey_46.trans ey_71.symm
        have hPc := hP.sub (ws' := [(m0, .inr (14, [.ref lc, .ref lp, .ref dl, .ref ff, .ref fb, .ref lw, .ref lo, .ref (em 1), .int 0])), (ff, .inr (13, [tf, .int 0, .int 0, .int 1, .int 0])), (fb, .inr (13, [tb, .int 0, .int 0, .int 1, .int 0]))]) [12, 17, 18] rfl
        have hDc := hD.sub (ws' := [(m0, .inr (14, [.ref lc, .ref lp, .ref dl, .ref ff, .ref fb, .ref lw, .ref lo, .ref (em 1), .int 0])), (ff, .inr (13, [tf, .int 0, .int 0, .int 1, .int 0])), (fb, .inr (13, [tb, .int 0, .int 0, .int 1, .int 0]))]) [12, 17, 18] (by decide) rfl
        have hKc := hK.sub (tys' := []) [] rfl
        have hFc := va_free (wc := [(m0, .inr (14, [.ref lc, .ref lp, .ref dl, .ref ff, .ref fb, .ref lw, .ref lo, .ref (em 1), .int 0])), (ff, .inr (13, [tf, .int 0, .int 0, .int 1, .int 0])), (fb, .inr (13, [tb, .int 0, .int 0, .int 1, .int 0]))]) hD hS hA [12, 17, 18] rfl
        refine va_calli (va_runV (As := [.int 1, .int y_46]) (rest := []) ⟨hx, hb, hml, hown, hts⟩ (c_X8_setGround_1 l em dC dI m0 y_46 (.ref lc) (.ref lp) (.ref dl) (.ref lw) (.ref lo) (.ref (em 1)) (.int 0) ff fb tf tb H.size) (cwV 2 hts gT_X8_setGround rfl rfl rfl (by decide +kernel) ⟨Nat.le_of_ble_eq_true rfl, Nat.le_of_ble_eq_true rfl⟩) ⟨Pw.blind _ _ _ _ _ _ _, va_recv hKc hPc (ci := 14) (q0 := 0) rfl rfl, fun U hU hW => ⟨rfl, Pw.go hPc hKc hDc hamb hS hFc hU hW⟩⟩ rfl rfl hl.1 rfl (lv_room (Nat.le_of_ble_eq_true rfl)) dL_law_1388 ⟨Nat.le_of_ble_eq_true rfl, Nat.le_of_ble_eq_true rfl⟩) hS (fun q _ h => hFc q h) hFc (fun r_72 u t H1 locs1 ht hvm hw hB hz1 hk1 hS => ?_)
        obtain ⟨tvx_73, ⟨hP1, hK1, hD1⟩, f_74, f_75⟩ := hB
        rw [ht] at hP1
        have hK1 := va_K.moved hvm.symm hK1
        obtain ⟨hP, hD⟩ := va_join (wr := [(ca, .inl (cC, 16, .inr (.inr (.inr (.inr fC))))), (c0, .inr (7, [.ref th, u1, u2, .int 0, .int 0, .int 0, .int 0])), (th, .inl (cH, 4, .inl (fun _ => 0))), (dr, .inl (cO, 26, .inr (.inr (.inr (.inr fD))))), (rr, .inl (cI, 5, .inl (fun _ => 0))), (ty0, .inl (cT, 8, .inl (fun _ => 0))), (ra0, .inl (cR, 6, .inl (fun _ => 0))), (bk, .inr (6, [.ref a0, .ref a1, .ref a2, .ref mo, .int 0])), (a0, .inl (cB0, 8, .inl (fun _ => 0))), (a1, .inl (cB1, 8, .inl (fun _ => 0))), (a2, .inl (cB2, 8, .inl (fun _ => 0))), (mo, .inl (cM, 256, .inl (fun _ => 0))), (lc, .inr (5, [.int 0, .ref (em 0), .int 0])), (lp, .inr (5, [.int 0, .ref (em 0), .int 0])), (dl, .inl (cO8, 26, .inr (.inr (.inr (.inr fL))))), (rr8, .inl (cI8, 5, .inl (fun _ => 0))), (lw, .inr (5, [.int 0, .ref (em 0), .int 0])), (lo, .inr (5, [.int 0, .ref (em 0), .int 0])), (od, .inl (cOd, 1, .inr (.inr (.inr (.inl (fun _ => 0)))))), (ou, .inl (cOut, 1, .inr (.inl gOx_48)))]) (w1 := [(m0, .inr (14, [.ref lc, .ref lp, .ref dl, .ref ff, .ref fb, .ref lw, .ref lo, .ref (em 1), .int tvx_73]))]) hP hD [12, 17, 18] [0, 1, 2, 3, 4, 5, 6, 7, 8, 9, 10, 11, 13, 14, 15, 16, 19, 20, 21, 22] rfl rfl (by decide) (by decide) hk1 hFc hP1 hD1
        have hK := (hK.sub (tys' := [(cC, (.object "Bothfaces$Card")), (cH, .int), (cO, (.array .int)), (cI, .int), (cT, .int), (cR, .int), (cB0, .int), (cB1, .int), (cB2, .int), (cM, .int), (cO8, (.array .int)), (cI8, .int), (cOd, .double), (cOut, .long)]) [0, 1, 2, 3, 4, 5, 6, 7, 8, 9, 10, 11, 12, 13] rfl).app hK1
        generalize H1 = H at hP hS ⊢
        have hP : va_P (dC, dI) vwCl [(ca, .inl (cC, 16, .inr (.inr (.inr (.inr fC))))), (c0, .inr (7, [.ref th, u1, u2, .int 0, .int 0, .int 0, .int 0])), (th, .inl (cH, 4, .inl (fun _ => 0))), (dr, .inl (cO, 26, .inr (.inr (.inr (.inr fD))))), (rr, .inl (cI, 5, .inl (fun _ => 0))), (ty0, .inl (cT, 8, .inl (fun _ => 0))), (ra0, .inl (cR, 6, .inl (fun _ => 0))), (bk, .inr (6, [.ref a0, .ref a1, .ref a2, .ref mo, .int 0])), (a0, .inl (cB0, 8, .inl (fun _ => 0))), (a1, .inl (cB1, 8, .inl (fun _ => 0))), (a2, .inl (cB2, 8, .inl (fun _ => 0))), (mo, .inl (cM, 256, .inl (fun _ => 0))), (lc, .inr (5, [.int 0, .ref (em 0), .int 0])), (lp, .inr (5, [.int 0, .ref (em 0), .int 0])), (dl, .inl (cO8, 26, .inr (.inr (.inr (.inr fL))))), (rr8, .inl (cI8, 5, .inl (fun _ => 0))), (lw, .inr (5, [.int 0, .ref (em 0), .int 0])), (lo, .inr (5, [.int 0, .ref (em 0), .int 0])), (od, .inl (cOd, 1, .inr (.inr (.inr (.inl (fun _ => 0)))))), (ou, .inl (cOut, 1, .inr (.inl gOx_48))), (m0, .inr (14, [.ref lc, .ref lp, .ref dl, .ref ff, .ref fb, .ref lw, .ref lo, .ref (em 1), .int tvx_73]))] H := hP
        have hD : va_D (fun q : Nat => s.heap.size ≤ q) [(ca, .inl (cC, 16, .inr (.inr (.inr (.inr fC))))), (c0, .inr (7, [.ref th, u1, u2, .int 0, .int 0, .int 0, .int 0])), (th, .inl (cH, 4, .inl (fun _ => 0))), (dr, .inl (cO, 26, .inr (.inr (.inr (.inr fD))))), (rr, .inl (cI, 5, .inl (fun _ => 0))), (ty0, .inl (cT, 8, .inl (fun _ => 0))), (ra0, .inl (cR, 6, .inl (fun _ => 0))), (bk, .inr (6, [.ref a0, .ref a1, .ref a2, .ref mo, .int 0])), (a0, .inl (cB0, 8, .inl (fun _ => 0))), (a1, .inl (cB1, 8, .inl (fun _ => 0))), (a2, .inl (cB2, 8, .inl (fun _ => 0))), (mo, .inl (cM, 256, .inl (fun _ => 0))), (lc, .inr (5, [.int 0, .ref (em 0), .int 0])), (lp, .inr (5, [.int 0, .ref (em 0), .int 0])), (dl, .inl (cO8, 26, .inr (.inr (.inr (.inr fL))))), (rr8, .inl (cI8, 5, .inl (fun _ => 0))), (lw, .inr (5, [.int 0, .ref (em 0), .int 0])), (lo, .inr (5, [.int 0, .ref (em 0), .int 0])), (od, .inl (cOd, 1, .inr (.inr (.inr (.inl (fun _ => 0)))))), (ou, .inl (cOut, 1, .inr (.inl gOx_48))), (m0, .inr (14, [.ref lc, .ref lp, .ref dl, .ref ff, .ref fb, .ref lw, .ref lo, .ref (em 1), .int tvx_73]))] := hD
        have hK : va_K (dC, dI) vwCl [(cC, (.object "Bothfaces$Card")), (cH, .int), (cO, (.array .int)), (cI, .int), (cT, .int), (cR, .int), (cB0, .int), (cB1, .int), (cB2, .int), (cM, .int), (cO8, (.array .int)), (cI8, .int), (cOd, .double), (cOut, .long)] s := hK
        refine W.widen (k := 147) (n := 2193) (Nat.le_of_ble_eq_true rfl) (Nat.le_of_ble_eq_true rfl) ?_
        have hw : ((y_46.toInt < 0 ∨ 7 < y_46.toInt) → r_72 = 0) ∧ (¬ (y_46.toInt < 0 ∨ 7 < y_46.toInt) → r_72 = 0) := hw
        have hw := hw.2 t_50
        rw [hw]
        obtain rfl : tvx_73 = 0 := f_75 t_50
        refine lv_istore (lv' := [(7, .int 0), (6, .int 0), (5, .int 0), (4, .ref od), (3, .ref ou), (2, .ref m0), (1, .ref x0), (0, .ref b)]) hx hb dL_law_1391 hl (by decide) rfl (fun ls hl => ?_)
        refine lv_aload_n hx hb dL_law_1393 rfl (lv_at hl 5 rfl) ?_
        have hPc := hP.sub (ws' := [(m0, .inr (14, [.ref lc, .ref lp, .ref dl, .ref ff, .ref fb, .ref lw, .ref lo, .ref (em 1), .int 0]))]) [20] rfl
        have hDc := hD.sub (ws' := [(m0, .inr (14, [.ref lc, .ref lp, .ref dl, .ref ff, .ref fb, .ref lw, .ref lo, .ref (em 1), .int 0]))]) [20] (by decide) rfl
        have hKc := hK.sub (tys' := []) [] rfl
        have hFc := va_free (wc := [(m0, .inr (14, [.ref lc, .ref lp, .ref dl, .ref ff, .ref fb, .ref lw, .ref lo, .ref (em 1), .int 0]))]) hD hS hA [20] rfl
        refine va_calli (va_runV (As := []) (rest := []) ⟨hx, hb, hml, hown, hts⟩ (c_X8_thrown l em dC dI m0 0 (.ref lc) (.ref lp) (.ref dl) (.ref ff) (.ref fb) (.ref lw) (.ref lo) (.ref (em 1)) H.size) (cwV 0 hts gT_X8_thrown rfl rfl rfl (by decide +kernel) ⟨Nat.le_of_ble_eq_true rfl, Nat.le_of_ble_eq_true rfl⟩) ⟨Pw.blind _ _ _ _ _ _ _, va_recv hKc hPc (ci := 14) (q0 := 0) rfl rfl, fun U hU hW => ⟨rfl, Pw.go hPc hKc hDc hamb hS hFc hU hW⟩⟩ rfl rfl hl.1 rfl (lv_room (Nat.le_of_ble_eq_true rfl)) dL_law_1394 ⟨Nat.le_of_ble_eq_true rfl, Nat.le_of_ble_eq_true rfl⟩) hS (fun q _ h => hFc q h) hFc (fun r_77 u t H1 locs1 ht hvm hw hB hz1 hk1 hS => ?_)
        obtain ⟨hP, hD⟩ := va_rest (wr := [(ca, .inl (cC, 16, .inr (.inr (.inr (.inr fC))))), (c0, .inr (7, [.ref th, u1, u2, .int 0, .int 0, .int 0, .int 0])), (th, .inl (cH, 4, .inl (fun _ => 0))), (dr, .inl (cO, 26, .inr (.inr (.inr (.inr fD))))), (rr, .inl (cI, 5, .inl (fun _ => 0))), (ty0, .inl (cT, 8, .inl (fun _ => 0))), (ra0, .inl (cR, 6, .inl (fun _ => 0))), (bk, .inr (6, [.ref a0, .ref a1, .ref a2, .ref mo, .int 0])), (a0, .inl (cB0, 8, .inl (fun _ => 0))), (a1, .inl (cB1, 8, .inl (fun _ => 0))), (a2, .inl (cB2, 8, .inl (fun _ => 0))), (mo, .inl (cM, 256, .inl (fun _ => 0))), (lc, .inr (5, [.int 0, .ref (em 0), .int 0])), (lp, .inr (5, [.int 0, .ref (em 0), .int 0])), (dl, .inl (cO8, 26, .inr (.inr (.inr (.inr fL))))), (rr8, .inl (cI8, 5, .inl (fun _ => 0))), (lw, .inr (5, [.int 0, .ref (em 0), .int 0])), (lo, .inr (5, [.int 0, .ref (em 0), .int 0])), (od, .inl (cOd, 1, .inr (.inr (.inr (.inl (fun _ => 0)))))), (ou, .inl (cOut, 1, .inr (.inl gOx_48)))]) hP hD [20] [0, 1, 2, 3, 4, 5, 6, 7, 8, 9, 10, 11, 12, 13, 14, 15, 16, 17, 18, 19] rfl rfl (by decide) (by decide) hk1 hFc
        generalize H1 = H at hP hS ⊢
        refine W.widen (k := 147) (n := 2193) (Nat.le_of_ble_eq_true rfl) (Nat.le_of_ble_eq_true rfl) ?_
        have hw : r_77 = 0 := hw
        rw [hw]
        refine lv_iload hx hb dL_law_1397 (lv_at hl 1 rfl) ?_
        refine lv_icmp_eq (tgt := 1404) hx hb dL_law_1399 (by decide) (fun c_78 => ?_) (fun c_78 => ?_)
        · refine lv_iload hx hb dL_law_1404 (lv_at hl 1 rfl) ?_
          refine lv_if_ne (tgt := 1421) hx hb dL_law_1406 (by decide) (fun c_79 => ?_) (fun c_79 => ?_)
          · exact absurd (by decide) c_79
          · refine lv_aload_n hx hb dL_law_1409 rfl (lv_at hl 4 rfl) ?_
            refine lv_iconst (v := 0) hx hb dL_law_1410 (by decide) ?_
            refine va_lald hx hb hK hP 19 13 rfl rfl (vp_in_iff.mpr ⟨by decide, by decide⟩) dL_law_1411 ?_
            refine lv_topl (fun k_80 ek_80 => ?_)
            obtain rfl : 0 = k_80 := (ek_80.trans (f_49 t_50)).symm
            refine lv_iload hx hb dL_law_1412 (lv_at hl 0 rfl) ?_
            refine lv_i2l (v := 0) hx hb dL_law_1414 (by decide) ?_
            refine W.lcmp hx hb dL_law_1415 ?_
            refine lv_topi (fun k_81 ek_81 => ?_)
            obtain rfl : k_81 = 0 := ek_81.trans (by decide)
            refine lv_if_eq (tgt := 1421) hx hb dL_law_1416 (by decide) (fun c_82 => ?_) (fun c_82 => ?_)
            · refine lv_goto (tgt := 2636) hx hb dL_law_1421 (by decide) ?_
              refine lv_iinc (v := 6) (lv' := [(5, .int 6), (7, .int 0), (6, .int 0), (4, .ref od), (3, .ref ou), (2, .ref m0), (1, .ref x0), (0, .ref b)]) hx hb dL_law_2636 hl (k := 2) rfl (by decide) (by decide) rfl (fun ls hl => ?_)
              refine lv_goto (tgt := 28) hx hb dL_law_2639 (by decide) ?_
              refine lv_iload hx hb dL_law_28 (lv_at hl 0 rfl) ?_
              refine lv_aload_n hx hb dL_law_30 rfl (lv_at hl 7 rfl) ?_
              refine va_slen hx hb hX hbl hbA hS dL_law_31 ?_
              refine lv_topi (fun n_83 en_83 => ?_)
              obtain rfl : n_83 = 6 := en_83.trans (by decide)
              refine lv_bipush (v := 6) hx hb dL_law_32 (by decide) ?_
              refine lv_isub hx hb dL_law_34 ?_
              refine lv_topi (fun k_84 ek_84 => ?_)
              obtain rfl : k_84 = 0 := ek_84.trans (by decide)
              refine lv_icmp_gt (tgt := 2642) hx hb dL_law_35 (by decide) (fun c_85 => ?_) (fun c_85 => ?_)
              · refine lv_iconst (v := 1) hx hb dL_law_2642 (by decide) ?_
                refine W.widen (k := 600006) (n := 7302072) (Nat.le_of_ble_eq_true rfl) (Nat.le_of_ble_eq_true rfl) ?_
                refine va_forget hS.2.2 ?_
                refine W.base ?_
                exact lw_ret (Drawn.sameBut.refl s.drawn lw_cs) hx hb hr hlocks dL_law_2643
              · exact absurd (by decide) c_85
            · exact absurd (by decide) c_82
        · exact absurd (by decide) c_78

set_option maxHeartbeats 4000000 in
set_option maxRecDepth 100000 in
theorem law_19 {p : Program} {e : Env} {s : State} {m : MethodId} {below : List Frame} {meth : Method} {c : Code} (l : Launch) (hlt : l.stackTraces = false) {b : Nat} {xs : Nat → Int32} (C0 : lw_At p s m meth c b 6 xs) (em : Nat → Nat) (dC : Nat → ClassId) (dI : Nat → Nat → Nat) (j : Nat) (hjj : ∀ z : Int32, z = ((xs 1).toUInt32 % 65536).toInt32 → 97 ≤ z.toInt → z.toInt ≤ 122 → (z - 97).toNatClampNeg = j) (x0 : Nat) (ca : Nat) (dr : Nat) (ty0 : Nat) (sf : Nat) (sb : Nat) (ra0 : Nat) (bk : Nat) (c0 : Nat) (th : Nat) (rr : Nat) (a0 : Nat) (a1 : Nat) (a2 : Nat) (mo : Nat) (vp : Value) (vm : Value) (u1 : Value) (u2 : Value) (sf1 : Value) (sb1 : Value) (fC : Nat → Option Nat) (fD : Nat → Option Nat) (cC : ClassId) (cH : ClassId) (cO : ClassId) (cI : ClassId) (cT : ClassId) (cR : ClassId) (cB0 : ClassId) (cB1 : ClassId) (cB2 : ClassId) (cM : ClassId) (m0 : Nat) (lc : Nat) (lp : Nat) (dl : Nat) (rr8 : Nat) (ff : Nat) (fb : Nat) (lw : Nat) (lo : Nat) (tf : Value) (tb : Value) (fL : Nat → Option Nat) (cO8 : ClassId) (cI8 : ClassId) (ou : Nat) (od : Nat) (cOut : ClassId) (cOd : ClassId) (hfC : fC 0 = some c0) (hfD : fD j = some rr) (hfL : fL j = some rr8) {H : Heap} {locs : List Loc} (hamb : amb em (fun q : Nat => s.heap.size ≤ q) s s.heap) (hK : va_K (dC, dI) vwCl [(cC, (.object "Bothfaces$Card")), (cH, .int), (cO, (.array .int)), (cI, .int), (cT, .int), (cR, .int), (cB0, .int), (cB1, .int), (cB2, .int), (cM, .int), (cO8, (.array .int)), (cI8, .int), (cOut, .long), (cOd, .double)] s) (hP : va_P (dC, dI) vwCl [(x0, .inr (11, [.ref ca, .int 0, .int 0, .ref dr, .ref ty0, .int 0, .ref sf, .ref sb, vp, vm, .ref ra0, .int 0, .ref bk])), (ca, .inl (cC, 16, .inr (.inr (.inr (.inr fC))))), (c0, .inr (7, [.ref th, u1, u2, .int 0, .int 0, .int 0, .int 0])), (th, .inl (cH, 4, .inl (fun _ => 0))), (dr, .inl (cO, 26, .inr (.inr (.inr (.inr fD))))), (rr, .inl (cI, 5, .inl (fun _ => 0))), (ty0, .inl (cT, 8, .inl (fun _ => 0))), (sf, .inr (10, [.int 0, sf1, .int 0, .int 0, .int 0, .int 1, .int 0])), (sb, .inr (10, [.int 1, sb1, .int 0, .int 0, .int 0, .int 1, .int 0])), (ra0, .inl (cR, 6, .inl (fun _ => 0))), (bk, .inr (6, [.ref a0, .ref a1, .ref a2, .ref mo, .int 0])), (a0, .inl (cB0, 8, .inl (fun _ => 0))), (a1, .inl (cB1, 8, .inl (fun _ => 0))), (a2, .inl (cB2, 8, .inl (fun _ => 0))), (mo, .inl (cM, 256, .inl (fun _ => 0))), (m0, .inr (14, [.ref lc, .ref lp, .ref dl, .ref ff, .ref fb, .ref lw, .ref lo, .ref (em 1), .int 0])), (lc, .inr (5, [.int 0, .ref (em 0), .int 0])), (lp, .inr (5, [.int 0, .ref (em 0), .int 0])), (dl, .inl (cO8, 26, .inr (.inr (.inr (.inr fL))))), (rr8, .inl (cI8, 5, .inl (fun _ => 0))), (ff, .inr (13, [tf, .int 0, .int 0, .int 1, .int 0])), (fb, .inr (13, [tb, .int 0, .int 0, .int 1, .int 0])), (lw, .inr (5, [.int 0, .ref (em 0), .int 0])), (lo, .inr (5, [.int 0, .ref (em 0), .int 0])), (ou, .inl (cOut, 1, .inr (.inl (fun _ => 0)))), (od, .inl (cOd, 1, .inr (.inr (.inr (.inl (fun _ => 0))))))] H) (hD : va_D (fun q : Nat => s.heap.size ≤ q) [(x0, .inr (11, [.ref ca, .int 0, .int 0, .ref dr, .ref ty0, .int 0, .ref sf, .ref sb, vp, vm, .ref ra0, .int 0, .ref bk])), (ca, .inl (cC, 16, .inr (.inr (.inr (.inr fC))))), (c0, .inr (7, [.ref th, u1, u2, .int 0, .int 0, .int 0, .int 0])), (th, .inl (cH, 4, .inl (fun _ => 0))), (dr, .inl (cO, 26, .inr (.inr (.inr (.inr fD))))), (rr, .inl (cI, 5, .inl (fun _ => 0))), (ty0, .inl (cT, 8, .inl (fun _ => 0))), (sf, .inr (10, [.int 0, sf1, .int 0, .int 0, .int 0, .int 1, .int 0])), (sb, .inr (10, [.int 1, sb1, .int 0, .int 0, .int 0, .int 1, .int 0])), (ra0, .inl (cR, 6, .inl (fun _ => 0))), (bk, .inr (6, [.ref a0, .ref a1, .ref a2, .ref mo, .int 0])), (a0, .inl (cB0, 8, .inl (fun _ => 0))), (a1, .inl (cB1, 8, .inl (fun _ => 0))), (a2, .inl (cB2, 8, .inl (fun _ => 0))), (mo, .inl (cM, 256, .inl (fun _ => 0))), (m0, .inr (14, [.ref lc, .ref lp, .ref dl, .ref ff, .ref fb, .ref lw, .ref lo, .ref (em 1), .int 0])), (lc, .inr (5, [.int 0, .ref (em 0), .int 0])), (lp, .inr (5, [.int 0, .ref (em 0), .int 0])), (dl, .inl (cO8, 26, .inr (.inr (.inr (.inr fL))))), (rr8, .inl (cI8, 5, .inl (fun _ => 0))), (ff, .inr (13, [tf, .int 0, .int 0, .int 1, .int 0])), (fb, .inr (13, [tb, .int 0, .int 0, .int 1, .int 0])), (lw, .inr (5, [.int 0, .ref (em 0), .int 0])), (lo, .inr (5, [.int 0, .ref (em 0), .int 0])), (ou, .inl (cOut, 1, .inr (.inl (fun _ => 0)))), (od, .inl (cOd, 1, .inr (.inr (.inr (.inl (fun _ => 0))))))]) (hS : va_S (fun q : Nat => s.heap.size ≤ q) s.heap H locs) {ls : Array Slot} (hl : lv_has ls 9 [(5, .int 0), (4, .ref od), (3, .ref ou), (2, .ref m0), (1, .ref x0), (0, .ref b)]) : W p l e room_1 s m #[Value.ref b] below meth c H locs 146 2187 (lw_Z below #[Value.ref b] s) (F0 m 1424 ls []) := by
  obtain ⟨hx, hb, hr, hml, hown0, hts0, hX, hbl, hlocks, hgv⟩ := id C0
  have hts := ow_hts hts0
  have hown : s.vm.findClass RL = some m.cls := hown0
  have hA : ∀ q : Nat, s.heap.size ≤ q → (fun q : Nat => s.heap.size ≤ q) q := fun _ h => h
  have hbA : ¬ (fun q : Nat => s.heap.size ≤ q) b := Nat.not_le.mpr hbl
  refine lv_aload_n hx hb dL_law_1424 rfl (lv_at hl 4 rfl) ?_
  refine lv_aload_n hx hb dL_law_1425 rfl (lv_at hl 5 rfl) ?_
  refine lv_iload hx hb dL_law_1426 (lv_at hl 0 rfl) ?_
  refine lv_iconst (v := 1) hx hb dL_law_1428 (by decide) ?_
  refine lv_iadd hx hb dL_law_1429 ?_
  refine lv_topi (fun k_1 ek_1 => ?_)
  obtain rfl : k_1 = 1 := ek_1.trans (by decide)
  refine va_sld hx hb hX hbl hbA hS (vp_in_iff.mpr ⟨by decide, by decide⟩) dL_law_1430 ?_
  refine lv_topi (fun y_2 ey_2 => ?_)
  have ey_2 : y_2 = xs 1 := ey_2
  refine lv_aload_n hx hb dL_law_1431 rfl (lv_at hl 5 rfl) ?_
  refine lv_iload hx hb dL_law_1432 (lv_at hl 0 rfl) ?_
  refine lv_iconst (v := 2) hx hb dL_law_1434 (by decide) ?_
  refine lv_iadd hx hb dL_law_1435 ?_
  refine lv_topi (fun k_3 ek_3 => ?_)
  obtain rfl : k_3 = 2 := ek_3.trans (by decide)
  refine va_sld hx hb hX hbl hbA hS (vp_in_iff.mpr ⟨by decide, by decide⟩) dL_law_1436 ?_
  refine lv_topi (fun y_4 ey_4 => ?_)
  have ey_4 : y_4 = xs 2 := ey_4
  refine lv_aload_n hx hb dL_law_1437 rfl (lv_at hl 5 rfl) ?_
  refine lv_iload hx hb dL_law_1438 (lv_at hl 0 rfl) ?_
  refine lv_iconst (v := 3) hx hb dL_law_1440 (by decide) ?_
  refine lv_iadd hx hb dL_law_1441 ?_
  refine lv_topi (fun k_5 ek_5 => ?_)
  obtain rfl : k_5 = 3 := ek_5.trans (by decide)
  refine va_sld hx hb hX hbl hbA hS (vp_in_iff.mpr ⟨by decide, by decide⟩) dL_law_1442 ?_
  refine lv_topi (fun y_6 ey_6 => ?_)
  have ey_6 : y_6 = xs 3 := ey_6
  refine lv_if_eq (tgt := 1450) hx hb dL_law_1443 (by decide) (fun c_7 => ?_) (fun c_7 => ?_)
  · refine lv_iconst (v := 0) hx hb dL_law_1450 (by decide) ?_
    refine lv_aload_n hx hb dL_law_1451 rfl (lv_at hl 2 rfl) ?_
    have hPc := hP.sub (ws' := [(x0, .inr (11, [.ref ca, .int 0, .int 0, .ref dr, .ref ty0, .int 0, .ref sf, .ref sb, vp, vm, .ref ra0, .int 0, .ref bk])), (ou, .inl (cOut, 1, .inr (.inl (fun _ => 0))))]) [0, 24] rfl
    have hDc := hD.sub (ws' := [(x0, .inr (11, [.ref ca, .int 0, .int 0, .ref dr, .ref ty0, .int 0, .ref sf, .ref sb, vp, vm, .ref ra0, .int 0, .ref bk])), (ou, .inl (cOut, 1, .inr (.inl (fun _ => 0))))]) [0, 24] (by decide) rfl
    have hKc := hK.sub (tys' := [(cOut, .long)]) [12] rfl
    have hFc := va_free (wc := [(x0, .inr (11, [.ref ca, .int 0, .int 0, .ref dr, .ref ty0, .int 0, .ref sf, .ref sb, vp, vm, .ref ra0, .int 0, .ref bk])), (ou, .inl (cOut, 1, .inr (.inl (fun _ => 0))))]) hD hS hA [0, 24] rfl
    refine va_calli (vx_runSW (As := [.ref x0, .int y_2, .int y_4, .int 0, .ref ou]) (rest := []) ⟨hx, hb, hml, hown, hts⟩ (c_L_wanted l hlt em dC dI x0 y_2 y_4 0 (.ref ca) (.int 0) (.ref dr) (.ref ty0) (.int 0) (.ref sf) (.ref sb) vp vm (.ref ra0) (.int 0) (.ref bk) ou cOut (fun _ => 0) H.size) (vx_cwSW 5 hts gT_L_wanted rfl rfl rfl (by decide +kernel) ⟨Nat.le_of_ble_eq_true rfl, Nat.le_of_ble_eq_true rfl⟩) ⟨Pw.blind _ _ _ _ _ _ _, fun U hU hW => ⟨rfl, Pw.go hPc hKc hDc hamb hS hFc hU hW⟩⟩ rfl rfl hl.1 rfl (lv_room (Nat.le_of_ble_eq_true rfl)) dL_law_1452 ⟨Nat.le_of_ble_eq_true rfl, Nat.le_of_ble_eq_true rfl⟩) hS (fun q _ h => hFc q h) hFc (fun r_8 u t H1 locs1 ht hvm hw hB hz1 hk1 hS => ?_)
    obtain ⟨hP1, hK1, hD1⟩ := hB
    rw [ht] at hP1
    have hK1 := va_K.moved hvm.symm hK1
    obtain ⟨hP, hD⟩ := va_join (wr := [(ca, .inl (cC, 16, .inr (.inr (.inr (.inr fC))))), (c0, .inr (7, [.ref th, u1, u2, .int 0, .int 0, .int 0, .int 0])), (th, .inl (cH, 4, .inl (fun _ => 0))), (dr, .inl (cO, 26, .inr (.inr (.inr (.inr fD))))), (rr, .inl (cI, 5, .inl (fun _ => 0))), (ty0, .inl (cT, 8, .inl (fun _ => 0))), (sf, .inr (10, [.int 0, sf1, .int 0, .int 0, .int 0, .int 1, .int 0])), (sb, .inr (10, [.int 1, sb1, .int 0, .int 0, .int 0, .int 1, .int 0])), (ra0, .inl (cR, 6, .inl (fun _ => 0))), (bk, .inr (6, [.ref a0, .ref a1, .ref a2, .ref mo, .int 0])), (a0, .inl (cB0, 8, .inl (fun _ => 0))), (a1, .inl (cB1, 8, .inl (fun _ => 0))), (a2, .inl (cB2, 8, .inl (fun _ => 0))), (mo, .inl (cM, 256, .inl (fun _ => 0))), (m0, .inr (14, [.ref lc, .ref lp, .ref dl, .ref ff, .ref fb, .ref lw, .ref lo, .ref (em 1), .int 0])), (lc, .inr (5, [.int 0, .ref (em 0), .int 0])), (lp, .inr (5, [.int 0, .ref (em 0), .int 0])), (dl, .inl (cO8, 26, .inr (.inr (.inr (.inr fL))))), (rr8, .inl (cI8, 5, .inl (fun _ => 0))), (ff, .inr (13, [tf, .int 0, .int 0, .int 1, .int 0])), (fb, .inr (13, [tb, .int 0, .int 0, .int 1, .int 0])), (lw, .inr (5, [.int 0, .ref (em 0), .int 0])), (lo, .inr (5, [.int 0, .ref (em 0), .int 0])), (od, .inl (cOd, 1, .inr (.inr (.inr (.inl (fun _ => 0))))))]) (w1 := [(ou, .inl (cOut, 1, .inr (.inl (fun _ => 0))))]) hP hD [0, 24] [1, 2, 3, 4, 5, 6, 7, 8, 9, 10, 11, 12, 13, 14, 15, 16, 17, 18, 19, 20, 21, 22, 23, 25] rfl rfl (by decide) (by decide) hk1 hFc hP1 hD1
    have hK := (hK.sub (tys' := [(cC, (.object "Bothfaces$Card")), (cH, .int), (cO, (.array .int)), (cI, .int), (cT, .int), (cR, .int), (cB0, .int), (cB1, .int), (cB2, .int), (cM, .int), (cO8, (.array .int)), (cI8, .int), (cOd, .double)]) [0, 1, 2, 3, 4, 5, 6, 7, 8, 9, 10, 11, 13] rfl).app hK1
    generalize H1 = H at hP hS ⊢
    have hP : va_P (dC, dI) vwCl [(ca, .inl (cC, 16, .inr (.inr (.inr (.inr fC))))), (c0, .inr (7, [.ref th, u1, u2, .int 0, .int 0, .int 0, .int 0])), (th, .inl (cH, 4, .inl (fun _ => 0))), (dr, .inl (cO, 26, .inr (.inr (.inr (.inr fD))))), (rr, .inl (cI, 5, .inl (fun _ => 0))), (ty0, .inl (cT, 8, .inl (fun _ => 0))), (sf, .inr (10, [.int 0, sf1, .int 0, .int 0, .int 0, .int 1, .int 0])), (sb, .inr (10, [.int 1, sb1, .int 0, .int 0, .int 0, .int 1, .int 0])), (ra0, .inl (cR, 6, .inl (fun _ => 0))), (bk, .inr (6, [.ref a0, .ref a1, .ref a2, .ref mo, .int 0])), (a0, .inl (cB0, 8, .inl (fun _ => 0))), (a1, .inl (cB1, 8, .inl (fun _ => 0))), (a2, .inl (cB2, 8, .inl (fun _ => 0))), (mo, .inl (cM, 256, .inl (fun _ => 0))), (m0, .inr (14, [.ref lc, .ref lp, .ref dl, .ref ff, .ref fb, .ref lw, .ref lo, .ref (em 1), .int 0])), (lc, .inr (5, [.int 0, .ref (em 0), .int 0])), (lp, .inr (5, [.int 0, .ref (em 0), .int 0])), (dl, .inl (cO8, 26, .inr (.inr (.inr (.inr fL))))), (rr8, .inl (cI8, 5, .inl (fun _ => 0))), (ff, .inr (13, [tf, .int 0, .int 0, .int 1, .int 0])), (fb, .inr (13, [tb, .int 0, .int 0, .int 1, .int 0])), (lw, .inr (5, [.int 0, .ref (em 0), .int 0])), (lo, .inr (5, [.int 0, .ref (em 0), .int 0])), (od, .inl (cOd, 1, .inr (.inr (.inr (.inl (fun _ => 0)))))), (ou, .inl (cOut, 1, .inr (.inl (fun _ => 0))))] H := hP
    have hD : va_D (fun q : Nat => s.heap.size ≤ q) [(ca, .inl (cC, 16, .inr (.inr (.inr (.inr fC))))), (c0, .inr (7, [.ref th, u1, u2, .int 0, .int 0, .int 0, .int 0])), (th, .inl (cH, 4, .inl (fun _ => 0))), (dr, .inl (cO, 26, .inr (.inr (.inr (.inr fD))))), (rr, .inl (cI, 5, .inl (fun _ => 0))), (ty0, .inl (cT, 8, .inl (fun _ => 0))), (sf, .inr (10, [.int 0, sf1, .int 0, .int 0, .int 0, .int 1, .int 0])), (sb, .inr (10, [.int 1, sb1, .int 0, .int 0, .int 0, .int 1, .int 0])), (ra0, .inl (cR, 6, .inl (fun _ => 0))), (bk, .inr (6, [.ref a0, .ref a1, .ref a2, .ref mo, .int 0])), (a0, .inl (cB0, 8, .inl (fun _ => 0))), (a1, .inl (cB1, 8, .inl (fun _ => 0))), (a2, .inl (cB2, 8, .inl (fun _ => 0))), (mo, .inl (cM, 256, .inl (fun _ => 0))), (m0, .inr (14, [.ref lc, .ref lp, .ref dl, .ref ff, .ref fb, .ref lw, .ref lo, .ref (em 1), .int 0])), (lc, .inr (5, [.int 0, .ref (em 0), .int 0])), (lp, .inr (5, [.int 0, .ref (em 0), .int 0])), (dl, .inl (cO8, 26, .inr (.inr (.inr (.inr fL))))), (rr8, .inl (cI8, 5, .inl (fun _ => 0))), (ff, .inr (13, [tf, .int 0, .int 0, .int 1, .int 0])), (fb, .inr (13, [tb, .int 0, .int 0, .int 1, .int 0])), (lw, .inr (5, [.int 0, .ref (em 0), .int 0])), (lo, .inr (5, [.int 0, .ref (em 0), .int 0])), (od, .inl (cOd, 1, .inr (.inr (.inr (.inl (fun _ => 0)))))), (ou, .inl (cOut, 1, .inr (.inl (fun _ => 0))))] := hD
    have hK : va_K (dC, dI) vwCl [(cC, (.object "Bothfaces$Card")), (cH, .int), (cO, (.array .int)), (cI, .int), (cT, .int), (cR, .int), (cB0, .int), (cB1, .int), (cB2, .int), (cM, .int), (cO8, (.array .int)), (cI8, .int), (cOd, .double), (cOut, .long)] s := hK
    refine W.widen (k := 147) (n := 2193) (Nat.le_of_ble_eq_true rfl) (Nat.le_of_ble_eq_true rfl) ?_
    have hw : r_8 = 1 := hw
    rw [hw]
    refine lv_istore (lv' := [(6, .int 1), (5, .int 0), (4, .ref od), (3, .ref ou), (2, .ref m0), (1, .ref x0), (0, .ref b)]) hx hb dL_law_1455 hl (by decide) rfl (fun ls hl => ?_)
    refine lv_aload_n hx hb dL_law_1457 rfl (lv_at hl 4 rfl) ?_
    refine lv_aload_n hx hb dL_law_1458 rfl (lv_at hl 6 rfl) ?_
    refine lv_iload hx hb dL_law_1459 (lv_at hl 1 rfl) ?_
    refine lv_iconst (v := 1) hx hb dL_law_1461 (by decide) ?_
    refine lv_iadd hx hb dL_law_1462 ?_
    refine lv_topi (fun k_9 ek_9 => ?_)
    obtain rfl : k_9 = 1 := ek_9.trans (by decide)
    refine va_sld hx hb hX hbl hbA hS (vp_in_iff.mpr ⟨by decide, by decide⟩) dL_law_1463 ?_
    refine lv_topi (fun y_10 ey_10 => ?_)
    have ey_10 : y_10 = xs 1 := ey_10
    obtain rfl : y_2 = y_10 := ey_2.trans ey_10.symm
    refine lv_aload_n hx hb dL_law_1464 rfl (lv_at hl 6 rfl) ?_
    refine lv_iload hx hb dL_law_1465 (lv_at hl 1 rfl) ?_
    refine lv_iconst (v := 2) hx hb dL_law_1467 (by decide) ?_
    refine lv_iadd hx hb dL_law_1468 ?_
    refine lv_topi (fun k_11 ek_11 => ?_)
    obtain rfl : k_11 = 2 := ek_11.trans (by decide)
    refine va_sld hx hb hX hbl hbA hS (vp_in_iff.mpr ⟨by decide, by decide⟩) dL_law_1469 ?_
    refine lv_topi (fun y_12 ey_12 => ?_)
    have ey_12 : y_12 = xs 2 := ey_12
    obtain rfl : y_4 = y_12 := ey_4.trans ey_12.symm
    refine lv_aload_n hx hb dL_law_1470 rfl (lv_at hl 6 rfl) ?_
    refine lv_iload hx hb dL_law_1471 (lv_at hl 1 rfl) ?_
    refine lv_iconst (v := 3) hx hb dL_law_1473 (by decide) ?_
    refine lv_iadd hx hb dL_law_1474 ?_
    refine lv_topi (fun k_13 ek_13 => ?_)
    obtain rfl : k_13 = 3 := ek_13.trans (by decide)
    refine va_sld hx hb hX hbl hbA hS (vp_in_iff.mpr ⟨by decide, by decide⟩) dL_law_1475 ?_
    refine lv_topi (fun y_14 ey_14 => ?_)
    have ey_14 : y_14 = xs 3 := ey_14
    obtain rfl : y_6 = y_14 := ey_6.trans ey_14.symm
    refine lv_if_eq (tgt := 1483) hx hb dL_law_1476 (by decide) (fun c_15 => ?_) (fun c_15 => ?_)
    · refine lv_iconst (v := 0) hx hb dL_law_1483 (by decide) ?_
      have hPc := hP.sub (ws' := [(m0, .inr (14, [.ref lc, .ref lp, .ref dl, .ref ff, .ref fb, .ref lw, .ref lo, .ref (em 1), .int 0])), (lc, .inr (5, [.int 0, .ref (em 0), .int 0]))]) [14, 15] rfl
      have hDc := hD.sub (ws' := [(m0, .inr (14, [.ref lc, .ref lp, .ref dl, .ref ff, .ref fb, .ref lw, .ref lo, .ref (em 1), .int 0])), (lc, .inr (5, [.int 0, .ref (em 0), .int 0]))]) [14, 15] (by decide) rfl
      have hKc := hK.sub (tys' := []) [] rfl
      have hFc := va_free (wc := [(m0, .inr (14, [.ref lc, .ref lp, .ref dl, .ref ff, .ref fb, .ref lw, .ref lo, .ref (em 1), .int 0])), (lc, .inr (5, [.int 0, .ref (em 0), .int 0]))]) hD hS hA [14, 15] rfl
      refine va_calli (va_runV (As := [.int y_2, .int y_4, .int 0]) (rest := []) ⟨hx, hb, hml, hown, hts⟩ (c_X8_wanted l em dC dI m0 y_2 y_4 0 (.ref lp) (.ref dl) (.ref ff) (.ref fb) (.ref lw) (.ref lo) (.ref (em 1)) (.int 0) lc (.ref (em 0)) H.size) (cwV 3 hts gT_X8_wanted rfl rfl rfl (by decide +kernel) ⟨Nat.le_of_ble_eq_true rfl, Nat.le_of_ble_eq_true rfl⟩) ⟨Pw.blind _ _ _ _ _ _ _, va_recv hKc hPc (ci := 14) (q0 := 0) rfl rfl, fun U hU hW => ⟨rfl, Pw.go hPc hKc hDc hamb hS hFc hU hW⟩⟩ rfl rfl hl.1 rfl (lv_room (Nat.le_of_ble_eq_true rfl)) dL_law_1484 ⟨Nat.le_of_ble_eq_true rfl, Nat.le_of_ble_eq_true rfl⟩) hS (fun q _ h => hFc q h) hFc (fun r_16 u t H1 locs1 ht hvm hw hB hz1 hk1 hS => ?_)
      obtain ⟨hP1, hK1, hD1⟩ := hB
      rw [ht] at hP1
      have hK1 := va_K.moved hvm.symm hK1
      obtain ⟨hP, hD⟩ := va_join (wr := [(ca, .inl (cC, 16, .inr (.inr (.inr (.inr fC))))), (c0, .inr (7, [.ref th, u1, u2, .int 0, .int 0, .int 0, .int 0])), (th, .inl (cH, 4, .inl (fun _ => 0))), (dr, .inl (cO, 26, .inr (.inr (.inr (.inr fD))))), (rr, .inl (cI, 5, .inl (fun _ => 0))), (ty0, .inl (cT, 8, .inl (fun _ => 0))), (sf, .inr (10, [.int 0, sf1, .int 0, .int 0, .int 0, .int 1, .int 0])), (sb, .inr (10, [.int 1, sb1, .int 0, .int 0, .int 0, .int 1, .int 0])), (ra0, .inl (cR, 6, .inl (fun _ => 0))), (bk, .inr (6, [.ref a0, .ref a1, .ref a2, .ref mo, .int 0])), (a0, .inl (cB0, 8, .inl (fun _ => 0))), (a1, .inl (cB1, 8, .inl (fun _ => 0))), (a2, .inl (cB2, 8, .inl (fun _ => 0))), (mo, .inl (cM, 256, .inl (fun _ => 0))), (lp, .inr (5, [.int 0, .ref (em 0), .int 0])), (dl, .inl (cO8, 26, .inr (.inr (.inr (.inr fL))))), (rr8, .inl (cI8, 5, .inl (fun _ => 0))), (ff, .inr (13, [tf, .int 0, .int 0, .int 1, .int 0])), (fb, .inr (13, [tb, .int 0, .int 0, .int 1, .int 0])), (lw, .inr (5, [.int 0, .ref (em 0), .int 0])), (lo, .inr (5, [.int 0, .ref (em 0), .int 0])), (od, .inl (cOd, 1, .inr (.inr (.inr (.inl (fun _ => 0)))))), (ou, .inl (cOut, 1, .inr (.inl (fun _ => 0))))]) (w1 := [(m0, .inr (14, [.ref lc, .ref lp, .ref dl, .ref ff, .ref fb, .ref lw, .ref lo, .ref (em 1), .int 1]))]) hP hD [14, 15] [0, 1, 2, 3, 4, 5, 6, 7, 8, 9, 10, 11, 12, 13, 16, 17, 18, 19, 20, 21, 22, 23, 24] rfl rfl (by decide) (by decide) hk1 hFc hP1 hD1
      have hK := (hK.sub (tys' := [(cC, (.object "Bothfaces$Card")), (cH, .int), (cO, (.array .int)), (cI, .int), (cT, .int), (cR, .int), (cB0, .int), (cB1, .int), (cB2, .int), (cM, .int), (cO8, (.array .int)), (cI8, .int), (cOd, .double), (cOut, .long)]) [0, 1, 2, 3, 4, 5, 6, 7, 8, 9, 10, 11, 12, 13] rfl).app hK1
      generalize H1 = H at hP hS ⊢
      have hP : va_P (dC, dI) vwCl [(ca, .inl (cC, 16, .inr (.inr (.inr (.inr fC))))), (c0, .inr (7, [.ref th, u1, u2, .int 0, .int 0, .int 0, .int 0])), (th, .inl (cH, 4, .inl (fun _ => 0))), (dr, .inl (cO, 26, .inr (.inr (.inr (.inr fD))))), (rr, .inl (cI, 5, .inl (fun _ => 0))), (ty0, .inl (cT, 8, .inl (fun _ => 0))), (sf, .inr (10, [.int 0, sf1, .int 0, .int 0, .int 0, .int 1, .int 0])), (sb, .inr (10, [.int 1, sb1, .int 0, .int 0, .int 0, .int 1, .int 0])), (ra0, .inl (cR, 6, .inl (fun _ => 0))), (bk, .inr (6, [.ref a0, .ref a1, .ref a2, .ref mo, .int 0])), (a0, .inl (cB0, 8, .inl (fun _ => 0))), (a1, .inl (cB1, 8, .inl (fun _ => 0))), (a2, .inl (cB2, 8, .inl (fun _ => 0))), (mo, .inl (cM, 256, .inl (fun _ => 0))), (lp, .inr (5, [.int 0, .ref (em 0), .int 0])), (dl, .inl (cO8, 26, .inr (.inr (.inr (.inr fL))))), (rr8, .inl (cI8, 5, .inl (fun _ => 0))), (ff, .inr (13, [tf, .int 0, .int 0, .int 1, .int 0])), (fb, .inr (13, [tb, .int 0, .int 0, .int 1, .int 0])), (lw, .inr (5, [.int 0, .ref (em 0), .int 0])), (lo, .inr (5, [.int 0, .ref (em 0), .int 0])), (od, .inl (cOd, 1, .inr (.inr (.inr (.inl (fun _ => 0)))))), (ou, .inl (cOut, 1, .inr (.inl (fun _ => 0)))), (m0, .inr (14, [.ref lc, .ref lp, .ref dl, .ref ff, .ref fb, .ref lw, .ref lo, .ref (em 1), .int 1]))] H := hP
      have hD : va_D (fun q : Nat => s.heap.size ≤ q) [(ca, .inl (cC, 16, .inr (.inr (.inr (.inr fC))))), (c0, .inr (7, [.ref th, u1, u2, .int 0, .int 0, .int 0, .int 0])), (th, .inl (cH, 4, .inl (fun _ => 0))), (dr, .inl (cO, 26, .inr (.inr (.inr (.inr fD))))), (rr, .inl (cI, 5, .inl (fun _ => 0))), (ty0, .inl (cT, 8, .inl (fun _ => 0))), (sf, .inr (10, [.int 0, sf1, .int 0, .int 0, .int 0, .int 1, .int 0])), (sb, .inr (10, [.int 1, sb1, .int 0, .int 0, .int 0, .int 1, .int 0])), (ra0, .inl (cR, 6, .inl (fun _ => 0))), (bk, .inr (6, [.ref a0, .ref a1, .ref a2, .ref mo, .int 0])), (a0, .inl (cB0, 8, .inl (fun _ => 0))), (a1, .inl (cB1, 8, .inl (fun _ => 0))), (a2, .inl (cB2, 8, .inl (fun _ => 0))), (mo, .inl (cM, 256, .inl (fun _ => 0))), (lp, .inr (5, [.int 0, .ref (em 0), .int 0])), (dl, .inl (cO8, 26, .inr (.inr (.inr (.inr fL))))), (rr8, .inl (cI8, 5, .inl (fun _ => 0))), (ff, .inr (13, [tf, .int 0, .int 0, .int 1, .int 0])), (fb, .inr (13, [tb, .int 0, .int 0, .int 1, .int 0])), (lw, .inr (5, [.int 0, .ref (em 0), .int 0])), (lo, .inr (5, [.int 0, .ref (em 0), .int 0])), (od, .inl (cOd, 1, .inr (.inr (.inr (.inl (fun _ => 0)))))), (ou, .inl (cOut, 1, .inr (.inl (fun _ => 0)))), (m0, .inr (14, [.ref lc, .ref lp, .ref dl, .ref ff, .ref fb, .ref lw, .ref lo, .ref (em 1), .int 1]))] := hD
      have hK : va_K (dC, dI) vwCl [(cC, (.object "Bothfaces$Card")), (cH, .int), (cO, (.array .int)), (cI, .int), (cT, .int), (cR, .int), (cB0, .int), (cB1, .int), (cB2, .int), (cM, .int), (cO8, (.array .int)), (cI8, .int), (cOd, .double), (cOut, .long)] s := hK
      refine W.widen (k := 147) (n := 2193) (Nat.le_of_ble_eq_true rfl) (Nat.le_of_ble_eq_true rfl) ?_
      have hw : r_16 = 0 := hw
      rw [hw]
      refine lv_istore (lv' := [(7, .int 0), (6, .int 1), (5, .int 0), (4, .ref od), (3, .ref ou), (2, .ref m0), (1, .ref x0), (0, .ref b)]) hx hb dL_law_1487 hl (by decide) rfl (fun ls hl => ?_)
      refine lv_aload_n hx hb dL_law_1489 rfl (lv_at hl 5 rfl) ?_
      have hPc := hP.sub (ws' := [(m0, .inr (14, [.ref lc, .ref lp, .ref dl, .ref ff, .ref fb, .ref lw, .ref lo, .ref (em 1), .int 1]))]) [23] rfl
      have hDc := hD.sub (ws' := [(m0, .inr (14, [.ref lc, .ref lp, .ref dl, .ref ff, .ref fb, .ref lw, .ref lo, .ref (em 1), .int 1]))]) [23] (by decide) rfl
      have hKc := hK.sub (tys' := []) [] rfl
      have hFc := va_free (wc := [(m0, .inr (14, [.ref lc, .ref lp, .ref dl, .ref ff, .ref fb, .ref lw, .ref lo, .ref (em 1), .int 1]))]) hD hS hA [23] rfl
      refine va_calli (va_runV (As := []) (rest := []) ⟨hx, hb, hml, hown, hts⟩ (c_X8_thrown l em dC dI m0 1 (.ref lc) (.ref lp) (.ref dl) (.ref ff) (.ref fb) (.ref lw) (.ref lo) (.ref (em 1)) H.size) (cwV 0 hts gT_X8_thrown rfl rfl rfl (by decide +kernel) ⟨Nat.le_of_ble_eq_true rfl, Nat.le_of_ble_eq_true rfl⟩) ⟨Pw.blind _ _ _ _ _ _ _, va_recv hKc hPc (ci := 14) (q0 := 0) rfl rfl, fun U hU hW => ⟨rfl, Pw.go hPc hKc hDc hamb hS hFc hU hW⟩⟩ rfl rfl hl.1 rfl (lv_room (Nat.le_of_ble_eq_true rfl)) dL_law_1490 ⟨Nat.le_of_ble_eq_true rfl, Nat.le_of_ble_eq_true rfl⟩) hS (fun q _ h => hFc q h) hFc (fun r_17 u t H1 locs1 ht hvm hw hB hz1 hk1 hS => ?_)
      obtain ⟨hP, hD⟩ := va_rest (wr := [(ca, .inl (cC, 16, .inr (.inr (.inr (.inr fC))))), (c0, .inr (7, [.ref th, u1, u2, .int 0, .int 0, .int 0, .int 0])), (th, .inl (cH, 4, .inl (fun _ => 0))), (dr, .inl (cO, 26, .inr (.inr (.inr (.inr fD))))), (rr, .inl (cI, 5, .inl (fun _ => 0))), (ty0, .inl (cT, 8, .inl (fun _ => 0))), (sf, .inr (10, [.int 0, sf1, .int 0, .int 0, .int 0, .int 1, .int 0])), (sb, .inr (10, [.int 1, sb1, .int 0, .int 0, .int 0, .int 1, .int 0])), (ra0, .inl (cR, 6, .inl (fun _ => 0))), (bk, .inr (6, [.ref a0, .ref a1, .ref a2, .ref mo, .int 0])), (a0, .inl (cB0, 8, .inl (fun _ => 0))), (a1, .inl (cB1, 8, .inl (fun _ => 0))), (a2, .inl (cB2, 8, .inl (fun _ => 0))), (mo, .inl (cM, 256, .inl (fun _ => 0))), (lp, .inr (5, [.int 0, .ref (em 0), .int 0])), (dl, .inl (cO8, 26, .inr (.inr (.inr (.inr fL))))), (rr8, .inl (cI8, 5, .inl (fun _ => 0))), (ff, .inr (13, [tf, .int 0, .int 0, .int 1, .int 0])), (fb, .inr (13, [tb, .int 0, .int 0, .int 1, .int 0])), (lw, .inr (5, [.int 0, .ref (em 0), .int 0])), (lo, .inr (5, [.int 0, .ref (em 0), .int 0])), (od, .inl (cOd, 1, .inr (.inr (.inr (.inl (fun _ => 0)))))), (ou, .inl (cOut, 1, .inr (.inl (fun _ => 0))))]) hP hD [23] [0, 1, 2, 3, 4, 5, 6, 7, 8, 9, 10, 11, 12, 13, 14, 15, 16, 17, 18, 19, 20, 21, 22] rfl rfl (by decide) (by decide) hk1 hFc
      generalize H1 = H at hP hS ⊢
      refine W.widen (k := 147) (n := 2193) (Nat.le_of_ble_eq_true rfl) (Nat.le_of_ble_eq_true rfl) ?_
      have hw : r_17 = 1 := hw
      rw [hw]
      refine lv_iload hx hb dL_law_1493 (lv_at hl 1 rfl) ?_
      refine lv_icmp_eq (tgt := 1500) hx hb dL_law_1495 (by decide) (fun c_18 => ?_) (fun c_18 => ?_)
      · refine lv_iload hx hb dL_law_1500 (lv_at hl 1 rfl) ?_
        refine lv_if_ne (tgt := 1517) hx hb dL_law_1502 (by decide) (fun c_19 => ?_) (fun c_19 => ?_)
        · refine lv_goto (tgt := 2636) hx hb dL_law_1517 (by decide) ?_
          refine lv_iinc (v := 6) (lv' := [(5, .int 6), (7, .int 0), (6, .int 1), (4, .ref od), (3, .ref ou), (2, .ref m0), (1, .ref x0), (0, .ref b)]) hx hb dL_law_2636 hl (k := 2) rfl (by decide) (by decide) rfl (fun ls hl => ?_)
          refine lv_goto (tgt := 28) hx hb dL_law_2639 (by decide) ?_
          refine lv_iload hx hb dL_law_28 (lv_at hl 0 rfl) ?_
          refine lv_aload_n hx hb dL_law_30 rfl (lv_at hl 7 rfl) ?_
          refine va_slen hx hb hX hbl hbA hS dL_law_31 ?_
          refine lv_topi (fun n_20 en_20 => ?_)
          obtain rfl : n_20 = 6 := en_20.trans (by decide)
          refine lv_bipush (v := 6) hx hb dL_law_32 (by decide) ?_
          refine lv_isub hx hb dL_law_34 ?_
          refine lv_topi (fun k_21 ek_21 => ?_)
          obtain rfl : k_21 = 0 := ek_21.trans (by decide)
          refine lv_icmp_gt (tgt := 2642) hx hb dL_law_35 (by decide) (fun c_22 => ?_) (fun c_22 => ?_)
          · refine lv_iconst (v := 1) hx hb dL_law_2642 (by decide) ?_
            refine W.widen (k := 600006) (n := 7302072) (Nat.le_of_ble_eq_true rfl) (Nat.le_of_ble_eq_true rfl) ?_
            refine va_forget hS.2.2 ?_
            refine W.base ?_
            exact lw_ret (Drawn.sameBut.refl s.drawn lw_cs) hx hb hr hlocks dL_law_2643
          · exact absurd (by decide) c_22
        · exact absurd c_19 (by decide)
      · exact absurd (by decide) c_18
    · exact absurd c_7 c_15
  · refine lv_iconst (v := 1) hx hb dL_law_1446 (by decide) ?_
    refine lv_goto (tgt := 1451) hx hb dL_law_1447 (by decide) ?_
    refine lv_aload_n hx hb dL_law_1451 rfl (lv_at hl 2 rfl) ?_
    have hPc := hP.sub (ws' := [(x0, .inr (11, [.ref ca, .int 0, .int 0, .ref dr, .ref ty0, .int 0, .ref sf, .ref sb, vp, vm, .ref ra0, .int 0, .ref bk])), (ou, .inl (cOut, 1, .inr (.inl (fun _ => 0))))]) [0, 24] rfl
    have hDc := hD.sub (ws' := [(x0, .inr (11, [.ref ca, .int 0, .int 0, .ref dr, .ref ty0, .int 0, .ref sf, .ref sb, vp, vm, .ref ra0, .int 0, .ref bk])), (ou, .inl (cOut, 1, .inr (.inl (fun _ => 0))))]) [0, 24] (by decide) rfl
    have hKc := hK.sub (tys' := [(cOut, .long)]) [12] rfl
    have hFc := va_free (wc := [(x0, .inr (11, [.ref ca, .int 0, .int 0, .ref dr, .ref ty0, .int 0, .ref sf, .ref sb, vp, vm, .ref ra0, .int 0, .ref bk])), (ou, .inl (cOut, 1, .inr (.inl (fun _ => 0))))]) hD hS hA [0, 24] rfl
    refine va_calli (vx_runSW (As := [.ref x0, .int y_2, .int y_4, .int 1, .ref ou]) (rest := []) ⟨hx, hb, hml, hown, hts⟩ (c_L_wanted l hlt em dC dI x0 y_2 y_4 1 (.ref ca) (.int 0) (.ref dr) (.ref ty0) (.int 0) (.ref sf) (.ref sb) vp vm (.ref ra0) (.int 0) (.ref bk) ou cOut (fun _ => 0) H.size) (vx_cwSW 5 hts gT_L_wanted rfl rfl rfl (by decide +kernel) ⟨Nat.le_of_ble_eq_true rfl, Nat.le_of_ble_eq_true rfl⟩) ⟨Pw.blind _ _ _ _ _ _ _, fun U hU hW => ⟨rfl, Pw.go hPc hKc hDc hamb hS hFc hU hW⟩⟩ rfl rfl hl.1 rfl (lv_room (Nat.le_of_ble_eq_true rfl)) dL_law_1452 ⟨Nat.le_of_ble_eq_true rfl, Nat.le_of_ble_eq_true rfl⟩) hS (fun q _ h => hFc q h) hFc (fun r_23 u t H1 locs1 ht hvm hw hB hz1 hk1 hS => ?_)
    obtain ⟨hP1, hK1, hD1⟩ := hB
    rw [ht] at hP1
    have hK1 := va_K.moved hvm.symm hK1
    obtain ⟨hP, hD⟩ := va_join (wr := [(ca, .inl (cC, 16, .inr (.inr (.inr (.inr fC))))), (c0, .inr (7, [.ref th, u1, u2, .int 0, .int 0, .int 0, .int 0])), (th, .inl (cH, 4, .inl (fun _ => 0))), (dr, .inl (cO, 26, .inr (.inr (.inr (.inr fD))))), (rr, .inl (cI, 5, .inl (fun _ => 0))), (ty0, .inl (cT, 8, .inl (fun _ => 0))), (sf, .inr (10, [.int 0, sf1, .int 0, .int 0, .int 0, .int 1, .int 0])), (sb, .inr (10, [.int 1, sb1, .int 0, .int 0, .int 0, .int 1, .int 0])), (ra0, .inl (cR, 6, .inl (fun _ => 0))), (bk, .inr (6, [.ref a0, .ref a1, .ref a2, .ref mo, .int 0])), (a0, .inl (cB0, 8, .inl (fun _ => 0))), (a1, .inl (cB1, 8, .inl (fun _ => 0))), (a2, .inl (cB2, 8, .inl (fun _ => 0))), (mo, .inl (cM, 256, .inl (fun _ => 0))), (m0, .inr (14, [.ref lc, .ref lp, .ref dl, .ref ff, .ref fb, .ref lw, .ref lo, .ref (em 1), .int 0])), (lc, .inr (5, [.int 0, .ref (em 0), .int 0])), (lp, .inr (5, [.int 0, .ref (em 0), .int 0])), (dl, .inl (cO8, 26, .inr (.inr (.inr (.inr fL))))), (rr8, .inl (cI8, 5, .inl (fun _ => 0))), (ff, .inr (13, [tf, .int 0, .int 0, .int 1, .int 0])), (fb, .inr (13, [tb, .int 0, .int 0, .int 1, .int 0])), (lw, .inr (5, [.int 0, .ref (em 0), .int 0])), (lo, .inr (5, [.int 0, .ref (em 0), .int 0])), (od, .inl (cOd, 1, .inr (.inr (.inr (.inl (fun _ => 0))))))]) (w1 := [(ou, .inl (cOut, 1, .inr (.inl (fun _ => 0))))]) hP hD [0, 24] [1, 2, 3, 4, 5, 6, 7, 8, 9, 10, 11, 12, 13, 14, 15, 16, 17, 18, 19, 20, 21, 22, 23, 25] rfl rfl (by decide) (by decide) hk1 hFc hP1 hD1
    have hK := (hK.sub (tys' := [(cC, (.object "Bothfaces$Card")), (cH, .int), (cO, (.array .int)), (cI, .int), (cT, .int), (cR, .int), (cB0, .int), (cB1, .int), (cB2, .int), (cM, .int), (cO8, (.array .int)), (cI8, .int), (cOd, .double)]) [0, 1, 2, 3, 4, 5, 6, 7, 8, 9, 10, 11, 13] rfl).app hK1
    generalize H1 = H at hP hS ⊢
    have hP : va_P (dC, dI) vwCl [(ca, .inl (cC, 16, .inr (.inr (.inr (.inr fC))))), (c0, .inr (7, [.ref th, u1, u2, .int 0, .int 0, .int 0, .int 0])), (th, .inl (cH, 4, .inl (fun _ => 0))), (dr, .inl (cO, 26, .inr (.inr (.inr (.inr fD))))), (rr, .inl (cI, 5, .inl (fun _ => 0))), (ty0, .inl (cT, 8, .inl (fun _ => 0))), (sf, .inr (10, [.int 0, sf1, .int 0, .int 0, .int 0, .int 1, .int 0])), (sb, .inr (10, [.int 1, sb1, .int 0, .int 0, .int 0, .int 1, .int 0])), (ra0, .inl (cR, 6, .inl (fun _ => 0))), (bk, .inr (6, [.ref a0, .ref a1, .ref a2, .ref mo, .int 0])), (a0, .inl (cB0, 8, .inl (fun _ => 0))), (a1, .inl (cB1, 8, .inl (fun _ => 0))), (a2, .inl (cB2, 8, .inl (fun _ => 0))), (mo, .inl (cM, 256, .inl (fun _ => 0))), (m0, .inr (14, [.ref lc, .ref lp, .ref dl, .ref ff, .ref fb, .ref lw, .ref lo, .ref (em 1), .int 0])), (lc, .inr (5, [.int 0, .ref (em 0), .int 0])), (lp, .inr (5, [.int 0, .ref (em 0), .int 0])), (dl, .inl (cO8, 26, .inr (.inr (.inr (.inr fL))))), (rr8, .inl (cI8, 5, .inl (fun _ => 0))), (ff, .inr (13, [tf, .int 0, .int 0, .int 1, .int 0])), (fb, .inr (13, [tb, .int 0, .int 0, .int 1, .int 0])), (lw, .inr (5, [.int 0, .ref (em 0), .int 0])), (lo, .inr (5, [.int 0, .ref (em 0), .int 0])), (od, .inl (cOd, 1, .inr (.inr (.inr (.inl (fun _ => 0)))))), (ou, .inl (cOut, 1, .inr (.inl (fun _ => 0))))] H := hP
    have hD : va_D (fun q : Nat => s.heap.size ≤ q) [(ca, .inl (cC, 16, .inr (.inr (.inr (.inr fC))))), (c0, .inr (7, [.ref th, u1, u2, .int 0, .int 0, .int 0, .int 0])), (th, .inl (cH, 4, .inl (fun _ => 0))), (dr, .inl (cO, 26, .inr (.inr (.inr (.inr fD))))), (rr, .inl (cI, 5, .inl (fun _ => 0))), (ty0, .inl (cT, 8, .inl (fun _ => 0))), (sf, .inr (10, [.int 0, sf1, .int 0, .int 0, .int 0, .int 1, .int 0])), (sb, .inr (10, [.int 1, sb1, .int 0, .int 0, .int 0, .int 1, .int 0])), (ra0, .inl (cR, 6, .inl (fun _ => 0))), (bk, .inr (6, [.ref a0, .ref a1, .ref a2, .ref mo, .int 0])), (a0, .inl (cB0, 8, .inl (fun _ => 0))), (a1, .inl (cB1, 8, .inl (fun _ => 0))), (a2, .inl (cB2, 8, .inl (fun _ => 0))), (mo, .inl (cM, 256, .inl (fun _ => 0))), (m0, .inr (14, [.ref lc, .ref lp, .ref dl, .ref ff, .ref fb, .ref lw, .ref lo, .ref (em 1), .int 0])), (lc, .inr (5, [.int 0, .ref (em 0), .int 0])), (lp, .inr (5, [.int 0, .ref (em 0), .int 0])), (dl, .inl (cO8, 26, .inr (.inr (.inr (.inr fL))))), (rr8, .inl (cI8, 5, .inl (fun _ => 0))), (ff, .inr (13, [tf, .int 0, .int 0, .int 1, .int 0])), (fb, .inr (13, [tb, .int 0, .int 0, .int 1, .int 0])), (lw, .inr (5, [.int 0, .ref (em 0), .int 0])), (lo, .inr (5, [.int 0, .ref (em 0), .int 0])), (od, .inl (cOd, 1, .inr (.inr (.inr (.inl (fun _ => 0)))))), (ou, .inl (cOut, 1, .inr (.inl (fun _ => 0))))] := hD
    have hK : va_K (dC, dI) vwCl [(cC, (.object "Bothfaces$Card")), (cH, .int), (cO, (.array .int)), (cI, .int), (cT, .int), (cR, .int), (cB0, .int), (cB1, .int), (cB2, .int), (cM, .int), (cO8, (.array .int)), (cI8, .int), (cOd, .double), (cOut, .long)] s := hK
    refine W.widen (k := 147) (n := 2193) (Nat.le_of_ble_eq_true rfl) (Nat.le_of_ble_eq_true rfl) ?_
    have hw : r_23 = 1 := hw
    rw [hw]
    refine lv_istore (lv' := [(6, .int 1), (5, .int 0), (4, .ref od), (3, .ref ou), (2, .ref m0), (1, .ref x0), (0, .ref b)]) hx hb dL_law_1455 hl (by decide) rfl (fun ls hl => ?_)
    refine lv_aload_n hx hb dL_law_1457 rfl (lv_at hl 4 rfl) ?_
    refine lv_aload_n hx hb dL_law_1458 rfl (lv_at hl 6 rfl) ?_
    refine lv_iload hx hb dL_law_1459 (lv_at hl 1 rfl) ?_
    refine lv_iconst (v := 1) hx hb dL_law_1461 (by decide) ?_
    refine lv_iadd hx hb dL_law_1462 ?_
    refine lv_topi (fun k_24 ek_24 => ?_)
    obtain rfl : k_24 = 1 := ek_24.trans (by decide)
    refine va_sld hx hb hX hbl hbA hS (vp_in_iff.mpr ⟨by decide, by decide⟩) dL_law_1463 ?_
    refine lv_topi (fun y_25 ey_25 => ?_)
    have ey_25 : y_25 = xs 1 := ey_25
    obtain rfl : y_2 = y_25 := ey_2.trans ey_25.symm
    refine lv_aload_n hx hb dL_law_1464 rfl (lv_at hl 6 rfl) ?_
    refine lv_iload hx hb dL_law_1465 (lv_at hl 1 rfl) ?_
    refine lv_iconst (v := 2) hx hb dL_law_1467 (by decide) ?_
    refine lv_iadd hx hb dL_law_1468 ?_
    refine lv_topi (fun k_26 ek_26 => ?_)
    obtain rfl : k_26 = 2 := ek_26.trans (by decide)
    refine va_sld hx hb hX hbl hbA hS (vp_in_iff.mpr ⟨by decide, by decide⟩) dL_law_1469 ?_
    refine lv_topi (fun y_27 ey_27 => ?_)
    have ey_27 : y_27 = xs 2 := ey_27
    obtain rfl : y_4 = y_27 := ey_4.trans ey_27.symm
    refine lv_aload_n hx hb dL_law_1470 rfl (lv_at hl 6 rfl) ?_
    refine lv_iload hx hb dL_law_1471 (lv_at hl 1 rfl) ?_
    refine lv_iconst (v := 3) hx hb dL_law_1473 (by decide) ?_
    refine lv_iadd hx hb dL_law_1474 ?_
    refine lv_topi (fun k_28 ek_28 => ?_)
    obtain rfl : k_28 = 3 := ek_28.trans (by decide)
    refine va_sld hx hb hX hbl hbA hS (vp_in_iff.mpr ⟨by decide, by decide⟩) dL_law_1475 ?_
    refine lv_topi (fun y_29 ey_29 => ?_)
    have ey_29 : y_29 = xs 3 := ey_29
    obtain rfl : y_6 = y_29 := ey_6.trans ey_29.symm
    refine lv_if_eq (tgt := 1483) hx hb dL_law_1476 (by decide) (fun c_30 => ?_) (fun c_30 => ?_)
    · exact absurd c_30 c_7
    · refine lv_iconst (v := 1) hx hb dL_law_1479 (by decide) ?_
      refine lv_goto (tgt := 1484) hx hb dL_law_1480 (by decide) ?_
      have hPc := hP.sub (ws' := [(m0, .inr (14, [.ref lc, .ref lp, .ref dl, .ref ff, .ref fb, .ref lw, .ref lo, .ref (em 1), .int 0])), (lc, .inr (5, [.int 0, .ref (em 0), .int 0]))]) [14, 15] rfl
      have hDc := hD.sub (ws' := [(m0, .inr (14, [.ref lc, .ref lp, .ref dl, .ref ff, .ref fb, .ref lw, .ref lo, .ref (em 1), .int 0])), (lc, .inr (5, [.int 0, .ref (em 0), .int 0]))]) [14, 15] (by decide) rfl
      have hKc := hK.sub (tys' := []) [] rfl
      have hFc := va_free (wc := [(m0, .inr (14, [.ref lc, .ref lp, .ref dl, .ref ff, .ref fb, .ref lw, .ref lo, .ref (em 1), .int 0])), (lc, .inr (5, [.int 0, .ref (em 0), .int 0]))]) hD hS hA [14, 15] rfl
      refine va_calli (va_runV (As := [.int y_2, .int y_4, .int 1]) (rest := []) ⟨hx, hb, hml, hown, hts⟩ (c_X8_wanted l em dC dI m0 y_2 y_4 1 (.ref lp) (.ref dl) (.ref ff) (.ref fb) (.ref lw) (.ref lo) (.ref (em 1)) (.int 0) lc (.ref (em 0)) H.size) (cwV 3 hts gT_X8_wanted rfl rfl rfl (by decide +kernel) ⟨Nat.le_of_ble_eq_true rfl, Nat.le_of_ble_eq_true rfl⟩) ⟨Pw.blind _ _ _ _ _ _ _, va_recv hKc hPc (ci := 14) (q0 := 0) rfl rfl, fun U hU hW => ⟨rfl, Pw.go hPc hKc hDc hamb hS hFc hU hW⟩⟩ rfl rfl hl.1 rfl (lv_room (Nat.le_of_ble_eq_true rfl)) dL_law_1484 ⟨Nat.le_of_ble_eq_true rfl, Nat.le_of_ble_eq_true rfl⟩) hS (fun q _ h => hFc q h) hFc (fun r_31 u t H1 locs1 ht hvm hw hB hz1 hk1 hS => ?_)
      obtain ⟨hP1, hK1, hD1⟩ := hB
      rw [ht] at hP1
      have hK1 := va_K.moved hvm.symm hK1
      obtain ⟨hP, hD⟩ := va_join (wr := [(ca, .inl (cC, 16, .inr (.inr (.inr (.inr fC))))), (c0, .inr (7, [.ref th, u1, u2, .int 0, .int 0, .int 0, .int 0])), (th, .inl (cH, 4, .inl (fun _ => 0))), (dr, .inl (cO, 26, .inr (.inr (.inr (.inr fD))))), (rr, .inl (cI, 5, .inl (fun _ => 0))), (ty0, .inl (cT, 8, .inl (fun _ => 0))), (sf, .inr (10, [.int 0, sf1, .int 0, .int 0, .int 0, .int 1, .int 0])), (sb, .inr (10, [.int 1, sb1, .int 0, .int 0, .int 0, .int 1, .int 0])), (ra0, .inl (cR, 6, .inl (fun _ => 0))), (bk, .inr (6, [.ref a0, .ref a1, .ref a2, .ref mo, .int 0])), (a0, .inl (cB0, 8, .inl (fun _ => 0))), (a1, .inl (cB1, 8, .inl (fun _ => 0))), (a2, .inl (cB2, 8, .inl (fun _ => 0))), (mo, .inl (cM, 256, .inl (fun _ => 0))), (lp, .inr (5, [.int 0, .ref (em 0), .int 0])), (dl, .inl (cO8, 26, .inr (.inr (.inr (.inr fL))))), (rr8, .inl (cI8, 5, .inl (fun _ => 0))), (ff, .inr (13, [tf, .int 0, .int 0, .int 1, .int 0])), (fb, .inr (13, [tb, .int 0, .int 0, .int 1, .int 0])), (lw, .inr (5, [.int 0, .ref (em 0), .int 0])), (lo, .inr (5, [.int 0, .ref (em 0), .int 0])), (od, .inl (cOd, 1, .inr (.inr (.inr (.inl (fun _ => 0)))))), (ou, .inl (cOut, 1, .inr (.inl (fun _ => 0))))]) (w1 := [(m0, .inr (14, [.ref lc, .ref lp, .ref dl, .ref ff, .ref fb, .ref lw, .ref lo, .ref (em 1), .int 1]))]) hP hD [14, 15] [0, 1, 2, 3, 4, 5, 6, 7, 8, 9, 10, 11, 12, 13, 16, 17, 18, 19, 20, 21, 22, 23, 24] rfl rfl (by decide) (by decide) hk1 hFc hP1 hD1
      have hK := (hK.sub (tys' := [(cC, (.object "Bothfaces$Card")), (cH, .int), (cO, (.array .int)), (cI, .int), (cT, .int), (cR, .int), (cB0, .int), (cB1, .int), (cB2, .int), (cM, .int), (cO8, (.array .int)), (cI8, .int), (cOd, .double), (cOut, .long)]) [0, 1, 2, 3, 4, 5, 6, 7, 8, 9, 10, 11, 12, 13] rfl).app hK1
      generalize H1 = H at hP hS ⊢
      have hP : va_P (dC, dI) vwCl [(ca, .inl (cC, 16, .inr (.inr (.inr (.inr fC))))), (c0, .inr (7, [.ref th, u1, u2, .int 0, .int 0, .int 0, .int 0])), (th, .inl (cH, 4, .inl (fun _ => 0))), (dr, .inl (cO, 26, .inr (.inr (.inr (.inr fD))))), (rr, .inl (cI, 5, .inl (fun _ => 0))), (ty0, .inl (cT, 8, .inl (fun _ => 0))), (sf, .inr (10, [.int 0, sf1, .int 0, .int 0, .int 0, .int 1, .int 0])), (sb, .inr (10, [.int 1, sb1, .int 0, .int 0, .int 0, .int 1, .int 0])), (ra0, .inl (cR, 6, .inl (fun _ => 0))), (bk, .inr (6, [.ref a0, .ref a1, .ref a2, .ref mo, .int 0])), (a0, .inl (cB0, 8, .inl (fun _ => 0))), (a1, .inl (cB1, 8, .inl (fun _ => 0))), (a2, .inl (cB2, 8, .inl (fun _ => 0))), (mo, .inl (cM, 256, .inl (fun _ => 0))), (lp, .inr (5, [.int 0, .ref (em 0), .int 0])), (dl, .inl (cO8, 26, .inr (.inr (.inr (.inr fL))))), (rr8, .inl (cI8, 5, .inl (fun _ => 0))), (ff, .inr (13, [tf, .int 0, .int 0, .int 1, .int 0])), (fb, .inr (13, [tb, .int 0, .int 0, .int 1, .int 0])), (lw, .inr (5, [.int 0, .ref (em 0), .int 0])), (lo, .inr (5, [.int 0, .ref (em 0), .int 0])), (od, .inl (cOd, 1, .inr (.inr (.inr (.inl (fun _ => 0)))))), (ou, .inl (cOut, 1, .inr (.inl (fun _ => 0)))), (m0, .inr (14, [.ref lc, .ref lp, .ref dl, .ref ff, .ref fb, .ref lw, .ref lo, .ref (em 1), .int 1]))] H := hP
      have hD : va_D (fun q : Nat => s.heap.size ≤ q) [(ca, .inl (cC, 16, .inr (.inr (.inr (.inr fC))))), (c0, .inr (7, [.ref th, u1, u2, .int 0, .int 0, .int 0, .int 0])), (th, .inl (cH, 4, .inl (fun _ => 0))), (dr, .inl (cO, 26, .inr (.inr (.inr (.inr fD))))), (rr, .inl (cI, 5, .inl (fun _ => 0))), (ty0, .inl (cT, 8, .inl (fun _ => 0))), (sf, .inr (10, [.int 0, sf1, .int 0, .int 0, .int 0, .int 1, .int 0])), (sb, .inr (10, [.int 1, sb1, .int 0, .int 0, .int 0, .int 1, .int 0])), (ra0, .inl (cR, 6, .inl (fun _ => 0))), (bk, .inr (6, [.ref a0, .ref a1, .ref a2, .ref mo, .int 0])), (a0, .inl (cB0, 8, .inl (fun _ => 0))), (a1, .inl (cB1, 8, .inl (fun _ => 0))), (a2, .inl (cB2, 8, .inl (fun _ => 0))), (mo, .inl (cM, 256, .inl (fun _ => 0))), (lp, .inr (5, [.int 0, .ref (em 0), .int 0])), (dl, .inl (cO8, 26, .inr (.inr (.inr (.inr fL))))), (rr8, .inl (cI8, 5, .inl (fun _ => 0))), (ff, .inr (13, [tf, .int 0, .int 0, .int 1, .int 0])), (fb, .inr (13, [tb, .int 0, .int 0, .int 1, .int 0])), (lw, .inr (5, [.int 0, .ref (em 0), .int 0])), (lo, .inr (5, [.int 0, .ref (em 0), .int 0])), (od, .inl (cOd, 1, .inr (.inr (.inr (.inl (fun _ => 0)))))), (ou, .inl (cOut, 1, .inr (.inl (fun _ => 0)))), (m0, .inr (14, [.ref lc, .ref lp, .ref dl, .ref ff, .ref fb, .ref lw, .ref lo, .ref (em 1), .int 1]))] := hD
      have hK : va_K (dC, dI) vwCl [(cC, (.object "Bothfaces$Card")), (cH, .int), (cO, (.array .int)), (cI, .int), (cT, .int), (cR, .int), (cB0, .int), (cB1, .int), (cB2, .int), (cM, .int), (cO8, (.array .int)), (cI8, .int), (cOd, .double), (cOut, .long)] s := hK
      refine W.widen (k := 147) (n := 2193) (Nat.le_of_ble_eq_true rfl) (Nat.le_of_ble_eq_true rfl) ?_
      have hw : r_31 = 0 := hw
      rw [hw]
      refine lv_istore (lv' := [(7, .int 0), (6, .int 1), (5, .int 0), (4, .ref od), (3, .ref ou), (2, .ref m0), (1, .ref x0), (0, .ref b)]) hx hb dL_law_1487 hl (by decide) rfl (fun ls hl => ?_)
      refine lv_aload_n hx hb dL_law_1489 rfl (lv_at hl 5 rfl) ?_
      have hPc := hP.sub (ws' := [(m0, .inr (14, [.ref lc, .ref lp, .ref dl, .ref ff, .ref fb, .ref lw, .ref lo, .ref (em 1), .int 1]))]) [23] rfl
      have hDc := hD.sub (ws' := [(m0, .inr (14, [.ref lc, .ref lp, .ref dl, .ref ff, .ref fb, .ref lw, .ref lo, .ref (em 1), .int 1]))]) [23] (by decide) rfl
      have hKc := hK.sub (tys' := []) [] rfl
      have hFc := va_free (wc := [(m0, .inr (14, [.ref lc, .ref lp, .ref dl, .ref ff, .ref fb, .ref lw, .ref lo, .ref (em 1), .int 1]))]) hD hS hA [23] rfl
      refine va_calli (va_runV (As := []) (rest := []) ⟨hx, hb, hml, hown, hts⟩ (c_X8_thrown l em dC dI m0 1 (.ref lc) (.ref lp) (.ref dl) (.ref ff) (.ref fb) (.ref lw) (.ref lo) (.ref (em 1)) H.size) (cwV 0 hts gT_X8_thrown rfl rfl rfl (by decide +kernel) ⟨Nat.le_of_ble_eq_true rfl, Nat.le_of_ble_eq_true rfl⟩) ⟨Pw.blind _ _ _ _ _ _ _, va_recv hKc hPc (ci := 14) (q0 := 0) rfl rfl, fun U hU hW => ⟨rfl, Pw.go hPc hKc hDc hamb hS hFc hU hW⟩⟩ rfl rfl hl.1 rfl (lv_room (Nat.le_of_ble_eq_true rfl)) dL_law_1490 ⟨Nat.le_of_ble_eq_true rfl, Nat.le_of_ble_eq_true rfl⟩) hS (fun q _ h => hFc q h) hFc (fun r_32 u t H1 locs1 ht hvm hw hB hz1 hk1 hS => ?_)
      obtain ⟨hP, hD⟩ := va_rest (wr := [(ca, .inl (cC, 16, .inr (.inr (.inr (.inr fC))))), (c0, .inr (7, [.ref th, u1, u2, .int 0, .int 0, .int 0, .int 0])), (th, .inl (cH, 4, .inl (fun _ => 0))), (dr, .inl (cO, 26, .inr (.inr (.inr (.inr fD))))), (rr, .inl (cI, 5, .inl (fun _ => 0))), (ty0, .inl (cT, 8, .inl (fun _ => 0))), (sf, .inr (10, [.int 0, sf1, .int 0, .int 0, .int 0, .int 1, .int 0])), (sb, .inr (10, [.int 1, sb1, .int 0, .int 0, .int 0, .int 1, .int 0])), (ra0, .inl (cR, 6, .inl (fun _ => 0))), (bk, .inr (6, [.ref a0, .ref a1, .ref a2, .ref mo, .int 0])), (a0, .inl (cB0, 8, .inl (fun _ => 0))), (a1, .inl (cB1, 8, .inl (fun _ => 0))), (a2, .inl (cB2, 8, .inl (fun _ => 0))), (mo, .inl (cM, 256, .inl (fun _ => 0))), (lp, .inr (5, [.int 0, .ref (em 0), .int 0])), (dl, .inl (cO8, 26, .inr (.inr (.inr (.inr fL))))), (rr8, .inl (cI8, 5, .inl (fun _ => 0))), (ff, .inr (13, [tf, .int 0, .int 0, .int 1, .int 0])), (fb, .inr (13, [tb, .int 0, .int 0, .int 1, .int 0])), (lw, .inr (5, [.int 0, .ref (em 0), .int 0])), (lo, .inr (5, [.int 0, .ref (em 0), .int 0])), (od, .inl (cOd, 1, .inr (.inr (.inr (.inl (fun _ => 0)))))), (ou, .inl (cOut, 1, .inr (.inl (fun _ => 0))))]) hP hD [23] [0, 1, 2, 3, 4, 5, 6, 7, 8, 9, 10, 11, 12, 13, 14, 15, 16, 17, 18, 19, 20, 21, 22] rfl rfl (by decide) (by decide) hk1 hFc
      generalize H1 = H at hP hS ⊢
      refine W.widen (k := 147) (n := 2193) (Nat.le_of_ble_eq_true rfl) (Nat.le_of_ble_eq_true rfl) ?_
      have hw : r_32 = 1 := hw
      rw [hw]
      refine lv_iload hx hb dL_law_1493 (lv_at hl 1 rfl) ?_
      refine lv_icmp_eq (tgt := 1500) hx hb dL_law_1495 (by decide) (fun c_33 => ?_) (fun c_33 => ?_)
      · refine lv_iload hx hb dL_law_1500 (lv_at hl 1 rfl) ?_
        refine lv_if_ne (tgt := 1517) hx hb dL_law_1502 (by decide) (fun c_34 => ?_) (fun c_34 => ?_)
        · refine lv_goto (tgt := 2636) hx hb dL_law_1517 (by decide) ?_
          refine lv_iinc (v := 6) (lv' := [(5, .int 6), (7, .int 0), (6, .int 1), (4, .ref od), (3, .ref ou), (2, .ref m0), (1, .ref x0), (0, .ref b)]) hx hb dL_law_2636 hl (k := 2) rfl (by decide) (by decide) rfl (fun ls hl => ?_)
          refine lv_goto (tgt := 28) hx hb dL_law_2639 (by decide) ?_
          refine lv_iload hx hb dL_law_28 (lv_at hl 0 rfl) ?_
          refine lv_aload_n hx hb dL_law_30 rfl (lv_at hl 7 rfl) ?_
          refine va_slen hx hb hX hbl hbA hS dL_law_31 ?_
          refine lv_topi (fun n_35 en_35 => ?_)
          obtain rfl : n_35 = 6 := en_35.trans (by decide)
          refine lv_bipush (v := 6) hx hb dL_law_32 (by decide) ?_
          refine lv_isub hx hb dL_law_34 ?_
          refine lv_topi (fun k_36 ek_36 => ?_)
          obtain rfl : k_36 = 0 := ek_36.trans (by decide)
          refine lv_icmp_gt (tgt := 2642) hx hb dL_law_35 (by decide) (fun c_37 => ?_) (fun c_37 => ?_)
          · refine lv_iconst (v := 1) hx hb dL_law_2642 (by decide) ?_
            refine W.widen (k := 600006) (n := 7302072) (Nat.le_of_ble_eq_true rfl) (Nat.le_of_ble_eq_true rfl) ?_
            refine va_forget hS.2.2 ?_
            refine W.base ?_
            exact lw_ret (Drawn.sameBut.refl s.drawn lw_cs) hx hb hr hlocks dL_law_2643
          · exact absurd (by decide) c_37
        · exact absurd c_34 (by decide)
      · exact absurd (by decide) c_33

set_option maxHeartbeats 4000000 in
set_option maxRecDepth 100000 in
theorem law_20 {p : Program} {e : Env} {s : State} {m : MethodId} {below : List Frame} {meth : Method} {c : Code} (l : Launch) (hlt : l.stackTraces = false) {b : Nat} {xs : Nat → Int32} (C0 : lw_At p s m meth c b 6 xs) (em : Nat → Nat) (dC : Nat → ClassId) (dI : Nat → Nat → Nat) (j : Nat) (hjj : ∀ z : Int32, z = ((xs 1).toUInt32 % 65536).toInt32 → 97 ≤ z.toInt → z.toInt ≤ 122 → (z - 97).toNatClampNeg = j) (x0 : Nat) (ca : Nat) (dr : Nat) (ty0 : Nat) (sf : Nat) (sb : Nat) (ra0 : Nat) (bk : Nat) (c0 : Nat) (th : Nat) (rr : Nat) (a0 : Nat) (a1 : Nat) (a2 : Nat) (mo : Nat) (vp : Value) (vm : Value) (u1 : Value) (u2 : Value) (sf1 : Value) (sb1 : Value) (fC : Nat → Option Nat) (fD : Nat → Option Nat) (cC : ClassId) (cH : ClassId) (cO : ClassId) (cI : ClassId) (cT : ClassId) (cR : ClassId) (cB0 : ClassId) (cB1 : ClassId) (cB2 : ClassId) (cM : ClassId) (m0 : Nat) (lc : Nat) (lp : Nat) (dl : Nat) (rr8 : Nat) (ff : Nat) (fb : Nat) (lw : Nat) (lo : Nat) (tf : Value) (tb : Value) (fL : Nat → Option Nat) (cO8 : ClassId) (cI8 : ClassId) (ou : Nat) (od : Nat) (cOut : ClassId) (cOd : ClassId) (hfC : fC 0 = some c0) (hfD : fD j = some rr) (hfL : fL j = some rr8) {H : Heap} {locs : List Loc} (hamb : amb em (fun q : Nat => s.heap.size ≤ q) s s.heap) (hK : va_K (dC, dI) vwCl [(cC, (.object "Bothfaces$Card")), (cH, .int), (cO, (.array .int)), (cI, .int), (cT, .int), (cR, .int), (cB0, .int), (cB1, .int), (cB2, .int), (cM, .int), (cO8, (.array .int)), (cI8, .int), (cOut, .long), (cOd, .double)] s) (hP : va_P (dC, dI) vwCl [(x0, .inr (11, [.ref ca, .int 0, .int 0, .ref dr, .ref ty0, .int 0, .ref sf, .ref sb, vp, vm, .ref ra0, .int 0, .ref bk])), (ca, .inl (cC, 16, .inr (.inr (.inr (.inr fC))))), (c0, .inr (7, [.ref th, u1, u2, .int 0, .int 0, .int 0, .int 0])), (th, .inl (cH, 4, .inl (fun _ => 0))), (dr, .inl (cO, 26, .inr (.inr (.inr (.inr fD))))), (rr, .inl (cI, 5, .inl (fun _ => 0))), (ty0, .inl (cT, 8, .inl (fun _ => 0))), (sf, .inr (10, [.int 0, sf1, .int 0, .int 0, .int 0, .int 1, .int 0])), (sb, .inr (10, [.int 1, sb1, .int 0, .int 0, .int 0, .int 1, .int 0])), (ra0, .inl (cR, 6, .inl (fun _ => 0))), (bk, .inr (6, [.ref a0, .ref a1, .ref a2, .ref mo, .int 0])), (a0, .inl (cB0, 8, .inl (fun _ => 0))), (a1, .inl (cB1, 8, .inl (fun _ => 0))), (a2, .inl (cB2, 8, .inl (fun _ => 0))), (mo, .inl (cM, 256, .inl (fun _ => 0))), (m0, .inr (14, [.ref lc, .ref lp, .ref dl, .ref ff, .ref fb, .ref lw, .ref lo, .ref (em 1), .int 0])), (lc, .inr (5, [.int 0, .ref (em 0), .int 0])), (lp, .inr (5, [.int 0, .ref (em 0), .int 0])), (dl, .inl (cO8, 26, .inr (.inr (.inr (.inr fL))))), (rr8, .inl (cI8, 5, .inl (fun _ => 0))), (ff, .inr (13, [tf, .int 0, .int 0, .int 1, .int 0])), (fb, .inr (13, [tb, .int 0, .int 0, .int 1, .int 0])), (lw, .inr (5, [.int 0, .ref (em 0), .int 0])), (lo, .inr (5, [.int 0, .ref (em 0), .int 0])), (ou, .inl (cOut, 1, .inr (.inl (fun _ => 0)))), (od, .inl (cOd, 1, .inr (.inr (.inr (.inl (fun _ => 0))))))] H) (hD : va_D (fun q : Nat => s.heap.size ≤ q) [(x0, .inr (11, [.ref ca, .int 0, .int 0, .ref dr, .ref ty0, .int 0, .ref sf, .ref sb, vp, vm, .ref ra0, .int 0, .ref bk])), (ca, .inl (cC, 16, .inr (.inr (.inr (.inr fC))))), (c0, .inr (7, [.ref th, u1, u2, .int 0, .int 0, .int 0, .int 0])), (th, .inl (cH, 4, .inl (fun _ => 0))), (dr, .inl (cO, 26, .inr (.inr (.inr (.inr fD))))), (rr, .inl (cI, 5, .inl (fun _ => 0))), (ty0, .inl (cT, 8, .inl (fun _ => 0))), (sf, .inr (10, [.int 0, sf1, .int 0, .int 0, .int 0, .int 1, .int 0])), (sb, .inr (10, [.int 1, sb1, .int 0, .int 0, .int 0, .int 1, .int 0])), (ra0, .inl (cR, 6, .inl (fun _ => 0))), (bk, .inr (6, [.ref a0, .ref a1, .ref a2, .ref mo, .int 0])), (a0, .inl (cB0, 8, .inl (fun _ => 0))), (a1, .inl (cB1, 8, .inl (fun _ => 0))), (a2, .inl (cB2, 8, .inl (fun _ => 0))), (mo, .inl (cM, 256, .inl (fun _ => 0))), (m0, .inr (14, [.ref lc, .ref lp, .ref dl, .ref ff, .ref fb, .ref lw, .ref lo, .ref (em 1), .int 0])), (lc, .inr (5, [.int 0, .ref (em 0), .int 0])), (lp, .inr (5, [.int 0, .ref (em 0), .int 0])), (dl, .inl (cO8, 26, .inr (.inr (.inr (.inr fL))))), (rr8, .inl (cI8, 5, .inl (fun _ => 0))), (ff, .inr (13, [tf, .int 0, .int 0, .int 1, .int 0])), (fb, .inr (13, [tb, .int 0, .int 0, .int 1, .int 0])), (lw, .inr (5, [.int 0, .ref (em 0), .int 0])), (lo, .inr (5, [.int 0, .ref (em 0), .int 0])), (ou, .inl (cOut, 1, .inr (.inl (fun _ => 0)))), (od, .inl (cOd, 1, .inr (.inr (.inr (.inl (fun _ => 0))))))]) (hS : va_S (fun q : Nat => s.heap.size ≤ q) s.heap H locs) {ls : Array Slot} (hl : lv_has ls 9 [(5, .int 0), (4, .ref od), (3, .ref ou), (2, .ref m0), (1, .ref x0), (0, .ref b)]) : W p l e room_1 s m #[Value.ref b] below meth c H locs 146 2187 (lw_Z below #[Value.ref b] s) (F0 m 1520 ls []) := by
  obtain ⟨hx, hb, hr, hml, hown0, hts0, hX, hbl, hlocks, hgv⟩ := id C0
  have hts := ow_hts hts0
  have hown : s.vm.findClass RL = some m.cls := hown0
  have hA : ∀ q : Nat, s.heap.size ≤ q → (fun q : Nat => s.heap.size ≤ q) q := fun _ h => h
  have hbA : ¬ (fun q : Nat => s.heap.size ≤ q) b := Nat.not_le.mpr hbl
  refine lv_aload_n hx hb dL_law_1520 rfl (lv_at hl 4 rfl) ?_
  refine lv_aload_n hx hb dL_law_1521 rfl (lv_at hl 5 rfl) ?_
  refine lv_iload hx hb dL_law_1522 (lv_at hl 0 rfl) ?_
  refine lv_iconst (v := 1) hx hb dL_law_1524 (by decide) ?_
  refine lv_iadd hx hb dL_law_1525 ?_
  refine lv_topi (fun k_1 ek_1 => ?_)
  obtain rfl : k_1 = 1 := ek_1.trans (by decide)
  refine va_sld hx hb hX hbl hbA hS (vp_in_iff.mpr ⟨by decide, by decide⟩) dL_law_1526 ?_
  refine lv_topi (fun y_2 ey_2 => ?_)
  have ey_2 : y_2 = xs 1 := ey_2
  refine lv_aload_n hx hb dL_law_1527 rfl (lv_at hl 2 rfl) ?_
  have hPc := hP.sub (ws' := [(x0, .inr (11, [.ref ca, .int 0, .int 0, .ref dr, .ref ty0, .int 0, .ref sf, .ref sb, vp, vm, .ref ra0, .int 0, .ref bk])), (ou, .inl (cOut, 1, .inr (.inl (fun _ => 0))))]) [0, 24] rfl
  have hDc := hD.sub (ws' := [(x0, .inr (11, [.ref ca, .int 0, .int 0, .ref dr, .ref ty0, .int 0, .ref sf, .ref sb, vp, vm, .ref ra0, .int 0, .ref bk])), (ou, .inl (cOut, 1, .inr (.inl (fun _ => 0))))]) [0, 24] (by decide) rfl
  have hKc := hK.sub (tys' := [(cOut, .long)]) [12] rfl
  have hFc := va_free (wc := [(x0, .inr (11, [.ref ca, .int 0, .int 0, .ref dr, .ref ty0, .int 0, .ref sf, .ref sb, vp, vm, .ref ra0, .int 0, .ref bk])), (ou, .inl (cOut, 1, .inr (.inl (fun _ => 0))))]) hD hS hA [0, 24] rfl
  refine va_calli (vx_runSW (As := [.ref x0, .int y_2, .ref ou]) (rest := []) ⟨hx, hb, hml, hown, hts⟩ (c_L_pairs l hlt em dC dI x0 y_2 (.ref ca) (.int 0) (.ref dr) (.ref ty0) (.int 0) (.ref sf) (.ref sb) vp vm (.ref ra0) (.int 0) (.ref bk) ou cOut (fun _ => 0) H.size) (vx_cwSW 3 hts gT_L_pairs rfl rfl rfl (by decide +kernel) ⟨Nat.le_of_ble_eq_true rfl, Nat.le_of_ble_eq_true rfl⟩) ⟨Pw.blind _ _ _ _ _ _ _, fun U hU hW => ⟨rfl, Pw.go hPc hKc hDc hamb hS hFc hU hW⟩⟩ rfl rfl hl.1 rfl (lv_room (Nat.le_of_ble_eq_true rfl)) dL_law_1528 ⟨Nat.le_of_ble_eq_true rfl, Nat.le_of_ble_eq_true rfl⟩) hS (fun q _ h => hFc q h) hFc (fun r_3 u t H1 locs1 ht hvm hw hB hz1 hk1 hS => ?_)
  obtain ⟨hP1, hK1, hD1⟩ := hB
  rw [ht] at hP1
  have hK1 := va_K.moved hvm.symm hK1
  obtain ⟨hP, hD⟩ := va_join (wr := [(ca, .inl (cC, 16, .inr (.inr (.inr (.inr fC))))), (c0, .inr (7, [.ref th, u1, u2, .int 0, .int 0, .int 0, .int 0])), (th, .inl (cH, 4, .inl (fun _ => 0))), (dr, .inl (cO, 26, .inr (.inr (.inr (.inr fD))))), (rr, .inl (cI, 5, .inl (fun _ => 0))), (ty0, .inl (cT, 8, .inl (fun _ => 0))), (sf, .inr (10, [.int 0, sf1, .int 0, .int 0, .int 0, .int 1, .int 0])), (sb, .inr (10, [.int 1, sb1, .int 0, .int 0, .int 0, .int 1, .int 0])), (ra0, .inl (cR, 6, .inl (fun _ => 0))), (bk, .inr (6, [.ref a0, .ref a1, .ref a2, .ref mo, .int 0])), (a0, .inl (cB0, 8, .inl (fun _ => 0))), (a1, .inl (cB1, 8, .inl (fun _ => 0))), (a2, .inl (cB2, 8, .inl (fun _ => 0))), (mo, .inl (cM, 256, .inl (fun _ => 0))), (m0, .inr (14, [.ref lc, .ref lp, .ref dl, .ref ff, .ref fb, .ref lw, .ref lo, .ref (em 1), .int 0])), (lc, .inr (5, [.int 0, .ref (em 0), .int 0])), (lp, .inr (5, [.int 0, .ref (em 0), .int 0])), (dl, .inl (cO8, 26, .inr (.inr (.inr (.inr fL))))), (rr8, .inl (cI8, 5, .inl (fun _ => 0))), (ff, .inr (13, [tf, .int 0, .int 0, .int 1, .int 0])), (fb, .inr (13, [tb, .int 0, .int 0, .int 1, .int 0])), (lw, .inr (5, [.int 0, .ref (em 0), .int 0])), (lo, .inr (5, [.int 0, .ref (em 0), .int 0])), (od, .inl (cOd, 1, .inr (.inr (.inr (.inl (fun _ => 0))))))]) (w1 := [(ou, .inl (cOut, 1, .inr (.inl (fun _ => 0))))]) hP hD [0, 24] [1, 2, 3, 4, 5, 6, 7, 8, 9, 10, 11, 12, 13, 14, 15, 16, 17, 18, 19, 20, 21, 22, 23, 25] rfl rfl (by decide) (by decide) hk1 hFc hP1 hD1
  have hK := (hK.sub (tys' := [(cC, (.object "Bothfaces$Card")), (cH, .int), (cO, (.array .int)), (cI, .int), (cT, .int), (cR, .int), (cB0, .int), (cB1, .int), (cB2, .int), (cM, .int), (cO8, (.array .int)), (cI8, .int), (cOd, .double)]) [0, 1, 2, 3, 4, 5, 6, 7, 8, 9, 10, 11, 13] rfl).app hK1
  generalize H1 = H at hP hS ⊢
  have hP : va_P (dC, dI) vwCl [(ca, .inl (cC, 16, .inr (.inr (.inr (.inr fC))))), (c0, .inr (7, [.ref th, u1, u2, .int 0, .int 0, .int 0, .int 0])), (th, .inl (cH, 4, .inl (fun _ => 0))), (dr, .inl (cO, 26, .inr (.inr (.inr (.inr fD))))), (rr, .inl (cI, 5, .inl (fun _ => 0))), (ty0, .inl (cT, 8, .inl (fun _ => 0))), (sf, .inr (10, [.int 0, sf1, .int 0, .int 0, .int 0, .int 1, .int 0])), (sb, .inr (10, [.int 1, sb1, .int 0, .int 0, .int 0, .int 1, .int 0])), (ra0, .inl (cR, 6, .inl (fun _ => 0))), (bk, .inr (6, [.ref a0, .ref a1, .ref a2, .ref mo, .int 0])), (a0, .inl (cB0, 8, .inl (fun _ => 0))), (a1, .inl (cB1, 8, .inl (fun _ => 0))), (a2, .inl (cB2, 8, .inl (fun _ => 0))), (mo, .inl (cM, 256, .inl (fun _ => 0))), (m0, .inr (14, [.ref lc, .ref lp, .ref dl, .ref ff, .ref fb, .ref lw, .ref lo, .ref (em 1), .int 0])), (lc, .inr (5, [.int 0, .ref (em 0), .int 0])), (lp, .inr (5, [.int 0, .ref (em 0), .int 0])), (dl, .inl (cO8, 26, .inr (.inr (.inr (.inr fL))))), (rr8, .inl (cI8, 5, .inl (fun _ => 0))), (ff, .inr (13, [tf, .int 0, .int 0, .int 1, .int 0])), (fb, .inr (13, [tb, .int 0, .int 0, .int 1, .int 0])), (lw, .inr (5, [.int 0, .ref (em 0), .int 0])), (lo, .inr (5, [.int 0, .ref (em 0), .int 0])), (od, .inl (cOd, 1, .inr (.inr (.inr (.inl (fun _ => 0)))))), (ou, .inl (cOut, 1, .inr (.inl (fun _ => 0))))] H := hP
  have hD : va_D (fun q : Nat => s.heap.size ≤ q) [(ca, .inl (cC, 16, .inr (.inr (.inr (.inr fC))))), (c0, .inr (7, [.ref th, u1, u2, .int 0, .int 0, .int 0, .int 0])), (th, .inl (cH, 4, .inl (fun _ => 0))), (dr, .inl (cO, 26, .inr (.inr (.inr (.inr fD))))), (rr, .inl (cI, 5, .inl (fun _ => 0))), (ty0, .inl (cT, 8, .inl (fun _ => 0))), (sf, .inr (10, [.int 0, sf1, .int 0, .int 0, .int 0, .int 1, .int 0])), (sb, .inr (10, [.int 1, sb1, .int 0, .int 0, .int 0, .int 1, .int 0])), (ra0, .inl (cR, 6, .inl (fun _ => 0))), (bk, .inr (6, [.ref a0, .ref a1, .ref a2, .ref mo, .int 0])), (a0, .inl (cB0, 8, .inl (fun _ => 0))), (a1, .inl (cB1, 8, .inl (fun _ => 0))), (a2, .inl (cB2, 8, .inl (fun _ => 0))), (mo, .inl (cM, 256, .inl (fun _ => 0))), (m0, .inr (14, [.ref lc, .ref lp, .ref dl, .ref ff, .ref fb, .ref lw, .ref lo, .ref (em 1), .int 0])), (lc, .inr (5, [.int 0, .ref (em 0), .int 0])), (lp, .inr (5, [.int 0, .ref (em 0), .int 0])), (dl, .inl (cO8, 26, .inr (.inr (.inr (.inr fL))))), (rr8, .inl (cI8, 5, .inl (fun _ => 0))), (ff, .inr (13, [tf, .int 0, .int 0, .int 1, .int 0])), (fb, .inr (13, [tb, .int 0, .int 0, .int 1, .int 0])), (lw, .inr (5, [.int 0, .ref (em 0), .int 0])), (lo, .inr (5, [.int 0, .ref (em 0), .int 0])), (od, .inl (cOd, 1, .inr (.inr (.inr (.inl (fun _ => 0)))))), (ou, .inl (cOut, 1, .inr (.inl (fun _ => 0))))] := hD
  have hK : va_K (dC, dI) vwCl [(cC, (.object "Bothfaces$Card")), (cH, .int), (cO, (.array .int)), (cI, .int), (cT, .int), (cR, .int), (cB0, .int), (cB1, .int), (cB2, .int), (cM, .int), (cO8, (.array .int)), (cI8, .int), (cOd, .double), (cOut, .long)] s := hK
  refine W.widen (k := 147) (n := 2193) (Nat.le_of_ble_eq_true rfl) (Nat.le_of_ble_eq_true rfl) ?_
  have hw : r_3 = 1 := hw
  rw [hw]
  refine lv_istore (lv' := [(6, .int 1), (5, .int 0), (4, .ref od), (3, .ref ou), (2, .ref m0), (1, .ref x0), (0, .ref b)]) hx hb dL_law_1531 hl (by decide) rfl (fun ls hl => ?_)
  refine lv_aload_n hx hb dL_law_1533 rfl (lv_at hl 4 rfl) ?_
  refine lv_aload_n hx hb dL_law_1534 rfl (lv_at hl 6 rfl) ?_
  refine lv_iload hx hb dL_law_1535 (lv_at hl 1 rfl) ?_
  refine lv_iconst (v := 1) hx hb dL_law_1537 (by decide) ?_
  refine lv_iadd hx hb dL_law_1538 ?_
  refine lv_topi (fun k_4 ek_4 => ?_)
  obtain rfl : k_4 = 1 := ek_4.trans (by decide)
  refine va_sld hx hb hX hbl hbA hS (vp_in_iff.mpr ⟨by decide, by decide⟩) dL_law_1539 ?_
  refine lv_topi (fun y_5 ey_5 => ?_)
  have ey_5 : y_5 = xs 1 := ey_5
  obtain rfl : y_2 = y_5 := ey_2.trans ey_5.symm
  have hPc := hP.sub (ws' := [(m0, .inr (14, [.ref lc, .ref lp, .ref dl, .ref ff, .ref fb, .ref lw, .ref lo, .ref (em 1), .int 0])), (lc, .inr (5, [.int 0, .ref (em 0), .int 0]))]) [14, 15] rfl
  have hDc := hD.sub (ws' := [(m0, .inr (14, [.ref lc, .ref lp, .ref dl, .ref ff, .ref fb, .ref lw, .ref lo, .ref (em 1), .int 0])), (lc, .inr (5, [.int 0, .ref (em 0), .int 0]))]) [14, 15] (by decide) rfl
  have hKc := hK.sub (tys' := []) [] rfl
  have hFc := va_free (wc := [(m0, .inr (14, [.ref lc, .ref lp, .ref dl, .ref ff, .ref fb, .ref lw, .ref lo, .ref (em 1), .int 0])), (lc, .inr (5, [.int 0, .ref (em 0), .int 0]))]) hD hS hA [14, 15] rfl
  refine va_calli (va_runV (As := [.int y_2]) (rest := []) ⟨hx, hb, hml, hown, hts⟩ (c_X8_pairs l em dC dI m0 y_2 (.ref lp) (.ref dl) (.ref ff) (.ref fb) (.ref lw) (.ref lo) (.ref (em 1)) (.int 0) lc (.ref (em 0)) H.size) (cwV 1 hts gT_X8_pairs rfl rfl rfl (by decide +kernel) ⟨Nat.le_of_ble_eq_true rfl, Nat.le_of_ble_eq_true rfl⟩) ⟨Pw.blind _ _ _ _ _ _ _, va_recv hKc hPc (ci := 14) (q0 := 0) rfl rfl, fun U hU hW => ⟨rfl, Pw.go hPc hKc hDc hamb hS hFc hU hW⟩⟩ rfl rfl hl.1 rfl (lv_room (Nat.le_of_ble_eq_true rfl)) dL_law_1540 ⟨Nat.le_of_ble_eq_true rfl, Nat.le_of_ble_eq_true rfl⟩) hS (fun q _ h => hFc q h) hFc (fun r_6 u t H1 locs1 ht hvm hw hB hz1 hk1 hS => ?_)
  obtain ⟨hP1, hK1, hD1⟩ := hB
  rw [ht] at hP1
  have hK1 := va_K.moved hvm.symm hK1
  obtain ⟨hP, hD⟩ := va_join (wr := [(ca, .inl (cC, 16, .inr (.inr (.inr (.inr fC))))), (c0, .inr (7, [.ref th, u1, u2, .int 0, .int 0, .int 0, .int 0])), (th, .inl (cH, 4, .inl (fun _ => 0))), (dr, .inl (cO, 26, .inr (.inr (.inr (.inr fD))))), (rr, .inl (cI, 5, .inl (fun _ => 0))), (ty0, .inl (cT, 8, .inl (fun _ => 0))), (sf, .inr (10, [.int 0, sf1, .int 0, .int 0, .int 0, .int 1, .int 0])), (sb, .inr (10, [.int 1, sb1, .int 0, .int 0, .int 0, .int 1, .int 0])), (ra0, .inl (cR, 6, .inl (fun _ => 0))), (bk, .inr (6, [.ref a0, .ref a1, .ref a2, .ref mo, .int 0])), (a0, .inl (cB0, 8, .inl (fun _ => 0))), (a1, .inl (cB1, 8, .inl (fun _ => 0))), (a2, .inl (cB2, 8, .inl (fun _ => 0))), (mo, .inl (cM, 256, .inl (fun _ => 0))), (lp, .inr (5, [.int 0, .ref (em 0), .int 0])), (dl, .inl (cO8, 26, .inr (.inr (.inr (.inr fL))))), (rr8, .inl (cI8, 5, .inl (fun _ => 0))), (ff, .inr (13, [tf, .int 0, .int 0, .int 1, .int 0])), (fb, .inr (13, [tb, .int 0, .int 0, .int 1, .int 0])), (lw, .inr (5, [.int 0, .ref (em 0), .int 0])), (lo, .inr (5, [.int 0, .ref (em 0), .int 0])), (od, .inl (cOd, 1, .inr (.inr (.inr (.inl (fun _ => 0)))))), (ou, .inl (cOut, 1, .inr (.inl (fun _ => 0))))]) (w1 := [(m0, .inr (14, [.ref lc, .ref lp, .ref dl, .ref ff, .ref fb, .ref lw, .ref lo, .ref (em 1), .int 1]))]) hP hD [14, 15] [0, 1, 2, 3, 4, 5, 6, 7, 8, 9, 10, 11, 12, 13, 16, 17, 18, 19, 20, 21, 22, 23, 24] rfl rfl (by decide) (by decide) hk1 hFc hP1 hD1
  have hK := (hK.sub (tys' := [(cC, (.object "Bothfaces$Card")), (cH, .int), (cO, (.array .int)), (cI, .int), (cT, .int), (cR, .int), (cB0, .int), (cB1, .int), (cB2, .int), (cM, .int), (cO8, (.array .int)), (cI8, .int), (cOd, .double), (cOut, .long)]) [0, 1, 2, 3, 4, 5, 6, 7, 8, 9, 10, 11, 12, 13] rfl).app hK1
  generalize H1 = H at hP hS ⊢
  have hP : va_P (dC, dI) vwCl [(ca, .inl (cC, 16, .inr (.inr (.inr (.inr fC))))), (c0, .inr (7, [.ref th, u1, u2, .int 0, .int 0, .int 0, .int 0])), (th, .inl (cH, 4, .inl (fun _ => 0))), (dr, .inl (cO, 26, .inr (.inr (.inr (.inr fD))))), (rr, .inl (cI, 5, .inl (fun _ => 0))), (ty0, .inl (cT, 8, .inl (fun _ => 0))), (sf, .inr (10, [.int 0, sf1, .int 0, .int 0, .int 0, .int 1, .int 0])), (sb, .inr (10, [.int 1, sb1, .int 0, .int 0, .int 0, .int 1, .int 0])), (ra0, .inl (cR, 6, .inl (fun _ => 0))), (bk, .inr (6, [.ref a0, .ref a1, .ref a2, .ref mo, .int 0])), (a0, .inl (cB0, 8, .inl (fun _ => 0))), (a1, .inl (cB1, 8, .inl (fun _ => 0))), (a2, .inl (cB2, 8, .inl (fun _ => 0))), (mo, .inl (cM, 256, .inl (fun _ => 0))), (lp, .inr (5, [.int 0, .ref (em 0), .int 0])), (dl, .inl (cO8, 26, .inr (.inr (.inr (.inr fL))))), (rr8, .inl (cI8, 5, .inl (fun _ => 0))), (ff, .inr (13, [tf, .int 0, .int 0, .int 1, .int 0])), (fb, .inr (13, [tb, .int 0, .int 0, .int 1, .int 0])), (lw, .inr (5, [.int 0, .ref (em 0), .int 0])), (lo, .inr (5, [.int 0, .ref (em 0), .int 0])), (od, .inl (cOd, 1, .inr (.inr (.inr (.inl (fun _ => 0)))))), (ou, .inl (cOut, 1, .inr (.inl (fun _ => 0)))), (m0, .inr (14, [.ref lc, .ref lp, .ref dl, .ref ff, .ref fb, .ref lw, .ref lo, .ref (em 1), .int 1]))] H := hP
  have hD : va_D (fun q : Nat => s.heap.size ≤ q) [(ca, .inl (cC, 16, .inr (.inr (.inr (.inr fC))))), (c0, .inr (7, [.ref th, u1, u2, .int 0, .int 0, .int 0, .int 0])), (th, .inl (cH, 4, .inl (fun _ => 0))), (dr, .inl (cO, 26, .inr (.inr (.inr (.inr fD))))), (rr, .inl (cI, 5, .inl (fun _ => 0))), (ty0, .inl (cT, 8, .inl (fun _ => 0))), (sf, .inr (10, [.int 0, sf1, .int 0, .int 0, .int 0, .int 1, .int 0])), (sb, .inr (10, [.int 1, sb1, .int 0, .int 0, .int 0, .int 1, .int 0])), (ra0, .inl (cR, 6, .inl (fun _ => 0))), (bk, .inr (6, [.ref a0, .ref a1, .ref a2, .ref mo, .int 0])), (a0, .inl (cB0, 8, .inl (fun _ => 0))), (a1, .inl (cB1, 8, .inl (fun _ => 0))), (a2, .inl (cB2, 8, .inl (fun _ => 0))), (mo, .inl (cM, 256, .inl (fun _ => 0))), (lp, .inr (5, [.int 0, .ref (em 0), .int 0])), (dl, .inl (cO8, 26, .inr (.inr (.inr (.inr fL))))), (rr8, .inl (cI8, 5, .inl (fun _ => 0))), (ff, .inr (13, [tf, .int 0, .int 0, .int 1, .int 0])), (fb, .inr (13, [tb, .int 0, .int 0, .int 1, .int 0])), (lw, .inr (5, [.int 0, .ref (em 0), .int 0])), (lo, .inr (5, [.int 0, .ref (em 0), .int 0])), (od, .inl (cOd, 1, .inr (.inr (.inr (.inl (fun _ => 0)))))), (ou, .inl (cOut, 1, .inr (.inl (fun _ => 0)))), (m0, .inr (14, [.ref lc, .ref lp, .ref dl, .ref ff, .ref fb, .ref lw, .ref lo, .ref (em 1), .int 1]))] := hD
  have hK : va_K (dC, dI) vwCl [(cC, (.object "Bothfaces$Card")), (cH, .int), (cO, (.array .int)), (cI, .int), (cT, .int), (cR, .int), (cB0, .int), (cB1, .int), (cB2, .int), (cM, .int), (cO8, (.array .int)), (cI8, .int), (cOd, .double), (cOut, .long)] s := hK
  refine W.widen (k := 147) (n := 2193) (Nat.le_of_ble_eq_true rfl) (Nat.le_of_ble_eq_true rfl) ?_
  have hw : r_6 = 0 := hw
  rw [hw]
  refine lv_istore (lv' := [(7, .int 0), (6, .int 1), (5, .int 0), (4, .ref od), (3, .ref ou), (2, .ref m0), (1, .ref x0), (0, .ref b)]) hx hb dL_law_1543 hl (by decide) rfl (fun ls hl => ?_)
  refine lv_aload_n hx hb dL_law_1545 rfl (lv_at hl 5 rfl) ?_
  have hPc := hP.sub (ws' := [(m0, .inr (14, [.ref lc, .ref lp, .ref dl, .ref ff, .ref fb, .ref lw, .ref lo, .ref (em 1), .int 1]))]) [23] rfl
  have hDc := hD.sub (ws' := [(m0, .inr (14, [.ref lc, .ref lp, .ref dl, .ref ff, .ref fb, .ref lw, .ref lo, .ref (em 1), .int 1]))]) [23] (by decide) rfl
  have hKc := hK.sub (tys' := []) [] rfl
  have hFc := va_free (wc := [(m0, .inr (14, [.ref lc, .ref lp, .ref dl, .ref ff, .ref fb, .ref lw, .ref lo, .ref (em 1), .int 1]))]) hD hS hA [23] rfl
  refine va_calli (va_runV (As := []) (rest := []) ⟨hx, hb, hml, hown, hts⟩ (c_X8_thrown l em dC dI m0 1 (.ref lc) (.ref lp) (.ref dl) (.ref ff) (.ref fb) (.ref lw) (.ref lo) (.ref (em 1)) H.size) (cwV 0 hts gT_X8_thrown rfl rfl rfl (by decide +kernel) ⟨Nat.le_of_ble_eq_true rfl, Nat.le_of_ble_eq_true rfl⟩) ⟨Pw.blind _ _ _ _ _ _ _, va_recv hKc hPc (ci := 14) (q0 := 0) rfl rfl, fun U hU hW => ⟨rfl, Pw.go hPc hKc hDc hamb hS hFc hU hW⟩⟩ rfl rfl hl.1 rfl (lv_room (Nat.le_of_ble_eq_true rfl)) dL_law_1546 ⟨Nat.le_of_ble_eq_true rfl, Nat.le_of_ble_eq_true rfl⟩) hS (fun q _ h => hFc q h) hFc (fun r_7 u t H1 locs1 ht hvm hw hB hz1 hk1 hS => ?_)
  obtain ⟨hP, hD⟩ := va_rest (wr := [(ca, .inl (cC, 16, .inr (.inr (.inr (.inr fC))))), (c0, .inr (7, [.ref th, u1, u2, .int 0, .int 0, .int 0, .int 0])), (th, .inl (cH, 4, .inl (fun _ => 0))), (dr, .inl (cO, 26, .inr (.inr (.inr (.inr fD))))), (rr, .inl (cI, 5, .inl (fun _ => 0))), (ty0, .inl (cT, 8, .inl (fun _ => 0))), (sf, .inr (10, [.int 0, sf1, .int 0, .int 0, .int 0, .int 1, .int 0])), (sb, .inr (10, [.int 1, sb1, .int 0, .int 0, .int 0, .int 1, .int 0])), (ra0, .inl (cR, 6, .inl (fun _ => 0))), (bk, .inr (6, [.ref a0, .ref a1, .ref a2, .ref mo, .int 0])), (a0, .inl (cB0, 8, .inl (fun _ => 0))), (a1, .inl (cB1, 8, .inl (fun _ => 0))), (a2, .inl (cB2, 8, .inl (fun _ => 0))), (mo, .inl (cM, 256, .inl (fun _ => 0))), (lp, .inr (5, [.int 0, .ref (em 0), .int 0])), (dl, .inl (cO8, 26, .inr (.inr (.inr (.inr fL))))), (rr8, .inl (cI8, 5, .inl (fun _ => 0))), (ff, .inr (13, [tf, .int 0, .int 0, .int 1, .int 0])), (fb, .inr (13, [tb, .int 0, .int 0, .int 1, .int 0])), (lw, .inr (5, [.int 0, .ref (em 0), .int 0])), (lo, .inr (5, [.int 0, .ref (em 0), .int 0])), (od, .inl (cOd, 1, .inr (.inr (.inr (.inl (fun _ => 0)))))), (ou, .inl (cOut, 1, .inr (.inl (fun _ => 0))))]) hP hD [23] [0, 1, 2, 3, 4, 5, 6, 7, 8, 9, 10, 11, 12, 13, 14, 15, 16, 17, 18, 19, 20, 21, 22] rfl rfl (by decide) (by decide) hk1 hFc
  generalize H1 = H at hP hS ⊢
  refine W.widen (k := 147) (n := 2193) (Nat.le_of_ble_eq_true rfl) (Nat.le_of_ble_eq_true rfl) ?_
  have hw : r_7 = 1 := hw
  rw [hw]
  refine lv_iload hx hb dL_law_1549 (lv_at hl 1 rfl) ?_
  refine lv_icmp_eq (tgt := 1556) hx hb dL_law_1551 (by decide) (fun c_8 => ?_) (fun c_8 => ?_)
  · refine lv_iload hx hb dL_law_1556 (lv_at hl 1 rfl) ?_
    refine lv_if_ne (tgt := 1573) hx hb dL_law_1558 (by decide) (fun c_9 => ?_) (fun c_9 => ?_)
    · refine lv_goto (tgt := 2636) hx hb dL_law_1573 (by decide) ?_
      refine lv_iinc (v := 6) (lv' := [(5, .int 6), (7, .int 0), (6, .int 1), (4, .ref od), (3, .ref ou), (2, .ref m0), (1, .ref x0), (0, .ref b)]) hx hb dL_law_2636 hl (k := 2) rfl (by decide) (by decide) rfl (fun ls hl => ?_)
      refine lv_goto (tgt := 28) hx hb dL_law_2639 (by decide) ?_
      refine lv_iload hx hb dL_law_28 (lv_at hl 0 rfl) ?_
      refine lv_aload_n hx hb dL_law_30 rfl (lv_at hl 7 rfl) ?_
      refine va_slen hx hb hX hbl hbA hS dL_law_31 ?_
      refine lv_topi (fun n_10 en_10 => ?_)
      obtain rfl : n_10 = 6 := en_10.trans (by decide)
      refine lv_bipush (v := 6) hx hb dL_law_32 (by decide) ?_
      refine lv_isub hx hb dL_law_34 ?_
      refine lv_topi (fun k_11 ek_11 => ?_)
      obtain rfl : k_11 = 0 := ek_11.trans (by decide)
      refine lv_icmp_gt (tgt := 2642) hx hb dL_law_35 (by decide) (fun c_12 => ?_) (fun c_12 => ?_)
      · refine lv_iconst (v := 1) hx hb dL_law_2642 (by decide) ?_
        refine W.widen (k := 600006) (n := 7302072) (Nat.le_of_ble_eq_true rfl) (Nat.le_of_ble_eq_true rfl) ?_
        refine va_forget hS.2.2 ?_
        refine W.base ?_
        exact lw_ret (Drawn.sameBut.refl s.drawn lw_cs) hx hb hr hlocks dL_law_2643
      · exact absurd (by decide) c_12
    · exact absurd c_9 (by decide)
  · exact absurd (by decide) c_8

set_option maxHeartbeats 4000000 in
set_option maxRecDepth 100000 in
theorem law_21 {p : Program} {e : Env} {s : State} {m : MethodId} {below : List Frame} {meth : Method} {c : Code} (l : Launch) (hlt : l.stackTraces = false) {b : Nat} {xs : Nat → Int32} (C0 : lw_At p s m meth c b 6 xs) (em : Nat → Nat) (dC : Nat → ClassId) (dI : Nat → Nat → Nat) (j : Nat) (hjj : ∀ z : Int32, z = ((xs 1).toUInt32 % 65536).toInt32 → 97 ≤ z.toInt → z.toInt ≤ 122 → (z - 97).toNatClampNeg = j) (x0 : Nat) (ca : Nat) (dr : Nat) (ty0 : Nat) (sf : Nat) (sb : Nat) (ra0 : Nat) (bk : Nat) (c0 : Nat) (th : Nat) (rr : Nat) (a0 : Nat) (a1 : Nat) (a2 : Nat) (mo : Nat) (vp : Value) (vm : Value) (u1 : Value) (u2 : Value) (sf1 : Value) (sb1 : Value) (fC : Nat → Option Nat) (fD : Nat → Option Nat) (cC : ClassId) (cH : ClassId) (cO : ClassId) (cI : ClassId) (cT : ClassId) (cR : ClassId) (cB0 : ClassId) (cB1 : ClassId) (cB2 : ClassId) (cM : ClassId) (m0 : Nat) (lc : Nat) (lp : Nat) (dl : Nat) (rr8 : Nat) (ff : Nat) (fb : Nat) (lw : Nat) (lo : Nat) (tf : Value) (tb : Value) (fL : Nat → Option Nat) (cO8 : ClassId) (cI8 : ClassId) (ou : Nat) (od : Nat) (cOut : ClassId) (cOd : ClassId) (hfC : fC 0 = some c0) (hfD : fD j = some rr) (hfL : fL j = some rr8) {H : Heap} {locs : List Loc} (hamb : amb em (fun q : Nat => s.heap.size ≤ q) s s.heap) (hK : va_K (dC, dI) vwCl [(cC, (.object "Bothfaces$Card")), (cH, .int), (cO, (.array .int)), (cI, .int), (cT, .int), (cR, .int), (cB0, .int), (cB1, .int), (cB2, .int), (cM, .int), (cO8, (.array .int)), (cI8, .int), (cOut, .long), (cOd, .double)] s) (hP : va_P (dC, dI) vwCl [(x0, .inr (11, [.ref ca, .int 0, .int 0, .ref dr, .ref ty0, .int 0, .ref sf, .ref sb, vp, vm, .ref ra0, .int 0, .ref bk])), (ca, .inl (cC, 16, .inr (.inr (.inr (.inr fC))))), (c0, .inr (7, [.ref th, u1, u2, .int 0, .int 0, .int 0, .int 0])), (th, .inl (cH, 4, .inl (fun _ => 0))), (dr, .inl (cO, 26, .inr (.inr (.inr (.inr fD))))), (rr, .inl (cI, 5, .inl (fun _ => 0))), (ty0, .inl (cT, 8, .inl (fun _ => 0))), (sf, .inr (10, [.int 0, sf1, .int 0, .int 0, .int 0, .int 1, .int 0])), (sb, .inr (10, [.int 1, sb1, .int 0, .int 0, .int 0, .int 1, .int 0])), (ra0, .inl (cR, 6, .inl (fun _ => 0))), (bk, .inr (6, [.ref a0, .ref a1, .ref a2, .ref mo, .int 0])), (a0, .inl (cB0, 8, .inl (fun _ => 0))), (a1, .inl (cB1, 8, .inl (fun _ => 0))), (a2, .inl (cB2, 8, .inl (fun _ => 0))), (mo, .inl (cM, 256, .inl (fun _ => 0))), (m0, .inr (14, [.ref lc, .ref lp, .ref dl, .ref ff, .ref fb, .ref lw, .ref lo, .ref (em 1), .int 0])), (lc, .inr (5, [.int 0, .ref (em 0), .int 0])), (lp, .inr (5, [.int 0, .ref (em 0), .int 0])), (dl, .inl (cO8, 26, .inr (.inr (.inr (.inr fL))))), (rr8, .inl (cI8, 5, .inl (fun _ => 0))), (ff, .inr (13, [tf, .int 0, .int 0, .int 1, .int 0])), (fb, .inr (13, [tb, .int 0, .int 0, .int 1, .int 0])), (lw, .inr (5, [.int 0, .ref (em 0), .int 0])), (lo, .inr (5, [.int 0, .ref (em 0), .int 0])), (ou, .inl (cOut, 1, .inr (.inl (fun _ => 0)))), (od, .inl (cOd, 1, .inr (.inr (.inr (.inl (fun _ => 0))))))] H) (hD : va_D (fun q : Nat => s.heap.size ≤ q) [(x0, .inr (11, [.ref ca, .int 0, .int 0, .ref dr, .ref ty0, .int 0, .ref sf, .ref sb, vp, vm, .ref ra0, .int 0, .ref bk])), (ca, .inl (cC, 16, .inr (.inr (.inr (.inr fC))))), (c0, .inr (7, [.ref th, u1, u2, .int 0, .int 0, .int 0, .int 0])), (th, .inl (cH, 4, .inl (fun _ => 0))), (dr, .inl (cO, 26, .inr (.inr (.inr (.inr fD))))), (rr, .inl (cI, 5, .inl (fun _ => 0))), (ty0, .inl (cT, 8, .inl (fun _ => 0))), (sf, .inr (10, [.int 0, sf1, .int 0, .int 0, .int 0, .int 1, .int 0])), (sb, .inr (10, [.int 1, sb1, .int 0, .int 0, .int 0, .int 1, .int 0])), (ra0, .inl (cR, 6, .inl (fun _ => 0))), (bk, .inr (6, [.ref a0, .ref a1, .ref a2, .ref mo, .int 0])), (a0, .inl (cB0, 8, .inl (fun _ => 0))), (a1, .inl (cB1, 8, .inl (fun _ => 0))), (a2, .inl (cB2, 8, .inl (fun _ => 0))), (mo, .inl (cM, 256, .inl (fun _ => 0))), (m0, .inr (14, [.ref lc, .ref lp, .ref dl, .ref ff, .ref fb, .ref lw, .ref lo, .ref (em 1), .int 0])), (lc, .inr (5, [.int 0, .ref (em 0), .int 0])), (lp, .inr (5, [.int 0, .ref (em 0), .int 0])), (dl, .inl (cO8, 26, .inr (.inr (.inr (.inr fL))))), (rr8, .inl (cI8, 5, .inl (fun _ => 0))), (ff, .inr (13, [tf, .int 0, .int 0, .int 1, .int 0])), (fb, .inr (13, [tb, .int 0, .int 0, .int 1, .int 0])), (lw, .inr (5, [.int 0, .ref (em 0), .int 0])), (lo, .inr (5, [.int 0, .ref (em 0), .int 0])), (ou, .inl (cOut, 1, .inr (.inl (fun _ => 0)))), (od, .inl (cOd, 1, .inr (.inr (.inr (.inl (fun _ => 0))))))]) (hS : va_S (fun q : Nat => s.heap.size ≤ q) s.heap H locs) {ls : Array Slot} (hl : lv_has ls 9 [(5, .int 0), (4, .ref od), (3, .ref ou), (2, .ref m0), (1, .ref x0), (0, .ref b)]) : W p l e room_1 s m #[Value.ref b] below meth c H locs 146 2187 (lw_Z below #[Value.ref b] s) (F0 m 1576 ls []) := by
  obtain ⟨hx, hb, hr, hml, hown0, hts0, hX, hbl, hlocks, hgv⟩ := id C0
  have hts := ow_hts hts0
  have hown : s.vm.findClass RL = some m.cls := hown0
  have hA : ∀ q : Nat, s.heap.size ≤ q → (fun q : Nat => s.heap.size ≤ q) q := fun _ h => h
  have hbA : ¬ (fun q : Nat => s.heap.size ≤ q) b := Nat.not_le.mpr hbl
  refine lv_aload_n hx hb dL_law_1576 rfl (lv_at hl 4 rfl) ?_
  refine lv_aload_n hx hb dL_law_1577 rfl (lv_at hl 5 rfl) ?_
  refine lv_iload hx hb dL_law_1578 (lv_at hl 0 rfl) ?_
  refine lv_iconst (v := 1) hx hb dL_law_1580 (by decide) ?_
  refine lv_iadd hx hb dL_law_1581 ?_
  refine lv_topi (fun k_1 ek_1 => ?_)
  obtain rfl : k_1 = 1 := ek_1.trans (by decide)
  refine va_sld hx hb hX hbl hbA hS (vp_in_iff.mpr ⟨by decide, by decide⟩) dL_law_1582 ?_
  refine lv_topi (fun y_2 ey_2 => ?_)
  have ey_2 : y_2 = xs 1 := ey_2
  refine lv_aload_n hx hb dL_law_1583 rfl (lv_at hl 5 rfl) ?_
  refine lv_iload hx hb dL_law_1584 (lv_at hl 0 rfl) ?_
  refine lv_iconst (v := 2) hx hb dL_law_1586 (by decide) ?_
  refine lv_iadd hx hb dL_law_1587 ?_
  refine lv_topi (fun k_3 ek_3 => ?_)
  obtain rfl : k_3 = 2 := ek_3.trans (by decide)
  refine va_sld hx hb hX hbl hbA hS (vp_in_iff.mpr ⟨by decide, by decide⟩) dL_law_1588 ?_
  refine lv_topi (fun y_4 ey_4 => ?_)
  have ey_4 : y_4 = xs 2 := ey_4
  refine lv_aload_n hx hb dL_law_1589 rfl (lv_at hl 2 rfl) ?_
  have hPc := hP.sub (ws' := [(x0, .inr (11, [.ref ca, .int 0, .int 0, .ref dr, .ref ty0, .int 0, .ref sf, .ref sb, vp, vm, .ref ra0, .int 0, .ref bk])), (ou, .inl (cOut, 1, .inr (.inl (fun _ => 0))))]) [0, 24] rfl
  have hDc := hD.sub (ws' := [(x0, .inr (11, [.ref ca, .int 0, .int 0, .ref dr, .ref ty0, .int 0, .ref sf, .ref sb, vp, vm, .ref ra0, .int 0, .ref bk])), (ou, .inl (cOut, 1, .inr (.inl (fun _ => 0))))]) [0, 24] (by decide) rfl
  have hKc := hK.sub (tys' := [(cOut, .long)]) [12] rfl
  have hFc := va_free (wc := [(x0, .inr (11, [.ref ca, .int 0, .int 0, .ref dr, .ref ty0, .int 0, .ref sf, .ref sb, vp, vm, .ref ra0, .int 0, .ref bk])), (ou, .inl (cOut, 1, .inr (.inl (fun _ => 0))))]) hD hS hA [0, 24] rfl
  refine va_calli (vx_runSW (As := [.ref x0, .int y_2, .int y_4, .ref ou]) (rest := []) ⟨hx, hb, hml, hown, hts⟩ (c_L_canPlan l hlt em dC dI x0 y_2 y_4 (.ref ca) (.int 0) (.ref dr) (.ref ty0) (.int 0) (.ref sf) (.ref sb) vp vm (.ref ra0) (.int 0) (.ref bk) ou cOut (fun _ => 0) H.size) (vx_cwSW 4 hts gT_L_canPlan rfl rfl rfl (by decide +kernel) ⟨Nat.le_of_ble_eq_true rfl, Nat.le_of_ble_eq_true rfl⟩) ⟨Pw.blind _ _ _ _ _ _ _, fun U hU hW => ⟨rfl, Pw.go hPc hKc hDc hamb hS hFc hU hW⟩⟩ rfl rfl hl.1 rfl (lv_room (Nat.le_of_ble_eq_true rfl)) dL_law_1590 ⟨Nat.le_of_ble_eq_true rfl, Nat.le_of_ble_eq_true rfl⟩) hS (fun q _ h => hFc q h) hFc (fun r_5 u t H1 locs1 ht hvm hw hB hz1 hk1 hS => ?_)
  obtain ⟨hP1, hK1, hD1⟩ := hB
  rw [ht] at hP1
  have hK1 := va_K.moved hvm.symm hK1
  obtain ⟨hP, hD⟩ := va_join (wr := [(ca, .inl (cC, 16, .inr (.inr (.inr (.inr fC))))), (c0, .inr (7, [.ref th, u1, u2, .int 0, .int 0, .int 0, .int 0])), (th, .inl (cH, 4, .inl (fun _ => 0))), (dr, .inl (cO, 26, .inr (.inr (.inr (.inr fD))))), (rr, .inl (cI, 5, .inl (fun _ => 0))), (ty0, .inl (cT, 8, .inl (fun _ => 0))), (sf, .inr (10, [.int 0, sf1, .int 0, .int 0, .int 0, .int 1, .int 0])), (sb, .inr (10, [.int 1, sb1, .int 0, .int 0, .int 0, .int 1, .int 0])), (ra0, .inl (cR, 6, .inl (fun _ => 0))), (bk, .inr (6, [.ref a0, .ref a1, .ref a2, .ref mo, .int 0])), (a0, .inl (cB0, 8, .inl (fun _ => 0))), (a1, .inl (cB1, 8, .inl (fun _ => 0))), (a2, .inl (cB2, 8, .inl (fun _ => 0))), (mo, .inl (cM, 256, .inl (fun _ => 0))), (m0, .inr (14, [.ref lc, .ref lp, .ref dl, .ref ff, .ref fb, .ref lw, .ref lo, .ref (em 1), .int 0])), (lc, .inr (5, [.int 0, .ref (em 0), .int 0])), (lp, .inr (5, [.int 0, .ref (em 0), .int 0])), (dl, .inl (cO8, 26, .inr (.inr (.inr (.inr fL))))), (rr8, .inl (cI8, 5, .inl (fun _ => 0))), (ff, .inr (13, [tf, .int 0, .int 0, .int 1, .int 0])), (fb, .inr (13, [tb, .int 0, .int 0, .int 1, .int 0])), (lw, .inr (5, [.int 0, .ref (em 0), .int 0])), (lo, .inr (5, [.int 0, .ref (em 0), .int 0])), (od, .inl (cOd, 1, .inr (.inr (.inr (.inl (fun _ => 0))))))]) (w1 := [(ou, .inl (cOut, 1, .inr (.inl (fun _ => 0))))]) hP hD [0, 24] [1, 2, 3, 4, 5, 6, 7, 8, 9, 10, 11, 12, 13, 14, 15, 16, 17, 18, 19, 20, 21, 22, 23, 25] rfl rfl (by decide) (by decide) hk1 hFc hP1 hD1
  have hK := (hK.sub (tys' := [(cC, (.object "Bothfaces$Card")), (cH, .int), (cO, (.array .int)), (cI, .int), (cT, .int), (cR, .int), (cB0, .int), (cB1, .int), (cB2, .int), (cM, .int), (cO8, (.array .int)), (cI8, .int), (cOd, .double)]) [0, 1, 2, 3, 4, 5, 6, 7, 8, 9, 10, 11, 13] rfl).app hK1
  generalize H1 = H at hP hS ⊢
  have hP : va_P (dC, dI) vwCl [(ca, .inl (cC, 16, .inr (.inr (.inr (.inr fC))))), (c0, .inr (7, [.ref th, u1, u2, .int 0, .int 0, .int 0, .int 0])), (th, .inl (cH, 4, .inl (fun _ => 0))), (dr, .inl (cO, 26, .inr (.inr (.inr (.inr fD))))), (rr, .inl (cI, 5, .inl (fun _ => 0))), (ty0, .inl (cT, 8, .inl (fun _ => 0))), (sf, .inr (10, [.int 0, sf1, .int 0, .int 0, .int 0, .int 1, .int 0])), (sb, .inr (10, [.int 1, sb1, .int 0, .int 0, .int 0, .int 1, .int 0])), (ra0, .inl (cR, 6, .inl (fun _ => 0))), (bk, .inr (6, [.ref a0, .ref a1, .ref a2, .ref mo, .int 0])), (a0, .inl (cB0, 8, .inl (fun _ => 0))), (a1, .inl (cB1, 8, .inl (fun _ => 0))), (a2, .inl (cB2, 8, .inl (fun _ => 0))), (mo, .inl (cM, 256, .inl (fun _ => 0))), (m0, .inr (14, [.ref lc, .ref lp, .ref dl, .ref ff, .ref fb, .ref lw, .ref lo, .ref (em 1), .int 0])), (lc, .inr (5, [.int 0, .ref (em 0), .int 0])), (lp, .inr (5, [.int 0, .ref (em 0), .int 0])), (dl, .inl (cO8, 26, .inr (.inr (.inr (.inr fL))))), (rr8, .inl (cI8, 5, .inl (fun _ => 0))), (ff, .inr (13, [tf, .int 0, .int 0, .int 1, .int 0])), (fb, .inr (13, [tb, .int 0, .int 0, .int 1, .int 0])), (lw, .inr (5, [.int 0, .ref (em 0), .int 0])), (lo, .inr (5, [.int 0, .ref (em 0), .int 0])), (od, .inl (cOd, 1, .inr (.inr (.inr (.inl (fun _ => 0)))))), (ou, .inl (cOut, 1, .inr (.inl (fun _ => 0))))] H := hP
  have hD : va_D (fun q : Nat => s.heap.size ≤ q) [(ca, .inl (cC, 16, .inr (.inr (.inr (.inr fC))))), (c0, .inr (7, [.ref th, u1, u2, .int 0, .int 0, .int 0, .int 0])), (th, .inl (cH, 4, .inl (fun _ => 0))), (dr, .inl (cO, 26, .inr (.inr (.inr (.inr fD))))), (rr, .inl (cI, 5, .inl (fun _ => 0))), (ty0, .inl (cT, 8, .inl (fun _ => 0))), (sf, .inr (10, [.int 0, sf1, .int 0, .int 0, .int 0, .int 1, .int 0])), (sb, .inr (10, [.int 1, sb1, .int 0, .int 0, .int 0, .int 1, .int 0])), (ra0, .inl (cR, 6, .inl (fun _ => 0))), (bk, .inr (6, [.ref a0, .ref a1, .ref a2, .ref mo, .int 0])), (a0, .inl (cB0, 8, .inl (fun _ => 0))), (a1, .inl (cB1, 8, .inl (fun _ => 0))), (a2, .inl (cB2, 8, .inl (fun _ => 0))), (mo, .inl (cM, 256, .inl (fun _ => 0))), (m0, .inr (14, [.ref lc, .ref lp, .ref dl, .ref ff, .ref fb, .ref lw, .ref lo, .ref (em 1), .int 0])), (lc, .inr (5, [.int 0, .ref (em 0), .int 0])), (lp, .inr (5, [.int 0, .ref (em 0), .int 0])), (dl, .inl (cO8, 26, .inr (.inr (.inr (.inr fL))))), (rr8, .inl (cI8, 5, .inl (fun _ => 0))), (ff, .inr (13, [tf, .int 0, .int 0, .int 1, .int 0])), (fb, .inr (13, [tb, .int 0, .int 0, .int 1, .int 0])), (lw, .inr (5, [.int 0, .ref (em 0), .int 0])), (lo, .inr (5, [.int 0, .ref (em 0), .int 0])), (od, .inl (cOd, 1, .inr (.inr (.inr (.inl (fun _ => 0)))))), (ou, .inl (cOut, 1, .inr (.inl (fun _ => 0))))] := hD
  have hK : va_K (dC, dI) vwCl [(cC, (.object "Bothfaces$Card")), (cH, .int), (cO, (.array .int)), (cI, .int), (cT, .int), (cR, .int), (cB0, .int), (cB1, .int), (cB2, .int), (cM, .int), (cO8, (.array .int)), (cI8, .int), (cOd, .double), (cOut, .long)] s := hK
  refine W.widen (k := 147) (n := 2193) (Nat.le_of_ble_eq_true rfl) (Nat.le_of_ble_eq_true rfl) ?_
  have hw : r_5 = 1 := hw
  rw [hw]
  refine lv_istore (lv' := [(6, .int 1), (5, .int 0), (4, .ref od), (3, .ref ou), (2, .ref m0), (1, .ref x0), (0, .ref b)]) hx hb dL_law_1593 hl (by decide) rfl (fun ls hl => ?_)
  refine lv_aload_n hx hb dL_law_1595 rfl (lv_at hl 4 rfl) ?_
  refine lv_aload_n hx hb dL_law_1596 rfl (lv_at hl 6 rfl) ?_
  refine lv_iload hx hb dL_law_1597 (lv_at hl 1 rfl) ?_
  refine lv_iconst (v := 1) hx hb dL_law_1599 (by decide) ?_
  refine lv_iadd hx hb dL_law_1600 ?_
  refine lv_topi (fun k_6 ek_6 => ?_)
  obtain rfl : k_6 = 1 := ek_6.trans (by decide)
  refine va_sld hx hb hX hbl hbA hS (vp_in_iff.mpr ⟨by decide, by decide⟩) dL_law_1601 ?_
  refine lv_topi (fun y_7 ey_7 => ?_)
  have ey_7 : y_7 = xs 1 := ey_7
  obtain rfl : y_2 = y_7 := ey_2.trans ey_7.symm
  refine lv_aload_n hx hb dL_law_1602 rfl (lv_at hl 6 rfl) ?_
  refine lv_iload hx hb dL_law_1603 (lv_at hl 1 rfl) ?_
  refine lv_iconst (v := 2) hx hb dL_law_1605 (by decide) ?_
  refine lv_iadd hx hb dL_law_1606 ?_
  refine lv_topi (fun k_8 ek_8 => ?_)
  obtain rfl : k_8 = 2 := ek_8.trans (by decide)
  refine va_sld hx hb hX hbl hbA hS (vp_in_iff.mpr ⟨by decide, by decide⟩) dL_law_1607 ?_
  refine lv_topi (fun y_9 ey_9 => ?_)
  have ey_9 : y_9 = xs 2 := ey_9
  obtain rfl : y_4 = y_9 := ey_4.trans ey_9.symm
  have hPc := hP.sub (ws' := [(m0, .inr (14, [.ref lc, .ref lp, .ref dl, .ref ff, .ref fb, .ref lw, .ref lo, .ref (em 1), .int 0])), (lc, .inr (5, [.int 0, .ref (em 0), .int 0]))]) [14, 15] rfl
  have hDc := hD.sub (ws' := [(m0, .inr (14, [.ref lc, .ref lp, .ref dl, .ref ff, .ref fb, .ref lw, .ref lo, .ref (em 1), .int 0])), (lc, .inr (5, [.int 0, .ref (em 0), .int 0]))]) [14, 15] (by decide) rfl
  have hKc := hK.sub (tys' := []) [] rfl
  have hFc := va_free (wc := [(m0, .inr (14, [.ref lc, .ref lp, .ref dl, .ref ff, .ref fb, .ref lw, .ref lo, .ref (em 1), .int 0])), (lc, .inr (5, [.int 0, .ref (em 0), .int 0]))]) hD hS hA [14, 15] rfl
  refine va_calli (va_runV (As := [.int y_2, .int y_4]) (rest := []) ⟨hx, hb, hml, hown, hts⟩ (c_X8_canPlan l em dC dI m0 y_2 y_4 (.ref lp) (.ref dl) (.ref ff) (.ref fb) (.ref lw) (.ref lo) (.ref (em 1)) (.int 0) lc (.ref (em 0)) H.size) (cwV 2 hts gT_X8_canPlan rfl rfl rfl (by decide +kernel) ⟨Nat.le_of_ble_eq_true rfl, Nat.le_of_ble_eq_true rfl⟩) ⟨Pw.blind _ _ _ _ _ _ _, va_recv hKc hPc (ci := 14) (q0 := 0) rfl rfl, fun U hU hW => ⟨rfl, Pw.go hPc hKc hDc hamb hS hFc hU hW⟩⟩ rfl rfl hl.1 rfl (lv_room (Nat.le_of_ble_eq_true rfl)) dL_law_1608 ⟨Nat.le_of_ble_eq_true rfl, Nat.le_of_ble_eq_true rfl⟩) hS (fun q _ h => hFc q h) hFc (fun r_10 u t H1 locs1 ht hvm hw hB hz1 hk1 hS => ?_)
  obtain ⟨hP1, hK1, hD1⟩ := hB
  rw [ht] at hP1
  have hK1 := va_K.moved hvm.symm hK1
  obtain ⟨hP, hD⟩ := va_join (wr := [(ca, .inl (cC, 16, .inr (.inr (.inr (.inr fC))))), (c0, .inr (7, [.ref th, u1, u2, .int 0, .int 0, .int 0, .int 0])), (th, .inl (cH, 4, .inl (fun _ => 0))), (dr, .inl (cO, 26, .inr (.inr (.inr (.inr fD))))), (rr, .inl (cI, 5, .inl (fun _ => 0))), (ty0, .inl (cT, 8, .inl (fun _ => 0))), (sf, .inr (10, [.int 0, sf1, .int 0, .int 0, .int 0, .int 1, .int 0])), (sb, .inr (10, [.int 1, sb1, .int 0, .int 0, .int 0, .int 1, .int 0])), (ra0, .inl (cR, 6, .inl (fun _ => 0))), (bk, .inr (6, [.ref a0, .ref a1, .ref a2, .ref mo, .int 0])), (a0, .inl (cB0, 8, .inl (fun _ => 0))), (a1, .inl (cB1, 8, .inl (fun _ => 0))), (a2, .inl (cB2, 8, .inl (fun _ => 0))), (mo, .inl (cM, 256, .inl (fun _ => 0))), (lp, .inr (5, [.int 0, .ref (em 0), .int 0])), (dl, .inl (cO8, 26, .inr (.inr (.inr (.inr fL))))), (rr8, .inl (cI8, 5, .inl (fun _ => 0))), (ff, .inr (13, [tf, .int 0, .int 0, .int 1, .int 0])), (fb, .inr (13, [tb, .int 0, .int 0, .int 1, .int 0])), (lw, .inr (5, [.int 0, .ref (em 0), .int 0])), (lo, .inr (5, [.int 0, .ref (em 0), .int 0])), (od, .inl (cOd, 1, .inr (.inr (.inr (.inl (fun _ => 0)))))), (ou, .inl (cOut, 1, .inr (.inl (fun _ => 0))))]) (w1 := [(m0, .inr (14, [.ref lc, .ref lp, .ref dl, .ref ff, .ref fb, .ref lw, .ref lo, .ref (em 1), .int 1]))]) hP hD [14, 15] [0, 1, 2, 3, 4, 5, 6, 7, 8, 9, 10, 11, 12, 13, 16, 17, 18, 19, 20, 21, 22, 23, 24] rfl rfl (by decide) (by decide) hk1 hFc hP1 hD1
  have hK := (hK.sub (tys' := [(cC, (.object "Bothfaces$Card")), (cH, .int), (cO, (.array .int)), (cI, .int), (cT, .int), (cR, .int), (cB0, .int), (cB1, .int), (cB2, .int), (cM, .int), (cO8, (.array .int)), (cI8, .int), (cOd, .double), (cOut, .long)]) [0, 1, 2, 3, 4, 5, 6, 7, 8, 9, 10, 11, 12, 13] rfl).app hK1
  generalize H1 = H at hP hS ⊢
  have hP : va_P (dC, dI) vwCl [(ca, .inl (cC, 16, .inr (.inr (.inr (.inr fC))))), (c0, .inr (7, [.ref th, u1, u2, .int 0, .int 0, .int 0, .int 0])), (th, .inl (cH, 4, .inl (fun _ => 0))), (dr, .inl (cO, 26, .inr (.inr (.inr (.inr fD))))), (rr, .inl (cI, 5, .inl (fun _ => 0))), (ty0, .inl (cT, 8, .inl (fun _ => 0))), (sf, .inr (10, [.int 0, sf1, .int 0, .int 0, .int 0, .int 1, .int 0])), (sb, .inr (10, [.int 1, sb1, .int 0, .int 0, .int 0, .int 1, .int 0])), (ra0, .inl (cR, 6, .inl (fun _ => 0))), (bk, .inr (6, [.ref a0, .ref a1, .ref a2, .ref mo, .int 0])), (a0, .inl (cB0, 8, .inl (fun _ => 0))), (a1, .inl (cB1, 8, .inl (fun _ => 0))), (a2, .inl (cB2, 8, .inl (fun _ => 0))), (mo, .inl (cM, 256, .inl (fun _ => 0))), (lp, .inr (5, [.int 0, .ref (em 0), .int 0])), (dl, .inl (cO8, 26, .inr (.inr (.inr (.inr fL))))), (rr8, .inl (cI8, 5, .inl (fun _ => 0))), (ff, .inr (13, [tf, .int 0, .int 0, .int 1, .int 0])), (fb, .inr (13, [tb, .int 0, .int 0, .int 1, .int 0])), (lw, .inr (5, [.int 0, .ref (em 0), .int 0])), (lo, .inr (5, [.int 0, .ref (em 0), .int 0])), (od, .inl (cOd, 1, .inr (.inr (.inr (.inl (fun _ => 0)))))), (ou, .inl (cOut, 1, .inr (.inl (fun _ => 0)))), (m0, .inr (14, [.ref lc, .ref lp, .ref dl, .ref ff, .ref fb, .ref lw, .ref lo, .ref (em 1), .int 1]))] H := hP
  have hD : va_D (fun q : Nat => s.heap.size ≤ q) [(ca, .inl (cC, 16, .inr (.inr (.inr (.inr fC))))), (c0, .inr (7, [.ref th, u1, u2, .int 0, .int 0, .int 0, .int 0])), (th, .inl (cH, 4, .inl (fun _ => 0))), (dr, .inl (cO, 26, .inr (.inr (.inr (.inr fD))))), (rr, .inl (cI, 5, .inl (fun _ => 0))), (ty0, .inl (cT, 8, .inl (fun _ => 0))), (sf, .inr (10, [.int 0, sf1, .int 0, .int 0, .int 0, .int 1, .int 0])), (sb, .inr (10, [.int 1, sb1, .int 0, .int 0, .int 0, .int 1, .int 0])), (ra0, .inl (cR, 6, .inl (fun _ => 0))), (bk, .inr (6, [.ref a0, .ref a1, .ref a2, .ref mo, .int 0])), (a0, .inl (cB0, 8, .inl (fun _ => 0))), (a1, .inl (cB1, 8, .inl (fun _ => 0))), (a2, .inl (cB2, 8, .inl (fun _ => 0))), (mo, .inl (cM, 256, .inl (fun _ => 0))), (lp, .inr (5, [.int 0, .ref (em 0), .int 0])), (dl, .inl (cO8, 26, .inr (.inr (.inr (.inr fL))))), (rr8, .inl (cI8, 5, .inl (fun _ => 0))), (ff, .inr (13, [tf, .int 0, .int 0, .int 1, .int 0])), (fb, .inr (13, [tb, .int 0, .int 0, .int 1, .int 0])), (lw, .inr (5, [.int 0, .ref (em 0), .int 0])), (lo, .inr (5, [.int 0, .ref (em 0), .int 0])), (od, .inl (cOd, 1, .inr (.inr (.inr (.inl (fun _ => 0)))))), (ou, .inl (cOut, 1, .inr (.inl (fun _ => 0)))), (m0, .inr (14, [.ref lc, .ref lp, .ref dl, .ref ff, .ref fb, .ref lw, .ref lo, .ref (em 1), .int 1]))] := hD
  have hK : va_K (dC, dI) vwCl [(cC, (.object "Bothfaces$Card")), (cH, .int), (cO, (.array .int)), (cI, .int), (cT, .int), (cR, .int), (cB0, .int), (cB1, .int), (cB2, .int), (cM, .int), (cO8, (.array .int)), (cI8, .int), (cOd, .double), (cOut, .long)] s := hK
  refine W.widen (k := 147) (n := 2193) (Nat.le_of_ble_eq_true rfl) (Nat.le_of_ble_eq_true rfl) ?_
  have hw : r_10 = 0 := hw
  rw [hw]
  refine lv_istore (lv' := [(7, .int 0), (6, .int 1), (5, .int 0), (4, .ref od), (3, .ref ou), (2, .ref m0), (1, .ref x0), (0, .ref b)]) hx hb dL_law_1611 hl (by decide) rfl (fun ls hl => ?_)
  refine lv_aload_n hx hb dL_law_1613 rfl (lv_at hl 5 rfl) ?_
  have hPc := hP.sub (ws' := [(m0, .inr (14, [.ref lc, .ref lp, .ref dl, .ref ff, .ref fb, .ref lw, .ref lo, .ref (em 1), .int 1]))]) [23] rfl
  have hDc := hD.sub (ws' := [(m0, .inr (14, [.ref lc, .ref lp, .ref dl, .ref ff, .ref fb, .ref lw, .ref lo, .ref (em 1), .int 1]))]) [23] (by decide) rfl
  have hKc := hK.sub (tys' := []) [] rfl
  have hFc := va_free (wc := [(m0, .inr (14, [.ref lc, .ref lp, .ref dl, .ref ff, .ref fb, .ref lw, .ref lo, .ref (em 1), .int 1]))]) hD hS hA [23] rfl
  refine va_calli (va_runV (As := []) (rest := []) ⟨hx, hb, hml, hown, hts⟩ (c_X8_thrown l em dC dI m0 1 (.ref lc) (.ref lp) (.ref dl) (.ref ff) (.ref fb) (.ref lw) (.ref lo) (.ref (em 1)) H.size) (cwV 0 hts gT_X8_thrown rfl rfl rfl (by decide +kernel) ⟨Nat.le_of_ble_eq_true rfl, Nat.le_of_ble_eq_true rfl⟩) ⟨Pw.blind _ _ _ _ _ _ _, va_recv hKc hPc (ci := 14) (q0 := 0) rfl rfl, fun U hU hW => ⟨rfl, Pw.go hPc hKc hDc hamb hS hFc hU hW⟩⟩ rfl rfl hl.1 rfl (lv_room (Nat.le_of_ble_eq_true rfl)) dL_law_1614 ⟨Nat.le_of_ble_eq_true rfl, Nat.le_of_ble_eq_true rfl⟩) hS (fun q _ h => hFc q h) hFc (fun r_11 u t H1 locs1 ht hvm hw hB hz1 hk1 hS => ?_)
  obtain ⟨hP, hD⟩ := va_rest (wr := [(ca, .inl (cC, 16, .inr (.inr (.inr (.inr fC))))), (c0, .inr (7, [.ref th, u1, u2, .int 0, .int 0, .int 0, .int 0])), (th, .inl (cH, 4, .inl (fun _ => 0))), (dr, .inl (cO, 26, .inr (.inr (.inr (.inr fD))))), (rr, .inl (cI, 5, .inl (fun _ => 0))), (ty0, .inl (cT, 8, .inl (fun _ => 0))), (sf, .inr (10, [.int 0, sf1, .int 0, .int 0, .int 0, .int 1, .int 0])), (sb, .inr (10, [.int 1, sb1, .int 0, .int 0, .int 0, .int 1, .int 0])), (ra0, .inl (cR, 6, .inl (fun _ => 0))), (bk, .inr (6, [.ref a0, .ref a1, .ref a2, .ref mo, .int 0])), (a0, .inl (cB0, 8, .inl (fun _ => 0))), (a1, .inl (cB1, 8, .inl (fun _ => 0))), (a2, .inl (cB2, 8, .inl (fun _ => 0))), (mo, .inl (cM, 256, .inl (fun _ => 0))), (lp, .inr (5, [.int 0, .ref (em 0), .int 0])), (dl, .inl (cO8, 26, .inr (.inr (.inr (.inr fL))))), (rr8, .inl (cI8, 5, .inl (fun _ => 0))), (ff, .inr (13, [tf, .int 0, .int 0, .int 1, .int 0])), (fb, .inr (13, [tb, .int 0, .int 0, .int 1, .int 0])), (lw, .inr (5, [.int 0, .ref (em 0), .int 0])), (lo, .inr (5, [.int 0, .ref (em 0), .int 0])), (od, .inl (cOd, 1, .inr (.inr (.inr (.inl (fun _ => 0)))))), (ou, .inl (cOut, 1, .inr (.inl (fun _ => 0))))]) hP hD [23] [0, 1, 2, 3, 4, 5, 6, 7, 8, 9, 10, 11, 12, 13, 14, 15, 16, 17, 18, 19, 20, 21, 22] rfl rfl (by decide) (by decide) hk1 hFc
  generalize H1 = H at hP hS ⊢
  refine W.widen (k := 147) (n := 2193) (Nat.le_of_ble_eq_true rfl) (Nat.le_of_ble_eq_true rfl) ?_
  have hw : r_11 = 1 := hw
  rw [hw]
  refine lv_iload hx hb dL_law_1617 (lv_at hl 1 rfl) ?_
  refine lv_icmp_eq (tgt := 1624) hx hb dL_law_1619 (by decide) (fun c_12 => ?_) (fun c_12 => ?_)
  · refine lv_iload hx hb dL_law_1624 (lv_at hl 1 rfl) ?_
    refine lv_if_ne (tgt := 1648) hx hb dL_law_1626 (by decide) (fun c_13 => ?_) (fun c_13 => ?_)
    · refine lv_goto (tgt := 2636) hx hb dL_law_1648 (by decide) ?_
      refine lv_iinc (v := 6) (lv' := [(5, .int 6), (7, .int 0), (6, .int 1), (4, .ref od), (3, .ref ou), (2, .ref m0), (1, .ref x0), (0, .ref b)]) hx hb dL_law_2636 hl (k := 2) rfl (by decide) (by decide) rfl (fun ls hl => ?_)
      refine lv_goto (tgt := 28) hx hb dL_law_2639 (by decide) ?_
      refine lv_iload hx hb dL_law_28 (lv_at hl 0 rfl) ?_
      refine lv_aload_n hx hb dL_law_30 rfl (lv_at hl 7 rfl) ?_
      refine va_slen hx hb hX hbl hbA hS dL_law_31 ?_
      refine lv_topi (fun n_14 en_14 => ?_)
      obtain rfl : n_14 = 6 := en_14.trans (by decide)
      refine lv_bipush (v := 6) hx hb dL_law_32 (by decide) ?_
      refine lv_isub hx hb dL_law_34 ?_
      refine lv_topi (fun k_15 ek_15 => ?_)
      obtain rfl : k_15 = 0 := ek_15.trans (by decide)
      refine lv_icmp_gt (tgt := 2642) hx hb dL_law_35 (by decide) (fun c_16 => ?_) (fun c_16 => ?_)
      · refine lv_iconst (v := 1) hx hb dL_law_2642 (by decide) ?_
        refine W.widen (k := 600006) (n := 7302072) (Nat.le_of_ble_eq_true rfl) (Nat.le_of_ble_eq_true rfl) ?_
        refine va_forget hS.2.2 ?_
        refine W.base ?_
        exact lw_ret (Drawn.sameBut.refl s.drawn lw_cs) hx hb hr hlocks dL_law_2643
      · exact absurd (by decide) c_16
    · exact absurd c_13 (by decide)
  · exact absurd (by decide) c_12

set_option maxHeartbeats 4000000 in
set_option maxRecDepth 100000 in
theorem law_22 {p : Program} {e : Env} {s : State} {m : MethodId} {below : List Frame} {meth : Method} {c : Code} (l : Launch) (hlt : l.stackTraces = false) {b : Nat} {xs : Nat → Int32} (C0 : lw_At p s m meth c b 6 xs) (em : Nat → Nat) (dC : Nat → ClassId) (dI : Nat → Nat → Nat) (j : Nat) (hjj : ∀ z : Int32, z = ((xs 1).toUInt32 % 65536).toInt32 → 97 ≤ z.toInt → z.toInt ≤ 122 → (z - 97).toNatClampNeg = j) (x0 : Nat) (ca : Nat) (dr : Nat) (ty0 : Nat) (sf : Nat) (sb : Nat) (ra0 : Nat) (bk : Nat) (c0 : Nat) (th : Nat) (rr : Nat) (a0 : Nat) (a1 : Nat) (a2 : Nat) (mo : Nat) (vp : Value) (vm : Value) (u1 : Value) (u2 : Value) (sf1 : Value) (sb1 : Value) (fC : Nat → Option Nat) (fD : Nat → Option Nat) (cC : ClassId) (cH : ClassId) (cO : ClassId) (cI : ClassId) (cT : ClassId) (cR : ClassId) (cB0 : ClassId) (cB1 : ClassId) (cB2 : ClassId) (cM : ClassId) (m0 : Nat) (lc : Nat) (lp : Nat) (dl : Nat) (rr8 : Nat) (ff : Nat) (fb : Nat) (lw : Nat) (lo : Nat) (tf : Value) (tb : Value) (fL : Nat → Option Nat) (cO8 : ClassId) (cI8 : ClassId) (ou : Nat) (od : Nat) (cOut : ClassId) (cOd : ClassId) (hfC : fC 0 = some c0) (hfD : fD j = some rr) (hfL : fL j = some rr8) {H : Heap} {locs : List Loc} (hamb : amb em (fun q : Nat => s.heap.size ≤ q) s s.heap) (hK : va_K (dC, dI) vwCl [(cC, (.object "Bothfaces$Card")), (cH, .int), (cO, (.array .int)), (cI, .int), (cT, .int), (cR, .int), (cB0, .int), (cB1, .int), (cB2, .int), (cM, .int), (cO8, (.array .int)), (cI8, .int), (cOut, .long), (cOd, .double)] s) (hP : va_P (dC, dI) vwCl [(x0, .inr (11, [.ref ca, .int 0, .int 0, .ref dr, .ref ty0, .int 0, .ref sf, .ref sb, vp, vm, .ref ra0, .int 0, .ref bk])), (ca, .inl (cC, 16, .inr (.inr (.inr (.inr fC))))), (c0, .inr (7, [.ref th, u1, u2, .int 0, .int 0, .int 0, .int 0])), (th, .inl (cH, 4, .inl (fun _ => 0))), (dr, .inl (cO, 26, .inr (.inr (.inr (.inr fD))))), (rr, .inl (cI, 5, .inl (fun _ => 0))), (ty0, .inl (cT, 8, .inl (fun _ => 0))), (sf, .inr (10, [.int 0, sf1, .int 0, .int 0, .int 0, .int 1, .int 0])), (sb, .inr (10, [.int 1, sb1, .int 0, .int 0, .int 0, .int 1, .int 0])), (ra0, .inl (cR, 6, .inl (fun _ => 0))), (bk, .inr (6, [.ref a0, .ref a1, .ref a2, .ref mo, .int 0])), (a0, .inl (cB0, 8, .inl (fun _ => 0))), (a1, .inl (cB1, 8, .inl (fun _ => 0))), (a2, .inl (cB2, 8, .inl (fun _ => 0))), (mo, .inl (cM, 256, .inl (fun _ => 0))), (m0, .inr (14, [.ref lc, .ref lp, .ref dl, .ref ff, .ref fb, .ref lw, .ref lo, .ref (em 1), .int 0])), (lc, .inr (5, [.int 0, .ref (em 0), .int 0])), (lp, .inr (5, [.int 0, .ref (em 0), .int 0])), (dl, .inl (cO8, 26, .inr (.inr (.inr (.inr fL))))), (rr8, .inl (cI8, 5, .inl (fun _ => 0))), (ff, .inr (13, [tf, .int 0, .int 0, .int 1, .int 0])), (fb, .inr (13, [tb, .int 0, .int 0, .int 1, .int 0])), (lw, .inr (5, [.int 0, .ref (em 0), .int 0])), (lo, .inr (5, [.int 0, .ref (em 0), .int 0])), (ou, .inl (cOut, 1, .inr (.inl (fun _ => 0)))), (od, .inl (cOd, 1, .inr (.inr (.inr (.inl (fun _ => 0))))))] H) (hD : va_D (fun q : Nat => s.heap.size ≤ q) [(x0, .inr (11, [.ref ca, .int 0, .int 0, .ref dr, .ref ty0, .int 0, .ref sf, .ref sb, vp, vm, .ref ra0, .int 0, .ref bk])), (ca, .inl (cC, 16, .inr (.inr (.inr (.inr fC))))), (c0, .inr (7, [.ref th, u1, u2, .int 0, .int 0, .int 0, .int 0])), (th, .inl (cH, 4, .inl (fun _ => 0))), (dr, .inl (cO, 26, .inr (.inr (.inr (.inr fD))))), (rr, .inl (cI, 5, .inl (fun _ => 0))), (ty0, .inl (cT, 8, .inl (fun _ => 0))), (sf, .inr (10, [.int 0, sf1, .int 0, .int 0, .int 0, .int 1, .int 0])), (sb, .inr (10, [.int 1, sb1, .int 0, .int 0, .int 0, .int 1, .int 0])), (ra0, .inl (cR, 6, .inl (fun _ => 0))), (bk, .inr (6, [.ref a0, .ref a1, .ref a2, .ref mo, .int 0])), (a0, .inl (cB0, 8, .inl (fun _ => 0))), (a1, .inl (cB1, 8, .inl (fun _ => 0))), (a2, .inl (cB2, 8, .inl (fun _ => 0))), (mo, .inl (cM, 256, .inl (fun _ => 0))), (m0, .inr (14, [.ref lc, .ref lp, .ref dl, .ref ff, .ref fb, .ref lw, .ref lo, .ref (em 1), .int 0])), (lc, .inr (5, [.int 0, .ref (em 0), .int 0])), (lp, .inr (5, [.int 0, .ref (em 0), .int 0])), (dl, .inl (cO8, 26, .inr (.inr (.inr (.inr fL))))), (rr8, .inl (cI8, 5, .inl (fun _ => 0))), (ff, .inr (13, [tf, .int 0, .int 0, .int 1, .int 0])), (fb, .inr (13, [tb, .int 0, .int 0, .int 1, .int 0])), (lw, .inr (5, [.int 0, .ref (em 0), .int 0])), (lo, .inr (5, [.int 0, .ref (em 0), .int 0])), (ou, .inl (cOut, 1, .inr (.inl (fun _ => 0)))), (od, .inl (cOd, 1, .inr (.inr (.inr (.inl (fun _ => 0))))))]) (hS : va_S (fun q : Nat => s.heap.size ≤ q) s.heap H locs) {ls : Array Slot} (hl : lv_has ls 9 [(5, .int 0), (4, .ref od), (3, .ref ou), (2, .ref m0), (1, .ref x0), (0, .ref b)]) : W p l e room_1 s m #[Value.ref b] below meth c H locs 146 2187 (lw_Z below #[Value.ref b] s) (F0 m 1651 ls []) := by
  obtain ⟨hx, hb, hr, hml, hown0, hts0, hX, hbl, hlocks, hgv⟩ := id C0
  have hts := ow_hts hts0
  have hown : s.vm.findClass RL = some m.cls := hown0
  have hA : ∀ q : Nat, s.heap.size ≤ q → (fun q : Nat => s.heap.size ≤ q) q := fun _ h => h
  have hbA : ¬ (fun q : Nat => s.heap.size ≤ q) b := Nat.not_le.mpr hbl
  refine lv_aload_n hx hb dL_law_1651 rfl (lv_at hl 4 rfl) ?_
  refine lv_aload_n hx hb dL_law_1652 rfl (lv_at hl 5 rfl) ?_
  refine lv_iload hx hb dL_law_1653 (lv_at hl 0 rfl) ?_
  refine lv_iconst (v := 1) hx hb dL_law_1655 (by decide) ?_
  refine lv_iadd hx hb dL_law_1656 ?_
  refine lv_topi (fun k_1 ek_1 => ?_)
  obtain rfl : k_1 = 1 := ek_1.trans (by decide)
  refine va_sld hx hb hX hbl hbA hS (vp_in_iff.mpr ⟨by decide, by decide⟩) dL_law_1657 ?_
  refine lv_topi (fun y_2 ey_2 => ?_)
  have ey_2 : y_2 = xs 1 := ey_2
  refine lv_aload_n hx hb dL_law_1658 rfl (lv_at hl 5 rfl) ?_
  refine lv_iload hx hb dL_law_1659 (lv_at hl 0 rfl) ?_
  refine lv_iconst (v := 2) hx hb dL_law_1661 (by decide) ?_
  refine lv_iadd hx hb dL_law_1662 ?_
  refine lv_topi (fun k_3 ek_3 => ?_)
  obtain rfl : k_3 = 2 := ek_3.trans (by decide)
  refine va_sld hx hb hX hbl hbA hS (vp_in_iff.mpr ⟨by decide, by decide⟩) dL_law_1663 ?_
  refine lv_topi (fun y_4 ey_4 => ?_)
  have ey_4 : y_4 = xs 2 := ey_4
  refine lv_aload_n hx hb dL_law_1664 rfl (lv_at hl 2 rfl) ?_
  have hPc := hP.sub (ws' := [(x0, .inr (11, [.ref ca, .int 0, .int 0, .ref dr, .ref ty0, .int 0, .ref sf, .ref sb, vp, vm, .ref ra0, .int 0, .ref bk])), (ou, .inl (cOut, 1, .inr (.inl (fun _ => 0))))]) [0, 24] rfl
  have hDc := hD.sub (ws' := [(x0, .inr (11, [.ref ca, .int 0, .int 0, .ref dr, .ref ty0, .int 0, .ref sf, .ref sb, vp, vm, .ref ra0, .int 0, .ref bk])), (ou, .inl (cOut, 1, .inr (.inl (fun _ => 0))))]) [0, 24] (by decide) rfl
  have hKc := hK.sub (tys' := [(cOut, .long)]) [12] rfl
  have hFc := va_free (wc := [(x0, .inr (11, [.ref ca, .int 0, .int 0, .ref dr, .ref ty0, .int 0, .ref sf, .ref sb, vp, vm, .ref ra0, .int 0, .ref bk])), (ou, .inl (cOut, 1, .inr (.inl (fun _ => 0))))]) hD hS hA [0, 24] rfl
  refine va_calli (vx_runSW (As := [.ref x0, .int y_2, .int y_4, .ref ou]) (rest := []) ⟨hx, hb, hml, hown, hts⟩ (c_L_reversals l hlt em dC dI x0 y_2 y_4 (.ref ca) (.int 0) (.ref dr) (.ref ty0) (.int 0) (.ref sf) (.ref sb) vp vm (.ref ra0) (.int 0) (.ref bk) ou cOut (fun _ => 0) H.size) (vx_cwSW 4 hts gT_L_reversals rfl rfl rfl (by decide +kernel) ⟨Nat.le_of_ble_eq_true rfl, Nat.le_of_ble_eq_true rfl⟩) ⟨Pw.blind _ _ _ _ _ _ _, fun U hU hW => ⟨rfl, Pw.go hPc hKc hDc hamb hS hFc hU hW⟩⟩ rfl rfl hl.1 rfl (lv_room (Nat.le_of_ble_eq_true rfl)) dL_law_1665 ⟨Nat.le_of_ble_eq_true rfl, Nat.le_of_ble_eq_true rfl⟩) hS (fun q _ h => hFc q h) hFc (fun r_5 u t H1 locs1 ht hvm hw hB hz1 hk1 hS => ?_)
  obtain ⟨hP1, hK1, hD1⟩ := hB
  rw [ht] at hP1
  have hK1 := va_K.moved hvm.symm hK1
  obtain ⟨hP, hD⟩ := va_join (wr := [(ca, .inl (cC, 16, .inr (.inr (.inr (.inr fC))))), (c0, .inr (7, [.ref th, u1, u2, .int 0, .int 0, .int 0, .int 0])), (th, .inl (cH, 4, .inl (fun _ => 0))), (dr, .inl (cO, 26, .inr (.inr (.inr (.inr fD))))), (rr, .inl (cI, 5, .inl (fun _ => 0))), (ty0, .inl (cT, 8, .inl (fun _ => 0))), (sf, .inr (10, [.int 0, sf1, .int 0, .int 0, .int 0, .int 1, .int 0])), (sb, .inr (10, [.int 1, sb1, .int 0, .int 0, .int 0, .int 1, .int 0])), (ra0, .inl (cR, 6, .inl (fun _ => 0))), (bk, .inr (6, [.ref a0, .ref a1, .ref a2, .ref mo, .int 0])), (a0, .inl (cB0, 8, .inl (fun _ => 0))), (a1, .inl (cB1, 8, .inl (fun _ => 0))), (a2, .inl (cB2, 8, .inl (fun _ => 0))), (mo, .inl (cM, 256, .inl (fun _ => 0))), (m0, .inr (14, [.ref lc, .ref lp, .ref dl, .ref ff, .ref fb, .ref lw, .ref lo, .ref (em 1), .int 0])), (lc, .inr (5, [.int 0, .ref (em 0), .int 0])), (lp, .inr (5, [.int 0, .ref (em 0), .int 0])), (dl, .inl (cO8, 26, .inr (.inr (.inr (.inr fL))))), (rr8, .inl (cI8, 5, .inl (fun _ => 0))), (ff, .inr (13, [tf, .int 0, .int 0, .int 1, .int 0])), (fb, .inr (13, [tb, .int 0, .int 0, .int 1, .int 0])), (lw, .inr (5, [.int 0, .ref (em 0), .int 0])), (lo, .inr (5, [.int 0, .ref (em 0), .int 0])), (od, .inl (cOd, 1, .inr (.inr (.inr (.inl (fun _ => 0))))))]) (w1 := [(ou, .inl (cOut, 1, .inr (.inl (fun _ => 0))))]) hP hD [0, 24] [1, 2, 3, 4, 5, 6, 7, 8, 9, 10, 11, 12, 13, 14, 15, 16, 17, 18, 19, 20, 21, 22, 23, 25] rfl rfl (by decide) (by decide) hk1 hFc hP1 hD1
  have hK := (hK.sub (tys' := [(cC, (.object "Bothfaces$Card")), (cH, .int), (cO, (.array .int)), (cI, .int), (cT, .int), (cR, .int), (cB0, .int), (cB1, .int), (cB2, .int), (cM, .int), (cO8, (.array .int)), (cI8, .int), (cOd, .double)]) [0, 1, 2, 3, 4, 5, 6, 7, 8, 9, 10, 11, 13] rfl).app hK1
  generalize H1 = H at hP hS ⊢
  have hP : va_P (dC, dI) vwCl [(ca, .inl (cC, 16, .inr (.inr (.inr (.inr fC))))), (c0, .inr (7, [.ref th, u1, u2, .int 0, .int 0, .int 0, .int 0])), (th, .inl (cH, 4, .inl (fun _ => 0))), (dr, .inl (cO, 26, .inr (.inr (.inr (.inr fD))))), (rr, .inl (cI, 5, .inl (fun _ => 0))), (ty0, .inl (cT, 8, .inl (fun _ => 0))), (sf, .inr (10, [.int 0, sf1, .int 0, .int 0, .int 0, .int 1, .int 0])), (sb, .inr (10, [.int 1, sb1, .int 0, .int 0, .int 0, .int 1, .int 0])), (ra0, .inl (cR, 6, .inl (fun _ => 0))), (bk, .inr (6, [.ref a0, .ref a1, .ref a2, .ref mo, .int 0])), (a0, .inl (cB0, 8, .inl (fun _ => 0))), (a1, .inl (cB1, 8, .inl (fun _ => 0))), (a2, .inl (cB2, 8, .inl (fun _ => 0))), (mo, .inl (cM, 256, .inl (fun _ => 0))), (m0, .inr (14, [.ref lc, .ref lp, .ref dl, .ref ff, .ref fb, .ref lw, .ref lo, .ref (em 1), .int 0])), (lc, .inr (5, [.int 0, .ref (em 0), .int 0])), (lp, .inr (5, [.int 0, .ref (em 0), .int 0])), (dl, .inl (cO8, 26, .inr (.inr (.inr (.inr fL))))), (rr8, .inl (cI8, 5, .inl (fun _ => 0))), (ff, .inr (13, [tf, .int 0, .int 0, .int 1, .int 0])), (fb, .inr (13, [tb, .int 0, .int 0, .int 1, .int 0])), (lw, .inr (5, [.int 0, .ref (em 0), .int 0])), (lo, .inr (5, [.int 0, .ref (em 0), .int 0])), (od, .inl (cOd, 1, .inr (.inr (.inr (.inl (fun _ => 0)))))), (ou, .inl (cOut, 1, .inr (.inl (fun _ => 0))))] H := hP
  have hD : va_D (fun q : Nat => s.heap.size ≤ q) [(ca, .inl (cC, 16, .inr (.inr (.inr (.inr fC))))), (c0, .inr (7, [.ref th, u1, u2, .int 0, .int 0, .int 0, .int 0])), (th, .inl (cH, 4, .inl (fun _ => 0))), (dr, .inl (cO, 26, .inr (.inr (.inr (.inr fD))))), (rr, .inl (cI, 5, .inl (fun _ => 0))), (ty0, .inl (cT, 8, .inl (fun _ => 0))), (sf, .inr (10, [.int 0, sf1, .int 0, .int 0, .int 0, .int 1, .int 0])), (sb, .inr (10, [.int 1, sb1, .int 0, .int 0, .int 0, .int 1, .int 0])), (ra0, .inl (cR, 6, .inl (fun _ => 0))), (bk, .inr (6, [.ref a0, .ref a1, .ref a2, .ref mo, .int 0])), (a0, .inl (cB0, 8, .inl (fun _ => 0))), (a1, .inl (cB1, 8, .inl (fun _ => 0))), (a2, .inl (cB2, 8, .inl (fun _ => 0))), (mo, .inl (cM, 256, .inl (fun _ => 0))), (m0, .inr (14, [.ref lc, .ref lp, .ref dl, .ref ff, .ref fb, .ref lw, .ref lo, .ref (em 1), .int 0])), (lc, .inr (5, [.int 0, .ref (em 0), .int 0])), (lp, .inr (5, [.int 0, .ref (em 0), .int 0])), (dl, .inl (cO8, 26, .inr (.inr (.inr (.inr fL))))), (rr8, .inl (cI8, 5, .inl (fun _ => 0))), (ff, .inr (13, [tf, .int 0, .int 0, .int 1, .int 0])), (fb, .inr (13, [tb, .int 0, .int 0, .int 1, .int 0])), (lw, .inr (5, [.int 0, .ref (em 0), .int 0])), (lo, .inr (5, [.int 0, .ref (em 0), .int 0])), (od, .inl (cOd, 1, .inr (.inr (.inr (.inl (fun _ => 0)))))), (ou, .inl (cOut, 1, .inr (.inl (fun _ => 0))))] := hD
  have hK : va_K (dC, dI) vwCl [(cC, (.object "Bothfaces$Card")), (cH, .int), (cO, (.array .int)), (cI, .int), (cT, .int), (cR, .int), (cB0, .int), (cB1, .int), (cB2, .int), (cM, .int), (cO8, (.array .int)), (cI8, .int), (cOd, .double), (cOut, .long)] s := hK
  refine W.widen (k := 147) (n := 2193) (Nat.le_of_ble_eq_true rfl) (Nat.le_of_ble_eq_true rfl) ?_
  have hw : r_5 = 1 := hw
  rw [hw]
  refine lv_istore (lv' := [(6, .int 1), (5, .int 0), (4, .ref od), (3, .ref ou), (2, .ref m0), (1, .ref x0), (0, .ref b)]) hx hb dL_law_1668 hl (by decide) rfl (fun ls hl => ?_)
  refine lv_aload_n hx hb dL_law_1670 rfl (lv_at hl 4 rfl) ?_
  refine lv_aload_n hx hb dL_law_1671 rfl (lv_at hl 6 rfl) ?_
  refine lv_iload hx hb dL_law_1672 (lv_at hl 1 rfl) ?_
  refine lv_iconst (v := 1) hx hb dL_law_1674 (by decide) ?_
  refine lv_iadd hx hb dL_law_1675 ?_
  refine lv_topi (fun k_6 ek_6 => ?_)
  obtain rfl : k_6 = 1 := ek_6.trans (by decide)
  refine va_sld hx hb hX hbl hbA hS (vp_in_iff.mpr ⟨by decide, by decide⟩) dL_law_1676 ?_
  refine lv_topi (fun y_7 ey_7 => ?_)
  have ey_7 : y_7 = xs 1 := ey_7
  obtain rfl : y_2 = y_7 := ey_2.trans ey_7.symm
  refine lv_aload_n hx hb dL_law_1677 rfl (lv_at hl 6 rfl) ?_
  refine lv_iload hx hb dL_law_1678 (lv_at hl 1 rfl) ?_
  refine lv_iconst (v := 2) hx hb dL_law_1680 (by decide) ?_
  refine lv_iadd hx hb dL_law_1681 ?_
  refine lv_topi (fun k_8 ek_8 => ?_)
  obtain rfl : k_8 = 2 := ek_8.trans (by decide)
  refine va_sld hx hb hX hbl hbA hS (vp_in_iff.mpr ⟨by decide, by decide⟩) dL_law_1682 ?_
  refine lv_topi (fun y_9 ey_9 => ?_)
  have ey_9 : y_9 = xs 2 := ey_9
  obtain rfl : y_4 = y_9 := ey_4.trans ey_9.symm
  have hPc := hP.sub (ws' := [(m0, .inr (14, [.ref lc, .ref lp, .ref dl, .ref ff, .ref fb, .ref lw, .ref lo, .ref (em 1), .int 0])), (lc, .inr (5, [.int 0, .ref (em 0), .int 0]))]) [14, 15] rfl
  have hDc := hD.sub (ws' := [(m0, .inr (14, [.ref lc, .ref lp, .ref dl, .ref ff, .ref fb, .ref lw, .ref lo, .ref (em 1), .int 0])), (lc, .inr (5, [.int 0, .ref (em 0), .int 0]))]) [14, 15] (by decide) rfl
  have hKc := hK.sub (tys' := []) [] rfl
  have hFc := va_free (wc := [(m0, .inr (14, [.ref lc, .ref lp, .ref dl, .ref ff, .ref fb, .ref lw, .ref lo, .ref (em 1), .int 0])), (lc, .inr (5, [.int 0, .ref (em 0), .int 0]))]) hD hS hA [14, 15] rfl
  refine va_calli (va_runV (As := [.int y_2, .int y_4]) (rest := []) ⟨hx, hb, hml, hown, hts⟩ (c_X8_reversals l em dC dI m0 y_2 y_4 (.ref lp) (.ref dl) (.ref ff) (.ref fb) (.ref lw) (.ref lo) (.ref (em 1)) (.int 0) lc (.ref (em 0)) H.size) (cwV 2 hts gT_X8_reversals rfl rfl rfl (by decide +kernel) ⟨Nat.le_of_ble_eq_true rfl, Nat.le_of_ble_eq_true rfl⟩) ⟨Pw.blind _ _ _ _ _ _ _, va_recv hKc hPc (ci := 14) (q0 := 0) rfl rfl, fun U hU hW => ⟨rfl, Pw.go hPc hKc hDc hamb hS hFc hU hW⟩⟩ rfl rfl hl.1 rfl (lv_room (Nat.le_of_ble_eq_true rfl)) dL_law_1683 ⟨Nat.le_of_ble_eq_true rfl, Nat.le_of_ble_eq_true rfl⟩) hS (fun q _ h => hFc q h) hFc (fun r_10 u t H1 locs1 ht hvm hw hB hz1 hk1 hS => ?_)
  obtain ⟨hP1, hK1, hD1⟩ := hB
  rw [ht] at hP1
  have hK1 := va_K.moved hvm.symm hK1
  obtain ⟨hP, hD⟩ := va_join (wr := [(ca, .inl (cC, 16, .inr (.inr (.inr (.inr fC))))), (c0, .inr (7, [.ref th, u1, u2, .int 0, .int 0, .int 0, .int 0])), (th, .inl (cH, 4, .inl (fun _ => 0))), (dr, .inl (cO, 26, .inr (.inr (.inr (.inr fD))))), (rr, .inl (cI, 5, .inl (fun _ => 0))), (ty0, .inl (cT, 8, .inl (fun _ => 0))), (sf, .inr (10, [.int 0, sf1, .int 0, .int 0, .int 0, .int 1, .int 0])), (sb, .inr (10, [.int 1, sb1, .int 0, .int 0, .int 0, .int 1, .int 0])), (ra0, .inl (cR, 6, .inl (fun _ => 0))), (bk, .inr (6, [.ref a0, .ref a1, .ref a2, .ref mo, .int 0])), (a0, .inl (cB0, 8, .inl (fun _ => 0))), (a1, .inl (cB1, 8, .inl (fun _ => 0))), (a2, .inl (cB2, 8, .inl (fun _ => 0))), (mo, .inl (cM, 256, .inl (fun _ => 0))), (lp, .inr (5, [.int 0, .ref (em 0), .int 0])), (dl, .inl (cO8, 26, .inr (.inr (.inr (.inr fL))))), (rr8, .inl (cI8, 5, .inl (fun _ => 0))), (ff, .inr (13, [tf, .int 0, .int 0, .int 1, .int 0])), (fb, .inr (13, [tb, .int 0, .int 0, .int 1, .int 0])), (lw, .inr (5, [.int 0, .ref (em 0), .int 0])), (lo, .inr (5, [.int 0, .ref (em 0), .int 0])), (od, .inl (cOd, 1, .inr (.inr (.inr (.inl (fun _ => 0)))))), (ou, .inl (cOut, 1, .inr (.inl (fun _ => 0))))]) (w1 := [(m0, .inr (14, [.ref lc, .ref lp, .ref dl, .ref ff, .ref fb, .ref lw, .ref lo, .ref (em 1), .int 1]))]) hP hD [14, 15] [0, 1, 2, 3, 4, 5, 6, 7, 8, 9, 10, 11, 12, 13, 16, 17, 18, 19, 20, 21, 22, 23, 24] rfl rfl (by decide) (by decide) hk1 hFc hP1 hD1
  have hK := (hK.sub (tys' := [(cC, (.object "Bothfaces$Card")), (cH, .int), (cO, (.array .int)), (cI, .int), (cT, .int), (cR, .int), (cB0, .int), (cB1, .int), (cB2, .int), (cM, .int), (cO8, (.array .int)), (cI8, .int), (cOd, .double), (cOut, .long)]) [0, 1, 2, 3, 4, 5, 6, 7, 8, 9, 10, 11, 12, 13] rfl).app hK1
  generalize H1 = H at hP hS ⊢
  have hP : va_P (dC, dI) vwCl [(ca, .inl (cC, 16, .inr (.inr (.inr (.inr fC))))), (c0, .inr (7, [.ref th, u1, u2, .int 0, .int 0, .int 0, .int 0])), (th, .inl (cH, 4, .inl (fun _ => 0))), (dr, .inl (cO, 26, .inr (.inr (.inr (.inr fD))))), (rr, .inl (cI, 5, .inl (fun _ => 0))), (ty0, .inl (cT, 8, .inl (fun _ => 0))), (sf, .inr (10, [.int 0, sf1, .int 0, .int 0, .int 0, .int 1, .int 0])), (sb, .inr (10, [.int 1, sb1, .int 0, .int 0, .int 0, .int 1, .int 0])), (ra0, .inl (cR, 6, .inl (fun _ => 0))), (bk, .inr (6, [.ref a0, .ref a1, .ref a2, .ref mo, .int 0])), (a0, .inl (cB0, 8, .inl (fun _ => 0))), (a1, .inl (cB1, 8, .inl (fun _ => 0))), (a2, .inl (cB2, 8, .inl (fun _ => 0))), (mo, .inl (cM, 256, .inl (fun _ => 0))), (lp, .inr (5, [.int 0, .ref (em 0), .int 0])), (dl, .inl (cO8, 26, .inr (.inr (.inr (.inr fL))))), (rr8, .inl (cI8, 5, .inl (fun _ => 0))), (ff, .inr (13, [tf, .int 0, .int 0, .int 1, .int 0])), (fb, .inr (13, [tb, .int 0, .int 0, .int 1, .int 0])), (lw, .inr (5, [.int 0, .ref (em 0), .int 0])), (lo, .inr (5, [.int 0, .ref (em 0), .int 0])), (od, .inl (cOd, 1, .inr (.inr (.inr (.inl (fun _ => 0)))))), (ou, .inl (cOut, 1, .inr (.inl (fun _ => 0)))), (m0, .inr (14, [.ref lc, .ref lp, .ref dl, .ref ff, .ref fb, .ref lw, .ref lo, .ref (em 1), .int 1]))] H := hP
  have hD : va_D (fun q : Nat => s.heap.size ≤ q) [(ca, .inl (cC, 16, .inr (.inr (.inr (.inr fC))))), (c0, .inr (7, [.ref th, u1, u2, .int 0, .int 0, .int 0, .int 0])), (th, .inl (cH, 4, .inl (fun _ => 0))), (dr, .inl (cO, 26, .inr (.inr (.inr (.inr fD))))), (rr, .inl (cI, 5, .inl (fun _ => 0))), (ty0, .inl (cT, 8, .inl (fun _ => 0))), (sf, .inr (10, [.int 0, sf1, .int 0, .int 0, .int 0, .int 1, .int 0])), (sb, .inr (10, [.int 1, sb1, .int 0, .int 0, .int 0, .int 1, .int 0])), (ra0, .inl (cR, 6, .inl (fun _ => 0))), (bk, .inr (6, [.ref a0, .ref a1, .ref a2, .ref mo, .int 0])), (a0, .inl (cB0, 8, .inl (fun _ => 0))), (a1, .inl (cB1, 8, .inl (fun _ => 0))), (a2, .inl (cB2, 8, .inl (fun _ => 0))), (mo, .inl (cM, 256, .inl (fun _ => 0))), (lp, .inr (5, [.int 0, .ref (em 0), .int 0])), (dl, .inl (cO8, 26, .inr (.inr (.inr (.inr fL))))), (rr8, .inl (cI8, 5, .inl (fun _ => 0))), (ff, .inr (13, [tf, .int 0, .int 0, .int 1, .int 0])), (fb, .inr (13, [tb, .int 0, .int 0, .int 1, .int 0])), (lw, .inr (5, [.int 0, .ref (em 0), .int 0])), (lo, .inr (5, [.int 0, .ref (em 0), .int 0])), (od, .inl (cOd, 1, .inr (.inr (.inr (.inl (fun _ => 0)))))), (ou, .inl (cOut, 1, .inr (.inl (fun _ => 0)))), (m0, .inr (14, [.ref lc, .ref lp, .ref dl, .ref ff, .ref fb, .ref lw, .ref lo, .ref (em 1), .int 1]))] := hD
  have hK : va_K (dC, dI) vwCl [(cC, (.object "Bothfaces$Card")), (cH, .int), (cO, (.array .int)), (cI, .int), (cT, .int), (cR, .int), (cB0, .int), (cB1, .int), (cB2, .int), (cM, .int), (cO8, (.array .int)), (cI8, .int), (cOd, .double), (cOut, .long)] s := hK
  refine W.widen (k := 147) (n := 2193) (Nat.le_of_ble_eq_true rfl) (Nat.le_of_ble_eq_true rfl) ?_
  have hw : r_10 = 0 := hw
  rw [hw]
  refine lv_istore (lv' := [(7, .int 0), (6, .int 1), (5, .int 0), (4, .ref od), (3, .ref ou), (2, .ref m0), (1, .ref x0), (0, .ref b)]) hx hb dL_law_1686 hl (by decide) rfl (fun ls hl => ?_)
  refine lv_aload_n hx hb dL_law_1688 rfl (lv_at hl 5 rfl) ?_
  have hPc := hP.sub (ws' := [(m0, .inr (14, [.ref lc, .ref lp, .ref dl, .ref ff, .ref fb, .ref lw, .ref lo, .ref (em 1), .int 1]))]) [23] rfl
  have hDc := hD.sub (ws' := [(m0, .inr (14, [.ref lc, .ref lp, .ref dl, .ref ff, .ref fb, .ref lw, .ref lo, .ref (em 1), .int 1]))]) [23] (by decide) rfl
  have hKc := hK.sub (tys' := []) [] rfl
  have hFc := va_free (wc := [(m0, .inr (14, [.ref lc, .ref lp, .ref dl, .ref ff, .ref fb, .ref lw, .ref lo, .ref (em 1), .int 1]))]) hD hS hA [23] rfl
  refine va_calli (va_runV (As := []) (rest := []) ⟨hx, hb, hml, hown, hts⟩ (c_X8_thrown l em dC dI m0 1 (.ref lc) (.ref lp) (.ref dl) (.ref ff) (.ref fb) (.ref lw) (.ref lo) (.ref (em 1)) H.size) (cwV 0 hts gT_X8_thrown rfl rfl rfl (by decide +kernel) ⟨Nat.le_of_ble_eq_true rfl, Nat.le_of_ble_eq_true rfl⟩) ⟨Pw.blind _ _ _ _ _ _ _, va_recv hKc hPc (ci := 14) (q0 := 0) rfl rfl, fun U hU hW => ⟨rfl, Pw.go hPc hKc hDc hamb hS hFc hU hW⟩⟩ rfl rfl hl.1 rfl (lv_room (Nat.le_of_ble_eq_true rfl)) dL_law_1689 ⟨Nat.le_of_ble_eq_true rfl, Nat.le_of_ble_eq_true rfl⟩) hS (fun q _ h => hFc q h) hFc (fun r_11 u t H1 locs1 ht hvm hw hB hz1 hk1 hS => ?_)
  obtain ⟨hP, hD⟩ := va_rest (wr := [(ca, .inl (cC, 16, .inr (.inr (.inr (.inr fC))))), (c0, .inr (7, [.ref th, u1, u2, .int 0, .int 0, .int 0, .int 0])), (th, .inl (cH, 4, .inl (fun _ => 0))), (dr, .inl (cO, 26, .inr (.inr (.inr (.inr fD))))), (rr, .inl (cI, 5, .inl (fun _ => 0))), (ty0, .inl (cT, 8, .inl (fun _ => 0))), (sf, .inr (10, [.int 0, sf1, .int 0, .int 0, .int 0, .int 1, .int 0])), (sb, .inr (10, [.int 1, sb1, .int 0, .int 0, .int 0, .int 1, .int 0])), (ra0, .inl (cR, 6, .inl (fun _ => 0))), (bk, .inr (6, [.ref a0, .ref a1, .ref a2, .ref mo, .int 0])), (a0, .inl (cB0, 8, .inl (fun _ => 0))), (a1, .inl (cB1, 8, .inl (fun _ => 0))), (a2, .inl (cB2, 8, .inl (fun _ => 0))), (mo, .inl (cM, 256, .inl (fun _ => 0))), (lp, .inr (5, [.int 0, .ref (em 0), .int 0])), (dl, .inl (cO8, 26, .inr (.inr (.inr (.inr fL))))), (rr8, .inl (cI8, 5, .inl (fun _ => 0))), (ff, .inr (13, [tf, .int 0, .int 0, .int 1, .int 0])), (fb, .inr (13, [tb, .int 0, .int 0, .int 1, .int 0])), (lw, .inr (5, [.int 0, .ref (em 0), .int 0])), (lo, .inr (5, [.int 0, .ref (em 0), .int 0])), (od, .inl (cOd, 1, .inr (.inr (.inr (.inl (fun _ => 0)))))), (ou, .inl (cOut, 1, .inr (.inl (fun _ => 0))))]) hP hD [23] [0, 1, 2, 3, 4, 5, 6, 7, 8, 9, 10, 11, 12, 13, 14, 15, 16, 17, 18, 19, 20, 21, 22] rfl rfl (by decide) (by decide) hk1 hFc
  generalize H1 = H at hP hS ⊢
  refine W.widen (k := 147) (n := 2193) (Nat.le_of_ble_eq_true rfl) (Nat.le_of_ble_eq_true rfl) ?_
  have hw : r_11 = 1 := hw
  rw [hw]
  refine lv_iload hx hb dL_law_1692 (lv_at hl 1 rfl) ?_
  refine lv_icmp_eq (tgt := 1699) hx hb dL_law_1694 (by decide) (fun c_12 => ?_) (fun c_12 => ?_)
  · refine lv_iload hx hb dL_law_1699 (lv_at hl 1 rfl) ?_
    refine lv_if_ne (tgt := 1716) hx hb dL_law_1701 (by decide) (fun c_13 => ?_) (fun c_13 => ?_)
    · refine lv_goto (tgt := 2636) hx hb dL_law_1716 (by decide) ?_
      refine lv_iinc (v := 6) (lv' := [(5, .int 6), (7, .int 0), (6, .int 1), (4, .ref od), (3, .ref ou), (2, .ref m0), (1, .ref x0), (0, .ref b)]) hx hb dL_law_2636 hl (k := 2) rfl (by decide) (by decide) rfl (fun ls hl => ?_)
      refine lv_goto (tgt := 28) hx hb dL_law_2639 (by decide) ?_
      refine lv_iload hx hb dL_law_28 (lv_at hl 0 rfl) ?_
      refine lv_aload_n hx hb dL_law_30 rfl (lv_at hl 7 rfl) ?_
      refine va_slen hx hb hX hbl hbA hS dL_law_31 ?_
      refine lv_topi (fun n_14 en_14 => ?_)
      obtain rfl : n_14 = 6 := en_14.trans (by decide)
      refine lv_bipush (v := 6) hx hb dL_law_32 (by decide) ?_
      refine lv_isub hx hb dL_law_34 ?_
      refine lv_topi (fun k_15 ek_15 => ?_)
      obtain rfl : k_15 = 0 := ek_15.trans (by decide)
      refine lv_icmp_gt (tgt := 2642) hx hb dL_law_35 (by decide) (fun c_16 => ?_) (fun c_16 => ?_)
      · refine lv_iconst (v := 1) hx hb dL_law_2642 (by decide) ?_
        refine W.widen (k := 600006) (n := 7302072) (Nat.le_of_ble_eq_true rfl) (Nat.le_of_ble_eq_true rfl) ?_
        refine va_forget hS.2.2 ?_
        refine W.base ?_
        exact lw_ret (Drawn.sameBut.refl s.drawn lw_cs) hx hb hr hlocks dL_law_2643
      · exact absurd (by decide) c_16
    · exact absurd c_13 (by decide)
  · exact absurd (by decide) c_12

set_option maxHeartbeats 4000000 in
set_option maxRecDepth 100000 in
theorem law_23 {p : Program} {e : Env} {s : State} {m : MethodId} {below : List Frame} {meth : Method} {c : Code} (l : Launch) (hlt : l.stackTraces = false) {b : Nat} {xs : Nat → Int32} (C0 : lw_At p s m meth c b 6 xs) (em : Nat → Nat) (dC : Nat → ClassId) (dI : Nat → Nat → Nat) (j : Nat) (hjj : ∀ z : Int32, z = ((xs 1).toUInt32 % 65536).toInt32 → 97 ≤ z.toInt → z.toInt ≤ 122 → (z - 97).toNatClampNeg = j) (x0 : Nat) (ca : Nat) (dr : Nat) (ty0 : Nat) (sf : Nat) (sb : Nat) (ra0 : Nat) (bk : Nat) (c0 : Nat) (th : Nat) (rr : Nat) (a0 : Nat) (a1 : Nat) (a2 : Nat) (mo : Nat) (vp : Value) (vm : Value) (u1 : Value) (u2 : Value) (sf1 : Value) (sb1 : Value) (fC : Nat → Option Nat) (fD : Nat → Option Nat) (cC : ClassId) (cH : ClassId) (cO : ClassId) (cI : ClassId) (cT : ClassId) (cR : ClassId) (cB0 : ClassId) (cB1 : ClassId) (cB2 : ClassId) (cM : ClassId) (m0 : Nat) (lc : Nat) (lp : Nat) (dl : Nat) (rr8 : Nat) (ff : Nat) (fb : Nat) (lw : Nat) (lo : Nat) (tf : Value) (tb : Value) (fL : Nat → Option Nat) (cO8 : ClassId) (cI8 : ClassId) (ou : Nat) (od : Nat) (cOut : ClassId) (cOd : ClassId) (hfC : fC 0 = some c0) (hfD : fD j = some rr) (hfL : fL j = some rr8) {H : Heap} {locs : List Loc} (hamb : amb em (fun q : Nat => s.heap.size ≤ q) s s.heap) (hK : va_K (dC, dI) vwCl [(cC, (.object "Bothfaces$Card")), (cH, .int), (cO, (.array .int)), (cI, .int), (cT, .int), (cR, .int), (cB0, .int), (cB1, .int), (cB2, .int), (cM, .int), (cO8, (.array .int)), (cI8, .int), (cOut, .long), (cOd, .double)] s) (hP : va_P (dC, dI) vwCl [(x0, .inr (11, [.ref ca, .int 0, .int 0, .ref dr, .ref ty0, .int 0, .ref sf, .ref sb, vp, vm, .ref ra0, .int 0, .ref bk])), (ca, .inl (cC, 16, .inr (.inr (.inr (.inr fC))))), (c0, .inr (7, [.ref th, u1, u2, .int 0, .int 0, .int 0, .int 0])), (th, .inl (cH, 4, .inl (fun _ => 0))), (dr, .inl (cO, 26, .inr (.inr (.inr (.inr fD))))), (rr, .inl (cI, 5, .inl (fun _ => 0))), (ty0, .inl (cT, 8, .inl (fun _ => 0))), (sf, .inr (10, [.int 0, sf1, .int 0, .int 0, .int 0, .int 1, .int 0])), (sb, .inr (10, [.int 1, sb1, .int 0, .int 0, .int 0, .int 1, .int 0])), (ra0, .inl (cR, 6, .inl (fun _ => 0))), (bk, .inr (6, [.ref a0, .ref a1, .ref a2, .ref mo, .int 0])), (a0, .inl (cB0, 8, .inl (fun _ => 0))), (a1, .inl (cB1, 8, .inl (fun _ => 0))), (a2, .inl (cB2, 8, .inl (fun _ => 0))), (mo, .inl (cM, 256, .inl (fun _ => 0))), (m0, .inr (14, [.ref lc, .ref lp, .ref dl, .ref ff, .ref fb, .ref lw, .ref lo, .ref (em 1), .int 0])), (lc, .inr (5, [.int 0, .ref (em 0), .int 0])), (lp, .inr (5, [.int 0, .ref (em 0), .int 0])), (dl, .inl (cO8, 26, .inr (.inr (.inr (.inr fL))))), (rr8, .inl (cI8, 5, .inl (fun _ => 0))), (ff, .inr (13, [tf, .int 0, .int 0, .int 1, .int 0])), (fb, .inr (13, [tb, .int 0, .int 0, .int 1, .int 0])), (lw, .inr (5, [.int 0, .ref (em 0), .int 0])), (lo, .inr (5, [.int 0, .ref (em 0), .int 0])), (ou, .inl (cOut, 1, .inr (.inl (fun _ => 0)))), (od, .inl (cOd, 1, .inr (.inr (.inr (.inl (fun _ => 0))))))] H) (hD : va_D (fun q : Nat => s.heap.size ≤ q) [(x0, .inr (11, [.ref ca, .int 0, .int 0, .ref dr, .ref ty0, .int 0, .ref sf, .ref sb, vp, vm, .ref ra0, .int 0, .ref bk])), (ca, .inl (cC, 16, .inr (.inr (.inr (.inr fC))))), (c0, .inr (7, [.ref th, u1, u2, .int 0, .int 0, .int 0, .int 0])), (th, .inl (cH, 4, .inl (fun _ => 0))), (dr, .inl (cO, 26, .inr (.inr (.inr (.inr fD))))), (rr, .inl (cI, 5, .inl (fun _ => 0))), (ty0, .inl (cT, 8, .inl (fun _ => 0))), (sf, .inr (10, [.int 0, sf1, .int 0, .int 0, .int 0, .int 1, .int 0])), (sb, .inr (10, [.int 1, sb1, .int 0, .int 0, .int 0, .int 1, .int 0])), (ra0, .inl (cR, 6, .inl (fun _ => 0))), (bk, .inr (6, [.ref a0, .ref a1, .ref a2, .ref mo, .int 0])), (a0, .inl (cB0, 8, .inl (fun _ => 0))), (a1, .inl (cB1, 8, .inl (fun _ => 0))), (a2, .inl (cB2, 8, .inl (fun _ => 0))), (mo, .inl (cM, 256, .inl (fun _ => 0))), (m0, .inr (14, [.ref lc, .ref lp, .ref dl, .ref ff, .ref fb, .ref lw, .ref lo, .ref (em 1), .int 0])), (lc, .inr (5, [.int 0, .ref (em 0), .int 0])), (lp, .inr (5, [.int 0, .ref (em 0), .int 0])), (dl, .inl (cO8, 26, .inr (.inr (.inr (.inr fL))))), (rr8, .inl (cI8, 5, .inl (fun _ => 0))), (ff, .inr (13, [tf, .int 0, .int 0, .int 1, .int 0])), (fb, .inr (13, [tb, .int 0, .int 0, .int 1, .int 0])), (lw, .inr (5, [.int 0, .ref (em 0), .int 0])), (lo, .inr (5, [.int 0, .ref (em 0), .int 0])), (ou, .inl (cOut, 1, .inr (.inl (fun _ => 0)))), (od, .inl (cOd, 1, .inr (.inr (.inr (.inl (fun _ => 0))))))]) (hS : va_S (fun q : Nat => s.heap.size ≤ q) s.heap H locs) {ls : Array Slot} (hl : lv_has ls 9 [(5, .int 0), (4, .ref od), (3, .ref ou), (2, .ref m0), (1, .ref x0), (0, .ref b)]) : W p l e room_1 s m #[Value.ref b] below meth c H locs 146 2187 (lw_Z below #[Value.ref b] s) (F0 m 1719 ls []) := by
  obtain ⟨hx, hb, hr, hml, hown0, hts0, hX, hbl, hlocks, hgv⟩ := id C0
  have hts := ow_hts hts0
  have hown : s.vm.findClass RL = some m.cls := hown0
  have hA : ∀ q : Nat, s.heap.size ≤ q → (fun q : Nat => s.heap.size ≤ q) q := fun _ h => h
  have hbA : ¬ (fun q : Nat => s.heap.size ≤ q) b := Nat.not_le.mpr hbl
  refine lv_aload_n hx hb dL_law_1719 rfl (lv_at hl 4 rfl) ?_
  refine lv_aload_n hx hb dL_law_1720 rfl (lv_at hl 5 rfl) ?_
  refine lv_iload hx hb dL_law_1721 (lv_at hl 0 rfl) ?_
  refine lv_iconst (v := 1) hx hb dL_law_1723 (by decide) ?_
  refine lv_iadd hx hb dL_law_1724 ?_
  refine lv_topi (fun k_1 ek_1 => ?_)
  obtain rfl : k_1 = 1 := ek_1.trans (by decide)
  refine va_sld hx hb hX hbl hbA hS (vp_in_iff.mpr ⟨by decide, by decide⟩) dL_law_1725 ?_
  refine lv_topi (fun y_2 ey_2 => ?_)
  have ey_2 : y_2 = xs 1 := ey_2
  refine lv_aload_n hx hb dL_law_1726 rfl (lv_at hl 5 rfl) ?_
  refine lv_iload hx hb dL_law_1727 (lv_at hl 0 rfl) ?_
  refine lv_iconst (v := 2) hx hb dL_law_1729 (by decide) ?_
  refine lv_iadd hx hb dL_law_1730 ?_
  refine lv_topi (fun k_3 ek_3 => ?_)
  obtain rfl : k_3 = 2 := ek_3.trans (by decide)
  refine va_sld hx hb hX hbl hbA hS (vp_in_iff.mpr ⟨by decide, by decide⟩) dL_law_1731 ?_
  refine lv_topi (fun y_4 ey_4 => ?_)
  have ey_4 : y_4 = xs 2 := ey_4
  refine lv_aload_n hx hb dL_law_1732 rfl (lv_at hl 5 rfl) ?_
  refine lv_iload hx hb dL_law_1733 (lv_at hl 0 rfl) ?_
  refine lv_iconst (v := 3) hx hb dL_law_1735 (by decide) ?_
  refine lv_iadd hx hb dL_law_1736 ?_
  refine lv_topi (fun k_5 ek_5 => ?_)
  obtain rfl : k_5 = 3 := ek_5.trans (by decide)
  refine va_sld hx hb hX hbl hbA hS (vp_in_iff.mpr ⟨by decide, by decide⟩) dL_law_1737 ?_
  refine lv_topi (fun y_6 ey_6 => ?_)
  have ey_6 : y_6 = xs 3 := ey_6
  refine lv_aload_n hx hb dL_law_1738 rfl (lv_at hl 2 rfl) ?_
  have hPc := hP.sub (ws' := [(x0, .inr (11, [.ref ca, .int 0, .int 0, .ref dr, .ref ty0, .int 0, .ref sf, .ref sb, vp, vm, .ref ra0, .int 0, .ref bk])), (ou, .inl (cOut, 1, .inr (.inl (fun _ => 0))))]) [0, 24] rfl
  have hDc := hD.sub (ws' := [(x0, .inr (11, [.ref ca, .int 0, .int 0, .ref dr, .ref ty0, .int 0, .ref sf, .ref sb, vp, vm, .ref ra0, .int 0, .ref bk])), (ou, .inl (cOut, 1, .inr (.inl (fun _ => 0))))]) [0, 24] (by decide) rfl
  have hKc := hK.sub (tys' := [(cOut, .long)]) [12] rfl
  have hFc := va_free (wc := [(x0, .inr (11, [.ref ca, .int 0, .int 0, .ref dr, .ref ty0, .int 0, .ref sf, .ref sb, vp, vm, .ref ra0, .int 0, .ref bk])), (ou, .inl (cOut, 1, .inr (.inl (fun _ => 0))))]) hD hS hA [0, 24] rfl
  refine va_calli (vx_runSW (As := [.ref x0, .int y_2, .int y_4, .int y_6, .ref ou]) (rest := []) ⟨hx, hb, hml, hown, hts⟩ (c_L_planAt l hlt em dC dI x0 y_2 y_4 y_6 (.ref ca) (.int 0) (.ref dr) (.ref ty0) (.int 0) (.ref sf) (.ref sb) vp vm (.ref ra0) (.int 0) (.ref bk) ou cOut (fun _ => 0) H.size) (vx_cwSW 5 hts gT_L_planAt rfl rfl rfl (by decide +kernel) ⟨Nat.le_of_ble_eq_true rfl, Nat.le_of_ble_eq_true rfl⟩) ⟨Pw.blind _ _ _ _ _ _ _, fun U hU hW => ⟨rfl, Pw.go hPc hKc hDc hamb hS hFc hU hW⟩⟩ rfl rfl hl.1 rfl (lv_room (Nat.le_of_ble_eq_true rfl)) dL_law_1739 ⟨Nat.le_of_ble_eq_true rfl, Nat.le_of_ble_eq_true rfl⟩) hS (fun q _ h => hFc q h) hFc (fun r_7 u t H1 locs1 ht hvm hw hB hz1 hk1 hS => ?_)
  obtain ⟨hP1, hK1, hD1⟩ := hB
  rw [ht] at hP1
  have hK1 := va_K.moved hvm.symm hK1
  obtain ⟨hP, hD⟩ := va_join (wr := [(ca, .inl (cC, 16, .inr (.inr (.inr (.inr fC))))), (c0, .inr (7, [.ref th, u1, u2, .int 0, .int 0, .int 0, .int 0])), (th, .inl (cH, 4, .inl (fun _ => 0))), (dr, .inl (cO, 26, .inr (.inr (.inr (.inr fD))))), (rr, .inl (cI, 5, .inl (fun _ => 0))), (ty0, .inl (cT, 8, .inl (fun _ => 0))), (sf, .inr (10, [.int 0, sf1, .int 0, .int 0, .int 0, .int 1, .int 0])), (sb, .inr (10, [.int 1, sb1, .int 0, .int 0, .int 0, .int 1, .int 0])), (ra0, .inl (cR, 6, .inl (fun _ => 0))), (bk, .inr (6, [.ref a0, .ref a1, .ref a2, .ref mo, .int 0])), (a0, .inl (cB0, 8, .inl (fun _ => 0))), (a1, .inl (cB1, 8, .inl (fun _ => 0))), (a2, .inl (cB2, 8, .inl (fun _ => 0))), (mo, .inl (cM, 256, .inl (fun _ => 0))), (m0, .inr (14, [.ref lc, .ref lp, .ref dl, .ref ff, .ref fb, .ref lw, .ref lo, .ref (em 1), .int 0])), (lc, .inr (5, [.int 0, .ref (em 0), .int 0])), (lp, .inr (5, [.int 0, .ref (em 0), .int 0])), (dl, .inl (cO8, 26, .inr (.inr (.inr (.inr fL))))), (rr8, .inl (cI8, 5, .inl (fun _ => 0))), (ff, .inr (13, [tf, .int 0, .int 0, .int 1, .int 0])), (fb, .inr (13, [tb, .int 0, .int 0, .int 1, .int 0])), (lw, .inr (5, [.int 0, .ref (em 0), .int 0])), (lo, .inr (5, [.int 0, .ref (em 0), .int 0])), (od, .inl (cOd, 1, .inr (.inr (.inr (.inl (fun _ => 0))))))]) (w1 := [(ou, .inl (cOut, 1, .inr (.inl (fun _ => 0))))]) hP hD [0, 24] [1, 2, 3, 4, 5, 6, 7, 8, 9, 10, 11, 12, 13, 14, 15, 16, 17, 18, 19, 20, 21, 22, 23, 25] rfl rfl (by decide) (by decide) hk1 hFc hP1 hD1
  have hK := (hK.sub (tys' := [(cC, (.object "Bothfaces$Card")), (cH, .int), (cO, (.array .int)), (cI, .int), (cT, .int), (cR, .int), (cB0, .int), (cB1, .int), (cB2, .int), (cM, .int), (cO8, (.array .int)), (cI8, .int), (cOd, .double)]) [0, 1, 2, 3, 4, 5, 6, 7, 8, 9, 10, 11, 13] rfl).app hK1
  generalize H1 = H at hP hS ⊢
  have hP : va_P (dC, dI) vwCl [(ca, .inl (cC, 16, .inr (.inr (.inr (.inr fC))))), (c0, .inr (7, [.ref th, u1, u2, .int 0, .int 0, .int 0, .int 0])), (th, .inl (cH, 4, .inl (fun _ => 0))), (dr, .inl (cO, 26, .inr (.inr (.inr (.inr fD))))), (rr, .inl (cI, 5, .inl (fun _ => 0))), (ty0, .inl (cT, 8, .inl (fun _ => 0))), (sf, .inr (10, [.int 0, sf1, .int 0, .int 0, .int 0, .int 1, .int 0])), (sb, .inr (10, [.int 1, sb1, .int 0, .int 0, .int 0, .int 1, .int 0])), (ra0, .inl (cR, 6, .inl (fun _ => 0))), (bk, .inr (6, [.ref a0, .ref a1, .ref a2, .ref mo, .int 0])), (a0, .inl (cB0, 8, .inl (fun _ => 0))), (a1, .inl (cB1, 8, .inl (fun _ => 0))), (a2, .inl (cB2, 8, .inl (fun _ => 0))), (mo, .inl (cM, 256, .inl (fun _ => 0))), (m0, .inr (14, [.ref lc, .ref lp, .ref dl, .ref ff, .ref fb, .ref lw, .ref lo, .ref (em 1), .int 0])), (lc, .inr (5, [.int 0, .ref (em 0), .int 0])), (lp, .inr (5, [.int 0, .ref (em 0), .int 0])), (dl, .inl (cO8, 26, .inr (.inr (.inr (.inr fL))))), (rr8, .inl (cI8, 5, .inl (fun _ => 0))), (ff, .inr (13, [tf, .int 0, .int 0, .int 1, .int 0])), (fb, .inr (13, [tb, .int 0, .int 0, .int 1, .int 0])), (lw, .inr (5, [.int 0, .ref (em 0), .int 0])), (lo, .inr (5, [.int 0, .ref (em 0), .int 0])), (od, .inl (cOd, 1, .inr (.inr (.inr (.inl (fun _ => 0)))))), (ou, .inl (cOut, 1, .inr (.inl (fun _ => 0))))] H := hP
  have hD : va_D (fun q : Nat => s.heap.size ≤ q) [(ca, .inl (cC, 16, .inr (.inr (.inr (.inr fC))))), (c0, .inr (7, [.ref th, u1, u2, .int 0, .int 0, .int 0, .int 0])), (th, .inl (cH, 4, .inl (fun _ => 0))), (dr, .inl (cO, 26, .inr (.inr (.inr (.inr fD))))), (rr, .inl (cI, 5, .inl (fun _ => 0))), (ty0, .inl (cT, 8, .inl (fun _ => 0))), (sf, .inr (10, [.int 0, sf1, .int 0, .int 0, .int 0, .int 1, .int 0])), (sb, .inr (10, [.int 1, sb1, .int 0, .int 0, .int 0, .int 1, .int 0])), (ra0, .inl (cR, 6, .inl (fun _ => 0))), (bk, .inr (6, [.ref a0, .ref a1, .ref a2, .ref mo, .int 0])), (a0, .inl (cB0, 8, .inl (fun _ => 0))), (a1, .inl (cB1, 8, .inl (fun _ => 0))), (a2, .inl (cB2, 8, .inl (fun _ => 0))), (mo, .inl (cM, 256, .inl (fun _ => 0))), (m0, .inr (14, [.ref lc, .ref lp, .ref dl, .ref ff, .ref fb, .ref lw, .ref lo, .ref (em 1), .int 0])), (lc, .inr (5, [.int 0, .ref (em 0), .int 0])), (lp, .inr (5, [.int 0, .ref (em 0), .int 0])), (dl, .inl (cO8, 26, .inr (.inr (.inr (.inr fL))))), (rr8, .inl (cI8, 5, .inl (fun _ => 0))), (ff, .inr (13, [tf, .int 0, .int 0, .int 1, .int 0])), (fb, .inr (13, [tb, .int 0, .int 0, .int 1, .int 0])), (lw, .inr (5, [.int 0, .ref (em 0), .int 0])), (lo, .inr (5, [.int 0, .ref (em 0), .int 0])), (od, .inl (cOd, 1, .inr (.inr (.inr (.inl (fun _ => 0)))))), (ou, .inl (cOut, 1, .inr (.inl (fun _ => 0))))] := hD
  have hK : va_K (dC, dI) vwCl [(cC, (.object "Bothfaces$Card")), (cH, .int), (cO, (.array .int)), (cI, .int), (cT, .int), (cR, .int), (cB0, .int), (cB1, .int), (cB2, .int), (cM, .int), (cO8, (.array .int)), (cI8, .int), (cOd, .double), (cOut, .long)] s := hK
  refine W.widen (k := 147) (n := 2193) (Nat.le_of_ble_eq_true rfl) (Nat.le_of_ble_eq_true rfl) ?_
  have hw : r_7 = 1 := hw
  rw [hw]
  refine lv_istore (lv' := [(6, .int 1), (5, .int 0), (4, .ref od), (3, .ref ou), (2, .ref m0), (1, .ref x0), (0, .ref b)]) hx hb dL_law_1742 hl (by decide) rfl (fun ls hl => ?_)
  refine lv_aload_n hx hb dL_law_1744 rfl (lv_at hl 4 rfl) ?_
  refine lv_aload_n hx hb dL_law_1745 rfl (lv_at hl 6 rfl) ?_
  refine lv_iload hx hb dL_law_1746 (lv_at hl 1 rfl) ?_
  refine lv_iconst (v := 1) hx hb dL_law_1748 (by decide) ?_
  refine lv_iadd hx hb dL_law_1749 ?_
  refine lv_topi (fun k_8 ek_8 => ?_)
  obtain rfl : k_8 = 1 := ek_8.trans (by decide)
  refine va_sld hx hb hX hbl hbA hS (vp_in_iff.mpr ⟨by decide, by decide⟩) dL_law_1750 ?_
  refine lv_topi (fun y_9 ey_9 => ?_)
  have ey_9 : y_9 = xs 1 := ey_9
  obtain rfl : y_2 = y_9 := ey_2.trans ey_9.symm
  refine lv_aload_n hx hb dL_law_1751 rfl (lv_at hl 6 rfl) ?_
  refine lv_iload hx hb dL_law_1752 (lv_at hl 1 rfl) ?_
  refine lv_iconst (v := 2) hx hb dL_law_1754 (by decide) ?_
  refine lv_iadd hx hb dL_law_1755 ?_
  refine lv_topi (fun k_10 ek_10 => ?_)
  obtain rfl : k_10 = 2 := ek_10.trans (by decide)
  refine va_sld hx hb hX hbl hbA hS (vp_in_iff.mpr ⟨by decide, by decide⟩) dL_law_1756 ?_
  refine lv_topi (fun y_11 ey_11 => ?_)
  have ey_11 : y_11 = xs 2 := ey_11
  obtain rfl : y_4 = y_11 := ey_4.trans ey_11.symm
  refine lv_aload_n hx hb dL_law_1757 rfl (lv_at hl 6 rfl) ?_
  refine lv_iload hx hb dL_law_1758 (lv_at hl 1 rfl) ?_
  refine lv_iconst (v := 3) hx hb dL_law_1760 (by decide) ?_
  refine lv_iadd hx hb dL_law_1761 ?_
  refine lv_topi (fun k_12 ek_12 => ?_)
  obtain rfl : k_12 = 3 := ek_12.trans (by decide)
  refine va_sld hx hb hX hbl hbA hS (vp_in_iff.mpr ⟨by decide, by decide⟩) dL_law_1762 ?_
  refine lv_topi (fun y_13 ey_13 => ?_)
  have ey_13 : y_13 = xs 3 := ey_13
  obtain rfl : y_6 = y_13 := ey_6.trans ey_13.symm
  have hPc := hP.sub (ws' := [(m0, .inr (14, [.ref lc, .ref lp, .ref dl, .ref ff, .ref fb, .ref lw, .ref lo, .ref (em 1), .int 0])), (lc, .inr (5, [.int 0, .ref (em 0), .int 0]))]) [14, 15] rfl
  have hDc := hD.sub (ws' := [(m0, .inr (14, [.ref lc, .ref lp, .ref dl, .ref ff, .ref fb, .ref lw, .ref lo, .ref (em 1), .int 0])), (lc, .inr (5, [.int 0, .ref (em 0), .int 0]))]) [14, 15] (by decide) rfl
  have hKc := hK.sub (tys' := []) [] rfl
  have hFc := va_free (wc := [(m0, .inr (14, [.ref lc, .ref lp, .ref dl, .ref ff, .ref fb, .ref lw, .ref lo, .ref (em 1), .int 0])), (lc, .inr (5, [.int 0, .ref (em 0), .int 0]))]) hD hS hA [14, 15] rfl
  refine va_calli (va_runV (As := [.int y_2, .int y_4, .int y_6]) (rest := []) ⟨hx, hb, hml, hown, hts⟩ (c_X8_planAt l em dC dI m0 y_2 y_4 y_6 (.ref lp) (.ref dl) (.ref ff) (.ref fb) (.ref lw) (.ref lo) (.ref (em 1)) (.int 0) lc (.ref (em 0)) H.size) (cwV 3 hts gT_X8_planAt rfl rfl rfl (by decide +kernel) ⟨Nat.le_of_ble_eq_true rfl, Nat.le_of_ble_eq_true rfl⟩) ⟨Pw.blind _ _ _ _ _ _ _, va_recv hKc hPc (ci := 14) (q0 := 0) rfl rfl, fun U hU hW => ⟨rfl, Pw.go hPc hKc hDc hamb hS hFc hU hW⟩⟩ rfl rfl hl.1 rfl (lv_room (Nat.le_of_ble_eq_true rfl)) dL_law_1763 ⟨Nat.le_of_ble_eq_true rfl, Nat.le_of_ble_eq_true rfl⟩) hS (fun q _ h => hFc q h) hFc (fun r_14 u t H1 locs1 ht hvm hw hB hz1 hk1 hS => ?_)
  obtain ⟨hP1, hK1, hD1⟩ := hB
  rw [ht] at hP1
  have hK1 := va_K.moved hvm.symm hK1
  obtain ⟨hP, hD⟩ := va_join (wr := [(ca, .inl (cC, 16, .inr (.inr (.inr (.inr fC))))), (c0, .inr (7, [.ref th, u1, u2, .int 0, .int 0, .int 0, .int 0])), (th, .inl (cH, 4, .inl (fun _ => 0))), (dr, .inl (cO, 26, .inr (.inr (.inr (.inr fD))))), (rr, .inl (cI, 5, .inl (fun _ => 0))), (ty0, .inl (cT, 8, .inl (fun _ => 0))), (sf, .inr (10, [.int 0, sf1, .int 0, .int 0, .int 0, .int 1, .int 0])), (sb, .inr (10, [.int 1, sb1, .int 0, .int 0, .int 0, .int 1, .int 0])), (ra0, .inl (cR, 6, .inl (fun _ => 0))), (bk, .inr (6, [.ref a0, .ref a1, .ref a2, .ref mo, .int 0])), (a0, .inl (cB0, 8, .inl (fun _ => 0))), (a1, .inl (cB1, 8, .inl (fun _ => 0))), (a2, .inl (cB2, 8, .inl (fun _ => 0))), (mo, .inl (cM, 256, .inl (fun _ => 0))), (lp, .inr (5, [.int 0, .ref (em 0), .int 0])), (dl, .inl (cO8, 26, .inr (.inr (.inr (.inr fL))))), (rr8, .inl (cI8, 5, .inl (fun _ => 0))), (ff, .inr (13, [tf, .int 0, .int 0, .int 1, .int 0])), (fb, .inr (13, [tb, .int 0, .int 0, .int 1, .int 0])), (lw, .inr (5, [.int 0, .ref (em 0), .int 0])), (lo, .inr (5, [.int 0, .ref (em 0), .int 0])), (od, .inl (cOd, 1, .inr (.inr (.inr (.inl (fun _ => 0)))))), (ou, .inl (cOut, 1, .inr (.inl (fun _ => 0))))]) (w1 := [(m0, .inr (14, [.ref lc, .ref lp, .ref dl, .ref ff, .ref fb, .ref lw, .ref lo, .ref (em 1), .int 1]))]) hP hD [14, 15] [0, 1, 2, 3, 4, 5, 6, 7, 8, 9, 10, 11, 12, 13, 16, 17, 18, 19, 20, 21, 22, 23, 24] rfl rfl (by decide) (by decide) hk1 hFc hP1 hD1
  have hK := (hK.sub (tys' := [(cC, (.object "Bothfaces$Card")), (cH, .int), (cO, (.array .int)), (cI, .int), (cT, .int), (cR, .int), (cB0, .int), (cB1, .int), (cB2, .int), (cM, .int), (cO8, (.array .int)), (cI8, .int), (cOd, .double), (cOut, .long)]) [0, 1, 2, 3, 4, 5, 6, 7, 8, 9, 10, 11, 12, 13] rfl).app hK1
  generalize H1 = H at hP hS ⊢
  have hP : va_P (dC, dI) vwCl [(ca, .inl (cC, 16, .inr (.inr (.inr (.inr fC))))), (c0, .inr (7, [.ref th, u1, u2, .int 0, .int 0, .int 0, .int 0])), (th, .inl (cH, 4, .inl (fun _ => 0))), (dr, .inl (cO, 26, .inr (.inr (.inr (.inr fD))))), (rr, .inl (cI, 5, .inl (fun _ => 0))), (ty0, .inl (cT, 8, .inl (fun _ => 0))), (sf, .inr (10, [.int 0, sf1, .int 0, .int 0, .int 0, .int 1, .int 0])), (sb, .inr (10, [.int 1, sb1, .int 0, .int 0, .int 0, .int 1, .int 0])), (ra0, .inl (cR, 6, .inl (fun _ => 0))), (bk, .inr (6, [.ref a0, .ref a1, .ref a2, .ref mo, .int 0])), (a0, .inl (cB0, 8, .inl (fun _ => 0))), (a1, .inl (cB1, 8, .inl (fun _ => 0))), (a2, .inl (cB2, 8, .inl (fun _ => 0))), (mo, .inl (cM, 256, .inl (fun _ => 0))), (lp, .inr (5, [.int 0, .ref (em 0), .int 0])), (dl, .inl (cO8, 26, .inr (.inr (.inr (.inr fL))))), (rr8, .inl (cI8, 5, .inl (fun _ => 0))), (ff, .inr (13, [tf, .int 0, .int 0, .int 1, .int 0])), (fb, .inr (13, [tb, .int 0, .int 0, .int 1, .int 0])), (lw, .inr (5, [.int 0, .ref (em 0), .int 0])), (lo, .inr (5, [.int 0, .ref (em 0), .int 0])), (od, .inl (cOd, 1, .inr (.inr (.inr (.inl (fun _ => 0)))))), (ou, .inl (cOut, 1, .inr (.inl (fun _ => 0)))), (m0, .inr (14, [.ref lc, .ref lp, .ref dl, .ref ff, .ref fb, .ref lw, .ref lo, .ref (em 1), .int 1]))] H := hP
  have hD : va_D (fun q : Nat => s.heap.size ≤ q) [(ca, .inl (cC, 16, .inr (.inr (.inr (.inr fC))))), (c0, .inr (7, [.ref th, u1, u2, .int 0, .int 0, .int 0, .int 0])), (th, .inl (cH, 4, .inl (fun _ => 0))), (dr, .inl (cO, 26, .inr (.inr (.inr (.inr fD))))), (rr, .inl (cI, 5, .inl (fun _ => 0))), (ty0, .inl (cT, 8, .inl (fun _ => 0))), (sf, .inr (10, [.int 0, sf1, .int 0, .int 0, .int 0, .int 1, .int 0])), (sb, .inr (10, [.int 1, sb1, .int 0, .int 0, .int 0, .int 1, .int 0])), (ra0, .inl (cR, 6, .inl (fun _ => 0))), (bk, .inr (6, [.ref a0, .ref a1, .ref a2, .ref mo, .int 0])), (a0, .inl (cB0, 8, .inl (fun _ => 0))), (a1, .inl (cB1, 8, .inl (fun _ => 0))), (a2, .inl (cB2, 8, .inl (fun _ => 0))), (mo, .inl (cM, 256, .inl (fun _ => 0))), (lp, .inr (5, [.int 0, .ref (em 0), .int 0])), (dl, .inl (cO8, 26, .inr (.inr (.inr (.inr fL))))), (rr8, .inl (cI8, 5, .inl (fun _ => 0))), (ff, .inr (13, [tf, .int 0, .int 0, .int 1, .int 0])), (fb, .inr (13, [tb, .int 0, .int 0, .int 1, .int 0])), (lw, .inr (5, [.int 0, .ref (em 0), .int 0])), (lo, .inr (5, [.int 0, .ref (em 0), .int 0])), (od, .inl (cOd, 1, .inr (.inr (.inr (.inl (fun _ => 0)))))), (ou, .inl (cOut, 1, .inr (.inl (fun _ => 0)))), (m0, .inr (14, [.ref lc, .ref lp, .ref dl, .ref ff, .ref fb, .ref lw, .ref lo, .ref (em 1), .int 1]))] := hD
  have hK : va_K (dC, dI) vwCl [(cC, (.object "Bothfaces$Card")), (cH, .int), (cO, (.array .int)), (cI, .int), (cT, .int), (cR, .int), (cB0, .int), (cB1, .int), (cB2, .int), (cM, .int), (cO8, (.array .int)), (cI8, .int), (cOd, .double), (cOut, .long)] s := hK
  refine W.widen (k := 147) (n := 2193) (Nat.le_of_ble_eq_true rfl) (Nat.le_of_ble_eq_true rfl) ?_
  have hw : r_14 = 32 := hw
  rw [hw]
  refine lv_istore (lv' := [(7, .int 32), (6, .int 1), (5, .int 0), (4, .ref od), (3, .ref ou), (2, .ref m0), (1, .ref x0), (0, .ref b)]) hx hb dL_law_1766 hl (by decide) rfl (fun ls hl => ?_)
  refine lv_aload_n hx hb dL_law_1768 rfl (lv_at hl 5 rfl) ?_
  have hPc := hP.sub (ws' := [(m0, .inr (14, [.ref lc, .ref lp, .ref dl, .ref ff, .ref fb, .ref lw, .ref lo, .ref (em 1), .int 1]))]) [23] rfl
  have hDc := hD.sub (ws' := [(m0, .inr (14, [.ref lc, .ref lp, .ref dl, .ref ff, .ref fb, .ref lw, .ref lo, .ref (em 1), .int 1]))]) [23] (by decide) rfl
  have hKc := hK.sub (tys' := []) [] rfl
  have hFc := va_free (wc := [(m0, .inr (14, [.ref lc, .ref lp, .ref dl, .ref ff, .ref fb, .ref lw, .ref lo, .ref (em 1), .int 1]))]) hD hS hA [23] rfl
  refine va_calli (va_runV (As := []) (rest := []) ⟨hx, hb, hml, hown, hts⟩ (c_X8_thrown l em dC dI m0 1 (.ref lc) (.ref lp) (.ref dl) (.ref ff) (.ref fb) (.ref lw) (.ref lo) (.ref (em 1)) H.size) (cwV 0 hts gT_X8_thrown rfl rfl rfl (by decide +kernel) ⟨Nat.le_of_ble_eq_true rfl, Nat.le_of_ble_eq_true rfl⟩) ⟨Pw.blind _ _ _ _ _ _ _, va_recv hKc hPc (ci := 14) (q0 := 0) rfl rfl, fun U hU hW => ⟨rfl, Pw.go hPc hKc hDc hamb hS hFc hU hW⟩⟩ rfl rfl hl.1 rfl (lv_room (Nat.le_of_ble_eq_true rfl)) dL_law_1769 ⟨Nat.le_of_ble_eq_true rfl, Nat.le_of_ble_eq_true rfl⟩) hS (fun q _ h => hFc q h) hFc (fun r_15 u t H1 locs1 ht hvm hw hB hz1 hk1 hS => ?_)
  obtain ⟨hP, hD⟩ := va_rest (wr := [(ca, .inl (cC, 16, .inr (.inr (.inr (.inr fC))))), (c0, .inr (7, [.ref th, u1, u2, .int 0, .int 0, .int 0, .int 0])), (th, .inl (cH, 4, .inl (fun _ => 0))), (dr, .inl (cO, 26, .inr (.inr (.inr (.inr fD))))), (rr, .inl (cI, 5, .inl (fun _ => 0))), (ty0, .inl (cT, 8, .inl (fun _ => 0))), (sf, .inr (10, [.int 0, sf1, .int 0, .int 0, .int 0, .int 1, .int 0])), (sb, .inr (10, [.int 1, sb1, .int 0, .int 0, .int 0, .int 1, .int 0])), (ra0, .inl (cR, 6, .inl (fun _ => 0))), (bk, .inr (6, [.ref a0, .ref a1, .ref a2, .ref mo, .int 0])), (a0, .inl (cB0, 8, .inl (fun _ => 0))), (a1, .inl (cB1, 8, .inl (fun _ => 0))), (a2, .inl (cB2, 8, .inl (fun _ => 0))), (mo, .inl (cM, 256, .inl (fun _ => 0))), (lp, .inr (5, [.int 0, .ref (em 0), .int 0])), (dl, .inl (cO8, 26, .inr (.inr (.inr (.inr fL))))), (rr8, .inl (cI8, 5, .inl (fun _ => 0))), (ff, .inr (13, [tf, .int 0, .int 0, .int 1, .int 0])), (fb, .inr (13, [tb, .int 0, .int 0, .int 1, .int 0])), (lw, .inr (5, [.int 0, .ref (em 0), .int 0])), (lo, .inr (5, [.int 0, .ref (em 0), .int 0])), (od, .inl (cOd, 1, .inr (.inr (.inr (.inl (fun _ => 0)))))), (ou, .inl (cOut, 1, .inr (.inl (fun _ => 0))))]) hP hD [23] [0, 1, 2, 3, 4, 5, 6, 7, 8, 9, 10, 11, 12, 13, 14, 15, 16, 17, 18, 19, 20, 21, 22] rfl rfl (by decide) (by decide) hk1 hFc
  generalize H1 = H at hP hS ⊢
  refine W.widen (k := 147) (n := 2193) (Nat.le_of_ble_eq_true rfl) (Nat.le_of_ble_eq_true rfl) ?_
  have hw : r_15 = 1 := hw
  rw [hw]
  refine lv_iload hx hb dL_law_1772 (lv_at hl 1 rfl) ?_
  refine lv_icmp_eq (tgt := 1779) hx hb dL_law_1774 (by decide) (fun c_16 => ?_) (fun c_16 => ?_)
  · refine lv_iload hx hb dL_law_1779 (lv_at hl 1 rfl) ?_
    refine lv_if_ne (tgt := 1796) hx hb dL_law_1781 (by decide) (fun c_17 => ?_) (fun c_17 => ?_)
    · refine lv_goto (tgt := 2636) hx hb dL_law_1796 (by decide) ?_
      refine lv_iinc (v := 6) (lv' := [(5, .int 6), (7, .int 32), (6, .int 1), (4, .ref od), (3, .ref ou), (2, .ref m0), (1, .ref x0), (0, .ref b)]) hx hb dL_law_2636 hl (k := 2) rfl (by decide) (by decide) rfl (fun ls hl => ?_)
      refine lv_goto (tgt := 28) hx hb dL_law_2639 (by decide) ?_
      refine lv_iload hx hb dL_law_28 (lv_at hl 0 rfl) ?_
      refine lv_aload_n hx hb dL_law_30 rfl (lv_at hl 7 rfl) ?_
      refine va_slen hx hb hX hbl hbA hS dL_law_31 ?_
      refine lv_topi (fun n_18 en_18 => ?_)
      obtain rfl : n_18 = 6 := en_18.trans (by decide)
      refine lv_bipush (v := 6) hx hb dL_law_32 (by decide) ?_
      refine lv_isub hx hb dL_law_34 ?_
      refine lv_topi (fun k_19 ek_19 => ?_)
      obtain rfl : k_19 = 0 := ek_19.trans (by decide)
      refine lv_icmp_gt (tgt := 2642) hx hb dL_law_35 (by decide) (fun c_20 => ?_) (fun c_20 => ?_)
      · refine lv_iconst (v := 1) hx hb dL_law_2642 (by decide) ?_
        refine W.widen (k := 600006) (n := 7302072) (Nat.le_of_ble_eq_true rfl) (Nat.le_of_ble_eq_true rfl) ?_
        refine va_forget hS.2.2 ?_
        refine W.base ?_
        exact lw_ret (Drawn.sameBut.refl s.drawn lw_cs) hx hb hr hlocks dL_law_2643
      · exact absurd (by decide) c_20
    · exact absurd c_17 (by decide)
  · exact absurd (by decide) c_16
