set_option maxHeartbeats 4000000 in
set_option maxRecDepth 100000 in
theorem law_12 {p : Program} {e : Env} {s : State} {m : MethodId} {below : List Frame} {meth : Method} {c : Code} (l : Launch) (hlt : l.stackTraces = false) {b : Nat} {xs : Nat → Int32} (C0 : lw_At p s m meth c b 6 xs) (em : Nat → Nat) (dC : Nat → ClassId) (dI : Nat → Nat → Nat) (j : Nat) (hjj : ∀ z : Int32, z = ((xs 1).toUInt32 % 65536).toInt32 → 97 ≤ z.toInt → z.toInt ≤ 122 → (z - 97).toNatClampNeg = j) (x0 : Nat) (ca : Nat) (dr : Nat) (ty0 : Nat) (sf : Nat) (sb : Nat) (ra0 : Nat) (bk : Nat) (c0 : Nat) (th : Nat) (rr : Nat) (a0 : Nat) (a1 : Nat) (a2 : Nat) (mo : Nat) (vp : Value) (vm : Value) (u1 : Value) (u2 : Value) (sf1 : Value) (sb1 : Value) (fC : Nat → Option Nat) (fD : Nat → Option Nat) (cC : ClassId) (cH : ClassId) (cO : ClassId) (cI : ClassId) (cT : ClassId) (cR : ClassId) (cB0 : ClassId) (cB1 : ClassId) (cB2 : ClassId) (cM : ClassId) (m0 : Nat) (lc : Nat) (lp : Nat) (dl : Nat) (rr8 : Nat) (ff : Nat) (fb : Nat) (lw : Nat) (lo : Nat) (tf : Value) (tb : Value) (fL : Nat → Option Nat) (cO8 : ClassId) (cI8 : ClassId) (ou : Nat) (od : Nat) (cOut : ClassId) (cOd : ClassId) (hfC : fC 0 = some c0) (hfD : fD j = some rr) (hfL : fL j = some rr8) {H : Heap} {locs : List Loc} (hamb : amb em (fun q : Nat => s.heap.size ≤ q) s s.heap) (hK : va_K (dC, dI) vwCl [(cC, (.object "Bothfaces$Card")), (cH, .int), (cO, (.array .int)), (cI, .int), (cT, .int), (cR, .int), (cB0, .int), (cB1, .int), (cB2, .int), (cM, .int), (cO8, (.array .int)), (cI8, .int), (cOut, .long), (cOd, .double)] s) (hP : va_P (dC, dI) vwCl [(x0, .inr (11, [.ref ca, .int 0, .int 0, .ref dr, .ref ty0, .int 0, .ref sf, .ref sb, vp, vm, .ref ra0, .int 0, .ref bk])), (ca, .inl (cC, 16, .inr (.inr (.inr (.inr fC))))), (c0, .inr (7, [.ref th, u1, u2, .int 0, .int 0, .int 0, .int 0])), (th, .inl (cH, 4, .inl (fun _ => 0))), (dr, .inl (cO, 26, .inr (.inr (.inr (.inr fD))))), (rr, .inl (cI, 5, .inl (fun _ => 0))), (ty0, .inl (cT, 8, .inl (fun _ => 0))), (sf, .inr (10, [.int 0, sf1, .int 0, .int 0, .int 0, .int 1, .int 0])), (sb, .inr (10, [.int 1, sb1, .int 0, .int 0, .int 0, .int 1, .int 0])), (ra0, .inl (cR, 6, .inl (fun _ => 0))), (bk, .inr (6, [.ref a0, .ref a1, .ref a2, .ref mo, .int 0])), (a0, .inl (cB0, 8, .inl (fun _ => 0))), (a1, .inl (cB1, 8, .inl (fun _ => 0))), (a2, .inl (cB2, 8, .inl (fun _ => 0))), (mo, .inl (cM, 256, .inl (fun _ => 0))), (m0, .inr (14, [.ref lc, .ref lp, .ref dl, .ref ff, .ref fb, .ref lw, .ref lo, .ref (em 1), .int 0])), (lc, .inr (5, [.int 0, .ref (em 0), .int 0])), (lp, .inr (5, [.int 0, .ref (em 0), .int 0])), (dl, .inl (cO8, 26, .inr (.inr (.inr (.inr fL))))), (rr8, .inl (cI8, 5, .inl (fun _ => 0))), (ff, .inr (13, [tf, .int 0, .int 0, .int 1, .int 0])), (fb, .inr (13, [tb, .int 0, .int 0, .int 1, .int 0])), (lw, .inr (5, [.int 0, .ref (em 0), .int 0])), (lo, .inr (5, [.int 0, .ref (em 0), .int 0])), (ou, .inl (cOut, 1, .inr (.inl (fun _ => 0)))), (od, .inl (cOd, 1, .inr (.inr (.inr (.inl (fun _ => 0))))))] H) (hD : va_D (fun q : Nat => s.heap.size ≤ q) [(x0, .inr (11, [.ref ca, .int 0, .int 0, .ref dr, .ref ty0, .int 0, .ref sf, .ref sb, vp, vm, .ref ra0, .int 0, .ref bk])), (ca, .inl (cC, 16, .inr (.inr (.inr (.inr fC))))), (c0, .inr (7, [.ref th, u1, u2, .int 0, .int 0, .int 0, .int 0])), (th, .inl (cH, 4, .inl (fun _ => 0))), (dr, .inl (cO, 26, .inr (.inr (.inr (.inr fD))))), (rr, .inl (cI, 5, .inl (fun _ => 0))), (ty0, .inl (cT, 8, .inl (fun _ => 0))), (sf, .inr (10, [.int 0, sf1, .int 0, .int 0, .int 0, .int 1, .int 0])), (sb, .inr (10, [.int 1, sb1, .int 0, .int 0, .int 0, .int 1, .int 0])), (ra0, .inl (cR, 6, .inl (fun _ => 0))), (bk, .inr (6, [.ref a0, .ref a1, .ref a2, .ref mo, .int 0])), (a0, .inl (cB0, 8, .inl (fun _ => 0))), (a1, .inl (cB1, 8, .inl (fun _ => 0))), (a2, .inl (cB2, 8, .inl (fun _ => 0))), (mo, .inl (cM, 256, .inl (fun _ => 0))), (m0, .inr (14, [.ref lc, .ref lp, .ref dl, .ref ff, .ref fb, .ref lw, .ref lo, .ref (em 1), .int 0])), (lc, .inr (5, [.int 0, .ref (em 0), .int 0])), (lp, .inr (5, [.int 0, .ref (em 0), .int 0])), (dl, .inl (cO8, 26, .inr (.inr (.inr (.inr fL))))), (rr8, .inl (cI8, 5, .inl (fun _ => 0))), (ff, .inr (13, [tf, .int 0, .int 0, .int 1, .int 0])), (fb, .inr (13, [tb, .int 0, .int 0, .int 1, .int 0])), (lw, .inr (5, [.int 0, .ref (em 0), .int 0])), (lo, .inr (5, [.int 0, .ref (em 0), .int 0])), (ou, .inl (cOut, 1, .inr (.inl (fun _ => 0)))), (od, .inl (cOd, 1, .inr (.inr (.inr (.inl (fun _ => 0))))))]) (hS : va_S (fun q : Nat => s.heap.size ≤ q) s.heap H locs) {ls : Array Slot} (hl : lv_has ls 9 [(5, .int 0), (4, .ref od), (3, .ref ou), (2, .ref m0), (1, .ref x0), (0, .ref b)]) : W p l e room_1 s m #[Value.ref b] below meth c H locs 146 2187 (lw_Z below #[Value.ref b] s) (F0 m 951 ls []) := by
  obtain ⟨hx, hb, hr, hml, hown0, hts0, hX, hbl, hlocks, hgv⟩ := id C0
  have hts := ow_hts hts0
  have hown : s.vm.findClass RL = some m.cls := hown0
  have hA : ∀ q : Nat, s.heap.size ≤ q → (fun q : Nat => s.heap.size ≤ q) q := fun _ h => h
  have hbA : ¬ (fun q : Nat => s.heap.size ≤ q) b := Nat.not_le.mpr hbl
  refine lv_aload_n hx hb dL_law_951 rfl (lv_at hl 4 rfl) ?_
  refine lv_aload_n hx hb dL_law_952 rfl (lv_at hl 5 rfl) ?_
  refine lv_iload hx hb dL_law_953 (lv_at hl 0 rfl) ?_
  refine lv_iconst (v := 1) hx hb dL_law_955 (by decide) ?_
  refine lv_iadd hx hb dL_law_956 ?_
  refine lv_topi (fun k_1 ek_1 => ?_)
  obtain rfl : k_1 = 1 := ek_1.trans (by decide)
  refine va_sld hx hb hX hbl hbA hS (vp_in_iff.mpr ⟨by decide, by decide⟩) dL_law_957 ?_
  refine lv_topi (fun y_2 ey_2 => ?_)
  have ey_2 : y_2 = xs 1 := ey_2
  refine lv_aload_n hx hb dL_law_958 rfl (lv_at hl 2 rfl) ?_
  have hPc := hP.sub (ws' := [(x0, .inr (11, [.ref ca, .int 0, .int 0, .ref dr, .ref ty0, .int 0, .ref sf, .ref sb, vp, vm, .ref ra0, .int 0, .ref bk])), (ou, .inl (cOut, 1, .inr (.inl (fun _ => 0))))]) [0, 24] rfl
  have hDc := hD.sub (ws' := [(x0, .inr (11, [.ref ca, .int 0, .int 0, .ref dr, .ref ty0, .int 0, .ref sf, .ref sb, vp, vm, .ref ra0, .int 0, .ref bk])), (ou, .inl (cOut, 1, .inr (.inl (fun _ => 0))))]) [0, 24] (by decide) rfl
  have hKc := hK.sub (tys' := [(cOut, .long)]) [12] rfl
  have hFc := va_free (wc := [(x0, .inr (11, [.ref ca, .int 0, .int 0, .ref dr, .ref ty0, .int 0, .ref sf, .ref sb, vp, vm, .ref ra0, .int 0, .ref bk])), (ou, .inl (cOut, 1, .inr (.inl (fun _ => 0))))]) hD hS hA [0, 24] rfl
  refine va_calli (vx_runSW (As := [.ref x0, .int y_2, .ref ou]) (rest := []) ⟨hx, hb, hml, hown, hts⟩ (c_L_longestFloat l hlt em dC dI x0 y_2 (.ref ca) (.int 0) (.ref dr) (.ref ty0) (.int 0) (.ref sf) (.ref sb) vp vm (.ref ra0) (.int 0) (.ref bk) ou cOut (fun _ => 0) H.size) (vx_cwSW 3 hts gT_L_longestFloat rfl rfl rfl (by decide +kernel) ⟨Nat.le_of_ble_eq_true rfl, Nat.le_of_ble_eq_true rfl⟩) ⟨Pw.blind _ _ _ _ _ _ _, fun U hU hW => ⟨rfl, Pw.go hPc hKc hDc hamb hS hFc hU hW⟩⟩ rfl rfl hl.1 rfl (lv_room (Nat.le_of_ble_eq_true rfl)) dL_law_959 ⟨Nat.le_of_ble_eq_true rfl, Nat.le_of_ble_eq_true rfl⟩) hS (fun q _ h => hFc q h) hFc (fun r_3 u t H1 locs1 ht hvm hw hB hz1 hk1 hS => ?_)
  obtain ⟨hP1, hK1, hD1⟩ := hB
  rw [ht] at hP1
  have hK1 := va_K.moved hvm.symm hK1
  obtain ⟨hP, hD⟩ := va_join (wr := [(ca, .inl (cC, 16, .inr (.inr (.inr (.inr fC))))), (c0, .inr (7, [.ref th, u1, u2, .int 0, .int 0, .int 0, .int 0])), (th, .inl (cH, 4, .inl (fun _ => 0))), (dr, .inl (cO, 26, .inr (.inr (.inr (.inr fD))))), (rr, .inl (cI, 5, .inl (fun _ => 0))), (ty0, .inl (cT, 8, .inl (fun _ => 0))), (sf, .inr (10, [.int 0, sf1, .int 0, .int 0, .int 0, .int 1, .int 0])), (sb, .inr (10, [.int 1, sb1, .int 0, .int 0, .int 0, .int 1, .int 0])), (ra0, .inl (cR, 6, .inl (fun _ => 0))), (bk, .inr (6, [.ref a0, .ref a1, .ref a2, .ref mo, .int 0])), (a0, .inl (cB0, 8, .inl (fun _ => 0))), (a1, .inl (cB1, 8, .inl (fun _ => 0))), (a2, .inl (cB2, 8, .inl (fun _ => 0))), (mo, .inl (cM, 256, .inl (fun _ => 0))), (m0, .inr (14, [.ref lc, .ref lp, .ref dl, .ref ff, .ref fb, .ref lw, .ref lo, .ref (em 1), .int 0])), (lc, .inr (5, [.int 0, .ref (em 0), .int 0])), (lp, .inr (5, [.int 0, .ref (em 0), .int 0])), (dl, .inl (cO8, 26, .inr (.inr (.inr (.inr fL))))), (rr8, .inl (cI8, 5, .inl (fun _ => 0))), (ff, .inr (13, [tf, .int 0, .int 0, .int 1, .int 0])), (fb, .inr (13, [tb, .int 0, .int 0, .int 1, .int 0])), (lw, .inr (5, [.int 0, .ref (em 0), .int 0])), (lo, .inr (5, [.int 0, .ref (em 0), .int 0])), (od, .inl (cOd, 1, .inr (.inr (.inr (.inl (fun _ => 0))))))]) (w1 := [(ou, .inl (cOut, 1, .inr (.inl (fun _ => 0))))]) hP hD [0, 24] [1, 2, 3, 4, 5, 6, 7, 8, 9, 10, 11, 12, 13, 14, 15, 16, 17, 18, 19, 20, 21, 22, 23, 25] rfl rfl (by decide) (by decide) hk1 hFc hP1 hD1
  have hK := (hK.sub (tys' := [(cC, (.object "Bothfaces$Card")), (cH, .int), (cO, (.array .int)), (cI, .int), (cT, .int), (cR, .int), (cB0, .int), (cB1, .int), (cB2, .int), (cM, .int), (cO8, (.array .int)), (cI8, .int), (cOd, .double)]) [0, 1, 2, 3, 4, 5, 6, 7, 8, 9, 10, 11, 13] rfl).app hK1
  generalize H1 = H at hP hS ⊢
  have hP : va_P (dC, dI) vwCl [(ca, .inl (cC, 16, .inr (.inr (.inr (.inr fC))))), (c0, .inr (7, [.ref th, u1, u2, .int 0, .int 0, .int 0, .int 0])), (th, .inl (cH, 4, .inl (fun _ => 0))), (dr, .inl (cO, 26, .inr (.inr (.inr (.inr fD))))), (rr, .inl (cI, 5, .inl (fun _ => 0))), (ty0, .inl (cT, 8, .inl (fun _ => 0))), (sf, .inr (10, [.int 0, sf1, .int 0, .int 0, .int 0, .int 1, .int 0])), (sb, .inr (10, [.int 1, sb1, .int 0, .int 0, .int 0, .int 1, .int 0])), (ra0, .inl (cR, 6, .inl (fun _ => 0))), (bk, .inr (6, [.ref a0, .ref a1, .ref a2, .ref mo, .int 0])), (a0, .inl (cB0, 8, .inl (fun _ => 0))), (a1, .inl (cB1, 8, .inl (fun _ => 0))), (a2, .inl (cB2, 8, .inl (fun _ => 0))), (mo, .inl (cM, 256, .inl (fun _ => 0))), (m0, .inr (14, [.ref lc, .ref lp, .ref dl, .ref ff, .ref fb, .ref lw, .ref lo, .ref (em 1), .int 0])), (lc, .inr (5, [.int 0, .ref (em 0), .int 0])), (lp, .inr (5, [.int 0, .ref (em 0), .int 0])), (dl, .inl (cO8, 26, .inr (.inr (.inr (.inr fL))))), (rr8, .inl (cI8, 5, .inl (fun _ => 0))), (ff, .inr (13, [tf, .int 0, .int 0, .int 1, .int 0])), (fb, .inr (13, [tb, .int 0, .int 0, .int 1, .int 0])), (lw, .inr (5, [.int 0, .ref (em 0), .int 0])), (lo, .inr (5, [.int 0, .ref (em 0), .int 0])), (od, .inl (cOd, 1, .inr (.inr (.inr (.inl (fun _ => 0)))))), (ou, .inl (cOut, 1, .inr (.inl (fun _ => 0))))] H := hP
  have hD : va_D (fun q : Nat => s.heap.size ≤ q) [(ca, .inl (cC, 16, .inr (.inr (.inr (.inr fC))))), (c0, .inr (7, [.ref th, u1, u2, .int 0, .int 0, .int 0, .int 0])), (th, .inl (cH, 4, .inl (fun _ => 0))), (dr, .inl (cO, 26, .inr (.inr (.inr (.inr fD))))), (rr, .inl (cI, 5, .inl (fun _ => 0))), (ty0, .inl (cT, 8, .inl (fun _ => 0))), (sf, .inr (10, [.int 0, sf1, .int 0, .int 0, .int 0, .int 1, .int 0])), (sb, .inr (10, [.int 1, sb1, .int 0, .int 0, .int 0, .int 1, .int 0])), (ra0, .inl (cR, 6, .inl (fun _ => 0))), (bk, .inr (6, [.ref a0, .ref a1, .ref a2, .ref mo, .int 0])), (a0, .inl (cB0, 8, .inl (fun _ => 0))), (a1, .inl (cB1, 8, .inl (fun _ => 0))), (a2, .inl (cB2, 8, .inl (fun _ => 0))), (mo, .inl (cM, 256, .inl (fun _ => 0))), (m0, .inr (14, [.ref lc, .ref lp, .ref dl, .ref ff, .ref fb, .ref lw, .ref lo, .ref (em 1), .int 0])), (lc, .inr (5, [.int 0, .ref (em 0), .int 0])), (lp, .inr (5, [.int 0, .ref (em 0), .int 0])), (dl, .inl (cO8, 26, .inr (.inr (.inr (.inr fL))))), (rr8, .inl (cI8, 5, .inl (fun _ => 0))), (ff, .inr (13, [tf, .int 0, .int 0, .int 1, .int 0])), (fb, .inr (13, [tb, .int 0, .int 0, .int 1, .int 0])), (lw, .inr (5, [.int 0, .ref (em 0), .int 0])), (lo, .inr (5, [.int 0, .ref (em 0), .int 0])), (od, .inl (cOd, 1, .inr (.inr (.inr (.inl (fun _ => 0)))))), (ou, .inl (cOut, 1, .inr (.inl (fun _ => 0))))] := hD
  have hK : va_K (dC, dI) vwCl [(cC, (.object "Bothfaces$Card")), (cH, .int), (cO, (.array .int)), (cI, .int), (cT, .int), (cR, .int), (cB0, .int), (cB1, .int), (cB2, .int), (cM, .int), (cO8, (.array .int)), (cI8, .int), (cOd, .double), (cOut, .long)] s := hK
  refine W.widen (k := 147) (n := 2193) (Nat.le_of_ble_eq_true rfl) (Nat.le_of_ble_eq_true rfl) ?_
  have hw : r_3 = 1 := hw
  rw [hw]
  refine lv_istore (lv' := [(6, .int 1), (5, .int 0), (4, .ref od), (3, .ref ou), (2, .ref m0), (1, .ref x0), (0, .ref b)]) hx hb dL_law_962 hl (by decide) rfl (fun ls hl => ?_)
  refine lv_aload_n hx hb dL_law_964 rfl (lv_at hl 4 rfl) ?_
  refine lv_aload_n hx hb dL_law_965 rfl (lv_at hl 6 rfl) ?_
  refine lv_iload hx hb dL_law_966 (lv_at hl 1 rfl) ?_
  refine lv_iconst (v := 1) hx hb dL_law_968 (by decide) ?_
  refine lv_iadd hx hb dL_law_969 ?_
  refine lv_topi (fun k_4 ek_4 => ?_)
  obtain rfl : k_4 = 1 := ek_4.trans (by decide)
  refine va_sld hx hb hX hbl hbA hS (vp_in_iff.mpr ⟨by decide, by decide⟩) dL_law_970 ?_
  refine lv_topi (fun y_5 ey_5 => ?_)
  have ey_5 : y_5 = xs 1 := ey_5
  obtain rfl : y_2 = y_5 := ey_2.trans ey_5.symm
  have hPc := hP.sub (ws' := [(m0, .inr (14, [.ref lc, .ref lp, .ref dl, .ref ff, .ref fb, .ref lw, .ref lo, .ref (em 1), .int 0])), (lc, .inr (5, [.int 0, .ref (em 0), .int 0]))]) [14, 15] rfl
  have hDc := hD.sub (ws' := [(m0, .inr (14, [.ref lc, .ref lp, .ref dl, .ref ff, .ref fb, .ref lw, .ref lo, .ref (em 1), .int 0])), (lc, .inr (5, [.int 0, .ref (em 0), .int 0]))]) [14, 15] (by decide) rfl
  have hKc := hK.sub (tys' := []) [] rfl
  have hFc := va_free (wc := [(m0, .inr (14, [.ref lc, .ref lp, .ref dl, .ref ff, .ref fb, .ref lw, .ref lo, .ref (em 1), .int 0])), (lc, .inr (5, [.int 0, .ref (em 0), .int 0]))]) hD hS hA [14, 15] rfl
  refine va_calli (va_runV (As := [.int y_2]) (rest := []) ⟨hx, hb, hml, hown, hts⟩ (c_X8_longestFloat l em dC dI m0 y_2 (.ref lp) (.ref dl) (.ref ff) (.ref fb) (.ref lw) (.ref lo) (.ref (em 1)) (.int 0) lc (.ref (em 0)) H.size) (cwV 1 hts gT_X8_longestFloat rfl rfl rfl (by decide +kernel) ⟨Nat.le_of_ble_eq_true rfl, Nat.le_of_ble_eq_true rfl⟩) ⟨Pw.blind _ _ _ _ _ _ _, va_recv hKc hPc (ci := 14) (q0 := 0) rfl rfl, fun U hU hW => ⟨rfl, Pw.go hPc hKc hDc hamb hS hFc hU hW⟩⟩ rfl rfl hl.1 rfl (lv_room (Nat.le_of_ble_eq_true rfl)) dL_law_971 ⟨Nat.le_of_ble_eq_true rfl, Nat.le_of_ble_eq_true rfl⟩) hS (fun q _ h => hFc q h) hFc (fun r_6 u t H1 locs1 ht hvm hw hB hz1 hk1 hS => ?_)
  obtain ⟨hP1, hK1, hD1⟩ := hB
  rw [ht] at hP1
  have hK1 := va_K.moved hvm.symm hK1
  obtain ⟨hP, hD⟩ := va_join (wr := [(ca, .inl (cC, 16, .inr (.inr (.inr (.inr fC))))), (c0, .inr (7, [.ref th, u1, u2, .int 0, .int 0, .int 0, .int 0])), (th, .inl (cH, 4, .inl (fun _ => 0))), (dr, .inl (cO, 26, .inr (.inr (.inr (.inr fD))))), (rr, .inl (cI, 5, .inl (fun _ => 0))), (ty0, .inl (cT, 8, .inl (fun _ => 0))), (sf, .inr (10, [.int 0, sf1, .int 0, .int 0, .int 0, .int 1, .int 0])), (sb, .inr (10, [.int 1, sb1, .int 0, .int 0, .int 0, .int 1, .int 0])), (ra0, .inl (cR, 6, .inl (fun _ => 0))), (bk, .inr (6, [.ref a0, .ref a1, .ref a2, .ref mo, .int 0])), (a0, .inl (cB0, 8, .inl (fun _ => 0))), (a1, .inl (cB1, 8, .inl (fun _ => 0))), (a2, .inl (cB2, 8, .inl (fun _ => 0))), (mo, .inl (cM, 256, .inl (fun _ => 0))), (lp, .inr (5, [.int 0, .ref (em 0), .int 0])), (dl, .inl (cO8, 26, .inr (.inr (.inr (.inr fL))))), (rr8, .inl (cI8, 5, .inl (fun _ => 0))), (ff, .inr (13, [tf, .int 0, .int 0, .int 1, .int 0])), (fb, .inr (13, [tb, .int 0, .int 0, .int 1, .int 0])), (lw, .inr (5, [.int 0, .ref (em 0), .int 0])), (lo, .inr (5, [.int 0, .ref (em 0), .int 0])), (od, .inl (cOd, 1, .inr (.inr (.inr (.inl (fun _ => 0)))))), (ou, .inl (cOut, 1, .inr (.inl (fun _ => 0))))]) (w1 := [(m0, .inr (14, [.ref lc, .ref lp, .ref dl, .ref ff, .ref fb, .ref lw, .ref lo, .ref (em 1), .int 1]))]) hP hD [14, 15] [0, 1, 2, 3, 4, 5, 6, 7, 8, 9, 10, 11, 12, 13, 16, 17, 18, 19, 20, 21, 22, 23, 24] rfl rfl (by decide) (by decide) hk1 hFc hP1 hD1
  have hK := (hK.sub (tys' := [(cC, (.object "Bothfaces$Card")), (cH, .int), (cO, (.array .int)), (cI, .int), (cT, .int), (cR, .int), (cB0, .int), (cB1, .int), (cB2, .int), (cM, .int), (cO8, (.array .int)), (cI8, .int), (cOd, .double), (cOut, .long)]) [0, 1, 2, 3, 4, 5, 6, 7, 8, 9, 10, 11, 12, 13] rfl).app hK1
  generalize H1 = H at hP hS ⊢
  have hP : va_P (dC, dI) vwCl [(ca, .inl (cC, 16, .inr (.inr (.inr (.inr fC))))), (c0, .inr (7, [.ref th, u1, u2, .int 0, .int 0, .int 0, .int 0])), (th, .inl (cH, 4, .inl (fun _ => 0))), (dr, .inl (cO, 26, .inr (.inr (.inr (.inr fD))))), (rr, .inl (cI, 5, .inl (fun _ => 0))), (ty0, .inl (cT, 8, .inl (fun _ => 0))), (sf, .inr (10, [.int 0, sf1, .int 0, .int 0, .int 0, .int 1, .int 0])), (sb, .inr (10, [.int 1, sb1, .int 0, .int 0, .int 0, .int 1, .int 0])), (ra0, .inl (cR, 6, .inl (fun _ => 0))), (bk, .inr (6, [.ref a0, .ref a1, .ref a2, .ref mo, .int 0])), (a0, .inl (cB0, 8, .inl (fun _ => 0))), (a1, .inl (cB1, 8, .inl (fun _ => 0))), (a2, .inl (cB2, 8, .inl (fun _ => 0))), (mo, .inl (cM, 256, .inl (fun _ => 0))), (lp, .inr (5, [.int 0, .ref (em 0), .int 0])), (dl, .inl (cO8, 26, .inr (.inr (.inr (.inr fL))))), (rr8, .inl (cI8, 5, .inl (fun _ => 0))), (ff, .inr (13, [tf, .int 0, .int 0, .int 1, .int 0])), (fb, .inr (13, [tb, .int 0, .int 0, .int 1, .int 0])), (lw, .inr (5, [.int 0, .ref (em 0), .int 0])), (lo, .inr (5, [.int 0, .ref (em 0), .int 0])), (od, .inl (cOd, 1, .inr (.inr (.inr (.inl (fun _ => 0)))))), (ou, .inl (cOut, 1, .inr (.inl (fun _ => 0)))), (m0, .inr (14, [.ref lc, .ref lp, .ref dl, .ref ff, .ref fb, .ref lw, .ref lo, .ref (em 1), .int 1]))] H := hP
  have hD : va_D (fun q : Nat => s.heap.size ≤ q) [(ca, .inl (cC, 16, .inr (.inr (.inr (.inr fC))))), (c0, .inr (7, [.ref th, u1, u2, .int 0, .int 0, .int 0, .int 0])), (th, .inl (cH, 4, .inl (fun _ => 0))), (dr, .inl (cO, 26, .inr (.inr (.inr (.inr fD))))), (rr, .inl (cI, 5, .inl (fun _ => 0))), (ty0, .inl (cT, 8, .inl (fun _ => 0))), (sf, .inr (10, [.int 0, sf1, .int 0, .int 0, .int 0, .int 1, .int 0])), (sb, .inr (10, [.int 1, sb1, .int 0, .int 0, .int 0, .int 1, .int 0])), (ra0, .inl (cR, 6, .inl (fun _ => 0))), (bk, .inr (6, [.ref a0, .ref a1, .ref a2, .ref mo, .int 0])), (a0, .inl (cB0, 8, .inl (fun _ => 0))), (a1, .inl (cB1, 8, .inl (fun _ => 0))), (a2, .inl (cB2, 8, .inl (fun _ => 0))), (mo, .inl (cM, 256, .inl (fun _ => 0))), (lp, .inr (5, [.int 0, .ref (em 0), .int 0])), (dl, .inl (cO8, 26, .inr (.inr (.inr (.inr fL))))), (rr8, .inl (cI8, 5, .inl (fun _ => 0))), (ff, .inr (13, [tf, .int 0, .int 0, .int 1, .int 0])), (fb, .inr (13, [tb, .int 0, .int 0, .int 1, .int 0])), (lw, .inr (5, [.int 0, .ref (em 0), .int 0])), (lo, .inr (5, [.int 0, .ref (em 0), .int 0])), (od, .inl (cOd, 1, .inr (.inr (.inr (.inl (fun _ => 0)))))), (ou, .inl (cOut, 1, .inr (.inl (fun _ => 0)))), (m0, .inr (14, [.ref lc, .ref lp, .ref dl, .ref ff, .ref fb, .ref lw, .ref lo, .ref (em 1), .int 1]))] := hD
  have hK : va_K (dC, dI) vwCl [(cC, (.object "Bothfaces$Card")), (cH, .int), (cO, (.array .int)), (cI, .int), (cT, .int), (cR, .int), (cB0, .int), (cB1, .int), (cB2, .int), (cM, .int), (cO8, (.array .int)), (cI8, .int), (cOd, .double), (cOut, .long)] s := hK
  refine W.widen (k := 147) (n := 2193) (Nat.le_of_ble_eq_true rfl) (Nat.le_of_ble_eq_true rfl) ?_
  have hw : r_6 = 0 := hw
  rw [hw]
  refine lv_istore (lv' := [(7, .int 0), (6, .int 1), (5, .int 0), (4, .ref od), (3, .ref ou), (2, .ref m0), (1, .ref x0), (0, .ref b)]) hx hb dL_law_974 hl (by decide) rfl (fun ls hl => ?_)
  refine lv_aload_n hx hb dL_law_976 rfl (lv_at hl 5 rfl) ?_
  have hPc := hP.sub (ws' := [(m0, .inr (14, [.ref lc, .ref lp, .ref dl, .ref ff, .ref fb, .ref lw, .ref lo, .ref (em 1), .int 1]))]) [23] rfl
  have hDc := hD.sub (ws' := [(m0, .inr (14, [.ref lc, .ref lp, .ref dl, .ref ff, .ref fb, .ref lw, .ref lo, .ref (em 1), .int 1]))]) [23] (by decide) rfl
  have hKc := hK.sub (tys' := []) [] rfl
  have hFc := va_free (wc := [(m0, .inr (14, [.ref lc, .ref lp, .ref dl, .ref ff, .ref fb, .ref lw, .ref lo, .ref (em 1), .int 1]))]) hD hS hA [23] rfl
  refine va_calli (va_runV (As := []) (rest := []) ⟨hx, hb, hml, hown, hts⟩ (c_X8_thrown l em dC dI m0 1 (.ref lc) (.ref lp) (.ref dl) (.ref ff) (.ref fb) (.ref lw) (.ref lo) (.ref (em 1)) H.size) (cwV 0 hts gT_X8_thrown rfl rfl rfl (by decide +kernel) ⟨Nat.le_of_ble_eq_true rfl, Nat.le_of_ble_eq_true rfl⟩) ⟨Pw.blind _ _ _ _ _ _ _, va_recv hKc hPc (ci := 14) (q0 := 0) rfl rfl, fun U hU hW => ⟨rfl, Pw.go hPc hKc hDc hamb hS hFc hU hW⟩⟩ rfl rfl hl.1 rfl (lv_room (Nat.le_of_ble_eq_true rfl)) dL_law_977 ⟨Nat.le_of_ble_eq_true rfl, Nat.le_of_ble_eq_true rfl⟩) hS (fun q _ h => hFc q h) hFc (fun r_7 u t H1 locs1 ht hvm hw hB hz1 hk1 hS => ?_)
  obtain ⟨hP, hD⟩ := va_rest (wr := [(ca, .inl (cC, 16, .inr (.inr (.inr (.inr fC))))), (c0, .inr (7, [.ref th, u1, u2, .int 0, .int 0, .int 0, .int 0])), (th, .inl (cH, 4, .inl (fun _ => 0))), (dr, .inl (cO, 26, .inr (.inr (.inr (.inr fD))))), (rr, .inl (cI, 5, .inl (fun _ => 0))), (ty0, .inl (cT, 8, .inl (fun _ => 0))), (sf, .inr (10, [.int 0, sf1, .int 0, .int 0, .int 0, .int 1, .int 0])), (sb, .inr (10, [.int 1, sb1, .int 0, .int 0, .int 0, .int 1, .int 0])), (ra0, .inl (cR, 6, .inl (fun _ => 0))), (bk, .inr (6, [.ref a0, .ref a1, .ref a2, .ref mo, .int 0])), (a0, .inl (cB0, 8, .inl (fun _ => 0))), (a1, .inl (cB1, 8, .inl (fun _ => 0))), (a2, .inl (cB2, 8, .inl (fun _ => 0))), (mo, .inl (cM, 256, .inl (fun _ => 0))), (lp, .inr (5, [.int 0, .ref (em 0), .int 0])), (dl, .inl (cO8, 26, .inr (.inr (.inr (.inr fL))))), (rr8, .inl (cI8, 5, .inl (fun _ => 0))), (ff, .inr (13, [tf, .int 0, .int 0, .int 1, .int 0])), (fb, .inr (13, [tb, .int 0, .int 0, .int 1, .int 0])), (lw, .inr (5, [.int 0, .ref (em 0), .int 0])), (lo, .inr (5, [.int 0, .ref (em 0), .int 0])), (od, .inl (cOd, 1, .inr (.inr (.inr (.inl (fun _ => 0)))))), (ou, .inl (cOut, 1, .inr (.inl (fun _ => 0))))]) hP hD [23] [0, 1, 2, 3, 4, 5, 6, 7, 8, 9, 10, 11, 12, 13, 14, 15, 16, 17, 18, 19, 20, 21, 22] rfl rfl (by decide) (by decide) hk1 hFc
  generalize H1 = H at hP hS ⊢
  refine W.widen (k := 147) (n := 2193) (Nat.le_of_ble_eq_true rfl) (Nat.le_of_ble_eq_true rfl) ?_
  have hw : r_7 = 1 := hw
  rw [hw]
  refine lv_iload hx hb dL_law_980 (lv_at hl 1 rfl) ?_
  refine lv_icmp_eq (tgt := 987) hx hb dL_law_982 (by decide) (fun c_8 => ?_) (fun c_8 => ?_)
  · refine lv_iload hx hb dL_law_987 (lv_at hl 1 rfl) ?_
    refine lv_if_ne (tgt := 1004) hx hb dL_law_989 (by decide) (fun c_9 => ?_) (fun c_9 => ?_)
    · refine lv_goto (tgt := 2636) hx hb dL_law_1004 (by decide) ?_
      refine lv_iinc (v := 6) (lv' := [(5, .int 6), (7, .int 0), (6, .int 1), (4, .ref od), (3, .ref ou), (2, .ref m0), (1, .ref x0), (0, .ref b)]) hx hb dL_law_2636 hl (k := 2) rfl (by decide) (by decide) rfl (fun ls hl => ?_)
      refine lv_goto (tgt := 28) hx hb dL_law_2639 (by decide) ?_
      refine lv_iload hx hb dL_law_28 (lv_at hl 0 rfl) ?_
      refine lv_aload_n hx hb dL_law_30 rfl (lv_at hl 7 rfl) ?_
      refine va_slen hx hb hX hbl hbA hS dL_law_31 ?_
      refine lv_topi (fun n_10 en_10 => ?_)
      obtain rfl : n_10 = 6 := en_10.trans (by decide)
      refine lv_bipush (v := 6) hx hb dL_law_32 (by decide) ?_
      refine lv_isub hx hb dL_law_34 ?_
      refine lv_topi (fun k_11 ek_11 => ?_)
      obtain rfl : k_11 = 0 := ek_11.trans (by decide)
      refine lv_icmp_gt (tgt := 2642) hx hb dL_law_35 (by decide) (fun c_12 => ?_) (fun c_12 => ?_)
      · refine lv_iconst (v := 1) hx hb dL_law_2642 (by decide) ?_
        refine W.widen (k := 600006) (n := 7302072) (Nat.le_of_ble_eq_true rfl) (Nat.le_of_ble_eq_true rfl) ?_
        refine va_forget hS.2.2 ?_
        refine W.base ?_
        exact lw_ret (Drawn.sameBut.refl s.drawn lw_cs) hx hb hr hlocks dL_law_2643
      · exact absurd (by decide) c_12
    · exact absurd c_9 (by decide)
  · exact absurd (by decide) c_8

set_option maxHeartbeats 4000000 in
set_option maxRecDepth 100000 in
theorem law_13 {p : Program} {e : Env} {s : State} {m : MethodId} {below : List Frame} {meth : Method} {c : Code} (l : Launch) (hlt : l.stackTraces = false) {b : Nat} {xs : Nat → Int32} (C0 : lw_At p s m meth c b 6 xs) (em : Nat → Nat) (dC : Nat → ClassId) (dI : Nat → Nat → Nat) (j : Nat) (hjj : ∀ z : Int32, z = ((xs 1).toUInt32 % 65536).toInt32 → 97 ≤ z.toInt → z.toInt ≤ 122 → (z - 97).toNatClampNeg = j) (x0 : Nat) (ca : Nat) (dr : Nat) (ty0 : Nat) (sf : Nat) (sb : Nat) (ra0 : Nat) (bk : Nat) (c0 : Nat) (th : Nat) (rr : Nat) (a0 : Nat) (a1 : Nat) (a2 : Nat) (mo : Nat) (vp : Value) (vm : Value) (u1 : Value) (u2 : Value) (sf1 : Value) (sb1 : Value) (fC : Nat → Option Nat) (fD : Nat → Option Nat) (cC : ClassId) (cH : ClassId) (cO : ClassId) (cI : ClassId) (cT : ClassId) (cR : ClassId) (cB0 : ClassId) (cB1 : ClassId) (cB2 : ClassId) (cM : ClassId) (m0 : Nat) (lc : Nat) (lp : Nat) (dl : Nat) (rr8 : Nat) (ff : Nat) (fb : Nat) (lw : Nat) (lo : Nat) (tf : Value) (tb : Value) (fL : Nat → Option Nat) (cO8 : ClassId) (cI8 : ClassId) (ou : Nat) (od : Nat) (cOut : ClassId) (cOd : ClassId) (hfC : fC 0 = some c0) (hfD : fD j = some rr) (hfL : fL j = some rr8) {H : Heap} {locs : List Loc} (hamb : amb em (fun q : Nat => s.heap.size ≤ q) s s.heap) (hK : va_K (dC, dI) vwCl [(cC, (.object "Bothfaces$Card")), (cH, .int), (cO, (.array .int)), (cI, .int), (cT, .int), (cR, .int), (cB0, .int), (cB1, .int), (cB2, .int), (cM, .int), (cO8, (.array .int)), (cI8, .int), (cOut, .long), (cOd, .double)] s) (hP : va_P (dC, dI) vwCl [(x0, .inr (11, [.ref ca, .int 0, .int 0, .ref dr, .ref ty0, .int 0, .ref sf, .ref sb, vp, vm, .ref ra0, .int 0, .ref bk])), (ca, .inl (cC, 16, .inr (.inr (.inr (.inr fC))))), (c0, .inr (7, [.ref th, u1, u2, .int 0, .int 0, .int 0, .int 0])), (th, .inl (cH, 4, .inl (fun _ => 0))), (dr, .inl (cO, 26, .inr (.inr (.inr (.inr fD))))), (rr, .inl (cI, 5, .inl (fun _ => 0))), (ty0, .inl (cT, 8, .inl (fun _ => 0))), (sf, .inr (10, [.int 0, sf1, .int 0, .int 0, .int 0, .int 1, .int 0])), (sb, .inr (10, [.int 1, sb1, .int 0, .int 0, .int 0, .int 1, .int 0])), (ra0, .inl (cR, 6, .inl (fun _ => 0))), (bk, .inr (6, [.ref a0, .ref a1, .ref a2, .ref mo, .int 0])), (a0, .inl (cB0, 8, .inl (fun _ => 0))), (a1, .inl (cB1, 8, .inl (fun _ => 0))), (a2, .inl (cB2, 8, .inl (fun _ => 0))), (mo, .inl (cM, 256, .inl (fun _ => 0))), (m0, .inr (14, [.ref lc, .ref lp, .ref dl, .ref ff, .ref fb, .ref lw, .ref lo, .ref (em 1), .int 0])), (lc, .inr (5, [.int 0, .ref (em 0), .int 0])), (lp, .inr (5, [.int 0, .ref (em 0), .int 0])), (dl, .inl (cO8, 26, .inr (.inr (.inr (.inr fL))))), (rr8, .inl (cI8, 5, .inl (fun _ => 0))), (ff, .inr (13, [tf, .int 0, .int 0, .int 1, .int 0])), (fb, .inr (13, [tb, .int 0, .int 0, .int 1, .int 0])), (lw, .inr (5, [.int 0, .ref (em 0), .int 0])), (lo, .inr (5, [.int 0, .ref (em 0), .int 0])), (ou, .inl (cOut, 1, .inr (.inl (fun _ => 0)))), (od, .inl (cOd, 1, .inr (.inr (.inr (.inl (fun _ => 0))))))] H) (hD : va_D (fun q : Nat => s.heap.size ≤ q) [(x0, .inr (11, [.ref ca, .int 0, .int 0, .ref dr, .ref ty0, .int 0, .ref sf, .ref sb, vp, vm, .ref ra0, .int 0, .ref bk])), (ca, .inl (cC, 16, .inr (.inr (.inr (.inr fC))))), (c0, .inr (7, [.ref th, u1, u2, .int 0, .int 0, .int 0, .int 0])), (th, .inl (cH, 4, .inl (fun _ => 0))), (dr, .inl (cO, 26, .inr (.inr (.inr (.inr fD))))), (rr, .inl (cI, 5, .inl (fun _ => 0))), (ty0, .inl (cT, 8, .inl (fun _ => 0))), (sf, .inr (10, [.int 0, sf1, .int 0, .int 0, .int 0, .int 1, .int 0])), (sb, .inr (10, [.int 1, sb1, .int 0, .int 0, .int 0, .int 1, .int 0])), (ra0, .inl (cR, 6, .inl (fun _ => 0))), (bk, .inr (6, [.ref a0, .ref a1, .ref a2, .ref mo, .int 0])), (a0, .inl (cB0, 8, .inl (fun _ => 0))), (a1, .inl (cB1, 8, .inl (fun _ => 0))), (a2, .inl (cB2, 8, .inl (fun _ => 0))), (mo, .inl (cM, 256, .inl (fun _ => 0))), (m0, .inr (14, [.ref lc, .ref lp, .ref dl, .ref ff, .ref fb, .ref lw, .ref lo, .ref (em 1), .int 0])), (lc, .inr (5, [.int 0, .ref (em 0), .int 0])), (lp, .inr (5, [.int 0, .ref (em 0), .int 0])), (dl, .inl (cO8, 26, .inr (.inr (.inr (.inr fL))))), (rr8, .inl (cI8, 5, .inl (fun _ => 0))), (ff, .inr (13, [tf, .int 0, .int 0, .int 1, .int 0])), (fb, .inr (13, [tb, .int 0, .int 0, .int 1, .int 0])), (lw, .inr (5, [.int 0, .ref (em 0), .int 0])), (lo, .inr (5, [.int 0, .ref (em 0), .int 0])), (ou, .inl (cOut, 1, .inr (.inl (fun _ => 0)))), (od, .inl (cOd, 1, .inr (.inr (.inr (.inl (fun _ => 0))))))]) (hS : va_S (fun q : Nat => s.heap.size ≤ q) s.heap H locs) {ls : Array Slot} (hl : lv_has ls 9 [(5, .int 0), (4, .ref od), (3, .ref ou), (2, .ref m0), (1, .ref x0), (0, .ref b)]) : W p l e room_1 s m #[Value.ref b] below meth c H locs 146 2187 (lw_Z below #[Value.ref b] s) (F0 m 1007 ls []) := by
  obtain ⟨hx, hb, hr, hml, hown0, hts0, hX, hbl, hlocks, hgv⟩ := id C0
  have hts := ow_hts hts0
  have hown : s.vm.findClass RL = some m.cls := hown0
  have hA : ∀ q : Nat, s.heap.size ≤ q → (fun q : Nat => s.heap.size ≤ q) q := fun _ h => h
  have hbA : ¬ (fun q : Nat => s.heap.size ≤ q) b := Nat.not_le.mpr hbl
  refine lv_aload_n hx hb dL_law_1007 rfl (lv_at hl 4 rfl) ?_
  refine lv_aload_n hx hb dL_law_1008 rfl (lv_at hl 5 rfl) ?_
  refine lv_iload hx hb dL_law_1009 (lv_at hl 0 rfl) ?_
  refine lv_iconst (v := 1) hx hb dL_law_1011 (by decide) ?_
  refine lv_iadd hx hb dL_law_1012 ?_
  refine lv_topi (fun k_1 ek_1 => ?_)
  obtain rfl : k_1 = 1 := ek_1.trans (by decide)
  refine va_sld hx hb hX hbl hbA hS (vp_in_iff.mpr ⟨by decide, by decide⟩) dL_law_1013 ?_
  refine lv_topi (fun y_2 ey_2 => ?_)
  have ey_2 : y_2 = xs 1 := ey_2
  refine lv_i2c hx hb dL_law_1014 rfl ?_
  refine lv_topi (fun z_3 ez_3 => ?_)
  refine lv_aload_n hx hb dL_law_1015 rfl (lv_at hl 5 rfl) ?_
  refine lv_iload hx hb dL_law_1016 (lv_at hl 0 rfl) ?_
  refine lv_iconst (v := 2) hx hb dL_law_1018 (by decide) ?_
  refine lv_iadd hx hb dL_law_1019 ?_
  refine lv_topi (fun k_4 ek_4 => ?_)
  obtain rfl : k_4 = 2 := ek_4.trans (by decide)
  refine va_sld hx hb hX hbl hbA hS (vp_in_iff.mpr ⟨by decide, by decide⟩) dL_law_1020 ?_
  refine lv_topi (fun y_5 ey_5 => ?_)
  have ey_5 : y_5 = xs 2 := ey_5
  refine lv_aload_n hx hb dL_law_1021 rfl (lv_at hl 5 rfl) ?_
  refine lv_iload hx hb dL_law_1022 (lv_at hl 0 rfl) ?_
  refine lv_iconst (v := 3) hx hb dL_law_1024 (by decide) ?_
  refine lv_iadd hx hb dL_law_1025 ?_
  refine lv_topi (fun k_6 ek_6 => ?_)
  obtain rfl : k_6 = 3 := ek_6.trans (by decide)
  refine va_sld hx hb hX hbl hbA hS (vp_in_iff.mpr ⟨by decide, by decide⟩) dL_law_1026 ?_
  refine lv_topi (fun y_7 ey_7 => ?_)
  have ey_7 : y_7 = xs 3 := ey_7
  refine lv_aload_n hx hb dL_law_1027 rfl (lv_at hl 2 rfl) ?_
  rcases Classical.em (z_3.toInt < 97 ∨ 122 < z_3.toInt ∨ y_5.toInt < 0 ∨ 4 < y_5.toInt ∨ y_7.toInt < 0 ∨ 7 < y_7.toInt) with hb9 | hok
  · have hPc := hP.sub (ws' := [(x0, .inr (11, [.ref ca, .int 0, .int 0, .ref dr, .ref ty0, .int 0, .ref sf, .ref sb, vp, vm, .ref ra0, .int 0, .ref bk])), (ou, .inl (cOut, 1, .inr (.inl (fun _ => 0))))]) [0, 24] rfl
    have hDc := hD.sub (ws' := [(x0, .inr (11, [.ref ca, .int 0, .int 0, .ref dr, .ref ty0, .int 0, .ref sf, .ref sb, vp, vm, .ref ra0, .int 0, .ref bk])), (ou, .inl (cOut, 1, .inr (.inl (fun _ => 0))))]) [0, 24] (by decide) rfl
    have hKc := hK.sub (tys' := [(cOut, .long)]) [12] rfl
    have hFc := va_free (wc := [(x0, .inr (11, [.ref ca, .int 0, .int 0, .ref dr, .ref ty0, .int 0, .ref sf, .ref sb, vp, vm, .ref ra0, .int 0, .ref bk])), (ou, .inl (cOut, 1, .inr (.inl (fun _ => 0))))]) hD hS hA [0, 24] rfl
    refine va_calli (vx_runSW (As := [.ref x0, .int z_3, .int y_5, .int y_7, .ref ou]) (rest := []) ⟨hx, hb, hml, hown, hts⟩ (c_L_draw_bad l hlt em dC dI x0 z_3 y_5 y_7 (.ref ca) (.int 0) (.int 0) (.ref ty0) (.int 0) (.ref sf) (.ref sb) vp vm (.ref ra0) (.int 0) (.ref bk) dr ou cOut (fun _ => 0) hb9 H.size) (vx_cwSW 5 hts gT_L_draw rfl rfl rfl (by decide +kernel) ⟨Nat.le_of_ble_eq_true rfl, Nat.le_of_ble_eq_true rfl⟩) ⟨Pw.blind _ _ _ _ _ _ _, fun U hU hW => ⟨rfl, Pw.go hPc hKc hDc hamb hS hFc hU hW⟩⟩ rfl rfl hl.1 rfl (lv_room (Nat.le_of_ble_eq_true rfl)) dL_law_1028 ⟨Nat.le_of_ble_eq_true rfl, Nat.le_of_ble_eq_true rfl⟩) hS (fun q _ h => hFc q h) hFc (fun r_8 u t H1 locs1 ht hvm hw hB hz1 hk1 hS => ?_)
    obtain ⟨hP1, hK1, hD1⟩ := hB
    rw [ht] at hP1
    have hK1 := va_K.moved hvm.symm hK1
    obtain ⟨hP, hD⟩ := va_join (wr := [(ca, .inl (cC, 16, .inr (.inr (.inr (.inr fC))))), (c0, .inr (7, [.ref th, u1, u2, .int 0, .int 0, .int 0, .int 0])), (th, .inl (cH, 4, .inl (fun _ => 0))), (dr, .inl (cO, 26, .inr (.inr (.inr (.inr fD))))), (rr, .inl (cI, 5, .inl (fun _ => 0))), (ty0, .inl (cT, 8, .inl (fun _ => 0))), (sf, .inr (10, [.int 0, sf1, .int 0, .int 0, .int 0, .int 1, .int 0])), (sb, .inr (10, [.int 1, sb1, .int 0, .int 0, .int 0, .int 1, .int 0])), (ra0, .inl (cR, 6, .inl (fun _ => 0))), (bk, .inr (6, [.ref a0, .ref a1, .ref a2, .ref mo, .int 0])), (a0, .inl (cB0, 8, .inl (fun _ => 0))), (a1, .inl (cB1, 8, .inl (fun _ => 0))), (a2, .inl (cB2, 8, .inl (fun _ => 0))), (mo, .inl (cM, 256, .inl (fun _ => 0))), (m0, .inr (14, [.ref lc, .ref lp, .ref dl, .ref ff, .ref fb, .ref lw, .ref lo, .ref (em 1), .int 0])), (lc, .inr (5, [.int 0, .ref (em 0), .int 0])), (lp, .inr (5, [.int 0, .ref (em 0), .int 0])), (dl, .inl (cO8, 26, .inr (.inr (.inr (.inr fL))))), (rr8, .inl (cI8, 5, .inl (fun _ => 0))), (ff, .inr (13, [tf, .int 0, .int 0, .int 1, .int 0])), (fb, .inr (13, [tb, .int 0, .int 0, .int 1, .int 0])), (lw, .inr (5, [.int 0, .ref (em 0), .int 0])), (lo, .inr (5, [.int 0, .ref (em 0), .int 0])), (od, .inl (cOd, 1, .inr (.inr (.inr (.inl (fun _ => 0))))))]) (w1 := [(ou, .inl (cOut, 1, .inr (.inl (fun _ => 0))))]) hP hD [0, 24] [1, 2, 3, 4, 5, 6, 7, 8, 9, 10, 11, 12, 13, 14, 15, 16, 17, 18, 19, 20, 21, 22, 23, 25] rfl rfl (by decide) (by decide) hk1 hFc hP1 hD1
    have hK := (hK.sub (tys' := [(cC, (.object "Bothfaces$Card")), (cH, .int), (cO, (.array .int)), (cI, .int), (cT, .int), (cR, .int), (cB0, .int), (cB1, .int), (cB2, .int), (cM, .int), (cO8, (.array .int)), (cI8, .int), (cOd, .double)]) [0, 1, 2, 3, 4, 5, 6, 7, 8, 9, 10, 11, 13] rfl).app hK1
    generalize H1 = H at hP hS ⊢
    have hP : va_P (dC, dI) vwCl [(ca, .inl (cC, 16, .inr (.inr (.inr (.inr fC))))), (c0, .inr (7, [.ref th, u1, u2, .int 0, .int 0, .int 0, .int 0])), (th, .inl (cH, 4, .inl (fun _ => 0))), (dr, .inl (cO, 26, .inr (.inr (.inr (.inr fD))))), (rr, .inl (cI, 5, .inl (fun _ => 0))), (ty0, .inl (cT, 8, .inl (fun _ => 0))), (sf, .inr (10, [.int 0, sf1, .int 0, .int 0, .int 0, .int 1, .int 0])), (sb, .inr (10, [.int 1, sb1, .int 0, .int 0, .int 0, .int 1, .int 0])), (ra0, .inl (cR, 6, .inl (fun _ => 0))), (bk, .inr (6, [.ref a0, .ref a1, .ref a2, .ref mo, .int 0])), (a0, .inl (cB0, 8, .inl (fun _ => 0))), (a1, .inl (cB1, 8, .inl (fun _ => 0))), (a2, .inl (cB2, 8, .inl (fun _ => 0))), (mo, .inl (cM, 256, .inl (fun _ => 0))), (m0, .inr (14, [.ref lc, .ref lp, .ref dl, .ref ff, .ref fb, .ref lw, .ref lo, .ref (em 1), .int 0])), (lc, .inr (5, [.int 0, .ref (em 0), .int 0])), (lp, .inr (5, [.int 0, .ref (em 0), .int 0])), (dl, .inl (cO8, 26, .inr (.inr (.inr (.inr fL))))), (rr8, .inl (cI8, 5, .inl (fun _ => 0))), (ff, .inr (13, [tf, .int 0, .int 0, .int 1, .int 0])), (fb, .inr (13, [tb, .int 0, .int 0, .int 1, .int 0])), (lw, .inr (5, [.int 0, .ref (em 0), .int 0])), (lo, .inr (5, [.int 0, .ref (em 0), .int 0])), (od, .inl (cOd, 1, .inr (.inr (.inr (.inl (fun _ => 0)))))), (ou, .inl (cOut, 1, .inr (.inl (fun _ => 0))))] H := hP
    have hD : va_D (fun q : Nat => s.heap.size ≤ q) [(ca, .inl (cC, 16, .inr (.inr (.inr (.inr fC))))), (c0, .inr (7, [.ref th, u1, u2, .int 0, .int 0, .int 0, .int 0])), (th, .inl (cH, 4, .inl (fun _ => 0))), (dr, .inl (cO, 26, .inr (.inr (.inr (.inr fD))))), (rr, .inl (cI, 5, .inl (fun _ => 0))), (ty0, .inl (cT, 8, .inl (fun _ => 0))), (sf, .inr (10, [.int 0, sf1, .int 0, .int 0, .int 0, .int 1, .int 0])), (sb, .inr (10, [.int 1, sb1, .int 0, .int 0, .int 0, .int 1, .int 0])), (ra0, .inl (cR, 6, .inl (fun _ => 0))), (bk, .inr (6, [.ref a0, .ref a1, .ref a2, .ref mo, .int 0])), (a0, .inl (cB0, 8, .inl (fun _ => 0))), (a1, .inl (cB1, 8, .inl (fun _ => 0))), (a2, .inl (cB2, 8, .inl (fun _ => 0))), (mo, .inl (cM, 256, .inl (fun _ => 0))), (m0, .inr (14, [.ref lc, .ref lp, .ref dl, .ref ff, .ref fb, .ref lw, .ref lo, .ref (em 1), .int 0])), (lc, .inr (5, [.int 0, .ref (em 0), .int 0])), (lp, .inr (5, [.int 0, .ref (em 0), .int 0])), (dl, .inl (cO8, 26, .inr (.inr (.inr (.inr fL))))), (rr8, .inl (cI8, 5, .inl (fun _ => 0))), (ff, .inr (13, [tf, .int 0, .int 0, .int 1, .int 0])), (fb, .inr (13, [tb, .int 0, .int 0, .int 1, .int 0])), (lw, .inr (5, [.int 0, .ref (em 0), .int 0])), (lo, .inr (5, [.int 0, .ref (em 0), .int 0])), (od, .inl (cOd, 1, .inr (.inr (.inr (.inl (fun _ => 0)))))), (ou, .inl (cOut, 1, .inr (.inl (fun _ => 0))))] := hD
    have hK : va_K (dC, dI) vwCl [(cC, (.object "Bothfaces$Card")), (cH, .int), (cO, (.array .int)), (cI, .int), (cT, .int), (cR, .int), (cB0, .int), (cB1, .int), (cB2, .int), (cM, .int), (cO8, (.array .int)), (cI8, .int), (cOd, .double), (cOut, .long)] s := hK
    refine W.widen (k := 148) (n := 2199) (Nat.le_of_ble_eq_true rfl) (Nat.le_of_ble_eq_true rfl) ?_
    have hw : r_8 = 1 := hw
    rw [hw]
    refine lv_istore (lv' := [(6, .int 1), (5, .int 0), (4, .ref od), (3, .ref ou), (2, .ref m0), (1, .ref x0), (0, .ref b)]) hx hb dL_law_1031 hl (by decide) rfl (fun ls hl => ?_)
    refine lv_aload_n hx hb dL_law_1033 rfl (lv_at hl 4 rfl) ?_
    refine lv_aload_n hx hb dL_law_1034 rfl (lv_at hl 6 rfl) ?_
    refine lv_iload hx hb dL_law_1035 (lv_at hl 1 rfl) ?_
    refine lv_iconst (v := 1) hx hb dL_law_1037 (by decide) ?_
    refine lv_iadd hx hb dL_law_1038 ?_
    refine lv_topi (fun k_9 ek_9 => ?_)
    obtain rfl : k_9 = 1 := ek_9.trans (by decide)
    refine va_sld hx hb hX hbl hbA hS (vp_in_iff.mpr ⟨by decide, by decide⟩) dL_law_1039 ?_
    refine lv_topi (fun y_10 ey_10 => ?_)
    have ey_10 : y_10 = xs 1 := ey_10
    obtain rfl : y_2 = y_10 := ey_2.trans ey_10.symm
    refine lv_i2c hx hb dL_law_1040 rfl ?_
    refine lv_topi (fun z_11 ez_11 => ?_)
    obtain rfl : z_3 = z_11 := ez_3.trans ez_11.symm
    refine lv_aload_n hx hb dL_law_1041 rfl (lv_at hl 6 rfl) ?_
    refine lv_iload hx hb dL_law_1042 (lv_at hl 1 rfl) ?_
    refine lv_iconst (v := 2) hx hb dL_law_1044 (by decide) ?_
    refine lv_iadd hx hb dL_law_1045 ?_
    refine lv_topi (fun k_12 ek_12 => ?_)
    obtain rfl : k_12 = 2 := ek_12.trans (by decide)
    refine va_sld hx hb hX hbl hbA hS (vp_in_iff.mpr ⟨by decide, by decide⟩) dL_law_1046 ?_
    refine lv_topi (fun y_13 ey_13 => ?_)
    have ey_13 : y_13 = xs 2 := ey_13
    obtain rfl : y_5 = y_13 := ey_5.trans ey_13.symm
    refine lv_aload_n hx hb dL_law_1047 rfl (lv_at hl 6 rfl) ?_
    refine lv_iload hx hb dL_law_1048 (lv_at hl 1 rfl) ?_
    refine lv_iconst (v := 3) hx hb dL_law_1050 (by decide) ?_
    refine lv_iadd hx hb dL_law_1051 ?_
    refine lv_topi (fun k_14 ek_14 => ?_)
    obtain rfl : k_14 = 3 := ek_14.trans (by decide)
    refine va_sld hx hb hX hbl hbA hS (vp_in_iff.mpr ⟨by decide, by decide⟩) dL_law_1052 ?_
    refine lv_topi (fun y_15 ey_15 => ?_)
    have ey_15 : y_15 = xs 3 := ey_15
    obtain rfl : y_7 = y_15 := ey_7.trans ey_15.symm
    have hPc := hP.sub (ws' := [(m0, .inr (14, [.ref lc, .ref lp, .ref dl, .ref ff, .ref fb, .ref lw, .ref lo, .ref (em 1), .int 0]))]) [14] rfl
    have hDc := hD.sub (ws' := [(m0, .inr (14, [.ref lc, .ref lp, .ref dl, .ref ff, .ref fb, .ref lw, .ref lo, .ref (em 1), .int 0]))]) [14] (by decide) rfl
    have hKc := hK.sub (tys' := []) [] rfl
    have hFc := va_free (wc := [(m0, .inr (14, [.ref lc, .ref lp, .ref dl, .ref ff, .ref fb, .ref lw, .ref lo, .ref (em 1), .int 0]))]) hD hS hA [14] rfl
    refine va_calli (va_runV (As := [.int z_3, .int y_5, .int y_7]) (rest := []) ⟨hx, hb, hml, hown, hts⟩ (c_X8_draw_bad l em dC dI m0 z_3 y_5 y_7 (.ref lc) (.ref lp) (.ref ff) (.ref fb) (.ref lw) (.ref lo) (.ref (em 1)) (.int 0) dl hb9 H.size) (cwV 3 hts gT_X8_draw rfl rfl rfl (by decide +kernel) ⟨Nat.le_of_ble_eq_true rfl, Nat.le_of_ble_eq_true rfl⟩) ⟨Pw.blind _ _ _ _ _ _ _, va_recv hKc hPc (ci := 14) (q0 := 0) rfl rfl, fun U hU hW => ⟨rfl, Pw.go hPc hKc hDc hamb hS hFc hU hW⟩⟩ rfl rfl hl.1 rfl (lv_room (Nat.le_of_ble_eq_true rfl)) dL_law_1053 ⟨Nat.le_of_ble_eq_true rfl, Nat.le_of_ble_eq_true rfl⟩) hS (fun q _ h => hFc q h) hFc (fun r_16 u t H1 locs1 ht hvm hw hB hz1 hk1 hS => ?_)
    obtain ⟨hP1, hK1, hD1⟩ := hB
    rw [ht] at hP1
    have hK1 := va_K.moved hvm.symm hK1
    obtain ⟨hP, hD⟩ := va_join (wr := [(ca, .inl (cC, 16, .inr (.inr (.inr (.inr fC))))), (c0, .inr (7, [.ref th, u1, u2, .int 0, .int 0, .int 0, .int 0])), (th, .inl (cH, 4, .inl (fun _ => 0))), (dr, .inl (cO, 26, .inr (.inr (.inr (.inr fD))))), (rr, .inl (cI, 5, .inl (fun _ => 0))), (ty0, .inl (cT, 8, .inl (fun _ => 0))), (sf, .inr (10, [.int 0, sf1, .int 0, .int 0, .int 0, .int 1, .int 0])), (sb, .inr (10, [.int 1, sb1, .int 0, .int 0, .int 0, .int 1, .int 0])), (ra0, .inl (cR, 6, .inl (fun _ => 0))), (bk, .inr (6, [.ref a0, .ref a1, .ref a2, .ref mo, .int 0])), (a0, .inl (cB0, 8, .inl (fun _ => 0))), (a1, .inl (cB1, 8, .inl (fun _ => 0))), (a2, .inl (cB2, 8, .inl (fun _ => 0))), (mo, .inl (cM, 256, .inl (fun _ => 0))), (lc, .inr (5, [.int 0, .ref (em 0), .int 0])), (lp, .inr (5, [.int 0, .ref (em 0), .int 0])), (dl, .inl (cO8, 26, .inr (.inr (.inr (.inr fL))))), (rr8, .inl (cI8, 5, .inl (fun _ => 0))), (ff, .inr (13, [tf, .int 0, .int 0, .int 1, .int 0])), (fb, .inr (13, [tb, .int 0, .int 0, .int 1, .int 0])), (lw, .inr (5, [.int 0, .ref (em 0), .int 0])), (lo, .inr (5, [.int 0, .ref (em 0), .int 0])), (od, .inl (cOd, 1, .inr (.inr (.inr (.inl (fun _ => 0)))))), (ou, .inl (cOut, 1, .inr (.inl (fun _ => 0))))]) (w1 := [(m0, .inr (14, [.ref lc, .ref lp, .ref dl, .ref ff, .ref fb, .ref lw, .ref lo, .ref (em 1), .int 1]))]) hP hD [14] [0, 1, 2, 3, 4, 5, 6, 7, 8, 9, 10, 11, 12, 13, 15, 16, 17, 18, 19, 20, 21, 22, 23, 24] rfl rfl (by decide) (by decide) hk1 hFc hP1 hD1
    have hK := (hK.sub (tys' := [(cC, (.object "Bothfaces$Card")), (cH, .int), (cO, (.array .int)), (cI, .int), (cT, .int), (cR, .int), (cB0, .int), (cB1, .int), (cB2, .int), (cM, .int), (cO8, (.array .int)), (cI8, .int), (cOd, .double), (cOut, .long)]) [0, 1, 2, 3, 4, 5, 6, 7, 8, 9, 10, 11, 12, 13] rfl).app hK1
    generalize H1 = H at hP hS ⊢
    have hP : va_P (dC, dI) vwCl [(ca, .inl (cC, 16, .inr (.inr (.inr (.inr fC))))), (c0, .inr (7, [.ref th, u1, u2, .int 0, .int 0, .int 0, .int 0])), (th, .inl (cH, 4, .inl (fun _ => 0))), (dr, .inl (cO, 26, .inr (.inr (.inr (.inr fD))))), (rr, .inl (cI, 5, .inl (fun _ => 0))), (ty0, .inl (cT, 8, .inl (fun _ => 0))), (sf, .inr (10, [.int 0, sf1, .int 0, .int 0, .int 0, .int 1, .int 0])), (sb, .inr (10, [.int 1, sb1, .int 0, .int 0, .int 0, .int 1, .int 0])), (ra0, .inl (cR, 6, .inl (fun _ => 0))), (bk, .inr (6, [.ref a0, .ref a1, .ref a2, .ref mo, .int 0])), (a0, .inl (cB0, 8, .inl (fun _ => 0))), (a1, .inl (cB1, 8, .inl (fun _ => 0))), (a2, .inl (cB2, 8, .inl (fun _ => 0))), (mo, .inl (cM, 256, .inl (fun _ => 0))), (lc, .inr (5, [.int 0, .ref (em 0), .int 0])), (lp, .inr (5, [.int 0, .ref (em 0), .int 0])), (dl, .inl (cO8, 26, .inr (.inr (.inr (.inr fL))))), (rr8, .inl (cI8, 5, .inl (fun _ => 0))), (ff, .inr (13, [tf, .int 0, .int 0, .int 1, .int 0])), (fb, .inr (13, [tb, .int 0, .int 0, .int 1, .int 0])), (lw, .inr (5, [.int 0, .ref (em 0), .int 0])), (lo, .inr (5, [.int 0, .ref (em 0), .int 0])), (od, .inl (cOd, 1, .inr (.inr (.inr (.inl (fun _ => 0)))))), (ou, .inl (cOut, 1, .inr (.inl (fun _ => 0)))), (m0, .inr (14, [.ref lc, .ref lp, .ref dl, .ref ff, .ref fb, .ref lw, .ref lo, .ref (em 1), .int 1]))] H := hP
    have hD : va_D (fun q : Nat => s.heap.size ≤ q) [(ca, .inl (cC, 16, .inr (.inr (.inr (.inr fC))))), (c0, .inr (7, [.ref th, u1, u2, .int 0, .int 0, .int 0, .int 0])), (th, .inl (cH, 4, .inl (fun _ => 0))), (dr, .inl (cO, 26, .inr (.inr (.inr (.inr fD))))), (rr, .inl (cI, 5, .inl (fun _ => 0))), (ty0, .inl (cT, 8, .inl (fun _ => 0))), (sf, .inr (10, [.int 0, sf1, .int 0, .int 0, .int 0, .int 1, .int 0])), (sb, .inr (10, [.int 1, sb1, .int 0, .int 0, .int 0, .int 1, .int 0])), (ra0, .inl (cR, 6, .inl (fun _ => 0))), (bk, .inr (6, [.ref a0, .ref a1, .ref a2, .ref mo, .int 0])), (a0, .inl (cB0, 8, .inl (fun _ => 0))), (a1, .inl (cB1, 8, .inl (fun _ => 0))), (a2, .inl (cB2, 8, .inl (fun _ => 0))), (mo, .inl (cM, 256, .inl (fun _ => 0))), (lc, .inr (5, [.int 0, .ref (em 0), .int 0])), (lp, .inr (5, [.int 0, .ref (em 0), .int 0])), (dl, .inl (cO8, 26, .inr (.inr (.inr (.inr fL))))), (rr8, .inl (cI8, 5, .inl (fun _ => 0))), (ff, .inr (13, [tf, .int 0, .int 0, .int 1, .int 0])), (fb, .inr (13, [tb, .int 0, .int 0, .int 1, .int 0])), (lw, .inr (5, [.int 0, .ref (em 0), .int 0])), (lo, .inr (5, [.int 0, .ref (em 0), .int 0])), (od, .inl (cOd, 1, .inr (.inr (.inr (.inl (fun _ => 0)))))), (ou, .inl (cOut, 1, .inr (.inl (fun _ => 0)))), (m0, .inr (14, [.ref lc, .ref lp, .ref dl, .ref ff, .ref fb, .ref lw, .ref lo, .ref (em 1), .int 1]))] := hD
    have hK : va_K (dC, dI) vwCl [(cC, (.object "Bothfaces$Card")), (cH, .int), (cO, (.array .int)), (cI, .int), (cT, .int), (cR, .int), (cB0, .int), (cB1, .int), (cB2, .int), (cM, .int), (cO8, (.array .int)), (cI8, .int), (cOd, .double), (cOut, .long)] s := hK
    refine W.widen (k := 148) (n := 2199) (Nat.le_of_ble_eq_true rfl) (Nat.le_of_ble_eq_true rfl) ?_
    have hw : r_16 = 0 := hw
    rw [hw]
    refine lv_istore (lv' := [(7, .int 0), (6, .int 1), (5, .int 0), (4, .ref od), (3, .ref ou), (2, .ref m0), (1, .ref x0), (0, .ref b)]) hx hb dL_law_1056 hl (by decide) rfl (fun ls hl => ?_)
    refine lv_aload_n hx hb dL_law_1058 rfl (lv_at hl 5 rfl) ?_
    have hPc := hP.sub (ws' := [(m0, .inr (14, [.ref lc, .ref lp, .ref dl, .ref ff, .ref fb, .ref lw, .ref lo, .ref (em 1), .int 1]))]) [24] rfl
    have hDc := hD.sub (ws' := [(m0, .inr (14, [.ref lc, .ref lp, .ref dl, .ref ff, .ref fb, .ref lw, .ref lo, .ref (em 1), .int 1]))]) [24] (by decide) rfl
    have hKc := hK.sub (tys' := []) [] rfl
    have hFc := va_free (wc := [(m0, .inr (14, [.ref lc, .ref lp, .ref dl, .ref ff, .ref fb, .ref lw, .ref lo, .ref (em 1), .int 1]))]) hD hS hA [24] rfl
    refine va_calli (va_runV (As := []) (rest := []) ⟨hx, hb, hml, hown, hts⟩ (c_X8_thrown l em dC dI m0 1 (.ref lc) (.ref lp) (.ref dl) (.ref ff) (.ref fb) (.ref lw) (.ref lo) (.ref (em 1)) H.size) (cwV 0 hts gT_X8_thrown rfl rfl rfl (by decide +kernel) ⟨Nat.le_of_ble_eq_true rfl, Nat.le_of_ble_eq_true rfl⟩) ⟨Pw.blind _ _ _ _ _ _ _, va_recv hKc hPc (ci := 14) (q0 := 0) rfl rfl, fun U hU hW => ⟨rfl, Pw.go hPc hKc hDc hamb hS hFc hU hW⟩⟩ rfl rfl hl.1 rfl (lv_room (Nat.le_of_ble_eq_true rfl)) dL_law_1059 ⟨Nat.le_of_ble_eq_true rfl, Nat.le_of_ble_eq_true rfl⟩) hS (fun q _ h => hFc q h) hFc (fun r_17 u t H1 locs1 ht hvm hw hB hz1 hk1 hS => ?_)
    obtain ⟨hP, hD⟩ := va_rest (wr := [(ca, .inl (cC, 16, .inr (.inr (.inr (.inr fC))))), (c0, .inr (7, [.ref th, u1, u2, .int 0, .int 0, .int 0, .int 0])), (th, .inl (cH, 4, .inl (fun _ => 0))), (dr, .inl (cO, 26, .inr (.inr (.inr (.inr fD))))), (rr, .inl (cI, 5, .inl (fun _ => 0))), (ty0, .inl (cT, 8, .inl (fun _ => 0))), (sf, .inr (10, [.int 0, sf1, .int 0, .int 0, .int 0, .int 1, .int 0])), (sb, .inr (10, [.int 1, sb1, .int 0, .int 0, .int 0, .int 1, .int 0])), (ra0, .inl (cR, 6, .inl (fun _ => 0))), (bk, .inr (6, [.ref a0, .ref a1, .ref a2, .ref mo, .int 0])), (a0, .inl (cB0, 8, .inl (fun _ => 0))), (a1, .inl (cB1, 8, .inl (fun _ => 0))), (a2, .inl (cB2, 8, .inl (fun _ => 0))), (mo, .inl (cM, 256, .inl (fun _ => 0))), (lc, .inr (5, [.int 0, .ref (em 0), .int 0])), (lp, .inr (5, [.int 0, .ref (em 0), .int 0])), (dl, .inl (cO8, 26, .inr (.inr (.inr (.inr fL))))), (rr8, .inl (cI8, 5, .inl (fun _ => 0))), (ff, .inr (13, [tf, .int 0, .int 0, .int 1, .int 0])), (fb, .inr (13, [tb, .int 0, .int 0, .int 1, .int 0])), (lw, .inr (5, [.int 0, .ref (em 0), .int 0])), (lo, .inr (5, [.int 0, .ref (em 0), .int 0])), (od, .inl (cOd, 1, .inr (.inr (.inr (.inl (fun _ => 0)))))), (ou, .inl (cOut, 1, .inr (.inl (fun _ => 0))))]) hP hD [24] [0, 1, 2, 3, 4, 5, 6, 7, 8, 9, 10, 11, 12, 13, 14, 15, 16, 17, 18, 19, 20, 21, 22, 23] rfl rfl (by decide) (by decide) hk1 hFc
    generalize H1 = H at hP hS ⊢
    refine W.widen (k := 148) (n := 2199) (Nat.le_of_ble_eq_true rfl) (Nat.le_of_ble_eq_true rfl) ?_
    have hw : r_17 = 1 := hw
    rw [hw]
    refine lv_iload hx hb dL_law_1062 (lv_at hl 1 rfl) ?_
    refine lv_icmp_eq (tgt := 1069) hx hb dL_law_1064 (by decide) (fun c_18 => ?_) (fun c_18 => ?_)
    · refine lv_iload hx hb dL_law_1069 (lv_at hl 1 rfl) ?_
      refine lv_if_ne (tgt := 1086) hx hb dL_law_1071 (by decide) (fun c_19 => ?_) (fun c_19 => ?_)
      · refine lv_goto (tgt := 2636) hx hb dL_law_1086 (by decide) ?_
        refine lv_iinc (v := 6) (lv' := [(5, .int 6), (7, .int 0), (6, .int 1), (4, .ref od), (3, .ref ou), (2, .ref m0), (1, .ref x0), (0, .ref b)]) hx hb dL_law_2636 hl (k := 2) rfl (by decide) (by decide) rfl (fun ls hl => ?_)
        refine lv_goto (tgt := 28) hx hb dL_law_2639 (by decide) ?_
        refine lv_iload hx hb dL_law_28 (lv_at hl 0 rfl) ?_
        refine lv_aload_n hx hb dL_law_30 rfl (lv_at hl 7 rfl) ?_
        refine va_slen hx hb hX hbl hbA hS dL_law_31 ?_
        refine lv_topi (fun n_20 en_20 => ?_)
        obtain rfl : n_20 = 6 := en_20.trans (by decide)
        refine lv_bipush (v := 6) hx hb dL_law_32 (by decide) ?_
        refine lv_isub hx hb dL_law_34 ?_
        refine lv_topi (fun k_21 ek_21 => ?_)
        obtain rfl : k_21 = 0 := ek_21.trans (by decide)
        refine lv_icmp_gt (tgt := 2642) hx hb dL_law_35 (by decide) (fun c_22 => ?_) (fun c_22 => ?_)
        · refine lv_iconst (v := 1) hx hb dL_law_2642 (by decide) ?_
          refine W.widen (k := 600006) (n := 7302072) (Nat.le_of_ble_eq_true rfl) (Nat.le_of_ble_eq_true rfl) ?_
          refine va_forget hS.2.2 ?_
          refine W.base ?_
          exact lw_ret (Drawn.sameBut.refl s.drawn lw_cs) hx hb hr hlocks dL_law_2643
        · exact absurd (by decide) c_22
      · exact absurd c_19 (by decide)
    · exact absurd (by decide) c_18
  · have hz9 : (z_3 - 97).toNatClampNeg = j := hjj z_3 (by rw [ez_3, ey_2]) (by omega) (by omega)
    have hrow : fD (z_3 - 97).toNatClampNeg = some rr := by rw [hz9]; exact hfD
    have hrow8 : fL (z_3 - 97).toNatClampNeg = some rr8 := by rw [hz9]; exact hfL
    have hPc := hP.sub (ws' := [(x0, .inr (11, [.ref ca, .int 0, .int 0, .ref dr, .ref ty0, .int 0, .ref sf, .ref sb, vp, vm, .ref ra0, .int 0, .ref bk])), (dr, .inl (cO, 26, .inr (.inr (.inr (.inr fD))))), (rr, .inl (cI, 5, .inl (fun _ => 0))), (ou, .inl (cOut, 1, .inr (.inl (fun _ => 0))))]) [0, 4, 5, 24] rfl
    have hDc := hD.sub (ws' := [(x0, .inr (11, [.ref ca, .int 0, .int 0, .ref dr, .ref ty0, .int 0, .ref sf, .ref sb, vp, vm, .ref ra0, .int 0, .ref bk])), (dr, .inl (cO, 26, .inr (.inr (.inr (.inr fD))))), (rr, .inl (cI, 5, .inl (fun _ => 0))), (ou, .inl (cOut, 1, .inr (.inl (fun _ => 0))))]) [0, 4, 5, 24] (by decide) rfl
    have hKc := hK.sub (tys' := [(cO, (.array .int)), (cI, .int), (cOut, .long)]) [2, 3, 12] rfl
    have hFc := va_free (wc := [(x0, .inr (11, [.ref ca, .int 0, .int 0, .ref dr, .ref ty0, .int 0, .ref sf, .ref sb, vp, vm, .ref ra0, .int 0, .ref bk])), (dr, .inl (cO, 26, .inr (.inr (.inr (.inr fD))))), (rr, .inl (cI, 5, .inl (fun _ => 0))), (ou, .inl (cOut, 1, .inr (.inl (fun _ => 0))))]) hD hS hA [0, 4, 5, 24] rfl
    refine va_calli (vx_runSW (As := [.ref x0, .int z_3, .int y_5, .int y_7, .ref ou]) (rest := []) ⟨hx, hb, hml, hown, hts⟩ (c_L_draw_ok l hlt em dC dI x0 z_3 y_5 y_7 (.ref ca) (.int 0) (.int 0) (.ref ty0) (.int 0) (.ref sf) (.ref sb) vp vm (.ref ra0) (.int 0) (.ref bk) dr rr cO cI fD ou cOut (fun _ => 0) hok hrow H.size) (vx_cwSW 5 hts gT_L_draw rfl rfl rfl (by decide +kernel) ⟨Nat.le_of_ble_eq_true rfl, Nat.le_of_ble_eq_true rfl⟩) ⟨Pw.blind _ _ _ _ _ _ _, fun U hU hW => ⟨rfl, Pw.go hPc hKc hDc hamb hS hFc hU hW⟩⟩ rfl rfl hl.1 rfl (lv_room (Nat.le_of_ble_eq_true rfl)) dL_law_1028 ⟨Nat.le_of_ble_eq_true rfl, Nat.le_of_ble_eq_true rfl⟩) hS (fun q _ h => hFc q h) hFc (fun r_23 u t H1 locs1 ht hvm hw hB hz1 hk1 hS => ?_)
    obtain ⟨gOx_24, ⟨hP1, hK1, hD1⟩, f_25⟩ := hB
    rw [ht] at hP1
    have hK1 := va_K.moved hvm.symm hK1
    obtain ⟨hP, hD⟩ := va_join (wr := [(ca, .inl (cC, 16, .inr (.inr (.inr (.inr fC))))), (c0, .inr (7, [.ref th, u1, u2, .int 0, .int 0, .int 0, .int 0])), (th, .inl (cH, 4, .inl (fun _ => 0))), (ty0, .inl (cT, 8, .inl (fun _ => 0))), (sf, .inr (10, [.int 0, sf1, .int 0, .int 0, .int 0, .int 1, .int 0])), (sb, .inr (10, [.int 1, sb1, .int 0, .int 0, .int 0, .int 1, .int 0])), (ra0, .inl (cR, 6, .inl (fun _ => 0))), (bk, .inr (6, [.ref a0, .ref a1, .ref a2, .ref mo, .int 0])), (a0, .inl (cB0, 8, .inl (fun _ => 0))), (a1, .inl (cB1, 8, .inl (fun _ => 0))), (a2, .inl (cB2, 8, .inl (fun _ => 0))), (mo, .inl (cM, 256, .inl (fun _ => 0))), (m0, .inr (14, [.ref lc, .ref lp, .ref dl, .ref ff, .ref fb, .ref lw, .ref lo, .ref (em 1), .int 0])), (lc, .inr (5, [.int 0, .ref (em 0), .int 0])), (lp, .inr (5, [.int 0, .ref (em 0), .int 0])), (dl, .inl (cO8, 26, .inr (.inr (.inr (.inr fL))))), (rr8, .inl (cI8, 5, .inl (fun _ => 0))), (ff, .inr (13, [tf, .int 0, .int 0, .int 1, .int 0])), (fb, .inr (13, [tb, .int 0, .int 0, .int 1, .int 0])), (lw, .inr (5, [.int 0, .ref (em 0), .int 0])), (lo, .inr (5, [.int 0, .ref (em 0), .int 0])), (od, .inl (cOd, 1, .inr (.inr (.inr (.inl (fun _ => 0))))))]) (w1 := [(ou, .inl (cOut, 1, .inr (.inl gOx_24)))]) hP hD [0, 4, 5, 24] [1, 2, 3, 6, 7, 8, 9, 10, 11, 12, 13, 14, 15, 16, 17, 18, 19, 20, 21, 22, 23, 25] rfl rfl (by decide) (by decide) hk1 hFc hP1 hD1
    have hK := (hK.sub (tys' := [(cC, (.object "Bothfaces$Card")), (cH, .int), (cO, (.array .int)), (cI, .int), (cT, .int), (cR, .int), (cB0, .int), (cB1, .int), (cB2, .int), (cM, .int), (cO8, (.array .int)), (cI8, .int), (cOd, .double)]) [0, 1, 2, 3, 4, 5, 6, 7, 8, 9, 10, 11, 13] rfl).app hK1
    generalize H1 = H at hP hS ⊢
    have hP : va_P (dC, dI) vwCl [(ca, .inl (cC, 16, .inr (.inr (.inr (.inr fC))))), (c0, .inr (7, [.ref th, u1, u2, .int 0, .int 0, .int 0, .int 0])), (th, .inl (cH, 4, .inl (fun _ => 0))), (ty0, .inl (cT, 8, .inl (fun _ => 0))), (sf, .inr (10, [.int 0, sf1, .int 0, .int 0, .int 0, .int 1, .int 0])), (sb, .inr (10, [.int 1, sb1, .int 0, .int 0, .int 0, .int 1, .int 0])), (ra0, .inl (cR, 6, .inl (fun _ => 0))), (bk, .inr (6, [.ref a0, .ref a1, .ref a2, .ref mo, .int 0])), (a0, .inl (cB0, 8, .inl (fun _ => 0))), (a1, .inl (cB1, 8, .inl (fun _ => 0))), (a2, .inl (cB2, 8, .inl (fun _ => 0))), (mo, .inl (cM, 256, .inl (fun _ => 0))), (m0, .inr (14, [.ref lc, .ref lp, .ref dl, .ref ff, .ref fb, .ref lw, .ref lo, .ref (em 1), .int 0])), (lc, .inr (5, [.int 0, .ref (em 0), .int 0])), (lp, .inr (5, [.int 0, .ref (em 0), .int 0])), (dl, .inl (cO8, 26, .inr (.inr (.inr (.inr fL))))), (rr8, .inl (cI8, 5, .inl (fun _ => 0))), (ff, .inr (13, [tf, .int 0, .int 0, .int 1, .int 0])), (fb, .inr (13, [tb, .int 0, .int 0, .int 1, .int 0])), (lw, .inr (5, [.int 0, .ref (em 0), .int 0])), (lo, .inr (5, [.int 0, .ref (em 0), .int 0])), (od, .inl (cOd, 1, .inr (.inr (.inr (.inl (fun _ => 0)))))), (ou, .inl (cOut, 1, .inr (.inl gOx_24)))] H := hP
    have hD : va_D (fun q : Nat => s.heap.size ≤ q) [(ca, .inl (cC, 16, .inr (.inr (.inr (.inr fC))))), (c0, .inr (7, [.ref th, u1, u2, .int 0, .int 0, .int 0, .int 0])), (th, .inl (cH, 4, .inl (fun _ => 0))), (ty0, .inl (cT, 8, .inl (fun _ => 0))), (sf, .inr (10, [.int 0, sf1, .int 0, .int 0, .int 0, .int 1, .int 0])), (sb, .inr (10, [.int 1, sb1, .int 0, .int 0, .int 0, .int 1, .int 0])), (ra0, .inl (cR, 6, .inl (fun _ => 0))), (bk, .inr (6, [.ref a0, .ref a1, .ref a2, .ref mo, .int 0])), (a0, .inl (cB0, 8, .inl (fun _ => 0))), (a1, .inl (cB1, 8, .inl (fun _ => 0))), (a2, .inl (cB2, 8, .inl (fun _ => 0))), (mo, .inl (cM, 256, .inl (fun _ => 0))), (m0, .inr (14, [.ref lc, .ref lp, .ref dl, .ref ff, .ref fb, .ref lw, .ref lo, .ref (em 1), .int 0])), (lc, .inr (5, [.int 0, .ref (em 0), .int 0])), (lp, .inr (5, [.int 0, .ref (em 0), .int 0])), (dl, .inl (cO8, 26, .inr (.inr (.inr (.inr fL))))), (rr8, .inl (cI8, 5, .inl (fun _ => 0))), (ff, .inr (13, [tf, .int 0, .int 0, .int 1, .int 0])), (fb, .inr (13, [tb, .int 0, .int 0, .int 1, .int 0])), (lw, .inr (5, [.int 0, .ref (em 0), .int 0])), (lo, .inr (5, [.int 0, .ref (em 0), .int 0])), (od, .inl (cOd, 1, .inr (.inr (.inr (.inl (fun _ => 0)))))), (ou, .inl (cOut, 1, .inr (.inl gOx_24)))] := hD
    have hK : va_K (dC, dI) vwCl [(cC, (.object "Bothfaces$Card")), (cH, .int), (cO, (.array .int)), (cI, .int), (cT, .int), (cR, .int), (cB0, .int), (cB1, .int), (cB2, .int), (cM, .int), (cO8, (.array .int)), (cI8, .int), (cOd, .double), (cOut, .long)] s := hK
    refine W.widen (k := 148) (n := 2199) (Nat.le_of_ble_eq_true rfl) (Nat.le_of_ble_eq_true rfl) ?_
    have hw : r_23 = 0 := hw
    rw [hw]
    refine lv_istore (lv' := [(6, .int 0), (5, .int 0), (4, .ref od), (3, .ref ou), (2, .ref m0), (1, .ref x0), (0, .ref b)]) hx hb dL_law_1031 hl (by decide) rfl (fun ls hl => ?_)
    refine lv_aload_n hx hb dL_law_1033 rfl (lv_at hl 4 rfl) ?_
    refine lv_aload_n hx hb dL_law_1034 rfl (lv_at hl 6 rfl) ?_
    refine lv_iload hx hb dL_law_1035 (lv_at hl 1 rfl) ?_
    refine lv_iconst (v := 1) hx hb dL_law_1037 (by decide) ?_
    refine lv_iadd hx hb dL_law_1038 ?_
    refine lv_topi (fun k_26 ek_26 => ?_)
    obtain rfl : k_26 = 1 := ek_26.trans (by decide)
    refine va_sld hx hb hX hbl hbA hS (vp_in_iff.mpr ⟨by decide, by decide⟩) dL_law_1039 ?_
    refine lv_topi (fun y_27 ey_27 => ?_)
    have ey_27 : y_27 = xs 1 := ey_27
    obtain rfl : y_2 = y_27 := ey_2.trans ey_27.symm
    refine lv_i2c hx hb dL_law_1040 rfl ?_
    refine lv_topi (fun z_28 ez_28 => ?_)
    obtain rfl : z_3 = z_28 := ez_3.trans ez_28.symm
    refine lv_aload_n hx hb dL_law_1041 rfl (lv_at hl 6 rfl) ?_
    refine lv_iload hx hb dL_law_1042 (lv_at hl 1 rfl) ?_
    refine lv_iconst (v := 2) hx hb dL_law_1044 (by decide) ?_
    refine lv_iadd hx hb dL_law_1045 ?_
    refine lv_topi (fun k_29 ek_29 => ?_)
    obtain rfl : k_29 = 2 := ek_29.trans (by decide)
    refine va_sld hx hb hX hbl hbA hS (vp_in_iff.mpr ⟨by decide, by decide⟩) dL_law_1046 ?_
    refine lv_topi (fun y_30 ey_30 => ?_)
    have ey_30 : y_30 = xs 2 := ey_30
    obtain rfl : y_5 = y_30 := ey_5.trans ey_30.symm
    refine lv_aload_n hx hb dL_law_1047 rfl (lv_at hl 6 rfl) ?_
    refine lv_iload hx hb dL_law_1048 (lv_at hl 1 rfl) ?_
    refine lv_iconst (v := 3) hx hb dL_law_1050 (by decide) ?_
    refine lv_iadd hx hb dL_law_1051 ?_
    refine lv_topi (fun k_31 ek_31 => ?_)
    obtain rfl : k_31 = 3 := ek_31.trans (by decide)
    refine va_sld hx hb hX hbl hbA hS (vp_in_iff.mpr ⟨by decide, by decide⟩) dL_law_1052 ?_
    refine lv_topi (fun y_32 ey_32 => ?_)
    have ey_32 : y_32 = xs 3 := ey_32
    obtain rfl : y_7 = y_32 := ey_7.trans ey_32.symm
    have hPc := hP.sub (ws' := [(m0, .inr (14, [.ref lc, .ref lp, .ref dl, .ref ff, .ref fb, .ref lw, .ref lo, .ref (em 1), .int 0])), (dl, .inl (cO8, 26, .inr (.inr (.inr (.inr fL))))), (rr8, .inl (cI8, 5, .inl (fun _ => 0)))]) [12, 15, 16] rfl
    have hDc := hD.sub (ws' := [(m0, .inr (14, [.ref lc, .ref lp, .ref dl, .ref ff, .ref fb, .ref lw, .ref lo, .ref (em 1), .int 0])), (dl, .inl (cO8, 26, .inr (.inr (.inr (.inr fL))))), (rr8, .inl (cI8, 5, .inl (fun _ => 0)))]) [12, 15, 16] (by decide) rfl
    have hKc := hK.sub (tys' := [(cO8, (.array .int)), (cI8, .int)]) [10, 11] rfl
    have hFc := va_free (wc := [(m0, .inr (14, [.ref lc, .ref lp, .ref dl, .ref ff, .ref fb, .ref lw, .ref lo, .ref (em 1), .int 0])), (dl, .inl (cO8, 26, .inr (.inr (.inr (.inr fL))))), (rr8, .inl (cI8, 5, .inl (fun _ => 0)))]) hD hS hA [12, 15, 16] rfl
    refine va_calli (va_runV (As := [.int z_3, .int y_5, .int y_7]) (rest := []) ⟨hx, hb, hml, hown, hts⟩ (c_X8_draw_ok l em dC dI m0 z_3 y_5 y_7 (.ref lc) (.ref lp) (.ref ff) (.ref fb) (.ref lw) (.ref lo) (.ref (em 1)) (.int 0) dl rr8 cO8 cI8 fL hok hrow8 H.size) (cwV 3 hts gT_X8_draw rfl rfl rfl (by decide +kernel) ⟨Nat.le_of_ble_eq_true rfl, Nat.le_of_ble_eq_true rfl⟩) ⟨Pw.blind _ _ _ _ _ _ _, va_recv hKc hPc (ci := 14) (q0 := 0) rfl rfl, fun U hU hW => ⟨rfl, Pw.go hPc hKc hDc hamb hS hFc hU hW⟩⟩ rfl rfl hl.1 rfl (lv_room (Nat.le_of_ble_eq_true rfl)) dL_law_1053 ⟨Nat.le_of_ble_eq_true rfl, Nat.le_of_ble_eq_true rfl⟩) hS (fun q _ h => hFc q h) hFc (fun r_33 u t H1 locs1 ht hvm hw hB hz1 hk1 hS => ?_)
    obtain ⟨hP1, hK1, hD1⟩ := hB
    rw [ht] at hP1
    have hK1 := va_K.moved hvm.symm hK1
    obtain ⟨hP, hD⟩ := va_join (wr := [(ca, .inl (cC, 16, .inr (.inr (.inr (.inr fC))))), (c0, .inr (7, [.ref th, u1, u2, .int 0, .int 0, .int 0, .int 0])), (th, .inl (cH, 4, .inl (fun _ => 0))), (ty0, .inl (cT, 8, .inl (fun _ => 0))), (sf, .inr (10, [.int 0, sf1, .int 0, .int 0, .int 0, .int 1, .int 0])), (sb, .inr (10, [.int 1, sb1, .int 0, .int 0, .int 0, .int 1, .int 0])), (ra0, .inl (cR, 6, .inl (fun _ => 0))), (bk, .inr (6, [.ref a0, .ref a1, .ref a2, .ref mo, .int 0])), (a0, .inl (cB0, 8, .inl (fun _ => 0))), (a1, .inl (cB1, 8, .inl (fun _ => 0))), (a2, .inl (cB2, 8, .inl (fun _ => 0))), (mo, .inl (cM, 256, .inl (fun _ => 0))), (lc, .inr (5, [.int 0, .ref (em 0), .int 0])), (lp, .inr (5, [.int 0, .ref (em 0), .int 0])), (ff, .inr (13, [tf, .int 0, .int 0, .int 1, .int 0])), (fb, .inr (13, [tb, .int 0, .int 0, .int 1, .int 0])), (lw, .inr (5, [.int 0, .ref (em 0), .int 0])), (lo, .inr (5, [.int 0, .ref (em 0), .int 0])), (od, .inl (cOd, 1, .inr (.inr (.inr (.inl (fun _ => 0)))))), (ou, .inl (cOut, 1, .inr (.inl gOx_24)))]) (w1 := [(m0, .inr (14, [.ref lc, .ref lp, .ref dl, .ref ff, .ref fb, .ref lw, .ref lo, .ref (em 1), .int 0]))]) hP hD [12, 15, 16] [0, 1, 2, 3, 4, 5, 6, 7, 8, 9, 10, 11, 13, 14, 17, 18, 19, 20, 21, 22] rfl rfl (by decide) (by decide) hk1 hFc hP1 hD1
    have hK := (hK.sub (tys' := [(cC, (.object "Bothfaces$Card")), (cH, .int), (cO, (.array .int)), (cI, .int), (cT, .int), (cR, .int), (cB0, .int), (cB1, .int), (cB2, .int), (cM, .int), (cO8, (.array .int)), (cI8, .int), (cOd, .double), (cOut, .long)]) [0, 1, 2, 3, 4, 5, 6, 7, 8, 9, 10, 11, 12, 13] rfl).app hK1
    generalize H1 = H at hP hS ⊢
    have hP : va_P (dC, dI) vwCl [(ca, .inl (cC, 16, .inr (.inr (.inr (.inr fC))))), (c0, .inr (7, [.ref th, u1, u2, .int 0, .int 0, .int 0, .int 0])), (th, .inl (cH, 4, .inl (fun _ => 0))), (ty0, .inl (cT, 8, .inl (fun _ => 0))), (sf, .inr (10, [.int 0, sf1, .int 0, .int 0, .int 0, .int 1, .int 0])), (sb, .inr (10, [.int 1, sb1, .int 0, .int 0, .int 0, .int 1, .int 0])), (ra0, .inl (cR, 6, .inl (fun _ => 0))), (bk, .inr (6, [.ref a0, .ref a1, .ref a2, .ref mo, .int 0])), (a0, .inl (cB0, 8, .inl (fun _ => 0))), (a1, .inl (cB1, 8, .inl (fun _ => 0))), (a2, .inl (cB2, 8, .inl (fun _ => 0))), (mo, .inl (cM, 256, .inl (fun _ => 0))), (lc, .inr (5, [.int 0, .ref (em 0), .int 0])), (lp, .inr (5, [.int 0, .ref (em 0), .int 0])), (ff, .inr (13, [tf, .int 0, .int 0, .int 1, .int 0])), (fb, .inr (13, [tb, .int 0, .int 0, .int 1, .int 0])), (lw, .inr (5, [.int 0, .ref (em 0), .int 0])), (lo, .inr (5, [.int 0, .ref (em 0), .int 0])), (od, .inl (cOd, 1, .inr (.inr (.inr (.inl (fun _ => 0)))))), (ou, .inl (cOut, 1, .inr (.inl gOx_24))), (m0, .inr (14, [.ref lc, .ref lp, .ref dl, .ref ff, .ref fb, .ref lw, .ref lo, .ref (em 1), .int 0]))] H := hP
    have hD : va_D (fun q : Nat => s.heap.size ≤ q) [(ca, .inl (cC, 16, .inr (.inr (.inr (.inr fC))))), (c0, .inr (7, [.ref th, u1, u2, .int 0, .int 0, .int 0, .int 0])), (th, .inl (cH, 4, .inl (fun _ => 0))), (ty0, .inl (cT, 8, .inl (fun _ => 0))), (sf, .inr (10, [.int 0, sf1, .int 0, .int 0, .int 0, .int 1, .int 0])), (sb, .inr (10, [.int 1, sb1, .int 0, .int 0, .int 0, .int 1, .int 0])), (ra0, .inl (cR, 6, .inl (fun _ => 0))), (bk, .inr (6, [.ref a0, .ref a1, .ref a2, .ref mo, .int 0])), (a0, .inl (cB0, 8, .inl (fun _ => 0))), (a1, .inl (cB1, 8, .inl (fun _ => 0))), (a2, .inl (cB2, 8, .inl (fun _ => 0))), (mo, .inl (cM, 256, .inl (fun _ => 0))), (lc, .inr (5, [.int 0, .ref (em 0), .int 0])), (lp, .inr (5, [.int 0, .ref (em 0), .int 0])), (ff, .inr (13, [tf, .int 0, .int 0, .int 1, .int 0])), (fb, .inr (13, [tb, .int 0, .int 0, .int 1, .int 0])), (lw, .inr (5, [.int 0, .ref (em 0), .int 0])), (lo, .inr (5, [.int 0, .ref (em 0), .int 0])), (od, .inl (cOd, 1, .inr (.inr (.inr (.inl (fun _ => 0)))))), (ou, .inl (cOut, 1, .inr (.inl gOx_24))), (m0, .inr (14, [.ref lc, .ref lp, .ref dl, .ref ff, .ref fb, .ref lw, .ref lo, .ref (em 1), .int 0]))] := hD
    have hK : va_K (dC, dI) vwCl [(cC, (.object "Bothfaces$Card")), (cH, .int), (cO, (.array .int)), (cI, .int), (cT, .int), (cR, .int), (cB0, .int), (cB1, .int), (cB2, .int), (cM, .int), (cO8, (.array .int)), (cI8, .int), (cOd, .double), (cOut, .long)] s := hK
    refine W.widen (k := 148) (n := 2199) (Nat.le_of_ble_eq_true rfl) (Nat.le_of_ble_eq_true rfl) ?_
    have hw : r_33 = 0 := hw
    rw [hw]
    refine lv_istore (lv' := [(7, .int 0), (6, .int 0), (5, .int 0), (4, .ref od), (3, .ref ou), (2, .ref m0), (1, .ref x0), (0, .ref b)]) hx hb dL_law_1056 hl (by decide) rfl (fun ls hl => ?_)
    refine lv_aload_n hx hb dL_law_1058 rfl (lv_at hl 5 rfl) ?_
    have hPc := hP.sub (ws' := [(m0, .inr (14, [.ref lc, .ref lp, .ref dl, .ref ff, .ref fb, .ref lw, .ref lo, .ref (em 1), .int 0]))]) [20] rfl
    have hDc := hD.sub (ws' := [(m0, .inr (14, [.ref lc, .ref lp, .ref dl, .ref ff, .ref fb, .ref lw, .ref lo, .ref (em 1), .int 0]))]) [20] (by decide) rfl
    have hKc := hK.sub (tys' := []) [] rfl
    have hFc := va_free (wc := [(m0, .inr (14, [.ref lc, .ref lp, .ref dl, .ref ff, .ref fb, .ref lw, .ref lo, .ref (em 1), .int 0]))]) hD hS hA [20] rfl
    refine va_calli (va_runV (As := []) (rest := []) ⟨hx, hb, hml, hown, hts⟩ (c_X8_thrown l em dC dI m0 0 (.ref lc) (.ref lp) (.ref dl) (.ref ff) (.ref fb) (.ref lw) (.ref lo) (.ref (em 1)) H.size) (cwV 0 hts gT_X8_thrown rfl rfl rfl (by decide +kernel) ⟨Nat.le_of_ble_eq_true rfl, Nat.le_of_ble_eq_true rfl⟩) ⟨Pw.blind _ _ _ _ _ _ _, va_recv hKc hPc (ci := 14) (q0 := 0) rfl rfl, fun U hU hW => ⟨rfl, Pw.go hPc hKc hDc hamb hS hFc hU hW⟩⟩ rfl rfl hl.1 rfl (lv_room (Nat.le_of_ble_eq_true rfl)) dL_law_1059 ⟨Nat.le_of_ble_eq_true rfl, Nat.le_of_ble_eq_true rfl⟩) hS (fun q _ h => hFc q h) hFc (fun r_34 u t H1 locs1 ht hvm hw hB hz1 hk1 hS => ?_)
    obtain ⟨hP, hD⟩ := va_rest (wr := [(ca, .inl (cC, 16, .inr (.inr (.inr (.inr fC))))), (c0, .inr (7, [.ref th, u1, u2, .int 0, .int 0, .int 0, .int 0])), (th, .inl (cH, 4, .inl (fun _ => 0))), (ty0, .inl (cT, 8, .inl (fun _ => 0))), (sf, .inr (10, [.int 0, sf1, .int 0, .int 0, .int 0, .int 1, .int 0])), (sb, .inr (10, [.int 1, sb1, .int 0, .int 0, .int 0, .int 1, .int 0])), (ra0, .inl (cR, 6, .inl (fun _ => 0))), (bk, .inr (6, [.ref a0, .ref a1, .ref a2, .ref mo, .int 0])), (a0, .inl (cB0, 8, .inl (fun _ => 0))), (a1, .inl (cB1, 8, .inl (fun _ => 0))), (a2, .inl (cB2, 8, .inl (fun _ => 0))), (mo, .inl (cM, 256, .inl (fun _ => 0))), (lc, .inr (5, [.int 0, .ref (em 0), .int 0])), (lp, .inr (5, [.int 0, .ref (em 0), .int 0])), (ff, .inr (13, [tf, .int 0, .int 0, .int 1, .int 0])), (fb, .inr (13, [tb, .int 0, .int 0, .int 1, .int 0])), (lw, .inr (5, [.int 0, .ref (em 0), .int 0])), (lo, .inr (5, [.int 0, .ref (em 0), .int 0])), (od, .inl (cOd, 1, .inr (.inr (.inr (.inl (fun _ => 0)))))), (ou, .inl (cOut, 1, .inr (.inl gOx_24)))]) hP hD [20] [0, 1, 2, 3, 4, 5, 6, 7, 8, 9, 10, 11, 12, 13, 14, 15, 16, 17, 18, 19] rfl rfl (by decide) (by decide) hk1 hFc
    generalize H1 = H at hP hS ⊢
    refine W.widen (k := 148) (n := 2199) (Nat.le_of_ble_eq_true rfl) (Nat.le_of_ble_eq_true rfl) ?_
    have hw : r_34 = 0 := hw
    rw [hw]
    refine lv_iload hx hb dL_law_1062 (lv_at hl 1 rfl) ?_
    refine lv_icmp_eq (tgt := 1069) hx hb dL_law_1064 (by decide) (fun c_35 => ?_) (fun c_35 => ?_)
    · refine lv_iload hx hb dL_law_1069 (lv_at hl 1 rfl) ?_
      refine lv_if_ne (tgt := 1086) hx hb dL_law_1071 (by decide) (fun c_36 => ?_) (fun c_36 => ?_)
      · exact absurd (by decide) c_36
      · refine lv_aload_n hx hb dL_law_1074 rfl (lv_at hl 4 rfl) ?_
        refine lv_iconst (v := 0) hx hb dL_law_1075 (by decide) ?_
        refine va_lald hx hb hK hP 19 13 rfl rfl (vp_in_iff.mpr ⟨by decide, by decide⟩) dL_law_1076 ?_
        refine lv_topl (fun k_37 ek_37 => ?_)
        obtain rfl : 0 = k_37 := (ek_37.trans f_25).symm
        refine lv_iload hx hb dL_law_1077 (lv_at hl 0 rfl) ?_
        refine lv_i2l (v := 0) hx hb dL_law_1079 (by decide) ?_
        refine W.lcmp hx hb dL_law_1080 ?_
        refine lv_topi (fun k_38 ek_38 => ?_)
        obtain rfl : k_38 = 0 := ek_38.trans (by decide)
        refine lv_if_eq (tgt := 1086) hx hb dL_law_1081 (by decide) (fun c_39 => ?_) (fun c_39 => ?_)
        · refine lv_goto (tgt := 2636) hx hb dL_law_1086 (by decide) ?_
          refine lv_iinc (v := 6) (lv' := [(5, .int 6), (7, .int 0), (6, .int 0), (4, .ref od), (3, .ref ou), (2, .ref m0), (1, .ref x0), (0, .ref b)]) hx hb dL_law_2636 hl (k := 2) rfl (by decide) (by decide) rfl (fun ls hl => ?_)
          refine lv_goto (tgt := 28) hx hb dL_law_2639 (by decide) ?_
          refine lv_iload hx hb dL_law_28 (lv_at hl 0 rfl) ?_
          refine lv_aload_n hx hb dL_law_30 rfl (lv_at hl 7 rfl) ?_
          refine va_slen hx hb hX hbl hbA hS dL_law_31 ?_
          refine lv_topi (fun n_40 en_40 => ?_)
          obtain rfl : n_40 = 6 := en_40.trans (by decide)
          refine lv_bipush (v := 6) hx hb dL_law_32 (by decide) ?_
          refine lv_isub hx hb dL_law_34 ?_
          refine lv_topi (fun k_41 ek_41 => ?_)
          obtain rfl : k_41 = 0 := ek_41.trans (by decide)
          refine lv_icmp_gt (tgt := 2642) hx hb dL_law_35 (by decide) (fun c_42 => ?_) (fun c_42 => ?_)
          · refine lv_iconst (v := 1) hx hb dL_law_2642 (by decide) ?_
            refine W.widen (k := 600006) (n := 7302072) (Nat.le_of_ble_eq_true rfl) (Nat.le_of_ble_eq_true rfl) ?_
            refine va_forget hS.2.2 ?_
            refine W.base ?_
            exact lw_ret (Drawn.sameBut.refl s.drawn lw_cs) hx hb hr hlocks dL_law_2643
          · exact absurd (by decide) c_42
        · exact absurd (by decide) c_39
    · exact absurd (by decide) c_35

set_option maxHeartbeats 4000000 in
set_option maxRecDepth 100000 in
theorem law_14 {p : Program} {e : Env} {s : State} {m : MethodId} {below : List Frame} {meth : Method} {c : Code} (l : Launch) (hlt : l.stackTraces = false) {b : Nat} {xs : Nat → Int32} (C0 : lw_At p s m meth c b 6 xs) (em : Nat → Nat) (dC : Nat → ClassId) (dI : Nat → Nat → Nat) (j : Nat) (hjj : ∀ z : Int32, z = ((xs 1).toUInt32 % 65536).toInt32 → 97 ≤ z.toInt → z.toInt ≤ 122 → (z - 97).toNatClampNeg = j) (x0 : Nat) (ca : Nat) (dr : Nat) (ty0 : Nat) (sf : Nat) (sb : Nat) (ra0 : Nat) (bk : Nat) (c0 : Nat) (th : Nat) (rr : Nat) (a0 : Nat) (a1 : Nat) (a2 : Nat) (mo : Nat) (vp : Value) (vm : Value) (u1 : Value) (u2 : Value) (sf1 : Value) (sb1 : Value) (fC : Nat → Option Nat) (fD : Nat → Option Nat) (cC : ClassId) (cH : ClassId) (cO : ClassId) (cI : ClassId) (cT : ClassId) (cR : ClassId) (cB0 : ClassId) (cB1 : ClassId) (cB2 : ClassId) (cM : ClassId) (m0 : Nat) (lc : Nat) (lp : Nat) (dl : Nat) (rr8 : Nat) (ff : Nat) (fb : Nat) (lw : Nat) (lo : Nat) (tf : Value) (tb : Value) (fL : Nat → Option Nat) (cO8 : ClassId) (cI8 : ClassId) (ou : Nat) (od : Nat) (cOut : ClassId) (cOd : ClassId) (hfC : fC 0 = some c0) (hfD : fD j = some rr) (hfL : fL j = some rr8) {H : Heap} {locs : List Loc} (hamb : amb em (fun q : Nat => s.heap.size ≤ q) s s.heap) (hK : va_K (dC, dI) vwCl [(cC, (.object "Bothfaces$Card")), (cH, .int), (cO, (.array .int)), (cI, .int), (cT, .int), (cR, .int), (cB0, .int), (cB1, .int), (cB2, .int), (cM, .int), (cO8, (.array .int)), (cI8, .int), (cOut, .long), (cOd, .double)] s) (hP : va_P (dC, dI) vwCl [(x0, .inr (11, [.ref ca, .int 0, .int 0, .ref dr, .ref ty0, .int 0, .ref sf, .ref sb, vp, vm, .ref ra0, .int 0, .ref bk])), (ca, .inl (cC, 16, .inr (.inr (.inr (.inr fC))))), (c0, .inr (7, [.ref th, u1, u2, .int 0, .int 0, .int 0, .int 0])), (th, .inl (cH, 4, .inl (fun _ => 0))), (dr, .inl (cO, 26, .inr (.inr (.inr (.inr fD))))), (rr, .inl (cI, 5, .inl (fun _ => 0))), (ty0, .inl (cT, 8, .inl (fun _ => 0))), (sf, .inr (10, [.int 0, sf1, .int 0, .int 0, .int 0, .int 1, .int 0])), (sb, .inr (10, [.int 1, sb1, .int 0, .int 0, .int 0, .int 1, .int 0])), (ra0, .inl (cR, 6, .inl (fun _ => 0))), (bk, .inr (6, [.ref a0, .ref a1, .ref a2, .ref mo, .int 0])), (a0, .inl (cB0, 8, .inl (fun _ => 0))), (a1, .inl (cB1, 8, .inl (fun _ => 0))), (a2, .inl (cB2, 8, .inl (fun _ => 0))), (mo, .inl (cM, 256, .inl (fun _ => 0))), (m0, .inr (14, [.ref lc, .ref lp, .ref dl, .ref ff, .ref fb, .ref lw, .ref lo, .ref (em 1), .int 0])), (lc, .inr (5, [.int 0, .ref (em 0), .int 0])), (lp, .inr (5, [.int 0, .ref (em 0), .int 0])), (dl, .inl (cO8, 26, .inr (.inr (.inr (.inr fL))))), (rr8, .inl (cI8, 5, .inl (fun _ => 0))), (ff, .inr (13, [tf, .int 0, .int 0, .int 1, .int 0])), (fb, .inr (13, [tb, .int 0, .int 0, .int 1, .int 0])), (lw, .inr (5, [.int 0, .ref (em 0), .int 0])), (lo, .inr (5, [.int 0, .ref (em 0), .int 0])), (ou, .inl (cOut, 1, .inr (.inl (fun _ => 0)))), (od, .inl (cOd, 1, .inr (.inr (.inr (.inl (fun _ => 0))))))] H) (hD : va_D (fun q : Nat => s.heap.size ≤ q) [(x0, .inr (11, [.ref ca, .int 0, .int 0, .ref dr, .ref ty0, .int 0, .ref sf, .ref sb, vp, vm, .ref ra0, .int 0, .ref bk])), (ca, .inl (cC, 16, .inr (.inr (.inr (.inr fC))))), (c0, .inr (7, [.ref th, u1, u2, .int 0, .int 0, .int 0, .int 0])), (th, .inl (cH, 4, .inl (fun _ => 0))), (dr, .inl (cO, 26, .inr (.inr (.inr (.inr fD))))), (rr, .inl (cI, 5, .inl (fun _ => 0))), (ty0, .inl (cT, 8, .inl (fun _ => 0))), (sf, .inr (10, [.int 0, sf1, .int 0, .int 0, .int 0, .int 1, .int 0])), (sb, .inr (10, [.int 1, sb1, .int 0, .int 0, .int 0, .int 1, .int 0])), (ra0, .inl (cR, 6, .inl (fun _ => 0))), (bk, .inr (6, [.ref a0, .ref a1, .ref a2, .ref mo, .int 0])), (a0, .inl (cB0, 8, .inl (fun _ => 0))), (a1, .inl (cB1, 8, .inl (fun _ => 0))), (a2, .inl (cB2, 8, .inl (fun _ => 0))), (mo, .inl (cM, 256, .inl (fun _ => 0))), (m0, .inr (14, [.ref lc, .ref lp, .ref dl, .ref ff, .ref fb, .ref lw, .ref lo, .ref (em 1), .int 0])), (lc, .inr (5, [.int 0, .ref (em 0), .int 0])), (lp, .inr (5, [.int 0, .ref (em 0), .int 0])), (dl, .inl (cO8, 26, .inr (.inr (.inr (.inr fL))))), (rr8, .inl (cI8, 5, .inl (fun _ => 0))), (ff, .inr (13, [tf, .int 0, .int 0, .int 1, .int 0])), (fb, .inr (13, [tb, .int 0, .int 0, .int 1, .int 0])), (lw, .inr (5, [.int 0, .ref (em 0), .int 0])), (lo, .inr (5, [.int 0, .ref (em 0), .int 0])), (ou, .inl (cOut, 1, .inr (.inl (fun _ => 0)))), (od, .inl (cOd, 1, .inr (.inr (.inr (.inl (fun _ => 0))))))]) (hS : va_S (fun q : Nat => s.heap.size ≤ q) s.heap H locs) {ls : Array Slot} (hl : lv_has ls 9 [(5, .int 0), (4, .ref od), (3, .ref ou), (2, .ref m0), (1, .ref x0), (0, .ref b)]) : W p l e room_1 s m #[Value.ref b] below meth c H locs 146 2187 (lw_Z below #[Value.ref b] s) (F0 m 1089 ls []) := by
  obtain ⟨hx, hb, hr, hml, hown0, hts0, hX, hbl, hlocks, hgv⟩ := id C0
  have hts := ow_hts hts0
  have hown : s.vm.findClass RL = some m.cls := hown0
  have hA : ∀ q : Nat, s.heap.size ≤ q → (fun q : Nat => s.heap.size ≤ q) q := fun _ h => h
  have hbA : ¬ (fun q : Nat => s.heap.size ≤ q) b := Nat.not_le.mpr hbl
  refine lv_aload_n hx hb dL_law_1089 rfl (lv_at hl 4 rfl) ?_
  refine lv_aload_n hx hb dL_law_1090 rfl (lv_at hl 5 rfl) ?_
  refine lv_iload hx hb dL_law_1091 (lv_at hl 0 rfl) ?_
  refine lv_iconst (v := 1) hx hb dL_law_1093 (by decide) ?_
  refine lv_iadd hx hb dL_law_1094 ?_
  refine lv_topi (fun k_1 ek_1 => ?_)
  obtain rfl : k_1 = 1 := ek_1.trans (by decide)
  refine va_sld hx hb hX hbl hbA hS (vp_in_iff.mpr ⟨by decide, by decide⟩) dL_law_1095 ?_
  refine lv_topi (fun y_2 ey_2 => ?_)
  have ey_2 : y_2 = xs 1 := ey_2
  refine lv_i2c hx hb dL_law_1096 rfl ?_
  refine lv_topi (fun z_3 ez_3 => ?_)
  refine lv_aload_n hx hb dL_law_1097 rfl (lv_at hl 2 rfl) ?_
  have hPc := hP.sub (ws' := [(x0, .inr (11, [.ref ca, .int 0, .int 0, .ref dr, .ref ty0, .int 0, .ref sf, .ref sb, vp, vm, .ref ra0, .int 0, .ref bk])), (ty0, .inl (cT, 8, .inl (fun _ => 0))), (ou, .inl (cOut, 1, .inr (.inl (fun _ => 0))))]) [0, 6, 24] rfl
  have hDc := hD.sub (ws' := [(x0, .inr (11, [.ref ca, .int 0, .int 0, .ref dr, .ref ty0, .int 0, .ref sf, .ref sb, vp, vm, .ref ra0, .int 0, .ref bk])), (ty0, .inl (cT, 8, .inl (fun _ => 0))), (ou, .inl (cOut, 1, .inr (.inl (fun _ => 0))))]) [0, 6, 24] (by decide) rfl
  have hKc := hK.sub (tys' := [(cT, .int), (cOut, .long)]) [4, 12] rfl
  have hFc := va_free (wc := [(x0, .inr (11, [.ref ca, .int 0, .int 0, .ref dr, .ref ty0, .int 0, .ref sf, .ref sb, vp, vm, .ref ra0, .int 0, .ref bk])), (ty0, .inl (cT, 8, .inl (fun _ => 0))), (ou, .inl (cOut, 1, .inr (.inl (fun _ => 0))))]) hD hS hA [0, 6, 24] rfl
  refine va_calli (vx_runSW (As := [.ref x0, .int z_3, .ref ou]) (rest := []) ⟨hx, hb, hml, hown, hts⟩ (c_L_type l hlt em dC dI x0 ty0 cT z_3 (.ref ca) (.int 0) (.int 0) (.ref dr) (.ref sf) (.ref sb) vp vm (.ref ra0) (.int 0) (.ref bk) ou cOut (fun _ => 0) H.size) (vx_cwSW 3 hts gT_L_type rfl rfl rfl (by decide +kernel) ⟨Nat.le_of_ble_eq_true rfl, Nat.le_of_ble_eq_true rfl⟩) ⟨Pw.blind _ _ _ _ _ _ _, fun U hU hW => ⟨rfl, Pw.go hPc hKc hDc hamb hS hFc hU hW⟩⟩ rfl rfl hl.1 rfl (lv_room (Nat.le_of_ble_eq_true rfl)) dL_law_1098 ⟨Nat.le_of_ble_eq_true rfl, Nat.le_of_ble_eq_true rfl⟩) hS (fun q _ h => hFc q h) hFc (fun r_4 u t H1 locs1 ht hvm hw hB hz1 hk1 hS => ?_)
  obtain ⟨gOx_5, ⟨hP1, hK1, hD1⟩, f_6⟩ := hB
  rw [ht] at hP1
  have hK1 := va_K.moved hvm.symm hK1
  obtain ⟨hP, hD⟩ := va_join (wr := [(ca, .inl (cC, 16, .inr (.inr (.inr (.inr fC))))), (c0, .inr (7, [.ref th, u1, u2, .int 0, .int 0, .int 0, .int 0])), (th, .inl (cH, 4, .inl (fun _ => 0))), (dr, .inl (cO, 26, .inr (.inr (.inr (.inr fD))))), (rr, .inl (cI, 5, .inl (fun _ => 0))), (sf, .inr (10, [.int 0, sf1, .int 0, .int 0, .int 0, .int 1, .int 0])), (sb, .inr (10, [.int 1, sb1, .int 0, .int 0, .int 0, .int 1, .int 0])), (ra0, .inl (cR, 6, .inl (fun _ => 0))), (bk, .inr (6, [.ref a0, .ref a1, .ref a2, .ref mo, .int 0])), (a0, .inl (cB0, 8, .inl (fun _ => 0))), (a1, .inl (cB1, 8, .inl (fun _ => 0))), (a2, .inl (cB2, 8, .inl (fun _ => 0))), (mo, .inl (cM, 256, .inl (fun _ => 0))), (m0, .inr (14, [.ref lc, .ref lp, .ref dl, .ref ff, .ref fb, .ref lw, .ref lo, .ref (em 1), .int 0])), (lc, .inr (5, [.int 0, .ref (em 0), .int 0])), (lp, .inr (5, [.int 0, .ref (em 0), .int 0])), (dl, .inl (cO8, 26, .inr (.inr (.inr (.inr fL))))), (rr8, .inl (cI8, 5, .inl (fun _ => 0))), (ff, .inr (13, [tf, .int 0, .int 0, .int 1, .int 0])), (fb, .inr (13, [tb, .int 0, .int 0, .int 1, .int 0])), (lw, .inr (5, [.int 0, .ref (em 0), .int 0])), (lo, .inr (5, [.int 0, .ref (em 0), .int 0])), (od, .inl (cOd, 1, .inr (.inr (.inr (.inl (fun _ => 0))))))]) (w1 := [(ou, .inl (cOut, 1, .inr (.inl gOx_5)))]) hP hD [0, 6, 24] [1, 2, 3, 4, 5, 7, 8, 9, 10, 11, 12, 13, 14, 15, 16, 17, 18, 19, 20, 21, 22, 23, 25] rfl rfl (by decide) (by decide) hk1 hFc hP1 hD1
  have hK := (hK.sub (tys' := [(cC, (.object "Bothfaces$Card")), (cH, .int), (cO, (.array .int)), (cI, .int), (cT, .int), (cR, .int), (cB0, .int), (cB1, .int), (cB2, .int), (cM, .int), (cO8, (.array .int)), (cI8, .int), (cOd, .double)]) [0, 1, 2, 3, 4, 5, 6, 7, 8, 9, 10, 11, 13] rfl).app hK1
  generalize H1 = H at hP hS ⊢
  have hP : va_P (dC, dI) vwCl [(ca, .inl (cC, 16, .inr (.inr (.inr (.inr fC))))), (c0, .inr (7, [.ref th, u1, u2, .int 0, .int 0, .int 0, .int 0])), (th, .inl (cH, 4, .inl (fun _ => 0))), (dr, .inl (cO, 26, .inr (.inr (.inr (.inr fD))))), (rr, .inl (cI, 5, .inl (fun _ => 0))), (sf, .inr (10, [.int 0, sf1, .int 0, .int 0, .int 0, .int 1, .int 0])), (sb, .inr (10, [.int 1, sb1, .int 0, .int 0, .int 0, .int 1, .int 0])), (ra0, .inl (cR, 6, .inl (fun _ => 0))), (bk, .inr (6, [.ref a0, .ref a1, .ref a2, .ref mo, .int 0])), (a0, .inl (cB0, 8, .inl (fun _ => 0))), (a1, .inl (cB1, 8, .inl (fun _ => 0))), (a2, .inl (cB2, 8, .inl (fun _ => 0))), (mo, .inl (cM, 256, .inl (fun _ => 0))), (m0, .inr (14, [.ref lc, .ref lp, .ref dl, .ref ff, .ref fb, .ref lw, .ref lo, .ref (em 1), .int 0])), (lc, .inr (5, [.int 0, .ref (em 0), .int 0])), (lp, .inr (5, [.int 0, .ref (em 0), .int 0])), (dl, .inl (cO8, 26, .inr (.inr (.inr (.inr fL))))), (rr8, .inl (cI8, 5, .inl (fun _ => 0))), (ff, .inr (13, [tf, .int 0, .int 0, .int 1, .int 0])), (fb, .inr (13, [tb, .int 0, .int 0, .int 1, .int 0])), (lw, .inr (5, [.int 0, .ref (em 0), .int 0])), (lo, .inr (5, [.int 0, .ref (em 0), .int 0])), (od, .inl (cOd, 1, .inr (.inr (.inr (.inl (fun _ => 0)))))), (ou, .inl (cOut, 1, .inr (.inl gOx_5)))] H := hP
  have hD : va_D (fun q : Nat => s.heap.size ≤ q) [(ca, .inl (cC, 16, .inr (.inr (.inr (.inr fC))))), (c0, .inr (7, [.ref th, u1, u2, .int 0, .int 0, .int 0, .int 0])), (th, .inl (cH, 4, .inl (fun _ => 0))), (dr, .inl (cO, 26, .inr (.inr (.inr (.inr fD))))), (rr, .inl (cI, 5, .inl (fun _ => 0))), (sf, .inr (10, [.int 0, sf1, .int 0, .int 0, .int 0, .int 1, .int 0])), (sb, .inr (10, [.int 1, sb1, .int 0, .int 0, .int 0, .int 1, .int 0])), (ra0, .inl (cR, 6, .inl (fun _ => 0))), (bk, .inr (6, [.ref a0, .ref a1, .ref a2, .ref mo, .int 0])), (a0, .inl (cB0, 8, .inl (fun _ => 0))), (a1, .inl (cB1, 8, .inl (fun _ => 0))), (a2, .inl (cB2, 8, .inl (fun _ => 0))), (mo, .inl (cM, 256, .inl (fun _ => 0))), (m0, .inr (14, [.ref lc, .ref lp, .ref dl, .ref ff, .ref fb, .ref lw, .ref lo, .ref (em 1), .int 0])), (lc, .inr (5, [.int 0, .ref (em 0), .int 0])), (lp, .inr (5, [.int 0, .ref (em 0), .int 0])), (dl, .inl (cO8, 26, .inr (.inr (.inr (.inr fL))))), (rr8, .inl (cI8, 5, .inl (fun _ => 0))), (ff, .inr (13, [tf, .int 0, .int 0, .int 1, .int 0])), (fb, .inr (13, [tb, .int 0, .int 0, .int 1, .int 0])), (lw, .inr (5, [.int 0, .ref (em 0), .int 0])), (lo, .inr (5, [.int 0, .ref (em 0), .int 0])), (od, .inl (cOd, 1, .inr (.inr (.inr (.inl (fun _ => 0)))))), (ou, .inl (cOut, 1, .inr (.inl gOx_5)))] := hD
  have hK : va_K (dC, dI) vwCl [(cC, (.object "Bothfaces$Card")), (cH, .int), (cO, (.array .int)), (cI, .int), (cT, .int), (cR, .int), (cB0, .int), (cB1, .int), (cB2, .int), (cM, .int), (cO8, (.array .int)), (cI8, .int), (cOd, .double), (cOut, .long)] s := hK
  refine W.widen (k := 147) (n := 2193) (Nat.le_of_ble_eq_true rfl) (Nat.le_of_ble_eq_true rfl) ?_
  have hw : ((z_3.toInt < 97 ∨ 122 < z_3.toInt) → r_4 = 1) ∧ (¬ (z_3.toInt < 97 ∨ 122 < z_3.toInt) → r_4 = 0) := hw
  rcases Classical.em (z_3.toInt < 97 ∨ 122 < z_3.toInt) with t_7 | t_7
  · have hw := hw.1 t_7
    rw [hw]
    refine lv_istore (lv' := [(6, .int 1), (5, .int 0), (4, .ref od), (3, .ref ou), (2, .ref m0), (1, .ref x0), (0, .ref b)]) hx hb dL_law_1101 hl (by decide) rfl (fun ls hl => ?_)
    refine lv_aload_n hx hb dL_law_1103 rfl (lv_at hl 4 rfl) ?_
    refine lv_aload_n hx hb dL_law_1104 rfl (lv_at hl 6 rfl) ?_
    refine lv_iload hx hb dL_law_1105 (lv_at hl 1 rfl) ?_
    refine lv_iconst (v := 1) hx hb dL_law_1107 (by decide) ?_
    refine lv_iadd hx hb dL_law_1108 ?_
    refine lv_topi (fun k_8 ek_8 => ?_)
    obtain rfl : k_8 = 1 := ek_8.trans (by decide)
    refine va_sld hx hb hX hbl hbA hS (vp_in_iff.mpr ⟨by decide, by decide⟩) dL_law_1109 ?_
    refine lv_topi (fun y_9 ey_9 => ?_)
    have ey_9 : y_9 = xs 1 := ey_9
    obtain rfl : y_2 = y_9 := ey_2.trans ey_9.symm
    refine lv_i2c hx hb dL_law_1110 rfl ?_
    refine lv_topi (fun z_10 ez_10 => ?_)
    obtain rfl : z_3 = z_10 := ez_3.trans ez_10.symm
    have hPc := hP.sub (ws' := [(m0, .inr (14, [.ref lc, .ref lp, .ref dl, .ref ff, .ref fb, .ref lw, .ref lo, .ref (em 1), .int 0]))]) [13] rfl
    have hDc := hD.sub (ws' := [(m0, .inr (14, [.ref lc, .ref lp, .ref dl, .ref ff, .ref fb, .ref lw, .ref lo, .ref (em 1), .int 0]))]) [13] (by decide) rfl
    have hKc := hK.sub (tys' := []) [] rfl
    have hFc := va_free (wc := [(m0, .inr (14, [.ref lc, .ref lp, .ref dl, .ref ff, .ref fb, .ref lw, .ref lo, .ref (em 1), .int 0]))]) hD hS hA [13] rfl
    refine va_calli (va_runV (As := [.int z_3]) (rest := []) ⟨hx, hb, hml, hown, hts⟩ (c_X8_type l em dC dI m0 z_3 (.ref lc) (.ref lp) (.ref dl) (.ref ff) (.ref fb) (.ref lw) (.ref lo) (.int 0) H.size) (cwV 1 hts gT_X8_type rfl rfl rfl (by decide +kernel) ⟨Nat.le_of_ble_eq_true rfl, Nat.le_of_ble_eq_true rfl⟩) ⟨Pw.blind _ _ _ _ _ _ _, va_recv hKc hPc (ci := 14) (q0 := 0) rfl rfl, fun U hU hW => ⟨rfl, Pw.go hPc hKc hDc hamb hS hFc hU hW⟩⟩ rfl rfl hl.1 rfl (lv_room (Nat.le_of_ble_eq_true rfl)) dL_law_1111 ⟨Nat.le_of_ble_eq_true rfl, Nat.le_of_ble_eq_true rfl⟩) hS (fun q _ h => hFc q h) hFc (fun r_11 u t H1 locs1 ht hvm hw hB hz1 hk1 hS => ?_)
    obtain ⟨tvx_12, tyvx_13, ⟨hP1, hK1, hD1⟩, f_14, f_15⟩ := hB
    rw [ht] at hP1
    have hK1 := va_K.moved hvm.symm hK1
    obtain ⟨hP, hD⟩ := va_join (wr := [(ca, .inl (cC, 16, .inr (.inr (.inr (.inr fC))))), (c0, .inr (7, [.ref th, u1, u2, .int 0, .int 0, .int 0, .int 0])), (th, .inl (cH, 4, .inl (fun _ => 0))), (dr, .inl (cO, 26, .inr (.inr (.inr (.inr fD))))), (rr, .inl (cI, 5, .inl (fun _ => 0))), (sf, .inr (10, [.int 0, sf1, .int 0, .int 0, .int 0, .int 1, .int 0])), (sb, .inr (10, [.int 1, sb1, .int 0, .int 0, .int 0, .int 1, .int 0])), (ra0, .inl (cR, 6, .inl (fun _ => 0))), (bk, .inr (6, [.ref a0, .ref a1, .ref a2, .ref mo, .int 0])), (a0, .inl (cB0, 8, .inl (fun _ => 0))), (a1, .inl (cB1, 8, .inl (fun _ => 0))), (a2, .inl (cB2, 8, .inl (fun _ => 0))), (mo, .inl (cM, 256, .inl (fun _ => 0))), (lc, .inr (5, [.int 0, .ref (em 0), .int 0])), (lp, .inr (5, [.int 0, .ref (em 0), .int 0])), (dl, .inl (cO8, 26, .inr (.inr (.inr (.inr fL))))), (rr8, .inl (cI8, 5, .inl (fun _ => 0))), (ff, .inr (13, [tf, .int 0, .int 0, .int 1, .int 0])), (fb, .inr (13, [tb, .int 0, .int 0, .int 1, .int 0])), (lw, .inr (5, [.int 0, .ref (em 0), .int 0])), (lo, .inr (5, [.int 0, .ref (em 0), .int 0])), (od, .inl (cOd, 1, .inr (.inr (.inr (.inl (fun _ => 0)))))), (ou, .inl (cOut, 1, .inr (.inl gOx_5)))]) (w1 := [(m0, .inr (14, [.ref lc, .ref lp, .ref dl, .ref ff, .ref fb, .ref lw, .ref lo, tyvx_13, .int tvx_12]))]) hP hD [13] [0, 1, 2, 3, 4, 5, 6, 7, 8, 9, 10, 11, 12, 14, 15, 16, 17, 18, 19, 20, 21, 22, 23] rfl rfl (by decide) (by decide) hk1 hFc hP1 hD1
    have hK := (hK.sub (tys' := [(cC, (.object "Bothfaces$Card")), (cH, .int), (cO, (.array .int)), (cI, .int), (cT, .int), (cR, .int), (cB0, .int), (cB1, .int), (cB2, .int), (cM, .int), (cO8, (.array .int)), (cI8, .int), (cOd, .double), (cOut, .long)]) [0, 1, 2, 3, 4, 5, 6, 7, 8, 9, 10, 11, 12, 13] rfl).app hK1
    generalize H1 = H at hP hS ⊢
    have hP : va_P (dC, dI) vwCl [(ca, .inl (cC, 16, .inr (.inr (.inr (.inr fC))))), (c0, .inr (7, [.ref th, u1, u2, .int 0, .int 0, .int 0, .int 0])), (th, .inl (cH, 4, .inl (fun _ => 0))), (dr, .inl (cO, 26, .inr (.inr (.inr (.inr fD))))), (rr, .inl (cI, 5, .inl (fun _ => 0))), (sf, .inr (10, [.int 0, sf1, .int 0, .int 0, .int 0, .int 1, .int 0])), (sb, .inr (10, [.int 1, sb1, .int 0, .int 0, .int 0, .int 1, .int 0])), (ra0, .inl (cR, 6, .inl (fun _ => 0))), (bk, .inr (6, [.ref a0, .ref a1, .ref a2, .ref mo, .int 0])), (a0, .inl (cB0, 8, .inl (fun _ => 0))), (a1, .inl (cB1, 8, .inl (fun _ => 0))), (a2, .inl (cB2, 8, .inl (fun _ => 0))), (mo, .inl (cM, 256, .inl (fun _ => 0))), (lc, .inr (5, [.int 0, .ref (em 0), .int 0])), (lp, .inr (5, [.int 0, .ref (em 0), .int 0])), (dl, .inl (cO8, 26, .inr (.inr (.inr (.inr fL))))), (rr8, .inl (cI8, 5, .inl (fun _ => 0))), (ff, .inr (13, [tf, .int 0, .int 0, .int 1, .int 0])), (fb, .inr (13, [tb, .int 0, .int 0, .int 1, .int 0])), (lw, .inr (5, [.int 0, .ref (em 0), .int 0])), (lo, .inr (5, [.int 0, .ref (em 0), .int 0])), (od, .inl (cOd, 1, .inr (.inr (.inr (.inl (fun _ => 0)))))), (ou, .inl (cOut, 1, .inr (.inl gOx_5))), (m0, .inr (14, [.ref lc, .ref lp, .ref dl, .ref ff, .ref fb, .ref lw, .ref lo, tyvx_13, .int tvx_12]))] H := hP
    have hD : va_D (fun q : Nat => s.heap.size ≤ q) [(ca, .inl (cC, 16, .inr (.inr (.inr (.inr fC))))), (c0, .inr (7, [.ref th, u1, u2, .int 0, .int 0, .int 0, .int 0])), (th, .inl (cH, 4, .inl (fun _ => 0))), (dr, .inl (cO, 26, .inr (.inr (.inr (.inr fD))))), (rr, .inl (cI, 5, .inl (fun _ => 0))), (sf, .inr (10, [.int 0, sf1, .int 0, .int 0, .int 0, .int 1, .int 0])), (sb, .inr (10, [.int 1, sb1, .int 0, .int 0, .int 0, .int 1, .int 0])), (ra0, .inl (cR, 6, .inl (fun _ => 0))), (bk, .inr (6, [.ref a0, .ref a1, .ref a2, .ref mo, .int 0])), (a0, .inl (cB0, 8, .inl (fun _ => 0))), (a1, .inl (cB1, 8, .inl (fun _ => 0))), (a2, .inl (cB2, 8, .inl (fun _ => 0))), (mo, .inl (cM, 256, .inl (fun _ => 0))), (lc, .inr (5, [.int 0, .ref (em 0), .int 0])), (lp, .inr (5, [.int 0, .ref (em 0), .int 0])), (dl, .inl (cO8, 26, .inr (.inr (.inr (.inr fL))))), (rr8, .inl (cI8, 5, .inl (fun _ => 0))), (ff, .inr (13, [tf, .int 0, .int 0, .int 1, .int 0])), (fb, .inr (13, [tb, .int 0, .int 0, .int 1, .int 0])), (lw, .inr (5, [.int 0, .ref (em 0), .int 0])), (lo, .inr (5, [.int 0, .ref (em 0), .int 0])), (od, .inl (cOd, 1, .inr (.inr (.inr (.inl (fun _ => 0)))))), (ou, .inl (cOut, 1, .inr (.inl gOx_5))), (m0, .inr (14, [.ref lc, .ref lp, .ref dl, .ref ff, .ref fb, .ref lw, .ref lo, tyvx_13, .int tvx_12]))] := hD
    have hK : va_K (dC, dI) vwCl [(cC, (.object "Bothfaces$Card")), (cH, .int), (cO, (.array .int)), (cI, .int), (cT, .int), (cR, .int), (cB0, .int), (cB1, .int), (cB2, .int), (cM, .int), (cO8, (.array .int)), (cI8, .int), (cOd, .double), (cOut, .long)] s := hK
    refine W.widen (k := 151) (n := 2218) (Nat.le_of_ble_eq_true rfl) (Nat.le_of_ble_eq_true rfl) ?_
    have hw : ((z_3.toInt < 97 ∨ 122 < z_3.toInt) → r_11 = 0) ∧ (¬ (z_3.toInt < 97 ∨ 122 < z_3.toInt) → r_11 = 1) := hw
    have hw := hw.1 t_7
    rw [hw]
    obtain rfl : tvx_12 = 1 := f_14 t_7
    refine lv_istore (lv' := [(7, .int 0), (6, .int 1), (5, .int 0), (4, .ref od), (3, .ref ou), (2, .ref m0), (1, .ref x0), (0, .ref b)]) hx hb dL_law_1114 hl (by decide) rfl (fun ls hl => ?_)
    refine lv_aload_n hx hb dL_law_1116 rfl (lv_at hl 5 rfl) ?_
    have hPc := hP.sub (ws' := [(m0, .inr (14, [.ref lc, .ref lp, .ref dl, .ref ff, .ref fb, .ref lw, .ref lo, tyvx_13, .int 1]))]) [23] rfl
    have hDc := hD.sub (ws' := [(m0, .inr (14, [.ref lc, .ref lp, .ref dl, .ref ff, .ref fb, .ref lw, .ref lo, tyvx_13, .int 1]))]) [23] (by decide) rfl
    have hKc := hK.sub (tys' := []) [] rfl
    have hFc := va_free (wc := [(m0, .inr (14, [.ref lc, .ref lp, .ref dl, .ref ff, .ref fb, .ref lw, .ref lo, tyvx_13, .int 1]))]) hD hS hA [23] rfl
    refine va_calli (va_runV (As := []) (rest := []) ⟨hx, hb, hml, hown, hts⟩ (c_X8_thrown l em dC dI m0 1 (.ref lc) (.ref lp) (.ref dl) (.ref ff) (.ref fb) (.ref lw) (.ref lo) tyvx_13 H.size) (cwV 0 hts gT_X8_thrown rfl rfl rfl (by decide +kernel) ⟨Nat.le_of_ble_eq_true rfl, Nat.le_of_ble_eq_true rfl⟩) ⟨Pw.blind _ _ _ _ _ _ _, va_recv hKc hPc (ci := 14) (q0 := 0) rfl rfl, fun U hU hW => ⟨rfl, Pw.go hPc hKc hDc hamb hS hFc hU hW⟩⟩ rfl rfl hl.1 rfl (lv_room (Nat.le_of_ble_eq_true rfl)) dL_law_1117 ⟨Nat.le_of_ble_eq_true rfl, Nat.le_of_ble_eq_true rfl⟩) hS (fun q _ h => hFc q h) hFc (fun r_17 u t H1 locs1 ht hvm hw hB hz1 hk1 hS => ?_)
    obtain ⟨hP, hD⟩ := va_rest (wr := [(ca, .inl (cC, 16, .inr (.inr (.inr (.inr fC))))), (c0, .inr (7, [.ref th, u1, u2, .int 0, .int 0, .int 0, .int 0])), (th, .inl (cH, 4, .inl (fun _ => 0))), (dr, .inl (cO, 26, .inr (.inr (.inr (.inr fD))))), (rr, .inl (cI, 5, .inl (fun _ => 0))), (sf, .inr (10, [.int 0, sf1, .int 0, .int 0, .int 0, .int 1, .int 0])), (sb, .inr (10, [.int 1, sb1, .int 0, .int 0, .int 0, .int 1, .int 0])), (ra0, .inl (cR, 6, .inl (fun _ => 0))), (bk, .inr (6, [.ref a0, .ref a1, .ref a2, .ref mo, .int 0])), (a0, .inl (cB0, 8, .inl (fun _ => 0))), (a1, .inl (cB1, 8, .inl (fun _ => 0))), (a2, .inl (cB2, 8, .inl (fun _ => 0))), (mo, .inl (cM, 256, .inl (fun _ => 0))), (lc, .inr (5, [.int 0, .ref (em 0), .int 0])), (lp, .inr (5, [.int 0, .ref (em 0), .int 0])), (dl, .inl (cO8, 26, .inr (.inr (.inr (.inr fL))))), (rr8, .inl (cI8, 5, .inl (fun _ => 0))), (ff, .inr (13, [tf, .int 0, .int 0, .int 1, .int 0])), (fb, .inr (13, [tb, .int 0, .int 0, .int 1, .int 0])), (lw, .inr (5, [.int 0, .ref (em 0), .int 0])), (lo, .inr (5, [.int 0, .ref (em 0), .int 0])), (od, .inl (cOd, 1, .inr (.inr (.inr (.inl (fun _ => 0)))))), (ou, .inl (cOut, 1, .inr (.inl gOx_5)))]) hP hD [23] [0, 1, 2, 3, 4, 5, 6, 7, 8, 9, 10, 11, 12, 13, 14, 15, 16, 17, 18, 19, 20, 21, 22] rfl rfl (by decide) (by decide) hk1 hFc
    generalize H1 = H at hP hS ⊢
    refine W.widen (k := 151) (n := 2218) (Nat.le_of_ble_eq_true rfl) (Nat.le_of_ble_eq_true rfl) ?_
    have hw : r_17 = 1 := hw
    rw [hw]
    refine lv_iload hx hb dL_law_1120 (lv_at hl 1 rfl) ?_
    refine lv_icmp_eq (tgt := 1127) hx hb dL_law_1122 (by decide) (fun c_18 => ?_) (fun c_18 => ?_)
    · refine lv_iload hx hb dL_law_1127 (lv_at hl 1 rfl) ?_
      refine lv_if_ne (tgt := 1144) hx hb dL_law_1129 (by decide) (fun c_19 => ?_) (fun c_19 => ?_)
      · refine lv_goto (tgt := 2636) hx hb dL_law_1144 (by decide) ?_
        refine lv_iinc (v := 6) (lv' := [(5, .int 6), (7, .int 0), (6, .int 1), (4, .ref od), (3, .ref ou), (2, .ref m0), (1, .ref x0), (0, .ref b)]) hx hb dL_law_2636 hl (k := 2) rfl (by decide) (by decide) rfl (fun ls hl => ?_)
        refine lv_goto (tgt := 28) hx hb dL_law_2639 (by decide) ?_
        refine lv_iload hx hb dL_law_28 (lv_at hl 0 rfl) ?_
        refine lv_aload_n hx hb dL_law_30 rfl (lv_at hl 7 rfl) ?_
        refine va_slen hx hb hX hbl hbA hS dL_law_31 ?_
        refine lv_topi (fun n_20 en_20 => ?_)
        obtain rfl : n_20 = 6 := en_20.trans (by decide)
        refine lv_bipush (v := 6) hx hb dL_law_32 (by decide) ?_
        refine lv_isub hx hb dL_law_34 ?_
        refine lv_topi (fun k_21 ek_21 => ?_)
        obtain rfl : k_21 = 0 := ek_21.trans (by decide)
        refine lv_icmp_gt (tgt := 2642) hx hb dL_law_35 (by decide) (fun c_22 => ?_) (fun c_22 => ?_)
        · refine lv_iconst (v := 1) hx hb dL_law_2642 (by decide) ?_
          refine W.widen (k := 600006) (n := 7302072) (Nat.le_of_ble_eq_true rfl) (Nat.le_of_ble_eq_true rfl) ?_
          refine va_forget hS.2.2 ?_
          refine W.base ?_
          exact lw_ret (Drawn.sameBut.refl s.drawn lw_cs) hx hb hr hlocks dL_law_2643
        · exact absurd (by decide) c_22
      · exact absurd c_19 (by decide)
    · exact absurd (by decide) c_18
  · have hw := hw.2 t_7
    rw [hw]
    refine lv_istore (lv' := [(6, .int 0), (5, .int 0), (4, .ref od), (3, .ref ou), (2, .ref m0), (1, .ref x0), (0, .ref b)]) hx hb dL_law_1101 hl (by decide) rfl (fun ls hl => ?_)
    refine lv_aload_n hx hb dL_law_1103 rfl (lv_at hl 4 rfl) ?_
    refine lv_aload_n hx hb dL_law_1104 rfl (lv_at hl 6 rfl) ?_
    refine lv_iload hx hb dL_law_1105 (lv_at hl 1 rfl) ?_
    refine lv_iconst (v := 1) hx hb dL_law_1107 (by decide) ?_
    refine lv_iadd hx hb dL_law_1108 ?_
    refine lv_topi (fun k_23 ek_23 => ?_)
    obtain rfl : k_23 = 1 := ek_23.trans (by decide)
    refine va_sld hx hb hX hbl hbA hS (vp_in_iff.mpr ⟨by decide, by decide⟩) dL_law_1109 ?_
    refine lv_topi (fun y_24 ey_24 => ?_)
    have ey_24 : y_24 = xs 1 := ey_24
    obtain rfl : y_2 = y_24 := ey_2.trans ey_24.symm
    refine lv_i2c hx hb dL_law_1110 rfl ?_
    refine lv_topi (fun z_25 ez_25 => ?_)
    obtain rfl : z_3 = z_25 := ez_3.trans ez_25.symm
    have hPc := hP.sub (ws' := [(m0, .inr (14, [.ref lc, .ref lp, .ref dl, .ref ff, .ref fb, .ref lw, .ref lo, .ref (em 1), .int 0]))]) [13] rfl
    have hDc := hD.sub (ws' := [(m0, .inr (14, [.ref lc, .ref lp, .ref dl, .ref ff, .ref fb, .ref lw, .ref lo, .ref (em 1), .int 0]))]) [13] (by decide) rfl
    have hKc := hK.sub (tys' := []) [] rfl
    have hFc := va_free (wc := [(m0, .inr (14, [.ref lc, .ref lp, .ref dl, .ref ff, .ref fb, .ref lw, .ref lo, .ref (em 1), .int 0]))]) hD hS hA [13] rfl
    refine va_calli (va_runV (As := [.int z_3]) (rest := []) ⟨hx, hb, hml, hown, hts⟩ (c_X8_type l em dC dI m0 z_3 (.ref lc) (.ref lp) (.ref dl) (.ref ff) (.ref fb) (.ref lw) (.ref lo) (.int 0) H.size) (cwV 1 hts gT_X8_type rfl rfl rfl (by decide +kernel) ⟨Nat.le_of_ble_eq_true rfl, Nat.le_of_ble_eq_true rfl⟩) ⟨Pw.blind _ _ _ _ _ _ _, va_recv hKc hPc (ci := 14) (q0 := 0) rfl rfl, fun U hU hW => ⟨rfl, Pw.go hPc hKc hDc hamb hS hFc hU hW⟩⟩ rfl rfl hl.1 rfl (lv_room (Nat.le_of_ble_eq_true rfl)) dL_law_1111 ⟨Nat.le_of_ble_eq_true rfl, Nat.le_of_ble_eq_true rfl⟩) hS (fun q _ h => hFc q h) hFc (fun r_26 u t H1 locs1 ht hvm hw hB hz1 hk1 hS => ?_)
    obtain ⟨tvx_27, tyvx_28, ⟨hP1, hK1, hD1⟩, f_29, f_30⟩ := hB
    rw [ht] at hP1
    have hK1 := va_K.moved hvm.symm hK1
    obtain ⟨hP, hD⟩ := va_join (wr := [(ca, .inl (cC, 16, .inr (.inr (.inr (.inr fC))))), (c0, .inr (7, [.ref th, u1, u2, .int 0, .int 0, .int 0, .int 0])), (th, .inl (cH, 4, .inl (fun _ => 0))), (dr, .inl (cO, 26, .inr (.inr (.inr (.inr fD))))), (rr, .inl (cI, 5, .inl (fun _ => 0))), (sf, .inr (10, [.int 0, sf1, .int 0, .int 0, .int 0, .int 1, .int 0])), (sb, .inr (10, [.int 1, sb1, .int 0, .int 0, .int 0, .int 1, .int 0])), (ra0, .inl (cR, 6, .inl (fun _ => 0))), (bk, .inr (6, [.ref a0, .ref a1, .ref a2, .ref mo, .int 0])), (a0, .inl (cB0, 8, .inl (fun _ => 0))), (a1, .inl (cB1, 8, .inl (fun _ => 0))), (a2, .inl (cB2, 8, .inl (fun _ => 0))), (mo, .inl (cM, 256, .inl (fun _ => 0))), (lc, .inr (5, [.int 0, .ref (em 0), .int 0])), (lp, .inr (5, [.int 0, .ref (em 0), .int 0])), (dl, .inl (cO8, 26, .inr (.inr (.inr (.inr fL))))), (rr8, .inl (cI8, 5, .inl (fun _ => 0))), (ff, .inr (13, [tf, .int 0, .int 0, .int 1, .int 0])), (fb, .inr (13, [tb, .int 0, .int 0, .int 1, .int 0])), (lw, .inr (5, [.int 0, .ref (em 0), .int 0])), (lo, .inr (5, [.int 0, .ref (em 0), .int 0])), (od, .inl (cOd, 1, .inr (.inr (.inr (.inl (fun _ => 0)))))), (ou, .inl (cOut, 1, .inr (.inl gOx_5)))]) (w1 := [(m0, .inr (14, [.ref lc, .ref lp, .ref dl, .ref ff, .ref fb, .ref lw, .ref lo, tyvx_28, .int tvx_27]))]) hP hD [13] [0, 1, 2, 3, 4, 5, 6, 7, 8, 9, 10, 11, 12, 14, 15, 16, 17, 18, 19, 20, 21, 22, 23] rfl rfl (by decide) (by decide) hk1 hFc hP1 hD1
    have hK := (hK.sub (tys' := [(cC, (.object "Bothfaces$Card")), (cH, .int), (cO, (.array .int)), (cI, .int), (cT, .int), (cR, .int), (cB0, .int), (cB1, .int), (cB2, .int), (cM, .int), (cO8, (.array .int)), (cI8, .int), (cOd, .double), (cOut, .long)]) [0, 1, 2, 3, 4, 5, 6, 7, 8, 9, 10, 11, 12, 13] rfl).app hK1
    generalize H1 = H at hP hS ⊢
    have hP : va_P (dC, dI) vwCl [(ca, .inl (cC, 16, .inr (.inr (.inr (.inr fC))))), (c0, .inr (7, [.ref th, u1, u2, .int 0, .int 0, .int 0, .int 0])), (th, .inl (cH, 4, .inl (fun _ => 0))), (dr, .inl (cO, 26, .inr (.inr (.inr (.inr fD))))), (rr, .inl (cI, 5, .inl (fun _ => 0))), (sf, .inr (10, [.int 0, sf1, .int 0, .int 0, .int 0, .int 1, .int 0])), (sb, .inr (10, [.int 1, sb1, .int 0, .int 0, .int 0, .int 1, .int 0])), (ra0, .inl (cR, 6, .inl (fun _ => 0))), (bk, .inr (6, [.ref a0, .ref a1, .ref a2, .ref mo, .int 0])), (a0, .inl (cB0, 8, .inl (fun _ => 0))), (a1, .inl (cB1, 8, .inl (fun _ => 0))), (a2, .inl (cB2, 8, .inl (fun _ => 0))), (mo, .inl (cM, 256, .inl (fun _ => 0))), (lc, .inr (5, [.int 0, .ref (em 0), .int 0])), (lp, .inr (5, [.int 0, .ref (em 0), .int 0])), (dl, .inl (cO8, 26, .inr (.inr (.inr (.inr fL))))), (rr8, .inl (cI8, 5, .inl (fun _ => 0))), (ff, .inr (13, [tf, .int 0, .int 0, .int 1, .int 0])), (fb, .inr (13, [tb, .int 0, .int 0, .int 1, .int 0])), (lw, .inr (5, [.int 0, .ref (em 0), .int 0])), (lo, .inr (5, [.int 0, .ref (em 0), .int 0])), (od, .inl (cOd, 1, .inr (.inr (.inr (.inl (fun _ => 0)))))), (ou, .inl (cOut, 1, .inr (.inl gOx_5))), (m0, .inr (14, [.ref lc, .ref lp, .ref dl, .ref ff, .ref fb, .ref lw, .ref lo, tyvx_28, .int tvx_27]))] H := hP
    have hD : va_D (fun q : Nat => s.heap.size ≤ q) [(ca, .inl (cC, 16, .inr (.inr (.inr (.inr fC))))), (c0, .inr (7, [.ref th, u1, u2, .int 0, .int 0, .int 0, .int 0])), (th, .inl (cH, 4, .inl (fun _ => 0))), (dr, .inl (cO, 26, .inr (.inr (.inr (.inr fD))))), (rr, .inl (cI, 5, .inl (fun _ => 0))), (sf, .inr (10, [.int 0, sf1, .int 0, .int 0, .int 0, .int 1, .int 0])), (sb, .inr (10, [.int 1, sb1, .int 0, .int 0, .int 0, .int 1, .int 0])), (ra0, .inl (cR, 6, .inl (fun _ => 0))), (bk, .inr (6, [.ref a0, .ref a1, .ref a2, .ref mo, .int 0])), (a0, .inl (cB0, 8, .inl (fun _ => 0))), (a1, .inl (cB1, 8, .inl (fun _ => 0))), (a2, .inl (cB2, 8, .inl (fun _ => 0))), (mo, .inl (cM, 256, .inl (fun _ => 0))), (lc, .inr (5, [.int 0, .ref (em 0), .int 0])), (lp, .inr (5, [.int 0, .ref (em 0), .int 0])), (dl, .inl (cO8, 26, .inr (.inr (.inr (.inr fL))))), (rr8, .inl (cI8, 5, .inl (fun _ => 0))), (ff, .inr (13, [tf, .int 0, .int 0, .int 1, .int 0])), (fb, .inr (13, [tb, .int 0, .int 0, .int 1, .int 0])), (lw, .inr (5, [.int 0, .ref (em 0), .int 0])), (lo, .inr (5, [.int 0, .ref (em 0), .int 0])), (od, .inl (cOd, 1, .inr (.inr (.inr (.inl (fun _ => 0)))))), (ou, .inl (cOut, 1, .inr (.inl gOx_5))), (m0, .inr (14, [.ref lc, .ref lp, .ref dl, .ref ff, .ref fb, .ref lw, .ref lo, tyvx_28, .int tvx_27]))] := hD
    have hK : va_K (dC, dI) vwCl [(cC, (.object "Bothfaces$Card")), (cH, .int), (cO, (.array .int)), (cI, .int), (cT, .int), (cR, .int), (cB0, .int), (cB1, .int), (cB2, .int), (cM, .int), (cO8, (.array .int)), (cI8, .int), (cOd, .double), (cOut, .long)] s := hK
    refine W.widen (k := 151) (n := 2218) (Nat.le_of_ble_eq_true rfl) (Nat.le_of_ble_eq_true rfl) ?_
    have hw : ((z_3.toInt < 97 ∨ 122 < z_3.toInt) → r_26 = 0) ∧ (¬ (z_3.toInt < 97 ∨ 122 < z_3.toInt) → r_26 = 1) := hw
    have hw := hw.2 t_7
    rw [hw]
    obtain rfl : tvx_27 = 0 := f_30 t_7
    refine lv_istore (lv' := [(7, .int 1), (6, .int 0), (5, .int 0), (4, .ref od), (3, .ref ou), (2, .ref m0), (1, .ref x0), (0, .ref b)]) hx hb dL_law_1114 hl (by decide) rfl (fun ls hl => ?_)
    refine lv_aload_n hx hb dL_law_1116 rfl (lv_at hl 5 rfl) ?_
    have hPc := hP.sub (ws' := [(m0, .inr (14, [.ref lc, .ref lp, .ref dl, .ref ff, .ref fb, .ref lw, .ref lo, tyvx_28, .int 0]))]) [23] rfl
    have hDc := hD.sub (ws' := [(m0, .inr (14, [.ref lc, .ref lp, .ref dl, .ref ff, .ref fb, .ref lw, .ref lo, tyvx_28, .int 0]))]) [23] (by decide) rfl
    have hKc := hK.sub (tys' := []) [] rfl
    have hFc := va_free (wc := [(m0, .inr (14, [.ref lc, .ref lp, .ref dl, .ref ff, .ref fb, .ref lw, .ref lo, tyvx_28, .int 0]))]) hD hS hA [23] rfl
    refine va_calli (va_runV (As := []) (rest := []) ⟨hx, hb, hml, hown, hts⟩ (c_X8_thrown l em dC dI m0 0 (.ref lc) (.ref lp) (.ref dl) (.ref ff) (.ref fb) (.ref lw) (.ref lo) tyvx_28 H.size) (cwV 0 hts gT_X8_thrown rfl rfl rfl (by decide +kernel) ⟨Nat.le_of_ble_eq_true rfl, Nat.le_of_ble_eq_true rfl⟩) ⟨Pw.blind _ _ _ _ _ _ _, va_recv hKc hPc (ci := 14) (q0 := 0) rfl rfl, fun U hU hW => ⟨rfl, Pw.go hPc hKc hDc hamb hS hFc hU hW⟩⟩ rfl rfl hl.1 rfl (lv_room (Nat.le_of_ble_eq_true rfl)) dL_law_1117 ⟨Nat.le_of_ble_eq_true rfl, Nat.le_of_ble_eq_true rfl⟩) hS (fun q _ h => hFc q h) hFc (fun r_32 u t H1 locs1 ht hvm hw hB hz1 hk1 hS => ?_)
    obtain ⟨hP, hD⟩ := va_rest (wr := [(ca, .inl (cC, 16, .inr (.inr (.inr (.inr fC))))), (c0, .inr (7, [.ref th, u1, u2, .int 0, .int 0, .int 0, .int 0])), (th, .inl (cH, 4, .inl (fun _ => 0))), (dr, .inl (cO, 26, .inr (.inr (.inr (.inr fD))))), (rr, .inl (cI, 5, .inl (fun _ => 0))), (sf, .inr (10, [.int 0, sf1, .int 0, .int 0, .int 0, .int 1, .int 0])), (sb, .inr (10, [.int 1, sb1, .int 0, .int 0, .int 0, .int 1, .int 0])), (ra0, .inl (cR, 6, .inl (fun _ => 0))), (bk, .inr (6, [.ref a0, .ref a1, .ref a2, .ref mo, .int 0])), (a0, .inl (cB0, 8, .inl (fun _ => 0))), (a1, .inl (cB1, 8, .inl (fun _ => 0))), (a2, .inl (cB2, 8, .inl (fun _ => 0))), (mo, .inl (cM, 256, .inl (fun _ => 0))), (lc, .inr (5, [.int 0, .ref (em 0), .int 0])), (lp, .inr (5, [.int 0, .ref (em 0), .int 0])), (dl, .inl (cO8, 26, .inr (.inr (.inr (.inr fL))))), (rr8, .inl (cI8, 5, .inl (fun _ => 0))), (ff, .inr (13, [tf, .int 0, .int 0, .int 1, .int 0])), (fb, .inr (13, [tb, .int 0, .int 0, .int 1, .int 0])), (lw, .inr (5, [.int 0, .ref (em 0), .int 0])), (lo, .inr (5, [.int 0, .ref (em 0), .int 0])), (od, .inl (cOd, 1, .inr (.inr (.inr (.inl (fun _ => 0)))))), (ou, .inl (cOut, 1, .inr (.inl gOx_5)))]) hP hD [23] [0, 1, 2, 3, 4, 5, 6, 7, 8, 9, 10, 11, 12, 13, 14, 15, 16, 17, 18, 19, 20, 21, 22] rfl rfl (by decide) (by decide) hk1 hFc
    generalize H1 = H at hP hS ⊢
    refine W.widen (k := 151) (n := 2218) (Nat.le_of_ble_eq_true rfl) (Nat.le_of_ble_eq_true rfl) ?_
    have hw : r_32 = 0 := hw
    rw [hw]
    refine lv_iload hx hb dL_law_1120 (lv_at hl 1 rfl) ?_
    refine lv_icmp_eq (tgt := 1127) hx hb dL_law_1122 (by decide) (fun c_33 => ?_) (fun c_33 => ?_)
    · refine lv_iload hx hb dL_law_1127 (lv_at hl 1 rfl) ?_
      refine lv_if_ne (tgt := 1144) hx hb dL_law_1129 (by decide) (fun c_34 => ?_) (fun c_34 => ?_)
      · exact absurd (by decide) c_34
      · refine lv_aload_n hx hb dL_law_1132 rfl (lv_at hl 4 rfl) ?_
        refine lv_iconst (v := 0) hx hb dL_law_1133 (by decide) ?_
        refine va_lald hx hb hK hP 22 13 rfl rfl (vp_in_iff.mpr ⟨by decide, by decide⟩) dL_law_1134 ?_
        refine lv_topl (fun k_35 ek_35 => ?_)
        obtain rfl : 1 = k_35 := (ek_35.trans (f_6 t_7)).symm
        refine lv_iload hx hb dL_law_1135 (lv_at hl 0 rfl) ?_
        refine lv_i2l (v := 1) hx hb dL_law_1137 (by decide) ?_
        refine W.lcmp hx hb dL_law_1138 ?_
        refine lv_topi (fun k_36 ek_36 => ?_)
        obtain rfl : k_36 = 0 := ek_36.trans (by decide)
        refine lv_if_eq (tgt := 1144) hx hb dL_law_1139 (by decide) (fun c_37 => ?_) (fun c_37 => ?_)
        · refine lv_goto (tgt := 2636) hx hb dL_law_1144 (by decide) ?_
          refine lv_iinc (v := 6) (lv' := [(5, .int 6), (7, .int 1), (6, .int 0), (4, .ref od), (3, .ref ou), (2, .ref m0), (1, .ref x0), (0, .ref b)]) hx hb dL_law_2636 hl (k := 2) rfl (by decide) (by decide) rfl (fun ls hl => ?_)
          refine lv_goto (tgt := 28) hx hb dL_law_2639 (by decide) ?_
          refine lv_iload hx hb dL_law_28 (lv_at hl 0 rfl) ?_
          refine lv_aload_n hx hb dL_law_30 rfl (lv_at hl 7 rfl) ?_
          refine va_slen hx hb hX hbl hbA hS dL_law_31 ?_
          refine lv_topi (fun n_38 en_38 => ?_)
          obtain rfl : n_38 = 6 := en_38.trans (by decide)
          refine lv_bipush (v := 6) hx hb dL_law_32 (by decide) ?_
          refine lv_isub hx hb dL_law_34 ?_
          refine lv_topi (fun k_39 ek_39 => ?_)
          obtain rfl : k_39 = 0 := ek_39.trans (by decide)
          refine lv_icmp_gt (tgt := 2642) hx hb dL_law_35 (by decide) (fun c_40 => ?_) (fun c_40 => ?_)
          · refine lv_iconst (v := 1) hx hb dL_law_2642 (by decide) ?_
            refine W.widen (k := 600006) (n := 7302072) (Nat.le_of_ble_eq_true rfl) (Nat.le_of_ble_eq_true rfl) ?_
            refine va_forget hS.2.2 ?_
            refine W.base ?_
            exact lw_ret (Drawn.sameBut.refl s.drawn lw_cs) hx hb hr hlocks dL_law_2643
          · exact absurd (by decide) c_40
        · exact absurd (by decide) c_37
    · exact absurd (by decide) c_33

set_option maxHeartbeats 4000000 in
set_option maxRecDepth 100000 in
theorem law_15 {p : Program} {e : Env} {s : State} {m : MethodId} {below : List Frame} {meth : Method} {c : Code} (l : Launch) (hlt : l.stackTraces = false) {b : Nat} {xs : Nat → Int32} (C0 : lw_At p s m meth c b 6 xs) (em : Nat → Nat) (dC : Nat → ClassId) (dI : Nat → Nat → Nat) (j : Nat) (hjj : ∀ z : Int32, z = ((xs 1).toUInt32 % 65536).toInt32 → 97 ≤ z.toInt → z.toInt ≤ 122 → (z - 97).toNatClampNeg = j) (x0 : Nat) (ca : Nat) (dr : Nat) (ty0 : Nat) (sf : Nat) (sb : Nat) (ra0 : Nat) (bk : Nat) (c0 : Nat) (th : Nat) (rr : Nat) (a0 : Nat) (a1 : Nat) (a2 : Nat) (mo : Nat) (vp : Value) (vm : Value) (u1 : Value) (u2 : Value) (sf1 : Value) (sb1 : Value) (fC : Nat → Option Nat) (fD : Nat → Option Nat) (cC : ClassId) (cH : ClassId) (cO : ClassId) (cI : ClassId) (cT : ClassId) (cR : ClassId) (cB0 : ClassId) (cB1 : ClassId) (cB2 : ClassId) (cM : ClassId) (m0 : Nat) (lc : Nat) (lp : Nat) (dl : Nat) (rr8 : Nat) (ff : Nat) (fb : Nat) (lw : Nat) (lo : Nat) (tf : Value) (tb : Value) (fL : Nat → Option Nat) (cO8 : ClassId) (cI8 : ClassId) (ou : Nat) (od : Nat) (cOut : ClassId) (cOd : ClassId) (hfC : fC 0 = some c0) (hfD : fD j = some rr) (hfL : fL j = some rr8) {H : Heap} {locs : List Loc} (hamb : amb em (fun q : Nat => s.heap.size ≤ q) s s.heap) (hK : va_K (dC, dI) vwCl [(cC, (.object "Bothfaces$Card")), (cH, .int), (cO, (.array .int)), (cI, .int), (cT, .int), (cR, .int), (cB0, .int), (cB1, .int), (cB2, .int), (cM, .int), (cO8, (.array .int)), (cI8, .int), (cOut, .long), (cOd, .double)] s) (hP : va_P (dC, dI) vwCl [(x0, .inr (11, [.ref ca, .int 0, .int 0, .ref dr, .ref ty0, .int 0, .ref sf, .ref sb, vp, vm, .ref ra0, .int 0, .ref bk])), (ca, .inl (cC, 16, .inr (.inr (.inr (.inr fC))))), (c0, .inr (7, [.ref th, u1, u2, .int 0, .int 0, .int 0, .int 0])), (th, .inl (cH, 4, .inl (fun _ => 0))), (dr, .inl (cO, 26, .inr (.inr (.inr (.inr fD))))), (rr, .inl (cI, 5, .inl (fun _ => 0))), (ty0, .inl (cT, 8, .inl (fun _ => 0))), (sf, .inr (10, [.int 0, sf1, .int 0, .int 0, .int 0, .int 1, .int 0])), (sb, .inr (10, [.int 1, sb1, .int 0, .int 0, .int 0, .int 1, .int 0])), (ra0, .inl (cR, 6, .inl (fun _ => 0))), (bk, .inr (6, [.ref a0, .ref a1, .ref a2, .ref mo, .int 0])), (a0, .inl (cB0, 8, .inl (fun _ => 0))), (a1, .inl (cB1, 8, .inl (fun _ => 0))), (a2, .inl (cB2, 8, .inl (fun _ => 0))), (mo, .inl (cM, 256, .inl (fun _ => 0))), (m0, .inr (14, [.ref lc, .ref lp, .ref dl, .ref ff, .ref fb, .ref lw, .ref lo, .ref (em 1), .int 0])), (lc, .inr (5, [.int 0, .ref (em 0), .int 0])), (lp, .inr (5, [.int 0, .ref (em 0), .int 0])), (dl, .inl (cO8, 26, .inr (.inr (.inr (.inr fL))))), (rr8, .inl (cI8, 5, .inl (fun _ => 0))), (ff, .inr (13, [tf, .int 0, .int 0, .int 1, .int 0])), (fb, .inr (13, [tb, .int 0, .int 0, .int 1, .int 0])), (lw, .inr (5, [.int 0, .ref (em 0), .int 0])), (lo, .inr (5, [.int 0, .ref (em 0), .int 0])), (ou, .inl (cOut, 1, .inr (.inl (fun _ => 0)))), (od, .inl (cOd, 1, .inr (.inr (.inr (.inl (fun _ => 0))))))] H) (hD : va_D (fun q : Nat => s.heap.size ≤ q) [(x0, .inr (11, [.ref ca, .int 0, .int 0, .ref dr, .ref ty0, .int 0, .ref sf, .ref sb, vp, vm, .ref ra0, .int 0, .ref bk])), (ca, .inl (cC, 16, .inr (.inr (.inr (.inr fC))))), (c0, .inr (7, [.ref th, u1, u2, .int 0, .int 0, .int 0, .int 0])), (th, .inl (cH, 4, .inl (fun _ => 0))), (dr, .inl (cO, 26, .inr (.inr (.inr (.inr fD))))), (rr, .inl (cI, 5, .inl (fun _ => 0))), (ty0, .inl (cT, 8, .inl (fun _ => 0))), (sf, .inr (10, [.int 0, sf1, .int 0, .int 0, .int 0, .int 1, .int 0])), (sb, .inr (10, [.int 1, sb1, .int 0, .int 0, .int 0, .int 1, .int 0])), (ra0, .inl (cR, 6, .inl (fun _ => 0))), (bk, .inr (6, [.ref a0, .ref a1, .ref a2, .ref mo, .int 0])), (a0, .inl (cB0, 8, .inl (fun _ => 0))), (a1, .inl (cB1, 8, .inl (fun _ => 0))), (a2, .inl (cB2, 8, .inl (fun _ => 0))), (mo, .inl (cM, 256, .inl (fun _ => 0))), (m0, .inr (14, [.ref lc, .ref lp, .ref dl, .ref ff, .ref fb, .ref lw, .ref lo, .ref (em 1), .int 0])), (lc, .inr (5, [.int 0, .ref (em 0), .int 0])), (lp, .inr (5, [.int 0, .ref (em 0), .int 0])), (dl, .inl (cO8, 26, .inr (.inr (.inr (.inr fL))))), (rr8, .inl (cI8, 5, .inl (fun _ => 0))), (ff, .inr (13, [tf, .int 0, .int 0, .int 1, .int 0])), (fb, .inr (13, [tb, .int 0, .int 0, .int 1, .int 0])), (lw, .inr (5, [.int 0, .ref (em 0), .int 0])), (lo, .inr (5, [.int 0, .ref (em 0), .int 0])), (ou, .inl (cOut, 1, .inr (.inl (fun _ => 0)))), (od, .inl (cOd, 1, .inr (.inr (.inr (.inl (fun _ => 0))))))]) (hS : va_S (fun q : Nat => s.heap.size ≤ q) s.heap H locs) {ls : Array Slot} (hl : lv_has ls 9 [(5, .int 0), (4, .ref od), (3, .ref ou), (2, .ref m0), (1, .ref x0), (0, .ref b)]) : W p l e room_1 s m #[Value.ref b] below meth c H locs 146 2187 (lw_Z below #[Value.ref b] s) (F0 m 1147 ls []) := by
  obtain ⟨hx, hb, hr, hml, hown0, hts0, hX, hbl, hlocks, hgv⟩ := id C0
  have hts := ow_hts hts0
  have hown : s.vm.findClass RL = some m.cls := hown0
  have hA : ∀ q : Nat, s.heap.size ≤ q → (fun q : Nat => s.heap.size ≤ q) q := fun _ h => h
  have hbA : ¬ (fun q : Nat => s.heap.size ≤ q) b := Nat.not_le.mpr hbl
  refine lv_aload_n hx hb dL_law_1147 rfl (lv_at hl 4 rfl) ?_
  have hPc := hP.sub (ws' := [(x0, .inr (11, [.ref ca, .int 0, .int 0, .ref dr, .ref ty0, .int 0, .ref sf, .ref sb, vp, vm, .ref ra0, .int 0, .ref bk]))]) [0] rfl
  have hDc := hD.sub (ws' := [(x0, .inr (11, [.ref ca, .int 0, .int 0, .ref dr, .ref ty0, .int 0, .ref sf, .ref sb, vp, vm, .ref ra0, .int 0, .ref bk]))]) [0] (by decide) rfl
  have hKc := hK.sub (tys' := []) [] rfl
  have hFc := va_free (wc := [(x0, .inr (11, [.ref ca, .int 0, .int 0, .ref dr, .ref ty0, .int 0, .ref sf, .ref sb, vp, vm, .ref ra0, .int 0, .ref bk]))]) hD hS hA [0] rfl
  refine va_calli (va_runV (As := []) (rest := []) ⟨hx, hb, hml, hown, hts⟩ (c_X5_wipe l em dC dI x0 (.ref ca) (.int 0) (.int 0) (.ref dr) (.ref ty0) (.ref sf) (.ref sb) vp vm (.ref ra0) (.int 0) (.ref bk) H.size) (cwV 0 hts gT_X5_wipe rfl rfl rfl (by decide +kernel) ⟨Nat.le_of_ble_eq_true rfl, Nat.le_of_ble_eq_true rfl⟩) ⟨Pw.blind _ _ _ _ _ _ _, va_recv hKc hPc (ci := 11) (q0 := 0) rfl rfl, fun U hU hW => ⟨rfl, Pw.go hPc hKc hDc hamb hS hFc hU hW⟩⟩ rfl rfl hl.1 rfl (lv_room (Nat.le_of_ble_eq_true rfl)) dL_law_1148 ⟨Nat.le_of_ble_eq_true rfl, Nat.le_of_ble_eq_true rfl⟩) hS (fun q _ h => hFc q h) hFc (fun r_1 u t H1 locs1 ht hvm hw hB hz1 hk1 hS => ?_)
  obtain ⟨hP, hD⟩ := va_rest (wr := [(ca, .inl (cC, 16, .inr (.inr (.inr (.inr fC))))), (c0, .inr (7, [.ref th, u1, u2, .int 0, .int 0, .int 0, .int 0])), (th, .inl (cH, 4, .inl (fun _ => 0))), (dr, .inl (cO, 26, .inr (.inr (.inr (.inr fD))))), (rr, .inl (cI, 5, .inl (fun _ => 0))), (ty0, .inl (cT, 8, .inl (fun _ => 0))), (sf, .inr (10, [.int 0, sf1, .int 0, .int 0, .int 0, .int 1, .int 0])), (sb, .inr (10, [.int 1, sb1, .int 0, .int 0, .int 0, .int 1, .int 0])), (ra0, .inl (cR, 6, .inl (fun _ => 0))), (bk, .inr (6, [.ref a0, .ref a1, .ref a2, .ref mo, .int 0])), (a0, .inl (cB0, 8, .inl (fun _ => 0))), (a1, .inl (cB1, 8, .inl (fun _ => 0))), (a2, .inl (cB2, 8, .inl (fun _ => 0))), (mo, .inl (cM, 256, .inl (fun _ => 0))), (m0, .inr (14, [.ref lc, .ref lp, .ref dl, .ref ff, .ref fb, .ref lw, .ref lo, .ref (em 1), .int 0])), (lc, .inr (5, [.int 0, .ref (em 0), .int 0])), (lp, .inr (5, [.int 0, .ref (em 0), .int 0])), (dl, .inl (cO8, 26, .inr (.inr (.inr (.inr fL))))), (rr8, .inl (cI8, 5, .inl (fun _ => 0))), (ff, .inr (13, [tf, .int 0, .int 0, .int 1, .int 0])), (fb, .inr (13, [tb, .int 0, .int 0, .int 1, .int 0])), (lw, .inr (5, [.int 0, .ref (em 0), .int 0])), (lo, .inr (5, [.int 0, .ref (em 0), .int 0])), (ou, .inl (cOut, 1, .inr (.inl (fun _ => 0)))), (od, .inl (cOd, 1, .inr (.inr (.inr (.inl (fun _ => 0))))))]) hP hD [0] [1, 2, 3, 4, 5, 6, 7, 8, 9, 10, 11, 12, 13, 14, 15, 16, 17, 18, 19, 20, 21, 22, 23, 24, 25] rfl rfl (by decide) (by decide) hk1 hFc
  generalize H1 = H at hP hS ⊢
  refine W.widen (k := 146) (n := 2187) (Nat.le_of_ble_eq_true rfl) (Nat.le_of_ble_eq_true rfl) ?_
  have hw : r_1 = 0 := hw
  rw [hw]
  refine lv_aload_n hx hb dL_law_1151 rfl (lv_at hl 3 rfl) ?_
  have hPc := hP.sub (ws' := [(m0, .inr (14, [.ref lc, .ref lp, .ref dl, .ref ff, .ref fb, .ref lw, .ref lo, .ref (em 1), .int 0]))]) [14] rfl
  have hDc := hD.sub (ws' := [(m0, .inr (14, [.ref lc, .ref lp, .ref dl, .ref ff, .ref fb, .ref lw, .ref lo, .ref (em 1), .int 0]))]) [14] (by decide) rfl
  have hKc := hK.sub (tys' := []) [] rfl
  have hFc := va_free (wc := [(m0, .inr (14, [.ref lc, .ref lp, .ref dl, .ref ff, .ref fb, .ref lw, .ref lo, .ref (em 1), .int 0]))]) hD hS hA [14] rfl
  refine va_calli (va_runV (As := []) (rest := [.int 0]) ⟨hx, hb, hml, hown, hts⟩ (c_X8_wipe l em dC dI m0 (.ref lc) (.ref lp) (.ref dl) (.ref ff) (.ref fb) (.ref lw) (.ref lo) (.int 0) H.size) (cwV 0 hts gT_X8_wipe rfl rfl rfl (by decide +kernel) ⟨Nat.le_of_ble_eq_true rfl, Nat.le_of_ble_eq_true rfl⟩) ⟨Pw.blind _ _ _ _ _ _ _, va_recv hKc hPc (ci := 14) (q0 := 0) rfl rfl, fun U hU hW => ⟨rfl, Pw.go hPc hKc hDc hamb hS hFc hU hW⟩⟩ rfl rfl hl.1 rfl (lv_room (Nat.le_of_ble_eq_true rfl)) dL_law_1152 ⟨Nat.le_of_ble_eq_true rfl, Nat.le_of_ble_eq_true rfl⟩) hS (fun q _ h => hFc q h) hFc (fun r_2 u t H1 locs1 ht hvm hw hB hz1 hk1 hS => ?_)
  obtain ⟨hP1, hK1, hD1⟩ := hB
  rw [ht] at hP1
  have hK1 := va_K.moved hvm.symm hK1
  obtain ⟨hP, hD⟩ := va_join (wr := [(ca, .inl (cC, 16, .inr (.inr (.inr (.inr fC))))), (c0, .inr (7, [.ref th, u1, u2, .int 0, .int 0, .int 0, .int 0])), (th, .inl (cH, 4, .inl (fun _ => 0))), (dr, .inl (cO, 26, .inr (.inr (.inr (.inr fD))))), (rr, .inl (cI, 5, .inl (fun _ => 0))), (ty0, .inl (cT, 8, .inl (fun _ => 0))), (sf, .inr (10, [.int 0, sf1, .int 0, .int 0, .int 0, .int 1, .int 0])), (sb, .inr (10, [.int 1, sb1, .int 0, .int 0, .int 0, .int 1, .int 0])), (ra0, .inl (cR, 6, .inl (fun _ => 0))), (bk, .inr (6, [.ref a0, .ref a1, .ref a2, .ref mo, .int 0])), (a0, .inl (cB0, 8, .inl (fun _ => 0))), (a1, .inl (cB1, 8, .inl (fun _ => 0))), (a2, .inl (cB2, 8, .inl (fun _ => 0))), (mo, .inl (cM, 256, .inl (fun _ => 0))), (lc, .inr (5, [.int 0, .ref (em 0), .int 0])), (lp, .inr (5, [.int 0, .ref (em 0), .int 0])), (dl, .inl (cO8, 26, .inr (.inr (.inr (.inr fL))))), (rr8, .inl (cI8, 5, .inl (fun _ => 0))), (ff, .inr (13, [tf, .int 0, .int 0, .int 1, .int 0])), (fb, .inr (13, [tb, .int 0, .int 0, .int 1, .int 0])), (lw, .inr (5, [.int 0, .ref (em 0), .int 0])), (lo, .inr (5, [.int 0, .ref (em 0), .int 0])), (ou, .inl (cOut, 1, .inr (.inl (fun _ => 0)))), (od, .inl (cOd, 1, .inr (.inr (.inr (.inl (fun _ => 0))))))]) (w1 := [(m0, .inr (14, [.ref lc, .ref lp, .ref dl, .ref ff, .ref fb, .ref lw, .ref lo, .ref (em 1), .int 0]))]) hP hD [14] [0, 1, 2, 3, 4, 5, 6, 7, 8, 9, 10, 11, 12, 13, 15, 16, 17, 18, 19, 20, 21, 22, 23, 24] rfl rfl (by decide) (by decide) hk1 hFc hP1 hD1
  have hK := (hK.sub (tys' := [(cC, (.object "Bothfaces$Card")), (cH, .int), (cO, (.array .int)), (cI, .int), (cT, .int), (cR, .int), (cB0, .int), (cB1, .int), (cB2, .int), (cM, .int), (cO8, (.array .int)), (cI8, .int), (cOut, .long), (cOd, .double)]) [0, 1, 2, 3, 4, 5, 6, 7, 8, 9, 10, 11, 12, 13] rfl).app hK1
  generalize H1 = H at hP hS ⊢
  have hP : va_P (dC, dI) vwCl [(ca, .inl (cC, 16, .inr (.inr (.inr (.inr fC))))), (c0, .inr (7, [.ref th, u1, u2, .int 0, .int 0, .int 0, .int 0])), (th, .inl (cH, 4, .inl (fun _ => 0))), (dr, .inl (cO, 26, .inr (.inr (.inr (.inr fD))))), (rr, .inl (cI, 5, .inl (fun _ => 0))), (ty0, .inl (cT, 8, .inl (fun _ => 0))), (sf, .inr (10, [.int 0, sf1, .int 0, .int 0, .int 0, .int 1, .int 0])), (sb, .inr (10, [.int 1, sb1, .int 0, .int 0, .int 0, .int 1, .int 0])), (ra0, .inl (cR, 6, .inl (fun _ => 0))), (bk, .inr (6, [.ref a0, .ref a1, .ref a2, .ref mo, .int 0])), (a0, .inl (cB0, 8, .inl (fun _ => 0))), (a1, .inl (cB1, 8, .inl (fun _ => 0))), (a2, .inl (cB2, 8, .inl (fun _ => 0))), (mo, .inl (cM, 256, .inl (fun _ => 0))), (lc, .inr (5, [.int 0, .ref (em 0), .int 0])), (lp, .inr (5, [.int 0, .ref (em 0), .int 0])), (dl, .inl (cO8, 26, .inr (.inr (.inr (.inr fL))))), (rr8, .inl (cI8, 5, .inl (fun _ => 0))), (ff, .inr (13, [tf, .int 0, .int 0, .int 1, .int 0])), (fb, .inr (13, [tb, .int 0, .int 0, .int 1, .int 0])), (lw, .inr (5, [.int 0, .ref (em 0), .int 0])), (lo, .inr (5, [.int 0, .ref (em 0), .int 0])), (ou, .inl (cOut, 1, .inr (.inl (fun _ => 0)))), (od, .inl (cOd, 1, .inr (.inr (.inr (.inl (fun _ => 0)))))), (m0, .inr (14, [.ref lc, .ref lp, .ref dl, .ref ff, .ref fb, .ref lw, .ref lo, .ref (em 1), .int 0]))] H := hP
  have hD : va_D (fun q : Nat => s.heap.size ≤ q) [(ca, .inl (cC, 16, .inr (.inr (.inr (.inr fC))))), (c0, .inr (7, [.ref th, u1, u2, .int 0, .int 0, .int 0, .int 0])), (th, .inl (cH, 4, .inl (fun _ => 0))), (dr, .inl (cO, 26, .inr (.inr (.inr (.inr fD))))), (rr, .inl (cI, 5, .inl (fun _ => 0))), (ty0, .inl (cT, 8, .inl (fun _ => 0))), (sf, .inr (10, [.int 0, sf1, .int 0, .int 0, .int 0, .int 1, .int 0])), (sb, .inr (10, [.int 1, sb1, .int 0, .int 0, .int 0, .int 1, .int 0])), (ra0, .inl (cR, 6, .inl (fun _ => 0))), (bk, .inr (6, [.ref a0, .ref a1, .ref a2, .ref mo, .int 0])), (a0, .inl (cB0, 8, .inl (fun _ => 0))), (a1, .inl (cB1, 8, .inl (fun _ => 0))), (a2, .inl (cB2, 8, .inl (fun _ => 0))), (mo, .inl (cM, 256, .inl (fun _ => 0))), (lc, .inr (5, [.int 0, .ref (em 0), .int 0])), (lp, .inr (5, [.int 0, .ref (em 0), .int 0])), (dl, .inl (cO8, 26, .inr (.inr (.inr (.inr fL))))), (rr8, .inl (cI8, 5, .inl (fun _ => 0))), (ff, .inr (13, [tf, .int 0, .int 0, .int 1, .int 0])), (fb, .inr (13, [tb, .int 0, .int 0, .int 1, .int 0])), (lw, .inr (5, [.int 0, .ref (em 0), .int 0])), (lo, .inr (5, [.int 0, .ref (em 0), .int 0])), (ou, .inl (cOut, 1, .inr (.inl (fun _ => 0)))), (od, .inl (cOd, 1, .inr (.inr (.inr (.inl (fun _ => 0)))))), (m0, .inr (14, [.ref lc, .ref lp, .ref dl, .ref ff, .ref fb, .ref lw, .ref lo, .ref (em 1), .int 0]))] := hD
  have hK : va_K (dC, dI) vwCl [(cC, (.object "Bothfaces$Card")), (cH, .int), (cO, (.array .int)), (cI, .int), (cT, .int), (cR, .int), (cB0, .int), (cB1, .int), (cB2, .int), (cM, .int), (cO8, (.array .int)), (cI8, .int), (cOut, .long), (cOd, .double)] s := hK
  refine W.widen (k := 146) (n := 2187) (Nat.le_of_ble_eq_true rfl) (Nat.le_of_ble_eq_true rfl) ?_
  have hw : r_2 = 0 := hw
  rw [hw]
  refine lv_icmp_eq (tgt := 2636) hx hb dL_law_1155 (by decide) (fun c_3 => ?_) (fun c_3 => ?_)
  · refine lv_iinc (v := 6) (lv' := [(5, .int 6), (4, .ref od), (3, .ref ou), (2, .ref m0), (1, .ref x0), (0, .ref b)]) hx hb dL_law_2636 hl (k := 0) rfl (by decide) (by decide) rfl (fun ls hl => ?_)
    refine lv_goto (tgt := 28) hx hb dL_law_2639 (by decide) ?_
    refine lv_iload hx hb dL_law_28 (lv_at hl 0 rfl) ?_
    refine lv_aload_n hx hb dL_law_30 rfl (lv_at hl 5 rfl) ?_
    refine va_slen hx hb hX hbl hbA hS dL_law_31 ?_
    refine lv_topi (fun n_4 en_4 => ?_)
    obtain rfl : n_4 = 6 := en_4.trans (by decide)
    refine lv_bipush (v := 6) hx hb dL_law_32 (by decide) ?_
    refine lv_isub hx hb dL_law_34 ?_
    refine lv_topi (fun k_5 ek_5 => ?_)
    obtain rfl : k_5 = 0 := ek_5.trans (by decide)
    refine lv_icmp_gt (tgt := 2642) hx hb dL_law_35 (by decide) (fun c_6 => ?_) (fun c_6 => ?_)
    · refine lv_iconst (v := 1) hx hb dL_law_2642 (by decide) ?_
      refine W.widen (k := 600006) (n := 7302072) (Nat.le_of_ble_eq_true rfl) (Nat.le_of_ble_eq_true rfl) ?_
      refine va_forget hS.2.2 ?_
      refine W.base ?_
      exact lw_ret (Drawn.sameBut.refl s.drawn lw_cs) hx hb hr hlocks dL_law_2643
    · exact absurd (by decide) c_6
  · exact absurd (by decide) c_3

set_option maxHeartbeats 4000000 in
set_option maxRecDepth 100000 in
theorem law_16 {p : Program} {e : Env} {s : State} {m : MethodId} {below : List Frame} {meth : Method} {c : Code} (l : Launch) (hlt : l.stackTraces = false) {b : Nat} {xs : Nat → Int32} (C0 : lw_At p s m meth c b 6 xs) (em : Nat → Nat) (dC : Nat → ClassId) (dI : Nat → Nat → Nat) (j : Nat) (hjj : ∀ z : Int32, z = ((xs 1).toUInt32 % 65536).toInt32 → 97 ≤ z.toInt → z.toInt ≤ 122 → (z - 97).toNatClampNeg = j) (x0 : Nat) (ca : Nat) (dr : Nat) (ty0 : Nat) (sf : Nat) (sb : Nat) (ra0 : Nat) (bk : Nat) (c0 : Nat) (th : Nat) (rr : Nat) (a0 : Nat) (a1 : Nat) (a2 : Nat) (mo : Nat) (vp : Value) (vm : Value) (u1 : Value) (u2 : Value) (sf1 : Value) (sb1 : Value) (fC : Nat → Option Nat) (fD : Nat → Option Nat) (cC : ClassId) (cH : ClassId) (cO : ClassId) (cI : ClassId) (cT : ClassId) (cR : ClassId) (cB0 : ClassId) (cB1 : ClassId) (cB2 : ClassId) (cM : ClassId) (m0 : Nat) (lc : Nat) (lp : Nat) (dl : Nat) (rr8 : Nat) (ff : Nat) (fb : Nat) (lw : Nat) (lo : Nat) (tf : Value) (tb : Value) (fL : Nat → Option Nat) (cO8 : ClassId) (cI8 : ClassId) (ou : Nat) (od : Nat) (cOut : ClassId) (cOd : ClassId) (hfC : fC 0 = some c0) (hfD : fD j = some rr) (hfL : fL j = some rr8) {H : Heap} {locs : List Loc} (hamb : amb em (fun q : Nat => s.heap.size ≤ q) s s.heap) (hK : va_K (dC, dI) vwCl [(cC, (.object "Bothfaces$Card")), (cH, .int), (cO, (.array .int)), (cI, .int), (cT, .int), (cR, .int), (cB0, .int), (cB1, .int), (cB2, .int), (cM, .int), (cO8, (.array .int)), (cI8, .int), (cOut, .long), (cOd, .double)] s) (hP : va_P (dC, dI) vwCl [(x0, .inr (11, [.ref ca, .int 0, .int 0, .ref dr, .ref ty0, .int 0, .ref sf, .ref sb, vp, vm, .ref ra0, .int 0, .ref bk])), (ca, .inl (cC, 16, .inr (.inr (.inr (.inr fC))))), (c0, .inr (7, [.ref th, u1, u2, .int 0, .int 0, .int 0, .int 0])), (th, .inl (cH, 4, .inl (fun _ => 0))), (dr, .inl (cO, 26, .inr (.inr (.inr (.inr fD))))), (rr, .inl (cI, 5, .inl (fun _ => 0))), (ty0, .inl (cT, 8, .inl (fun _ => 0))), (sf, .inr (10, [.int 0, sf1, .int 0, .int 0, .int 0, .int 1, .int 0])), (sb, .inr (10, [.int 1, sb1, .int 0, .int 0, .int 0, .int 1, .int 0])), (ra0, .inl (cR, 6, .inl (fun _ => 0))), (bk, .inr (6, [.ref a0, .ref a1, .ref a2, .ref mo, .int 0])), (a0, .inl (cB0, 8, .inl (fun _ => 0))), (a1, .inl (cB1, 8, .inl (fun _ => 0))), (a2, .inl (cB2, 8, .inl (fun _ => 0))), (mo, .inl (cM, 256, .inl (fun _ => 0))), (m0, .inr (14, [.ref lc, .ref lp, .ref dl, .ref ff, .ref fb, .ref lw, .ref lo, .ref (em 1), .int 0])), (lc, .inr (5, [.int 0, .ref (em 0), .int 0])), (lp, .inr (5, [.int 0, .ref (em 0), .int 0])), (dl, .inl (cO8, 26, .inr (.inr (.inr (.inr fL))))), (rr8, .inl (cI8, 5, .inl (fun _ => 0))), (ff, .inr (13, [tf, .int 0, .int 0, .int 1, .int 0])), (fb, .inr (13, [tb, .int 0, .int 0, .int 1, .int 0])), (lw, .inr (5, [.int 0, .ref (em 0), .int 0])), (lo, .inr (5, [.int 0, .ref (em 0), .int 0])), (ou, .inl (cOut, 1, .inr (.inl (fun _ => 0)))), (od, .inl (cOd, 1, .inr (.inr (.inr (.inl (fun _ => 0))))))] H) (hD : va_D (fun q : Nat => s.heap.size ≤ q) [(x0, .inr (11, [.ref ca, .int 0, .int 0, .ref dr, .ref ty0, .int 0, .ref sf, .ref sb, vp, vm, .ref ra0, .int 0, .ref bk])), (ca, .inl (cC, 16, .inr (.inr (.inr (.inr fC))))), (c0, .inr (7, [.ref th, u1, u2, .int 0, .int 0, .int 0, .int 0])), (th, .inl (cH, 4, .inl (fun _ => 0))), (dr, .inl (cO, 26, .inr (.inr (.inr (.inr fD))))), (rr, .inl (cI, 5, .inl (fun _ => 0))), (ty0, .inl (cT, 8, .inl (fun _ => 0))), (sf, .inr (10, [.int 0, sf1, .int 0, .int 0, .int 0, .int 1, .int 0])), (sb, .inr (10, [.int 1, sb1, .int 0, .int 0, .int 0, .int 1, .int 0])), (ra0, .inl (cR, 6, .inl (fun _ => 0))), (bk, .inr (6, [.ref a0, .ref a1, .ref a2, .ref mo, .int 0])), (a0, .inl (cB0, 8, .inl (fun _ => 0))), (a1, .inl (cB1, 8, .inl (fun _ => 0))), (a2, .inl (cB2, 8, .inl (fun _ => 0))), (mo, .inl (cM, 256, .inl (fun _ => 0))), (m0, .inr (14, [.ref lc, .ref lp, .ref dl, .ref ff, .ref fb, .ref lw, .ref lo, .ref (em 1), .int 0])), (lc, .inr (5, [.int 0, .ref (em 0), .int 0])), (lp, .inr (5, [.int 0, .ref (em 0), .int 0])), (dl, .inl (cO8, 26, .inr (.inr (.inr (.inr fL))))), (rr8, .inl (cI8, 5, .inl (fun _ => 0))), (ff, .inr (13, [tf, .int 0, .int 0, .int 1, .int 0])), (fb, .inr (13, [tb, .int 0, .int 0, .int 1, .int 0])), (lw, .inr (5, [.int 0, .ref (em 0), .int 0])), (lo, .inr (5, [.int 0, .ref (em 0), .int 0])), (ou, .inl (cOut, 1, .inr (.inl (fun _ => 0)))), (od, .inl (cOd, 1, .inr (.inr (.inr (.inl (fun _ => 0))))))]) (hS : va_S (fun q : Nat => s.heap.size ≤ q) s.heap H locs) {ls : Array Slot} (hl : lv_has ls 9 [(5, .int 0), (4, .ref od), (3, .ref ou), (2, .ref m0), (1, .ref x0), (0, .ref b)]) : W p l e room_1 s m #[Value.ref b] below meth c H locs 146 2187 (lw_Z below #[Value.ref b] s) (F0 m 1160 ls []) := by
  obtain ⟨hx, hb, hr, hml, hown0, hts0, hX, hbl, hlocks, hgv⟩ := id C0
  have hts := ow_hts hts0
  have hown : s.vm.findClass RL = some m.cls := hown0
  have hA : ∀ q : Nat, s.heap.size ≤ q → (fun q : Nat => s.heap.size ≤ q) q := fun _ h => h
  have hbA : ¬ (fun q : Nat => s.heap.size ≤ q) b := Nat.not_le.mpr hbl
  refine lv_aload_n hx hb dL_law_1160 rfl (lv_at hl 4 rfl) ?_
  refine lv_aload_n hx hb dL_law_1161 rfl (lv_at hl 5 rfl) ?_
  refine lv_iload hx hb dL_law_1162 (lv_at hl 0 rfl) ?_
  refine lv_iconst (v := 1) hx hb dL_law_1164 (by decide) ?_
  refine lv_iadd hx hb dL_law_1165 ?_
  refine lv_topi (fun k_1 ek_1 => ?_)
  obtain rfl : k_1 = 1 := ek_1.trans (by decide)
  refine va_sld hx hb hX hbl hbA hS (vp_in_iff.mpr ⟨by decide, by decide⟩) dL_law_1166 ?_
  refine lv_topi (fun y_2 ey_2 => ?_)
  have ey_2 : y_2 = xs 1 := ey_2
  refine lv_if_eq (tgt := 1174) hx hb dL_law_1167 (by decide) (fun c_3 => ?_) (fun c_3 => ?_)
  · refine lv_iconst (v := 0) hx hb dL_law_1174 (by decide) ?_
    refine lv_aload_n hx hb dL_law_1175 rfl (lv_at hl 5 rfl) ?_
    refine lv_iload hx hb dL_law_1176 (lv_at hl 0 rfl) ?_
    refine lv_iconst (v := 2) hx hb dL_law_1178 (by decide) ?_
    refine lv_iadd hx hb dL_law_1179 ?_
    refine lv_topi (fun k_4 ek_4 => ?_)
    obtain rfl : k_4 = 2 := ek_4.trans (by decide)
    refine va_sld hx hb hX hbl hbA hS (vp_in_iff.mpr ⟨by decide, by decide⟩) dL_law_1180 ?_
    refine lv_topi (fun y_5 ey_5 => ?_)
    have ey_5 : y_5 = xs 2 := ey_5
    refine lv_aload_n hx hb dL_law_1181 rfl (lv_at hl 5 rfl) ?_
    refine lv_iload hx hb dL_law_1182 (lv_at hl 0 rfl) ?_
    refine lv_iconst (v := 3) hx hb dL_law_1184 (by decide) ?_
    refine lv_iadd hx hb dL_law_1185 ?_
    refine lv_topi (fun k_6 ek_6 => ?_)
    obtain rfl : k_6 = 3 := ek_6.trans (by decide)
    refine va_sld hx hb hX hbl hbA hS (vp_in_iff.mpr ⟨by decide, by decide⟩) dL_law_1186 ?_
    refine lv_topi (fun y_7 ey_7 => ?_)
    have ey_7 : y_7 = xs 3 := ey_7
    refine lv_aload_n hx hb dL_law_1187 rfl (lv_at hl 2 rfl) ?_
    have hPc := hP.sub (ws' := [(x0, .inr (11, [.ref ca, .int 0, .int 0, .ref dr, .ref ty0, .int 0, .ref sf, .ref sb, vp, vm, .ref ra0, .int 0, .ref bk])), (ou, .inl (cOut, 1, .inr (.inl (fun _ => 0))))]) [0, 24] rfl
    have hDc := hD.sub (ws' := [(x0, .inr (11, [.ref ca, .int 0, .int 0, .ref dr, .ref ty0, .int 0, .ref sf, .ref sb, vp, vm, .ref ra0, .int 0, .ref bk])), (ou, .inl (cOut, 1, .inr (.inl (fun _ => 0))))]) [0, 24] (by decide) rfl
    have hKc := hK.sub (tys' := [(cOut, .long)]) [12] rfl
    have hFc := va_free (wc := [(x0, .inr (11, [.ref ca, .int 0, .int 0, .ref dr, .ref ty0, .int 0, .ref sf, .ref sb, vp, vm, .ref ra0, .int 0, .ref bk])), (ou, .inl (cOut, 1, .inr (.inl (fun _ => 0))))]) hD hS hA [0, 24] rfl
    refine va_calli (vx_runSW (As := [.ref x0, .int 0, .int y_5, .int y_7, .ref ou]) (rest := []) ⟨hx, hb, hml, hown, hts⟩ (c_L_motto l hlt em dC dI x0 0 y_5 y_7 (.ref ca) (.int 0) (.ref dr) (.ref ty0) (.int 0) (.ref sf) (.ref sb) vp vm (.ref ra0) (.int 0) (.ref bk) ou cOut (fun _ => 0) H.size) (vx_cwSW 5 hts gT_L_motto rfl rfl rfl (by decide +kernel) ⟨Nat.le_of_ble_eq_true rfl, Nat.le_of_ble_eq_true rfl⟩) ⟨Pw.blind _ _ _ _ _ _ _, fun U hU hW => ⟨rfl, Pw.go hPc hKc hDc hamb hS hFc hU hW⟩⟩ rfl rfl hl.1 rfl (lv_room (Nat.le_of_ble_eq_true rfl)) dL_law_1188 ⟨Nat.le_of_ble_eq_true rfl, Nat.le_of_ble_eq_true rfl⟩) hS (fun q _ h => hFc q h) hFc (fun r_8 u t H1 locs1 ht hvm hw hB hz1 hk1 hS => ?_)
    obtain ⟨hP1, hK1, hD1⟩ := hB
    rw [ht] at hP1
    have hK1 := va_K.moved hvm.symm hK1
    obtain ⟨hP, hD⟩ := va_join (wr := [(ca, .inl (cC, 16, .inr (.inr (.inr (.inr fC))))), (c0, .inr (7, [.ref th, u1, u2, .int 0, .int 0, .int 0, .int 0])), (th, .inl (cH, 4, .inl (fun _ => 0))), (dr, .inl (cO, 26, .inr (.inr (.inr (.inr fD))))), (rr, .inl (cI, 5, .inl (fun _ => 0))), (ty0, .inl (cT, 8, .inl (fun _ => 0))), (sf, .inr (10, [.int 0, sf1, .int 0, .int 0, .int 0, .int 1, .int 0])), (sb, .inr (10, [.int 1, sb1, .int 0, .int 0, .int 0, .int 1, .int 0])), (ra0, .inl (cR, 6, .inl (fun _ => 0))), (bk, .inr (6, [.ref a0, .ref a1, .ref a2, .ref mo, .int 0])), (a0, .inl (cB0, 8, .inl (fun _ => 0))), (a1, .inl (cB1, 8, .inl (fun _ => 0))), (a2, .inl (cB2, 8, .inl (fun _ => 0))), (mo, .inl (cM, 256, .inl (fun _ => 0))), (m0, .inr (14, [.ref lc, .ref lp, .ref dl, .ref ff, .ref fb, .ref lw, .ref lo, .ref (em 1), .int 0])), (lc, .inr (5, [.int 0, .ref (em 0), .int 0])), (lp, .inr (5, [.int 0, .ref (em 0), .int 0])), (dl, .inl (cO8, 26, .inr (.inr (.inr (.inr fL))))), (rr8, .inl (cI8, 5, .inl (fun _ => 0))), (ff, .inr (13, [tf, .int 0, .int 0, .int 1, .int 0])), (fb, .inr (13, [tb, .int 0, .int 0, .int 1, .int 0])), (lw, .inr (5, [.int 0, .ref (em 0), .int 0])), (lo, .inr (5, [.int 0, .ref (em 0), .int 0])), (od, .inl (cOd, 1, .inr (.inr (.inr (.inl (fun _ => 0))))))]) (w1 := [(ou, .inl (cOut, 1, .inr (.inl (fun _ => 0))))]) hP hD [0, 24] [1, 2, 3, 4, 5, 6, 7, 8, 9, 10, 11, 12, 13, 14, 15, 16, 17, 18, 19, 20, 21, 22, 23, 25] rfl rfl (by decide) (by decide) hk1 hFc hP1 hD1
    have hK := (hK.sub (tys' := [(cC, (.object "Bothfaces$Card")), (cH, .int), (cO, (.array .int)), (cI, .int), (cT, .int), (cR, .int), (cB0, .int), (cB1, .int), (cB2, .int), (cM, .int), (cO8, (.array .int)), (cI8, .int), (cOd, .double)]) [0, 1, 2, 3, 4, 5, 6, 7, 8, 9, 10, 11, 13] rfl).app hK1
    generalize H1 = H at hP hS ⊢
    have hP : va_P (dC, dI) vwCl [(ca, .inl (cC, 16, .inr (.inr (.inr (.inr fC))))), (c0, .inr (7, [.ref th, u1, u2, .int 0, .int 0, .int 0, .int 0])), (th, .inl (cH, 4, .inl (fun _ => 0))), (dr, .inl (cO, 26, .inr (.inr (.inr (.inr fD))))), (rr, .inl (cI, 5, .inl (fun _ => 0))), (ty0, .inl (cT, 8, .inl (fun _ => 0))), (sf, .inr (10, [.int 0, sf1, .int 0, .int 0, .int 0, .int 1, .int 0])), (sb, .inr (10, [.int 1, sb1, .int 0, .int 0, .int 0, .int 1, .int 0])), (ra0, .inl (cR, 6, .inl (fun _ => 0))), (bk, .inr (6, [.ref a0, .ref a1, .ref a2, .ref mo, .int 0])), (a0, .inl (cB0, 8, .inl (fun _ => 0))), (a1, .inl (cB1, 8, .inl (fun _ => 0))), (a2, .inl (cB2, 8, .inl (fun _ => 0))), (mo, .inl (cM, 256, .inl (fun _ => 0))), (m0, .inr (14, [.ref lc, .ref lp, .ref dl, .ref ff, .ref fb, .ref lw, .ref lo, .ref (em 1), .int 0])), (lc, .inr (5, [.int 0, .ref (em 0), .int 0])), (lp, .inr (5, [.int 0, .ref (em 0), .int 0])), (dl, .inl (cO8, 26, .inr (.inr (.inr (.inr fL))))), (rr8, .inl (cI8, 5, .inl (fun _ => 0))), (ff, .inr (13, [tf, .int 0, .int 0, .int 1, .int 0])), (fb, .inr (13, [tb, .int 0, .int 0, .int 1, .int 0])), (lw, .inr (5, [.int 0, .ref (em 0), .int 0])), (lo, .inr (5, [.int 0, .ref (em 0), .int 0])), (od, .inl (cOd, 1, .inr (.inr (.inr (.inl (fun _ => 0)))))), (ou, .inl (cOut, 1, .inr (.inl (fun _ => 0))))] H := hP
    have hD : va_D (fun q : Nat => s.heap.size ≤ q) [(ca, .inl (cC, 16, .inr (.inr (.inr (.inr fC))))), (c0, .inr (7, [.ref th, u1, u2, .int 0, .int 0, .int 0, .int 0])), (th, .inl (cH, 4, .inl (fun _ => 0))), (dr, .inl (cO, 26, .inr (.inr (.inr (.inr fD))))), (rr, .inl (cI, 5, .inl (fun _ => 0))), (ty0, .inl (cT, 8, .inl (fun _ => 0))), (sf, .inr (10, [.int 0, sf1, .int 0, .int 0, .int 0, .int 1, .int 0])), (sb, .inr (10, [.int 1, sb1, .int 0, .int 0, .int 0, .int 1, .int 0])), (ra0, .inl (cR, 6, .inl (fun _ => 0))), (bk, .inr (6, [.ref a0, .ref a1, .ref a2, .ref mo, .int 0])), (a0, .inl (cB0, 8, .inl (fun _ => 0))), (a1, .inl (cB1, 8, .inl (fun _ => 0))), (a2, .inl (cB2, 8, .inl (fun _ => 0))), (mo, .inl (cM, 256, .inl (fun _ => 0))), (m0, .inr (14, [.ref lc, .ref lp, .ref dl, .ref ff, .ref fb, .ref lw, .ref lo, .ref (em 1), .int 0])), (lc, .inr (5, [.int 0, .ref (em 0), .int 0])), (lp, .inr (5, [.int 0, .ref (em 0), .int 0])), (dl, .inl (cO8, 26, .inr (.inr (.inr (.inr fL))))), (rr8, .inl (cI8, 5, .inl (fun _ => 0))), (ff, .inr (13, [tf, .int 0, .int 0, .int 1, .int 0])), (fb, .inr (13, [tb, .int 0, .int 0, .int 1, .int 0])), (lw, .inr (5, [.int 0, .ref (em 0), .int 0])), (lo, .inr (5, [.int 0, .ref (em 0), .int 0])), (od, .inl (cOd, 1, .inr (.inr (.inr (.inl (fun _ => 0)))))), (ou, .inl (cOut, 1, .inr (.inl (fun _ => 0))))] := hD
    have hK : va_K (dC, dI) vwCl [(cC, (.object "Bothfaces$Card")), (cH, .int), (cO, (.array .int)), (cI, .int), (cT, .int), (cR, .int), (cB0, .int), (cB1, .int), (cB2, .int), (cM, .int), (cO8, (.array .int)), (cI8, .int), (cOd, .double), (cOut, .long)] s := hK
    refine W.widen (k := 147) (n := 2193) (Nat.le_of_ble_eq_true rfl) (Nat.le_of_ble_eq_true rfl) ?_
    have hw : r_8 = 1 := hw
    rw [hw]
    refine lv_istore (lv' := [(6, .int 1), (5, .int 0), (4, .ref od), (3, .ref ou), (2, .ref m0), (1, .ref x0), (0, .ref b)]) hx hb dL_law_1191 hl (by decide) rfl (fun ls hl => ?_)
    refine lv_aload_n hx hb dL_law_1193 rfl (lv_at hl 4 rfl) ?_
    refine lv_aload_n hx hb dL_law_1194 rfl (lv_at hl 6 rfl) ?_
    refine lv_iload hx hb dL_law_1195 (lv_at hl 1 rfl) ?_
    refine lv_iconst (v := 1) hx hb dL_law_1197 (by decide) ?_
    refine lv_iadd hx hb dL_law_1198 ?_
    refine lv_topi (fun k_9 ek_9 => ?_)
    obtain rfl : k_9 = 1 := ek_9.trans (by decide)
    refine va_sld hx hb hX hbl hbA hS (vp_in_iff.mpr ⟨by decide, by decide⟩) dL_law_1199 ?_
    refine lv_topi (fun y_10 ey_10 => ?_)
    have ey_10 : y_10 = xs 1 := ey_10
    obtain rfl : y_2 = y_10 := ey_2.trans ey_10.symm
    refine lv_if_eq (tgt := 1207) hx hb dL_law_1200 (by decide) (fun c_11 => ?_) (fun c_11 => ?_)
    · refine lv_iconst (v := 0) hx hb dL_law_1207 (by decide) ?_
      refine lv_aload_n hx hb dL_law_1208 rfl (lv_at hl 6 rfl) ?_
      refine lv_iload hx hb dL_law_1209 (lv_at hl 1 rfl) ?_
      refine lv_iconst (v := 2) hx hb dL_law_1211 (by decide) ?_
      refine lv_iadd hx hb dL_law_1212 ?_
      refine lv_topi (fun k_12 ek_12 => ?_)
      obtain rfl : k_12 = 2 := ek_12.trans (by decide)
      refine va_sld hx hb hX hbl hbA hS (vp_in_iff.mpr ⟨by decide, by decide⟩) dL_law_1213 ?_
      refine lv_topi (fun y_13 ey_13 => ?_)
      have ey_13 : y_13 = xs 2 := ey_13
      obtain rfl : y_5 = y_13 := ey_5.trans ey_13.symm
      refine lv_aload_n hx hb dL_law_1214 rfl (lv_at hl 6 rfl) ?_
      refine lv_iload hx hb dL_law_1215 (lv_at hl 1 rfl) ?_
      refine lv_iconst (v := 3) hx hb dL_law_1217 (by decide) ?_
      refine lv_iadd hx hb dL_law_1218 ?_
      refine lv_topi (fun k_14 ek_14 => ?_)
      obtain rfl : k_14 = 3 := ek_14.trans (by decide)
      refine va_sld hx hb hX hbl hbA hS (vp_in_iff.mpr ⟨by decide, by decide⟩) dL_law_1219 ?_
      refine lv_topi (fun y_15 ey_15 => ?_)
      have ey_15 : y_15 = xs 3 := ey_15
      obtain rfl : y_7 = y_15 := ey_7.trans ey_15.symm
      have hPc := hP.sub (ws' := [(m0, .inr (14, [.ref lc, .ref lp, .ref dl, .ref ff, .ref fb, .ref lw, .ref lo, .ref (em 1), .int 0])), (lc, .inr (5, [.int 0, .ref (em 0), .int 0]))]) [14, 15] rfl
      have hDc := hD.sub (ws' := [(m0, .inr (14, [.ref lc, .ref lp, .ref dl, .ref ff, .ref fb, .ref lw, .ref lo, .ref (em 1), .int 0])), (lc, .inr (5, [.int 0, .ref (em 0), .int 0]))]) [14, 15] (by decide) rfl
      have hKc := hK.sub (tys' := []) [] rfl
      have hFc := va_free (wc := [(m0, .inr (14, [.ref lc, .ref lp, .ref dl, .ref ff, .ref fb, .ref lw, .ref lo, .ref (em 1), .int 0])), (lc, .inr (5, [.int 0, .ref (em 0), .int 0]))]) hD hS hA [14, 15] rfl
      refine va_calli (va_runV (As := [.int 0, .int y_5, .int y_7]) (rest := []) ⟨hx, hb, hml, hown, hts⟩ (c_X8_motto l em dC dI m0 0 y_5 y_7 (.ref lp) (.ref dl) (.ref ff) (.ref fb) (.ref lw) (.ref lo) (.int 0) lc (.ref (em 0)) H.size) (cwV 3 hts gT_X8_motto rfl rfl rfl (by decide +kernel) ⟨Nat.le_of_ble_eq_true rfl, Nat.le_of_ble_eq_true rfl⟩) ⟨Pw.blind _ _ _ _ _ _ _, va_recv hKc hPc (ci := 14) (q0 := 0) rfl rfl, fun U hU hW => ⟨rfl, Pw.go hPc hKc hDc hamb hS hFc hU hW⟩⟩ rfl rfl hl.1 rfl (lv_room (Nat.le_of_ble_eq_true rfl)) dL_law_1220 ⟨Nat.le_of_ble_eq_true rfl, Nat.le_of_ble_eq_true rfl⟩) hS (fun q _ h => hFc q h) hFc (fun r_16 u t H1 locs1 ht hvm hw hB hz1 hk1 hS => ?_)
      obtain ⟨hP1, hK1, hD1⟩ := hB
      rw [ht] at hP1
      have hK1 := va_K.moved hvm.symm hK1
      obtain ⟨hP, hD⟩ := va_join (wr := [(ca, .inl (cC, 16, .inr (.inr (.inr (.inr fC))))), (c0, .inr (7, [.ref th, u1, u2, .int 0, .int 0, .int 0, .int 0])), (th, .inl (cH, 4, .inl (fun _ => 0))), (dr, .inl (cO, 26, .inr (.inr (.inr (.inr fD))))), (rr, .inl (cI, 5, .inl (fun _ => 0))), (ty0, .inl (cT, 8, .inl (fun _ => 0))), (sf, .inr (10, [.int 0, sf1, .int 0, .int 0, .int 0, .int 1, .int 0])), (sb, .inr (10, [.int 1, sb1, .int 0, .int 0, .int 0, .int 1, .int 0])), (ra0, .inl (cR, 6, .inl (fun _ => 0))), (bk, .inr (6, [.ref a0, .ref a1, .ref a2, .ref mo, .int 0])), (a0, .inl (cB0, 8, .inl (fun _ => 0))), (a1, .inl (cB1, 8, .inl (fun _ => 0))), (a2, .inl (cB2, 8, .inl (fun _ => 0))), (mo, .inl (cM, 256, .inl (fun _ => 0))), (lp, .inr (5, [.int 0, .ref (em 0), .int 0])), (dl, .inl (cO8, 26, .inr (.inr (.inr (.inr fL))))), (rr8, .inl (cI8, 5, .inl (fun _ => 0))), (ff, .inr (13, [tf, .int 0, .int 0, .int 1, .int 0])), (fb, .inr (13, [tb, .int 0, .int 0, .int 1, .int 0])), (lw, .inr (5, [.int 0, .ref (em 0), .int 0])), (lo, .inr (5, [.int 0, .ref (em 0), .int 0])), (od, .inl (cOd, 1, .inr (.inr (.inr (.inl (fun _ => 0)))))), (ou, .inl (cOut, 1, .inr (.inl (fun _ => 0))))]) (w1 := [(m0, .inr (14, [.ref lc, .ref lp, .ref dl, .ref ff, .ref fb, .ref lw, .ref lo, .ref (em 1), .int 1]))]) hP hD [14, 15] [0, 1, 2, 3, 4, 5, 6, 7, 8, 9, 10, 11, 12, 13, 16, 17, 18, 19, 20, 21, 22, 23, 24] rfl rfl (by decide) (by decide) hk1 hFc hP1 hD1
      have hK := (hK.sub (tys' := [(cC, (.object "Bothfaces$Card")), (cH, .int), (cO, (.array .int)), (cI, .int), (cT, .int), (cR, .int), (cB0, .int), (cB1, .int), (cB2, .int), (cM, .int), (cO8, (.array .int)), (cI8, .int), (cOd, .double), (cOut, .long)]) [0, 1, 2, 3, 4, 5, 6, 7, 8, 9, 10, 11, 12, 13] rfl).app hK1
      generalize H1 = H at hP hS ⊢
      have hP : va_P (dC, dI) vwCl [(ca, .inl (cC, 16, .inr (.inr (.inr (.inr fC))))), (c0, .inr (7, [.ref th, u1, u2, .int 0, .int 0, .int 0, .int 0])), (th, .inl (cH, 4, .inl (fun _ => 0))), (dr, .inl (cO, 26, .inr (.inr (.inr (.inr fD))))), (rr, .inl (cI, 5, .inl (fun _ => 0))), (ty0, .inl (cT, 8, .inl (fun _ => 0))), (sf, .inr (10, [.int 0, sf1, .int 0, .int 0, .int 0, .int 1, .int 0])), (sb, .inr (10, [.int 1, sb1, .int 0, .int 0, .int 0, .int 1, .int 0])), (ra0, .inl (cR, 6, .inl (fun _ => 0))), (bk, .inr (6, [.ref a0, .ref a1, .ref a2, .ref mo, .int 0])), (a0, .inl (cB0, 8, .inl (fun _ => 0))), (a1, .inl (cB1, 8, .inl (fun _ => 0))), (a2, .inl (cB2, 8, .inl (fun _ => 0))), (mo, .inl (cM, 256, .inl (fun _ => 0))), (lp, .inr (5, [.int 0, .ref (em 0), .int 0])), (dl, .inl (cO8, 26, .inr (.inr (.inr (.inr fL))))), (rr8, .inl (cI8, 5, .inl (fun _ => 0))), (ff, .inr (13, [tf, .int 0, .int 0, .int 1, .int 0])), (fb, .inr (13, [tb, .int 0, .int 0, .int 1, .int 0])), (lw, .inr (5, [.int 0, .ref (em 0), .int 0])), (lo, .inr (5, [.int 0, .ref (em 0), .int 0])), (od, .inl (cOd, 1, .inr (.inr (.inr (.inl (fun _ => 0)))))), (ou, .inl (cOut, 1, .inr (.inl (fun _ => 0)))), (m0, .inr (14, [.ref lc, .ref lp, .ref dl, .ref ff, .ref fb, .ref lw, .ref lo, .ref (em 1), .int 1]))] H := hP
      have hD : va_D (fun q : Nat => s.heap.size ≤ q) [(ca, .inl (cC, 16, .inr (.inr (.inr (.inr fC))))), (c0, .inr (7, [.ref th, u1, u2, .int 0, .int 0, .int 0, .int 0])), (th, .inl (cH, 4, .inl (fun _ => 0))), (dr, .inl (cO, 26, .inr (.inr (.inr (.inr fD))))), (rr, .inl (cI, 5, .inl (fun _ => 0))), (ty0, .inl (cT, 8, .inl (fun _ => 0))), (sf, .inr (10, [.int 0, sf1, .int 0, .int 0, .int 0, .int 1, .int 0])), (sb, .inr (10, [.int 1, sb1, .int 0, .int 0, .int 0, .int 1, .int 0])), (ra0, .inl (cR, 6, .inl (fun _ => 0))), (bk, .inr (6, [.ref a0, .ref a1, .ref a2, .ref mo, .int 0])), (a0, .inl (cB0, 8, .inl (fun _ => 0))), (a1, .inl (cB1, 8, .inl (fun _ => 0))), (a2, .inl (cB2, 8, .inl (fun _ => 0))), (mo, .inl (cM, 256, .inl (fun _ => 0))), (lp, .inr (5, [.int 0, .ref (em 0), .int 0])), (dl, .inl (cO8, 26, .inr (.inr (.inr (.inr fL))))), (rr8, .inl (cI8, 5, .inl (fun _ => 0))), (ff, .inr (13, [tf, .int 0, .int 0, .int 1, .int 0])), (fb, .inr (13, [tb, .int 0, .int 0, .int 1, .int 0])), (lw, .inr (5, [.int 0, .ref (em 0), .int 0])), (lo, .inr (5, [.int 0, .ref (em 0), .int 0])), (od, .inl (cOd, 1, .inr (.inr (.inr (.inl (fun _ => 0)))))), (ou, .inl (cOut, 1, .inr (.inl (fun _ => 0)))), (m0, .inr (14, [.ref lc, .ref lp, .ref dl, .ref ff, .ref fb, .ref lw, .ref lo, .ref (em 1), .int 1]))] := hD
      have hK : va_K (dC, dI) vwCl [(cC, (.object "Bothfaces$Card")), (cH, .int), (cO, (.array .int)), (cI, .int), (cT, .int), (cR, .int), (cB0, .int), (cB1, .int), (cB2, .int), (cM, .int), (cO8, (.array .int)), (cI8, .int), (cOd, .double), (cOut, .long)] s := hK
      refine W.widen (k := 147) (n := 2193) (Nat.le_of_ble_eq_true rfl) (Nat.le_of_ble_eq_true rfl) ?_
      have hw : r_16 = 0 := hw
      rw [hw]
      refine lv_istore (lv' := [(7, .int 0), (6, .int 1), (5, .int 0), (4, .ref od), (3, .ref ou), (2, .ref m0), (1, .ref x0), (0, .ref b)]) hx hb dL_law_1223 hl (by decide) rfl (fun ls hl => ?_)
      refine lv_aload_n hx hb dL_law_1225 rfl (lv_at hl 5 rfl) ?_
      have hPc := hP.sub (ws' := [(m0, .inr (14, [.ref lc, .ref lp, .ref dl, .ref ff, .ref fb, .ref lw, .ref lo, .ref (em 1), .int 1]))]) [23] rfl
      have hDc := hD.sub (ws' := [(m0, .inr (14, [.ref lc, .ref lp, .ref dl, .ref ff, .ref fb, .ref lw, .ref lo, .ref (em 1), .int 1]))]) [23] (by decide) rfl
      have hKc := hK.sub (tys' := []) [] rfl
      have hFc := va_free (wc := [(m0, .inr (14, [.ref lc, .ref lp, .ref dl, .ref ff, .ref fb, .ref lw, .ref lo, .ref (em 1), .int 1]))]) hD hS hA [23] rfl
      refine va_calli (va_runV (As := []) (rest := []) ⟨hx, hb, hml, hown, hts⟩ (c_X8_thrown l em dC dI m0 1 (.ref lc) (.ref lp) (.ref dl) (.ref ff) (.ref fb) (.ref lw) (.ref lo) (.ref (em 1)) H.size) (cwV 0 hts gT_X8_thrown rfl rfl rfl (by decide +kernel) ⟨Nat.le_of_ble_eq_true rfl, Nat.le_of_ble_eq_true rfl⟩) ⟨Pw.blind _ _ _ _ _ _ _, va_recv hKc hPc (ci := 14) (q0 := 0) rfl rfl, fun U hU hW => ⟨rfl, Pw.go hPc hKc hDc hamb hS hFc hU hW⟩⟩ rfl rfl hl.1 rfl (lv_room (Nat.le_of_ble_eq_true rfl)) dL_law_1226 ⟨Nat.le_of_ble_eq_true rfl, Nat.le_of_ble_eq_true rfl⟩) hS (fun q _ h => hFc q h) hFc (fun r_17 u t H1 locs1 ht hvm hw hB hz1 hk1 hS => ?_)
      obtain ⟨hP, hD⟩ := va_rest (wr := [(ca, .inl (cC, 16, .inr (.inr (.inr (.inr fC))))), (c0, .inr (7, [.ref th, u1, u2, .int 0, .int 0, .int 0, .int 0])), (th, .inl (cH, 4, .inl (fun _ => 0))), (dr, .inl (cO, 26, .inr (.inr (.inr (.inr fD))))), (rr, .inl (cI, 5, .inl (fun _ => 0))), (ty0, .inl (cT, 8, .inl (fun _ => 0))), (sf, .inr (10, [.int 0, sf1, .int 0, .int 0, .int 0, .int 1, .int 0])), (sb, .inr (10, [.int 1, sb1, .int 0, .int 0, .int 0, .int 1, .int 0])), (ra0, .inl (cR, 6, .inl (fun _ => 0))), (bk, .inr (6, [.ref a0, .ref a1, .ref a2, .ref mo, .int 0])), (a0, .inl (cB0, 8, .inl (fun _ => 0))), (a1, .inl (cB1, 8, .inl (fun _ => 0))), (a2, .inl (cB2, 8, .inl (fun _ => 0))), (mo, .inl (cM, 256, .inl (fun _ => 0))), (lp, .inr (5, [.int 0, .ref (em 0), .int 0])), (dl, .inl (cO8, 26, .inr (.inr (.inr (.inr fL))))), (rr8, .inl (cI8, 5, .inl (fun _ => 0))), (ff, .inr (13, [tf, .int 0, .int 0, .int 1, .int 0])), (fb, .inr (13, [tb, .int 0, .int 0, .int 1, .int 0])), (lw, .inr (5, [.int 0, .ref (em 0), .int 0])), (lo, .inr (5, [.int 0, .ref (em 0), .int 0])), (od, .inl (cOd, 1, .inr (.inr (.inr (.inl (fun _ => 0)))))), (ou, .inl (cOut, 1, .inr (.inl (fun _ => 0))))]) hP hD [23] [0, 1, 2, 3, 4, 5, 6, 7, 8, 9, 10, 11, 12, 13, 14, 15, 16, 17, 18, 19, 20, 21, 22] rfl rfl (by decide) (by decide) hk1 hFc
      generalize H1 = H at hP hS ⊢
      refine W.widen (k := 147) (n := 2193) (Nat.le_of_ble_eq_true rfl) (Nat.le_of_ble_eq_true rfl) ?_
      have hw : r_17 = 1 := hw
      rw [hw]
      refine lv_iload hx hb dL_law_1229 (lv_at hl 1 rfl) ?_
      refine lv_icmp_eq (tgt := 1236) hx hb dL_law_1231 (by decide) (fun c_18 => ?_) (fun c_18 => ?_)
      · refine lv_iload hx hb dL_law_1236 (lv_at hl 1 rfl) ?_
        refine lv_if_ne (tgt := 1253) hx hb dL_law_1238 (by decide) (fun c_19 => ?_) (fun c_19 => ?_)
        · refine lv_goto (tgt := 2636) hx hb dL_law_1253 (by decide) ?_
          refine lv_iinc (v := 6) (lv' := [(5, .int 6), (7, .int 0), (6, .int 1), (4, .ref od), (3, .ref ou), (2, .ref m0), (1, .ref x0), (0, .ref b)]) hx hb dL_law_2636 hl (k := 2) rfl (by decide) (by decide) rfl (fun ls hl => ?_)
          refine lv_goto (tgt := 28) hx hb dL_law_2639 (by decide) ?_
          refine lv_iload hx hb dL_law_28 (lv_at hl 0 rfl) ?_
          refine lv_aload_n hx hb dL_law_30 rfl (lv_at hl 7 rfl) ?_
          refine va_slen hx hb hX hbl hbA hS dL_law_31 ?_
          refine lv_topi (fun n_20 en_20 => ?_)
          obtain rfl : n_20 = 6 := en_20.trans (by decide)
          refine lv_bipush (v := 6) hx hb dL_law_32 (by decide) ?_
          refine lv_isub hx hb dL_law_34 ?_
          refine lv_topi (fun k_21 ek_21 => ?_)
          obtain rfl : k_21 = 0 := ek_21.trans (by decide)
          refine lv_icmp_gt (tgt := 2642) hx hb dL_law_35 (by decide) (fun c_22 => ?_) (fun c_22 => ?_)
          · refine lv_iconst (v := 1) hx hb dL_law_2642 (by decide) ?_
            refine W.widen (k := 600006) (n := 7302072) (Nat.le_of_ble_eq_true rfl) (Nat.le_of_ble_eq_true rfl) ?_
            refine va_forget hS.2.2 ?_
            refine W.base ?_
            exact lw_ret (Drawn.sameBut.refl s.drawn lw_cs) hx hb hr hlocks dL_law_2643
          · exact absurd (by decide) c_22
        · exact absurd c_19 (by decide)
      · exact absurd (by decide) c_18
    · exact absurd c_3 c_11
  · refine lv_iconst (v := 1) hx hb dL_law_1170 (by decide) ?_
    refine lv_goto (tgt := 1175) hx hb dL_law_1171 (by decide) ?_
    refine lv_aload_n hx hb dL_law_1175 rfl (lv_at hl 5 rfl) ?_
    refine lv_iload hx hb dL_law_1176 (lv_at hl 0 rfl) ?_
    refine lv_iconst (v := 2) hx hb dL_law_1178 (by decide) ?_
    refine lv_iadd hx hb dL_law_1179 ?_
    refine lv_topi (fun k_23 ek_23 => ?_)
    obtain rfl : k_23 = 2 := ek_23.trans (by decide)
    refine va_sld hx hb hX hbl hbA hS (vp_in_iff.mpr ⟨by decide, by decide⟩) dL_law_1180 ?_
    refine lv_topi (fun y_24 ey_24 => ?_)
    have ey_24 : y_24 = xs 2 := ey_24
    refine lv_aload_n hx hb dL_law_1181 rfl (lv_at hl 5 rfl) ?_
    refine lv_iload hx hb dL_law_1182 (lv_at hl 0 rfl) ?_
    refine lv_iconst (v := 3) hx hb dL_law_1184 (by decide) ?_
    refine lv_iadd hx hb dL_law_1185 ?_
    refine lv_topi (fun k_25 ek_25 => ?_)
    obtain rfl : k_25 = 3 := ek_25.trans (by decide)
    refine va_sld hx hb hX hbl hbA hS (vp_in_iff.mpr ⟨by decide, by decide⟩) dL_law_1186 ?_
    refine lv_topi (fun y_26 ey_26 => ?_)
    have ey_26 : y_26 = xs 3 := ey_26
    refine lv_aload_n hx hb dL_law_1187 rfl (lv_at hl 2 rfl) ?_
    have hPc := hP.sub (ws' := [(x0, .inr (11, [.ref ca, .int 0, .int 0, .ref dr, .ref ty0, .int 0, .ref sf, .ref sb, vp, vm, .ref ra0, .int 0, .ref bk])), (ou, .inl (cOut, 1, .inr (.inl (fun _ => 0))))]) [0, 24] rfl
    have hDc := hD.sub (ws' := [(x0, .inr (11, [.ref ca, .int 0, .int 0, .ref dr, .ref ty0, .int 0, .ref sf, .ref sb, vp, vm, .ref ra0, .int 0, .ref bk])), (ou, .inl (cOut, 1, .inr (.inl (fun _ => 0))))]) [0, 24] (by decide) rfl
    have hKc := hK.sub (tys' := [(cOut, .long)]) [12] rfl
    have hFc := va_free (wc := [(x0, .inr (11, [.ref ca, .int 0, .int 0, .ref dr, .ref ty0, .int 0, .ref sf, .ref sb, vp, vm, .ref ra0, .int 0, .ref bk])), (ou, .inl (cOut, 1, .inr (.inl (fun _ => 0))))]) hD hS hA [0, 24] rfl
    refine va_calli (vx_runSW (As := [.ref x0, .int 1, .int y_24, .int y_26, .ref ou]) (rest := []) ⟨hx, hb, hml, hown, hts⟩ (c_L_motto l hlt em dC dI x0 1 y_24 y_26 (.ref ca) (.int 0) (.ref dr) (.ref ty0) (.int 0) (.ref sf) (.ref sb) vp vm (.ref ra0) (.int 0) (.ref bk) ou cOut (fun _ => 0) H.size) (vx_cwSW 5 hts gT_L_motto rfl rfl rfl (by decide +kernel) ⟨Nat.le_of_ble_eq_true rfl, Nat.le_of_ble_eq_true rfl⟩) ⟨Pw.blind _ _ _ _ _ _ _, fun U hU hW => ⟨rfl, Pw.go hPc hKc hDc hamb hS hFc hU hW⟩⟩ rfl rfl hl.1 rfl (lv_room (Nat.le_of_ble_eq_true rfl)) dL_law_1188 ⟨Nat.le_of_ble_eq_true rfl, Nat.le_of_ble_eq_true rfl⟩) hS (fun q _ h => hFc q h) hFc (fun r_27 u t H1 locs1 ht hvm hw hB hz1 hk1 hS => ?_)
    obtain ⟨hP1, hK1, hD1⟩ := hB
    rw [ht] at hP1
    have hK1 := va_K.moved hvm.symm hK1
    obtain ⟨hP, hD⟩ := va_join (wr := [(ca, .inl (cC, 16, .inr (.inr (.inr (.inr fC))))), (c0, .inr (7, [.ref th, u1, u2, .int 0, .int 0, .int 0, .int 0])), (th, .inl (cH, 4, .inl (fun _ => 0))), (dr, .inl (cO, 26, .inr (.inr (.inr (.inr fD))))), (rr, .inl (cI, 5, .inl (fun _ => 0))), (ty0, .inl (cT, 8, .inl (fun _ => 0))), (sf, .inr (10, [.int 0, sf1, .int 0, .int 0, .int 0, .int 1, .int 0])), (sb, .inr (10, [.int 1, sb1, .int 0, .int 0, .int 0, .int 1, .int 0])), (ra0, .inl (cR, 6, .inl (fun _ => 0))), (bk, .inr (6, [.ref a0, .ref a1, .ref a2, .ref mo, .int 0])), (a0, .inl (cB0, 8, .inl (fun _ => 0))), (a1, .inl (cB1, 8, .inl (fun _ => 0))), (a2, .inl (cB2, 8, .inl (fun _ => 0))), (mo, .inl (cM, 256, .inl (fun _ => 0))), (m0, .inr (14, [.ref lc, .ref lp, .ref dl, .ref ff, .ref fb, .ref lw, .ref lo, .ref (em 1), .int 0])), (lc, .inr (5, [.int 0, .ref (em 0), .int 0])), (lp, .inr (5, [.int 0, .ref (em 0), .int 0])), (dl, .inl (cO8, 26, .inr (.inr (.inr (.inr fL))))), (rr8, .inl (cI8, 5, .inl (fun _ => 0))), (ff, .inr (13, [tf, .int 0, .int 0, .int 1, .int 0])), (fb, .inr (13, [tb, .int 0, .int 0, .int 1, .int 0])), (lw, .inr (5, [.int 0, .ref (em 0), .int 0])), (lo, .inr (5, [.int 0, .ref (em 0), .int 0])), (od, .inl (cOd, 1, .inr (.inr (.inr (.inl (fun _ => 0))))))]) (w1 := [(ou, .inl (cOut, 1, .inr (.inl (fun _ => 0))))]) hP hD [0, 24] [1, 2, 3, 4, 5, 6, 7, 8, 9, 10, 11, 12, 13, 14, 15, 16, 17, 18, 19, 20, 21, 22, 23, 25] rfl rfl (by decide) (by decide) hk1 hFc hP1 hD1
    have hK := (hK.sub (tys' := [(cC, (.object "Bothfaces$Card")), (cH, .int), (cO, (.array .int)), (cI, .int), (cT, .int), (cR, .int), (cB0, .int), (cB1, .int), (cB2, .int), (cM, .int), (cO8, (.array .int)), (cI8, .int), (cOd, .double)]) [0, 1, 2, 3, 4, 5, 6, 7, 8, 9, 10, 11, 13] rfl).app hK1
    generalize H1 = H at hP hS ⊢
    have hP : va_P (dC, dI) vwCl [(ca, .inl (cC, 16, .inr (.inr (.inr (.inr fC))))), (c0, .inr (7, [.ref th, u1, u2, .int 0, .int 0, .int 0, .int 0])), (th, .inl (cH, 4, .inl (fun _ => 0))), (dr, .inl (cO, 26, .inr (.inr (.inr (.inr fD))))), (rr, .inl (cI, 5, .inl (fun _ => 0))), (ty0, .inl (cT, 8, .inl (fun _ => 0))), (sf, .inr (10, [.int 0, sf1, .int 0, .int 0, .int 0, .int 1, .int 0])), (sb, .inr (10, [.int 1, sb1, .int 0, .int 0, .int 0, .int 1, .int 0])), (ra0, .inl (cR, 6, .inl (fun _ => 0))), (bk, .inr (6, [.ref a0, .ref a1, .ref a2, .ref mo, .int 0])), (a0, .inl (cB0, 8, .inl (fun _ => 0))), (a1, .inl (cB1, 8, .inl (fun _ => 0))), (a2, .inl (cB2, 8, .inl (fun _ => 0))), (mo, .inl (cM, 256, .inl (fun _ => 0))), (m0, .inr (14, [.ref lc, .ref lp, .ref dl, .ref ff, .ref fb, .ref lw, .ref lo, .ref (em 1), .int 0])), (lc, .inr (5, [.int 0, .ref (em 0), .int 0])), (lp, .inr (5, [.int 0, .ref (em 0), .int 0])), (dl, .inl (cO8, 26, .inr (.inr (.inr (.inr fL))))), (rr8, .inl (cI8, 5, .inl (fun _ => 0))), (ff, .inr (13, [tf, .int 0, .int 0, .int 1, .int 0])), (fb, .inr (13, [tb, .int 0, .int 0, .int 1, .int 0])), (lw, .inr (5, [.int 0, .ref (em 0), .int 0])), (lo, .inr (5, [.int 0, .ref (em 0), .int 0])), (od, .inl (cOd, 1, .inr (.inr (.inr (.inl (fun _ => 0)))))), (ou, .inl (cOut, 1, .inr (.inl (fun _ => 0))))] H := hP
    have hD : va_D (fun q : Nat => s.heap.size ≤ q) [(ca, .inl (cC, 16, .inr (.inr (.inr (.inr fC))))), (c0, .inr (7, [.ref th, u1, u2, .int 0, .int 0, .int 0, .int 0])), (th, .inl (cH, 4, .inl (fun _ => 0))), (dr, .inl (cO, 26, .inr (.inr (.inr (.inr fD))))), (rr, .inl (cI, 5, .inl (fun _ => 0))), (ty0, .inl (cT, 8, .inl (fun _ => 0))), (sf, .inr (10, [.int 0, sf1, .int 0, .int 0, .int 0, .int 1, .int 0])), (sb, .inr (10, [.int 1, sb1, .int 0, .int 0, .int 0, .int 1, .int 0])), (ra0, .inl (cR, 6, .inl (fun _ => 0))), (bk, .inr (6, [.ref a0, .ref a1, .ref a2, .ref mo, .int 0])), (a0, .inl (cB0, 8, .inl (fun _ => 0))), (a1, .inl (cB1, 8, .inl (fun _ => 0))), (a2, .inl (cB2, 8, .inl (fun _ => 0))), (mo, .inl (cM, 256, .inl (fun _ => 0))), (m0, .inr (14, [.ref lc, .ref lp, .ref dl, .ref ff, .ref fb, .ref lw, .ref lo, .ref (em 1), .int 0])), (lc, .inr (5, [.int 0, .ref (em 0), .int 0])), (lp, .inr (5, [.int 0, .ref (em 0), .int 0])), (dl, .inl (cO8, 26, .inr (.inr (.inr (.inr fL))))), (rr8, .inl (cI8, 5, .inl (fun _ => 0))), (ff, .inr (13, [tf, .int 0, .int 0, .int 1, .int 0])), (fb, .inr (13, [tb, .int 0, .int 0, .int 1, .int 0])), (lw, .inr (5, [.int 0, .ref (em 0), .int 0])), (lo, .inr (5, [.int 0, .ref (em 0), .int 0])), (od, .inl (cOd, 1, .inr (.inr (.inr (.inl (fun _ => 0)))))), (ou, .inl (cOut, 1, .inr (.inl (fun _ => 0))))] := hD
    have hK : va_K (dC, dI) vwCl [(cC, (.object "Bothfaces$Card")), (cH, .int), (cO, (.array .int)), (cI, .int), (cT, .int), (cR, .int), (cB0, .int), (cB1, .int), (cB2, .int), (cM, .int), (cO8, (.array .int)), (cI8, .int), (cOd, .double), (cOut, .long)] s := hK
    refine W.widen (k := 147) (n := 2193) (Nat.le_of_ble_eq_true rfl) (Nat.le_of_ble_eq_true rfl) ?_
    have hw : r_27 = 1 := hw
    rw [hw]
    refine lv_istore (lv' := [(6, .int 1), (5, .int 0), (4, .ref od), (3, .ref ou), (2, .ref m0), (1, .ref x0), (0, .ref b)]) hx hb dL_law_1191 hl (by decide) rfl (fun ls hl => ?_)
    refine lv_aload_n hx hb dL_law_1193 rfl (lv_at hl 4 rfl) ?_
    refine lv_aload_n hx hb dL_law_1194 rfl (lv_at hl 6 rfl) ?_
    refine lv_iload hx hb dL_law_1195 (lv_at hl 1 rfl) ?_
    refine lv_iconst (v := 1) hx hb dL_law_1197 (by decide) ?_
    refine lv_iadd hx hb dL_law_1198 ?_
    refine lv_topi (fun k_28 ek_28 => ?_)
    obtain rfl : k_28 = 1 := ek_28.trans (by decide)
    refine va_sld hx hb hX hbl hbA hS (vp_in_iff.mpr ⟨by decide, by decide⟩) dL_law_1199 ?_
    refine lv_topi (fun y_29 ey_29 => ?_)
    have ey_29 : y_29 = xs 1 := ey_29
    obtain rfl : y_2 = y_29 := ey_2.trans ey_29.symm
    refine lv_if_eq (tgt := 1207) hx hb dL_law_1200 (by decide) (fun c_30 => ?_) (fun c_30 => ?_)
    · exact absurd c_30 c_3
    · refine lv_iconst (v := 1) hx hb dL_law_1203 (by decide) ?_
      refine lv_goto (tgt := 1208) hx hb dL_law_1204 (by decide) ?_
      refine lv_aload_n hx hb dL_law_1208 rfl (lv_at hl 6 rfl) ?_
      refine lv_iload hx hb dL_law_1209 (lv_at hl 1 rfl) ?_
      refine lv_iconst (v := 2) hx hb dL_law_1211 (by decide) ?_
      refine lv_iadd hx hb dL_law_1212 ?_
      refine lv_topi (fun k_31 ek_31 => ?_)
      obtain rfl : k_31 = 2 := ek_31.trans (by decide)
      refine va_sld hx hb hX hbl hbA hS (vp_in_iff.mpr ⟨by decide, by decide⟩) dL_law_1213 ?_
      refine lv_topi (fun y_32 ey_32 => ?_)
      have ey_32 : y_32 = xs 2 := ey_32
      obtain rfl : y_24 = y_32 := ey_24.trans ey_32.symm
      refine lv_aload_n hx hb dL_law_1214 rfl (lv_at hl 6 rfl) ?_
      refine lv_iload hx hb dL_law_1215 (lv_at hl 1 rfl) ?_
      refine lv_iconst (v := 3) hx hb dL_law_1217 (by decide) ?_
      refine lv_iadd hx hb dL_law_1218 ?_
      refine lv_topi (fun k_33 ek_33 => ?_)
      obtain rfl : k_33 = 3 := ek_33.trans (by decide)
      refine va_sld hx hb hX hbl hbA hS (vp_in_iff.mpr ⟨by decide, by decide⟩) dL_law_1219 ?_
      refine lv_topi (fun y_34 ey_34 => ?_)
      have ey_34 : y_34 = xs 3 := ey_34
      obtain rfl : y_26 = y_34 := ey_26.trans ey_34.symm
      have hPc := hP.sub (ws' := [(m0, .inr (14, [.ref lc, .ref lp, .ref dl, .ref ff, .ref fb, .ref lw, .ref lo, .ref (em 1), .int 0])), (lc, .inr (5, [.int 0, .ref (em 0), .int 0]))]) [14, 15] rfl
      have hDc := hD.sub (ws' := [(m0, .inr (14, [.ref lc, .ref lp, .ref dl, .ref ff, .ref fb, .ref lw, .ref lo, .ref (em 1), .int 0])), (lc, .inr (5, [.int 0, .ref (em 0), .int 0]))]) [14, 15] (by decide) rfl
      have hKc := hK.sub (tys' := []) [] rfl
      have hFc := va_free (wc := [(m0, .inr (14, [.ref lc, .ref lp, .ref dl, .ref ff, .ref fb, .ref lw, .ref lo, .ref (em 1), .int 0])), (lc, .inr (5, [.int 0, .ref (em 0), .int 0]))]) hD hS hA [14, 15] rfl
      refine va_calli (va_runV (As := [.int 1, .int y_24, .int y_26]) (rest := []) ⟨hx, hb, hml, hown, hts⟩ (c_X8_motto l em dC dI m0 1 y_24 y_26 (.ref lp) (.ref dl) (.ref ff) (.ref fb) (.ref lw) (.ref lo) (.int 0) lc (.ref (em 0)) H.size) (cwV 3 hts gT_X8_motto rfl rfl rfl (by decide +kernel) ⟨Nat.le_of_ble_eq_true rfl, Nat.le_of_ble_eq_true rfl⟩) ⟨Pw.blind _ _ _ _ _ _ _, va_recv hKc hPc (ci := 14) (q0 := 0) rfl rfl, fun U hU hW => ⟨rfl, Pw.go hPc hKc hDc hamb hS hFc hU hW⟩⟩ rfl rfl hl.1 rfl (lv_room (Nat.le_of_ble_eq_true rfl)) dL_law_1220 ⟨Nat.le_of_ble_eq_true rfl, Nat.le_of_ble_eq_true rfl⟩) hS (fun q _ h => hFc q h) hFc (fun r_35 u t H1 locs1 ht hvm hw hB hz1 hk1 hS => ?_)
      obtain ⟨hP1, hK1, hD1⟩ := hB
      rw [ht] at hP1
      have hK1 := va_K.moved hvm.symm hK1
      obtain ⟨hP, hD⟩ := va_join (wr := [(ca, .inl (cC, 16, .inr (.inr (.inr (.inr fC))))), (c0, .inr (7, [.ref th, u1, u2, .int 0, .int 0, .int 0, .int 0])), (th, .inl (cH, 4, .inl (fun _ => 0))), (dr, .inl (cO, 26, .inr (.inr (.inr (.inr fD))))), (rr, .inl (cI, 5, .inl (fun _ => 0))), (ty0, .inl (cT, 8, .inl (fun _ => 0))), (sf, .inr (10, [.int 0, sf1, .int 0, .int 0, .int 0, .int 1, .int 0])), (sb, .inr (10, [.int 1, sb1, .int 0, .int 0, .int 0, .int 1, .int 0])), (ra0, .inl (cR, 6, .inl (fun _ => 0))), (bk, .inr (6, [.ref a0, .ref a1, .ref a2, .ref mo, .int 0])), (a0, .inl (cB0, 8, .inl (fun _ => 0))), (a1, .inl (cB1, 8, .inl (fun _ => 0))), (a2, .inl (cB2, 8, .inl (fun _ => 0))), (mo, .inl (cM, 256, .inl (fun _ => 0))), (lp, .inr (5, [.int 0, .ref (em 0), .int 0])), (dl, .inl (cO8, 26, .inr (.inr (.inr (.inr fL))))), (rr8, .inl (cI8, 5, .inl (fun _ => 0))), (ff, .inr (13, [tf, .int 0, .int 0, .int 1, .int 0])), (fb, .inr (13, [tb, .int 0, .int 0, .int 1, .int 0])), (lw, .inr (5, [.int 0, .ref (em 0), .int 0])), (lo, .inr (5, [.int 0, .ref (em 0), .int 0])), (od, .inl (cOd, 1, .inr (.inr (.inr (.inl (fun _ => 0)))))), (ou, .inl (cOut, 1, .inr (.inl (fun _ => 0))))]) (w1 := [(m0, .inr (14, [.ref lc, .ref lp, .ref dl, .ref ff, .ref fb, .ref lw, .ref lo, .ref (em 1), .int 1]))]) hP hD [14, 15] [0, 1, 2, 3, 4, 5, 6, 7, 8, 9, 10, 11, 12, 13, 16, 17, 18, 19, 20, 21, 22, 23, 24] rfl rfl (by decide) (by decide) hk1 hFc hP1 hD1
      have hK := (hK.sub (tys' := [(cC, (.object "Bothfaces$Card")), (cH, .int), (cO, (.array .int)), (cI, .int), (cT, .int), (cR, .int), (cB0, .int), (cB1, .int), (cB2, .int), (cM, .int), (cO8, (.array .int)), (cI8, .int), (cOd, .double), (cOut, .long)]) [0, 1, 2, 3, 4, 5, 6, 7, 8, 9, 10, 11, 12, 13] rfl).app hK1
      generalize H1 = H at hP hS ⊢
      have hP : va_P (dC, dI) vwCl [(ca, .inl (cC, 16, .inr (.inr (.inr (.inr fC))))), (c0, .inr (7, [.ref th, u1, u2, .int 0, .int 0, .int 0, .int 0])), (th, .inl (cH, 4, .inl (fun _ => 0))), (dr, .inl (cO, 26, .inr (.inr (.inr (.inr fD))))), (rr, .inl (cI, 5, .inl (fun _ => 0))), (ty0, .inl (cT, 8, .inl (fun _ => 0))), (sf, .inr (10, [.int 0, sf1, .int 0, .int 0, .int 0, .int 1, .int 0])), (sb, .inr (10, [.int 1, sb1, .int 0, .int 0, .int 0, .int 1, .int 0])), (ra0, .inl (cR, 6, .inl (fun _ => 0))), (bk, .inr (6, [.ref a0, .ref a1, .ref a2, .ref mo, .int 0])), (a0, .inl (cB0, 8, .inl (fun _ => 0))), (a1, .inl (cB1, 8, .inl (fun _ => 0))), (a2, .inl (cB2, 8, .inl (fun _ => 0))), (mo, .inl (cM, 256, .inl (fun _ => 0))), (lp, .inr (5, [.int 0, .ref (em 0), .int 0])), (dl, .inl (cO8, 26, .inr (.inr (.inr (.inr fL))))), (rr8, .inl (cI8, 5, .inl (fun _ => 0))), (ff, .inr (13, [tf, .int 0, .int 0, .int 1, .int 0])), (fb, .inr (13, [tb, .int 0, .int 0, .int 1, .int 0])), (lw, .inr (5, [.int 0, .ref (em 0), .int 0])), (lo, .inr (5, [.int 0, .ref (em 0), .int 0])), (od, .inl (cOd, 1, .inr (.inr (.inr (.inl (fun _ => 0)))))), (ou, .inl (cOut, 1, .inr (.inl (fun _ => 0)))), (m0, .inr (14, [.ref lc, .ref lp, .ref dl, .ref ff, .ref fb, .ref lw, .ref lo, .ref (em 1), .int 1]))] H := hP
      have hD : va_D (fun q : Nat => s.heap.size ≤ q) [(ca, .inl (cC, 16, .inr (.inr (.inr (.inr fC))))), (c0, .inr (7, [.ref th, u1, u2, .int 0, .int 0, .int 0, .int 0])), (th, .inl (cH, 4, .inl (fun _ => 0))), (dr, .inl (cO, 26, .inr (.inr (.inr (.inr fD))))), (rr, .inl (cI, 5, .inl (fun _ => 0))), (ty0, .inl (cT, 8, .inl (fun _ => 0))), (sf, .inr (10, [.int 0, sf1, .int 0, .int 0, .int 0, .int 1, .int 0])), (sb, .inr (10, [.int 1, sb1, .int 0, .int 0, .int 0, .int 1, .int 0])), (ra0, .inl (cR, 6, .inl (fun _ => 0))), (bk, .inr (6, [.ref a0, .ref a1, .ref a2, .ref mo, .int 0])), (a0, .inl (cB0, 8, .inl (fun _ => 0))), (a1, .inl (cB1, 8, .inl (fun _ => 0))), (a2, .inl (cB2, 8, .inl (fun _ => 0))), (mo, .inl (cM, 256, .inl (fun _ => 0))), (lp, .inr (5, [.int 0, .ref (em 0), .int 0])), (dl, .inl (cO8, 26, .inr (.inr (.inr (.inr fL))))), (rr8, .inl (cI8, 5, .inl (fun _ => 0))), (ff, .inr (13, [tf, .int 0, .int 0, .int 1, .int 0])), (fb, .inr (13, [tb, .int 0, .int 0, .int 1, .int 0])), (lw, .inr (5, [.int 0, .ref (em 0), .int 0])), (lo, .inr (5, [.int 0, .ref (em 0), .int 0])), (od, .inl (cOd, 1, .inr (.inr (.inr (.inl (fun _ => 0)))))), (ou, .inl (cOut, 1, .inr (.inl (fun _ => 0)))), (m0, .inr (14, [.ref lc, .ref lp, .ref dl, .ref ff, .ref fb, .ref lw, .ref lo, .ref (em 1), .int 1]))] := hD
      have hK : va_K (dC, dI) vwCl [(cC, (.object "Bothfaces$Card")), (cH, .int), (cO, (.array .int)), (cI, .int), (cT, .int), (cR, .int), (cB0, .int), (cB1, .int), (cB2, .int), (cM, .int), (cO8, (.array .int)), (cI8, .int), (cOd, .double), (cOut, .long)] s := hK
      refine W.widen (k := 147) (n := 2193) (Nat.le_of_ble_eq_true rfl) (Nat.le_of_ble_eq_true rfl) ?_
      have hw : r_35 = 0 := hw
      rw [hw]
      refine lv_istore (lv' := [(7, .int 0), (6, .int 1), (5, .int 0), (4, .ref od), (3, .ref ou), (2, .ref m0), (1, .ref x0), (0, .ref b)]) hx hb dL_law_1223 hl (by decide) rfl (fun ls hl => ?_)
      refine lv_aload_n hx hb dL_law_1225 rfl (lv_at hl 5 rfl) ?_
      have hPc := hP.sub (ws' := [(m0, .inr (14, [.ref lc, .ref lp, .ref dl, .ref ff, .ref fb, .ref lw, .ref lo, .ref (em 1), .int 1]))]) [23] rfl
      have hDc := hD.sub (ws' := [(m0, .inr (14, [.ref lc, .ref lp, .ref dl, .ref ff, .ref fb, .ref lw, .ref lo, .ref (em 1), .int 1]))]) [23] (by decide) rfl
      have hKc := hK.sub (tys' := []) [] rfl
      have hFc := va_free (wc := [(m0, .inr (14, [.ref lc, .ref lp, .ref dl, .ref ff, .ref fb, .ref lw, .ref lo, .ref (em 1), .int 1]))]) hD hS hA [23] rfl
      refine va_calli (va_runV (As := []) (rest := []) ⟨hx, hb, hml, hown, hts⟩ (c_X8_thrown l em dC dI m0 1 (.ref lc) (.ref lp) (.ref dl) (.ref ff) (.ref fb) (.ref lw) (.ref lo) (.ref (em 1)) H.size) (cwV 0 hts gT_X8_thrown rfl rfl rfl (by decide +kernel) ⟨Nat.le_of_ble_eq_true rfl, Nat.le_of_ble_eq_true rfl⟩) ⟨Pw.blind _ _ _ _ _ _ _, va_recv hKc hPc (ci := 14) (q0 := 0) rfl rfl, fun U hU hW => ⟨rfl, Pw.go hPc hKc hDc hamb hS hFc hU hW⟩⟩ rfl rfl hl.1 rfl (lv_room (Nat.le_of_ble_eq_true rfl)) dL_law_1226 ⟨Nat.le_of_ble_eq_true rfl, Nat.le_of_ble_eq_true rfl⟩) hS (fun q _ h => hFc q h) hFc (fun r_36 u t H1 locs1 ht hvm hw hB hz1 hk1 hS => ?_)
      obtain ⟨hP, hD⟩ := va_rest (wr := [(ca, .inl (cC, 16, .inr (.inr (.inr (.inr fC))))), (c0, .inr (7, [.ref th, u1, u2, .int 0, .int 0, .int 0, .int 0])), (th, .inl (cH, 4, .inl (fun _ => 0))), (dr, .inl (cO, 26, .inr (.inr (.inr (.inr fD))))), (rr, .inl (cI, 5, .inl (fun _ => 0))), (ty0, .inl (cT, 8, .inl (fun _ => 0))), (sf, .inr (10, [.int 0, sf1, .int 0, .int 0, .int 0, .int 1, .int 0])), (sb, .inr (10, [.int 1, sb1, .int 0, .int 0, .int 0, .int 1, .int 0])), (ra0, .inl (cR, 6, .inl (fun _ => 0))), (bk, .inr (6, [.ref a0, .ref a1, .ref a2, .ref mo, .int 0])), (a0, .inl (cB0, 8, .inl (fun _ => 0))), (a1, .inl (cB1, 8, .inl (fun _ => 0))), (a2, .inl (cB2, 8, .inl (fun _ => 0))), (mo, .inl (cM, 256, .inl (fun _ => 0))), (lp, .inr (5, [.int 0, .ref (em 0), .int 0])), (dl, .inl (cO8, 26, .inr (.inr (.inr (.inr fL))))), (rr8, .inl (cI8, 5, .inl (fun _ => 0))), (ff, .inr (13, [tf, .int 0, .int 0, .int 1, .int 0])), (fb, .inr (13, [tb, .int 0, .int 0, .int 1, .int 0])), (lw, .inr (5, [.int 0, .ref (em 0), .int 0])), (lo, .inr (5, [.int 0, .ref (em 0), .int 0])), (od, .inl (cOd, 1, .inr (.inr (.inr (.inl (fun _ => 0)))))), (ou, .inl (cOut, 1, .inr (.inl (fun _ => 0))))]) hP hD [23] [0, 1, 2, 3, 4, 5, 6, 7, 8, 9, 10, 11, 12, 13, 14, 15, 16, 17, 18, 19, 20, 21, 22] rfl rfl (by decide) (by decide) hk1 hFc
      generalize H1 = H at hP hS ⊢
      refine W.widen (k := 147) (n := 2193) (Nat.le_of_ble_eq_true rfl) (Nat.le_of_ble_eq_true rfl) ?_
      have hw : r_36 = 1 := hw
      rw [hw]
      refine lv_iload hx hb dL_law_1229 (lv_at hl 1 rfl) ?_
      refine lv_icmp_eq (tgt := 1236) hx hb dL_law_1231 (by decide) (fun c_37 => ?_) (fun c_37 => ?_)
      · refine lv_iload hx hb dL_law_1236 (lv_at hl 1 rfl) ?_
        refine lv_if_ne (tgt := 1253) hx hb dL_law_1238 (by decide) (fun c_38 => ?_) (fun c_38 => ?_)
        · refine lv_goto (tgt := 2636) hx hb dL_law_1253 (by decide) ?_
          refine lv_iinc (v := 6) (lv' := [(5, .int 6), (7, .int 0), (6, .int 1), (4, .ref od), (3, .ref ou), (2, .ref m0), (1, .ref x0), (0, .ref b)]) hx hb dL_law_2636 hl (k := 2) rfl (by decide) (by decide) rfl (fun ls hl => ?_)
          refine lv_goto (tgt := 28) hx hb dL_law_2639 (by decide) ?_
          refine lv_iload hx hb dL_law_28 (lv_at hl 0 rfl) ?_
          refine lv_aload_n hx hb dL_law_30 rfl (lv_at hl 7 rfl) ?_
          refine va_slen hx hb hX hbl hbA hS dL_law_31 ?_
          refine lv_topi (fun n_39 en_39 => ?_)
          obtain rfl : n_39 = 6 := en_39.trans (by decide)
          refine lv_bipush (v := 6) hx hb dL_law_32 (by decide) ?_
          refine lv_isub hx hb dL_law_34 ?_
          refine lv_topi (fun k_40 ek_40 => ?_)
          obtain rfl : k_40 = 0 := ek_40.trans (by decide)
          refine lv_icmp_gt (tgt := 2642) hx hb dL_law_35 (by decide) (fun c_41 => ?_) (fun c_41 => ?_)
          · refine lv_iconst (v := 1) hx hb dL_law_2642 (by decide) ?_
            refine W.widen (k := 600006) (n := 7302072) (Nat.le_of_ble_eq_true rfl) (Nat.le_of_ble_eq_true rfl) ?_
            refine va_forget hS.2.2 ?_
            refine W.base ?_
            exact lw_ret (Drawn.sameBut.refl s.drawn lw_cs) hx hb hr hlocks dL_law_2643
          · exact absurd (by decide) c_41
        · exact absurd c_38 (by decide)
      · exact absurd (by decide) c_37

set_option maxHeartbeats 4000000 in
set_option maxRecDepth 100000 in
theorem law_17 {p : Program} {e : Env} {s : State} {m : MethodId} {below : List Frame} {meth : Method} {c : Code} (l : Launch) (hlt : l.stackTraces = false) {b : Nat} {xs : Nat → Int32} (C0 : lw_At p s m meth c b 6 xs) (em : Nat → Nat) (dC : Nat → ClassId) (dI : Nat → Nat → Nat) (j : Nat) (hjj : ∀ z : Int32, z = ((xs 1).toUInt32 % 65536).toInt32 → 97 ≤ z.toInt → z.toInt ≤ 122 → (z - 97).toNatClampNeg = j) (x0 : Nat) (ca : Nat) (dr : Nat) (ty0 : Nat) (sf : Nat) (sb : Nat) (ra0 : Nat) (bk : Nat) (c0 : Nat) (th : Nat) (rr : Nat) (a0 : Nat) (a1 : Nat) (a2 : Nat) (mo : Nat) (vp : Value) (vm : Value) (u1 : Value) (u2 : Value) (sf1 : Value) (sb1 : Value) (fC : Nat → Option Nat) (fD : Nat → Option Nat) (cC : ClassId) (cH : ClassId) (cO : ClassId) (cI : ClassId) (cT : ClassId) (cR : ClassId) (cB0 : ClassId) (cB1 : ClassId) (cB2 : ClassId) (cM : ClassId) (m0 : Nat) (lc : Nat) (lp : Nat) (dl : Nat) (rr8 : Nat) (ff : Nat) (fb : Nat) (lw : Nat) (lo : Nat) (tf : Value) (tb : Value) (fL : Nat → Option Nat) (cO8 : ClassId) (cI8 : ClassId) (ou : Nat) (od : Nat) (cOut : ClassId) (cOd : ClassId) (hfC : fC 0 = some c0) (hfD : fD j = some rr) (hfL : fL j = some rr8) {H : Heap} {locs : List Loc} (hamb : amb em (fun q : Nat => s.heap.size ≤ q) s s.heap) (hK : va_K (dC, dI) vwCl [(cC, (.object "Bothfaces$Card")), (cH, .int), (cO, (.array .int)), (cI, .int), (cT, .int), (cR, .int), (cB0, .int), (cB1, .int), (cB2, .int), (cM, .int), (cO8, (.array .int)), (cI8, .int), (cOut, .long), (cOd, .double)] s) (hP : va_P (dC, dI) vwCl [(x0, .inr (11, [.ref ca, .int 0, .int 0, .ref dr, .ref ty0, .int 0, .ref sf, .ref sb, vp, vm, .ref ra0, .int 0, .ref bk])), (ca, .inl (cC, 16, .inr (.inr (.inr (.inr fC))))), (c0, .inr (7, [.ref th, u1, u2, .int 0, .int 0, .int 0, .int 0])), (th, .inl (cH, 4, .inl (fun _ => 0))), (dr, .inl (cO, 26, .inr (.inr (.inr (.inr fD))))), (rr, .inl (cI, 5, .inl (fun _ => 0))), (ty0, .inl (cT, 8, .inl (fun _ => 0))), (sf, .inr (10, [.int 0, sf1, .int 0, .int 0, .int 0, .int 1, .int 0])), (sb, .inr (10, [.int 1, sb1, .int 0, .int 0, .int 0, .int 1, .int 0])), (ra0, .inl (cR, 6, .inl (fun _ => 0))), (bk, .inr (6, [.ref a0, .ref a1, .ref a2, .ref mo, .int 0])), (a0, .inl (cB0, 8, .inl (fun _ => 0))), (a1, .inl (cB1, 8, .inl (fun _ => 0))), (a2, .inl (cB2, 8, .inl (fun _ => 0))), (mo, .inl (cM, 256, .inl (fun _ => 0))), (m0, .inr (14, [.ref lc, .ref lp, .ref dl, .ref ff, .ref fb, .ref lw, .ref lo, .ref (em 1), .int 0])), (lc, .inr (5, [.int 0, .ref (em 0), .int 0])), (lp, .inr (5, [.int 0, .ref (em 0), .int 0])), (dl, .inl (cO8, 26, .inr (.inr (.inr (.inr fL))))), (rr8, .inl (cI8, 5, .inl (fun _ => 0))), (ff, .inr (13, [tf, .int 0, .int 0, .int 1, .int 0])), (fb, .inr (13, [tb, .int 0, .int 0, .int 1, .int 0])), (lw, .inr (5, [.int 0, .ref (em 0), .int 0])), (lo, .inr (5, [.int 0, .ref (em 0), .int 0])), (ou, .inl (cOut, 1, .inr (.inl (fun _ => 0)))), (od, .inl (cOd, 1, .inr (.inr (.inr (.inl (fun _ => 0))))))] H) (hD : va_D (fun q : Nat => s.heap.size ≤ q) [(x0, .inr (11, [.ref ca, .int 0, .int 0, .ref dr, .ref ty0, .int 0, .ref sf, .ref sb, vp, vm, .ref ra0, .int 0, .ref bk])), (ca, .inl (cC, 16, .inr (.inr (.inr (.inr fC))))), (c0, .inr (7, [.ref th, u1, u2, .int 0, .int 0, .int 0, .int 0])), (th, .inl (cH, 4, .inl (fun _ => 0))), (dr, .inl (cO, 26, .inr (.inr (.inr (.inr fD))))), (rr, .inl (cI, 5, .inl (fun _ => 0))), (ty0, .inl (cT, 8, .inl (fun _ => 0))), (sf, .inr (10, [.int 0, sf1, .int 0, .int 0, .int 0, .int 1, .int 0])), (sb, .inr (10, [.int 1, sb1, .int 0, .int 0, .int 0, .int 1, .int 0])), (ra0, .inl (cR, 6, .inl (fun _ => 0))), (bk, .inr (6, [.ref a0, .ref a1, .ref a2, .ref mo, .int 0])), (a0, .inl (cB0, 8, .inl (fun _ => 0))), (a1, .inl (cB1, 8, .inl (fun _ => 0))), (a2, .inl (cB2, 8, .inl (fun _ => 0))), (mo, .inl (cM, 256, .inl (fun _ => 0))), (m0, .inr (14, [.ref lc, .ref lp, .ref dl, .ref ff, .ref fb, .ref lw, .ref lo, .ref (em 1), .int 0])), (lc, .inr (5, [.int 0, .ref (em 0), .int 0])), (lp, .inr (5, [.int 0, .ref (em 0), .int 0])), (dl, .inl (cO8, 26, .inr (.inr (.inr (.inr fL))))), (rr8, .inl (cI8, 5, .inl (fun _ => 0))), (ff, .inr (13, [tf, .int 0, .int 0, .int 1, .int 0])), (fb, .inr (13, [tb, .int 0, .int 0, .int 1, .int 0])), (lw, .inr (5, [.int 0, .ref (em 0), .int 0])), (lo, .inr (5, [.int 0, .ref (em 0), .int 0])), (ou, .inl (cOut, 1, .inr (.inl (fun _ => 0)))), (od, .inl (cOd, 1, .inr (.inr (.inr (.inl (fun _ => 0))))))]) (hS : va_S (fun q : Nat => s.heap.size ≤ q) s.heap H locs) {ls : Array Slot} (hl : lv_has ls 9 [(5, .int 0), (4, .ref od), (3, .ref ou), (2, .ref m0), (1, .ref x0), (0, .ref b)]) : W p l e room_1 s m #[Value.ref b] below meth c H locs 146 2187 (lw_Z below #[Value.ref b] s) (F0 m 1256 ls []) := by
  obtain ⟨hx, hb, hr, hml, hown0, hts0, hX, hbl, hlocks, hgv⟩ := id C0
  have hts := ow_hts hts0
  have hown : s.vm.findClass RL = some m.cls := hown0
  have hA : ∀ q : Nat, s.heap.size ≤ q → (fun q : Nat => s.heap.size ≤ q) q := fun _ h => h
  have hbA : ¬ (fun q : Nat => s.heap.size ≤ q) b := Nat.not_le.mpr hbl
  refine lv_aload_n hx hb dL_law_1256 rfl (lv_at hl 4 rfl) ?_
  refine lv_aload_n hx hb dL_law_1257 rfl (lv_at hl 5 rfl) ?_
  refine lv_iload hx hb dL_law_1258 (lv_at hl 0 rfl) ?_
  refine lv_iconst (v := 1) hx hb dL_law_1260 (by decide) ?_
  refine lv_iadd hx hb dL_law_1261 ?_
  refine lv_topi (fun k_1 ek_1 => ?_)
  obtain rfl : k_1 = 1 := ek_1.trans (by decide)
  refine va_sld hx hb hX hbl hbA hS (vp_in_iff.mpr ⟨by decide, by decide⟩) dL_law_1262 ?_
  refine lv_topi (fun y_2 ey_2 => ?_)
  have ey_2 : y_2 = xs 1 := ey_2
  refine lv_if_eq (tgt := 1270) hx hb dL_law_1263 (by decide) (fun c_3 => ?_) (fun c_3 => ?_)
  · refine lv_iconst (v := 0) hx hb dL_law_1270 (by decide) ?_
    refine lv_aload_n hx hb dL_law_1271 rfl (lv_at hl 5 rfl) ?_
    refine lv_iload hx hb dL_law_1272 (lv_at hl 0 rfl) ?_
    refine lv_iconst (v := 2) hx hb dL_law_1274 (by decide) ?_
    refine lv_iadd hx hb dL_law_1275 ?_
    refine lv_topi (fun k_4 ek_4 => ?_)
    obtain rfl : k_4 = 2 := ek_4.trans (by decide)
    refine va_sld hx hb hX hbl hbA hS (vp_in_iff.mpr ⟨by decide, by decide⟩) dL_law_1276 ?_
    refine lv_topi (fun y_5 ey_5 => ?_)
    have ey_5 : y_5 = xs 2 := ey_5
    refine lv_aload_n hx hb dL_law_1277 rfl (lv_at hl 2 rfl) ?_
    have hPc := hP.sub (ws' := [(x0, .inr (11, [.ref ca, .int 0, .int 0, .ref dr, .ref ty0, .int 0, .ref sf, .ref sb, vp, vm, .ref ra0, .int 0, .ref bk])), (sf, .inr (10, [.int 0, sf1, .int 0, .int 0, .int 0, .int 1, .int 0])), (sb, .inr (10, [.int 1, sb1, .int 0, .int 0, .int 0, .int 1, .int 0])), (ou, .inl (cOut, 1, .inr (.inl (fun _ => 0))))]) [0, 7, 8, 24] rfl
    have hDc := hD.sub (ws' := [(x0, .inr (11, [.ref ca, .int 0, .int 0, .ref dr, .ref ty0, .int 0, .ref sf, .ref sb, vp, vm, .ref ra0, .int 0, .ref bk])), (sf, .inr (10, [.int 0, sf1, .int 0, .int 0, .int 0, .int 1, .int 0])), (sb, .inr (10, [.int 1, sb1, .int 0, .int 0, .int 0, .int 1, .int 0])), (ou, .inl (cOut, 1, .inr (.inl (fun _ => 0))))]) [0, 7, 8, 24] (by decide) rfl
    have hKc := hK.sub (tys' := [(cOut, .long)]) [12] rfl
    have hFc := va_free (wc := [(x0, .inr (11, [.ref ca, .int 0, .int 0, .ref dr, .ref ty0, .int 0, .ref sf, .ref sb, vp, vm, .ref ra0, .int 0, .ref bk])), (sf, .inr (10, [.int 0, sf1, .int 0, .int 0, .int 0, .int 1, .int 0])), (sb, .inr (10, [.int 1, sb1, .int 0, .int 0, .int 0, .int 1, .int 0])), (ou, .inl (cOut, 1, .inr (.inl (fun _ => 0))))]) hD hS hA [0, 7, 8, 24] rfl
    refine va_calli (vx_runSW (As := [.ref x0, .int 0, .int y_5, .ref ou]) (rest := []) ⟨hx, hb, hml, hown, hts⟩ (c_L_setInk_0 l hlt em dC dI x0 sf sb y_5 (.ref ca) (.int 0) (.int 0) (.ref dr) (.ref ty0) (.int 0) vp vm (.ref ra0) (.int 0) (.ref bk) (.int 0) sf1 (.int 0) (.int 0) (.int 0) (.int 1) sb1 (.int 0) (.int 0) (.int 0) ou cOut (fun _ => 0) H.size) (vx_cwSW 4 hts gT_L_setInk rfl rfl rfl (by decide +kernel) ⟨Nat.le_of_ble_eq_true rfl, Nat.le_of_ble_eq_true rfl⟩) ⟨Pw.blind _ _ _ _ _ _ _, fun U hU hW => ⟨rfl, Pw.go hPc hKc hDc hamb hS hFc hU hW⟩⟩ rfl rfl hl.1 rfl (lv_room (Nat.le_of_ble_eq_true rfl)) dL_law_1278 ⟨Nat.le_of_ble_eq_true rfl, Nat.le_of_ble_eq_true rfl⟩) hS (fun q _ h => hFc q h) hFc (fun r_6 u t H1 locs1 ht hvm hw hB hz1 hk1 hS => ?_)
    obtain ⟨gOx_7, ⟨hP1, hK1, hD1⟩, f_8⟩ := hB
    rw [ht] at hP1
    have hK1 := va_K.moved hvm.symm hK1
    obtain ⟨hP, hD⟩ := va_join (wr := [(ca, .inl (cC, 16, .inr (.inr (.inr (.inr fC))))), (c0, .inr (7, [.ref th, u1, u2, .int 0, .int 0, .int 0, .int 0])), (th, .inl (cH, 4, .inl (fun _ => 0))), (dr, .inl (cO, 26, .inr (.inr (.inr (.inr fD))))), (rr, .inl (cI, 5, .inl (fun _ => 0))), (ty0, .inl (cT, 8, .inl (fun _ => 0))), (ra0, .inl (cR, 6, .inl (fun _ => 0))), (bk, .inr (6, [.ref a0, .ref a1, .ref a2, .ref mo, .int 0])), (a0, .inl (cB0, 8, .inl (fun _ => 0))), (a1, .inl (cB1, 8, .inl (fun _ => 0))), (a2, .inl (cB2, 8, .inl (fun _ => 0))), (mo, .inl (cM, 256, .inl (fun _ => 0))), (m0, .inr (14, [.ref lc, .ref lp, .ref dl, .ref ff, .ref fb, .ref lw, .ref lo, .ref (em 1), .int 0])), (lc, .inr (5, [.int 0, .ref (em 0), .int 0])), (lp, .inr (5, [.int 0, .ref (em 0), .int 0])), (dl, .inl (cO8, 26, .inr (.inr (.inr (.inr fL))))), (rr8, .inl (cI8, 5, .inl (fun _ => 0))), (ff, .inr (13, [tf, .int 0, .int 0, .int 1, .int 0])), (fb, .inr (13, [tb, .int 0, .int 0, .int 1, .int 0])), (lw, .inr (5, [.int 0, .ref (em 0), .int 0])), (lo, .inr (5, [.int 0, .ref (em 0), .int 0])), (od, .inl (cOd, 1, .inr (.inr (.inr (.inl (fun _ => 0))))))]) (w1 := [(ou, .inl (cOut, 1, .inr (.inl gOx_7)))]) hP hD [0, 7, 8, 24] [1, 2, 3, 4, 5, 6, 9, 10, 11, 12, 13, 14, 15, 16, 17, 18, 19, 20, 21, 22, 23, 25] rfl rfl (by decide) (by decide) hk1 hFc hP1 hD1
    have hK := (hK.sub (tys' := [(cC, (.object "Bothfaces$Card")), (cH, .int), (cO, (.array .int)), (cI, .int), (cT, .int), (cR, .int), (cB0, .int), (cB1, .int), (cB2, .int), (cM, .int), (cO8, (.array .int)), (cI8, .int), (cOd, .double)]) [0, 1, 2, 3, 4, 5, 6, 7, 8, 9, 10, 11, 13] rfl).app hK1
    generalize H1 = H at hP hS ⊢
    have hP : va_P (dC, dI) vwCl [(ca, .inl (cC, 16, .inr (.inr (.inr (.inr fC))))), (c0, .inr (7, [.ref th, u1, u2, .int 0, .int 0, .int 0, .int 0])), (th, .inl (cH, 4, .inl (fun _ => 0))), (dr, .inl (cO, 26, .inr (.inr (.inr (.inr fD))))), (rr, .inl (cI, 5, .inl (fun _ => 0))), (ty0, .inl (cT, 8, .inl (fun _ => 0))), (ra0, .inl (cR, 6, .inl (fun _ => 0))), (bk, .inr (6, [.ref a0, .ref a1, .ref a2, .ref mo, .int 0])), (a0, .inl (cB0, 8, .inl (fun _ => 0))), (a1, .inl (cB1, 8, .inl (fun _ => 0))), (a2, .inl (cB2, 8, .inl (fun _ => 0))), (mo, .inl (cM, 256, .inl (fun _ => 0))), (m0, .inr (14, [.ref lc, .ref lp, .ref dl, .ref ff, .ref fb, .ref lw, .ref lo, .ref (em 1), .int 0])), (lc, .inr (5, [.int 0, .ref (em 0), .int 0])), (lp, .inr (5, [.int 0, .ref (em 0), .int 0])), (dl, .inl (cO8, 26, .inr (.inr (.inr (.inr fL))))), (rr8, .inl (cI8, 5, .inl (fun _ => 0))), (ff, .inr (13, [tf, .int 0, .int 0, .int 1, .int 0])), (fb, .inr (13, [tb, .int 0, .int 0, .int 1, .int 0])), (lw, .inr (5, [.int 0, .ref (em 0), .int 0])), (lo, .inr (5, [.int 0, .ref (em 0), .int 0])), (od, .inl (cOd, 1, .inr (.inr (.inr (.inl (fun _ => 0)))))), (ou, .inl (cOut, 1, .inr (.inl gOx_7)))] H := hP
    have hD : va_D (fun q : Nat => s.heap.size ≤ q) [(ca, .inl (cC, 16, .inr (.inr (.inr (.inr fC))))), (c0, .inr (7, [.ref th, u1, u2, .int 0, .int 0, .int 0, .int 0])), (th, .inl (cH, 4, .inl (fun _ => 0))), (dr, .inl (cO, 26, .inr (.inr (.inr (.inr fD))))), (rr, .inl (cI, 5, .inl (fun _ => 0))), (ty0, .inl (cT, 8, .inl (fun _ => 0))), (ra0, .inl (cR, 6, .inl (fun _ => 0))), (bk, .inr (6, [.ref a0, .ref a1, .ref a2, .ref mo, .int 0])), (a0, .inl (cB0, 8, .inl (fun _ => 0))), (a1, .inl (cB1, 8, .inl (fun _ => 0))), (a2, .inl (cB2, 8, .inl (fun _ => 0))), (mo, .inl (cM, 256, .inl (fun _ => 0))), (m0, .inr (14, [.ref lc, .ref lp, .ref dl, .ref ff, .ref fb, .ref lw, .ref lo, .ref (em 1), .int 0])), (lc, .inr (5, [.int 0, .ref (em 0), .int 0])), (lp, .inr (5, [.int 0, .ref (em 0), .int 0])), (dl, .inl (cO8, 26, .inr (.inr (.inr (.inr fL))))), (rr8, .inl (cI8, 5, .inl (fun _ => 0))), (ff, .inr (13, [tf, .int 0, .int 0, .int 1, .int 0])), (fb, .inr (13, [tb, .int 0, .int 0, .int 1, .int 0])), (lw, .inr (5, [.int 0, .ref (em 0), .int 0])), (lo, .inr (5, [.int 0, .ref (em 0), .int 0])), (od, .inl (cOd, 1, .inr (.inr (.inr (.inl (fun _ => 0)))))), (ou, .inl (cOut, 1, .inr (.inl gOx_7)))] := hD
    have hK : va_K (dC, dI) vwCl [(cC, (.object "Bothfaces$Card")), (cH, .int), (cO, (.array .int)), (cI, .int), (cT, .int), (cR, .int), (cB0, .int), (cB1, .int), (cB2, .int), (cM, .int), (cO8, (.array .int)), (cI8, .int), (cOd, .double), (cOut, .long)] s := hK
    refine W.widen (k := 147) (n := 2193) (Nat.le_of_ble_eq_true rfl) (Nat.le_of_ble_eq_true rfl) ?_
    have hw : ((y_5.toInt < 0 ∨ 7 < y_5.toInt) → r_6 = 1) ∧ (¬ (y_5.toInt < 0 ∨ 7 < y_5.toInt) → r_6 = 0) := hw
    rcases Classical.em (y_5.toInt < 0 ∨ 7 < y_5.toInt) with t_9 | t_9
    · have hw := hw.1 t_9
      rw [hw]
      refine lv_istore (lv' := [(6, .int 1), (5, .int 0), (4, .ref od), (3, .ref ou), (2, .ref m0), (1, .ref x0), (0, .ref b)]) hx hb dL_law_1281 hl (by decide) rfl (fun ls hl => ?_)
      refine lv_aload_n hx hb dL_law_1283 rfl (lv_at hl 4 rfl) ?_
      refine lv_aload_n hx hb dL_law_1284 rfl (lv_at hl 6 rfl) ?_
      refine lv_iload hx hb dL_law_1285 (lv_at hl 1 rfl) ?_
      refine lv_iconst (v := 1) hx hb dL_law_1287 (by decide) ?_
      refine lv_iadd hx hb dL_law_1288 ?_
      refine lv_topi (fun k_10 ek_10 => ?_)
      obtain rfl : k_10 = 1 := ek_10.trans (by decide)
      refine va_sld hx hb hX hbl hbA hS (vp_in_iff.mpr ⟨by decide, by decide⟩) dL_law_1289 ?_
      refine lv_topi (fun y_11 ey_11 => ?_)
      have ey_11 : y_11 = xs 1 := ey_11
      obtain rfl : y_2 = y_11 := ey_2.trans ey_11.symm
      refine lv_if_eq (tgt := 1297) hx hb dL_law_1290 (by decide) (fun c_12 => ?_) (fun c_12 => ?_)
      · refine lv_iconst (v := 0) hx hb dL_law_1297 (by decide) ?_
        refine lv_aload_n hx hb dL_law_1298 rfl (lv_at hl 6 rfl) ?_
        refine lv_iload hx hb dL_law_1299 (lv_at hl 1 rfl) ?_
        refine lv_iconst (v := 2) hx hb dL_law_1301 (by decide) ?_
        refine lv_iadd hx hb dL_law_1302 ?_
        refine lv_topi (fun k_13 ek_13 => ?_)
        obtain rfl : k_13 = 2 := ek_13.trans (by decide)
        refine va_sld hx hb hX hbl hbA hS (vp_in_iff.mpr ⟨by decide, by decide⟩) dL_law_1303 ?_
        refine lv_topi (fun y_14 ey_14 => ?_)
        have ey_14 : y_14 = xs 2 := ey_14
        obtain rfl : y_5 = y_14 := ey_5.trans ey_14.symm
        have hPc := hP.sub (ws' := [(m0, .inr (14, [.ref lc, .ref lp, .ref dl, .ref ff, .ref fb, .ref lw, .ref lo, .ref (em 1), .int 0])), (ff, .inr (13, [tf, .int 0, .int 0, .int 1, .int 0])), (fb, .inr (13, [tb, .int 0, .int 0, .int 1, .int 0]))]) [12, 17, 18] rfl
        have hDc := hD.sub (ws' := [(m0, .inr (14, [.ref lc, .ref lp, .ref dl, .ref ff, .ref fb, .ref lw, .ref lo, .ref (em 1), .int 0])), (ff, .inr (13, [tf, .int 0, .int 0, .int 1, .int 0])), (fb, .inr (13, [tb, .int 0, .int 0, .int 1, .int 0]))]) [12, 17, 18] (by decide) rfl
        have hKc := hK.sub (tys' := []) [] rfl
        have hFc := va_free (wc := [(m0, .inr (14, [.ref lc, .ref lp, .ref dl, .ref ff, .ref fb, .ref lw, .ref lo, .ref (em 1), .int 0])), (ff, .inr (13, [tf, .int 0, .int 0, .int 1, .int 0])), (fb, .inr (13, [tb, .int 0, .int 0, .int 1, .int 0]))]) hD hS hA [12, 17, 18] rfl
        refine va_calli (va_runV (As := [.int 0, .int y_5]) (rest := []) ⟨hx, hb, hml, hown, hts⟩ (c_X8_setInk_0 l em dC dI m0 y_5 (.ref lc) (.ref lp) (.ref dl) (.ref lw) (.ref lo) (.ref (em 1)) (.int 0) ff fb tf tb H.size) (cwV 2 hts gT_X8_setInk rfl rfl rfl (by decide +kernel) ⟨Nat.le_of_ble_eq_true rfl, Nat.le_of_ble_eq_true rfl⟩) ⟨Pw.blind _ _ _ _ _ _ _, va_recv hKc hPc (ci := 14) (q0 := 0) rfl rfl, fun U hU hW => ⟨rfl, Pw.go hPc hKc hDc hamb hS hFc hU hW⟩⟩ rfl rfl hl.1 rfl (lv_room (Nat.le_of_ble_eq_true rfl)) dL_law_1304 ⟨Nat.le_of_ble_eq_true rfl, Nat.le_of_ble_eq_true rfl⟩) hS (fun q _ h => hFc q h) hFc (fun r_15 u t H1 locs1 ht hvm hw hB hz1 hk1 hS => ?_)
        obtain ⟨tvx_16, ⟨hP1, hK1, hD1⟩, f_17, f_18⟩ := hB
        rw [ht] at hP1
        have hK1 := va_K.moved hvm.symm hK1
        obtain ⟨hP, hD⟩ := va_join (wr := [(ca, .inl (cC, 16, .inr (.inr (.inr (.inr fC))))), (c0, .inr (7, [.ref th, u1, u2, .int 0, .int 0, .int 0, .int 0])), (th, .inl (cH, 4, .inl (fun _ => 0))), (dr, .inl (cO, 26, .inr (.inr (.inr (.inr fD))))), (rr, .inl (cI, 5, .inl (fun _ => 0))), (ty0, .inl (cT, 8, .inl (fun _ => 0))), (ra0, .inl (cR, 6, .inl (fun _ => 0))), (bk, .inr (6, [.ref a0, .ref a1, .ref a2, .ref mo, .int 0])), (a0, .inl (cB0, 8, .inl (fun _ => 0))), (a1, .inl (cB1, 8, .inl (fun _ => 0))), (a2, .inl (cB2, 8, .inl (fun _ => 0))), (mo, .inl (cM, 256, .inl (fun _ => 0))), (lc, .inr (5, [.int 0, .ref (em 0), .int 0])), (lp, .inr (5, [.int 0, .ref (em 0), .int 0])), (dl, .inl (cO8, 26, .inr (.inr (.inr (.inr fL))))), (rr8, .inl (cI8, 5, .inl (fun _ => 0))), (lw, .inr (5, [.int 0, .ref (em 0), .int 0])), (lo, .inr (5, [.int 0, .ref (em 0), .int 0])), (od, .inl (cOd, 1, .inr (.inr (.inr (.inl (fun _ => 0)))))), (ou, .inl (cOut, 1, .inr (.inl gOx_7)))]) (w1 := [(m0, .inr (14, [.ref lc, .ref lp, .ref dl, .ref ff, .ref fb, .ref lw, .ref lo, .ref (em 1), .int tvx_16]))]) hP hD [12, 17, 18] [0, 1, 2, 3, 4, 5, 6, 7, 8, 9, 10, 11, 13, 14, 15, 16, 19, 20, 21, 22] rfl rfl (by decide) (by decide) hk1 hFc hP1 hD1
        have hK := (hK.sub (tys' := [(cC, (.object "Bothfaces$Card")), (cH, .int), (cO, (.array .int)), (cI, .int), (cT, .int), (cR, .int), (cB0, .int), (cB1, .int), (cB2, .int), (cM, .int), (cO8, (.array .int)), (cI8, .int), (cOd, .double), (cOut, .long)]) [0, 1, 2, 3, 4, 5, 6, 7, 8, 9, 10, 11, 12, 13] rfl).app hK1
        generalize H1 = H at hP hS ⊢
        have hP : va_P (dC, dI) vwCl [(ca, .inl (cC, 16, .inr (.inr (.inr (.inr fC))))), (c0, .inr (7, [.ref th, u1, u2, .int 0, .int 0, .int 0, .int 0])), (th, .inl (cH, 4, .inl (fun _ => 0))), (dr, .inl (cO, 26, .inr (.inr (.inr (.inr fD))))), (rr, .inl (cI, 5, .inl (fun _ => 0))), (ty0, .inl (cT, 8, .inl (fun _ => 0))), (ra0, .inl (cR, 6, .inl (fun _ => 0))), (bk, .inr (6, [.ref a0, .ref a1, .ref a2, .ref mo, .int 0])), (a0, .inl (cB0, 8, .inl (fun _ => 0))), (a1, .inl (cB1, 8, .inl (fun _ => 0))), (a2, .inl (cB2, 8, .inl (fun _ => 0))), (mo, .inl (cM, 256, .inl (fun _ => 0))), (lc, .inr (5, [.int 0, .ref (em 0), .int 0])), (lp, .inr (5, [.int 0, .ref (em 0), .int 0])), (dl, .inl (cO8, 26, .inr (.inr (.inr (.inr fL))))), (rr8, .inl (cI8, 5, .inl (fun _ => 0))), (lw, .inr (5, [.int 0, .ref (em 0), .int 0])), (lo, .inr (5, [.int 0, .ref (em 0), .int 0])), (od, .inl (cOd, 1, .inr (.inr (.inr (.inl (fun _ => 0)))))), (ou, .inl (cOut, 1, .inr (.inl gOx_7))), (m0, .inr (14, [.ref lc, .ref lp, .ref dl, .ref ff, .ref fb, .ref lw, .ref lo, .ref (em 1), .int tvx_16]))] H := hP
        have hD : va_D (fun q : Nat => s.heap.size ≤ q) [(ca, .inl (cC, 16, .inr (.inr (.inr (.inr fC))))), (c0, .inr (7, [.ref th, u1, u2, .int 0, .int 0, .int 0, .int 0])), (th, .inl (cH, 4, .inl (fun _ => 0))), (dr, .inl (cO, 26, .inr (.inr (.inr (.inr fD))))), (rr, .inl (cI, 5, .inl (fun _ => 0))), (ty0, .inl (cT, 8, .inl (fun _ => 0))), (ra0, .inl (cR, 6, .inl (fun _ => 0))), (bk, .inr (6, [.ref a0, .ref a1, .ref a2, .ref mo, .int 0])), (a0, .inl (cB0, 8, .inl (fun _ => 0))), (a1, .inl (cB1, 8, .inl (fun _ => 0))), (a2, .inl (cB2, 8, .inl (fun _ => 0))), (mo, .inl (cM, 256, .inl (fun _ => 0))), (lc, .inr (5, [.int 0, .ref (em 0), .int 0])), (lp, .inr (5, [.int 0, .ref (em 0), .int 0])), (dl, .inl (cO8, 26, .inr (.inr (.inr (.inr fL))))), (rr8, .inl (cI8, 5, .inl (fun _ => 0))), (lw, .inr (5, [.int 0, .ref (em 0), .int 0])), (lo, .inr (5, [.int 0, .ref (em 0), .int 0])), (od, .inl (cOd, 1, .inr (.inr (.inr (.inl (fun _ => 0)))))), (ou, .inl (cOut, 1, .inr (.inl gOx_7))), (m0, .inr (14, [.ref lc, .ref lp, .ref dl, .ref ff, .ref fb, .ref lw, .ref lo, .ref (em 1), .int tvx_16]))] := hD
        have hK : va_K (dC, dI) vwCl [(cC, (.object "Bothfaces$Card")), (cH, .int), (cO, (.array .int)), (cI, .int), (cT, .int), (cR, .int), (cB0, .int), (cB1, .int), (cB2, .int), (cM, .int), (cO8, (.array .int)), (cI8, .int), (cOd, .double), (cOut, .long)] s := hK
        refine W.widen (k := 147) (n := 2193) (Nat.le_of_ble_eq_true rfl) (Nat.le_of_ble_eq_true rfl) ?_
        have hw : ((y_5.toInt < 0 ∨ 7 < y_5.toInt) → r_15 = 0) ∧ (¬ (y_5.toInt < 0 ∨ 7 < y_5.toInt) → r_15 = 1) := hw
        have hw := hw.1 t_9
        rw [hw]
        obtain rfl : tvx_16 = 1 := f_17 t_9
        refine lv_istore (lv' := [(7, .int 0), (6, .int 1), (5, .int 0), (4, .ref od), (3, .ref ou), (2, .ref m0), (1, .ref x0), (0, .ref b)]) hx hb dL_law_1307 hl (by decide) rfl (fun ls hl => ?_)
        refine lv_aload_n hx hb dL_law_1309 rfl (lv_at hl 5 rfl) ?_
        have hPc := hP.sub (ws' := [(m0, .inr (14, [.ref lc, .ref lp, .ref dl, .ref ff, .ref fb, .ref lw, .ref lo, .ref (em 1), .int 1]))]) [20] rfl
        have hDc := hD.sub (ws' := [(m0, .inr (14, [.ref lc, .ref lp, .ref dl, .ref ff, .ref fb, .ref lw, .ref lo, .ref (em 1), .int 1]))]) [20] (by decide) rfl
        have hKc := hK.sub (tys' := []) [] rfl
        have hFc := va_free (wc := [(m0, .inr (14, [.ref lc, .ref lp, .ref dl, .ref ff, .ref fb, .ref lw, .ref lo, .ref (em 1), .int 1]))]) hD hS hA [20] rfl
        refine va_calli (va_runV (As := []) (rest := []) ⟨hx, hb, hml, hown, hts⟩ (c_X8_thrown l em dC dI m0 1 (.ref lc) (.ref lp) (.ref dl) (.ref ff) (.ref fb) (.ref lw) (.ref lo) (.ref (em 1)) H.size) (cwV 0 hts gT_X8_thrown rfl rfl rfl (by decide +kernel) ⟨Nat.le_of_ble_eq_true rfl, Nat.le_of_ble_eq_true rfl⟩) ⟨Pw.blind _ _ _ _ _ _ _, va_recv hKc hPc (ci := 14) (q0 := 0) rfl rfl, fun U hU hW => ⟨rfl, Pw.go hPc hKc hDc hamb hS hFc hU hW⟩⟩ rfl rfl hl.1 rfl (lv_room (Nat.le_of_ble_eq_true rfl)) dL_law_1310 ⟨Nat.le_of_ble_eq_true rfl, Nat.le_of_ble_eq_true rfl⟩) hS (fun q _ h => hFc q h) hFc (fun r_20 u t H1 locs1 ht hvm hw hB hz1 hk1 hS => ?_)
        obtain ⟨hP, hD⟩ := va_rest (wr := [(ca, .inl (cC, 16, .inr (.inr (.inr (.inr fC))))), (c0, .inr (7, [.ref th, u1, u2, .int 0, .int 0, .int 0, .int 0])), (th, .inl (cH, 4, .inl (fun _ => 0))), (dr, .inl (cO, 26, .inr (.inr (.inr (.inr fD))))), (rr, .inl (cI, 5, .inl (fun _ => 0))), (ty0, .inl (cT, 8, .inl (fun _ => 0))), (ra0, .inl (cR, 6, .inl (fun _ => 0))), (bk, .inr (6, [.ref a0, .ref a1, .ref a2, .ref mo, .int 0])), (a0, .inl (cB0, 8, .inl (fun _ => 0))), (a1, .inl (cB1, 8, .inl (fun _ => 0))), (a2, .inl (cB2, 8, .inl (fun _ => 0))), (mo, .inl (cM, 256, .inl (fun _ => 0))), (lc, .inr (5, [.int 0, .ref (em 0), .int 0])), (lp, .inr (5, [.int 0, .ref (em 0), .int 0])), (dl, .inl (cO8, 26, .inr (.inr (.inr (.inr fL))))), (rr8, .inl (cI8, 5, .inl (fun _ => 0))), (lw, .inr (5, [.int 0, .ref (em 0), .int 0])), (lo, .inr (5, [.int 0, .ref (em 0), .int 0])), (od, .inl (cOd, 1, .inr (.inr (.inr (.inl (fun _ => 0)))))), (ou, .inl (cOut, 1, .inr (.inl gOx_7)))]) hP hD [20] [0, 1, 2, 3, 4, 5, 6, 7, 8, 9, 10, 11, 12, 13, 14, 15, 16, 17, 18, 19] rfl rfl (by decide) (by decide) hk1 hFc
        generalize H1 = H at hP hS ⊢
        refine W.widen (k := 147) (n := 2193) (Nat.le_of_ble_eq_true rfl) (Nat.le_of_ble_eq_true rfl) ?_
        have hw : r_20 = 1 := hw
        rw [hw]
        refine lv_iload hx hb dL_law_1313 (lv_at hl 1 rfl) ?_
        refine lv_icmp_eq (tgt := 1320) hx hb dL_law_1315 (by decide) (fun c_21 => ?_) (fun c_21 => ?_)
        · refine lv_iload hx hb dL_law_1320 (lv_at hl 1 rfl) ?_
          refine lv_if_ne (tgt := 1337) hx hb dL_law_1322 (by decide) (fun c_22 => ?_) (fun c_22 => ?_)
          · refine lv_goto (tgt := 2636) hx hb dL_law_1337 (by decide) ?_
            refine lv_iinc (v := 6) (lv' := [(5, .int 6), (7, .int 0), (6, .int 1), (4, .ref od), (3, .ref ou), (2, .ref m0), (1, .ref x0), (0, .ref b)]) hx hb dL_law_2636 hl (k := 2) rfl (by decide) (by decide) rfl (fun ls hl => ?_)
            refine lv_goto (tgt := 28) hx hb dL_law_2639 (by decide) ?_
            refine lv_iload hx hb dL_law_28 (lv_at hl 0 rfl) ?_
            refine lv_aload_n hx hb dL_law_30 rfl (lv_at hl 7 rfl) ?_
            refine va_slen hx hb hX hbl hbA hS dL_law_31 ?_
            refine lv_topi (fun n_23 en_23 => ?_)
            obtain rfl : n_23 = 6 := en_23.trans (by decide)
            refine lv_bipush (v := 6) hx hb dL_law_32 (by decide) ?_
            refine lv_isub hx hb dL_law_34 ?_
            refine lv_topi (fun k_24 ek_24 => ?_)
            obtain rfl : k_24 = 0 := ek_24.trans (by decide)
            refine lv_icmp_gt (tgt := 2642) hx hb dL_law_35 (by decide) (fun c_25 => ?_) (fun c_25 => ?_)
            · refine lv_iconst (v := 1) hx hb dL_law_2642 (by decide) ?_
              refine W.widen (k := 600006) (n := 7302072) (Nat.le_of_ble_eq_true rfl) (Nat.le_of_ble_eq_true rfl) ?_
              refine va_forget hS.2.2 ?_
              refine W.base ?_
              exact lw_ret (Drawn.sameBut.refl s.drawn lw_cs) hx hb hr hlocks dL_law_2643
            · exact absurd (by decide) c_25
          · exact absurd c_22 (by decide)
        · exact absurd (by decide) c_21
      · exact absurd c_3 c_12
    · have hw := hw.2 t_9
      rw [hw]
      refine lv_istore (lv' := [(6, .int 0), (5, .int 0), (4, .ref od), (3, .ref ou), (2, .ref m0), (1, .ref x0), (0, .ref b)]) hx hb dL_law_1281 hl (by decide) rfl (fun ls hl => ?_)
      refine lv_aload_n hx hb dL_law_1283 rfl (lv_at hl 4 rfl) ?_
      refine lv_aload_n hx hb dL_law_1284 rfl (lv_at hl 6 rfl) ?_
      refine lv_iload hx hb dL_law_1285 (lv_at hl 1 rfl) ?_
      refine lv_iconst (v := 1) hx hb dL_law_1287 (by decide) ?_
      refine lv_iadd hx hb dL_law_1288 ?_
      refine lv_topi (fun k_26 ek_26 => ?_)
      obtain rfl : k_26 = 1 := ek_26.trans (by decide)
      refine va_sld hx hb hX hbl hbA hS (vp_in_iff.mpr ⟨by decide, by decide⟩) dL_law_1289 ?_
      refine lv_topi (fun y_27 ey_27 => ?_)
      have ey_27 : y_27 = xs 1 := ey_27
      obtain rfl : y_2 = y_27 := ey_2.trans ey_27.symm
      refine lv_if_eq (tgt := 1297) hx hb dL_law_1290 (by decide) (fun c_28 => ?_) (fun c_28 => ?_)
      · refine lv_iconst (v := 0) hx hb dL_law_1297 (by decide) ?_
        refine lv_aload_n hx hb dL_law_1298 rfl (lv_at hl 6 rfl) ?_
        refine lv_iload hx hb dL_law_1299 (lv_at hl 1 rfl) ?_
        refine lv_iconst (v := 2) hx hb dL_law_1301 (by decide) ?_
        refine lv_iadd hx hb dL_law_1302 ?_
        refine lv_topi (fun k_29 ek_29 => ?_)
        obtain rfl : k_29 = 2 := ek_29.trans (by decide)
        refine va_sld hx hb hX hbl hbA hS (vp_in_iff.mpr ⟨by decide, by decide⟩) dL_law_1303 ?_
        refine lv_topi (fun y_30 ey_30 => ?_)
        have ey_30 : y_30 = xs 2 := ey_30
        obtain rfl : y_5 = y_30 := ey_5.trans ey_30.symm
        have hPc := hP.sub (ws' := [(m0, .inr (14, [.ref lc, .ref lp, .ref dl, .ref ff, .ref fb, .ref lw, .ref lo, .ref (em 1), .int 0])), (ff, .inr (13, [tf, .int 0, .int 0, .int 1, .int 0])), (fb, .inr (13, [tb, .int 0, .int 0, .int 1, .int 0]))]) [12, 17, 18] rfl
        have hDc := hD.sub (ws' := [(m0, .inr (14, [.ref lc, .ref lp, .ref dl, .ref ff, .ref fb, .ref lw, .ref lo, .ref (em 1), .int 0])), (ff, .inr (13, [tf, .int 0, .int 0, .int 1, .int 0])), (fb, .inr (13, [tb, .int 0, .int 0, .int 1, .int 0]))]) [12, 17, 18] (by decide) rfl
        have hKc := hK.sub (tys' := []) [] rfl
        have hFc := va_free (wc := [(m0, .inr (14, [.ref lc, .ref lp, .ref dl, .ref ff, .ref fb, .ref lw, .ref lo, .ref (em 1), .int 0])), (ff, .inr (13, [tf, .int 0, .int 0, .int 1, .int 0])), (fb, .inr (13, [tb, .int 0, .int 0, .int 1, .int 0]))]) hD hS hA [12, 17, 18] rfl
        refine va_calli (va_runV (As := [.int 0, .int y_5]) (rest := []) ⟨hx, hb, hml, hown, hts⟩ (c_X8_setInk_0 l em dC dI m0 y_5 (.ref lc) (.ref lp) (.ref dl) (.ref lw) (.ref lo) (.ref (em 1)) (.int 0) ff fb tf tb H.size) (cwV 2 hts gT_X8_setInk rfl rfl rfl (by decide +kernel) ⟨Nat.le_of_ble_eq_true rfl, Nat.le_of_ble_eq_true rfl⟩) ⟨Pw.blind _ _ _ _ _ _ _, va_recv hKc hPc (ci := 14) (q0 := 0) rfl rfl, fun U hU hW => ⟨rfl, Pw.go hPc hKc hDc hamb hS hFc hU hW⟩⟩ rfl rfl hl.1 rfl (lv_room (Nat.le_of_ble_eq_true rfl)) dL_law_1304 ⟨Nat.le_of_ble_eq_true rfl, Nat.le_of_ble_eq_true rfl⟩) hS (fun q _ h => hFc q h) hFc (fun r_31 u t H1 locs1 ht hvm hw hB hz1 hk1 hS => ?_)
        obtain ⟨tvx_32, ⟨hP1, hK1, hD1⟩, f_33, f_34⟩ := hB
        rw [ht] at hP1
        have hK1 := va_K.moved hvm.symm hK1
        obtain ⟨hP, hD⟩ := va_join (wr := [(ca, .inl (cC, 16, .inr (.inr (.inr (.inr fC))))), (c0, .inr (7, [.ref th, u1, u2, .int 0, .int 0, .int 0, .int 0])), (th, .inl (cH, 4, .inl (fun _ => 0))), (dr, .inl (cO, 26, .inr (.inr (.inr (.inr fD))))), (rr, .inl (cI, 5, .inl (fun _ => 0))), (ty0, .inl (cT, 8, .inl (fun _ => 0))), (ra0, .inl (cR, 6, .inl (fun _ => 0))), (bk, .inr (6, [.ref a0, .ref a1, .ref a2, .ref mo, .int 0])), (a0, .inl (cB0, 8, .inl (fun _ => 0))), (a1, .inl (cB1, 8, .inl (fun _ => 0))), (a2, .inl (cB2, 8, .inl (fun _ => 0))), (mo, .inl (cM, 256, .inl (fun _ => 0))), (lc, .inr (5, [.int 0, .ref (em 0), .int 0])), (lp, .inr (5, [.int 0, .ref (em 0), .int 0])), (dl, .inl (cO8, 26, .inr (.inr (.inr (.inr fL))))), (rr8, .inl (cI8, 5, .inl (fun _ => 0))), (lw, .inr (5, [.int 0, .ref (em 0), .int 0])), (lo, .inr (5, [.int 0, .ref (em 0), .int 0])), (od, .inl (cOd, 1, .inr (.inr (.inr (.inl (fun _ => 0)))))), (ou, .inl (cOut, 1, .inr (.inl gOx_7)))]) (w1 := [(m0, .inr (14, [.ref lc, .ref lp, .ref dl, .ref ff, .ref fb, .ref lw, .ref lo, .ref (em 1), .int tvx_32]))]) hP hD [12, 17, 18] [0, 1, 2, 3, 4, 5, 6, 7, 8, 9, 10, 11, 13, 14, 15, 16, 19, 20, 21, 22] rfl rfl (by decide) (by decide) hk1 hFc hP1 hD1
        have hK := (hK.sub (tys' := [(cC, (.object "Bothfaces$Card")), (cH, .int), (cO, (.array .int)), (cI, .int), (cT, .int), (cR, .int), (cB0, .int), (cB1, .int), (cB2, .int), (cM, .int), (cO8, (.array .int)), (cI8, .int), (cOd, .double), (cOut, .long)]) [0, 1, 2, 3, 4, 5, 6, 7, 8, 9, 10, 11, 12, 13] rfl).app hK1
        generalize H1 = H at hP hS ⊢
        have hP : va_P (dC, dI) vwCl [(ca, .inl (cC, 16, .inr (.inr (.inr (.inr fC))))), (c0, .inr (7, [.ref th, u1, u2, .int 0, .int 0, .int 0, .int 0])), (th, .inl (cH, 4, .inl (fun _ => 0))), (dr, .inl (cO, 26, .inr (.inr (.inr (.inr fD))))), (rr, .inl (cI, 5, .inl (fun _ => 0))), (ty0, .inl (cT, 8, .inl (fun _ => 0))), (ra0, .inl (cR, 6, .inl (fun _ => 0))), (bk, .inr (6, [.ref a0, .ref a1, .ref a2, .ref mo, .int 0])), (a0, .inl (cB0, 8, .inl (fun _ => 0))), (a1, .inl (cB1, 8, .inl (fun _ => 0))), (a2, .inl (cB2, 8, .inl (fun _ => 0))), (mo, .inl (cM, 256, .inl (fun _ => 0))), (lc, .inr (5, [.int 0, .ref (em 0), .int 0])), (lp, .inr (5, [.int 0, .ref (em 0), .int 0])), (dl, .inl (cO8, 26, .inr (.inr (.inr (.inr fL))))), (rr8, .inl (cI8, 5, .inl (fun _ => 0))), (lw, .inr (5, [.int 0, .ref (em 0), .int 0])), (lo, .inr (5, [.int 0, .ref (em 0), .int 0])), (od, .inl (cOd, 1, .inr (.inr (.inr (.inl (fun _ => 0)))))), (ou, .inl (cOut, 1, .inr (.inl gOx_7))), (m0, .inr (14, [.ref lc, .ref lp, .ref dl, .ref ff, .ref fb, .ref lw, .ref lo, .ref (em 1), .int tvx_32]))] H := hP
        have hD : va_D (fun q : Nat => s.heap.size ≤ q) [(ca, .inl (cC, 16, .inr (.inr (.inr (.inr fC))))), (c0, .inr (7, [.ref th, u1, u2, .int 0, .int 0, .int 0, .int 0])), (th, .inl (cH, 4, .inl (fun _ => 0))), (dr, .inl (cO, 26, .inr (.inr (.inr (.inr fD))))), (rr, .inl (cI, 5, .inl (fun _ => 0))), (ty0, .inl (cT, 8, .inl (fun _ => 0))), (ra0, .inl (cR, 6, .inl (fun _ => 0))), (bk, .inr (6, [.ref a0, .ref a1, .ref a2, .ref mo, .int 0])), (a0, .inl (cB0, 8, .inl (fun _ => 0))), (a1, .inl (cB1, 8, .inl (fun _ => 0))), (a2, .inl (cB2, 8, .inl (fun _ => 0))), (mo, .inl (cM, 256, .inl (fun _ => 0))), (lc, .inr (5, [.int 0, .ref (em 0), .int 0])), (lp, .inr (5, [.int 0, .ref (em 0), .int 0])), (dl, .inl (cO8, 26, .inr (.inr (.inr (.inr fL))))), (rr8, .inl (cI8, 5, .inl (fun _ => 0))), (lw, .inr (5, [.int 0, .ref (em 0), .int 0])), (lo, .inr (5, [.int 0, .ref (em 0), .int 0])), (od, .inl (cOd, 1, .inr (.inr (.inr (.inl (fun _ => 0)))))), (ou, .inl (cOut, 1, .inr (.inl gOx_7))), (m0, .inr (14, [.ref lc, .ref lp, .ref dl, .ref ff, .ref fb, .ref lw, .ref lo, .ref (em 1), .int tvx_32]))] := hD
        have hK : va_K (dC, dI) vwCl [(cC, (.object "Bothfaces$Card")), (cH, .int), (cO, (.array .int)), (cI, .int), (cT, .int), (cR, .int), (cB0, .int), (cB1, .int), (cB2, .int), (cM, .int), (cO8, (.array .int)), (cI8, .int), (cOd, .double), (cOut, .long)] s := hK
        refine W.widen (k := 147) (n := 2193) (Nat.le_of_ble_eq_true rfl) (Nat.le_of_ble_eq_true rfl) ?_
        have hw : ((y_5.toInt < 0 ∨ 7 < y_5.toInt) → r_31 = 0) ∧ (¬ (y_5.toInt < 0 ∨ 7 < y_5.toInt) → r_31 = 1) := hw
        have hw := hw.2 t_9
        rw [hw]
        obtain rfl : tvx_32 = 0 := f_34 t_9
        refine lv_istore (lv' := [(7, .int 1), (6, .int 0), (5, .int 0), (4, .ref od), (3, .ref ou), (2, .ref m0), (1, .ref x0), (0, .ref b)]) hx hb dL_law_1307 hl (by decide) rfl (fun ls hl => ?_)
        refine lv_aload_n hx hb dL_law_1309 rfl (lv_at hl 5 rfl) ?_
        have hPc := hP.sub (ws' := [(m0, .inr (14, [.ref lc, .ref lp, .ref dl, .ref ff, .ref fb, .ref lw, .ref lo, .ref (em 1), .int 0]))]) [20] rfl
        have hDc := hD.sub (ws' := [(m0, .inr (14, [.ref lc, .ref lp, .ref dl, .ref ff, .ref fb, .ref lw, .ref lo, .ref (em 1), .int 0]))]) [20] (by decide) rfl
        have hKc := hK.sub (tys' := []) [] rfl
        have hFc := va_free (wc := [(m0, .inr (14, [.ref lc, .ref lp, .ref dl, .ref ff, .ref fb, .ref lw, .ref lo, .ref (em 1), .int 0]))]) hD hS hA [20] rfl
        refine va_calli (va_runV (As := []) (rest := []) ⟨hx, hb, hml, hown, hts⟩ (c_X8_thrown l em dC dI m0 0 (.ref lc) (.ref lp) (.ref dl) (.ref ff) (.ref fb) (.ref lw) (.ref lo) (.ref (em 1)) H.size) (cwV 0 hts gT_X8_thrown rfl rfl rfl (by decide +kernel) ⟨Nat.le_of_ble_eq_true rfl, Nat.le_of_ble_eq_true rfl⟩) ⟨Pw.blind _ _ _ _ _ _ _, va_recv hKc hPc (ci := 14) (q0 := 0) rfl rfl, fun U hU hW => ⟨rfl, Pw.go hPc hKc hDc hamb hS hFc hU hW⟩⟩ rfl rfl hl.1 rfl (lv_room (Nat.le_of_ble_eq_true rfl)) dL_law_1310 ⟨Nat.le_of_ble_eq_true rfl, Nat.le_of_ble_eq_true rfl⟩) hS (fun q _ h => hFc q h) hFc (fun r_36 u t H1 locs1 ht hvm hw hB hz1 hk1 hS => ?_)
        obtain ⟨hP, hD⟩ := va_rest (wr := [(ca, .inl (cC, 16, .inr (.inr (.inr (.inr fC))))), (c0, .inr (7, [.ref th, u1, u2, .int 0, .int 0, .int 0, .int 0])), (th, .inl (cH, 4, .inl (fun _ => 0))), (dr, .inl (cO, 26, .inr (.inr (.inr (.inr fD))))), (rr, .inl (cI, 5, .inl (fun _ => 0))), (ty0, .inl (cT, 8, .inl (fun _ => 0))), (ra0, .inl (cR, 6, .inl (fun _ => 0))), (bk, .inr (6, [.ref a0, .ref a1, .ref a2, .ref mo, .int 0])), (a0, .inl (cB0, 8, .inl (fun _ => 0))), (a1, .inl (cB1, 8, .inl (fun _ => 0))), (a2, .inl (cB2, 8, .inl (fun _ => 0))), (mo, .inl (cM, 256, .inl (fun _ => 0))), (lc, .inr (5, [.int 0, .ref (em 0), .int 0])), (lp, .inr (5, [.int 0, .ref (em 0), .int 0])), (dl, .inl (cO8, 26, .inr (.inr (.inr (.inr fL))))), (rr8, .inl (cI8, 5, .inl (fun _ => 0))), (lw, .inr (5, [.int 0, .ref (em 0), .int 0])), (lo, .inr (5, [.int 0, .ref (em 0), .int 0])), (od, .inl (cOd, 1, .inr (.inr (.inr (.inl (fun _ => 0)))))), (ou, .inl (cOut, 1, .inr (.inl gOx_7)))]) hP hD [20] [0, 1, 2, 3, 4, 5, 6, 7, 8, 9, 10, 11, 12, 13, 14, 15, 16, 17, 18, 19] rfl rfl (by decide) (by decide) hk1 hFc
        generalize H1 = H at hP hS ⊢
        refine W.widen (k := 147) (n := 2193) (Nat.le_of_ble_eq_true rfl) (Nat.le_of_ble_eq_true rfl) ?_
        have hw : r_36 = 0 := hw
        rw [hw]
        refine lv_iload hx hb dL_law_1313 (lv_at hl 1 rfl) ?_
        refine lv_icmp_eq (tgt := 1320) hx hb dL_law_1315 (by decide) (fun c_37 => ?_) (fun c_37 => ?_)
        · refine lv_iload hx hb dL_law_1320 (lv_at hl 1 rfl) ?_
          refine lv_if_ne (tgt := 1337) hx hb dL_law_1322 (by decide) (fun c_38 => ?_) (fun c_38 => ?_)
          · exact absurd (by decide) c_38
          · refine lv_aload_n hx hb dL_law_1325 rfl (lv_at hl 4 rfl) ?_
            refine lv_iconst (v := 0) hx hb dL_law_1326 (by decide) ?_
            refine va_lald hx hb hK hP 19 13 rfl rfl (vp_in_iff.mpr ⟨by decide, by decide⟩) dL_law_1327 ?_
            refine lv_topl (fun k_39 ek_39 => ?_)
            obtain rfl : 1 = k_39 := (ek_39.trans (f_8 t_9)).symm
            refine lv_iload hx hb dL_law_1328 (lv_at hl 0 rfl) ?_
            refine lv_i2l (v := 1) hx hb dL_law_1330 (by decide) ?_
            refine W.lcmp hx hb dL_law_1331 ?_
            refine lv_topi (fun k_40 ek_40 => ?_)
            obtain rfl : k_40 = 0 := ek_40.trans (by decide)
            refine lv_if_eq (tgt := 1337) hx hb dL_law_1332 (by decide) (fun c_41 => ?_) (fun c_41 => ?_)
            · refine lv_goto (tgt := 2636) hx hb dL_law_1337 (by decide) ?_
              refine lv_iinc (v := 6) (lv' := [(5, .int 6), (7, .int 1), (6, .int 0), (4, .ref od), (3, .ref ou), (2, .ref m0), (1, .ref x0), (0, .ref b)]) hx hb dL_law_2636 hl (k := 2) rfl (by decide) (by decide) rfl (fun ls hl => ?_)
              refine lv_goto (tgt := 28) hx hb dL_law_2639 (by decide) ?_
              refine lv_iload hx hb dL_law_28 (lv_at hl 0 rfl) ?_
              refine lv_aload_n hx hb dL_law_30 rfl (lv_at hl 7 rfl) ?_
              refine va_slen hx hb hX hbl hbA hS dL_law_31 ?_
              refine lv_topi (fun n_42 en_42 => ?_)
              obtain rfl : n_42 = 6 := en_42.trans (by decide)
              refine lv_bipush (v := 6) hx hb dL_law_32 (by decide) ?_
              refine lv_isub hx hb dL_law_34 ?_
              refine lv_topi (fun k_43 ek_43 => ?_)
              obtain rfl : k_43 = 0 := ek_43.trans (by decide)
              refine lv_icmp_gt (tgt := 2642) hx hb dL_law_35 (by decide) (fun c_44 => ?_) (fun c_44 => ?_)
              · refine lv_iconst (v := 1) hx hb dL_law_2642 (by decide) ?_
                refine W.widen (k := 600006) (n := 7302072) (Nat.le_of_ble_eq_true rfl) (Nat.le_of_ble_eq_true rfl) ?_
                refine va_forget hS.2.2 ?_
                refine W.base ?_
                exact lw_ret (Drawn.sameBut.refl s.drawn lw_cs) hx hb hr hlocks dL_law_2643
              · exact absurd (by decide) c_44
            · exact absurd (by decide) c_41
        · exact absurd (by decide) c_37
      · exact absurd c_3 c_28
  · refine lv_iconst (v := 1) hx hb dL_law_1266 (by decide) ?_
    refine lv_goto (tgt := 1271) hx hb dL_law_1267 (by decide) ?_
    refine lv_aload_n hx hb dL_law_1271 rfl (lv_at hl 5 rfl) ?_
    refine lv_iload hx hb dL_law_1272 (lv_at hl 0 rfl) ?_
    refine lv_iconst (v := 2) hx hb dL_law_1274 (by decide) ?_
    refine lv_iadd hx hb dL_law_1275 ?_
    refine lv_topi (fun k_45 ek_45 => ?_)
    obtain rfl : k_45 = 2 := ek_45.trans (by decide)
    refine va_sld hx hb hX hbl hbA hS (vp_in_iff.mpr ⟨by decide, by decide⟩) dL_law_1276 ?_
    refine lv_topi (fun y_46 ey_46 => ?_)
    have ey_46 : y_46 = xs 2 := ey_46
    refine lv_aload_n hx hb dL_law_1277 rfl (lv_at hl 2 rfl) ?_
    have hPc := hP.sub (ws' := [(x0, .inr (11, [.ref ca, .int 0, .int 0, .ref dr, .ref ty0, .int 0, .ref sf, .ref sb, vp, vm, .ref ra0, .int 0, .ref bk])), (sf, .inr (10, [.int 0, sf1, .int 0, .int 0, .int 0, .int 1, .int 0])), (sb, .inr (10, [.int 1, sb1, .int 0, .int 0, .int 0, .int 1, .int 0])), (ou, .inl (cOut, 1, .inr (.inl (fun _ => 0))))]) [0, 7, 8, 24] rfl
    have hDc := hD.sub (ws' := [(x0, .inr (11, [.ref ca, .int 0, .int 0, .ref dr, .ref ty0, .int 0, .ref sf, .ref sb, vp, vm, .ref ra0, .int 0, .ref bk])), (sf, .inr (10, [.int 0, sf1, .int 0, .int 0, .int 0, .int 1, .int 0])), (sb, .inr (10, [.int 1, sb1, .int 0, .int 0, .int 0, .int 1, .int 0])), (ou, .inl (cOut, 1, .inr (.inl (fun _ => 0))))]) [0, 7, 8, 24] (by decide) rfl
    have hKc := hK.sub (tys' := [(cOut, .long)]) [12] rfl
    have hFc := va_free (wc := [(x0, .inr (11, [.ref ca, .int 0, .int 0, .ref dr, .ref ty0, .int 0, .ref sf, .ref sb, vp, vm, .ref ra0, .int 0, .ref bk])), (sf, .inr (10, [.int 0, sf1, .int 0, .int 0, .int 0, .int 1, .int 0])), (sb, .inr (10, [.int 1, sb1, .int 0, .int 0, .int 0, .int 1, .int 0])), (ou, .inl (cOut, 1, .inr (.inl (fun _ => 0))))]) hD hS hA [0, 7, 8, 24] rfl
    refine va_calli (vx_runSW (As := [.ref x0, .int 1, .int y_46, .ref ou]) (rest := []) ⟨hx, hb, hml, hown, hts⟩ (c_L_setInk_1 l hlt em dC dI x0 sf sb y_46 (.ref ca) (.int 0) (.int 0) (.ref dr) (.ref ty0) (.int 0) vp vm (.ref ra0) (.int 0) (.ref bk) (.int 0) sf1 (.int 0) (.int 0) (.int 0) (.int 1) sb1 (.int 0) (.int 0) (.int 0) ou cOut (fun _ => 0) H.size) (vx_cwSW 4 hts gT_L_setInk rfl rfl rfl (by decide +kernel) ⟨Nat.le_of_ble_eq_true rfl, Nat.le_of_ble_eq_true rfl⟩) ⟨Pw.blind _ _ _ _ _ _ _, fun U hU hW => ⟨rfl, Pw.go hPc hKc hDc hamb hS hFc hU hW⟩⟩ rfl rfl hl.1 rfl (lv_room (Nat.le_of_ble_eq_true rfl)) dL_law_1278 ⟨Nat.le_of_ble_eq_true rfl, Nat.le_of_ble_eq_true rfl⟩) hS (fun q _ h => hFc q h) hFc (fun r_47 u t H1 locs1 ht hvm hw hB hz1 hk1 hS => ?_)
    obtain ⟨gOx_48, ⟨hP1, hK1, hD1⟩, f_49⟩ := hB
    rw [ht] at hP1
    have hK1 := va_K.moved hvm.symm hK1
    obtain ⟨hP, hD⟩ := va_join (wr := [(ca, .inl (cC, 16, .inr (.inr (.inr (.inr fC))))), (c0, .inr (7, [.ref th, u1, u2, .int 0, .int 0, .int 0, .int 0])), (th, .inl (cH, 4, .inl (fun _ => 0))), (dr, .inl (cO, 26, .inr (.inr (.inr (.inr fD))))), (rr, .inl (cI, 5, .inl (fun _ => 0))), (ty0, .inl (cT, 8, .inl (fun _ => 0))), (ra0, .inl (cR, 6, .inl (fun _ => 0))), (bk, .inr (6, [.ref a0, .ref a1, .ref a2, .ref mo, .int 0])), (a0, .inl (cB0, 8, .inl (fun _ => 0))), (a1, .inl (cB1, 8, .inl (fun _ => 0))), (a2, .inl (cB2, 8, .inl (fun _ => 0))), (mo, .inl (cM, 256, .inl (fun _ => 0))), (m0, .inr (14, [.ref lc, .ref lp, .ref dl, .ref ff, .ref fb, .ref lw, .ref lo, .ref (em 1), .int 0])), (lc, .inr (5, [.int 0, .ref (em 0), .int 0])), (lp, .inr (5, [.int 0, .ref (em 0), .int 0])), (dl, .inl (cO8, 26, .inr (.inr (.inr (.inr fL))))), (rr8, .inl (cI8, 5, .inl (fun _ => 0))), (ff, .inr (13, [tf, .int 0, .int 0, .int 1, .int 0])), (fb, .inr (13, [tb, .int 0, .int 0, .int 1, .int 0])), (lw, .inr (5, [.int 0, .ref (em 0), .int 0])), (lo, .inr (5, [.int 0, .ref (em 0), .int 0])), (od, .inl (cOd, 1, .inr (.inr (.inr (.inl (fun _ => 0))))))]) (w1 := [(ou, .inl (cOut, 1, .inr (.inl gOx_48)))]) hP hD [0, 7, 8, 24] [1, 2, 3, 4, 5, 6, 9, 10, 11, 12, 13, 14, 15, 16, 17, 18, 19, 20, 21, 22, 23, 25] rfl rfl (by decide) (by decide) hk1 hFc hP1 hD1
    have hK := (hK.sub (tys' := [(cC, (.object "Bothfaces$Card")), (cH, .int), (cO, (.array .int)), (cI, .int), (cT, .int), (cR, .int), (cB0, .int), (cB1, .int), (cB2, .int), (cM, .int), (cO8, (.array .int)), (cI8, .int), (cOd, .double)]) [0, 1, 2, 3, 4, 5, 6, 7, 8, 9, 10, 11, 13] rfl).app hK1
    generalize H1 = H at hP hS ⊢
    have hP : va_P (dC, dI) vwCl [(ca, .inl (cC, 16, .inr (.inr (.inr (.inr fC))))), (c0, .inr (7, [.ref th, u1, u2, .int 0, .int 0, .int 0, .int 0])), (th, .inl (cH, 4, .inl (fun _ => 0))), (dr, .inl (cO, 26, .inr (.inr (.inr (.inr fD))))), (rr, .inl (cI, 5, .inl (fun _ => 0))), (ty0, .inl (cT, 8, .inl (fun _ => 0))), (ra0, .inl (cR, 6, .inl (fun _ => 0))), (bk, .inr (6, [.ref a0, .ref a1, .ref a2, .ref mo, .int 0])), (a0, .inl (cB0, 8, .inl (fun _ => 0))), (a1, .inl (cB1, 8, .inl (fun _ => 0))), (a2, .inl (cB2, 8, .inl (fun _ => 0))), (mo, .inl (cM, 256, .inl (fun _ => 0))), (m0, .inr (14, [.ref lc, .ref lp, .ref dl, .ref ff, .ref fb, .ref lw, .ref lo, .ref (em 1), .int 0])), (lc, .inr (5, [.int 0, .ref (em 0), .int 0])), (lp, .inr (5, [.int 0, .ref (em 0), .int 0])), (dl, .inl (cO8, 26, .inr (.inr (.inr (.inr fL))))), (rr8, .inl (cI8, 5, .inl (fun _ => 0))), (ff, .inr (13, [tf, .int 0, .int 0, .int 1, .int 0])), (fb, .inr (13, [tb, .int 0, .int 0, .int 1, .int 0])), (lw, .inr (5, [.int 0, .ref (em 0), .int 0])), (lo, .inr (5, [.int 0, .ref (em 0), .int 0])), (od, .inl (cOd, 1, .inr (.inr (.inr (.inl (fun _ => 0)))))), (ou, .inl (cOut, 1, .inr (.inl gOx_48)))] H := hP
    have hD : va_D (fun q : Nat => s.heap.size ≤ q) [(ca, .inl (cC, 16, .inr (.inr (.inr (.inr fC))))), (c0, .inr (7, [.ref th, u1, u2, .int 0, .int 0, .int 0, .int 0])), (th, .inl (cH, 4, .inl (fun _ => 0))), (dr, .inl (cO, 26, .inr (.inr (.inr (.inr fD))))), (rr, .inl (cI, 5, .inl (fun _ => 0))), (ty0, .inl (cT, 8, .inl (fun _ => 0))), (ra0, .inl (cR, 6, .inl (fun _ => 0))), (bk, .inr (6, [.ref a0, .ref a1, .ref a2, .ref mo, .int 0])), (a0, .inl (cB0, 8, .inl (fun _ => 0))), (a1, .inl (cB1, 8, .inl (fun _ => 0))), (a2, .inl (cB2, 8, .inl (fun _ => 0))), (mo, .inl (cM, 256, .inl (fun _ => 0))), (m0, .inr (14, [.ref lc, .ref lp, .ref dl, .ref ff, .ref fb, .ref lw, .ref lo, .ref (em 1), .int 0])), (lc, .inr (5, [.int 0, .ref (em 0), .int 0])), (lp, .inr (5, [.int 0, .ref (em 0), .int 0])), (dl, .inl (cO8, 26, .inr (.inr (.inr (.inr fL))))), (rr8, .inl (cI8, 5, .inl (fun _ => 0))), (ff, .inr (13, [tf, .int 0, .int 0, .int 1, .int 0])), (fb, .inr (13, [tb, .int 0, .int 0, .int 1, .int 0])), (lw, .inr (5, [.int 0, .ref (em 0), .int 0])), (lo, .inr (5, [.int 0, .ref (em 0), .int 0])), (od, .inl (cOd, 1, .inr (.inr (.inr (.inl (fun _ => 0)))))), (ou, .inl (cOut, 1, .inr (.inl gOx_48)))] := hD
    have hK : va_K (dC, dI) vwCl [(cC, (.object "Bothfaces$Card")), (cH, .int), (cO, (.array .int)), (cI, .int), (cT, .int), (cR, .int), (cB0, .int), (cB1, .int), (cB2, .int), (cM, .int), (cO8, (.array .int)), (cI8, .int), (cOd, .double), (cOut, .long)] s := hK
    refine W.widen (k := 147) (n := 2193) (Nat.le_of_ble_eq_true rfl) (Nat.le_of_ble_eq_true rfl) ?_
    have hw : ((y_46.toInt < 0 ∨ 7 < y_46.toInt) → r_47 = 1) ∧ (¬ (y_46.toInt < 0 ∨ 7 < y_46.toInt) → r_47 = 0) := hw
    rcases Classical.em (y_46.toInt < 0 ∨ 7 < y_46.toInt) with t_50 | t_50
    · have hw := hw.1 t_50
      rw [hw]
      refine lv_istore (lv' := [(6, .int 1), (5, .int 0), (4, .ref od), (3, .ref ou), (2, .ref m0), (1, .ref x0), (0, .ref b)]) hx hb dL_law_1281 hl (by decide) rfl (fun ls hl => ?_)
      refine lv_aload_n hx hb dL_law_1283 rfl (lv_at hl 4 rfl) ?_
      refine lv_aload_n hx hb dL_law_1284 rfl (lv_at hl 6 rfl) ?_
      refine lv_iload hx hb dL_law_1285 (lv_at hl 1 rfl) ?_
      refine lv_iconst (v := 1) hx hb dL_law_1287 (by decide) ?_
      refine lv_iadd hx hb dL_law_1288 ?_
      refine lv_topi (fun k_51 ek_51 => ?_)
      obtain rfl : k_51 = 1 := ek_51.trans (by decide)
      refine va_sld hx hb hX hbl hbA hS (vp_in_iff.mpr ⟨by decide, by decide⟩) dL_law_1289 ?_
      refine lv_topi (fun y_52 ey_52 => ?_)
      have ey_52 : y_52 = xs 1 := ey_52
      obtain rfl : y_2 = y_52 := ey_2.trans ey_52.symm
      refine lv_if_eq (tgt := 1297) hx hb dL_law_1290 (by decide) (fun c_53 => ?_) (fun c_53 => ?_)
      · exact absurd c_53 c_3
      · refine lv_iconst (v := 1) hx hb dL_law_1293 (by decide) ?_
        refine lv_goto (tgt := 1298) hx hb dL_law_1294 (by decide) ?_
        refine lv_aload_n hx hb dL_law_1298 rfl (lv_at hl 6 rfl) ?_
        refine lv_iload hx hb dL_law_1299 (lv_at hl 1 rfl) ?_
        refine lv_iconst (v := 2) hx hb dL_law_1301 (by decide) ?_
        refine lv_iadd hx hb dL_law_1302 ?_
        refine lv_topi (fun k_54 ek_54 => ?_)
        obtain rfl : k_54 = 2 := ek_54.trans (by decide)
        refine va_sld hx hb hX hbl hbA hS (vp_in_iff.mpr ⟨by decide, by decide⟩) dL_law_1303 ?_
        refine lv_topi (fun y_55 ey_55 => ?_)
        have ey_55 : y_55 = xs 2 := ey_55
        obtain rfl : y_46 = y_55 := ey_46.trans ey_55.symm
        have hPc := hP.sub (ws' := [(m0, .inr (14, [.ref lc, .ref lp, .ref dl, .ref ff, .ref fb, .ref lw, .ref lo, .ref (em 1), .int 0])), (ff, .inr (13, [tf, .int 0, .int 0, .int 1, .int 0])), (fb, .inr (13, [tb, .int 0, .int 0, .int 1, .int 0]))]) [12, 17, 18] rfl
        have hDc := hD.sub (ws' := [(m0, .inr (14, [.ref lc, .ref lp, .ref dl, .ref ff, .ref fb, .ref lw, .ref lo, .ref (em 1), .int 0])), (ff, .inr (13, [tf, .int 0, .int 0, .int 1, .int 0])), (fb, .inr (13, [tb, .int 0, .int 0, .int 1, .int 0]))]) [12, 17, 18] (by decide) rfl
        have hKc := hK.sub (tys' := []) [] rfl
        have hFc := va_free (wc := [(m0, .inr (14, [.ref lc, .ref lp, .ref dl, .ref ff, .ref fb, .ref lw, .ref lo, .ref (em 1), .int 0])), (ff, .inr (13, [tf, .int 0, .int 0, .int 1, .int 0])), (fb, .inr (13, [tb, .int 0, .int 0, .int 1, .int 0]))]) hD hS hA [12, 17, 18] rfl
        refine va_calli (va_runV (As := [.int 1, .int y_46]) (rest := []) ⟨hx, hb, hml, hown, hts⟩ (c_X8_setInk_1 l em dC dI m0 y_46 (.ref lc) (.ref lp) (.ref dl) (.ref lw) (.ref lo) (.ref (em 1)) (.int 0) ff fb tf tb H.size) (cwV 2 hts gT_X8_setInk rfl rfl rfl (by decide +kernel) ⟨Nat.le_of_ble_eq_true rfl, Nat.le_of_ble_eq_true rfl⟩) ⟨Pw.blind _ _ _ _ _ _ _, va_recv hKc hPc (ci := 14) (q0 := 0) rfl rfl, fun U hU hW => ⟨rfl, Pw.go hPc hKc hDc hamb hS hFc hU hW⟩⟩ rfl rfl hl.1 rfl (lv_room (Nat.le_of_ble_eq_true rfl)) dL_law_1304 ⟨Nat.le_of_ble_eq_true rfl, Nat.le_of_ble_eq_true rfl⟩) hS (fun q _ h => hFc q h) hFc (fun r_56 u t H1 locs1 ht hvm hw hB hz1 hk1 hS => ?_)
        obtain ⟨tvx_57, ⟨hP1, hK1, hD1⟩, f_58, f_59⟩ := hB
        rw [ht] at hP1
        have hK1 := va_K.moved hvm.symm hK1
        obtain ⟨hP, hD⟩ := va_join (wr := [(ca, .inl (cC, 16, .inr (.inr (.inr (.inr fC))))), (c0, .inr (7, [.ref th, u1, u2, .int 0, .int 0, .int 0, .int 0])), (th, .inl (cH, 4, .inl (fun _ => 0))), (dr, .inl (cO, 26, .inr (.inr (.inr (.inr fD))))), (rr, .inl (cI, 5, .inl (fun _ => 0))), (ty0, .inl (cT, 8, .inl (fun _ => 0))), (ra0, .inl (cR, 6, .inl (fun _ => 0))), (bk, .inr (6, [.ref a0, .ref a1, .ref a2, .ref mo, .int 0])), (a0, .inl (cB0, 8, .inl (fun _ => 0))), (a1, .inl (cB1, 8, .inl (fun _ => 0))), (a2, .inl (cB2, 8, .inl (fun _ => 0))), (mo, .inl (cM, 256, .inl (fun _ => 0))), (lc, .inr (5, [.int 0, .ref (em 0), .int 0])), (lp, .inr (5, [.int 0, .ref (em 0), .int 0])), (dl, .inl (cO8, 26, .inr (.inr (.inr (.inr fL))))), (rr8, .inl (cI8, 5, .inl (fun _ => 0))), (lw, .inr (5, [.int 0, .ref (em 0), .int 0])), (lo, .inr (5, [.int 0, .ref (em 0), .int 0])), (od, .inl (cOd, 1, .inr (.inr (.inr (.inl (fun _ => 0)))))), (ou, .inl (cOut, 1, .inr (.inl gOx_48)))]) (w1 := [(m0, .inr (14, [.ref lc, .ref lp, .ref dl, .ref ff, .ref fb, .ref lw, .ref lo, .ref (em 1), .int tvx_57]))]) hP hD [12, 17, 18] [0, 1, 2, 3, 4, 5, 6, 7, 8, 9, 10, 11, 13, 14, 15, 16, 19, 20, 21, 22] rfl rfl (by decide) (by decide) hk1 hFc hP1 hD1
        have hK := (hK.sub (tys' := [(cC, (.object "Bothfaces$Card")), (cH, .int), (cO, (.array .int)), (cI, .int), (cT, .int), (cR, .int), (cB0, .int), (cB1, .int), (cB2, .int), (cM, .int), (cO8, (.array .int)), (cI8, .int), (cOd, .double), (cOut, .long)]) [0, 1, 2, 3, 4, 5, 6, 7, 8, 9, 10, 11, 12, 13] rfl).app hK1
        generalize H1 = H at hP hS ⊢
        have hP : va_P (dC, dI) vwCl [(ca, .inl (cC, 16, .inr (.inr (.inr (.inr fC))))), (c0, .inr (7, [.ref th, u1, u2, .int 0, .int 0, .int 0, .int 0])), (th, .inl (cH, 4, .inl (fun _ => 0))), (dr, .inl (cO, 26, .inr (.inr (.inr (.inr fD))))), (rr, .inl (cI, 5, .inl (fun _ => 0))), (ty0, .inl (cT, 8, .inl (fun _ => 0))), (ra0, .inl (cR, 6, .inl (fun _ => 0))), (bk, .inr (6, [.ref a0, .ref a1, .ref a2, .ref mo, .int 0])), (a0, .inl (cB0, 8, .inl (fun _ => 0))), (a1, .inl (cB1, 8, .inl (fun _ => 0))), (a2, .inl (cB2, 8, .inl (fun _ => 0))), (mo, .inl (cM, 256, .inl (fun _ => 0))), (lc, .inr (5, [.int 0, .ref (em 0), .int 0])), (lp, .inr (5, [.int 0, .ref (em 0), .int 0])), (dl, .inl (cO8, 26, .inr (.inr (.inr (.inr fL))))), (rr8, .inl (cI8, 5, .inl (fun _ => 0))), (lw, .inr (5, [.int 0, .ref (em 0), .int 0])), (lo, .inr (5, [.int 0, .ref (em 0), .int 0])), (od, .inl (cOd, 1, .inr (.inr (.inr (.inl (fun _ => 0)))))), (ou, .inl (cOut, 1, .inr (.inl gOx_48))), (m0, .inr (14, [.ref lc, .ref lp, .ref dl, .ref ff, .ref fb, .ref lw, .ref lo, .ref (em 1), .int tvx_57]))] H := hP
        have hD : va_D (fun q : Nat => s.heap.size ≤ q) [(ca, .inl (cC, 16, .inr (.inr (.inr (.inr fC))))), (c0, .inr (7, [.ref th, u1, u2, .int 0, .int 0, .int 0, .int 0])), (th, .inl (cH, 4, .inl (fun _ => 0))), (dr, .inl (cO, 26, .inr (.inr (.inr (.inr fD))))), (rr, .inl (cI, 5, .inl (fun _ => 0))), (ty0, .inl (cT, 8, .inl (fun _ => 0))), (ra0, .inl (cR, 6, .inl (fun _ => 0))), (bk, .inr (6, [.ref a0, .ref a1, .ref a2, .ref mo, .int 0])), (a0, .inl (cB0, 8, .inl (fun _ => 0))), (a1, .inl (cB1, 8, .inl (fun _ => 0))), (a2, .inl (cB2, 8, .inl (fun _ => 0))), (mo, .inl (cM, 256, .inl (fun _ => 0))), (lc, .inr (5, [.int 0, .ref (em 0), .int 0])), (lp, .inr (5, [.int 0, .ref (em 0), .int 0])), (dl, .inl (cO8, 26, .inr (.inr (.inr (.inr fL))))), (rr8, .inl (cI8, 5, .inl (fun _ => 0))), (lw, .inr (5, [.int 0, .ref (em 0), .int 0])), (lo, .inr (5, [.int 0, .ref (em 0), .int 0])), (od, .inl (cOd, 1, .inr (.inr (.inr (.inl (fun _ => 0)))))), (ou, .inl (cOut, 1, .inr (.inl gOx_48))), (m0, .inr (14, [.ref lc, .ref lp, .ref dl, .ref ff, .ref fb, .ref lw, .ref lo, .ref (em 1), .int tvx_57]))] := hD
        have hK : va_K (dC, dI) vwCl [(cC, (.object "Bothfaces$Card")), (cH, .int), (cO, (.array .int)), (cI, .int), (cT, .int), (cR, .int), (cB0, .int), (cB1, .int), (cB2, .int), (cM, .int), (cO8, (.array .int)), (cI8, .int), (cOd, .double), (cOut, .long)] s := hK
        refine W.widen (k := 147) (n := 2193) (Nat.le_of_ble_eq_true rfl) (Nat.le_of_ble_eq_true rfl) ?_
        have hw : ((y_46.toInt < 0 ∨ 7 < y_46.toInt) → r_56 = 0) ∧ (¬ (y_46.toInt < 0 ∨ 7 < y_46.toInt) → r_56 = 1) := hw
        have hw := hw.1 t_50
        rw [hw]
        obtain rfl : tvx_57 = 1 := f_58 t_50
        refine lv_istore (lv' := [(7, .int 0), (6, .int 1), (5, .int 0), (4, .ref od), (3, .ref ou), (2, .ref m0), (1, .ref x0), (0, .ref b)]) hx hb dL_law_1307 hl (by decide) rfl (fun ls hl => ?_)
        refine lv_aload_n hx hb dL_law_1309 rfl (lv_at hl 5 rfl) ?_
        have hPc := hP.sub (ws' := [(m0, .inr (14, [.ref lc, .ref lp, .ref dl, .ref ff, .ref fb, .ref lw, .ref lo, .ref (em 1), .int 1]))]) [20] rfl
        have hDc := hD.sub (ws' := [(m0, .inr (14, [.ref lc, .ref lp, .ref dl, .ref ff, .ref fb, .ref lw, .ref lo, .ref (em 1), .int 1]))]) [20] (by decide) rfl
        have hKc := hK.sub (tys' := []) [] rfl
        have hFc := va_free (wc := [(m0, .inr (14, [.ref lc, .ref lp, .ref dl, .ref ff, .ref fb, .ref lw, .ref lo, .ref (em 1), .int 1]))]) hD hS hA [20] rfl
        refine va_calli (va_runV (As := []) (rest := []) ⟨hx, hb, hml, hown, hts⟩ (c_X8_thrown l em dC dI m0 1 (.ref lc) (.ref lp) (.ref dl) (.ref ff) (.ref fb) (.ref lw) (.ref lo) (.ref (em 1)) H.size) (cwV 0 hts gT_X8_thrown rfl rfl rfl (by decide +kernel) ⟨Nat.le_of_ble_eq_true rfl, Nat.le_of_ble_eq_true rfl⟩) ⟨Pw.blind _ _ _ _ _ _ _, va_recv hKc hPc (ci := 14) (q0 := 0) rfl rfl, fun U hU hW => ⟨rfl, Pw.go hPc hKc hDc hamb hS hFc hU hW⟩⟩ rfl rfl hl.1 rfl (lv_room (Nat.le_of_ble_eq_true rfl)) dL_law_1310 ⟨Nat.le_of_ble_eq_true rfl, Nat.le_of_ble_eq_true rfl⟩) hS (fun q _ h => hFc q h) hFc (fun r_61 u t H1 locs1 ht hvm hw hB hz1 hk1 hS => ?_)
        obtain ⟨hP, hD⟩ := va_rest (wr := [(ca, .inl (cC, 16, .inr (.inr (.inr (.inr fC))))), (c0, .inr (7, [.ref th, u1, u2, .int 0, .int 0, .int 0, .int 0])), (th, .inl (cH, 4, .inl (fun _ => 0))), (dr, .inl (cO, 26, .inr (.inr (.inr (.inr fD))))), (rr, .inl (cI, 5, .inl (fun _ => 0))), (ty0, .inl (cT, 8, .inl (fun _ => 0))), (ra0, .inl (cR, 6, .inl (fun _ => 0))), (bk, .inr (6, [.ref a0, .ref a1, .ref a2, .ref mo, .int 0])), (a0, .inl (cB0, 8, .inl (fun _ => 0))), (a1, .inl (cB1, 8, .inl (fun _ => 0))), (a2, .inl (cB2, 8, .inl (fun _ => 0))), (mo, .inl (cM, 256, .inl (fun _ => 0))), (lc, .inr (5, [.int 0, .ref (em 0), .int 0])), (lp, .inr (5, [.int 0, .ref (em 0), .int 0])), (dl, .inl (cO8, 26, .inr (.inr (.inr (.inr fL))))), (rr8, .inl (cI8, 5, .inl (fun _ => 0))), (lw, .inr (5, [.int 0, .ref (em 0), .int 0])), (lo, .inr (5, [.int 0, .ref (em 0), .int 0])), (od, .inl (cOd, 1, .inr (.inr (.inr (.inl (fun _ => 0)))))), (ou, .inl (cOut, 1, .inr (.inl gOx_48)))]) hP hD [20] [0, 1, 2, 3, 4, 5, 6, 7, 8, 9, 10, 11, 12, 13, 14, 15, 16, 17, 18, 19] rfl rfl (by decide) (by decide) hk1 hFc
        generalize H1 = H at hP hS ⊢
        refine W.widen (k := 147) (n := 2193) (Nat.le_of_ble_eq_true rfl) (Nat.le_of_ble_eq_true rfl) ?_
        have hw : r_61 = 1 := hw
        rw [hw]
        refine lv_iload hx hb dL_law_1313 (lv_at hl 1 rfl) ?_
        refine lv_icmp_eq (tgt := 1320) hx hb dL_law_1315 (by decide) (fun c_62 => ?_) (fun c_62 => ?_)
        · refine lv_iload hx hb dL_law_1320 (lv_at hl 1 rfl) ?_
          refine lv_if_ne (tgt := 1337) hx hb dL_law_1322 (by decide) (fun c_63 => ?_) (fun c_63 => ?_)
          · refine lv_goto (tgt := 2636) hx hb dL_law_1337 (by decide) ?_
            refine lv_iinc (v := 6) (lv' := [(5, .int 6), (7, .int 0), (6, .int 1), (4, .ref od), (3, .ref ou), (2, .ref m0), (1, .ref x0), (0, .ref b)]) hx hb dL_law_2636 hl (k := 2) rfl (by decide) (by decide) rfl (fun ls hl => ?_)
            refine lv_goto (tgt := 28) hx hb dL_law_2639 (by decide) ?_
            refine lv_iload hx hb dL_law_28 (lv_at hl 0 rfl) ?_
            refine lv_aload_n hx hb dL_law_30 rfl (lv_at hl 7 rfl) ?_
            refine va_slen hx hb hX hbl hbA hS dL_law_31 ?_
            refine lv_topi (fun n_64 en_64 => ?_)
            obtain rfl : n_64 = 6 := en_64.trans (by decide)
            refine lv_bipush (v := 6) hx hb dL_law_32 (by decide) ?_
            refine lv_isub hx hb dL_law_34 ?_
            refine lv_topi (fun k_65 ek_65 => ?_)
            obtain rfl : k_65 = 0 := ek_65.trans (by decide)
            refine lv_icmp_gt (tgt := 2642) hx hb dL_law_35 (by decide) (fun c_66 => ?_) (fun c_66 => ?_)
            · refine lv_iconst (v := 1) hx hb dL_law_2642 (by decide) ?_
              refine W.widen (k := 600006) (n := 7302072) (Nat.le_of_ble_eq_true rfl) (Nat.le_of_ble_eq_true rfl) ?_
              refine va_forget hS.2.2 ?_
              refine W.base ?_
              exact lw_ret (Drawn.sameBut.refl s.drawn lw_cs) hx hb hr hlocks dL_law_2643
            · exact absurd (by decide) c_66
          · exact absurd c_63 (by decide)
        · exact absurd (by decide) c_62
    · have hw := hw.2 t_50
      rw [hw]
      refine lv_istore (lv' := [(6, .int 0), (5, .int 0), (4, .ref od), (3, .ref ou), (2, .ref m0), (1, .ref x0), (0, .ref b)]) hx hb dL_law_1281 hl (by decide) rfl (fun ls hl => ?_)
      refine lv_aload_n hx hb dL_law_1283 rfl (lv_at hl 4 rfl) ?_
      refine lv_aload_n hx hb dL_law_1284 rfl (lv_at hl 6 rfl) ?_
      refine lv_iload hx hb dL_law_1285 (lv_at hl 1 rfl) ?_
      refine lv_iconst (v := 1) hx hb dL_law_1287 (by decide) ?_
      refine lv_iadd hx hb dL_law_1288 ?_
      refine lv_topi (fun k_67 ek_67 => ?_)
      obtain rfl : k_67 = 1 := ek_67.trans (by decide)
      refine va_sld hx hb hX hbl hbA hS (vp_in_iff.mpr ⟨by decide, by decide⟩) dL_law_1289 ?_
      refine lv_topi (fun y_68 ey_68 => ?_)
      have ey_68 : y_68 = xs 1 := ey_68
      obtain rfl : y_2 = y_68 := ey_2.trans ey_68.symm
      refine lv_if_eq (tgt := 1297) hx hb dL_law_1290 (by decide) (fun c_69 => ?_) (fun c_69 => ?_)
      · exact absurd c_69 c_3
      · refine lv_iconst (v := 1) hx hb dL_law_1293 (by decide) ?_
        refine lv_goto (tgt := 1298) hx hb dL_law_1294 (by decide) ?_
        refine lv_aload_n hx hb dL_law_1298 rfl (lv_at hl 6 rfl) ?_
        refine lv_iload hx hb dL_law_1299 (lv_at hl 1 rfl) ?_
        refine lv_iconst (v := 2) hx hb dL_law_1301 (by decide) ?_
        refine lv_iadd hx hb dL_law_1302 ?_
        refine lv_topi (fun k_70 ek_70 => ?_)
        obtain rfl : k_70 = 2 := ek_70.trans (by decide)
        refine va_sld hx hb hX hbl hbA hS (vp_in_iff.mpr ⟨by decide, by decide⟩) dL_law_1303 ?_
        refine lv_topi (fun y_71 ey_71 => ?_)
        have ey_71 : y_71 = xs 2 := ey_71
        obtain rfl : y_46 = y_71 := ey_46.trans ey_71.symm
        have hPc := hP.sub (ws' := [(m0, .inr (14, [.ref lc, .ref lp, .ref dl, .ref ff, .ref fb, .ref lw, .ref lo, .ref (em 1), .int 0])), (ff, .inr (13, [tf, .int 0, .int 0, .int 1, .int 0])), (fb, .inr (13, [tb, .int 0, .int 0, .int 1, .int 0]))]) [12, 17, 18] rfl
        have hDc := hD.sub (ws' := [(m0, .inr (14, [.ref lc, .ref lp, .ref dl, .ref ff, .ref fb, .ref lw, .ref lo, .ref (em 1), .int 0])), (ff, .inr (13, [tf, .int 0, .int 0, .int 1, .int 0])), (fb, .inr (13, [tb, .int 0, .int 0, .int 1, .int 0]))]) [12, 17, 18] (by decide) rfl
        have hKc := hK.sub (tys' := []) [] rfl
        have hFc := va_free (wc := [(m0, .inr (14, [.ref lc, .ref lp, .ref dl, .ref ff, .ref fb, .ref lw, .ref lo, .ref (em 1), .int 0])), (ff, .inr (13, [tf, .int 0, .int 0, .int 1, .int 0])), (fb, .inr (13, [tb, .int 0, .int 0, .int 1, .int 0]))]) hD hS hA [12, 17, 18] rfl
        refine va_calli (va_runV (As := [.int 1, .int y_46]) (rest := []) ⟨hx, hb, hml, hown, hts⟩ (c_X8_setInk_1 l em dC dI m0 y_46 (.ref lc) (.ref lp) (.ref dl) (.ref lw) (.ref lo) (.ref (em 1)) (.int 0) ff fb tf tb H.size) (cwV 2 hts gT_X8_setInk rfl rfl rfl (by decide +kernel) ⟨Nat.le_of_ble_eq_true rfl, Nat.le_of_ble_eq_true rfl⟩) ⟨Pw.blind _ _ _ _ _ _ _, va_recv hKc hPc (ci := 14) (q0 := 0) rfl rfl, fun U hU hW => ⟨rfl, Pw.go hPc hKc hDc hamb hS hFc hU hW⟩⟩ rfl rfl hl.1 rfl (lv_room (Nat.le_of_ble_eq_true rfl)) dL_law_1304 ⟨Nat.le_of_ble_eq_true rfl, Nat.le_of_ble_eq_true rfl⟩) hS (fun q _ h => hFc q h) hFc (fun r_72 u t H1 locs1 ht hvm hw hB hz1 hk1 hS => ?_)
        obtain ⟨tvx_73, ⟨hP1, hK1, hD1⟩, f_74, f_75⟩ := hB
        rw [ht] at hP1
        have hK1 := va_K.moved hvm.symm hK1
        obtain ⟨hP, hD⟩ := va_join (wr := [(ca, .inl (cC, 16, .inr (.inr (.inr (.inr fC))))), (c0, .inr (7, [.ref th, u1, u2, .int 0, .int 0, .int 0, .int 0])), (th, .inl (cH, 4, .inl (fun _ => 0))), (dr, .inl (cO, 26, .inr (.inr (.inr (.inr fD))))), (rr, .inl (cI, 5, .inl (fun _ => 0))), (ty0, .inl (cT, 8, .inl (fun _ => 0))), (ra0, .inl (cR, 6, .inl (fun _ => 0))), (bk, .inr (6, [.ref a0, .ref a1, .ref a2, .ref mo, .int 0])), (a0, .inl (cB0, 8, .inl (fun _ => 0))), (a1, .inl (cB1, 8, .inl (fun _ => 0))), (a2, .inl (cB2, 8, .inl (fun _ => 0))), (mo, .inl (cM, 256, .inl (fun _ => 0))), (lc, .inr (5, [.int 0, .ref (em 0), .int 0])), (lp, .inr (5, [.int 0, .ref (em 0), .int 0])), (dl, .inl (cO8, 26, .inr (.inr (.inr (.inr fL))))), (rr8, .inl (cI8, 5, .inl (fun _ => 0))), (lw, .inr (5, [.int 0, .ref (em 0), .int 0])), (lo, .inr (5, [.int 0, .ref (em 0), .int 0])), (od, .inl (cOd, 1, .inr (.inr (.inr (.inl (fun _ => 0)))))), (ou, .inl (cOut, 1, .inr (.inl gOx_48)))]) (w1 := [(m0, .inr (14, [.ref lc, .ref lp, .ref dl, .ref ff, .ref fb, .ref lw, .ref lo, .ref (em 1), .int tvx_73]))]) hP hD [12, 17, 18] [0, 1, 2, 3, 4, 5, 6, 7, 8, 9, 10, 11, 13, 14, 15, 16, 19, 20, 21, 22] rfl rfl (by decide) (by decide) hk1 hFc hP1 hD1
        have hK := (hK.sub (tys' := [(cC, (.object "Bothfaces$Card")), (cH, .int), (cO, (.array .int)), (cI, .int), (cT, .int), (cR, .int), (cB0, .int), (cB1, .int), (cB2, .int), (cM, .int), (cO8, (.array .int)), (cI8, .int), (cOd, .double), (cOut, .long)]) [0, 1, 2, 3, 4, 5, 6, 7, 8, 9, 10, 11, 12, 13] rfl).app hK1
        generalize H1 = H at hP hS ⊢
        have hP : va_P (dC, dI) vwCl [(ca, .inl (cC, 16, .inr (.inr (.inr (.inr fC))))), (c0, .inr (7, [.ref th, u1, u2, .int 0, .int 0, .int 0, .int 0])), (th, .inl (cH, 4, .inl (fun _ => 0))), (dr, .inl (cO, 26, .inr (.inr (.inr (.inr fD))))), (rr, .inl (cI, 5, .inl (fun _ => 0))), (ty0, .inl (cT, 8, .inl (fun _ => 0))), (ra0, .inl (cR, 6, .inl (fun _ => 0))), (bk, .inr (6, [.ref a0, .ref a1, .ref a2, .ref mo, .int 0])), (a0, .inl (cB0, 8, .inl (fun _ => 0))), (a1, .inl (cB1, 8, .inl (fun _ => 0))), (a2, .inl (cB2, 8, .inl (fun _ => 0))), (mo, .inl (cM, 256, .inl (fun _ => 0))), (lc, .inr (5, [.int 0, .ref (em 0), .int 0])), (lp, .inr (5, [.int 0, .ref (em 0), .int 0])), (dl, .inl (cO8, 26, .inr (.inr (.inr (.inr fL))))), (rr8, .inl (cI8, 5, .inl (fun _ => 0))), (lw, .inr (5, [.int 0, .ref (em 0), .int 0])), (lo, .inr (5, [.int 0, .ref (em 0), .int 0])), (od, .inl (cOd, 1, .inr (.inr (.inr (.inl (fun _ => 0)))))), (ou, .inl (cOut, 1, .inr (.inl gOx_48))), (m0, .inr (14, [.ref lc, .ref lp, .ref dl, .ref ff, .ref fb, .ref lw, .ref lo, .ref (em 1), .int tvx_73]))] H := hP
        have hD : va_D (fun q : Nat => s.heap.size ≤ q) [(ca, .inl (cC, 16, .inr (.inr (.inr (.inr fC))))), (c0, .inr (7, [.ref th, u1, u2, .int 0, .int 0, .int 0, .int 0])), (th, .inl (cH, 4, .inl (fun _ => 0))), (dr, .inl (cO, 26, .inr (.inr (.inr (.inr fD))))), (rr, .inl (cI, 5, .inl (fun _ => 0))), (ty0, .inl (cT, 8, .inl (fun _ => 0))), (ra0, .inl (cR, 6, .inl (fun _ => 0))), (bk, .inr (6, [.ref a0, .ref a1, .ref a2, .ref mo, .int 0])), (a0, .inl (cB0, 8, .inl (fun _ => 0))), (a1, .inl (cB1, 8, .inl (fun _ => 0))), (a2, .inl (cB2, 8, .inl (fun _ => 0))), (mo, .inl (cM, 256, .inl (fun _ => 0))), (lc, .inr (5, [.int 0, .ref (em 0), .int 0])), (lp, .inr (5, [.int 0, .ref (em 0), .int 0])), (dl, .inl (cO8, 26, .inr (.inr (.inr (.inr fL))))), (rr8, .inl (cI8, 5, .inl (fun _ => 0))), (lw, .inr (5, [.int 0, .ref (em 0), .int 0])), (lo, .inr (5, [.int 0, .ref (em 0), .int 0])), (od, .inl (cOd, 1, .inr (.inr (.inr (.inl (fun _ => 0)))))), (ou, .inl (cOut, 1, .inr (.inl gOx_48))), (m0, .inr (14, [.ref lc, .ref lp, .ref dl, .ref ff, .ref fb, .ref lw, .ref lo, .ref (em 1), .int tvx_73]))] := hD
        have hK : va_K (dC, dI) vwCl [(cC, (.object "Bothfaces$Card")), (cH, .int), (cO, (.array .int)), (cI, .int), (cT, .int), (cR, .int), (cB0, .int), (cB1, .int), (cB2, .int), (cM, .int), (cO8, (.array .int)), (cI8, .int), (cOd, .double), (cOut, .long)] s := hK
        refine W.widen (k := 147) (n := 2193) (Nat.le_of_ble_eq_true rfl) (Nat.le_of_ble_eq_true rfl) ?_
        have hw : ((y_46.toInt < 0 ∨ 7 < y_46.toInt) → r_72 = 0) ∧ (¬ (y_46.toInt < 0 ∨ 7 < y_46.toInt) → r_72 = 1) := hw
        have hw := hw.2 t_50
        rw [hw]
        obtain rfl : tvx_73 = 0 := f_75 t_50
        refine lv_istore (lv' := [(7, .int 1), (6, .int 0), (5, .int 0), (4, .ref od), (3, .ref ou), (2, .ref m0), (1, .ref x0), (0, .ref b)]) hx hb dL_law_1307 hl (by decide) rfl (fun ls hl => ?_)
        refine lv_aload_n hx hb dL_law_1309 rfl (lv_at hl 5 rfl) ?_
        have hPc := hP.sub (ws' := [(m0, .inr (14, [.ref lc, .ref lp, .ref dl, .ref ff, .ref fb, .ref lw, .ref lo, .ref (em 1), .int 0]))]) [20] rfl
        have hDc := hD.sub (ws' := [(m0, .inr (14, [.ref lc, .ref lp, .ref dl, .ref ff, .ref fb, .ref lw, .ref lo, .ref (em 1), .int 0]))]) [20] (by decide) rfl
        have hKc := hK.sub (tys' := []) [] rfl
        have hFc := va_free (wc := [(m0, .inr (14, [.ref lc, .ref lp, .ref dl, .ref ff, .ref fb, .ref lw, .ref lo, .ref (em 1), .int 0]))]) hD hS hA [20] rfl
        refine va_calli (va_runV (As := []) (rest := []) ⟨hx, hb, hml, hown, hts⟩ (c_X8_thrown l em dC dI m0 0 (.ref lc) (.ref lp) (.ref dl) (.ref ff) (.ref fb) (.ref lw) (.ref lo) (.ref (em 1)) H.size) (cwV 0 hts gT_X8_thrown rfl rfl rfl (by decide +kernel) ⟨Nat.le_of_ble_eq_true rfl, Nat.le_of_ble_eq_true rfl⟩) ⟨Pw.blind _ _ _ _ _ _ _, va_recv hKc hPc (ci := 14) (q0 := 0) rfl rfl, fun U hU hW => ⟨rfl, Pw.go hPc hKc hDc hamb hS hFc hU hW⟩⟩ rfl rfl hl.1 rfl (lv_room (Nat.le_of_ble_eq_true rfl)) dL_law_1310 ⟨Nat.le_of_ble_eq_true rfl, Nat.le_of_ble_eq_true rfl⟩) hS (fun q _ h => hFc q h) hFc (fun r_77 u t H1 locs1 ht hvm hw hB hz1 hk1 hS => ?_)
        obtain ⟨hP, hD⟩ := va_rest (wr := [(ca, .inl (cC, 16, .inr (.inr (.inr (.inr fC))))), (c0, .inr (7, [.ref th, u1, u2, .int 0, .int 0, .int 0, .int 0])), (th, .inl (cH, 4, .inl (fun _ => 0))), (dr, .inl (cO, 26, .inr (.inr (.inr (.inr fD))))), (rr, .inl (cI, 5, .inl (fun _ => 0))), (ty0, .inl (cT, 8, .inl (fun _ => 0))), (ra0, .inl (cR, 6, .inl (fun _ => 0))), (bk, .inr (6, [.ref a0, .ref a1, .ref a2, .ref mo, .int 0])), (a0, .inl (cB0, 8, .inl (fun _ => 0))), (a1, .inl (cB1, 8, .inl (fun _ => 0))), (a2, .inl (cB2, 8, .inl (fun _ => 0))), (mo, .inl (cM, 256, .inl (fun _ => 0))), (lc, .inr (5, [.int 0, .ref (em 0), .int 0])), (lp, .inr (5, [.int 0, .ref (em 0), .int 0])), (dl, .inl (cO8, 26, .inr (.inr (.inr (.inr fL))))), (rr8, .inl (cI8, 5, .inl (fun _ => 0))), (lw, .inr (5, [.int 0, .ref (em 0), .int 0])), (lo, .inr (5, [.int 0, .ref (em 0), .int 0])), (od, .inl (cOd, 1, .inr (.inr (.inr (.inl (fun _ => 0)))))), (ou, .inl (cOut, 1, .inr (.inl gOx_48)))]) hP hD [20] [0, 1, 2, 3, 4, 5, 6, 7, 8, 9, 10, 11, 12, 13, 14, 15, 16, 17, 18, 19] rfl rfl (by decide) (by decide) hk1 hFc
        generalize H1 = H at hP hS ⊢
        refine W.widen (k := 147) (n := 2193) (Nat.le_of_ble_eq_true rfl) (Nat.le_of_ble_eq_true rfl) ?_
        have hw : r_77 = 0 := hw
        rw [hw]
        refine lv_iload hx hb dL_law_1313 (lv_at hl 1 rfl) ?_
        refine lv_icmp_eq (tgt := 1320) hx hb dL_law_1315 (by decide) (fun c_78 => ?_) (fun c_78 => ?_)
        · refine lv_iload hx hb dL_law_1320 (lv_at hl 1 rfl) ?_
          refine lv_if_ne (tgt := 1337) hx hb dL_law_1322 (by decide) (fun c_79 => ?_) (fun c_79 => ?_)
          · exact absurd (by decide) c_79
          · refine lv_aload_n hx hb dL_law_1325 rfl (lv_at hl 4 rfl) ?_
            refine lv_iconst (v := 0) hx hb dL_law_1326 (by decide) ?_
            refine va_lald hx hb hK hP 19 13 rfl rfl (vp_in_iff.mpr ⟨by decide, by decide⟩) dL_law_1327 ?_
            refine lv_topl (fun k_80 ek_80 => ?_)
            obtain rfl : 1 = k_80 := (ek_80.trans (f_49 t_50)).symm
            refine lv_iload hx hb dL_law_1328 (lv_at hl 0 rfl) ?_
            refine lv_i2l (v := 1) hx hb dL_law_1330 (by decide) ?_
            refine W.lcmp hx hb dL_law_1331 ?_
            refine lv_topi (fun k_81 ek_81 => ?_)
            obtain rfl : k_81 = 0 := ek_81.trans (by decide)
            refine lv_if_eq (tgt := 1337) hx hb dL_law_1332 (by decide) (fun c_82 => ?_) (fun c_82 => ?_)
            · refine lv_goto (tgt := 2636) hx hb dL_law_1337 (by decide) ?_
              refine lv_iinc (v := 6) (lv' := [(5, .int 6), (7, .int 1), (6, .int 0), (4, .ref od), (3, .ref ou), (2, .ref m0), (1, .ref x0), (0, .ref b)]) hx hb dL_law_2636 hl (k := 2) rfl (by decide) (by decide) rfl (fun ls hl => ?_)
              refine lv_goto (tgt := 28) hx hb dL_law_2639 (by decide) ?_
              refine lv_iload hx hb dL_law_28 (lv_at hl 0 rfl) ?_
              refine lv_aload_n hx hb dL_law_30 rfl (lv_at hl 7 rfl) ?_
              refine va_slen hx hb hX hbl hbA hS dL_law_31 ?_
              refine lv_topi (fun n_83 en_83 => ?_)
              obtain rfl : n_83 = 6 := en_83.trans (by decide)
              refine lv_bipush (v := 6) hx hb dL_law_32 (by decide) ?_
              refine lv_isub hx hb dL_law_34 ?_
              refine lv_topi (fun k_84 ek_84 => ?_)
              obtain rfl : k_84 = 0 := ek_84.trans (by decide)
              refine lv_icmp_gt (tgt := 2642) hx hb dL_law_35 (by decide) (fun c_85 => ?_) (fun c_85 => ?_)
              · refine lv_iconst (v := 1) hx hb dL_law_2642 (by decide) ?_
                refine W.widen (k := 600006) (n := 7302072) (Nat.le_of_ble_eq_true rfl) (Nat.le_of_ble_eq_true rfl) ?_
                refine va_forget hS.2.2 ?_
                refine W.base ?_
                exact lw_ret (Drawn.sameBut.refl s.drawn lw_cs) hx hb hr hlocks dL_law_2643
              · exact absurd (by decide) c_85
            · exact absurd (by decide) c_82
        · exact absurd (by decide) c_78
