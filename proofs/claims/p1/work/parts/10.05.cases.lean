set_option maxHeartbeats 4000000 in
set_option maxRecDepth 100000 in
theorem law_30 {p : Program} {e : Env} {s : State} {m : MethodId} {below : List Frame} {meth : Method} {c : Code} (l : Launch) (hlt : l.stackTraces = false) {b : Nat} {xs : Nat → Int32} (C0 : lw_At p s m meth c b 6 xs) (em : Nat → Nat) (dC : Nat → ClassId) (dI : Nat → Nat → Nat) (j : Nat) (hjj : ∀ z : Int32, z = ((xs 1).toUInt32 % 65536).toInt32 → 97 ≤ z.toInt → z.toInt ≤ 122 → (z - 97).toNatClampNeg = j) (x0 : Nat) (ca : Nat) (dr : Nat) (ty0 : Nat) (sf : Nat) (sb : Nat) (ra0 : Nat) (bk : Nat) (c0 : Nat) (th : Nat) (rr : Nat) (a0 : Nat) (a1 : Nat) (a2 : Nat) (mo : Nat) (vp : Value) (vm : Value) (u1 : Value) (u2 : Value) (sf1 : Value) (sb1 : Value) (fC : Nat → Option Nat) (fD : Nat → Option Nat) (cC : ClassId) (cH : ClassId) (cO : ClassId) (cI : ClassId) (cT : ClassId) (cR : ClassId) (cB0 : ClassId) (cB1 : ClassId) (cB2 : ClassId) (cM : ClassId) (m0 : Nat) (lc : Nat) (lp : Nat) (dl : Nat) (rr8 : Nat) (ff : Nat) (fb : Nat) (lw : Nat) (lo : Nat) (tf : Value) (tb : Value) (fL : Nat → Option Nat) (cO8 : ClassId) (cI8 : ClassId) (ou : Nat) (od : Nat) (cOut : ClassId) (cOd : ClassId) (hfC : fC 0 = some c0) (hfD : fD j = some rr) (hfL : fL j = some rr8) {H : Heap} {locs : List Loc} (hamb : amb em (fun q : Nat => s.heap.size ≤ q) s s.heap) (hK : va_K (dC, dI) vwCl [(cC, (.object "Bothfaces$Card")), (cH, .int), (cO, (.array .int)), (cI, .int), (cT, .int), (cR, .int), (cB0, .int), (cB1, .int), (cB2, .int), (cM, .int), (cO8, (.array .int)), (cI8, .int), (cOut, .long), (cOd, .double)] s) (hP : va_P (dC, dI) vwCl [(x0, .inr (11, [.ref ca, .int 0, .int 0, .ref dr, .ref ty0, .int 0, .ref sf, .ref sb, vp, vm, .ref ra0, .int 0, .ref bk])), (ca, .inl (cC, 16, .inr (.inr (.inr (.inr fC))))), (c0, .inr (7, [.ref th, u1, u2, .int 0, .int 0, .int 0, .int 0])), (th, .inl (cH, 4, .inl (fun _ => 0))), (dr, .inl (cO, 26, .inr (.inr (.inr (.inr fD))))), (rr, .inl (cI, 5, .inl (fun _ => 0))), (ty0, .inl (cT, 8, .inl (fun _ => 0))), (sf, .inr (10, [.int 0, sf1, .int 0, .int 0, .int 0, .int 1, .int 0])), (sb, .inr (10, [.int 1, sb1, .int 0, .int 0, .int 0, .int 1, .int 0])), (ra0, .inl (cR, 6, .inl (fun _ => 0))), (bk, .inr (6, [.ref a0, .ref a1, .ref a2, .ref mo, .int 0])), (a0, .inl (cB0, 8, .inl (fun _ => 0))), (a1, .inl (cB1, 8, .inl (fun _ => 0))), (a2, .inl (cB2, 8, .inl (fun _ => 0))), (mo, .inl (cM, 256, .inl (fun _ => 0))), (m0, .inr (14, [.ref lc, .ref lp, .ref dl, .ref ff, .ref fb, .ref lw, .ref lo, .ref (em 1), .int 0])), (lc, .inr (5, [.int 0, .ref (em 0), .int 0])), (lp, .inr (5, [.int 0, .ref (em 0), .int 0])), (dl, .inl (cO8, 26, .inr (.inr (.inr (.inr fL))))), (rr8, .inl (cI8, 5, .inl (fun _ => 0))), (ff, .inr (13, [tf, .int 0, .int 0, .int 1, .int 0])), (fb, .inr (13, [tb, .int 0, .int 0, .int 1, .int 0])), (lw, .inr (5, [.int 0, .ref (em 0), .int 0])), (lo, .inr (5, [.int 0, .ref (em 0), .int 0])), (ou, .inl (cOut, 1, .inr (.inl (fun _ => 0)))), (od, .inl (cOd, 1, .inr (.inr (.inr (.inl (fun _ => 0))))))] H) (hD : va_D (fun q : Nat => s.heap.size ≤ q) [(x0, .inr (11, [.ref ca, .int 0, .int 0, .ref dr, .ref ty0, .int 0, .ref sf, .ref sb, vp, vm, .ref ra0, .int 0, .ref bk])), (ca, .inl (cC, 16, .inr (.inr (.inr (.inr fC))))), (c0, .inr (7, [.ref th, u1, u2, .int 0, .int 0, .int 0, .int 0])), (th, .inl (cH, 4, .inl (fun _ => 0))), (dr, .inl (cO, 26, .inr (.inr (.inr (.inr fD))))), (rr, .inl (cI, 5, .inl (fun _ => 0))), (ty0, .inl (cT, 8, .inl (fun _ => 0))), (sf, .inr (10, [.int 0, sf1, .int 0, .int 0, .int 0, .int 1, .int 0])), (sb, .inr (10, [.int 1, sb1, .int 0, .int 0, .int 0, .int 1, .int 0])), (ra0, .inl (cR, 6, .inl (fun _ => 0))), (bk, .inr (6, [.ref a0, .ref a1, .ref a2, .ref mo, .int 0])), (a0, .inl (cB0, 8, .inl (fun _ => 0))), (a1, .inl (cB1, 8, .inl (fun _ => 0))), (a2, .inl (cB2, 8, .inl (fun _ => 0))), (mo, .inl (cM, 256, .inl (fun _ => 0))), (m0, .inr (14, [.ref lc, .ref lp, .ref dl, .ref ff, .ref fb, .ref lw, .ref lo, .ref (em 1), .int 0])), (lc, .inr (5, [.int 0, .ref (em 0), .int 0])), (lp, .inr (5, [.int 0, .ref (em 0), .int 0])), (dl, .inl (cO8, 26, .inr (.inr (.inr (.inr fL))))), (rr8, .inl (cI8, 5, .inl (fun _ => 0))), (ff, .inr (13, [tf, .int 0, .int 0, .int 1, .int 0])), (fb, .inr (13, [tb, .int 0, .int 0, .int 1, .int 0])), (lw, .inr (5, [.int 0, .ref (em 0), .int 0])), (lo, .inr (5, [.int 0, .ref (em 0), .int 0])), (ou, .inl (cOut, 1, .inr (.inl (fun _ => 0)))), (od, .inl (cOd, 1, .inr (.inr (.inr (.inl (fun _ => 0))))))]) (hS : va_S (fun q : Nat => s.heap.size ≤ q) s.heap H locs) {ls : Array Slot} (hl : lv_has ls 9 [(5, .int 0), (4, .ref od), (3, .ref ou), (2, .ref m0), (1, .ref x0), (0, .ref b)]) : W p l e room_1 s m #[Value.ref b] below meth c H locs 146 2187 (lw_Z below #[Value.ref b] s) (F0 m 2147 ls []) := by
  obtain ⟨hx, hb, hr, hml, hown0, hts0, hX, hbl, hlocks, hgv⟩ := id C0
  have hts := ow_hts hts0
  have hown : s.vm.findClass RL = some m.cls := hown0
  have hA : ∀ q : Nat, s.heap.size ≤ q → (fun q : Nat => s.heap.size ≤ q) q := fun _ h => h
  have hbA : ¬ (fun q : Nat => s.heap.size ≤ q) b := Nat.not_le.mpr hbl
  refine lv_aload_n hx hb dL_law_2147 rfl (lv_at hl 4 rfl) ?_
  refine lv_aload_n hx hb dL_law_2148 rfl (lv_at hl 5 rfl) ?_
  refine lv_iload hx hb dL_law_2149 (lv_at hl 0 rfl) ?_
  refine lv_iconst (v := 1) hx hb dL_law_2151 (by decide) ?_
  refine lv_iadd hx hb dL_law_2152 ?_
  refine lv_topi (fun k_1 ek_1 => ?_)
  obtain rfl : k_1 = 1 := ek_1.trans (by decide)
  refine va_sld hx hb hX hbl hbA hS (vp_in_iff.mpr ⟨by decide, by decide⟩) dL_law_2153 ?_
  refine lv_topi (fun y_2 ey_2 => ?_)
  have ey_2 : y_2 = xs 1 := ey_2
  refine lv_aload_n hx hb dL_law_2154 rfl (lv_at hl 2 rfl) ?_
  have hPc := hP.sub (ws' := [(x0, .inr (11, [.ref ca, .int 0, .int 0, .ref dr, .ref ty0, .int 0, .ref sf, .ref sb, vp, vm, .ref ra0, .int 0, .ref bk])), (ou, .inl (cOut, 1, .inr (.inl (fun _ => 0))))]) [0, 24] rfl
  have hDc := hD.sub (ws' := [(x0, .inr (11, [.ref ca, .int 0, .int 0, .ref dr, .ref ty0, .int 0, .ref sf, .ref sb, vp, vm, .ref ra0, .int 0, .ref bk])), (ou, .inl (cOut, 1, .inr (.inl (fun _ => 0))))]) [0, 24] (by decide) rfl
  have hKc := hK.sub (tys' := [(cOut, .long)]) [12] rfl
  have hFc := va_free (wc := [(x0, .inr (11, [.ref ca, .int 0, .int 0, .ref dr, .ref ty0, .int 0, .ref sf, .ref sb, vp, vm, .ref ra0, .int 0, .ref bk])), (ou, .inl (cOut, 1, .inr (.inl (fun _ => 0))))]) hD hS hA [0, 24] rfl
  refine va_calli (vx_runSW (As := [.ref x0, .int y_2, .ref ou]) (rest := []) ⟨hx, hb, hml, hown, hts⟩ (c_L_yarn l hlt em dC dI x0 y_2 (.ref ca) (.int 0) (.ref dr) (.ref ty0) (.int 0) (.ref sf) (.ref sb) vp vm (.ref ra0) (.int 0) (.ref bk) ou cOut (fun _ => 0) H.size) (vx_cwSW 3 hts gT_L_yarn rfl rfl rfl (by decide +kernel) ⟨Nat.le_of_ble_eq_true rfl, Nat.le_of_ble_eq_true rfl⟩) ⟨Pw.blind _ _ _ _ _ _ _, fun U hU hW => ⟨rfl, Pw.go hPc hKc hDc hamb hS hFc hU hW⟩⟩ rfl rfl hl.1 rfl (lv_room (Nat.le_of_ble_eq_true rfl)) dL_law_2155 ⟨Nat.le_of_ble_eq_true rfl, Nat.le_of_ble_eq_true rfl⟩) hS (fun q _ h => hFc q h) hFc (fun r_3 u t H1 locs1 ht hvm hw hB hz1 hk1 hS => ?_)
  obtain ⟨gOx_4, ⟨hP1, hK1, hD1⟩, f_5⟩ := hB
  rw [ht] at hP1
  have hK1 := va_K.moved hvm.symm hK1
  obtain ⟨hP, hD⟩ := va_join (wr := [(ca, .inl (cC, 16, .inr (.inr (.inr (.inr fC))))), (c0, .inr (7, [.ref th, u1, u2, .int 0, .int 0, .int 0, .int 0])), (th, .inl (cH, 4, .inl (fun _ => 0))), (dr, .inl (cO, 26, .inr (.inr (.inr (.inr fD))))), (rr, .inl (cI, 5, .inl (fun _ => 0))), (ty0, .inl (cT, 8, .inl (fun _ => 0))), (sf, .inr (10, [.int 0, sf1, .int 0, .int 0, .int 0, .int 1, .int 0])), (sb, .inr (10, [.int 1, sb1, .int 0, .int 0, .int 0, .int 1, .int 0])), (ra0, .inl (cR, 6, .inl (fun _ => 0))), (bk, .inr (6, [.ref a0, .ref a1, .ref a2, .ref mo, .int 0])), (a0, .inl (cB0, 8, .inl (fun _ => 0))), (a1, .inl (cB1, 8, .inl (fun _ => 0))), (a2, .inl (cB2, 8, .inl (fun _ => 0))), (mo, .inl (cM, 256, .inl (fun _ => 0))), (m0, .inr (14, [.ref lc, .ref lp, .ref dl, .ref ff, .ref fb, .ref lw, .ref lo, .ref (em 1), .int 0])), (lc, .inr (5, [.int 0, .ref (em 0), .int 0])), (lp, .inr (5, [.int 0, .ref (em 0), .int 0])), (dl, .inl (cO8, 26, .inr (.inr (.inr (.inr fL))))), (rr8, .inl (cI8, 5, .inl (fun _ => 0))), (ff, .inr (13, [tf, .int 0, .int 0, .int 1, .int 0])), (fb, .inr (13, [tb, .int 0, .int 0, .int 1, .int 0])), (lw, .inr (5, [.int 0, .ref (em 0), .int 0])), (lo, .inr (5, [.int 0, .ref (em 0), .int 0])), (od, .inl (cOd, 1, .inr (.inr (.inr (.inl (fun _ => 0))))))]) (w1 := [(ou, .inl (cOut, 1, .inr (.inl gOx_4)))]) hP hD [0, 24] [1, 2, 3, 4, 5, 6, 7, 8, 9, 10, 11, 12, 13, 14, 15, 16, 17, 18, 19, 20, 21, 22, 23, 25] rfl rfl (by decide) (by decide) hk1 hFc hP1 hD1
  have hK := (hK.sub (tys' := [(cC, (.object "Bothfaces$Card")), (cH, .int), (cO, (.array .int)), (cI, .int), (cT, .int), (cR, .int), (cB0, .int), (cB1, .int), (cB2, .int), (cM, .int), (cO8, (.array .int)), (cI8, .int), (cOd, .double)]) [0, 1, 2, 3, 4, 5, 6, 7, 8, 9, 10, 11, 13] rfl).app hK1
  generalize H1 = H at hP hS ⊢
  have hP : va_P (dC, dI) vwCl [(ca, .inl (cC, 16, .inr (.inr (.inr (.inr fC))))), (c0, .inr (7, [.ref th, u1, u2, .int 0, .int 0, .int 0, .int 0])), (th, .inl (cH, 4, .inl (fun _ => 0))), (dr, .inl (cO, 26, .inr (.inr (.inr (.inr fD))))), (rr, .inl (cI, 5, .inl (fun _ => 0))), (ty0, .inl (cT, 8, .inl (fun _ => 0))), (sf, .inr (10, [.int 0, sf1, .int 0, .int 0, .int 0, .int 1, .int 0])), (sb, .inr (10, [.int 1, sb1, .int 0, .int 0, .int 0, .int 1, .int 0])), (ra0, .inl (cR, 6, .inl (fun _ => 0))), (bk, .inr (6, [.ref a0, .ref a1, .ref a2, .ref mo, .int 0])), (a0, .inl (cB0, 8, .inl (fun _ => 0))), (a1, .inl (cB1, 8, .inl (fun _ => 0))), (a2, .inl (cB2, 8, .inl (fun _ => 0))), (mo, .inl (cM, 256, .inl (fun _ => 0))), (m0, .inr (14, [.ref lc, .ref lp, .ref dl, .ref ff, .ref fb, .ref lw, .ref lo, .ref (em 1), .int 0])), (lc, .inr (5, [.int 0, .ref (em 0), .int 0])), (lp, .inr (5, [.int 0, .ref (em 0), .int 0])), (dl, .inl (cO8, 26, .inr (.inr (.inr (.inr fL))))), (rr8, .inl (cI8, 5, .inl (fun _ => 0))), (ff, .inr (13, [tf, .int 0, .int 0, .int 1, .int 0])), (fb, .inr (13, [tb, .int 0, .int 0, .int 1, .int 0])), (lw, .inr (5, [.int 0, .ref (em 0), .int 0])), (lo, .inr (5, [.int 0, .ref (em 0), .int 0])), (od, .inl (cOd, 1, .inr (.inr (.inr (.inl (fun _ => 0)))))), (ou, .inl (cOut, 1, .inr (.inl gOx_4)))] H := hP
  have hD : va_D (fun q : Nat => s.heap.size ≤ q) [(ca, .inl (cC, 16, .inr (.inr (.inr (.inr fC))))), (c0, .inr (7, [.ref th, u1, u2, .int 0, .int 0, .int 0, .int 0])), (th, .inl (cH, 4, .inl (fun _ => 0))), (dr, .inl (cO, 26, .inr (.inr (.inr (.inr fD))))), (rr, .inl (cI, 5, .inl (fun _ => 0))), (ty0, .inl (cT, 8, .inl (fun _ => 0))), (sf, .inr (10, [.int 0, sf1, .int 0, .int 0, .int 0, .int 1, .int 0])), (sb, .inr (10, [.int 1, sb1, .int 0, .int 0, .int 0, .int 1, .int 0])), (ra0, .inl (cR, 6, .inl (fun _ => 0))), (bk, .inr (6, [.ref a0, .ref a1, .ref a2, .ref mo, .int 0])), (a0, .inl (cB0, 8, .inl (fun _ => 0))), (a1, .inl (cB1, 8, .inl (fun _ => 0))), (a2, .inl (cB2, 8, .inl (fun _ => 0))), (mo, .inl (cM, 256, .inl (fun _ => 0))), (m0, .inr (14, [.ref lc, .ref lp, .ref dl, .ref ff, .ref fb, .ref lw, .ref lo, .ref (em 1), .int 0])), (lc, .inr (5, [.int 0, .ref (em 0), .int 0])), (lp, .inr (5, [.int 0, .ref (em 0), .int 0])), (dl, .inl (cO8, 26, .inr (.inr (.inr (.inr fL))))), (rr8, .inl (cI8, 5, .inl (fun _ => 0))), (ff, .inr (13, [tf, .int 0, .int 0, .int 1, .int 0])), (fb, .inr (13, [tb, .int 0, .int 0, .int 1, .int 0])), (lw, .inr (5, [.int 0, .ref (em 0), .int 0])), (lo, .inr (5, [.int 0, .ref (em 0), .int 0])), (od, .inl (cOd, 1, .inr (.inr (.inr (.inl (fun _ => 0)))))), (ou, .inl (cOut, 1, .inr (.inl gOx_4)))] := hD
  have hK : va_K (dC, dI) vwCl [(cC, (.object "Bothfaces$Card")), (cH, .int), (cO, (.array .int)), (cI, .int), (cT, .int), (cR, .int), (cB0, .int), (cB1, .int), (cB2, .int), (cM, .int), (cO8, (.array .int)), (cI8, .int), (cOd, .double), (cOut, .long)] s := hK
  refine W.widen (k := 147) (n := 2193) (Nat.le_of_ble_eq_true rfl) (Nat.le_of_ble_eq_true rfl) ?_
  have hw : ((y_2.toInt < 0 ∨ 7 < y_2.toInt) → r_3 = 1) ∧ (¬ (y_2.toInt < 0 ∨ 7 < y_2.toInt) → r_3 = 0) := hw
  rcases Classical.em (y_2.toInt < 0 ∨ 7 < y_2.toInt) with t_6 | t_6
  · have hw := hw.1 t_6
    rw [hw]
    refine lv_istore (lv' := [(6, .int 1), (5, .int 0), (4, .ref od), (3, .ref ou), (2, .ref m0), (1, .ref x0), (0, .ref b)]) hx hb dL_law_2158 hl (by decide) rfl (fun ls hl => ?_)
    refine lv_aload_n hx hb dL_law_2160 rfl (lv_at hl 4 rfl) ?_
    refine lv_aload_n hx hb dL_law_2161 rfl (lv_at hl 6 rfl) ?_
    refine lv_iload hx hb dL_law_2162 (lv_at hl 1 rfl) ?_
    refine lv_iconst (v := 1) hx hb dL_law_2164 (by decide) ?_
    refine lv_iadd hx hb dL_law_2165 ?_
    refine lv_topi (fun k_7 ek_7 => ?_)
    obtain rfl : k_7 = 1 := ek_7.trans (by decide)
    refine va_sld hx hb hX hbl hbA hS (vp_in_iff.mpr ⟨by decide, by decide⟩) dL_law_2166 ?_
    refine lv_topi (fun y_8 ey_8 => ?_)
    have ey_8 : y_8 = xs 1 := ey_8
    obtain rfl : y_2 = y_8 := ey_2.trans ey_8.symm
    have hPc := hP.sub (ws' := [(m0, .inr (14, [.ref lc, .ref lp, .ref dl, .ref ff, .ref fb, .ref lw, .ref lo, .ref (em 1), .int 0])), (lc, .inr (5, [.int 0, .ref (em 0), .int 0]))]) [14, 15] rfl
    have hDc := hD.sub (ws' := [(m0, .inr (14, [.ref lc, .ref lp, .ref dl, .ref ff, .ref fb, .ref lw, .ref lo, .ref (em 1), .int 0])), (lc, .inr (5, [.int 0, .ref (em 0), .int 0]))]) [14, 15] (by decide) rfl
    have hKc := hK.sub (tys' := []) [] rfl
    have hFc := va_free (wc := [(m0, .inr (14, [.ref lc, .ref lp, .ref dl, .ref ff, .ref fb, .ref lw, .ref lo, .ref (em 1), .int 0])), (lc, .inr (5, [.int 0, .ref (em 0), .int 0]))]) hD hS hA [14, 15] rfl
    refine va_calli (va_runV (As := [.int y_2]) (rest := []) ⟨hx, hb, hml, hown, hts⟩ (c_X8_yarn l em dC dI m0 y_2 (.ref lp) (.ref dl) (.ref ff) (.ref fb) (.ref lw) (.ref lo) (.ref (em 1)) (.int 0) lc (.ref (em 0)) H.size) (cwV 1 hts gT_X8_yarn rfl rfl rfl (by decide +kernel) ⟨Nat.le_of_ble_eq_true rfl, Nat.le_of_ble_eq_true rfl⟩) ⟨Pw.blind _ _ _ _ _ _ _, va_recv hKc hPc (ci := 14) (q0 := 0) rfl rfl, fun U hU hW => ⟨rfl, Pw.go hPc hKc hDc hamb hS hFc hU hW⟩⟩ rfl rfl hl.1 rfl (lv_room (Nat.le_of_ble_eq_true rfl)) dL_law_2167 ⟨Nat.le_of_ble_eq_true rfl, Nat.le_of_ble_eq_true rfl⟩) hS (fun q _ h => hFc q h) hFc (fun r_9 u t H1 locs1 ht hvm hw hB hz1 hk1 hS => ?_)
    obtain ⟨tvx_10, ⟨hP1, hK1, hD1⟩, f_11, f_12⟩ := hB
    rw [ht] at hP1
    have hK1 := va_K.moved hvm.symm hK1
    obtain ⟨hP, hD⟩ := va_join (wr := [(ca, .inl (cC, 16, .inr (.inr (.inr (.inr fC))))), (c0, .inr (7, [.ref th, u1, u2, .int 0, .int 0, .int 0, .int 0])), (th, .inl (cH, 4, .inl (fun _ => 0))), (dr, .inl (cO, 26, .inr (.inr (.inr (.inr fD))))), (rr, .inl (cI, 5, .inl (fun _ => 0))), (ty0, .inl (cT, 8, .inl (fun _ => 0))), (sf, .inr (10, [.int 0, sf1, .int 0, .int 0, .int 0, .int 1, .int 0])), (sb, .inr (10, [.int 1, sb1, .int 0, .int 0, .int 0, .int 1, .int 0])), (ra0, .inl (cR, 6, .inl (fun _ => 0))), (bk, .inr (6, [.ref a0, .ref a1, .ref a2, .ref mo, .int 0])), (a0, .inl (cB0, 8, .inl (fun _ => 0))), (a1, .inl (cB1, 8, .inl (fun _ => 0))), (a2, .inl (cB2, 8, .inl (fun _ => 0))), (mo, .inl (cM, 256, .inl (fun _ => 0))), (lp, .inr (5, [.int 0, .ref (em 0), .int 0])), (dl, .inl (cO8, 26, .inr (.inr (.inr (.inr fL))))), (rr8, .inl (cI8, 5, .inl (fun _ => 0))), (ff, .inr (13, [tf, .int 0, .int 0, .int 1, .int 0])), (fb, .inr (13, [tb, .int 0, .int 0, .int 1, .int 0])), (lw, .inr (5, [.int 0, .ref (em 0), .int 0])), (lo, .inr (5, [.int 0, .ref (em 0), .int 0])), (od, .inl (cOd, 1, .inr (.inr (.inr (.inl (fun _ => 0)))))), (ou, .inl (cOut, 1, .inr (.inl gOx_4)))]) (w1 := [(m0, .inr (14, [.ref lc, .ref lp, .ref dl, .ref ff, .ref fb, .ref lw, .ref lo, .ref (em 1), .int tvx_10]))]) hP hD [14, 15] [0, 1, 2, 3, 4, 5, 6, 7, 8, 9, 10, 11, 12, 13, 16, 17, 18, 19, 20, 21, 22, 23, 24] rfl rfl (by decide) (by decide) hk1 hFc hP1 hD1
    have hK := (hK.sub (tys' := [(cC, (.object "Bothfaces$Card")), (cH, .int), (cO, (.array .int)), (cI, .int), (cT, .int), (cR, .int), (cB0, .int), (cB1, .int), (cB2, .int), (cM, .int), (cO8, (.array .int)), (cI8, .int), (cOd, .double), (cOut, .long)]) [0, 1, 2, 3, 4, 5, 6, 7, 8, 9, 10, 11, 12, 13] rfl).app hK1
    generalize H1 = H at hP hS ⊢
    have hP : va_P (dC, dI) vwCl [(ca, .inl (cC, 16, .inr (.inr (.inr (.inr fC))))), (c0, .inr (7, [.ref th, u1, u2, .int 0, .int 0, .int 0, .int 0])), (th, .inl (cH, 4, .inl (fun _ => 0))), (dr, .inl (cO, 26, .inr (.inr (.inr (.inr fD))))), (rr, .inl (cI, 5, .inl (fun _ => 0))), (ty0, .inl (cT, 8, .inl (fun _ => 0))), (sf, .inr (10, [.int 0, sf1, .int 0, .int 0, .int 0, .int 1, .int 0])), (sb, .inr (10, [.int 1, sb1, .int 0, .int 0, .int 0, .int 1, .int 0])), (ra0, .inl (cR, 6, .inl (fun _ => 0))), (bk, .inr (6, [.ref a0, .ref a1, .ref a2, .ref mo, .int 0])), (a0, .inl (cB0, 8, .inl (fun _ => 0))), (a1, .inl (cB1, 8, .inl (fun _ => 0))), (a2, .inl (cB2, 8, .inl (fun _ => 0))), (mo, .inl (cM, 256, .inl (fun _ => 0))), (lp, .inr (5, [.int 0, .ref (em 0), .int 0])), (dl, .inl (cO8, 26, .inr (.inr (.inr (.inr fL))))), (rr8, .inl (cI8, 5, .inl (fun _ => 0))), (ff, .inr (13, [tf, .int 0, .int 0, .int 1, .int 0])), (fb, .inr (13, [tb, .int 0, .int 0, .int 1, .int 0])), (lw, .inr (5, [.int 0, .ref (em 0), .int 0])), (lo, .inr (5, [.int 0, .ref (em 0), .int 0])), (od, .inl (cOd, 1, .inr (.inr (.inr (.inl (fun _ => 0)))))), (ou, .inl (cOut, 1, .inr (.inl gOx_4))), (m0, .inr (14, [.ref lc, .ref lp, .ref dl, .ref ff, .ref fb, .ref lw, .ref lo, .ref (em 1), .int tvx_10]))] H := hP
    have hD : va_D (fun q : Nat => s.heap.size ≤ q) [(ca, .inl (cC, 16, .inr (.inr (.inr (.inr fC))))), (c0, .inr (7, [.ref th, u1, u2, .int 0, .int 0, .int 0, .int 0])), (th, .inl (cH, 4, .inl (fun _ => 0))), (dr, .inl (cO, 26, .inr (.inr (.inr (.inr fD))))), (rr, .inl (cI, 5, .inl (fun _ => 0))), (ty0, .inl (cT, 8, .inl (fun _ => 0))), (sf, .inr (10, [.int 0, sf1, .int 0, .int 0, .int 0, .int 1, .int 0])), (sb, .inr (10, [.int 1, sb1, .int 0, .int 0, .int 0, .int 1, .int 0])), (ra0, .inl (cR, 6, .inl (fun _ => 0))), (bk, .inr (6, [.ref a0, .ref a1, .ref a2, .ref mo, .int 0])), (a0, .inl (cB0, 8, .inl (fun _ => 0))), (a1, .inl (cB1, 8, .inl (fun _ => 0))), (a2, .inl (cB2, 8, .inl (fun _ => 0))), (mo, .inl (cM, 256, .inl (fun _ => 0))), (lp, .inr (5, [.int 0, .ref (em 0), .int 0])), (dl, .inl (cO8, 26, .inr (.inr (.inr (.inr fL))))), (rr8, .inl (cI8, 5, .inl (fun _ => 0))), (ff, .inr (13, [tf, .int 0, .int 0, .int 1, .int 0])), (fb, .inr (13, [tb, .int 0, .int 0, .int 1, .int 0])), (lw, .inr (5, [.int 0, .ref (em 0), .int 0])), (lo, .inr (5, [.int 0, .ref (em 0), .int 0])), (od, .inl (cOd, 1, .inr (.inr (.inr (.inl (fun _ => 0)))))), (ou, .inl (cOut, 1, .inr (.inl gOx_4))), (m0, .inr (14, [.ref lc, .ref lp, .ref dl, .ref ff, .ref fb, .ref lw, .ref lo, .ref (em 1), .int tvx_10]))] := hD
    have hK : va_K (dC, dI) vwCl [(cC, (.object "Bothfaces$Card")), (cH, .int), (cO, (.array .int)), (cI, .int), (cT, .int), (cR, .int), (cB0, .int), (cB1, .int), (cB2, .int), (cM, .int), (cO8, (.array .int)), (cI8, .int), (cOd, .double), (cOut, .long)] s := hK
    refine W.widen (k := 147) (n := 2193) (Nat.le_of_ble_eq_true rfl) (Nat.le_of_ble_eq_true rfl) ?_
    have hw : ((y_2.toInt < 0 ∨ 7 < y_2.toInt) → r_9 = 0) ∧ (¬ (y_2.toInt < 0 ∨ 7 < y_2.toInt) → r_9 = 0) := hw
    have hw := hw.1 t_6
    rw [hw]
    obtain rfl : tvx_10 = 1 := f_11 t_6
    refine lv_istore (lv' := [(7, .int 0), (6, .int 1), (5, .int 0), (4, .ref od), (3, .ref ou), (2, .ref m0), (1, .ref x0), (0, .ref b)]) hx hb dL_law_2170 hl (by decide) rfl (fun ls hl => ?_)
    refine lv_aload_n hx hb dL_law_2172 rfl (lv_at hl 5 rfl) ?_
    have hPc := hP.sub (ws' := [(m0, .inr (14, [.ref lc, .ref lp, .ref dl, .ref ff, .ref fb, .ref lw, .ref lo, .ref (em 1), .int 1]))]) [23] rfl
    have hDc := hD.sub (ws' := [(m0, .inr (14, [.ref lc, .ref lp, .ref dl, .ref ff, .ref fb, .ref lw, .ref lo, .ref (em 1), .int 1]))]) [23] (by decide) rfl
    have hKc := hK.sub (tys' := []) [] rfl
    have hFc := va_free (wc := [(m0, .inr (14, [.ref lc, .ref lp, .ref dl, .ref ff, .ref fb, .ref lw, .ref lo, .ref (em 1), .int 1]))]) hD hS hA [23] rfl
    refine va_calli (va_runV (As := []) (rest := []) ⟨hx, hb, hml, hown, hts⟩ (c_X8_thrown l em dC dI m0 1 (.ref lc) (.ref lp) (.ref dl) (.ref ff) (.ref fb) (.ref lw) (.ref lo) (.ref (em 1)) H.size) (cwV 0 hts gT_X8_thrown rfl rfl rfl (by decide +kernel) ⟨Nat.le_of_ble_eq_true rfl, Nat.le_of_ble_eq_true rfl⟩) ⟨Pw.blind _ _ _ _ _ _ _, va_recv hKc hPc (ci := 14) (q0 := 0) rfl rfl, fun U hU hW => ⟨rfl, Pw.go hPc hKc hDc hamb hS hFc hU hW⟩⟩ rfl rfl hl.1 rfl (lv_room (Nat.le_of_ble_eq_true rfl)) dL_law_2173 ⟨Nat.le_of_ble_eq_true rfl, Nat.le_of_ble_eq_true rfl⟩) hS (fun q _ h => hFc q h) hFc (fun r_14 u t H1 locs1 ht hvm hw hB hz1 hk1 hS => ?_)
    obtain ⟨hP, hD⟩ := va_rest (wr := [(ca, .inl (cC, 16, .inr (.inr (.inr (.inr fC))))), (c0, .inr (7, [.ref th, u1, u2, .int 0, .int 0, .int 0, .int 0])), (th, .inl (cH, 4, .inl (fun _ => 0))), (dr, .inl (cO, 26, .inr (.inr (.inr (.inr fD))))), (rr, .inl (cI, 5, .inl (fun _ => 0))), (ty0, .inl (cT, 8, .inl (fun _ => 0))), (sf, .inr (10, [.int 0, sf1, .int 0, .int 0, .int 0, .int 1, .int 0])), (sb, .inr (10, [.int 1, sb1, .int 0, .int 0, .int 0, .int 1, .int 0])), (ra0, .inl (cR, 6, .inl (fun _ => 0))), (bk, .inr (6, [.ref a0, .ref a1, .ref a2, .ref mo, .int 0])), (a0, .inl (cB0, 8, .inl (fun _ => 0))), (a1, .inl (cB1, 8, .inl (fun _ => 0))), (a2, .inl (cB2, 8, .inl (fun _ => 0))), (mo, .inl (cM, 256, .inl (fun _ => 0))), (lp, .inr (5, [.int 0, .ref (em 0), .int 0])), (dl, .inl (cO8, 26, .inr (.inr (.inr (.inr fL))))), (rr8, .inl (cI8, 5, .inl (fun _ => 0))), (ff, .inr (13, [tf, .int 0, .int 0, .int 1, .int 0])), (fb, .inr (13, [tb, .int 0, .int 0, .int 1, .int 0])), (lw, .inr (5, [.int 0, .ref (em 0), .int 0])), (lo, .inr (5, [.int 0, .ref (em 0), .int 0])), (od, .inl (cOd, 1, .inr (.inr (.inr (.inl (fun _ => 0)))))), (ou, .inl (cOut, 1, .inr (.inl gOx_4)))]) hP hD [23] [0, 1, 2, 3, 4, 5, 6, 7, 8, 9, 10, 11, 12, 13, 14, 15, 16, 17, 18, 19, 20, 21, 22] rfl rfl (by decide) (by decide) hk1 hFc
    generalize H1 = H at hP hS ⊢
    refine W.widen (k := 147) (n := 2193) (Nat.le_of_ble_eq_true rfl) (Nat.le_of_ble_eq_true rfl) ?_
    have hw : r_14 = 1 := hw
    rw [hw]
    refine lv_iload hx hb dL_law_2176 (lv_at hl 1 rfl) ?_
    refine lv_icmp_eq (tgt := 2183) hx hb dL_law_2178 (by decide) (fun c_15 => ?_) (fun c_15 => ?_)
    · refine lv_iload hx hb dL_law_2183 (lv_at hl 1 rfl) ?_
      refine lv_if_ne (tgt := 2200) hx hb dL_law_2185 (by decide) (fun c_16 => ?_) (fun c_16 => ?_)
      · refine lv_goto (tgt := 2636) hx hb dL_law_2200 (by decide) ?_
        refine lv_iinc (v := 6) (lv' := [(5, .int 6), (7, .int 0), (6, .int 1), (4, .ref od), (3, .ref ou), (2, .ref m0), (1, .ref x0), (0, .ref b)]) hx hb dL_law_2636 hl (k := 2) rfl (by decide) (by decide) rfl (fun ls hl => ?_)
        refine lv_goto (tgt := 28) hx hb dL_law_2639 (by decide) ?_
        refine lv_iload hx hb dL_law_28 (lv_at hl 0 rfl) ?_
        refine lv_aload_n hx hb dL_law_30 rfl (lv_at hl 7 rfl) ?_
        refine va_slen hx hb hX hbl hbA hS dL_law_31 ?_
        refine lv_topi (fun n_17 en_17 => ?_)
        obtain rfl : n_17 = 6 := en_17.trans (by decide)
        refine lv_bipush (v := 6) hx hb dL_law_32 (by decide) ?_
        refine lv_isub hx hb dL_law_34 ?_
        refine lv_topi (fun k_18 ek_18 => ?_)
        obtain rfl : k_18 = 0 := ek_18.trans (by decide)
        refine lv_icmp_gt (tgt := 2642) hx hb dL_law_35 (by decide) (fun c_19 => ?_) (fun c_19 => ?_)
        · refine lv_iconst (v := 1) hx hb dL_law_2642 (by decide) ?_
          refine W.widen (k := 600006) (n := 7302072) (Nat.le_of_ble_eq_true rfl) (Nat.le_of_ble_eq_true rfl) ?_
          refine va_forget hS.2.2 ?_
          refine W.base ?_
          exact lw_ret (Drawn.sameBut.refl s.drawn lw_cs) hx hb hr hlocks dL_law_2643
        · exact absurd (by decide) c_19
      · exact absurd c_16 (by decide)
    · exact absurd (by decide) c_15
  · have hw := hw.2 t_6
    rw [hw]
    refine lv_istore (lv' := [(6, .int 0), (5, .int 0), (4, .ref od), (3, .ref ou), (2, .ref m0), (1, .ref x0), (0, .ref b)]) hx hb dL_law_2158 hl (by decide) rfl (fun ls hl => ?_)
    refine lv_aload_n hx hb dL_law_2160 rfl (lv_at hl 4 rfl) ?_
    refine lv_aload_n hx hb dL_law_2161 rfl (lv_at hl 6 rfl) ?_
    refine lv_iload hx hb dL_law_2162 (lv_at hl 1 rfl) ?_
    refine lv_iconst (v := 1) hx hb dL_law_2164 (by decide) ?_
    refine lv_iadd hx hb dL_law_2165 ?_
    refine lv_topi (fun k_20 ek_20 => ?_)
    obtain rfl : k_20 = 1 := ek_20.trans (by decide)
    refine va_sld hx hb hX hbl hbA hS (vp_in_iff.mpr ⟨by decide, by decide⟩) dL_law_2166 ?_
    refine lv_topi (fun y_21 ey_21 => ?_)
    have ey_21 : y_21 = xs 1 := ey_21
    obtain rfl : y_2 = y_21 := ey_2.trans ey_21.symm
    have hPc := hP.sub (ws' := [(m0, .inr (14, [.ref lc, .ref lp, .ref dl, .ref ff, .ref fb, .ref lw, .ref lo, .ref (em 1), .int 0])), (lc, .inr (5, [.int 0, .ref (em 0), .int 0]))]) [14, 15] rfl
    have hDc := hD.sub (ws' := [(m0, .inr (14, [.ref lc, .ref lp, .ref dl, .ref ff, .ref fb, .ref lw, .ref lo, .ref (em 1), .int 0])), (lc, .inr (5, [.int 0, .ref (em 0), .int 0]))]) [14, 15] (by decide) rfl
    have hKc := hK.sub (tys' := []) [] rfl
    have hFc := va_free (wc := [(m0, .inr (14, [.ref lc, .ref lp, .ref dl, .ref ff, .ref fb, .ref lw, .ref lo, .ref (em 1), .int 0])), (lc, .inr (5, [.int 0, .ref (em 0), .int 0]))]) hD hS hA [14, 15] rfl
    refine va_calli (va_runV (As := [.int y_2]) (rest := []) ⟨hx, hb, hml, hown, hts⟩ (c_X8_yarn l em dC dI m0 y_2 (.ref lp) (.ref dl) (.ref ff) (.ref fb) (.ref lw) (.ref lo) (.ref (em 1)) (.int 0) lc (.ref (em 0)) H.size) (cwV 1 hts gT_X8_yarn rfl rfl rfl (by decide +kernel) ⟨Nat.le_of_ble_eq_true rfl, Nat.le_of_ble_eq_true rfl⟩) ⟨Pw.blind _ _ _ _ _ _ _, va_recv hKc hPc (ci := 14) (q0 := 0) rfl rfl, fun U hU hW => ⟨rfl, Pw.go hPc hKc hDc hamb hS hFc hU hW⟩⟩ rfl rfl hl.1 rfl (lv_room (Nat.le_of_ble_eq_true rfl)) dL_law_2167 ⟨Nat.le_of_ble_eq_true rfl, Nat.le_of_ble_eq_true rfl⟩) hS (fun q _ h => hFc q h) hFc (fun r_22 u t H1 locs1 ht hvm hw hB hz1 hk1 hS => ?_)
    obtain ⟨tvx_23, ⟨hP1, hK1, hD1⟩, f_24, f_25⟩ := hB
    rw [ht] at hP1
    have hK1 := va_K.moved hvm.symm hK1
    obtain ⟨hP, hD⟩ := va_join (wr := [(ca, .inl (cC, 16, .inr (.inr (.inr (.inr fC))))), (c0, .inr (7, [.ref th, u1, u2, .int 0, .int 0, .int 0, .int 0])), (th, .inl (cH, 4, .inl (fun _ => 0))), (dr, .inl (cO, 26, .inr (.inr (.inr (.inr fD))))), (rr, .inl (cI, 5, .inl (fun _ => 0))), (ty0, .inl (cT, 8, .inl (fun _ => 0))), (sf, .inr (10, [.int 0, sf1, .int 0, .int 0, .int 0, .int 1, .int 0])), (sb, .inr (10, [.int 1, sb1, .int 0, .int 0, .int 0, .int 1, .int 0])), (ra0, .inl (cR, 6, .inl (fun _ => 0))), (bk, .inr (6, [.ref a0, .ref a1, .ref a2, .ref mo, .int 0])), (a0, .inl (cB0, 8, .inl (fun _ => 0))), (a1, .inl (cB1, 8, .inl (fun _ => 0))), (a2, .inl (cB2, 8, .inl (fun _ => 0))), (mo, .inl (cM, 256, .inl (fun _ => 0))), (lp, .inr (5, [.int 0, .ref (em 0), .int 0])), (dl, .inl (cO8, 26, .inr (.inr (.inr (.inr fL))))), (rr8, .inl (cI8, 5, .inl (fun _ => 0))), (ff, .inr (13, [tf, .int 0, .int 0, .int 1, .int 0])), (fb, .inr (13, [tb, .int 0, .int 0, .int 1, .int 0])), (lw, .inr (5, [.int 0, .ref (em 0), .int 0])), (lo, .inr (5, [.int 0, .ref (em 0), .int 0])), (od, .inl (cOd, 1, .inr (.inr (.inr (.inl (fun _ => 0)))))), (ou, .inl (cOut, 1, .inr (.inl gOx_4)))]) (w1 := [(m0, .inr (14, [.ref lc, .ref lp, .ref dl, .ref ff, .ref fb, .ref lw, .ref lo, .ref (em 1), .int tvx_23]))]) hP hD [14, 15] [0, 1, 2, 3, 4, 5, 6, 7, 8, 9, 10, 11, 12, 13, 16, 17, 18, 19, 20, 21, 22, 23, 24] rfl rfl (by decide) (by decide) hk1 hFc hP1 hD1
    have hK := (hK.sub (tys' := [(cC, (.object "Bothfaces$Card")), (cH, .int), (cO, (.array .int)), (cI, .int), (cT, .int), (cR, .int), (cB0, .int), (cB1, .int), (cB2, .int), (cM, .int), (cO8, (.array .int)), (cI8, .int), (cOd, .double), (cOut, .long)]) [0, 1, 2, 3, 4, 5, 6, 7, 8, 9, 10, 11, 12, 13] rfl).app hK1
    generalize H1 = H at hP hS ⊢
    have hP : va_P (dC, dI) vwCl [(ca, .inl (cC, 16, .inr (.inr (.inr (.inr fC))))), (c0, .inr (7, [.ref th, u1, u2, .int 0, .int 0, .int 0, .int 0])), (th, .inl (cH, 4, .inl (fun _ => 0))), (dr, .inl (cO, 26, .inr (.inr (.inr (.inr fD))))), (rr, .inl (cI, 5, .inl (fun _ => 0))), (ty0, .inl (cT, 8, .inl (fun _ => 0))), (sf, .inr (10, [.int 0, sf1, .int 0, .int 0, .int 0, .int 1, .int 0])), (sb, .inr (10, [.int 1, sb1, .int 0, .int 0, .int 0, .int 1, .int 0])), (ra0, .inl (cR, 6, .inl (fun _ => 0))), (bk, .inr (6, [.ref a0, .ref a1, .ref a2, .ref mo, .int 0])), (a0, .inl (cB0, 8, .inl (fun _ => 0))), (a1, .inl (cB1, 8, .inl (fun _ => 0))), (a2, .inl (cB2, 8, .inl (fun _ => 0))), (mo, .inl (cM, 256, .inl (fun _ => 0))), (lp, .inr (5, [.int 0, .ref (em 0), .int 0])), (dl, .inl (cO8, 26, .inr (.inr (.inr (.inr fL))))), (rr8, .inl (cI8, 5, .inl (fun _ => 0))), (ff, .inr (13, [tf, .int 0, .int 0, .int 1, .int 0])), (fb, .inr (13, [tb, .int 0, .int 0, .int 1, .int 0])), (lw, .inr (5, [.int 0, .ref (em 0), .int 0])), (lo, .inr (5, [.int 0, .ref (em 0), .int 0])), (od, .inl (cOd, 1, .inr (.inr (.inr (.inl (fun _ => 0)))))), (ou, .inl (cOut, 1, .inr (.inl gOx_4))), (m0, .inr (14, [.ref lc, .ref lp, .ref dl, .ref ff, .ref fb, .ref lw, .ref lo, .ref (em 1), .int tvx_23]))] H := hP
    have hD : va_D (fun q : Nat => s.heap.size ≤ q) [(ca, .inl (cC, 16, .inr (.inr (.inr (.inr fC))))), (c0, .inr (7, [.ref th, u1, u2, .int 0, .int 0, .int 0, .int 0])), (th, .inl (cH, 4, .inl (fun _ => 0))), (dr, .inl (cO, 26, .inr (.inr (.inr (.inr fD))))), (rr, .inl (cI, 5, .inl (fun _ => 0))), (ty0, .inl (cT, 8, .inl (fun _ => 0))), (sf, .inr (10, [.int 0, sf1, .int 0, .int 0, .int 0, .int 1, .int 0])), (sb, .inr (10, [.int 1, sb1, .int 0, .int 0, .int 0, .int 1, .int 0])), (ra0, .inl (cR, 6, .inl (fun _ => 0))), (bk, .inr (6, [.ref a0, .ref a1, .ref a2, .ref mo, .int 0])), (a0, .inl (cB0, 8, .inl (fun _ => 0))), (a1, .inl (cB1, 8, .inl (fun _ => 0))), (a2, .inl (cB2, 8, .inl (fun _ => 0))), (mo, .inl (cM, 256, .inl (fun _ => 0))), (lp, .inr (5, [.int 0, .ref (em 0), .int 0])), (dl, .inl (cO8, 26, .inr (.inr (.inr (.inr fL))))), (rr8, .inl (cI8, 5, .inl (fun _ => 0))), (ff, .inr (13, [tf, .int 0, .int 0, .int 1, .int 0])), (fb, .inr (13, [tb, .int 0, .int 0, .int 1, .int 0])), (lw, .inr (5, [.int 0, .ref (em 0), .int 0])), (lo, .inr (5, [.int 0, .ref (em 0), .int 0])), (od, .inl (cOd, 1, .inr (.inr (.inr (.inl (fun _ => 0)))))), (ou, .inl (cOut, 1, .inr (.inl gOx_4))), (m0, .inr (14, [.ref lc, .ref lp, .ref dl, .ref ff, .ref fb, .ref lw, .ref lo, .ref (em 1), .int tvx_23]))] := hD
    have hK : va_K (dC, dI) vwCl [(cC, (.object "Bothfaces$Card")), (cH, .int), (cO, (.array .int)), (cI, .int), (cT, .int), (cR, .int), (cB0, .int), (cB1, .int), (cB2, .int), (cM, .int), (cO8, (.array .int)), (cI8, .int), (cOd, .double), (cOut, .long)] s := hK
    refine W.widen (k := 147) (n := 2193) (Nat.le_of_ble_eq_true rfl) (Nat.le_of_ble_eq_true rfl) ?_
    have hw : ((y_2.toInt < 0 ∨ 7 < y_2.toInt) → r_22 = 0) ∧ (¬ (y_2.toInt < 0 ∨ 7 < y_2.toInt) → r_22 = 0) := hw
    have hw := hw.2 t_6
    rw [hw]
    obtain rfl : tvx_23 = 0 := f_25 t_6
    refine lv_istore (lv' := [(7, .int 0), (6, .int 0), (5, .int 0), (4, .ref od), (3, .ref ou), (2, .ref m0), (1, .ref x0), (0, .ref b)]) hx hb dL_law_2170 hl (by decide) rfl (fun ls hl => ?_)
    refine lv_aload_n hx hb dL_law_2172 rfl (lv_at hl 5 rfl) ?_
    have hPc := hP.sub (ws' := [(m0, .inr (14, [.ref lc, .ref lp, .ref dl, .ref ff, .ref fb, .ref lw, .ref lo, .ref (em 1), .int 0]))]) [23] rfl
    have hDc := hD.sub (ws' := [(m0, .inr (14, [.ref lc, .ref lp, .ref dl, .ref ff, .ref fb, .ref lw, .ref lo, .ref (em 1), .int 0]))]) [23] (by decide) rfl
    have hKc := hK.sub (tys' := []) [] rfl
    have hFc := va_free (wc := [(m0, .inr (14, [.ref lc, .ref lp, .ref dl, .ref ff, .ref fb, .ref lw, .ref lo, .ref (em 1), .int 0]))]) hD hS hA [23] rfl
    refine va_calli (va_runV (As := []) (rest := []) ⟨hx, hb, hml, hown, hts⟩ (c_X8_thrown l em dC dI m0 0 (.ref lc) (.ref lp) (.ref dl) (.ref ff) (.ref fb) (.ref lw) (.ref lo) (.ref (em 1)) H.size) (cwV 0 hts gT_X8_thrown rfl rfl rfl (by decide +kernel) ⟨Nat.le_of_ble_eq_true rfl, Nat.le_of_ble_eq_true rfl⟩) ⟨Pw.blind _ _ _ _ _ _ _, va_recv hKc hPc (ci := 14) (q0 := 0) rfl rfl, fun U hU hW => ⟨rfl, Pw.go hPc hKc hDc hamb hS hFc hU hW⟩⟩ rfl rfl hl.1 rfl (lv_room (Nat.le_of_ble_eq_true rfl)) dL_law_2173 ⟨Nat.le_of_ble_eq_true rfl, Nat.le_of_ble_eq_true rfl⟩) hS (fun q _ h => hFc q h) hFc (fun r_27 u t H1 locs1 ht hvm hw hB hz1 hk1 hS => ?_)
    obtain ⟨hP, hD⟩ := va_rest (wr := [(ca, .inl (cC, 16, .inr (.inr (.inr (.inr fC))))), (c0, .inr (7, [.ref th, u1, u2, .int 0, .int 0, .int 0, .int 0])), (th, .inl (cH, 4, .inl (fun _ => 0))), (dr, .inl (cO, 26, .inr (.inr (.inr (.inr fD))))), (rr, .inl (cI, 5, .inl (fun _ => 0))), (ty0, .inl (cT, 8, .inl (fun _ => 0))), (sf, .inr (10, [.int 0, sf1, .int 0, .int 0, .int 0, .int 1, .int 0])), (sb, .inr (10, [.int 1, sb1, .int 0, .int 0, .int 0, .int 1, .int 0])), (ra0, .inl (cR, 6, .inl (fun _ => 0))), (bk, .inr (6, [.ref a0, .ref a1, .ref a2, .ref mo, .int 0])), (a0, .inl (cB0, 8, .inl (fun _ => 0))), (a1, .inl (cB1, 8, .inl (fun _ => 0))), (a2, .inl (cB2, 8, .inl (fun _ => 0))), (mo, .inl (cM, 256, .inl (fun _ => 0))), (lp, .inr (5, [.int 0, .ref (em 0), .int 0])), (dl, .inl (cO8, 26, .inr (.inr (.inr (.inr fL))))), (rr8, .inl (cI8, 5, .inl (fun _ => 0))), (ff, .inr (13, [tf, .int 0, .int 0, .int 1, .int 0])), (fb, .inr (13, [tb, .int 0, .int 0, .int 1, .int 0])), (lw, .inr (5, [.int 0, .ref (em 0), .int 0])), (lo, .inr (5, [.int 0, .ref (em 0), .int 0])), (od, .inl (cOd, 1, .inr (.inr (.inr (.inl (fun _ => 0)))))), (ou, .inl (cOut, 1, .inr (.inl gOx_4)))]) hP hD [23] [0, 1, 2, 3, 4, 5, 6, 7, 8, 9, 10, 11, 12, 13, 14, 15, 16, 17, 18, 19, 20, 21, 22] rfl rfl (by decide) (by decide) hk1 hFc
    generalize H1 = H at hP hS ⊢
    refine W.widen (k := 147) (n := 2193) (Nat.le_of_ble_eq_true rfl) (Nat.le_of_ble_eq_true rfl) ?_
    have hw : r_27 = 0 := hw
    rw [hw]
    refine lv_iload hx hb dL_law_2176 (lv_at hl 1 rfl) ?_
    refine lv_icmp_eq (tgt := 2183) hx hb dL_law_2178 (by decide) (fun c_28 => ?_) (fun c_28 => ?_)
    · refine lv_iload hx hb dL_law_2183 (lv_at hl 1 rfl) ?_
      refine lv_if_ne (tgt := 2200) hx hb dL_law_2185 (by decide) (fun c_29 => ?_) (fun c_29 => ?_)
      · exact absurd (by decide) c_29
      · refine lv_aload_n hx hb dL_law_2188 rfl (lv_at hl 4 rfl) ?_
        refine lv_iconst (v := 0) hx hb dL_law_2189 (by decide) ?_
        refine va_lald hx hb hK hP 22 13 rfl rfl (vp_in_iff.mpr ⟨by decide, by decide⟩) dL_law_2190 ?_
        refine lv_topl (fun k_30 ek_30 => ?_)
        obtain rfl : 0 = k_30 := (ek_30.trans (f_5 t_6)).symm
        refine lv_iload hx hb dL_law_2191 (lv_at hl 0 rfl) ?_
        refine lv_i2l (v := 0) hx hb dL_law_2193 (by decide) ?_
        refine W.lcmp hx hb dL_law_2194 ?_
        refine lv_topi (fun k_31 ek_31 => ?_)
        obtain rfl : k_31 = 0 := ek_31.trans (by decide)
        refine lv_if_eq (tgt := 2200) hx hb dL_law_2195 (by decide) (fun c_32 => ?_) (fun c_32 => ?_)
        · refine lv_goto (tgt := 2636) hx hb dL_law_2200 (by decide) ?_
          refine lv_iinc (v := 6) (lv' := [(5, .int 6), (7, .int 0), (6, .int 0), (4, .ref od), (3, .ref ou), (2, .ref m0), (1, .ref x0), (0, .ref b)]) hx hb dL_law_2636 hl (k := 2) rfl (by decide) (by decide) rfl (fun ls hl => ?_)
          refine lv_goto (tgt := 28) hx hb dL_law_2639 (by decide) ?_
          refine lv_iload hx hb dL_law_28 (lv_at hl 0 rfl) ?_
          refine lv_aload_n hx hb dL_law_30 rfl (lv_at hl 7 rfl) ?_
          refine va_slen hx hb hX hbl hbA hS dL_law_31 ?_
          refine lv_topi (fun n_33 en_33 => ?_)
          obtain rfl : n_33 = 6 := en_33.trans (by decide)
          refine lv_bipush (v := 6) hx hb dL_law_32 (by decide) ?_
          refine lv_isub hx hb dL_law_34 ?_
          refine lv_topi (fun k_34 ek_34 => ?_)
          obtain rfl : k_34 = 0 := ek_34.trans (by decide)
          refine lv_icmp_gt (tgt := 2642) hx hb dL_law_35 (by decide) (fun c_35 => ?_) (fun c_35 => ?_)
          · refine lv_iconst (v := 1) hx hb dL_law_2642 (by decide) ?_
            refine W.widen (k := 600006) (n := 7302072) (Nat.le_of_ble_eq_true rfl) (Nat.le_of_ble_eq_true rfl) ?_
            refine va_forget hS.2.2 ?_
            refine W.base ?_
            exact lw_ret (Drawn.sameBut.refl s.drawn lw_cs) hx hb hr hlocks dL_law_2643
          · exact absurd (by decide) c_35
        · exact absurd (by decide) c_32
    · exact absurd (by decide) c_28

set_option maxHeartbeats 4000000 in
set_option maxRecDepth 100000 in
theorem law_31 {p : Program} {e : Env} {s : State} {m : MethodId} {below : List Frame} {meth : Method} {c : Code} (l : Launch) (hlt : l.stackTraces = false) {b : Nat} {xs : Nat → Int32} (C0 : lw_At p s m meth c b 6 xs) (em : Nat → Nat) (dC : Nat → ClassId) (dI : Nat → Nat → Nat) (j : Nat) (hjj : ∀ z : Int32, z = ((xs 1).toUInt32 % 65536).toInt32 → 97 ≤ z.toInt → z.toInt ≤ 122 → (z - 97).toNatClampNeg = j) (x0 : Nat) (ca : Nat) (dr : Nat) (ty0 : Nat) (sf : Nat) (sb : Nat) (ra0 : Nat) (bk : Nat) (c0 : Nat) (th : Nat) (rr : Nat) (a0 : Nat) (a1 : Nat) (a2 : Nat) (mo : Nat) (vp : Value) (vm : Value) (u1 : Value) (u2 : Value) (sf1 : Value) (sb1 : Value) (fC : Nat → Option Nat) (fD : Nat → Option Nat) (cC : ClassId) (cH : ClassId) (cO : ClassId) (cI : ClassId) (cT : ClassId) (cR : ClassId) (cB0 : ClassId) (cB1 : ClassId) (cB2 : ClassId) (cM : ClassId) (m0 : Nat) (lc : Nat) (lp : Nat) (dl : Nat) (rr8 : Nat) (ff : Nat) (fb : Nat) (lw : Nat) (lo : Nat) (tf : Value) (tb : Value) (fL : Nat → Option Nat) (cO8 : ClassId) (cI8 : ClassId) (ou : Nat) (od : Nat) (cOut : ClassId) (cOd : ClassId) (hfC : fC 0 = some c0) (hfD : fD j = some rr) (hfL : fL j = some rr8) {H : Heap} {locs : List Loc} (hamb : amb em (fun q : Nat => s.heap.size ≤ q) s s.heap) (hK : va_K (dC, dI) vwCl [(cC, (.object "Bothfaces$Card")), (cH, .int), (cO, (.array .int)), (cI, .int), (cT, .int), (cR, .int), (cB0, .int), (cB1, .int), (cB2, .int), (cM, .int), (cO8, (.array .int)), (cI8, .int), (cOut, .long), (cOd, .double)] s) (hP : va_P (dC, dI) vwCl [(x0, .inr (11, [.ref ca, .int 0, .int 0, .ref dr, .ref ty0, .int 0, .ref sf, .ref sb, vp, vm, .ref ra0, .int 0, .ref bk])), (ca, .inl (cC, 16, .inr (.inr (.inr (.inr fC))))), (c0, .inr (7, [.ref th, u1, u2, .int 0, .int 0, .int 0, .int 0])), (th, .inl (cH, 4, .inl (fun _ => 0))), (dr, .inl (cO, 26, .inr (.inr (.inr (.inr fD))))), (rr, .inl (cI, 5, .inl (fun _ => 0))), (ty0, .inl (cT, 8, .inl (fun _ => 0))), (sf, .inr (10, [.int 0, sf1, .int 0, .int 0, .int 0, .int 1, .int 0])), (sb, .inr (10, [.int 1, sb1, .int 0, .int 0, .int 0, .int 1, .int 0])), (ra0, .inl (cR, 6, .inl (fun _ => 0))), (bk, .inr (6, [.ref a0, .ref a1, .ref a2, .ref mo, .int 0])), (a0, .inl (cB0, 8, .inl (fun _ => 0))), (a1, .inl (cB1, 8, .inl (fun _ => 0))), (a2, .inl (cB2, 8, .inl (fun _ => 0))), (mo, .inl (cM, 256, .inl (fun _ => 0))), (m0, .inr (14, [.ref lc, .ref lp, .ref dl, .ref ff, .ref fb, .ref lw, .ref lo, .ref (em 1), .int 0])), (lc, .inr (5, [.int 0, .ref (em 0), .int 0])), (lp, .inr (5, [.int 0, .ref (em 0), .int 0])), (dl, .inl (cO8, 26, .inr (.inr (.inr (.inr fL))))), (rr8, .inl (cI8, 5, .inl (fun _ => 0))), (ff, .inr (13, [tf, .int 0, .int 0, .int 1, .int 0])), (fb, .inr (13, [tb, .int 0, .int 0, .int 1, .int 0])), (lw, .inr (5, [.int 0, .ref (em 0), .int 0])), (lo, .inr (5, [.int 0, .ref (em 0), .int 0])), (ou, .inl (cOut, 1, .inr (.inl (fun _ => 0)))), (od, .inl (cOd, 1, .inr (.inr (.inr (.inl (fun _ => 0))))))] H) (hD : va_D (fun q : Nat => s.heap.size ≤ q) [(x0, .inr (11, [.ref ca, .int 0, .int 0, .ref dr, .ref ty0, .int 0, .ref sf, .ref sb, vp, vm, .ref ra0, .int 0, .ref bk])), (ca, .inl (cC, 16, .inr (.inr (.inr (.inr fC))))), (c0, .inr (7, [.ref th, u1, u2, .int 0, .int 0, .int 0, .int 0])), (th, .inl (cH, 4, .inl (fun _ => 0))), (dr, .inl (cO, 26, .inr (.inr (.inr (.inr fD))))), (rr, .inl (cI, 5, .inl (fun _ => 0))), (ty0, .inl (cT, 8, .inl (fun _ => 0))), (sf, .inr (10, [.int 0, sf1, .int 0, .int 0, .int 0, .int 1, .int 0])), (sb, .inr (10, [.int 1, sb1, .int 0, .int 0, .int 0, .int 1, .int 0])), (ra0, .inl (cR, 6, .inl (fun _ => 0))), (bk, .inr (6, [.ref a0, .ref a1, .ref a2, .ref mo, .int 0])), (a0, .inl (cB0, 8, .inl (fun _ => 0))), (a1, .inl (cB1, 8, .inl (fun _ => 0))), (a2, .inl (cB2, 8, .inl (fun _ => 0))), (mo, .inl (cM, 256, .inl (fun _ => 0))), (m0, .inr (14, [.ref lc, .ref lp, .ref dl, .ref ff, .ref fb, .ref lw, .ref lo, .ref (em 1), .int 0])), (lc, .inr (5, [.int 0, .ref (em 0), .int 0])), (lp, .inr (5, [.int 0, .ref (em 0), .int 0])), (dl, .inl (cO8, 26, .inr (.inr (.inr (.inr fL))))), (rr8, .inl (cI8, 5, .inl (fun _ => 0))), (ff, .inr (13, [tf, .int 0, .int 0, .int 1, .int 0])), (fb, .inr (13, [tb, .int 0, .int 0, .int 1, .int 0])), (lw, .inr (5, [.int 0, .ref (em 0), .int 0])), (lo, .inr (5, [.int 0, .ref (em 0), .int 0])), (ou, .inl (cOut, 1, .inr (.inl (fun _ => 0)))), (od, .inl (cOd, 1, .inr (.inr (.inr (.inl (fun _ => 0))))))]) (hS : va_S (fun q : Nat => s.heap.size ≤ q) s.heap H locs) {ls : Array Slot} (hl : lv_has ls 9 [(5, .int 0), (4, .ref od), (3, .ref ou), (2, .ref m0), (1, .ref x0), (0, .ref b)]) : W p l e room_1 s m #[Value.ref b] below meth c H locs 146 2187 (lw_Z below #[Value.ref b] s) (F0 m 2203 ls []) := by
  obtain ⟨hx, hb, hr, hml, hown0, hts0, hX, hbl, hlocks, hgv⟩ := id C0
  have hts := ow_hts hts0
  have hown : s.vm.findClass RL = some m.cls := hown0
  have hA : ∀ q : Nat, s.heap.size ≤ q → (fun q : Nat => s.heap.size ≤ q) q := fun _ h => h
  have hbA : ¬ (fun q : Nat => s.heap.size ≤ q) b := Nat.not_le.mpr hbl
  refine lv_aload_n hx hb dL_law_2203 rfl (lv_at hl 4 rfl) ?_
  have hPc := hP.sub (ws' := [(x0, .inr (11, [.ref ca, .int 0, .int 0, .ref dr, .ref ty0, .int 0, .ref sf, .ref sb, vp, vm, .ref ra0, .int 0, .ref bk]))]) [0] rfl
  have hDc := hD.sub (ws' := [(x0, .inr (11, [.ref ca, .int 0, .int 0, .ref dr, .ref ty0, .int 0, .ref sf, .ref sb, vp, vm, .ref ra0, .int 0, .ref bk]))]) [0] (by decide) rfl
  have hKc := hK.sub (tys' := []) [] rfl
  have hFc := va_free (wc := [(x0, .inr (11, [.ref ca, .int 0, .int 0, .ref dr, .ref ty0, .int 0, .ref sf, .ref sb, vp, vm, .ref ra0, .int 0, .ref bk]))]) hD hS hA [0] rfl
  refine va_calli (va_runV (As := []) (rest := []) ⟨hx, hb, hml, hown, hts⟩ (c_X5_kinds l em dC dI x0 (.ref ca) (.int 0) (.ref dr) (.ref ty0) (.int 0) (.ref sf) (.ref sb) vp vm (.ref ra0) (.int 0) (.ref bk) H.size) (cwV 0 hts gT_X5_kinds rfl rfl rfl (by decide +kernel) ⟨Nat.le_of_ble_eq_true rfl, Nat.le_of_ble_eq_true rfl⟩) ⟨Pw.blind _ _ _ _ _ _ _, va_recv hKc hPc (ci := 11) (q0 := 0) rfl rfl, fun U hU hW => ⟨rfl, Pw.go hPc hKc hDc hamb hS hFc hU hW⟩⟩ rfl rfl hl.1 rfl (lv_room (Nat.le_of_ble_eq_true rfl)) dL_law_2204 ⟨Nat.le_of_ble_eq_true rfl, Nat.le_of_ble_eq_true rfl⟩) hS (fun q _ h => hFc q h) hFc (fun r_1 u t H1 locs1 ht hvm hw hB hz1 hk1 hS => ?_)
  obtain ⟨hP, hD⟩ := va_rest (wr := [(ca, .inl (cC, 16, .inr (.inr (.inr (.inr fC))))), (c0, .inr (7, [.ref th, u1, u2, .int 0, .int 0, .int 0, .int 0])), (th, .inl (cH, 4, .inl (fun _ => 0))), (dr, .inl (cO, 26, .inr (.inr (.inr (.inr fD))))), (rr, .inl (cI, 5, .inl (fun _ => 0))), (ty0, .inl (cT, 8, .inl (fun _ => 0))), (sf, .inr (10, [.int 0, sf1, .int 0, .int 0, .int 0, .int 1, .int 0])), (sb, .inr (10, [.int 1, sb1, .int 0, .int 0, .int 0, .int 1, .int 0])), (ra0, .inl (cR, 6, .inl (fun _ => 0))), (bk, .inr (6, [.ref a0, .ref a1, .ref a2, .ref mo, .int 0])), (a0, .inl (cB0, 8, .inl (fun _ => 0))), (a1, .inl (cB1, 8, .inl (fun _ => 0))), (a2, .inl (cB2, 8, .inl (fun _ => 0))), (mo, .inl (cM, 256, .inl (fun _ => 0))), (m0, .inr (14, [.ref lc, .ref lp, .ref dl, .ref ff, .ref fb, .ref lw, .ref lo, .ref (em 1), .int 0])), (lc, .inr (5, [.int 0, .ref (em 0), .int 0])), (lp, .inr (5, [.int 0, .ref (em 0), .int 0])), (dl, .inl (cO8, 26, .inr (.inr (.inr (.inr fL))))), (rr8, .inl (cI8, 5, .inl (fun _ => 0))), (ff, .inr (13, [tf, .int 0, .int 0, .int 1, .int 0])), (fb, .inr (13, [tb, .int 0, .int 0, .int 1, .int 0])), (lw, .inr (5, [.int 0, .ref (em 0), .int 0])), (lo, .inr (5, [.int 0, .ref (em 0), .int 0])), (ou, .inl (cOut, 1, .inr (.inl (fun _ => 0)))), (od, .inl (cOd, 1, .inr (.inr (.inr (.inl (fun _ => 0))))))]) hP hD [0] [1, 2, 3, 4, 5, 6, 7, 8, 9, 10, 11, 12, 13, 14, 15, 16, 17, 18, 19, 20, 21, 22, 23, 24, 25] rfl rfl (by decide) (by decide) hk1 hFc
  generalize H1 = H at hP hS ⊢
  refine W.widen (k := 146) (n := 2187) (Nat.le_of_ble_eq_true rfl) (Nat.le_of_ble_eq_true rfl) ?_
  have hw : r_1 = 0 := hw
  rw [hw]
  refine lv_aload_n hx hb dL_law_2207 rfl (lv_at hl 3 rfl) ?_
  have hPc := hP.sub (ws' := [(m0, .inr (14, [.ref lc, .ref lp, .ref dl, .ref ff, .ref fb, .ref lw, .ref lo, .ref (em 1), .int 0])), (lc, .inr (5, [.int 0, .ref (em 0), .int 0]))]) [14, 15] rfl
  have hDc := hD.sub (ws' := [(m0, .inr (14, [.ref lc, .ref lp, .ref dl, .ref ff, .ref fb, .ref lw, .ref lo, .ref (em 1), .int 0])), (lc, .inr (5, [.int 0, .ref (em 0), .int 0]))]) [14, 15] (by decide) rfl
  have hKc := hK.sub (tys' := []) [] rfl
  have hFc := va_free (wc := [(m0, .inr (14, [.ref lc, .ref lp, .ref dl, .ref ff, .ref fb, .ref lw, .ref lo, .ref (em 1), .int 0])), (lc, .inr (5, [.int 0, .ref (em 0), .int 0]))]) hD hS hA [14, 15] rfl
  refine va_calli (va_runV (As := []) (rest := [.int 0]) ⟨hx, hb, hml, hown, hts⟩ (c_X8_kinds l em dC dI m0 (.ref lp) (.ref dl) (.ref ff) (.ref fb) (.ref lw) (.ref lo) (.ref (em 1)) (.int 0) lc (.ref (em 0)) H.size) (cwV 0 hts gT_X8_kinds rfl rfl rfl (by decide +kernel) ⟨Nat.le_of_ble_eq_true rfl, Nat.le_of_ble_eq_true rfl⟩) ⟨Pw.blind _ _ _ _ _ _ _, va_recv hKc hPc (ci := 14) (q0 := 0) rfl rfl, fun U hU hW => ⟨rfl, Pw.go hPc hKc hDc hamb hS hFc hU hW⟩⟩ rfl rfl hl.1 rfl (lv_room (Nat.le_of_ble_eq_true rfl)) dL_law_2208 ⟨Nat.le_of_ble_eq_true rfl, Nat.le_of_ble_eq_true rfl⟩) hS (fun q _ h => hFc q h) hFc (fun r_2 u t H1 locs1 ht hvm hw hB hz1 hk1 hS => ?_)
  obtain ⟨hP1, hK1, hD1⟩ := hB
  rw [ht] at hP1
  have hK1 := va_K.moved hvm.symm hK1
  obtain ⟨hP, hD⟩ := va_join (wr := [(ca, .inl (cC, 16, .inr (.inr (.inr (.inr fC))))), (c0, .inr (7, [.ref th, u1, u2, .int 0, .int 0, .int 0, .int 0])), (th, .inl (cH, 4, .inl (fun _ => 0))), (dr, .inl (cO, 26, .inr (.inr (.inr (.inr fD))))), (rr, .inl (cI, 5, .inl (fun _ => 0))), (ty0, .inl (cT, 8, .inl (fun _ => 0))), (sf, .inr (10, [.int 0, sf1, .int 0, .int 0, .int 0, .int 1, .int 0])), (sb, .inr (10, [.int 1, sb1, .int 0, .int 0, .int 0, .int 1, .int 0])), (ra0, .inl (cR, 6, .inl (fun _ => 0))), (bk, .inr (6, [.ref a0, .ref a1, .ref a2, .ref mo, .int 0])), (a0, .inl (cB0, 8, .inl (fun _ => 0))), (a1, .inl (cB1, 8, .inl (fun _ => 0))), (a2, .inl (cB2, 8, .inl (fun _ => 0))), (mo, .inl (cM, 256, .inl (fun _ => 0))), (lp, .inr (5, [.int 0, .ref (em 0), .int 0])), (dl, .inl (cO8, 26, .inr (.inr (.inr (.inr fL))))), (rr8, .inl (cI8, 5, .inl (fun _ => 0))), (ff, .inr (13, [tf, .int 0, .int 0, .int 1, .int 0])), (fb, .inr (13, [tb, .int 0, .int 0, .int 1, .int 0])), (lw, .inr (5, [.int 0, .ref (em 0), .int 0])), (lo, .inr (5, [.int 0, .ref (em 0), .int 0])), (ou, .inl (cOut, 1, .inr (.inl (fun _ => 0)))), (od, .inl (cOd, 1, .inr (.inr (.inr (.inl (fun _ => 0))))))]) (w1 := [(m0, .inr (14, [.ref lc, .ref lp, .ref dl, .ref ff, .ref fb, .ref lw, .ref lo, .ref (em 1), .int 0]))]) hP hD [14, 15] [0, 1, 2, 3, 4, 5, 6, 7, 8, 9, 10, 11, 12, 13, 16, 17, 18, 19, 20, 21, 22, 23, 24] rfl rfl (by decide) (by decide) hk1 hFc hP1 hD1
  have hK := (hK.sub (tys' := [(cC, (.object "Bothfaces$Card")), (cH, .int), (cO, (.array .int)), (cI, .int), (cT, .int), (cR, .int), (cB0, .int), (cB1, .int), (cB2, .int), (cM, .int), (cO8, (.array .int)), (cI8, .int), (cOut, .long), (cOd, .double)]) [0, 1, 2, 3, 4, 5, 6, 7, 8, 9, 10, 11, 12, 13] rfl).app hK1
  generalize H1 = H at hP hS ⊢
  have hP : va_P (dC, dI) vwCl [(ca, .inl (cC, 16, .inr (.inr (.inr (.inr fC))))), (c0, .inr (7, [.ref th, u1, u2, .int 0, .int 0, .int 0, .int 0])), (th, .inl (cH, 4, .inl (fun _ => 0))), (dr, .inl (cO, 26, .inr (.inr (.inr (.inr fD))))), (rr, .inl (cI, 5, .inl (fun _ => 0))), (ty0, .inl (cT, 8, .inl (fun _ => 0))), (sf, .inr (10, [.int 0, sf1, .int 0, .int 0, .int 0, .int 1, .int 0])), (sb, .inr (10, [.int 1, sb1, .int 0, .int 0, .int 0, .int 1, .int 0])), (ra0, .inl (cR, 6, .inl (fun _ => 0))), (bk, .inr (6, [.ref a0, .ref a1, .ref a2, .ref mo, .int 0])), (a0, .inl (cB0, 8, .inl (fun _ => 0))), (a1, .inl (cB1, 8, .inl (fun _ => 0))), (a2, .inl (cB2, 8, .inl (fun _ => 0))), (mo, .inl (cM, 256, .inl (fun _ => 0))), (lp, .inr (5, [.int 0, .ref (em 0), .int 0])), (dl, .inl (cO8, 26, .inr (.inr (.inr (.inr fL))))), (rr8, .inl (cI8, 5, .inl (fun _ => 0))), (ff, .inr (13, [tf, .int 0, .int 0, .int 1, .int 0])), (fb, .inr (13, [tb, .int 0, .int 0, .int 1, .int 0])), (lw, .inr (5, [.int 0, .ref (em 0), .int 0])), (lo, .inr (5, [.int 0, .ref (em 0), .int 0])), (ou, .inl (cOut, 1, .inr (.inl (fun _ => 0)))), (od, .inl (cOd, 1, .inr (.inr (.inr (.inl (fun _ => 0)))))), (m0, .inr (14, [.ref lc, .ref lp, .ref dl, .ref ff, .ref fb, .ref lw, .ref lo, .ref (em 1), .int 0]))] H := hP
  have hD : va_D (fun q : Nat => s.heap.size ≤ q) [(ca, .inl (cC, 16, .inr (.inr (.inr (.inr fC))))), (c0, .inr (7, [.ref th, u1, u2, .int 0, .int 0, .int 0, .int 0])), (th, .inl (cH, 4, .inl (fun _ => 0))), (dr, .inl (cO, 26, .inr (.inr (.inr (.inr fD))))), (rr, .inl (cI, 5, .inl (fun _ => 0))), (ty0, .inl (cT, 8, .inl (fun _ => 0))), (sf, .inr (10, [.int 0, sf1, .int 0, .int 0, .int 0, .int 1, .int 0])), (sb, .inr (10, [.int 1, sb1, .int 0, .int 0, .int 0, .int 1, .int 0])), (ra0, .inl (cR, 6, .inl (fun _ => 0))), (bk, .inr (6, [.ref a0, .ref a1, .ref a2, .ref mo, .int 0])), (a0, .inl (cB0, 8, .inl (fun _ => 0))), (a1, .inl (cB1, 8, .inl (fun _ => 0))), (a2, .inl (cB2, 8, .inl (fun _ => 0))), (mo, .inl (cM, 256, .inl (fun _ => 0))), (lp, .inr (5, [.int 0, .ref (em 0), .int 0])), (dl, .inl (cO8, 26, .inr (.inr (.inr (.inr fL))))), (rr8, .inl (cI8, 5, .inl (fun _ => 0))), (ff, .inr (13, [tf, .int 0, .int 0, .int 1, .int 0])), (fb, .inr (13, [tb, .int 0, .int 0, .int 1, .int 0])), (lw, .inr (5, [.int 0, .ref (em 0), .int 0])), (lo, .inr (5, [.int 0, .ref (em 0), .int 0])), (ou, .inl (cOut, 1, .inr (.inl (fun _ => 0)))), (od, .inl (cOd, 1, .inr (.inr (.inr (.inl (fun _ => 0)))))), (m0, .inr (14, [.ref lc, .ref lp, .ref dl, .ref ff, .ref fb, .ref lw, .ref lo, .ref (em 1), .int 0]))] := hD
  have hK : va_K (dC, dI) vwCl [(cC, (.object "Bothfaces$Card")), (cH, .int), (cO, (.array .int)), (cI, .int), (cT, .int), (cR, .int), (cB0, .int), (cB1, .int), (cB2, .int), (cM, .int), (cO8, (.array .int)), (cI8, .int), (cOut, .long), (cOd, .double)] s := hK
  refine W.widen (k := 146) (n := 2187) (Nat.le_of_ble_eq_true rfl) (Nat.le_of_ble_eq_true rfl) ?_
  have hw : r_2 = 0 := hw
  rw [hw]
  refine lv_icmp_eq (tgt := 2636) hx hb dL_law_2211 (by decide) (fun c_3 => ?_) (fun c_3 => ?_)
  · refine lv_iinc (v := 6) (lv' := [(5, .int 6), (4, .ref od), (3, .ref ou), (2, .ref m0), (1, .ref x0), (0, .ref b)]) hx hb dL_law_2636 hl (k := 0) rfl (by decide) (by decide) rfl (fun ls hl => ?_)
    refine lv_goto (tgt := 28) hx hb dL_law_2639 (by decide) ?_
    refine lv_iload hx hb dL_law_28 (lv_at hl 0 rfl) ?_
    refine lv_aload_n hx hb dL_law_30 rfl (lv_at hl 5 rfl) ?_
    refine va_slen hx hb hX hbl hbA hS dL_law_31 ?_
    refine lv_topi (fun n_4 en_4 => ?_)
    obtain rfl : n_4 = 6 := en_4.trans (by decide)
    refine lv_bipush (v := 6) hx hb dL_law_32 (by decide) ?_
    refine lv_isub hx hb dL_law_34 ?_
    refine lv_topi (fun k_5 ek_5 => ?_)
    obtain rfl : k_5 = 0 := ek_5.trans (by decide)
    refine lv_icmp_gt (tgt := 2642) hx hb dL_law_35 (by decide) (fun c_6 => ?_) (fun c_6 => ?_)
    · refine lv_iconst (v := 1) hx hb dL_law_2642 (by decide) ?_
      refine W.widen (k := 600006) (n := 7302072) (Nat.le_of_ble_eq_true rfl) (Nat.le_of_ble_eq_true rfl) ?_
      refine va_forget hS.2.2 ?_
      refine W.base ?_
      exact lw_ret (Drawn.sameBut.refl s.drawn lw_cs) hx hb hr hlocks dL_law_2643
    · exact absurd (by decide) c_6
  · exact absurd (by decide) c_3

set_option maxHeartbeats 4000000 in
set_option maxRecDepth 100000 in
theorem law_32 {p : Program} {e : Env} {s : State} {m : MethodId} {below : List Frame} {meth : Method} {c : Code} (l : Launch) (hlt : l.stackTraces = false) {b : Nat} {xs : Nat → Int32} (C0 : lw_At p s m meth c b 6 xs) (em : Nat → Nat) (dC : Nat → ClassId) (dI : Nat → Nat → Nat) (j : Nat) (hjj : ∀ z : Int32, z = ((xs 1).toUInt32 % 65536).toInt32 → 97 ≤ z.toInt → z.toInt ≤ 122 → (z - 97).toNatClampNeg = j) (x0 : Nat) (ca : Nat) (dr : Nat) (ty0 : Nat) (sf : Nat) (sb : Nat) (ra0 : Nat) (bk : Nat) (c0 : Nat) (th : Nat) (rr : Nat) (a0 : Nat) (a1 : Nat) (a2 : Nat) (mo : Nat) (vp : Value) (vm : Value) (u1 : Value) (u2 : Value) (sf1 : Value) (sb1 : Value) (fC : Nat → Option Nat) (fD : Nat → Option Nat) (cC : ClassId) (cH : ClassId) (cO : ClassId) (cI : ClassId) (cT : ClassId) (cR : ClassId) (cB0 : ClassId) (cB1 : ClassId) (cB2 : ClassId) (cM : ClassId) (m0 : Nat) (lc : Nat) (lp : Nat) (dl : Nat) (rr8 : Nat) (ff : Nat) (fb : Nat) (lw : Nat) (lo : Nat) (tf : Value) (tb : Value) (fL : Nat → Option Nat) (cO8 : ClassId) (cI8 : ClassId) (ou : Nat) (od : Nat) (cOut : ClassId) (cOd : ClassId) (hfC : fC 0 = some c0) (hfD : fD j = some rr) (hfL : fL j = some rr8) {H : Heap} {locs : List Loc} (hamb : amb em (fun q : Nat => s.heap.size ≤ q) s s.heap) (hK : va_K (dC, dI) vwCl [(cC, (.object "Bothfaces$Card")), (cH, .int), (cO, (.array .int)), (cI, .int), (cT, .int), (cR, .int), (cB0, .int), (cB1, .int), (cB2, .int), (cM, .int), (cO8, (.array .int)), (cI8, .int), (cOut, .long), (cOd, .double)] s) (hP : va_P (dC, dI) vwCl [(x0, .inr (11, [.ref ca, .int 0, .int 0, .ref dr, .ref ty0, .int 0, .ref sf, .ref sb, vp, vm, .ref ra0, .int 0, .ref bk])), (ca, .inl (cC, 16, .inr (.inr (.inr (.inr fC))))), (c0, .inr (7, [.ref th, u1, u2, .int 0, .int 0, .int 0, .int 0])), (th, .inl (cH, 4, .inl (fun _ => 0))), (dr, .inl (cO, 26, .inr (.inr (.inr (.inr fD))))), (rr, .inl (cI, 5, .inl (fun _ => 0))), (ty0, .inl (cT, 8, .inl (fun _ => 0))), (sf, .inr (10, [.int 0, sf1, .int 0, .int 0, .int 0, .int 1, .int 0])), (sb, .inr (10, [.int 1, sb1, .int 0, .int 0, .int 0, .int 1, .int 0])), (ra0, .inl (cR, 6, .inl (fun _ => 0))), (bk, .inr (6, [.ref a0, .ref a1, .ref a2, .ref mo, .int 0])), (a0, .inl (cB0, 8, .inl (fun _ => 0))), (a1, .inl (cB1, 8, .inl (fun _ => 0))), (a2, .inl (cB2, 8, .inl (fun _ => 0))), (mo, .inl (cM, 256, .inl (fun _ => 0))), (m0, .inr (14, [.ref lc, .ref lp, .ref dl, .ref ff, .ref fb, .ref lw, .ref lo, .ref (em 1), .int 0])), (lc, .inr (5, [.int 0, .ref (em 0), .int 0])), (lp, .inr (5, [.int 0, .ref (em 0), .int 0])), (dl, .inl (cO8, 26, .inr (.inr (.inr (.inr fL))))), (rr8, .inl (cI8, 5, .inl (fun _ => 0))), (ff, .inr (13, [tf, .int 0, .int 0, .int 1, .int 0])), (fb, .inr (13, [tb, .int 0, .int 0, .int 1, .int 0])), (lw, .inr (5, [.int 0, .ref (em 0), .int 0])), (lo, .inr (5, [.int 0, .ref (em 0), .int 0])), (ou, .inl (cOut, 1, .inr (.inl (fun _ => 0)))), (od, .inl (cOd, 1, .inr (.inr (.inr (.inl (fun _ => 0))))))] H) (hD : va_D (fun q : Nat => s.heap.size ≤ q) [(x0, .inr (11, [.ref ca, .int 0, .int 0, .ref dr, .ref ty0, .int 0, .ref sf, .ref sb, vp, vm, .ref ra0, .int 0, .ref bk])), (ca, .inl (cC, 16, .inr (.inr (.inr (.inr fC))))), (c0, .inr (7, [.ref th, u1, u2, .int 0, .int 0, .int 0, .int 0])), (th, .inl (cH, 4, .inl (fun _ => 0))), (dr, .inl (cO, 26, .inr (.inr (.inr (.inr fD))))), (rr, .inl (cI, 5, .inl (fun _ => 0))), (ty0, .inl (cT, 8, .inl (fun _ => 0))), (sf, .inr (10, [.int 0, sf1, .int 0, .int 0, .int 0, .int 1, .int 0])), (sb, .inr (10, [.int 1, sb1, .int 0, .int 0, .int 0, .int 1, .int 0])), (ra0, .inl (cR, 6, .inl (fun _ => 0))), (bk, .inr (6, [.ref a0, .ref a1, .ref a2, .ref mo, .int 0])), (a0, .inl (cB0, 8, .inl (fun _ => 0))), (a1, .inl (cB1, 8, .inl (fun _ => 0))), (a2, .inl (cB2, 8, .inl (fun _ => 0))), (mo, .inl (cM, 256, .inl (fun _ => 0))), (m0, .inr (14, [.ref lc, .ref lp, .ref dl, .ref ff, .ref fb, .ref lw, .ref lo, .ref (em 1), .int 0])), (lc, .inr (5, [.int 0, .ref (em 0), .int 0])), (lp, .inr (5, [.int 0, .ref (em 0), .int 0])), (dl, .inl (cO8, 26, .inr (.inr (.inr (.inr fL))))), (rr8, .inl (cI8, 5, .inl (fun _ => 0))), (ff, .inr (13, [tf, .int 0, .int 0, .int 1, .int 0])), (fb, .inr (13, [tb, .int 0, .int 0, .int 1, .int 0])), (lw, .inr (5, [.int 0, .ref (em 0), .int 0])), (lo, .inr (5, [.int 0, .ref (em 0), .int 0])), (ou, .inl (cOut, 1, .inr (.inl (fun _ => 0)))), (od, .inl (cOd, 1, .inr (.inr (.inr (.inl (fun _ => 0))))))]) (hS : va_S (fun q : Nat => s.heap.size ≤ q) s.heap H locs) {ls : Array Slot} (hl : lv_has ls 9 [(5, .int 0), (4, .ref od), (3, .ref ou), (2, .ref m0), (1, .ref x0), (0, .ref b)]) : W p l e room_1 s m #[Value.ref b] below meth c H locs 146 2187 (lw_Z below #[Value.ref b] s) (F0 m 2216 ls []) := by
  obtain ⟨hx, hb, hr, hml, hown0, hts0, hX, hbl, hlocks, hgv⟩ := id C0
  have hts := ow_hts hts0
  have hown : s.vm.findClass RL = some m.cls := hown0
  have hA : ∀ q : Nat, s.heap.size ≤ q → (fun q : Nat => s.heap.size ≤ q) q := fun _ h => h
  have hbA : ¬ (fun q : Nat => s.heap.size ≤ q) b := Nat.not_le.mpr hbl
  refine lv_aload_n hx hb dL_law_2216 rfl (lv_at hl 4 rfl) ?_
  refine lv_aload_n hx hb dL_law_2217 rfl (lv_at hl 5 rfl) ?_
  refine lv_iload hx hb dL_law_2218 (lv_at hl 0 rfl) ?_
  refine lv_iconst (v := 1) hx hb dL_law_2220 (by decide) ?_
  refine lv_iadd hx hb dL_law_2221 ?_
  refine lv_topi (fun k_1 ek_1 => ?_)
  obtain rfl : k_1 = 1 := ek_1.trans (by decide)
  refine va_sld hx hb hX hbl hbA hS (vp_in_iff.mpr ⟨by decide, by decide⟩) dL_law_2222 ?_
  refine lv_topi (fun y_2 ey_2 => ?_)
  have ey_2 : y_2 = xs 1 := ey_2
  refine lv_aload_n hx hb dL_law_2223 rfl (lv_at hl 2 rfl) ?_
  have hPc := hP.sub (ws' := [(x0, .inr (11, [.ref ca, .int 0, .int 0, .ref dr, .ref ty0, .int 0, .ref sf, .ref sb, vp, vm, .ref ra0, .int 0, .ref bk])), (ra0, .inl (cR, 6, .inl (fun _ => 0))), (ou, .inl (cOut, 1, .inr (.inl (fun _ => 0))))]) [0, 9, 24] rfl
  have hDc := hD.sub (ws' := [(x0, .inr (11, [.ref ca, .int 0, .int 0, .ref dr, .ref ty0, .int 0, .ref sf, .ref sb, vp, vm, .ref ra0, .int 0, .ref bk])), (ra0, .inl (cR, 6, .inl (fun _ => 0))), (ou, .inl (cOut, 1, .inr (.inl (fun _ => 0))))]) [0, 9, 24] (by decide) rfl
  have hKc := hK.sub (tys' := [(cR, .int), (cOut, .long)]) [5, 12] rfl
  have hFc := va_free (wc := [(x0, .inr (11, [.ref ca, .int 0, .int 0, .ref dr, .ref ty0, .int 0, .ref sf, .ref sb, vp, vm, .ref ra0, .int 0, .ref bk])), (ra0, .inl (cR, 6, .inl (fun _ => 0))), (ou, .inl (cOut, 1, .inr (.inl (fun _ => 0))))]) hD hS hA [0, 9, 24] rfl
  refine va_calli (vx_runSW (As := [.ref x0, .int y_2, .ref ou]) (rest := []) ⟨hx, hb, hml, hown, hts⟩ (c_L_weaver l hlt em dC dI x0 ra0 cR y_2 (.ref ca) (.int 0) (.int 0) (.ref dr) (.ref ty0) (.int 0) (.ref sf) (.ref sb) vp vm (.ref bk) ou cOut (fun _ => 0) H.size) (vx_cwSW 3 hts gT_L_weaver rfl rfl rfl (by decide +kernel) ⟨Nat.le_of_ble_eq_true rfl, Nat.le_of_ble_eq_true rfl⟩) ⟨Pw.blind _ _ _ _ _ _ _, fun U hU hW => ⟨rfl, Pw.go hPc hKc hDc hamb hS hFc hU hW⟩⟩ rfl rfl hl.1 rfl (lv_room (Nat.le_of_ble_eq_true rfl)) dL_law_2224 ⟨Nat.le_of_ble_eq_true rfl, Nat.le_of_ble_eq_true rfl⟩) hS (fun q _ h => hFc q h) hFc (fun r_3 u t H1 locs1 ht hvm hw hB hz1 hk1 hS => ?_)
  obtain ⟨gOx_4, ⟨hP1, hK1, hD1⟩, f_5⟩ := hB
  rw [ht] at hP1
  have hK1 := va_K.moved hvm.symm hK1
  obtain ⟨hP, hD⟩ := va_join (wr := [(ca, .inl (cC, 16, .inr (.inr (.inr (.inr fC))))), (c0, .inr (7, [.ref th, u1, u2, .int 0, .int 0, .int 0, .int 0])), (th, .inl (cH, 4, .inl (fun _ => 0))), (dr, .inl (cO, 26, .inr (.inr (.inr (.inr fD))))), (rr, .inl (cI, 5, .inl (fun _ => 0))), (ty0, .inl (cT, 8, .inl (fun _ => 0))), (sf, .inr (10, [.int 0, sf1, .int 0, .int 0, .int 0, .int 1, .int 0])), (sb, .inr (10, [.int 1, sb1, .int 0, .int 0, .int 0, .int 1, .int 0])), (bk, .inr (6, [.ref a0, .ref a1, .ref a2, .ref mo, .int 0])), (a0, .inl (cB0, 8, .inl (fun _ => 0))), (a1, .inl (cB1, 8, .inl (fun _ => 0))), (a2, .inl (cB2, 8, .inl (fun _ => 0))), (mo, .inl (cM, 256, .inl (fun _ => 0))), (m0, .inr (14, [.ref lc, .ref lp, .ref dl, .ref ff, .ref fb, .ref lw, .ref lo, .ref (em 1), .int 0])), (lc, .inr (5, [.int 0, .ref (em 0), .int 0])), (lp, .inr (5, [.int 0, .ref (em 0), .int 0])), (dl, .inl (cO8, 26, .inr (.inr (.inr (.inr fL))))), (rr8, .inl (cI8, 5, .inl (fun _ => 0))), (ff, .inr (13, [tf, .int 0, .int 0, .int 1, .int 0])), (fb, .inr (13, [tb, .int 0, .int 0, .int 1, .int 0])), (lw, .inr (5, [.int 0, .ref (em 0), .int 0])), (lo, .inr (5, [.int 0, .ref (em 0), .int 0])), (od, .inl (cOd, 1, .inr (.inr (.inr (.inl (fun _ => 0))))))]) (w1 := [(ou, .inl (cOut, 1, .inr (.inl gOx_4)))]) hP hD [0, 9, 24] [1, 2, 3, 4, 5, 6, 7, 8, 10, 11, 12, 13, 14, 15, 16, 17, 18, 19, 20, 21, 22, 23, 25] rfl rfl (by decide) (by decide) hk1 hFc hP1 hD1
  have hK := (hK.sub (tys' := [(cC, (.object "Bothfaces$Card")), (cH, .int), (cO, (.array .int)), (cI, .int), (cT, .int), (cR, .int), (cB0, .int), (cB1, .int), (cB2, .int), (cM, .int), (cO8, (.array .int)), (cI8, .int), (cOd, .double)]) [0, 1, 2, 3, 4, 5, 6, 7, 8, 9, 10, 11, 13] rfl).app hK1
  generalize H1 = H at hP hS ⊢
  have hP : va_P (dC, dI) vwCl [(ca, .inl (cC, 16, .inr (.inr (.inr (.inr fC))))), (c0, .inr (7, [.ref th, u1, u2, .int 0, .int 0, .int 0, .int 0])), (th, .inl (cH, 4, .inl (fun _ => 0))), (dr, .inl (cO, 26, .inr (.inr (.inr (.inr fD))))), (rr, .inl (cI, 5, .inl (fun _ => 0))), (ty0, .inl (cT, 8, .inl (fun _ => 0))), (sf, .inr (10, [.int 0, sf1, .int 0, .int 0, .int 0, .int 1, .int 0])), (sb, .inr (10, [.int 1, sb1, .int 0, .int 0, .int 0, .int 1, .int 0])), (bk, .inr (6, [.ref a0, .ref a1, .ref a2, .ref mo, .int 0])), (a0, .inl (cB0, 8, .inl (fun _ => 0))), (a1, .inl (cB1, 8, .inl (fun _ => 0))), (a2, .inl (cB2, 8, .inl (fun _ => 0))), (mo, .inl (cM, 256, .inl (fun _ => 0))), (m0, .inr (14, [.ref lc, .ref lp, .ref dl, .ref ff, .ref fb, .ref lw, .ref lo, .ref (em 1), .int 0])), (lc, .inr (5, [.int 0, .ref (em 0), .int 0])), (lp, .inr (5, [.int 0, .ref (em 0), .int 0])), (dl, .inl (cO8, 26, .inr (.inr (.inr (.inr fL))))), (rr8, .inl (cI8, 5, .inl (fun _ => 0))), (ff, .inr (13, [tf, .int 0, .int 0, .int 1, .int 0])), (fb, .inr (13, [tb, .int 0, .int 0, .int 1, .int 0])), (lw, .inr (5, [.int 0, .ref (em 0), .int 0])), (lo, .inr (5, [.int 0, .ref (em 0), .int 0])), (od, .inl (cOd, 1, .inr (.inr (.inr (.inl (fun _ => 0)))))), (ou, .inl (cOut, 1, .inr (.inl gOx_4)))] H := hP
  have hD : va_D (fun q : Nat => s.heap.size ≤ q) [(ca, .inl (cC, 16, .inr (.inr (.inr (.inr fC))))), (c0, .inr (7, [.ref th, u1, u2, .int 0, .int 0, .int 0, .int 0])), (th, .inl (cH, 4, .inl (fun _ => 0))), (dr, .inl (cO, 26, .inr (.inr (.inr (.inr fD))))), (rr, .inl (cI, 5, .inl (fun _ => 0))), (ty0, .inl (cT, 8, .inl (fun _ => 0))), (sf, .inr (10, [.int 0, sf1, .int 0, .int 0, .int 0, .int 1, .int 0])), (sb, .inr (10, [.int 1, sb1, .int 0, .int 0, .int 0, .int 1, .int 0])), (bk, .inr (6, [.ref a0, .ref a1, .ref a2, .ref mo, .int 0])), (a0, .inl (cB0, 8, .inl (fun _ => 0))), (a1, .inl (cB1, 8, .inl (fun _ => 0))), (a2, .inl (cB2, 8, .inl (fun _ => 0))), (mo, .inl (cM, 256, .inl (fun _ => 0))), (m0, .inr (14, [.ref lc, .ref lp, .ref dl, .ref ff, .ref fb, .ref lw, .ref lo, .ref (em 1), .int 0])), (lc, .inr (5, [.int 0, .ref (em 0), .int 0])), (lp, .inr (5, [.int 0, .ref (em 0), .int 0])), (dl, .inl (cO8, 26, .inr (.inr (.inr (.inr fL))))), (rr8, .inl (cI8, 5, .inl (fun _ => 0))), (ff, .inr (13, [tf, .int 0, .int 0, .int 1, .int 0])), (fb, .inr (13, [tb, .int 0, .int 0, .int 1, .int 0])), (lw, .inr (5, [.int 0, .ref (em 0), .int 0])), (lo, .inr (5, [.int 0, .ref (em 0), .int 0])), (od, .inl (cOd, 1, .inr (.inr (.inr (.inl (fun _ => 0)))))), (ou, .inl (cOut, 1, .inr (.inl gOx_4)))] := hD
  have hK : va_K (dC, dI) vwCl [(cC, (.object "Bothfaces$Card")), (cH, .int), (cO, (.array .int)), (cI, .int), (cT, .int), (cR, .int), (cB0, .int), (cB1, .int), (cB2, .int), (cM, .int), (cO8, (.array .int)), (cI8, .int), (cOd, .double), (cOut, .long)] s := hK
  refine W.widen (k := 147) (n := 2193) (Nat.le_of_ble_eq_true rfl) (Nat.le_of_ble_eq_true rfl) ?_
  have hw : ((y_2.toInt < 0 ∨ 99 < y_2.toInt) → r_3 = 1) ∧ (¬ (y_2.toInt < 0 ∨ 99 < y_2.toInt) → r_3 = 0) := hw
  rcases Classical.em (y_2.toInt < 0 ∨ 99 < y_2.toInt) with t_6 | t_6
  · have hw := hw.1 t_6
    rw [hw]
    refine lv_istore (lv' := [(6, .int 1), (5, .int 0), (4, .ref od), (3, .ref ou), (2, .ref m0), (1, .ref x0), (0, .ref b)]) hx hb dL_law_2227 hl (by decide) rfl (fun ls hl => ?_)
    refine lv_aload_n hx hb dL_law_2229 rfl (lv_at hl 4 rfl) ?_
    refine lv_aload_n hx hb dL_law_2230 rfl (lv_at hl 6 rfl) ?_
    refine lv_iload hx hb dL_law_2231 (lv_at hl 1 rfl) ?_
    refine lv_iconst (v := 1) hx hb dL_law_2233 (by decide) ?_
    refine lv_iadd hx hb dL_law_2234 ?_
    refine lv_topi (fun k_7 ek_7 => ?_)
    obtain rfl : k_7 = 1 := ek_7.trans (by decide)
    refine va_sld hx hb hX hbl hbA hS (vp_in_iff.mpr ⟨by decide, by decide⟩) dL_law_2235 ?_
    refine lv_topi (fun y_8 ey_8 => ?_)
    have ey_8 : y_8 = xs 1 := ey_8
    obtain rfl : y_2 = y_8 := ey_2.trans ey_8.symm
    have hPc := hP.sub (ws' := [(m0, .inr (14, [.ref lc, .ref lp, .ref dl, .ref ff, .ref fb, .ref lw, .ref lo, .ref (em 1), .int 0])), (lw, .inr (5, [.int 0, .ref (em 0), .int 0]))]) [13, 20] rfl
    have hDc := hD.sub (ws' := [(m0, .inr (14, [.ref lc, .ref lp, .ref dl, .ref ff, .ref fb, .ref lw, .ref lo, .ref (em 1), .int 0])), (lw, .inr (5, [.int 0, .ref (em 0), .int 0]))]) [13, 20] (by decide) rfl
    have hKc := hK.sub (tys' := []) [] rfl
    have hFc := va_free (wc := [(m0, .inr (14, [.ref lc, .ref lp, .ref dl, .ref ff, .ref fb, .ref lw, .ref lo, .ref (em 1), .int 0])), (lw, .inr (5, [.int 0, .ref (em 0), .int 0]))]) hD hS hA [13, 20] rfl
    refine va_calli (va_runV (As := [.int y_2]) (rest := []) ⟨hx, hb, hml, hown, hts⟩ (c_X8_weaver l em dC dI m0 y_2 (.ref lc) (.ref lp) (.ref dl) (.ref ff) (.ref fb) (.ref lo) (.ref (em 1)) (.int 0) lw H.size) (cwV 1 hts gT_X8_weaver rfl rfl rfl (by decide +kernel) ⟨Nat.le_of_ble_eq_true rfl, Nat.le_of_ble_eq_true rfl⟩) ⟨Pw.blind _ _ _ _ _ _ _, va_recv hKc hPc (ci := 14) (q0 := 0) rfl rfl, fun U hU hW => ⟨rfl, Pw.go hPc hKc hDc hamb hS hFc hU hW⟩⟩ rfl rfl hl.1 rfl (lv_room (Nat.le_of_ble_eq_true rfl)) dL_law_2236 ⟨Nat.le_of_ble_eq_true rfl, Nat.le_of_ble_eq_true rfl⟩) hS (fun q _ h => hFc q h) hFc (fun r_9 u t H1 locs1 ht hvm hw hB hz1 hk1 hS => ?_)
    obtain ⟨tvx_10, ⟨hP1, hK1, hD1⟩, f_11, f_12⟩ := hB
    rw [ht] at hP1
    have hK1 := va_K.moved hvm.symm hK1
    obtain ⟨hP, hD⟩ := va_join (wr := [(ca, .inl (cC, 16, .inr (.inr (.inr (.inr fC))))), (c0, .inr (7, [.ref th, u1, u2, .int 0, .int 0, .int 0, .int 0])), (th, .inl (cH, 4, .inl (fun _ => 0))), (dr, .inl (cO, 26, .inr (.inr (.inr (.inr fD))))), (rr, .inl (cI, 5, .inl (fun _ => 0))), (ty0, .inl (cT, 8, .inl (fun _ => 0))), (sf, .inr (10, [.int 0, sf1, .int 0, .int 0, .int 0, .int 1, .int 0])), (sb, .inr (10, [.int 1, sb1, .int 0, .int 0, .int 0, .int 1, .int 0])), (bk, .inr (6, [.ref a0, .ref a1, .ref a2, .ref mo, .int 0])), (a0, .inl (cB0, 8, .inl (fun _ => 0))), (a1, .inl (cB1, 8, .inl (fun _ => 0))), (a2, .inl (cB2, 8, .inl (fun _ => 0))), (mo, .inl (cM, 256, .inl (fun _ => 0))), (lc, .inr (5, [.int 0, .ref (em 0), .int 0])), (lp, .inr (5, [.int 0, .ref (em 0), .int 0])), (dl, .inl (cO8, 26, .inr (.inr (.inr (.inr fL))))), (rr8, .inl (cI8, 5, .inl (fun _ => 0))), (ff, .inr (13, [tf, .int 0, .int 0, .int 1, .int 0])), (fb, .inr (13, [tb, .int 0, .int 0, .int 1, .int 0])), (lo, .inr (5, [.int 0, .ref (em 0), .int 0])), (od, .inl (cOd, 1, .inr (.inr (.inr (.inl (fun _ => 0)))))), (ou, .inl (cOut, 1, .inr (.inl gOx_4)))]) (w1 := [(m0, .inr (14, [.ref lc, .ref lp, .ref dl, .ref ff, .ref fb, .ref lw, .ref lo, .ref (em 1), .int tvx_10]))]) hP hD [13, 20] [0, 1, 2, 3, 4, 5, 6, 7, 8, 9, 10, 11, 12, 14, 15, 16, 17, 18, 19, 21, 22, 23] rfl rfl (by decide) (by decide) hk1 hFc hP1 hD1
    have hK := (hK.sub (tys' := [(cC, (.object "Bothfaces$Card")), (cH, .int), (cO, (.array .int)), (cI, .int), (cT, .int), (cR, .int), (cB0, .int), (cB1, .int), (cB2, .int), (cM, .int), (cO8, (.array .int)), (cI8, .int), (cOd, .double), (cOut, .long)]) [0, 1, 2, 3, 4, 5, 6, 7, 8, 9, 10, 11, 12, 13] rfl).app hK1
    generalize H1 = H at hP hS ⊢
    have hP : va_P (dC, dI) vwCl [(ca, .inl (cC, 16, .inr (.inr (.inr (.inr fC))))), (c0, .inr (7, [.ref th, u1, u2, .int 0, .int 0, .int 0, .int 0])), (th, .inl (cH, 4, .inl (fun _ => 0))), (dr, .inl (cO, 26, .inr (.inr (.inr (.inr fD))))), (rr, .inl (cI, 5, .inl (fun _ => 0))), (ty0, .inl (cT, 8, .inl (fun _ => 0))), (sf, .inr (10, [.int 0, sf1, .int 0, .int 0, .int 0, .int 1, .int 0])), (sb, .inr (10, [.int 1, sb1, .int 0, .int 0, .int 0, .int 1, .int 0])), (bk, .inr (6, [.ref a0, .ref a1, .ref a2, .ref mo, .int 0])), (a0, .inl (cB0, 8, .inl (fun _ => 0))), (a1, .inl (cB1, 8, .inl (fun _ => 0))), (a2, .inl (cB2, 8, .inl (fun _ => 0))), (mo, .inl (cM, 256, .inl (fun _ => 0))), (lc, .inr (5, [.int 0, .ref (em 0), .int 0])), (lp, .inr (5, [.int 0, .ref (em 0), .int 0])), (dl, .inl (cO8, 26, .inr (.inr (.inr (.inr fL))))), (rr8, .inl (cI8, 5, .inl (fun _ => 0))), (ff, .inr (13, [tf, .int 0, .int 0, .int 1, .int 0])), (fb, .inr (13, [tb, .int 0, .int 0, .int 1, .int 0])), (lo, .inr (5, [.int 0, .ref (em 0), .int 0])), (od, .inl (cOd, 1, .inr (.inr (.inr (.inl (fun _ => 0)))))), (ou, .inl (cOut, 1, .inr (.inl gOx_4))), (m0, .inr (14, [.ref lc, .ref lp, .ref dl, .ref ff, .ref fb, .ref lw, .ref lo, .ref (em 1), .int tvx_10]))] H := hP
    have hD : va_D (fun q : Nat => s.heap.size ≤ q) [(ca, .inl (cC, 16, .inr (.inr (.inr (.inr fC))))), (c0, .inr (7, [.ref th, u1, u2, .int 0, .int 0, .int 0, .int 0])), (th, .inl (cH, 4, .inl (fun _ => 0))), (dr, .inl (cO, 26, .inr (.inr (.inr (.inr fD))))), (rr, .inl (cI, 5, .inl (fun _ => 0))), (ty0, .inl (cT, 8, .inl (fun _ => 0))), (sf, .inr (10, [.int 0, sf1, .int 0, .int 0, .int 0, .int 1, .int 0])), (sb, .inr (10, [.int 1, sb1, .int 0, .int 0, .int 0, .int 1, .int 0])), (bk, .inr (6, [.ref a0, .ref a1, .ref a2, .ref mo, .int 0])), (a0, .inl (cB0, 8, .inl (fun _ => 0))), (a1, .inl (cB1, 8, .inl (fun _ => 0))), (a2, .inl (cB2, 8, .inl (fun _ => 0))), (mo, .inl (cM, 256, .inl (fun _ => 0))), (lc, .inr (5, [.int 0, .ref (em 0), .int 0])), (lp, .inr (5, [.int 0, .ref (em 0), .int 0])), (dl, .inl (cO8, 26, .inr (.inr (.inr (.inr fL))))), (rr8, .inl (cI8, 5, .inl (fun _ => 0))), (ff, .inr (13, [tf, .int 0, .int 0, .int 1, .int 0])), (fb, .inr (13, [tb, .int 0, .int 0, .int 1, .int 0])), (lo, .inr (5, [.int 0, .ref (em 0), .int 0])), (od, .inl (cOd, 1, .inr (.inr (.inr (.inl (fun _ => 0)))))), (ou, .inl (cOut, 1, .inr (.inl gOx_4))), (m0, .inr (14, [.ref lc, .ref lp, .ref dl, .ref ff, .ref fb, .ref lw, .ref lo, .ref (em 1), .int tvx_10]))] := hD
    have hK : va_K (dC, dI) vwCl [(cC, (.object "Bothfaces$Card")), (cH, .int), (cO, (.array .int)), (cI, .int), (cT, .int), (cR, .int), (cB0, .int), (cB1, .int), (cB2, .int), (cM, .int), (cO8, (.array .int)), (cI8, .int), (cOd, .double), (cOut, .long)] s := hK
    refine W.widen (k := 148) (n := 2203) (Nat.le_of_ble_eq_true rfl) (Nat.le_of_ble_eq_true rfl) ?_
    have hw : ((y_2.toInt < 0 ∨ 99 < y_2.toInt) → r_9 = 0) ∧ (¬ (y_2.toInt < 0 ∨ 99 < y_2.toInt) → r_9 = 0) := hw
    have hw := hw.1 t_6
    rw [hw]
    obtain rfl : tvx_10 = 1 := f_11 t_6
    refine lv_istore (lv' := [(7, .int 0), (6, .int 1), (5, .int 0), (4, .ref od), (3, .ref ou), (2, .ref m0), (1, .ref x0), (0, .ref b)]) hx hb dL_law_2239 hl (by decide) rfl (fun ls hl => ?_)
    refine lv_aload_n hx hb dL_law_2241 rfl (lv_at hl 5 rfl) ?_
    have hPc := hP.sub (ws' := [(m0, .inr (14, [.ref lc, .ref lp, .ref dl, .ref ff, .ref fb, .ref lw, .ref lo, .ref (em 1), .int 1]))]) [22] rfl
    have hDc := hD.sub (ws' := [(m0, .inr (14, [.ref lc, .ref lp, .ref dl, .ref ff, .ref fb, .ref lw, .ref lo, .ref (em 1), .int 1]))]) [22] (by decide) rfl
    have hKc := hK.sub (tys' := []) [] rfl
    have hFc := va_free (wc := [(m0, .inr (14, [.ref lc, .ref lp, .ref dl, .ref ff, .ref fb, .ref lw, .ref lo, .ref (em 1), .int 1]))]) hD hS hA [22] rfl
    refine va_calli (va_runV (As := []) (rest := []) ⟨hx, hb, hml, hown, hts⟩ (c_X8_thrown l em dC dI m0 1 (.ref lc) (.ref lp) (.ref dl) (.ref ff) (.ref fb) (.ref lw) (.ref lo) (.ref (em 1)) H.size) (cwV 0 hts gT_X8_thrown rfl rfl rfl (by decide +kernel) ⟨Nat.le_of_ble_eq_true rfl, Nat.le_of_ble_eq_true rfl⟩) ⟨Pw.blind _ _ _ _ _ _ _, va_recv hKc hPc (ci := 14) (q0 := 0) rfl rfl, fun U hU hW => ⟨rfl, Pw.go hPc hKc hDc hamb hS hFc hU hW⟩⟩ rfl rfl hl.1 rfl (lv_room (Nat.le_of_ble_eq_true rfl)) dL_law_2242 ⟨Nat.le_of_ble_eq_true rfl, Nat.le_of_ble_eq_true rfl⟩) hS (fun q _ h => hFc q h) hFc (fun r_14 u t H1 locs1 ht hvm hw hB hz1 hk1 hS => ?_)
    obtain ⟨hP, hD⟩ := va_rest (wr := [(ca, .inl (cC, 16, .inr (.inr (.inr (.inr fC))))), (c0, .inr (7, [.ref th, u1, u2, .int 0, .int 0, .int 0, .int 0])), (th, .inl (cH, 4, .inl (fun _ => 0))), (dr, .inl (cO, 26, .inr (.inr (.inr (.inr fD))))), (rr, .inl (cI, 5, .inl (fun _ => 0))), (ty0, .inl (cT, 8, .inl (fun _ => 0))), (sf, .inr (10, [.int 0, sf1, .int 0, .int 0, .int 0, .int 1, .int 0])), (sb, .inr (10, [.int 1, sb1, .int 0, .int 0, .int 0, .int 1, .int 0])), (bk, .inr (6, [.ref a0, .ref a1, .ref a2, .ref mo, .int 0])), (a0, .inl (cB0, 8, .inl (fun _ => 0))), (a1, .inl (cB1, 8, .inl (fun _ => 0))), (a2, .inl (cB2, 8, .inl (fun _ => 0))), (mo, .inl (cM, 256, .inl (fun _ => 0))), (lc, .inr (5, [.int 0, .ref (em 0), .int 0])), (lp, .inr (5, [.int 0, .ref (em 0), .int 0])), (dl, .inl (cO8, 26, .inr (.inr (.inr (.inr fL))))), (rr8, .inl (cI8, 5, .inl (fun _ => 0))), (ff, .inr (13, [tf, .int 0, .int 0, .int 1, .int 0])), (fb, .inr (13, [tb, .int 0, .int 0, .int 1, .int 0])), (lo, .inr (5, [.int 0, .ref (em 0), .int 0])), (od, .inl (cOd, 1, .inr (.inr (.inr (.inl (fun _ => 0)))))), (ou, .inl (cOut, 1, .inr (.inl gOx_4)))]) hP hD [22] [0, 1, 2, 3, 4, 5, 6, 7, 8, 9, 10, 11, 12, 13, 14, 15, 16, 17, 18, 19, 20, 21] rfl rfl (by decide) (by decide) hk1 hFc
    generalize H1 = H at hP hS ⊢
    refine W.widen (k := 148) (n := 2203) (Nat.le_of_ble_eq_true rfl) (Nat.le_of_ble_eq_true rfl) ?_
    have hw : r_14 = 1 := hw
    rw [hw]
    refine lv_iload hx hb dL_law_2245 (lv_at hl 1 rfl) ?_
    refine lv_icmp_eq (tgt := 2252) hx hb dL_law_2247 (by decide) (fun c_15 => ?_) (fun c_15 => ?_)
    · refine lv_iload hx hb dL_law_2252 (lv_at hl 1 rfl) ?_
      refine lv_if_ne (tgt := 2269) hx hb dL_law_2254 (by decide) (fun c_16 => ?_) (fun c_16 => ?_)
      · refine lv_goto (tgt := 2636) hx hb dL_law_2269 (by decide) ?_
        refine lv_iinc (v := 6) (lv' := [(5, .int 6), (7, .int 0), (6, .int 1), (4, .ref od), (3, .ref ou), (2, .ref m0), (1, .ref x0), (0, .ref b)]) hx hb dL_law_2636 hl (k := 2) rfl (by decide) (by decide) rfl (fun ls hl => ?_)
        refine lv_goto (tgt := 28) hx hb dL_law_2639 (by decide) ?_
        refine lv_iload hx hb dL_law_28 (lv_at hl 0 rfl) ?_
        refine lv_aload_n hx hb dL_law_30 rfl (lv_at hl 7 rfl) ?_
        refine va_slen hx hb hX hbl hbA hS dL_law_31 ?_
        refine lv_topi (fun n_17 en_17 => ?_)
        obtain rfl : n_17 = 6 := en_17.trans (by decide)
        refine lv_bipush (v := 6) hx hb dL_law_32 (by decide) ?_
        refine lv_isub hx hb dL_law_34 ?_
        refine lv_topi (fun k_18 ek_18 => ?_)
        obtain rfl : k_18 = 0 := ek_18.trans (by decide)
        refine lv_icmp_gt (tgt := 2642) hx hb dL_law_35 (by decide) (fun c_19 => ?_) (fun c_19 => ?_)
        · refine lv_iconst (v := 1) hx hb dL_law_2642 (by decide) ?_
          refine W.widen (k := 600006) (n := 7302072) (Nat.le_of_ble_eq_true rfl) (Nat.le_of_ble_eq_true rfl) ?_
          refine va_forget hS.2.2 ?_
          refine W.base ?_
          exact lw_ret (Drawn.sameBut.refl s.drawn lw_cs) hx hb hr hlocks dL_law_2643
        · exact absurd (by decide) c_19
      · exact absurd c_16 (by decide)
    · exact absurd (by decide) c_15
  · have hw := hw.2 t_6
    rw [hw]
    refine lv_istore (lv' := [(6, .int 0), (5, .int 0), (4, .ref od), (3, .ref ou), (2, .ref m0), (1, .ref x0), (0, .ref b)]) hx hb dL_law_2227 hl (by decide) rfl (fun ls hl => ?_)
    refine lv_aload_n hx hb dL_law_2229 rfl (lv_at hl 4 rfl) ?_
    refine lv_aload_n hx hb dL_law_2230 rfl (lv_at hl 6 rfl) ?_
    refine lv_iload hx hb dL_law_2231 (lv_at hl 1 rfl) ?_
    refine lv_iconst (v := 1) hx hb dL_law_2233 (by decide) ?_
    refine lv_iadd hx hb dL_law_2234 ?_
    refine lv_topi (fun k_20 ek_20 => ?_)
    obtain rfl : k_20 = 1 := ek_20.trans (by decide)
    refine va_sld hx hb hX hbl hbA hS (vp_in_iff.mpr ⟨by decide, by decide⟩) dL_law_2235 ?_
    refine lv_topi (fun y_21 ey_21 => ?_)
    have ey_21 : y_21 = xs 1 := ey_21
    obtain rfl : y_2 = y_21 := ey_2.trans ey_21.symm
    have hPc := hP.sub (ws' := [(m0, .inr (14, [.ref lc, .ref lp, .ref dl, .ref ff, .ref fb, .ref lw, .ref lo, .ref (em 1), .int 0])), (lw, .inr (5, [.int 0, .ref (em 0), .int 0]))]) [13, 20] rfl
    have hDc := hD.sub (ws' := [(m0, .inr (14, [.ref lc, .ref lp, .ref dl, .ref ff, .ref fb, .ref lw, .ref lo, .ref (em 1), .int 0])), (lw, .inr (5, [.int 0, .ref (em 0), .int 0]))]) [13, 20] (by decide) rfl
    have hKc := hK.sub (tys' := []) [] rfl
    have hFc := va_free (wc := [(m0, .inr (14, [.ref lc, .ref lp, .ref dl, .ref ff, .ref fb, .ref lw, .ref lo, .ref (em 1), .int 0])), (lw, .inr (5, [.int 0, .ref (em 0), .int 0]))]) hD hS hA [13, 20] rfl
    refine va_calli (va_runV (As := [.int y_2]) (rest := []) ⟨hx, hb, hml, hown, hts⟩ (c_X8_weaver l em dC dI m0 y_2 (.ref lc) (.ref lp) (.ref dl) (.ref ff) (.ref fb) (.ref lo) (.ref (em 1)) (.int 0) lw H.size) (cwV 1 hts gT_X8_weaver rfl rfl rfl (by decide +kernel) ⟨Nat.le_of_ble_eq_true rfl, Nat.le_of_ble_eq_true rfl⟩) ⟨Pw.blind _ _ _ _ _ _ _, va_recv hKc hPc (ci := 14) (q0 := 0) rfl rfl, fun U hU hW => ⟨rfl, Pw.go hPc hKc hDc hamb hS hFc hU hW⟩⟩ rfl rfl hl.1 rfl (lv_room (Nat.le_of_ble_eq_true rfl)) dL_law_2236 ⟨Nat.le_of_ble_eq_true rfl, Nat.le_of_ble_eq_true rfl⟩) hS (fun q _ h => hFc q h) hFc (fun r_22 u t H1 locs1 ht hvm hw hB hz1 hk1 hS => ?_)
    obtain ⟨tvx_23, ⟨hP1, hK1, hD1⟩, f_24, f_25⟩ := hB
    rw [ht] at hP1
    have hK1 := va_K.moved hvm.symm hK1
    obtain ⟨hP, hD⟩ := va_join (wr := [(ca, .inl (cC, 16, .inr (.inr (.inr (.inr fC))))), (c0, .inr (7, [.ref th, u1, u2, .int 0, .int 0, .int 0, .int 0])), (th, .inl (cH, 4, .inl (fun _ => 0))), (dr, .inl (cO, 26, .inr (.inr (.inr (.inr fD))))), (rr, .inl (cI, 5, .inl (fun _ => 0))), (ty0, .inl (cT, 8, .inl (fun _ => 0))), (sf, .inr (10, [.int 0, sf1, .int 0, .int 0, .int 0, .int 1, .int 0])), (sb, .inr (10, [.int 1, sb1, .int 0, .int 0, .int 0, .int 1, .int 0])), (bk, .inr (6, [.ref a0, .ref a1, .ref a2, .ref mo, .int 0])), (a0, .inl (cB0, 8, .inl (fun _ => 0))), (a1, .inl (cB1, 8, .inl (fun _ => 0))), (a2, .inl (cB2, 8, .inl (fun _ => 0))), (mo, .inl (cM, 256, .inl (fun _ => 0))), (lc, .inr (5, [.int 0, .ref (em 0), .int 0])), (lp, .inr (5, [.int 0, .ref (em 0), .int 0])), (dl, .inl (cO8, 26, .inr (.inr (.inr (.inr fL))))), (rr8, .inl (cI8, 5, .inl (fun _ => 0))), (ff, .inr (13, [tf, .int 0, .int 0, .int 1, .int 0])), (fb, .inr (13, [tb, .int 0, .int 0, .int 1, .int 0])), (lo, .inr (5, [.int 0, .ref (em 0), .int 0])), (od, .inl (cOd, 1, .inr (.inr (.inr (.inl (fun _ => 0)))))), (ou, .inl (cOut, 1, .inr (.inl gOx_4)))]) (w1 := [(m0, .inr (14, [.ref lc, .ref lp, .ref dl, .ref ff, .ref fb, .ref lw, .ref lo, .ref (em 1), .int tvx_23]))]) hP hD [13, 20] [0, 1, 2, 3, 4, 5, 6, 7, 8, 9, 10, 11, 12, 14, 15, 16, 17, 18, 19, 21, 22, 23] rfl rfl (by decide) (by decide) hk1 hFc hP1 hD1
    have hK := (hK.sub (tys' := [(cC, (.object "Bothfaces$Card")), (cH, .int), (cO, (.array .int)), (cI, .int), (cT, .int), (cR, .int), (cB0, .int), (cB1, .int), (cB2, .int), (cM, .int), (cO8, (.array .int)), (cI8, .int), (cOd, .double), (cOut, .long)]) [0, 1, 2, 3, 4, 5, 6, 7, 8, 9, 10, 11, 12, 13] rfl).app hK1
    generalize H1 = H at hP hS ⊢
    have hP : va_P (dC, dI) vwCl [(ca, .inl (cC, 16, .inr (.inr (.inr (.inr fC))))), (c0, .inr (7, [.ref th, u1, u2, .int 0, .int 0, .int 0, .int 0])), (th, .inl (cH, 4, .inl (fun _ => 0))), (dr, .inl (cO, 26, .inr (.inr (.inr (.inr fD))))), (rr, .inl (cI, 5, .inl (fun _ => 0))), (ty0, .inl (cT, 8, .inl (fun _ => 0))), (sf, .inr (10, [.int 0, sf1, .int 0, .int 0, .int 0, .int 1, .int 0])), (sb, .inr (10, [.int 1, sb1, .int 0, .int 0, .int 0, .int 1, .int 0])), (bk, .inr (6, [.ref a0, .ref a1, .ref a2, .ref mo, .int 0])), (a0, .inl (cB0, 8, .inl (fun _ => 0))), (a1, .inl (cB1, 8, .inl (fun _ => 0))), (a2, .inl (cB2, 8, .inl (fun _ => 0))), (mo, .inl (cM, 256, .inl (fun _ => 0))), (lc, .inr (5, [.int 0, .ref (em 0), .int 0])), (lp, .inr (5, [.int 0, .ref (em 0), .int 0])), (dl, .inl (cO8, 26, .inr (.inr (.inr (.inr fL))))), (rr8, .inl (cI8, 5, .inl (fun _ => 0))), (ff, .inr (13, [tf, .int 0, .int 0, .int 1, .int 0])), (fb, .inr (13, [tb, .int 0, .int 0, .int 1, .int 0])), (lo, .inr (5, [.int 0, .ref (em 0), .int 0])), (od, .inl (cOd, 1, .inr (.inr (.inr (.inl (fun _ => 0)))))), (ou, .inl (cOut, 1, .inr (.inl gOx_4))), (m0, .inr (14, [.ref lc, .ref lp, .ref dl, .ref ff, .ref fb, .ref lw, .ref lo, .ref (em 1), .int tvx_23]))] H := hP
    have hD : va_D (fun q : Nat => s.heap.size ≤ q) [(ca, .inl (cC, 16, .inr (.inr (.inr (.inr fC))))), (c0, .inr (7, [.ref th, u1, u2, .int 0, .int 0, .int 0, .int 0])), (th, .inl (cH, 4, .inl (fun _ => 0))), (dr, .inl (cO, 26, .inr (.inr (.inr (.inr fD))))), (rr, .inl (cI, 5, .inl (fun _ => 0))), (ty0, .inl (cT, 8, .inl (fun _ => 0))), (sf, .inr (10, [.int 0, sf1, .int 0, .int 0, .int 0, .int 1, .int 0])), (sb, .inr (10, [.int 1, sb1, .int 0, .int 0, .int 0, .int 1, .int 0])), (bk, .inr (6, [.ref a0, .ref a1, .ref a2, .ref mo, .int 0])), (a0, .inl (cB0, 8, .inl (fun _ => 0))), (a1, .inl (cB1, 8, .inl (fun _ => 0))), (a2, .inl (cB2, 8, .inl (fun _ => 0))), (mo, .inl (cM, 256, .inl (fun _ => 0))), (lc, .inr (5, [.int 0, .ref (em 0), .int 0])), (lp, .inr (5, [.int 0, .ref (em 0), .int 0])), (dl, .inl (cO8, 26, .inr (.inr (.inr (.inr fL))))), (rr8, .inl (cI8, 5, .inl (fun _ => 0))), (ff, .inr (13, [tf, .int 0, .int 0, .int 1, .int 0])), (fb, .inr (13, [tb, .int 0, .int 0, .int 1, .int 0])), (lo, .inr (5, [.int 0, .ref (em 0), .int 0])), (od, .inl (cOd, 1, .inr (.inr (.inr (.inl (fun _ => 0)))))), (ou, .inl (cOut, 1, .inr (.inl gOx_4))), (m0, .inr (14, [.ref lc, .ref lp, .ref dl, .ref ff, .ref fb, .ref lw, .ref lo, .ref (em 1), .int tvx_23]))] := hD
    have hK : va_K (dC, dI) vwCl [(cC, (.object "Bothfaces$Card")), (cH, .int), (cO, (.array .int)), (cI, .int), (cT, .int), (cR, .int), (cB0, .int), (cB1, .int), (cB2, .int), (cM, .int), (cO8, (.array .int)), (cI8, .int), (cOd, .double), (cOut, .long)] s := hK
    refine W.widen (k := 148) (n := 2203) (Nat.le_of_ble_eq_true rfl) (Nat.le_of_ble_eq_true rfl) ?_
    have hw : ((y_2.toInt < 0 ∨ 99 < y_2.toInt) → r_22 = 0) ∧ (¬ (y_2.toInt < 0 ∨ 99 < y_2.toInt) → r_22 = 0) := hw
    have hw := hw.2 t_6
    rw [hw]
    obtain rfl : tvx_23 = 0 := f_25 t_6
    refine lv_istore (lv' := [(7, .int 0), (6, .int 0), (5, .int 0), (4, .ref od), (3, .ref ou), (2, .ref m0), (1, .ref x0), (0, .ref b)]) hx hb dL_law_2239 hl (by decide) rfl (fun ls hl => ?_)
    refine lv_aload_n hx hb dL_law_2241 rfl (lv_at hl 5 rfl) ?_
    have hPc := hP.sub (ws' := [(m0, .inr (14, [.ref lc, .ref lp, .ref dl, .ref ff, .ref fb, .ref lw, .ref lo, .ref (em 1), .int 0]))]) [22] rfl
    have hDc := hD.sub (ws' := [(m0, .inr (14, [.ref lc, .ref lp, .ref dl, .ref ff, .ref fb, .ref lw, .ref lo, .ref (em 1), .int 0]))]) [22] (by decide) rfl
    have hKc := hK.sub (tys' := []) [] rfl
    have hFc := va_free (wc := [(m0, .inr (14, [.ref lc, .ref lp, .ref dl, .ref ff, .ref fb, .ref lw, .ref lo, .ref (em 1), .int 0]))]) hD hS hA [22] rfl
    refine va_calli (va_runV (As := []) (rest := []) ⟨hx, hb, hml, hown, hts⟩ (c_X8_thrown l em dC dI m0 0 (.ref lc) (.ref lp) (.ref dl) (.ref ff) (.ref fb) (.ref lw) (.ref lo) (.ref (em 1)) H.size) (cwV 0 hts gT_X8_thrown rfl rfl rfl (by decide +kernel) ⟨Nat.le_of_ble_eq_true rfl, Nat.le_of_ble_eq_true rfl⟩) ⟨Pw.blind _ _ _ _ _ _ _, va_recv hKc hPc (ci := 14) (q0 := 0) rfl rfl, fun U hU hW => ⟨rfl, Pw.go hPc hKc hDc hamb hS hFc hU hW⟩⟩ rfl rfl hl.1 rfl (lv_room (Nat.le_of_ble_eq_true rfl)) dL_law_2242 ⟨Nat.le_of_ble_eq_true rfl, Nat.le_of_ble_eq_true rfl⟩) hS (fun q _ h => hFc q h) hFc (fun r_27 u t H1 locs1 ht hvm hw hB hz1 hk1 hS => ?_)
    obtain ⟨hP, hD⟩ := va_rest (wr := [(ca, .inl (cC, 16, .inr (.inr (.inr (.inr fC))))), (c0, .inr (7, [.ref th, u1, u2, .int 0, .int 0, .int 0, .int 0])), (th, .inl (cH, 4, .inl (fun _ => 0))), (dr, .inl (cO, 26, .inr (.inr (.inr (.inr fD))))), (rr, .inl (cI, 5, .inl (fun _ => 0))), (ty0, .inl (cT, 8, .inl (fun _ => 0))), (sf, .inr (10, [.int 0, sf1, .int 0, .int 0, .int 0, .int 1, .int 0])), (sb, .inr (10, [.int 1, sb1, .int 0, .int 0, .int 0, .int 1, .int 0])), (bk, .inr (6, [.ref a0, .ref a1, .ref a2, .ref mo, .int 0])), (a0, .inl (cB0, 8, .inl (fun _ => 0))), (a1, .inl (cB1, 8, .inl (fun _ => 0))), (a2, .inl (cB2, 8, .inl (fun _ => 0))), (mo, .inl (cM, 256, .inl (fun _ => 0))), (lc, .inr (5, [.int 0, .ref (em 0), .int 0])), (lp, .inr (5, [.int 0, .ref (em 0), .int 0])), (dl, .inl (cO8, 26, .inr (.inr (.inr (.inr fL))))), (rr8, .inl (cI8, 5, .inl (fun _ => 0))), (ff, .inr (13, [tf, .int 0, .int 0, .int 1, .int 0])), (fb, .inr (13, [tb, .int 0, .int 0, .int 1, .int 0])), (lo, .inr (5, [.int 0, .ref (em 0), .int 0])), (od, .inl (cOd, 1, .inr (.inr (.inr (.inl (fun _ => 0)))))), (ou, .inl (cOut, 1, .inr (.inl gOx_4)))]) hP hD [22] [0, 1, 2, 3, 4, 5, 6, 7, 8, 9, 10, 11, 12, 13, 14, 15, 16, 17, 18, 19, 20, 21] rfl rfl (by decide) (by decide) hk1 hFc
    generalize H1 = H at hP hS ⊢
    refine W.widen (k := 148) (n := 2203) (Nat.le_of_ble_eq_true rfl) (Nat.le_of_ble_eq_true rfl) ?_
    have hw : r_27 = 0 := hw
    rw [hw]
    refine lv_iload hx hb dL_law_2245 (lv_at hl 1 rfl) ?_
    refine lv_icmp_eq (tgt := 2252) hx hb dL_law_2247 (by decide) (fun c_28 => ?_) (fun c_28 => ?_)
    · refine lv_iload hx hb dL_law_2252 (lv_at hl 1 rfl) ?_
      refine lv_if_ne (tgt := 2269) hx hb dL_law_2254 (by decide) (fun c_29 => ?_) (fun c_29 => ?_)
      · exact absurd (by decide) c_29
      · refine lv_aload_n hx hb dL_law_2257 rfl (lv_at hl 4 rfl) ?_
        refine lv_iconst (v := 0) hx hb dL_law_2258 (by decide) ?_
        refine va_lald hx hb hK hP 21 13 rfl rfl (vp_in_iff.mpr ⟨by decide, by decide⟩) dL_law_2259 ?_
        refine lv_topl (fun k_30 ek_30 => ?_)
        obtain rfl : 0 = k_30 := (ek_30.trans (f_5 t_6)).symm
        refine lv_iload hx hb dL_law_2260 (lv_at hl 0 rfl) ?_
        refine lv_i2l (v := 0) hx hb dL_law_2262 (by decide) ?_
        refine W.lcmp hx hb dL_law_2263 ?_
        refine lv_topi (fun k_31 ek_31 => ?_)
        obtain rfl : k_31 = 0 := ek_31.trans (by decide)
        refine lv_if_eq (tgt := 2269) hx hb dL_law_2264 (by decide) (fun c_32 => ?_) (fun c_32 => ?_)
        · refine lv_goto (tgt := 2636) hx hb dL_law_2269 (by decide) ?_
          refine lv_iinc (v := 6) (lv' := [(5, .int 6), (7, .int 0), (6, .int 0), (4, .ref od), (3, .ref ou), (2, .ref m0), (1, .ref x0), (0, .ref b)]) hx hb dL_law_2636 hl (k := 2) rfl (by decide) (by decide) rfl (fun ls hl => ?_)
          refine lv_goto (tgt := 28) hx hb dL_law_2639 (by decide) ?_
          refine lv_iload hx hb dL_law_28 (lv_at hl 0 rfl) ?_
          refine lv_aload_n hx hb dL_law_30 rfl (lv_at hl 7 rfl) ?_
          refine va_slen hx hb hX hbl hbA hS dL_law_31 ?_
          refine lv_topi (fun n_33 en_33 => ?_)
          obtain rfl : n_33 = 6 := en_33.trans (by decide)
          refine lv_bipush (v := 6) hx hb dL_law_32 (by decide) ?_
          refine lv_isub hx hb dL_law_34 ?_
          refine lv_topi (fun k_34 ek_34 => ?_)
          obtain rfl : k_34 = 0 := ek_34.trans (by decide)
          refine lv_icmp_gt (tgt := 2642) hx hb dL_law_35 (by decide) (fun c_35 => ?_) (fun c_35 => ?_)
          · refine lv_iconst (v := 1) hx hb dL_law_2642 (by decide) ?_
            refine W.widen (k := 600006) (n := 7302072) (Nat.le_of_ble_eq_true rfl) (Nat.le_of_ble_eq_true rfl) ?_
            refine va_forget hS.2.2 ?_
            refine W.base ?_
            exact lw_ret (Drawn.sameBut.refl s.drawn lw_cs) hx hb hr hlocks dL_law_2643
          · exact absurd (by decide) c_35
        · exact absurd (by decide) c_32
    · exact absurd (by decide) c_28

set_option maxHeartbeats 4000000 in
set_option maxRecDepth 100000 in
theorem law_33 {p : Program} {e : Env} {s : State} {m : MethodId} {below : List Frame} {meth : Method} {c : Code} (l : Launch) (hlt : l.stackTraces = false) {b : Nat} {xs : Nat → Int32} (C0 : lw_At p s m meth c b 6 xs) (em : Nat → Nat) (dC : Nat → ClassId) (dI : Nat → Nat → Nat) (j : Nat) (hjj : ∀ z : Int32, z = ((xs 1).toUInt32 % 65536).toInt32 → 97 ≤ z.toInt → z.toInt ≤ 122 → (z - 97).toNatClampNeg = j) (x0 : Nat) (ca : Nat) (dr : Nat) (ty0 : Nat) (sf : Nat) (sb : Nat) (ra0 : Nat) (bk : Nat) (c0 : Nat) (th : Nat) (rr : Nat) (a0 : Nat) (a1 : Nat) (a2 : Nat) (mo : Nat) (vp : Value) (vm : Value) (u1 : Value) (u2 : Value) (sf1 : Value) (sb1 : Value) (fC : Nat → Option Nat) (fD : Nat → Option Nat) (cC : ClassId) (cH : ClassId) (cO : ClassId) (cI : ClassId) (cT : ClassId) (cR : ClassId) (cB0 : ClassId) (cB1 : ClassId) (cB2 : ClassId) (cM : ClassId) (m0 : Nat) (lc : Nat) (lp : Nat) (dl : Nat) (rr8 : Nat) (ff : Nat) (fb : Nat) (lw : Nat) (lo : Nat) (tf : Value) (tb : Value) (fL : Nat → Option Nat) (cO8 : ClassId) (cI8 : ClassId) (ou : Nat) (od : Nat) (cOut : ClassId) (cOd : ClassId) (hfC : fC 0 = some c0) (hfD : fD j = some rr) (hfL : fL j = some rr8) {H : Heap} {locs : List Loc} (hamb : amb em (fun q : Nat => s.heap.size ≤ q) s s.heap) (hK : va_K (dC, dI) vwCl [(cC, (.object "Bothfaces$Card")), (cH, .int), (cO, (.array .int)), (cI, .int), (cT, .int), (cR, .int), (cB0, .int), (cB1, .int), (cB2, .int), (cM, .int), (cO8, (.array .int)), (cI8, .int), (cOut, .long), (cOd, .double)] s) (hP : va_P (dC, dI) vwCl [(x0, .inr (11, [.ref ca, .int 0, .int 0, .ref dr, .ref ty0, .int 0, .ref sf, .ref sb, vp, vm, .ref ra0, .int 0, .ref bk])), (ca, .inl (cC, 16, .inr (.inr (.inr (.inr fC))))), (c0, .inr (7, [.ref th, u1, u2, .int 0, .int 0, .int 0, .int 0])), (th, .inl (cH, 4, .inl (fun _ => 0))), (dr, .inl (cO, 26, .inr (.inr (.inr (.inr fD))))), (rr, .inl (cI, 5, .inl (fun _ => 0))), (ty0, .inl (cT, 8, .inl (fun _ => 0))), (sf, .inr (10, [.int 0, sf1, .int 0, .int 0, .int 0, .int 1, .int 0])), (sb, .inr (10, [.int 1, sb1, .int 0, .int 0, .int 0, .int 1, .int 0])), (ra0, .inl (cR, 6, .inl (fun _ => 0))), (bk, .inr (6, [.ref a0, .ref a1, .ref a2, .ref mo, .int 0])), (a0, .inl (cB0, 8, .inl (fun _ => 0))), (a1, .inl (cB1, 8, .inl (fun _ => 0))), (a2, .inl (cB2, 8, .inl (fun _ => 0))), (mo, .inl (cM, 256, .inl (fun _ => 0))), (m0, .inr (14, [.ref lc, .ref lp, .ref dl, .ref ff, .ref fb, .ref lw, .ref lo, .ref (em 1), .int 0])), (lc, .inr (5, [.int 0, .ref (em 0), .int 0])), (lp, .inr (5, [.int 0, .ref (em 0), .int 0])), (dl, .inl (cO8, 26, .inr (.inr (.inr (.inr fL))))), (rr8, .inl (cI8, 5, .inl (fun _ => 0))), (ff, .inr (13, [tf, .int 0, .int 0, .int 1, .int 0])), (fb, .inr (13, [tb, .int 0, .int 0, .int 1, .int 0])), (lw, .inr (5, [.int 0, .ref (em 0), .int 0])), (lo, .inr (5, [.int 0, .ref (em 0), .int 0])), (ou, .inl (cOut, 1, .inr (.inl (fun _ => 0)))), (od, .inl (cOd, 1, .inr (.inr (.inr (.inl (fun _ => 0))))))] H) (hD : va_D (fun q : Nat => s.heap.size ≤ q) [(x0, .inr (11, [.ref ca, .int 0, .int 0, .ref dr, .ref ty0, .int 0, .ref sf, .ref sb, vp, vm, .ref ra0, .int 0, .ref bk])), (ca, .inl (cC, 16, .inr (.inr (.inr (.inr fC))))), (c0, .inr (7, [.ref th, u1, u2, .int 0, .int 0, .int 0, .int 0])), (th, .inl (cH, 4, .inl (fun _ => 0))), (dr, .inl (cO, 26, .inr (.inr (.inr (.inr fD))))), (rr, .inl (cI, 5, .inl (fun _ => 0))), (ty0, .inl (cT, 8, .inl (fun _ => 0))), (sf, .inr (10, [.int 0, sf1, .int 0, .int 0, .int 0, .int 1, .int 0])), (sb, .inr (10, [.int 1, sb1, .int 0, .int 0, .int 0, .int 1, .int 0])), (ra0, .inl (cR, 6, .inl (fun _ => 0))), (bk, .inr (6, [.ref a0, .ref a1, .ref a2, .ref mo, .int 0])), (a0, .inl (cB0, 8, .inl (fun _ => 0))), (a1, .inl (cB1, 8, .inl (fun _ => 0))), (a2, .inl (cB2, 8, .inl (fun _ => 0))), (mo, .inl (cM, 256, .inl (fun _ => 0))), (m0, .inr (14, [.ref lc, .ref lp, .ref dl, .ref ff, .ref fb, .ref lw, .ref lo, .ref (em 1), .int 0])), (lc, .inr (5, [.int 0, .ref (em 0), .int 0])), (lp, .inr (5, [.int 0, .ref (em 0), .int 0])), (dl, .inl (cO8, 26, .inr (.inr (.inr (.inr fL))))), (rr8, .inl (cI8, 5, .inl (fun _ => 0))), (ff, .inr (13, [tf, .int 0, .int 0, .int 1, .int 0])), (fb, .inr (13, [tb, .int 0, .int 0, .int 1, .int 0])), (lw, .inr (5, [.int 0, .ref (em 0), .int 0])), (lo, .inr (5, [.int 0, .ref (em 0), .int 0])), (ou, .inl (cOut, 1, .inr (.inl (fun _ => 0)))), (od, .inl (cOd, 1, .inr (.inr (.inr (.inl (fun _ => 0))))))]) (hS : va_S (fun q : Nat => s.heap.size ≤ q) s.heap H locs) {ls : Array Slot} (hl : lv_has ls 9 [(5, .int 0), (4, .ref od), (3, .ref ou), (2, .ref m0), (1, .ref x0), (0, .ref b)]) : W p l e room_1 s m #[Value.ref b] below meth c H locs 146 2187 (lw_Z below #[Value.ref b] s) (F0 m 2272 ls []) := by
  obtain ⟨hx, hb, hr, hml, hown0, hts0, hX, hbl, hlocks, hgv⟩ := id C0
  have hts := ow_hts hts0
  have hown : s.vm.findClass RL = some m.cls := hown0
  have hA : ∀ q : Nat, s.heap.size ≤ q → (fun q : Nat => s.heap.size ≤ q) q := fun _ h => h
  have hbA : ¬ (fun q : Nat => s.heap.size ≤ q) b := Nat.not_le.mpr hbl
  refine lv_aload_n hx hb dL_law_2272 rfl (lv_at hl 4 rfl) ?_
  refine lv_aload_n hx hb dL_law_2273 rfl (lv_at hl 2 rfl) ?_
  have hPc := hP.sub (ws' := [(x0, .inr (11, [.ref ca, .int 0, .int 0, .ref dr, .ref ty0, .int 0, .ref sf, .ref sb, vp, vm, .ref ra0, .int 0, .ref bk])), (ou, .inl (cOut, 1, .inr (.inl (fun _ => 0))))]) [0, 24] rfl
  have hDc := hD.sub (ws' := [(x0, .inr (11, [.ref ca, .int 0, .int 0, .ref dr, .ref ty0, .int 0, .ref sf, .ref sb, vp, vm, .ref ra0, .int 0, .ref bk])), (ou, .inl (cOut, 1, .inr (.inl (fun _ => 0))))]) [0, 24] (by decide) rfl
  have hKc := hK.sub (tys' := [(cOut, .long)]) [12] rfl
  have hFc := va_free (wc := [(x0, .inr (11, [.ref ca, .int 0, .int 0, .ref dr, .ref ty0, .int 0, .ref sf, .ref sb, vp, vm, .ref ra0, .int 0, .ref bk])), (ou, .inl (cOut, 1, .inr (.inl (fun _ => 0))))]) hD hS hA [0, 24] rfl
  refine va_calli (vx_runSW (As := [.ref x0, .ref ou]) (rest := []) ⟨hx, hb, hml, hown, hts⟩ (c_L_hand l hlt em dC dI x0 (.ref ca) (.int 0) (.int 0) (.ref dr) (.ref ty0) (.int 0) (.ref sf) (.ref sb) vp vm (.ref ra0) (.ref bk) ou cOut (fun _ => 0) H.size) (vx_cwSW 2 hts gT_L_hand rfl rfl rfl (by decide +kernel) ⟨Nat.le_of_ble_eq_true rfl, Nat.le_of_ble_eq_true rfl⟩) ⟨Pw.blind _ _ _ _ _ _ _, fun U hU hW => ⟨rfl, Pw.go hPc hKc hDc hamb hS hFc hU hW⟩⟩ rfl rfl hl.1 rfl (lv_room (Nat.le_of_ble_eq_true rfl)) dL_law_2274 ⟨Nat.le_of_ble_eq_true rfl, Nat.le_of_ble_eq_true rfl⟩) hS (fun q _ h => hFc q h) hFc (fun r_1 u t H1 locs1 ht hvm hw hB hz1 hk1 hS => ?_)
  obtain ⟨hP1, hK1, hD1⟩ := hB
  rw [ht] at hP1
  have hK1 := va_K.moved hvm.symm hK1
  obtain ⟨hP, hD⟩ := va_join (wr := [(ca, .inl (cC, 16, .inr (.inr (.inr (.inr fC))))), (c0, .inr (7, [.ref th, u1, u2, .int 0, .int 0, .int 0, .int 0])), (th, .inl (cH, 4, .inl (fun _ => 0))), (dr, .inl (cO, 26, .inr (.inr (.inr (.inr fD))))), (rr, .inl (cI, 5, .inl (fun _ => 0))), (ty0, .inl (cT, 8, .inl (fun _ => 0))), (sf, .inr (10, [.int 0, sf1, .int 0, .int 0, .int 0, .int 1, .int 0])), (sb, .inr (10, [.int 1, sb1, .int 0, .int 0, .int 0, .int 1, .int 0])), (ra0, .inl (cR, 6, .inl (fun _ => 0))), (bk, .inr (6, [.ref a0, .ref a1, .ref a2, .ref mo, .int 0])), (a0, .inl (cB0, 8, .inl (fun _ => 0))), (a1, .inl (cB1, 8, .inl (fun _ => 0))), (a2, .inl (cB2, 8, .inl (fun _ => 0))), (mo, .inl (cM, 256, .inl (fun _ => 0))), (m0, .inr (14, [.ref lc, .ref lp, .ref dl, .ref ff, .ref fb, .ref lw, .ref lo, .ref (em 1), .int 0])), (lc, .inr (5, [.int 0, .ref (em 0), .int 0])), (lp, .inr (5, [.int 0, .ref (em 0), .int 0])), (dl, .inl (cO8, 26, .inr (.inr (.inr (.inr fL))))), (rr8, .inl (cI8, 5, .inl (fun _ => 0))), (ff, .inr (13, [tf, .int 0, .int 0, .int 1, .int 0])), (fb, .inr (13, [tb, .int 0, .int 0, .int 1, .int 0])), (lw, .inr (5, [.int 0, .ref (em 0), .int 0])), (lo, .inr (5, [.int 0, .ref (em 0), .int 0])), (od, .inl (cOd, 1, .inr (.inr (.inr (.inl (fun _ => 0))))))]) (w1 := [(ou, .inl (cOut, 1, .inr (.inl (fun _ => 0))))]) hP hD [0, 24] [1, 2, 3, 4, 5, 6, 7, 8, 9, 10, 11, 12, 13, 14, 15, 16, 17, 18, 19, 20, 21, 22, 23, 25] rfl rfl (by decide) (by decide) hk1 hFc hP1 hD1
  have hK := (hK.sub (tys' := [(cC, (.object "Bothfaces$Card")), (cH, .int), (cO, (.array .int)), (cI, .int), (cT, .int), (cR, .int), (cB0, .int), (cB1, .int), (cB2, .int), (cM, .int), (cO8, (.array .int)), (cI8, .int), (cOd, .double)]) [0, 1, 2, 3, 4, 5, 6, 7, 8, 9, 10, 11, 13] rfl).app hK1
  generalize H1 = H at hP hS ⊢
  have hP : va_P (dC, dI) vwCl [(ca, .inl (cC, 16, .inr (.inr (.inr (.inr fC))))), (c0, .inr (7, [.ref th, u1, u2, .int 0, .int 0, .int 0, .int 0])), (th, .inl (cH, 4, .inl (fun _ => 0))), (dr, .inl (cO, 26, .inr (.inr (.inr (.inr fD))))), (rr, .inl (cI, 5, .inl (fun _ => 0))), (ty0, .inl (cT, 8, .inl (fun _ => 0))), (sf, .inr (10, [.int 0, sf1, .int 0, .int 0, .int 0, .int 1, .int 0])), (sb, .inr (10, [.int 1, sb1, .int 0, .int 0, .int 0, .int 1, .int 0])), (ra0, .inl (cR, 6, .inl (fun _ => 0))), (bk, .inr (6, [.ref a0, .ref a1, .ref a2, .ref mo, .int 0])), (a0, .inl (cB0, 8, .inl (fun _ => 0))), (a1, .inl (cB1, 8, .inl (fun _ => 0))), (a2, .inl (cB2, 8, .inl (fun _ => 0))), (mo, .inl (cM, 256, .inl (fun _ => 0))), (m0, .inr (14, [.ref lc, .ref lp, .ref dl, .ref ff, .ref fb, .ref lw, .ref lo, .ref (em 1), .int 0])), (lc, .inr (5, [.int 0, .ref (em 0), .int 0])), (lp, .inr (5, [.int 0, .ref (em 0), .int 0])), (dl, .inl (cO8, 26, .inr (.inr (.inr (.inr fL))))), (rr8, .inl (cI8, 5, .inl (fun _ => 0))), (ff, .inr (13, [tf, .int 0, .int 0, .int 1, .int 0])), (fb, .inr (13, [tb, .int 0, .int 0, .int 1, .int 0])), (lw, .inr (5, [.int 0, .ref (em 0), .int 0])), (lo, .inr (5, [.int 0, .ref (em 0), .int 0])), (od, .inl (cOd, 1, .inr (.inr (.inr (.inl (fun _ => 0)))))), (ou, .inl (cOut, 1, .inr (.inl (fun _ => 0))))] H := hP
  have hD : va_D (fun q : Nat => s.heap.size ≤ q) [(ca, .inl (cC, 16, .inr (.inr (.inr (.inr fC))))), (c0, .inr (7, [.ref th, u1, u2, .int 0, .int 0, .int 0, .int 0])), (th, .inl (cH, 4, .inl (fun _ => 0))), (dr, .inl (cO, 26, .inr (.inr (.inr (.inr fD))))), (rr, .inl (cI, 5, .inl (fun _ => 0))), (ty0, .inl (cT, 8, .inl (fun _ => 0))), (sf, .inr (10, [.int 0, sf1, .int 0, .int 0, .int 0, .int 1, .int 0])), (sb, .inr (10, [.int 1, sb1, .int 0, .int 0, .int 0, .int 1, .int 0])), (ra0, .inl (cR, 6, .inl (fun _ => 0))), (bk, .inr (6, [.ref a0, .ref a1, .ref a2, .ref mo, .int 0])), (a0, .inl (cB0, 8, .inl (fun _ => 0))), (a1, .inl (cB1, 8, .inl (fun _ => 0))), (a2, .inl (cB2, 8, .inl (fun _ => 0))), (mo, .inl (cM, 256, .inl (fun _ => 0))), (m0, .inr (14, [.ref lc, .ref lp, .ref dl, .ref ff, .ref fb, .ref lw, .ref lo, .ref (em 1), .int 0])), (lc, .inr (5, [.int 0, .ref (em 0), .int 0])), (lp, .inr (5, [.int 0, .ref (em 0), .int 0])), (dl, .inl (cO8, 26, .inr (.inr (.inr (.inr fL))))), (rr8, .inl (cI8, 5, .inl (fun _ => 0))), (ff, .inr (13, [tf, .int 0, .int 0, .int 1, .int 0])), (fb, .inr (13, [tb, .int 0, .int 0, .int 1, .int 0])), (lw, .inr (5, [.int 0, .ref (em 0), .int 0])), (lo, .inr (5, [.int 0, .ref (em 0), .int 0])), (od, .inl (cOd, 1, .inr (.inr (.inr (.inl (fun _ => 0)))))), (ou, .inl (cOut, 1, .inr (.inl (fun _ => 0))))] := hD
  have hK : va_K (dC, dI) vwCl [(cC, (.object "Bothfaces$Card")), (cH, .int), (cO, (.array .int)), (cI, .int), (cT, .int), (cR, .int), (cB0, .int), (cB1, .int), (cB2, .int), (cM, .int), (cO8, (.array .int)), (cI8, .int), (cOd, .double), (cOut, .long)] s := hK
  refine W.widen (k := 147) (n := 2193) (Nat.le_of_ble_eq_true rfl) (Nat.le_of_ble_eq_true rfl) ?_
  have hw : r_1 = 1 := hw
  rw [hw]
  refine lv_istore (lv' := [(6, .int 1), (5, .int 0), (4, .ref od), (3, .ref ou), (2, .ref m0), (1, .ref x0), (0, .ref b)]) hx hb dL_law_2277 hl (by decide) rfl (fun ls hl => ?_)
  refine lv_aload_n hx hb dL_law_2279 rfl (lv_at hl 4 rfl) ?_
  have hPc := hP.sub (ws' := [(m0, .inr (14, [.ref lc, .ref lp, .ref dl, .ref ff, .ref fb, .ref lw, .ref lo, .ref (em 1), .int 0])), (lc, .inr (5, [.int 0, .ref (em 0), .int 0])), (lp, .inr (5, [.int 0, .ref (em 0), .int 0])), (lw, .inr (5, [.int 0, .ref (em 0), .int 0]))]) [14, 15, 16, 21] rfl
  have hDc := hD.sub (ws' := [(m0, .inr (14, [.ref lc, .ref lp, .ref dl, .ref ff, .ref fb, .ref lw, .ref lo, .ref (em 1), .int 0])), (lc, .inr (5, [.int 0, .ref (em 0), .int 0])), (lp, .inr (5, [.int 0, .ref (em 0), .int 0])), (lw, .inr (5, [.int 0, .ref (em 0), .int 0]))]) [14, 15, 16, 21] (by decide) rfl
  have hKc := hK.sub (tys' := []) [] rfl
  have hFc := va_free (wc := [(m0, .inr (14, [.ref lc, .ref lp, .ref dl, .ref ff, .ref fb, .ref lw, .ref lo, .ref (em 1), .int 0])), (lc, .inr (5, [.int 0, .ref (em 0), .int 0])), (lp, .inr (5, [.int 0, .ref (em 0), .int 0])), (lw, .inr (5, [.int 0, .ref (em 0), .int 0]))]) hD hS hA [14, 15, 16, 21] rfl
  refine va_calli (va_runV (As := []) (rest := []) ⟨hx, hb, hml, hown, hts⟩ (c_X8_hand l em dC dI m0 (.ref dl) (.ref ff) (.ref fb) (.ref lo) (.ref (em 1)) (.int 0) lc (.ref (em 0)) lp (.ref (em 0)) lw (.ref (em 0)) H.size) (cwV 0 hts gT_X8_hand rfl rfl rfl (by decide +kernel) ⟨Nat.le_of_ble_eq_true rfl, Nat.le_of_ble_eq_true rfl⟩) ⟨Pw.blind _ _ _ _ _ _ _, va_recv hKc hPc (ci := 14) (q0 := 0) rfl rfl, fun U hU hW => ⟨rfl, Pw.go hPc hKc hDc hamb hS hFc hU hW⟩⟩ rfl rfl hl.1 rfl (lv_room (Nat.le_of_ble_eq_true rfl)) dL_law_2280 ⟨Nat.le_of_ble_eq_true rfl, Nat.le_of_ble_eq_true rfl⟩) hS (fun q _ h => hFc q h) hFc (fun r_2 u t H1 locs1 ht hvm hw hB hz1 hk1 hS => ?_)
  obtain ⟨hP1, hK1, hD1⟩ := hB
  rw [ht] at hP1
  have hK1 := va_K.moved hvm.symm hK1
  obtain ⟨hP, hD⟩ := va_join (wr := [(ca, .inl (cC, 16, .inr (.inr (.inr (.inr fC))))), (c0, .inr (7, [.ref th, u1, u2, .int 0, .int 0, .int 0, .int 0])), (th, .inl (cH, 4, .inl (fun _ => 0))), (dr, .inl (cO, 26, .inr (.inr (.inr (.inr fD))))), (rr, .inl (cI, 5, .inl (fun _ => 0))), (ty0, .inl (cT, 8, .inl (fun _ => 0))), (sf, .inr (10, [.int 0, sf1, .int 0, .int 0, .int 0, .int 1, .int 0])), (sb, .inr (10, [.int 1, sb1, .int 0, .int 0, .int 0, .int 1, .int 0])), (ra0, .inl (cR, 6, .inl (fun _ => 0))), (bk, .inr (6, [.ref a0, .ref a1, .ref a2, .ref mo, .int 0])), (a0, .inl (cB0, 8, .inl (fun _ => 0))), (a1, .inl (cB1, 8, .inl (fun _ => 0))), (a2, .inl (cB2, 8, .inl (fun _ => 0))), (mo, .inl (cM, 256, .inl (fun _ => 0))), (dl, .inl (cO8, 26, .inr (.inr (.inr (.inr fL))))), (rr8, .inl (cI8, 5, .inl (fun _ => 0))), (ff, .inr (13, [tf, .int 0, .int 0, .int 1, .int 0])), (fb, .inr (13, [tb, .int 0, .int 0, .int 1, .int 0])), (lo, .inr (5, [.int 0, .ref (em 0), .int 0])), (od, .inl (cOd, 1, .inr (.inr (.inr (.inl (fun _ => 0)))))), (ou, .inl (cOut, 1, .inr (.inl (fun _ => 0))))]) (w1 := [(m0, .inr (14, [.ref lc, .ref lp, .ref dl, .ref ff, .ref fb, .ref lw, .ref lo, .ref (em 1), .int 1]))]) hP hD [14, 15, 16, 21] [0, 1, 2, 3, 4, 5, 6, 7, 8, 9, 10, 11, 12, 13, 17, 18, 19, 20, 22, 23, 24] rfl rfl (by decide) (by decide) hk1 hFc hP1 hD1
  have hK := (hK.sub (tys' := [(cC, (.object "Bothfaces$Card")), (cH, .int), (cO, (.array .int)), (cI, .int), (cT, .int), (cR, .int), (cB0, .int), (cB1, .int), (cB2, .int), (cM, .int), (cO8, (.array .int)), (cI8, .int), (cOd, .double), (cOut, .long)]) [0, 1, 2, 3, 4, 5, 6, 7, 8, 9, 10, 11, 12, 13] rfl).app hK1
  generalize H1 = H at hP hS ⊢
  have hP : va_P (dC, dI) vwCl [(ca, .inl (cC, 16, .inr (.inr (.inr (.inr fC))))), (c0, .inr (7, [.ref th, u1, u2, .int 0, .int 0, .int 0, .int 0])), (th, .inl (cH, 4, .inl (fun _ => 0))), (dr, .inl (cO, 26, .inr (.inr (.inr (.inr fD))))), (rr, .inl (cI, 5, .inl (fun _ => 0))), (ty0, .inl (cT, 8, .inl (fun _ => 0))), (sf, .inr (10, [.int 0, sf1, .int 0, .int 0, .int 0, .int 1, .int 0])), (sb, .inr (10, [.int 1, sb1, .int 0, .int 0, .int 0, .int 1, .int 0])), (ra0, .inl (cR, 6, .inl (fun _ => 0))), (bk, .inr (6, [.ref a0, .ref a1, .ref a2, .ref mo, .int 0])), (a0, .inl (cB0, 8, .inl (fun _ => 0))), (a1, .inl (cB1, 8, .inl (fun _ => 0))), (a2, .inl (cB2, 8, .inl (fun _ => 0))), (mo, .inl (cM, 256, .inl (fun _ => 0))), (dl, .inl (cO8, 26, .inr (.inr (.inr (.inr fL))))), (rr8, .inl (cI8, 5, .inl (fun _ => 0))), (ff, .inr (13, [tf, .int 0, .int 0, .int 1, .int 0])), (fb, .inr (13, [tb, .int 0, .int 0, .int 1, .int 0])), (lo, .inr (5, [.int 0, .ref (em 0), .int 0])), (od, .inl (cOd, 1, .inr (.inr (.inr (.inl (fun _ => 0)))))), (ou, .inl (cOut, 1, .inr (.inl (fun _ => 0)))), (m0, .inr (14, [.ref lc, .ref lp, .ref dl, .ref ff, .ref fb, .ref lw, .ref lo, .ref (em 1), .int 1]))] H := hP
  have hD : va_D (fun q : Nat => s.heap.size ≤ q) [(ca, .inl (cC, 16, .inr (.inr (.inr (.inr fC))))), (c0, .inr (7, [.ref th, u1, u2, .int 0, .int 0, .int 0, .int 0])), (th, .inl (cH, 4, .inl (fun _ => 0))), (dr, .inl (cO, 26, .inr (.inr (.inr (.inr fD))))), (rr, .inl (cI, 5, .inl (fun _ => 0))), (ty0, .inl (cT, 8, .inl (fun _ => 0))), (sf, .inr (10, [.int 0, sf1, .int 0, .int 0, .int 0, .int 1, .int 0])), (sb, .inr (10, [.int 1, sb1, .int 0, .int 0, .int 0, .int 1, .int 0])), (ra0, .inl (cR, 6, .inl (fun _ => 0))), (bk, .inr (6, [.ref a0, .ref a1, .ref a2, .ref mo, .int 0])), (a0, .inl (cB0, 8, .inl (fun _ => 0))), (a1, .inl (cB1, 8, .inl (fun _ => 0))), (a2, .inl (cB2, 8, .inl (fun _ => 0))), (mo, .inl (cM, 256, .inl (fun _ => 0))), (dl, .inl (cO8, 26, .inr (.inr (.inr (.inr fL))))), (rr8, .inl (cI8, 5, .inl (fun _ => 0))), (ff, .inr (13, [tf, .int 0, .int 0, .int 1, .int 0])), (fb, .inr (13, [tb, .int 0, .int 0, .int 1, .int 0])), (lo, .inr (5, [.int 0, .ref (em 0), .int 0])), (od, .inl (cOd, 1, .inr (.inr (.inr (.inl (fun _ => 0)))))), (ou, .inl (cOut, 1, .inr (.inl (fun _ => 0)))), (m0, .inr (14, [.ref lc, .ref lp, .ref dl, .ref ff, .ref fb, .ref lw, .ref lo, .ref (em 1), .int 1]))] := hD
  have hK : va_K (dC, dI) vwCl [(cC, (.object "Bothfaces$Card")), (cH, .int), (cO, (.array .int)), (cI, .int), (cT, .int), (cR, .int), (cB0, .int), (cB1, .int), (cB2, .int), (cM, .int), (cO8, (.array .int)), (cI8, .int), (cOd, .double), (cOut, .long)] s := hK
  refine W.widen (k := 147) (n := 2193) (Nat.le_of_ble_eq_true rfl) (Nat.le_of_ble_eq_true rfl) ?_
  have hw : r_2 = 0 := hw
  rw [hw]
  refine lv_istore (lv' := [(7, .int 0), (6, .int 1), (5, .int 0), (4, .ref od), (3, .ref ou), (2, .ref m0), (1, .ref x0), (0, .ref b)]) hx hb dL_law_2283 hl (by decide) rfl (fun ls hl => ?_)
  refine lv_aload_n hx hb dL_law_2285 rfl (lv_at hl 5 rfl) ?_
  have hPc := hP.sub (ws' := [(m0, .inr (14, [.ref lc, .ref lp, .ref dl, .ref ff, .ref fb, .ref lw, .ref lo, .ref (em 1), .int 1]))]) [21] rfl
  have hDc := hD.sub (ws' := [(m0, .inr (14, [.ref lc, .ref lp, .ref dl, .ref ff, .ref fb, .ref lw, .ref lo, .ref (em 1), .int 1]))]) [21] (by decide) rfl
  have hKc := hK.sub (tys' := []) [] rfl
  have hFc := va_free (wc := [(m0, .inr (14, [.ref lc, .ref lp, .ref dl, .ref ff, .ref fb, .ref lw, .ref lo, .ref (em 1), .int 1]))]) hD hS hA [21] rfl
  refine va_calli (va_runV (As := []) (rest := []) ⟨hx, hb, hml, hown, hts⟩ (c_X8_thrown l em dC dI m0 1 (.ref lc) (.ref lp) (.ref dl) (.ref ff) (.ref fb) (.ref lw) (.ref lo) (.ref (em 1)) H.size) (cwV 0 hts gT_X8_thrown rfl rfl rfl (by decide +kernel) ⟨Nat.le_of_ble_eq_true rfl, Nat.le_of_ble_eq_true rfl⟩) ⟨Pw.blind _ _ _ _ _ _ _, va_recv hKc hPc (ci := 14) (q0 := 0) rfl rfl, fun U hU hW => ⟨rfl, Pw.go hPc hKc hDc hamb hS hFc hU hW⟩⟩ rfl rfl hl.1 rfl (lv_room (Nat.le_of_ble_eq_true rfl)) dL_law_2286 ⟨Nat.le_of_ble_eq_true rfl, Nat.le_of_ble_eq_true rfl⟩) hS (fun q _ h => hFc q h) hFc (fun r_3 u t H1 locs1 ht hvm hw hB hz1 hk1 hS => ?_)
  obtain ⟨hP, hD⟩ := va_rest (wr := [(ca, .inl (cC, 16, .inr (.inr (.inr (.inr fC))))), (c0, .inr (7, [.ref th, u1, u2, .int 0, .int 0, .int 0, .int 0])), (th, .inl (cH, 4, .inl (fun _ => 0))), (dr, .inl (cO, 26, .inr (.inr (.inr (.inr fD))))), (rr, .inl (cI, 5, .inl (fun _ => 0))), (ty0, .inl (cT, 8, .inl (fun _ => 0))), (sf, .inr (10, [.int 0, sf1, .int 0, .int 0, .int 0, .int 1, .int 0])), (sb, .inr (10, [.int 1, sb1, .int 0, .int 0, .int 0, .int 1, .int 0])), (ra0, .inl (cR, 6, .inl (fun _ => 0))), (bk, .inr (6, [.ref a0, .ref a1, .ref a2, .ref mo, .int 0])), (a0, .inl (cB0, 8, .inl (fun _ => 0))), (a1, .inl (cB1, 8, .inl (fun _ => 0))), (a2, .inl (cB2, 8, .inl (fun _ => 0))), (mo, .inl (cM, 256, .inl (fun _ => 0))), (dl, .inl (cO8, 26, .inr (.inr (.inr (.inr fL))))), (rr8, .inl (cI8, 5, .inl (fun _ => 0))), (ff, .inr (13, [tf, .int 0, .int 0, .int 1, .int 0])), (fb, .inr (13, [tb, .int 0, .int 0, .int 1, .int 0])), (lo, .inr (5, [.int 0, .ref (em 0), .int 0])), (od, .inl (cOd, 1, .inr (.inr (.inr (.inl (fun _ => 0)))))), (ou, .inl (cOut, 1, .inr (.inl (fun _ => 0))))]) hP hD [21] [0, 1, 2, 3, 4, 5, 6, 7, 8, 9, 10, 11, 12, 13, 14, 15, 16, 17, 18, 19, 20] rfl rfl (by decide) (by decide) hk1 hFc
  generalize H1 = H at hP hS ⊢
  refine W.widen (k := 147) (n := 2193) (Nat.le_of_ble_eq_true rfl) (Nat.le_of_ble_eq_true rfl) ?_
  have hw : r_3 = 1 := hw
  rw [hw]
  refine lv_iload hx hb dL_law_2289 (lv_at hl 1 rfl) ?_
  refine lv_icmp_eq (tgt := 2296) hx hb dL_law_2291 (by decide) (fun c_4 => ?_) (fun c_4 => ?_)
  · refine lv_iload hx hb dL_law_2296 (lv_at hl 1 rfl) ?_
    refine lv_if_ne (tgt := 2313) hx hb dL_law_2298 (by decide) (fun c_5 => ?_) (fun c_5 => ?_)
    · refine lv_goto (tgt := 2636) hx hb dL_law_2313 (by decide) ?_
      refine lv_iinc (v := 6) (lv' := [(5, .int 6), (7, .int 0), (6, .int 1), (4, .ref od), (3, .ref ou), (2, .ref m0), (1, .ref x0), (0, .ref b)]) hx hb dL_law_2636 hl (k := 2) rfl (by decide) (by decide) rfl (fun ls hl => ?_)
      refine lv_goto (tgt := 28) hx hb dL_law_2639 (by decide) ?_
      refine lv_iload hx hb dL_law_28 (lv_at hl 0 rfl) ?_
      refine lv_aload_n hx hb dL_law_30 rfl (lv_at hl 7 rfl) ?_
      refine va_slen hx hb hX hbl hbA hS dL_law_31 ?_
      refine lv_topi (fun n_6 en_6 => ?_)
      obtain rfl : n_6 = 6 := en_6.trans (by decide)
      refine lv_bipush (v := 6) hx hb dL_law_32 (by decide) ?_
      refine lv_isub hx hb dL_law_34 ?_
      refine lv_topi (fun k_7 ek_7 => ?_)
      obtain rfl : k_7 = 0 := ek_7.trans (by decide)
      refine lv_icmp_gt (tgt := 2642) hx hb dL_law_35 (by decide) (fun c_8 => ?_) (fun c_8 => ?_)
      · refine lv_iconst (v := 1) hx hb dL_law_2642 (by decide) ?_
        refine W.widen (k := 600006) (n := 7302072) (Nat.le_of_ble_eq_true rfl) (Nat.le_of_ble_eq_true rfl) ?_
        refine va_forget hS.2.2 ?_
        refine W.base ?_
        exact lw_ret (Drawn.sameBut.refl s.drawn lw_cs) hx hb hr hlocks dL_law_2643
      · exact absurd (by decide) c_8
    · exact absurd c_5 (by decide)
  · exact absurd (by decide) c_4

set_option maxHeartbeats 4000000 in
set_option maxRecDepth 100000 in
theorem law_34 {p : Program} {e : Env} {s : State} {m : MethodId} {below : List Frame} {meth : Method} {c : Code} (l : Launch) (hlt : l.stackTraces = false) {b : Nat} {xs : Nat → Int32} (C0 : lw_At p s m meth c b 6 xs) (em : Nat → Nat) (dC : Nat → ClassId) (dI : Nat → Nat → Nat) (j : Nat) (hjj : ∀ z : Int32, z = ((xs 1).toUInt32 % 65536).toInt32 → 97 ≤ z.toInt → z.toInt ≤ 122 → (z - 97).toNatClampNeg = j) (x0 : Nat) (ca : Nat) (dr : Nat) (ty0 : Nat) (sf : Nat) (sb : Nat) (ra0 : Nat) (bk : Nat) (c0 : Nat) (th : Nat) (rr : Nat) (a0 : Nat) (a1 : Nat) (a2 : Nat) (mo : Nat) (vp : Value) (vm : Value) (u1 : Value) (u2 : Value) (sf1 : Value) (sb1 : Value) (fC : Nat → Option Nat) (fD : Nat → Option Nat) (cC : ClassId) (cH : ClassId) (cO : ClassId) (cI : ClassId) (cT : ClassId) (cR : ClassId) (cB0 : ClassId) (cB1 : ClassId) (cB2 : ClassId) (cM : ClassId) (m0 : Nat) (lc : Nat) (lp : Nat) (dl : Nat) (rr8 : Nat) (ff : Nat) (fb : Nat) (lw : Nat) (lo : Nat) (tf : Value) (tb : Value) (fL : Nat → Option Nat) (cO8 : ClassId) (cI8 : ClassId) (ou : Nat) (od : Nat) (cOut : ClassId) (cOd : ClassId) (hfC : fC 0 = some c0) (hfD : fD j = some rr) (hfL : fL j = some rr8) {H : Heap} {locs : List Loc} (hamb : amb em (fun q : Nat => s.heap.size ≤ q) s s.heap) (hK : va_K (dC, dI) vwCl [(cC, (.object "Bothfaces$Card")), (cH, .int), (cO, (.array .int)), (cI, .int), (cT, .int), (cR, .int), (cB0, .int), (cB1, .int), (cB2, .int), (cM, .int), (cO8, (.array .int)), (cI8, .int), (cOut, .long), (cOd, .double)] s) (hP : va_P (dC, dI) vwCl [(x0, .inr (11, [.ref ca, .int 0, .int 0, .ref dr, .ref ty0, .int 0, .ref sf, .ref sb, vp, vm, .ref ra0, .int 0, .ref bk])), (ca, .inl (cC, 16, .inr (.inr (.inr (.inr fC))))), (c0, .inr (7, [.ref th, u1, u2, .int 0, .int 0, .int 0, .int 0])), (th, .inl (cH, 4, .inl (fun _ => 0))), (dr, .inl (cO, 26, .inr (.inr (.inr (.inr fD))))), (rr, .inl (cI, 5, .inl (fun _ => 0))), (ty0, .inl (cT, 8, .inl (fun _ => 0))), (sf, .inr (10, [.int 0, sf1, .int 0, .int 0, .int 0, .int 1, .int 0])), (sb, .inr (10, [.int 1, sb1, .int 0, .int 0, .int 0, .int 1, .int 0])), (ra0, .inl (cR, 6, .inl (fun _ => 0))), (bk, .inr (6, [.ref a0, .ref a1, .ref a2, .ref mo, .int 0])), (a0, .inl (cB0, 8, .inl (fun _ => 0))), (a1, .inl (cB1, 8, .inl (fun _ => 0))), (a2, .inl (cB2, 8, .inl (fun _ => 0))), (mo, .inl (cM, 256, .inl (fun _ => 0))), (m0, .inr (14, [.ref lc, .ref lp, .ref dl, .ref ff, .ref fb, .ref lw, .ref lo, .ref (em 1), .int 0])), (lc, .inr (5, [.int 0, .ref (em 0), .int 0])), (lp, .inr (5, [.int 0, .ref (em 0), .int 0])), (dl, .inl (cO8, 26, .inr (.inr (.inr (.inr fL))))), (rr8, .inl (cI8, 5, .inl (fun _ => 0))), (ff, .inr (13, [tf, .int 0, .int 0, .int 1, .int 0])), (fb, .inr (13, [tb, .int 0, .int 0, .int 1, .int 0])), (lw, .inr (5, [.int 0, .ref (em 0), .int 0])), (lo, .inr (5, [.int 0, .ref (em 0), .int 0])), (ou, .inl (cOut, 1, .inr (.inl (fun _ => 0)))), (od, .inl (cOd, 1, .inr (.inr (.inr (.inl (fun _ => 0))))))] H) (hD : va_D (fun q : Nat => s.heap.size ≤ q) [(x0, .inr (11, [.ref ca, .int 0, .int 0, .ref dr, .ref ty0, .int 0, .ref sf, .ref sb, vp, vm, .ref ra0, .int 0, .ref bk])), (ca, .inl (cC, 16, .inr (.inr (.inr (.inr fC))))), (c0, .inr (7, [.ref th, u1, u2, .int 0, .int 0, .int 0, .int 0])), (th, .inl (cH, 4, .inl (fun _ => 0))), (dr, .inl (cO, 26, .inr (.inr (.inr (.inr fD))))), (rr, .inl (cI, 5, .inl (fun _ => 0))), (ty0, .inl (cT, 8, .inl (fun _ => 0))), (sf, .inr (10, [.int 0, sf1, .int 0, .int 0, .int 0, .int 1, .int 0])), (sb, .inr (10, [.int 1, sb1, .int 0, .int 0, .int 0, .int 1, .int 0])), (ra0, .inl (cR, 6, .inl (fun _ => 0))), (bk, .inr (6, [.ref a0, .ref a1, .ref a2, .ref mo, .int 0])), (a0, .inl (cB0, 8, .inl (fun _ => 0))), (a1, .inl (cB1, 8, .inl (fun _ => 0))), (a2, .inl (cB2, 8, .inl (fun _ => 0))), (mo, .inl (cM, 256, .inl (fun _ => 0))), (m0, .inr (14, [.ref lc, .ref lp, .ref dl, .ref ff, .ref fb, .ref lw, .ref lo, .ref (em 1), .int 0])), (lc, .inr (5, [.int 0, .ref (em 0), .int 0])), (lp, .inr (5, [.int 0, .ref (em 0), .int 0])), (dl, .inl (cO8, 26, .inr (.inr (.inr (.inr fL))))), (rr8, .inl (cI8, 5, .inl (fun _ => 0))), (ff, .inr (13, [tf, .int 0, .int 0, .int 1, .int 0])), (fb, .inr (13, [tb, .int 0, .int 0, .int 1, .int 0])), (lw, .inr (5, [.int 0, .ref (em 0), .int 0])), (lo, .inr (5, [.int 0, .ref (em 0), .int 0])), (ou, .inl (cOut, 1, .inr (.inl (fun _ => 0)))), (od, .inl (cOd, 1, .inr (.inr (.inr (.inl (fun _ => 0))))))]) (hS : va_S (fun q : Nat => s.heap.size ≤ q) s.heap H locs) {ls : Array Slot} (hl : lv_has ls 9 [(5, .int 0), (4, .ref od), (3, .ref ou), (2, .ref m0), (1, .ref x0), (0, .ref b)]) : W p l e room_1 s m #[Value.ref b] below meth c H locs 146 2187 (lw_Z below #[Value.ref b] s) (F0 m 2316 ls []) := by
  obtain ⟨hx, hb, hr, hml, hown0, hts0, hX, hbl, hlocks, hgv⟩ := id C0
  have hts := ow_hts hts0
  have hown : s.vm.findClass RL = some m.cls := hown0
  have hA : ∀ q : Nat, s.heap.size ≤ q → (fun q : Nat => s.heap.size ≤ q) q := fun _ h => h
  have hbA : ¬ (fun q : Nat => s.heap.size ≤ q) b := Nat.not_le.mpr hbl
  refine lv_aload_n hx hb dL_law_2316 rfl (lv_at hl 4 rfl) ?_
  refine lv_aload_n hx hb dL_law_2317 rfl (lv_at hl 5 rfl) ?_
  refine lv_iload hx hb dL_law_2318 (lv_at hl 0 rfl) ?_
  refine lv_iconst (v := 1) hx hb dL_law_2320 (by decide) ?_
  refine lv_iadd hx hb dL_law_2321 ?_
  refine lv_topi (fun k_1 ek_1 => ?_)
  obtain rfl : k_1 = 1 := ek_1.trans (by decide)
  refine va_sld hx hb hX hbl hbA hS (vp_in_iff.mpr ⟨by decide, by decide⟩) dL_law_2322 ?_
  refine lv_topi (fun y_2 ey_2 => ?_)
  have ey_2 : y_2 = xs 1 := ey_2
  refine lv_aload_n hx hb dL_law_2323 rfl (lv_at hl 5 rfl) ?_
  refine lv_iload hx hb dL_law_2324 (lv_at hl 0 rfl) ?_
  refine lv_iconst (v := 2) hx hb dL_law_2326 (by decide) ?_
  refine lv_iadd hx hb dL_law_2327 ?_
  refine lv_topi (fun k_3 ek_3 => ?_)
  obtain rfl : k_3 = 2 := ek_3.trans (by decide)
  refine va_sld hx hb hX hbl hbA hS (vp_in_iff.mpr ⟨by decide, by decide⟩) dL_law_2328 ?_
  refine lv_topi (fun y_4 ey_4 => ?_)
  have ey_4 : y_4 = xs 2 := ey_4
  refine lv_aload_n hx hb dL_law_2329 rfl (lv_at hl 5 rfl) ?_
  refine lv_iload hx hb dL_law_2330 (lv_at hl 0 rfl) ?_
  refine lv_iconst (v := 3) hx hb dL_law_2332 (by decide) ?_
  refine lv_iadd hx hb dL_law_2333 ?_
  refine lv_topi (fun k_5 ek_5 => ?_)
  obtain rfl : k_5 = 3 := ek_5.trans (by decide)
  refine va_sld hx hb hX hbl hbA hS (vp_in_iff.mpr ⟨by decide, by decide⟩) dL_law_2334 ?_
  refine lv_topi (fun y_6 ey_6 => ?_)
  have ey_6 : y_6 = xs 3 := ey_6
  refine lv_aload_n hx hb dL_law_2335 rfl (lv_at hl 2 rfl) ?_
  have hPc := hP.sub (ws' := [(x0, .inr (11, [.ref ca, .int 0, .int 0, .ref dr, .ref ty0, .int 0, .ref sf, .ref sb, vp, vm, .ref ra0, .int 0, .ref bk])), (bk, .inr (6, [.ref a0, .ref a1, .ref a2, .ref mo, .int 0])), (a0, .inl (cB0, 8, .inl (fun _ => 0))), (a1, .inl (cB1, 8, .inl (fun _ => 0))), (a2, .inl (cB2, 8, .inl (fun _ => 0))), (ou, .inl (cOut, 1, .inr (.inl (fun _ => 0))))]) [0, 10, 11, 12, 13, 24] rfl
  have hDc := hD.sub (ws' := [(x0, .inr (11, [.ref ca, .int 0, .int 0, .ref dr, .ref ty0, .int 0, .ref sf, .ref sb, vp, vm, .ref ra0, .int 0, .ref bk])), (bk, .inr (6, [.ref a0, .ref a1, .ref a2, .ref mo, .int 0])), (a0, .inl (cB0, 8, .inl (fun _ => 0))), (a1, .inl (cB1, 8, .inl (fun _ => 0))), (a2, .inl (cB2, 8, .inl (fun _ => 0))), (ou, .inl (cOut, 1, .inr (.inl (fun _ => 0))))]) [0, 10, 11, 12, 13, 24] (by decide) rfl
  have hKc := hK.sub (tys' := [(cB0, .int), (cB1, .int), (cB2, .int), (cOut, .long)]) [6, 7, 8, 12] rfl
  have hFc := va_free (wc := [(x0, .inr (11, [.ref ca, .int 0, .int 0, .ref dr, .ref ty0, .int 0, .ref sf, .ref sb, vp, vm, .ref ra0, .int 0, .ref bk])), (bk, .inr (6, [.ref a0, .ref a1, .ref a2, .ref mo, .int 0])), (a0, .inl (cB0, 8, .inl (fun _ => 0))), (a1, .inl (cB1, 8, .inl (fun _ => 0))), (a2, .inl (cB2, 8, .inl (fun _ => 0))), (ou, .inl (cOut, 1, .inr (.inl (fun _ => 0))))]) hD hS hA [0, 10, 11, 12, 13, 24] rfl
  refine va_calli (vx_runSW (As := [.ref x0, .int y_2, .int y_4, .int y_6, .ref ou]) (rest := []) ⟨hx, hb, hml, hown, hts⟩ (c_L_order l hlt em dC dI x0 y_2 y_4 y_6 (.ref ca) (.int 0) (.int 0) (.ref dr) (.ref ty0) (.int 0) (.ref sf) (.ref sb) vp vm (.ref ra0) (.int 0) bk a0 a1 a2 cB0 cB1 cB2 (.ref mo) ou cOut (fun _ => 0) H.size) (vx_cwSW 5 hts gT_L_order rfl rfl rfl (by decide +kernel) ⟨Nat.le_of_ble_eq_true rfl, Nat.le_of_ble_eq_true rfl⟩) ⟨Pw.blind _ _ _ _ _ _ _, fun U hU hW => ⟨rfl, Pw.go hPc hKc hDc hamb hS hFc hU hW⟩⟩ rfl rfl hl.1 rfl (lv_room (Nat.le_of_ble_eq_true rfl)) dL_law_2336 ⟨Nat.le_of_ble_eq_true rfl, Nat.le_of_ble_eq_true rfl⟩) hS (fun q _ h => hFc q h) hFc (fun r_7 u t H1 locs1 ht hvm hw hB hz1 hk1 hS => ?_)
  obtain ⟨gOx_8, ⟨hP1, hK1, hD1⟩, f_9⟩ := hB
  rw [ht] at hP1
  have hK1 := va_K.moved hvm.symm hK1
  obtain ⟨hP, hD⟩ := va_join (wr := [(ca, .inl (cC, 16, .inr (.inr (.inr (.inr fC))))), (c0, .inr (7, [.ref th, u1, u2, .int 0, .int 0, .int 0, .int 0])), (th, .inl (cH, 4, .inl (fun _ => 0))), (dr, .inl (cO, 26, .inr (.inr (.inr (.inr fD))))), (rr, .inl (cI, 5, .inl (fun _ => 0))), (ty0, .inl (cT, 8, .inl (fun _ => 0))), (sf, .inr (10, [.int 0, sf1, .int 0, .int 0, .int 0, .int 1, .int 0])), (sb, .inr (10, [.int 1, sb1, .int 0, .int 0, .int 0, .int 1, .int 0])), (ra0, .inl (cR, 6, .inl (fun _ => 0))), (mo, .inl (cM, 256, .inl (fun _ => 0))), (m0, .inr (14, [.ref lc, .ref lp, .ref dl, .ref ff, .ref fb, .ref lw, .ref lo, .ref (em 1), .int 0])), (lc, .inr (5, [.int 0, .ref (em 0), .int 0])), (lp, .inr (5, [.int 0, .ref (em 0), .int 0])), (dl, .inl (cO8, 26, .inr (.inr (.inr (.inr fL))))), (rr8, .inl (cI8, 5, .inl (fun _ => 0))), (ff, .inr (13, [tf, .int 0, .int 0, .int 1, .int 0])), (fb, .inr (13, [tb, .int 0, .int 0, .int 1, .int 0])), (lw, .inr (5, [.int 0, .ref (em 0), .int 0])), (lo, .inr (5, [.int 0, .ref (em 0), .int 0])), (od, .inl (cOd, 1, .inr (.inr (.inr (.inl (fun _ => 0))))))]) (w1 := [(ou, .inl (cOut, 1, .inr (.inl gOx_8)))]) hP hD [0, 10, 11, 12, 13, 24] [1, 2, 3, 4, 5, 6, 7, 8, 9, 14, 15, 16, 17, 18, 19, 20, 21, 22, 23, 25] rfl rfl (by decide) (by decide) hk1 hFc hP1 hD1
  have hK := (hK.sub (tys' := [(cC, (.object "Bothfaces$Card")), (cH, .int), (cO, (.array .int)), (cI, .int), (cT, .int), (cR, .int), (cB0, .int), (cB1, .int), (cB2, .int), (cM, .int), (cO8, (.array .int)), (cI8, .int), (cOd, .double)]) [0, 1, 2, 3, 4, 5, 6, 7, 8, 9, 10, 11, 13] rfl).app hK1
  generalize H1 = H at hP hS ⊢
  have hP : va_P (dC, dI) vwCl [(ca, .inl (cC, 16, .inr (.inr (.inr (.inr fC))))), (c0, .inr (7, [.ref th, u1, u2, .int 0, .int 0, .int 0, .int 0])), (th, .inl (cH, 4, .inl (fun _ => 0))), (dr, .inl (cO, 26, .inr (.inr (.inr (.inr fD))))), (rr, .inl (cI, 5, .inl (fun _ => 0))), (ty0, .inl (cT, 8, .inl (fun _ => 0))), (sf, .inr (10, [.int 0, sf1, .int 0, .int 0, .int 0, .int 1, .int 0])), (sb, .inr (10, [.int 1, sb1, .int 0, .int 0, .int 0, .int 1, .int 0])), (ra0, .inl (cR, 6, .inl (fun _ => 0))), (mo, .inl (cM, 256, .inl (fun _ => 0))), (m0, .inr (14, [.ref lc, .ref lp, .ref dl, .ref ff, .ref fb, .ref lw, .ref lo, .ref (em 1), .int 0])), (lc, .inr (5, [.int 0, .ref (em 0), .int 0])), (lp, .inr (5, [.int 0, .ref (em 0), .int 0])), (dl, .inl (cO8, 26, .inr (.inr (.inr (.inr fL))))), (rr8, .inl (cI8, 5, .inl (fun _ => 0))), (ff, .inr (13, [tf, .int 0, .int 0, .int 1, .int 0])), (fb, .inr (13, [tb, .int 0, .int 0, .int 1, .int 0])), (lw, .inr (5, [.int 0, .ref (em 0), .int 0])), (lo, .inr (5, [.int 0, .ref (em 0), .int 0])), (od, .inl (cOd, 1, .inr (.inr (.inr (.inl (fun _ => 0)))))), (ou, .inl (cOut, 1, .inr (.inl gOx_8)))] H := hP
  have hD : va_D (fun q : Nat => s.heap.size ≤ q) [(ca, .inl (cC, 16, .inr (.inr (.inr (.inr fC))))), (c0, .inr (7, [.ref th, u1, u2, .int 0, .int 0, .int 0, .int 0])), (th, .inl (cH, 4, .inl (fun _ => 0))), (dr, .inl (cO, 26, .inr (.inr (.inr (.inr fD))))), (rr, .inl (cI, 5, .inl (fun _ => 0))), (ty0, .inl (cT, 8, .inl (fun _ => 0))), (sf, .inr (10, [.int 0, sf1, .int 0, .int 0, .int 0, .int 1, .int 0])), (sb, .inr (10, [.int 1, sb1, .int 0, .int 0, .int 0, .int 1, .int 0])), (ra0, .inl (cR, 6, .inl (fun _ => 0))), (mo, .inl (cM, 256, .inl (fun _ => 0))), (m0, .inr (14, [.ref lc, .ref lp, .ref dl, .ref ff, .ref fb, .ref lw, .ref lo, .ref (em 1), .int 0])), (lc, .inr (5, [.int 0, .ref (em 0), .int 0])), (lp, .inr (5, [.int 0, .ref (em 0), .int 0])), (dl, .inl (cO8, 26, .inr (.inr (.inr (.inr fL))))), (rr8, .inl (cI8, 5, .inl (fun _ => 0))), (ff, .inr (13, [tf, .int 0, .int 0, .int 1, .int 0])), (fb, .inr (13, [tb, .int 0, .int 0, .int 1, .int 0])), (lw, .inr (5, [.int 0, .ref (em 0), .int 0])), (lo, .inr (5, [.int 0, .ref (em 0), .int 0])), (od, .inl (cOd, 1, .inr (.inr (.inr (.inl (fun _ => 0)))))), (ou, .inl (cOut, 1, .inr (.inl gOx_8)))] := hD
  have hK : va_K (dC, dI) vwCl [(cC, (.object "Bothfaces$Card")), (cH, .int), (cO, (.array .int)), (cI, .int), (cT, .int), (cR, .int), (cB0, .int), (cB1, .int), (cB2, .int), (cM, .int), (cO8, (.array .int)), (cI8, .int), (cOd, .double), (cOut, .long)] s := hK
  refine W.widen (k := 147) (n := 2193) (Nat.le_of_ble_eq_true rfl) (Nat.le_of_ble_eq_true rfl) ?_
  have hw : ((y_2.toInt < 1 ∨ 200 < y_2.toInt ∨ y_4.toInt < 1 ∨ 999 < y_4.toInt ∨ y_6.toInt < 1 ∨ 99 < y_6.toInt) → r_7 = 1) ∧ (¬ (y_2.toInt < 1 ∨ 200 < y_2.toInt ∨ y_4.toInt < 1 ∨ 999 < y_4.toInt ∨ y_6.toInt < 1 ∨ 99 < y_6.toInt) → r_7 = 0) := hw
  rcases Classical.em (y_2.toInt < 1 ∨ 200 < y_2.toInt ∨ y_4.toInt < 1 ∨ 999 < y_4.toInt ∨ y_6.toInt < 1 ∨ 99 < y_6.toInt) with t_10 | t_10
  · have hw := hw.1 t_10
    rw [hw]
    refine lv_istore (lv' := [(6, .int 1), (5, .int 0), (4, .ref od), (3, .ref ou), (2, .ref m0), (1, .ref x0), (0, .ref b)]) hx hb dL_law_2339 hl (by decide) rfl (fun ls hl => ?_)
    refine lv_aload_n hx hb dL_law_2341 rfl (lv_at hl 4 rfl) ?_
    refine lv_aload_n hx hb dL_law_2342 rfl (lv_at hl 6 rfl) ?_
    refine lv_iload hx hb dL_law_2343 (lv_at hl 1 rfl) ?_
    refine lv_iconst (v := 1) hx hb dL_law_2345 (by decide) ?_
    refine lv_iadd hx hb dL_law_2346 ?_
    refine lv_topi (fun k_11 ek_11 => ?_)
    obtain rfl : k_11 = 1 := ek_11.trans (by decide)
    refine va_sld hx hb hX hbl hbA hS (vp_in_iff.mpr ⟨by decide, by decide⟩) dL_law_2347 ?_
    refine lv_topi (fun y_12 ey_12 => ?_)
    have ey_12 : y_12 = xs 1 := ey_12
    obtain rfl : y_2 = y_12 := ey_2.trans ey_12.symm
    refine lv_aload_n hx hb dL_law_2348 rfl (lv_at hl 6 rfl) ?_
    refine lv_iload hx hb dL_law_2349 (lv_at hl 1 rfl) ?_
    refine lv_iconst (v := 2) hx hb dL_law_2351 (by decide) ?_
    refine lv_iadd hx hb dL_law_2352 ?_
    refine lv_topi (fun k_13 ek_13 => ?_)
    obtain rfl : k_13 = 2 := ek_13.trans (by decide)
    refine va_sld hx hb hX hbl hbA hS (vp_in_iff.mpr ⟨by decide, by decide⟩) dL_law_2353 ?_
    refine lv_topi (fun y_14 ey_14 => ?_)
    have ey_14 : y_14 = xs 2 := ey_14
    obtain rfl : y_4 = y_14 := ey_4.trans ey_14.symm
    refine lv_aload_n hx hb dL_law_2354 rfl (lv_at hl 6 rfl) ?_
    refine lv_iload hx hb dL_law_2355 (lv_at hl 1 rfl) ?_
    refine lv_iconst (v := 3) hx hb dL_law_2357 (by decide) ?_
    refine lv_iadd hx hb dL_law_2358 ?_
    refine lv_topi (fun k_15 ek_15 => ?_)
    obtain rfl : k_15 = 3 := ek_15.trans (by decide)
    refine va_sld hx hb hX hbl hbA hS (vp_in_iff.mpr ⟨by decide, by decide⟩) dL_law_2359 ?_
    refine lv_topi (fun y_16 ey_16 => ?_)
    have ey_16 : y_16 = xs 3 := ey_16
    obtain rfl : y_6 = y_16 := ey_6.trans ey_16.symm
    have hPc := hP.sub (ws' := [(m0, .inr (14, [.ref lc, .ref lp, .ref dl, .ref ff, .ref fb, .ref lw, .ref lo, .ref (em 1), .int 0])), (lo, .inr (5, [.int 0, .ref (em 0), .int 0]))]) [10, 18] rfl
    have hDc := hD.sub (ws' := [(m0, .inr (14, [.ref lc, .ref lp, .ref dl, .ref ff, .ref fb, .ref lw, .ref lo, .ref (em 1), .int 0])), (lo, .inr (5, [.int 0, .ref (em 0), .int 0]))]) [10, 18] (by decide) rfl
    have hKc := hK.sub (tys' := []) [] rfl
    have hFc := va_free (wc := [(m0, .inr (14, [.ref lc, .ref lp, .ref dl, .ref ff, .ref fb, .ref lw, .ref lo, .ref (em 1), .int 0])), (lo, .inr (5, [.int 0, .ref (em 0), .int 0]))]) hD hS hA [10, 18] rfl
    refine va_calli (va_runV (As := [.int y_2, .int y_4, .int y_6]) (rest := []) ⟨hx, hb, hml, hown, hts⟩ (c_X8_order l em dC dI m0 y_2 y_4 y_6 (.ref lc) (.ref lp) (.ref dl) (.ref ff) (.ref fb) (.ref lw) (.ref (em 1)) (.int 0) lo H.size) (cwV 3 hts gT_X8_order rfl rfl rfl (by decide +kernel) ⟨Nat.le_of_ble_eq_true rfl, Nat.le_of_ble_eq_true rfl⟩) ⟨Pw.blind _ _ _ _ _ _ _, va_recv hKc hPc (ci := 14) (q0 := 0) rfl rfl, fun U hU hW => ⟨rfl, Pw.go hPc hKc hDc hamb hS hFc hU hW⟩⟩ rfl rfl hl.1 rfl (lv_room (Nat.le_of_ble_eq_true rfl)) dL_law_2360 ⟨Nat.le_of_ble_eq_true rfl, Nat.le_of_ble_eq_true rfl⟩) hS (fun q _ h => hFc q h) hFc (fun r_17 u t H1 locs1 ht hvm hw hB hz1 hk1 hS => ?_)
    obtain ⟨tvx_18, ⟨hP1, hK1, hD1⟩, f_19, f_20⟩ := hB
    rw [ht] at hP1
    have hK1 := va_K.moved hvm.symm hK1
    obtain ⟨hP, hD⟩ := va_join (wr := [(ca, .inl (cC, 16, .inr (.inr (.inr (.inr fC))))), (c0, .inr (7, [.ref th, u1, u2, .int 0, .int 0, .int 0, .int 0])), (th, .inl (cH, 4, .inl (fun _ => 0))), (dr, .inl (cO, 26, .inr (.inr (.inr (.inr fD))))), (rr, .inl (cI, 5, .inl (fun _ => 0))), (ty0, .inl (cT, 8, .inl (fun _ => 0))), (sf, .inr (10, [.int 0, sf1, .int 0, .int 0, .int 0, .int 1, .int 0])), (sb, .inr (10, [.int 1, sb1, .int 0, .int 0, .int 0, .int 1, .int 0])), (ra0, .inl (cR, 6, .inl (fun _ => 0))), (mo, .inl (cM, 256, .inl (fun _ => 0))), (lc, .inr (5, [.int 0, .ref (em 0), .int 0])), (lp, .inr (5, [.int 0, .ref (em 0), .int 0])), (dl, .inl (cO8, 26, .inr (.inr (.inr (.inr fL))))), (rr8, .inl (cI8, 5, .inl (fun _ => 0))), (ff, .inr (13, [tf, .int 0, .int 0, .int 1, .int 0])), (fb, .inr (13, [tb, .int 0, .int 0, .int 1, .int 0])), (lw, .inr (5, [.int 0, .ref (em 0), .int 0])), (od, .inl (cOd, 1, .inr (.inr (.inr (.inl (fun _ => 0)))))), (ou, .inl (cOut, 1, .inr (.inl gOx_8)))]) (w1 := [(m0, .inr (14, [.ref lc, .ref lp, .ref dl, .ref ff, .ref fb, .ref lw, .ref lo, .ref (em 1), .int tvx_18]))]) hP hD [10, 18] [0, 1, 2, 3, 4, 5, 6, 7, 8, 9, 11, 12, 13, 14, 15, 16, 17, 19, 20] rfl rfl (by decide) (by decide) hk1 hFc hP1 hD1
    have hK := (hK.sub (tys' := [(cC, (.object "Bothfaces$Card")), (cH, .int), (cO, (.array .int)), (cI, .int), (cT, .int), (cR, .int), (cB0, .int), (cB1, .int), (cB2, .int), (cM, .int), (cO8, (.array .int)), (cI8, .int), (cOd, .double), (cOut, .long)]) [0, 1, 2, 3, 4, 5, 6, 7, 8, 9, 10, 11, 12, 13] rfl).app hK1
    generalize H1 = H at hP hS ⊢
    have hP : va_P (dC, dI) vwCl [(ca, .inl (cC, 16, .inr (.inr (.inr (.inr fC))))), (c0, .inr (7, [.ref th, u1, u2, .int 0, .int 0, .int 0, .int 0])), (th, .inl (cH, 4, .inl (fun _ => 0))), (dr, .inl (cO, 26, .inr (.inr (.inr (.inr fD))))), (rr, .inl (cI, 5, .inl (fun _ => 0))), (ty0, .inl (cT, 8, .inl (fun _ => 0))), (sf, .inr (10, [.int 0, sf1, .int 0, .int 0, .int 0, .int 1, .int 0])), (sb, .inr (10, [.int 1, sb1, .int 0, .int 0, .int 0, .int 1, .int 0])), (ra0, .inl (cR, 6, .inl (fun _ => 0))), (mo, .inl (cM, 256, .inl (fun _ => 0))), (lc, .inr (5, [.int 0, .ref (em 0), .int 0])), (lp, .inr (5, [.int 0, .ref (em 0), .int 0])), (dl, .inl (cO8, 26, .inr (.inr (.inr (.inr fL))))), (rr8, .inl (cI8, 5, .inl (fun _ => 0))), (ff, .inr (13, [tf, .int 0, .int 0, .int 1, .int 0])), (fb, .inr (13, [tb, .int 0, .int 0, .int 1, .int 0])), (lw, .inr (5, [.int 0, .ref (em 0), .int 0])), (od, .inl (cOd, 1, .inr (.inr (.inr (.inl (fun _ => 0)))))), (ou, .inl (cOut, 1, .inr (.inl gOx_8))), (m0, .inr (14, [.ref lc, .ref lp, .ref dl, .ref ff, .ref fb, .ref lw, .ref lo, .ref (em 1), .int tvx_18]))] H := hP
    have hD : va_D (fun q : Nat => s.heap.size ≤ q) [(ca, .inl (cC, 16, .inr (.inr (.inr (.inr fC))))), (c0, .inr (7, [.ref th, u1, u2, .int 0, .int 0, .int 0, .int 0])), (th, .inl (cH, 4, .inl (fun _ => 0))), (dr, .inl (cO, 26, .inr (.inr (.inr (.inr fD))))), (rr, .inl (cI, 5, .inl (fun _ => 0))), (ty0, .inl (cT, 8, .inl (fun _ => 0))), (sf, .inr (10, [.int 0, sf1, .int 0, .int 0, .int 0, .int 1, .int 0])), (sb, .inr (10, [.int 1, sb1, .int 0, .int 0, .int 0, .int 1, .int 0])), (ra0, .inl (cR, 6, .inl (fun _ => 0))), (mo, .inl (cM, 256, .inl (fun _ => 0))), (lc, .inr (5, [.int 0, .ref (em 0), .int 0])), (lp, .inr (5, [.int 0, .ref (em 0), .int 0])), (dl, .inl (cO8, 26, .inr (.inr (.inr (.inr fL))))), (rr8, .inl (cI8, 5, .inl (fun _ => 0))), (ff, .inr (13, [tf, .int 0, .int 0, .int 1, .int 0])), (fb, .inr (13, [tb, .int 0, .int 0, .int 1, .int 0])), (lw, .inr (5, [.int 0, .ref (em 0), .int 0])), (od, .inl (cOd, 1, .inr (.inr (.inr (.inl (fun _ => 0)))))), (ou, .inl (cOut, 1, .inr (.inl gOx_8))), (m0, .inr (14, [.ref lc, .ref lp, .ref dl, .ref ff, .ref fb, .ref lw, .ref lo, .ref (em 1), .int tvx_18]))] := hD
    have hK : va_K (dC, dI) vwCl [(cC, (.object "Bothfaces$Card")), (cH, .int), (cO, (.array .int)), (cI, .int), (cT, .int), (cR, .int), (cB0, .int), (cB1, .int), (cB2, .int), (cM, .int), (cO8, (.array .int)), (cI8, .int), (cOd, .double), (cOut, .long)] s := hK
    refine W.widen (k := 149) (n := 2206) (Nat.le_of_ble_eq_true rfl) (Nat.le_of_ble_eq_true rfl) ?_
    have hw : ((y_2.toInt < 1 ∨ 200 < y_2.toInt ∨ y_4.toInt < 1 ∨ 999 < y_4.toInt ∨ y_6.toInt < 1 ∨ 99 < y_6.toInt) → r_17 = 0) ∧ (¬ (y_2.toInt < 1 ∨ 200 < y_2.toInt ∨ y_4.toInt < 1 ∨ 999 < y_4.toInt ∨ y_6.toInt < 1 ∨ 99 < y_6.toInt) → r_17 = 0) := hw
    have hw := hw.1 t_10
    rw [hw]
    obtain rfl : tvx_18 = 1 := f_19 t_10
    refine lv_istore (lv' := [(7, .int 0), (6, .int 1), (5, .int 0), (4, .ref od), (3, .ref ou), (2, .ref m0), (1, .ref x0), (0, .ref b)]) hx hb dL_law_2363 hl (by decide) rfl (fun ls hl => ?_)
    refine lv_aload_n hx hb dL_law_2365 rfl (lv_at hl 5 rfl) ?_
    have hPc := hP.sub (ws' := [(m0, .inr (14, [.ref lc, .ref lp, .ref dl, .ref ff, .ref fb, .ref lw, .ref lo, .ref (em 1), .int 1]))]) [19] rfl
    have hDc := hD.sub (ws' := [(m0, .inr (14, [.ref lc, .ref lp, .ref dl, .ref ff, .ref fb, .ref lw, .ref lo, .ref (em 1), .int 1]))]) [19] (by decide) rfl
    have hKc := hK.sub (tys' := []) [] rfl
    have hFc := va_free (wc := [(m0, .inr (14, [.ref lc, .ref lp, .ref dl, .ref ff, .ref fb, .ref lw, .ref lo, .ref (em 1), .int 1]))]) hD hS hA [19] rfl
    refine va_calli (va_runV (As := []) (rest := []) ⟨hx, hb, hml, hown, hts⟩ (c_X8_thrown l em dC dI m0 1 (.ref lc) (.ref lp) (.ref dl) (.ref ff) (.ref fb) (.ref lw) (.ref lo) (.ref (em 1)) H.size) (cwV 0 hts gT_X8_thrown rfl rfl rfl (by decide +kernel) ⟨Nat.le_of_ble_eq_true rfl, Nat.le_of_ble_eq_true rfl⟩) ⟨Pw.blind _ _ _ _ _ _ _, va_recv hKc hPc (ci := 14) (q0 := 0) rfl rfl, fun U hU hW => ⟨rfl, Pw.go hPc hKc hDc hamb hS hFc hU hW⟩⟩ rfl rfl hl.1 rfl (lv_room (Nat.le_of_ble_eq_true rfl)) dL_law_2366 ⟨Nat.le_of_ble_eq_true rfl, Nat.le_of_ble_eq_true rfl⟩) hS (fun q _ h => hFc q h) hFc (fun r_22 u t H1 locs1 ht hvm hw hB hz1 hk1 hS => ?_)
    obtain ⟨hP, hD⟩ := va_rest (wr := [(ca, .inl (cC, 16, .inr (.inr (.inr (.inr fC))))), (c0, .inr (7, [.ref th, u1, u2, .int 0, .int 0, .int 0, .int 0])), (th, .inl (cH, 4, .inl (fun _ => 0))), (dr, .inl (cO, 26, .inr (.inr (.inr (.inr fD))))), (rr, .inl (cI, 5, .inl (fun _ => 0))), (ty0, .inl (cT, 8, .inl (fun _ => 0))), (sf, .inr (10, [.int 0, sf1, .int 0, .int 0, .int 0, .int 1, .int 0])), (sb, .inr (10, [.int 1, sb1, .int 0, .int 0, .int 0, .int 1, .int 0])), (ra0, .inl (cR, 6, .inl (fun _ => 0))), (mo, .inl (cM, 256, .inl (fun _ => 0))), (lc, .inr (5, [.int 0, .ref (em 0), .int 0])), (lp, .inr (5, [.int 0, .ref (em 0), .int 0])), (dl, .inl (cO8, 26, .inr (.inr (.inr (.inr fL))))), (rr8, .inl (cI8, 5, .inl (fun _ => 0))), (ff, .inr (13, [tf, .int 0, .int 0, .int 1, .int 0])), (fb, .inr (13, [tb, .int 0, .int 0, .int 1, .int 0])), (lw, .inr (5, [.int 0, .ref (em 0), .int 0])), (od, .inl (cOd, 1, .inr (.inr (.inr (.inl (fun _ => 0)))))), (ou, .inl (cOut, 1, .inr (.inl gOx_8)))]) hP hD [19] [0, 1, 2, 3, 4, 5, 6, 7, 8, 9, 10, 11, 12, 13, 14, 15, 16, 17, 18] rfl rfl (by decide) (by decide) hk1 hFc
    generalize H1 = H at hP hS ⊢
    refine W.widen (k := 149) (n := 2206) (Nat.le_of_ble_eq_true rfl) (Nat.le_of_ble_eq_true rfl) ?_
    have hw : r_22 = 1 := hw
    rw [hw]
    refine lv_iload hx hb dL_law_2369 (lv_at hl 1 rfl) ?_
    refine lv_icmp_eq (tgt := 2376) hx hb dL_law_2371 (by decide) (fun c_23 => ?_) (fun c_23 => ?_)
    · refine lv_iload hx hb dL_law_2376 (lv_at hl 1 rfl) ?_
      refine lv_if_ne (tgt := 2393) hx hb dL_law_2378 (by decide) (fun c_24 => ?_) (fun c_24 => ?_)
      · refine lv_goto (tgt := 2636) hx hb dL_law_2393 (by decide) ?_
        refine lv_iinc (v := 6) (lv' := [(5, .int 6), (7, .int 0), (6, .int 1), (4, .ref od), (3, .ref ou), (2, .ref m0), (1, .ref x0), (0, .ref b)]) hx hb dL_law_2636 hl (k := 2) rfl (by decide) (by decide) rfl (fun ls hl => ?_)
        refine lv_goto (tgt := 28) hx hb dL_law_2639 (by decide) ?_
        refine lv_iload hx hb dL_law_28 (lv_at hl 0 rfl) ?_
        refine lv_aload_n hx hb dL_law_30 rfl (lv_at hl 7 rfl) ?_
        refine va_slen hx hb hX hbl hbA hS dL_law_31 ?_
        refine lv_topi (fun n_25 en_25 => ?_)
        obtain rfl : n_25 = 6 := en_25.trans (by decide)
        refine lv_bipush (v := 6) hx hb dL_law_32 (by decide) ?_
        refine lv_isub hx hb dL_law_34 ?_
        refine lv_topi (fun k_26 ek_26 => ?_)
        obtain rfl : k_26 = 0 := ek_26.trans (by decide)
        refine lv_icmp_gt (tgt := 2642) hx hb dL_law_35 (by decide) (fun c_27 => ?_) (fun c_27 => ?_)
        · refine lv_iconst (v := 1) hx hb dL_law_2642 (by decide) ?_
          refine W.widen (k := 600006) (n := 7302072) (Nat.le_of_ble_eq_true rfl) (Nat.le_of_ble_eq_true rfl) ?_
          refine va_forget hS.2.2 ?_
          refine W.base ?_
          exact lw_ret (Drawn.sameBut.refl s.drawn lw_cs) hx hb hr hlocks dL_law_2643
        · exact absurd (by decide) c_27
      · exact absurd c_24 (by decide)
    · exact absurd (by decide) c_23
  · have hw := hw.2 t_10
    rw [hw]
    refine lv_istore (lv' := [(6, .int 0), (5, .int 0), (4, .ref od), (3, .ref ou), (2, .ref m0), (1, .ref x0), (0, .ref b)]) hx hb dL_law_2339 hl (by decide) rfl (fun ls hl => ?_)
    refine lv_aload_n hx hb dL_law_2341 rfl (lv_at hl 4 rfl) ?_
    refine lv_aload_n hx hb dL_law_2342 rfl (lv_at hl 6 rfl) ?_
    refine lv_iload hx hb dL_law_2343 (lv_at hl 1 rfl) ?_
    refine lv_iconst (v := 1) hx hb dL_law_2345 (by decide) ?_
    refine lv_iadd hx hb dL_law_2346 ?_
    refine lv_topi (fun k_28 ek_28 => ?_)
    obtain rfl : k_28 = 1 := ek_28.trans (by decide)
    refine va_sld hx hb hX hbl hbA hS (vp_in_iff.mpr ⟨by decide, by decide⟩) dL_law_2347 ?_
    refine lv_topi (fun y_29 ey_29 => ?_)
    have ey_29 : y_29 = xs 1 := ey_29
    obtain rfl : y_2 = y_29 := ey_2.trans ey_29.symm
    refine lv_aload_n hx hb dL_law_2348 rfl (lv_at hl 6 rfl) ?_
    refine lv_iload hx hb dL_law_2349 (lv_at hl 1 rfl) ?_
    refine lv_iconst (v := 2) hx hb dL_law_2351 (by decide) ?_
    refine lv_iadd hx hb dL_law_2352 ?_
    refine lv_topi (fun k_30 ek_30 => ?_)
    obtain rfl : k_30 = 2 := ek_30.trans (by decide)
    refine va_sld hx hb hX hbl hbA hS (vp_in_iff.mpr ⟨by decide, by decide⟩) dL_law_2353 ?_
    refine lv_topi (fun y_31 ey_31 => ?_)
    have ey_31 : y_31 = xs 2 := ey_31
    obtain rfl : y_4 = y_31 := ey_4.trans ey_31.symm
    refine lv_aload_n hx hb dL_law_2354 rfl (lv_at hl 6 rfl) ?_
    refine lv_iload hx hb dL_law_2355 (lv_at hl 1 rfl) ?_
    refine lv_iconst (v := 3) hx hb dL_law_2357 (by decide) ?_
    refine lv_iadd hx hb dL_law_2358 ?_
    refine lv_topi (fun k_32 ek_32 => ?_)
    obtain rfl : k_32 = 3 := ek_32.trans (by decide)
    refine va_sld hx hb hX hbl hbA hS (vp_in_iff.mpr ⟨by decide, by decide⟩) dL_law_2359 ?_
    refine lv_topi (fun y_33 ey_33 => ?_)
    have ey_33 : y_33 = xs 3 := ey_33
    obtain rfl : y_6 = y_33 := ey_6.trans ey_33.symm
    have hPc := hP.sub (ws' := [(m0, .inr (14, [.ref lc, .ref lp, .ref dl, .ref ff, .ref fb, .ref lw, .ref lo, .ref (em 1), .int 0])), (lo, .inr (5, [.int 0, .ref (em 0), .int 0]))]) [10, 18] rfl
    have hDc := hD.sub (ws' := [(m0, .inr (14, [.ref lc, .ref lp, .ref dl, .ref ff, .ref fb, .ref lw, .ref lo, .ref (em 1), .int 0])), (lo, .inr (5, [.int 0, .ref (em 0), .int 0]))]) [10, 18] (by decide) rfl
    have hKc := hK.sub (tys' := []) [] rfl
    have hFc := va_free (wc := [(m0, .inr (14, [.ref lc, .ref lp, .ref dl, .ref ff, .ref fb, .ref lw, .ref lo, .ref (em 1), .int 0])), (lo, .inr (5, [.int 0, .ref (em 0), .int 0]))]) hD hS hA [10, 18] rfl
    refine va_calli (va_runV (As := [.int y_2, .int y_4, .int y_6]) (rest := []) ⟨hx, hb, hml, hown, hts⟩ (c_X8_order l em dC dI m0 y_2 y_4 y_6 (.ref lc) (.ref lp) (.ref dl) (.ref ff) (.ref fb) (.ref lw) (.ref (em 1)) (.int 0) lo H.size) (cwV 3 hts gT_X8_order rfl rfl rfl (by decide +kernel) ⟨Nat.le_of_ble_eq_true rfl, Nat.le_of_ble_eq_true rfl⟩) ⟨Pw.blind _ _ _ _ _ _ _, va_recv hKc hPc (ci := 14) (q0 := 0) rfl rfl, fun U hU hW => ⟨rfl, Pw.go hPc hKc hDc hamb hS hFc hU hW⟩⟩ rfl rfl hl.1 rfl (lv_room (Nat.le_of_ble_eq_true rfl)) dL_law_2360 ⟨Nat.le_of_ble_eq_true rfl, Nat.le_of_ble_eq_true rfl⟩) hS (fun q _ h => hFc q h) hFc (fun r_34 u t H1 locs1 ht hvm hw hB hz1 hk1 hS => ?_)
    obtain ⟨tvx_35, ⟨hP1, hK1, hD1⟩, f_36, f_37⟩ := hB
    rw [ht] at hP1
    have hK1 := va_K.moved hvm.symm hK1
    obtain ⟨hP, hD⟩ := va_join (wr := [(ca, .inl (cC, 16, .inr (.inr (.inr (.inr fC))))), (c0, .inr (7, [.ref th, u1, u2, .int 0, .int 0, .int 0, .int 0])), (th, .inl (cH, 4, .inl (fun _ => 0))), (dr, .inl (cO, 26, .inr (.inr (.inr (.inr fD))))), (rr, .inl (cI, 5, .inl (fun _ => 0))), (ty0, .inl (cT, 8, .inl (fun _ => 0))), (sf, .inr (10, [.int 0, sf1, .int 0, .int 0, .int 0, .int 1, .int 0])), (sb, .inr (10, [.int 1, sb1, .int 0, .int 0, .int 0, .int 1, .int 0])), (ra0, .inl (cR, 6, .inl (fun _ => 0))), (mo, .inl (cM, 256, .inl (fun _ => 0))), (lc, .inr (5, [.int 0, .ref (em 0), .int 0])), (lp, .inr (5, [.int 0, .ref (em 0), .int 0])), (dl, .inl (cO8, 26, .inr (.inr (.inr (.inr fL))))), (rr8, .inl (cI8, 5, .inl (fun _ => 0))), (ff, .inr (13, [tf, .int 0, .int 0, .int 1, .int 0])), (fb, .inr (13, [tb, .int 0, .int 0, .int 1, .int 0])), (lw, .inr (5, [.int 0, .ref (em 0), .int 0])), (od, .inl (cOd, 1, .inr (.inr (.inr (.inl (fun _ => 0)))))), (ou, .inl (cOut, 1, .inr (.inl gOx_8)))]) (w1 := [(m0, .inr (14, [.ref lc, .ref lp, .ref dl, .ref ff, .ref fb, .ref lw, .ref lo, .ref (em 1), .int tvx_35]))]) hP hD [10, 18] [0, 1, 2, 3, 4, 5, 6, 7, 8, 9, 11, 12, 13, 14, 15, 16, 17, 19, 20] rfl rfl (by decide) (by decide) hk1 hFc hP1 hD1
    have hK := (hK.sub (tys' := [(cC, (.object "Bothfaces$Card")), (cH, .int), (cO, (.array .int)), (cI, .int), (cT, .int), (cR, .int), (cB0, .int), (cB1, .int), (cB2, .int), (cM, .int), (cO8, (.array .int)), (cI8, .int), (cOd, .double), (cOut, .long)]) [0, 1, 2, 3, 4, 5, 6, 7, 8, 9, 10, 11, 12, 13] rfl).app hK1
    generalize H1 = H at hP hS ⊢
    have hP : va_P (dC, dI) vwCl [(ca, .inl (cC, 16, .inr (.inr (.inr (.inr fC))))), (c0, .inr (7, [.ref th, u1, u2, .int 0, .int 0, .int 0, .int 0])), (th, .inl (cH, 4, .inl (fun _ => 0))), (dr, .inl (cO, 26, .inr (.inr (.inr (.inr fD))))), (rr, .inl (cI, 5, .inl (fun _ => 0))), (ty0, .inl (cT, 8, .inl (fun _ => 0))), (sf, .inr (10, [.int 0, sf1, .int 0, .int 0, .int 0, .int 1, .int 0])), (sb, .inr (10, [.int 1, sb1, .int 0, .int 0, .int 0, .int 1, .int 0])), (ra0, .inl (cR, 6, .inl (fun _ => 0))), (mo, .inl (cM, 256, .inl (fun _ => 0))), (lc, .inr (5, [.int 0, .ref (em 0), .int 0])), (lp, .inr (5, [.int 0, .ref (em 0), .int 0])), (dl, .inl (cO8, 26, .inr (.inr (.inr (.inr fL))))), (rr8, .inl (cI8, 5, .inl (fun _ => 0))), (ff, .inr (13, [tf, .int 0, .int 0, .int 1, .int 0])), (fb, .inr (13, [tb, .int 0, .int 0, .int 1, .int 0])), (lw, .inr (5, [.int 0, .ref (em 0), .int 0])), (od, .inl (cOd, 1, .inr (.inr (.inr (.inl (fun _ => 0)))))), (ou, .inl (cOut, 1, .inr (.inl gOx_8))), (m0, .inr (14, [.ref lc, .ref lp, .ref dl, .ref ff, .ref fb, .ref lw, .ref lo, .ref (em 1), .int tvx_35]))] H := hP
    have hD : va_D (fun q : Nat => s.heap.size ≤ q) [(ca, .inl (cC, 16, .inr (.inr (.inr (.inr fC))))), (c0, .inr (7, [.ref th, u1, u2, .int 0, .int 0, .int 0, .int 0])), (th, .inl (cH, 4, .inl (fun _ => 0))), (dr, .inl (cO, 26, .inr (.inr (.inr (.inr fD))))), (rr, .inl (cI, 5, .inl (fun _ => 0))), (ty0, .inl (cT, 8, .inl (fun _ => 0))), (sf, .inr (10, [.int 0, sf1, .int 0, .int 0, .int 0, .int 1, .int 0])), (sb, .inr (10, [.int 1, sb1, .int 0, .int 0, .int 0, .int 1, .int 0])), (ra0, .inl (cR, 6, .inl (fun _ => 0))), (mo, .inl (cM, 256, .inl (fun _ => 0))), (lc, .inr (5, [.int 0, .ref (em 0), .int 0])), (lp, .inr (5, [.int 0, .ref (em 0), .int 0])), (dl, .inl (cO8, 26, .inr (.inr (.inr (.inr fL))))), (rr8, .inl (cI8, 5, .inl (fun _ => 0))), (ff, .inr (13, [tf, .int 0, .int 0, .int 1, .int 0])), (fb, .inr (13, [tb, .int 0, .int 0, .int 1, .int 0])), (lw, .inr (5, [.int 0, .ref (em 0), .int 0])), (od, .inl (cOd, 1, .inr (.inr (.inr (.inl (fun _ => 0)))))), (ou, .inl (cOut, 1, .inr (.inl gOx_8))), (m0, .inr (14, [.ref lc, .ref lp, .ref dl, .ref ff, .ref fb, .ref lw, .ref lo, .ref (em 1), .int tvx_35]))] := hD
    have hK : va_K (dC, dI) vwCl [(cC, (.object "Bothfaces$Card")), (cH, .int), (cO, (.array .int)), (cI, .int), (cT, .int), (cR, .int), (cB0, .int), (cB1, .int), (cB2, .int), (cM, .int), (cO8, (.array .int)), (cI8, .int), (cOd, .double), (cOut, .long)] s := hK
    refine W.widen (k := 149) (n := 2206) (Nat.le_of_ble_eq_true rfl) (Nat.le_of_ble_eq_true rfl) ?_
    have hw : ((y_2.toInt < 1 ∨ 200 < y_2.toInt ∨ y_4.toInt < 1 ∨ 999 < y_4.toInt ∨ y_6.toInt < 1 ∨ 99 < y_6.toInt) → r_34 = 0) ∧ (¬ (y_2.toInt < 1 ∨ 200 < y_2.toInt ∨ y_4.toInt < 1 ∨ 999 < y_4.toInt ∨ y_6.toInt < 1 ∨ 99 < y_6.toInt) → r_34 = 0) := hw
    have hw := hw.2 t_10
    rw [hw]
    obtain rfl : tvx_35 = 0 := f_37 t_10
    refine lv_istore (lv' := [(7, .int 0), (6, .int 0), (5, .int 0), (4, .ref od), (3, .ref ou), (2, .ref m0), (1, .ref x0), (0, .ref b)]) hx hb dL_law_2363 hl (by decide) rfl (fun ls hl => ?_)
    refine lv_aload_n hx hb dL_law_2365 rfl (lv_at hl 5 rfl) ?_
    have hPc := hP.sub (ws' := [(m0, .inr (14, [.ref lc, .ref lp, .ref dl, .ref ff, .ref fb, .ref lw, .ref lo, .ref (em 1), .int 0]))]) [19] rfl
    have hDc := hD.sub (ws' := [(m0, .inr (14, [.ref lc, .ref lp, .ref dl, .ref ff, .ref fb, .ref lw, .ref lo, .ref (em 1), .int 0]))]) [19] (by decide) rfl
    have hKc := hK.sub (tys' := []) [] rfl
    have hFc := va_free (wc := [(m0, .inr (14, [.ref lc, .ref lp, .ref dl, .ref ff, .ref fb, .ref lw, .ref lo, .ref (em 1), .int 0]))]) hD hS hA [19] rfl
    refine va_calli (va_runV (As := []) (rest := []) ⟨hx, hb, hml, hown, hts⟩ (c_X8_thrown l em dC dI m0 0 (.ref lc) (.ref lp) (.ref dl) (.ref ff) (.ref fb) (.ref lw) (.ref lo) (.ref (em 1)) H.size) (cwV 0 hts gT_X8_thrown rfl rfl rfl (by decide +kernel) ⟨Nat.le_of_ble_eq_true rfl, Nat.le_of_ble_eq_true rfl⟩) ⟨Pw.blind _ _ _ _ _ _ _, va_recv hKc hPc (ci := 14) (q0 := 0) rfl rfl, fun U hU hW => ⟨rfl, Pw.go hPc hKc hDc hamb hS hFc hU hW⟩⟩ rfl rfl hl.1 rfl (lv_room (Nat.le_of_ble_eq_true rfl)) dL_law_2366 ⟨Nat.le_of_ble_eq_true rfl, Nat.le_of_ble_eq_true rfl⟩) hS (fun q _ h => hFc q h) hFc (fun r_39 u t H1 locs1 ht hvm hw hB hz1 hk1 hS => ?_)
    obtain ⟨hP, hD⟩ := va_rest (wr := [(ca, .inl (cC, 16, .inr (.inr (.inr (.inr fC))))), (c0, .inr (7, [.ref th, u1, u2, .int 0, .int 0, .int 0, .int 0])), (th, .inl (cH, 4, .inl (fun _ => 0))), (dr, .inl (cO, 26, .inr (.inr (.inr (.inr fD))))), (rr, .inl (cI, 5, .inl (fun _ => 0))), (ty0, .inl (cT, 8, .inl (fun _ => 0))), (sf, .inr (10, [.int 0, sf1, .int 0, .int 0, .int 0, .int 1, .int 0])), (sb, .inr (10, [.int 1, sb1, .int 0, .int 0, .int 0, .int 1, .int 0])), (ra0, .inl (cR, 6, .inl (fun _ => 0))), (mo, .inl (cM, 256, .inl (fun _ => 0))), (lc, .inr (5, [.int 0, .ref (em 0), .int 0])), (lp, .inr (5, [.int 0, .ref (em 0), .int 0])), (dl, .inl (cO8, 26, .inr (.inr (.inr (.inr fL))))), (rr8, .inl (cI8, 5, .inl (fun _ => 0))), (ff, .inr (13, [tf, .int 0, .int 0, .int 1, .int 0])), (fb, .inr (13, [tb, .int 0, .int 0, .int 1, .int 0])), (lw, .inr (5, [.int 0, .ref (em 0), .int 0])), (od, .inl (cOd, 1, .inr (.inr (.inr (.inl (fun _ => 0)))))), (ou, .inl (cOut, 1, .inr (.inl gOx_8)))]) hP hD [19] [0, 1, 2, 3, 4, 5, 6, 7, 8, 9, 10, 11, 12, 13, 14, 15, 16, 17, 18] rfl rfl (by decide) (by decide) hk1 hFc
    generalize H1 = H at hP hS ⊢
    refine W.widen (k := 149) (n := 2206) (Nat.le_of_ble_eq_true rfl) (Nat.le_of_ble_eq_true rfl) ?_
    have hw : r_39 = 0 := hw
    rw [hw]
    refine lv_iload hx hb dL_law_2369 (lv_at hl 1 rfl) ?_
    refine lv_icmp_eq (tgt := 2376) hx hb dL_law_2371 (by decide) (fun c_40 => ?_) (fun c_40 => ?_)
    · refine lv_iload hx hb dL_law_2376 (lv_at hl 1 rfl) ?_
      refine lv_if_ne (tgt := 2393) hx hb dL_law_2378 (by decide) (fun c_41 => ?_) (fun c_41 => ?_)
      · exact absurd (by decide) c_41
      · refine lv_aload_n hx hb dL_law_2381 rfl (lv_at hl 4 rfl) ?_
        refine lv_iconst (v := 0) hx hb dL_law_2382 (by decide) ?_
        refine va_lald hx hb hK hP 18 13 rfl rfl (vp_in_iff.mpr ⟨by decide, by decide⟩) dL_law_2383 ?_
        refine lv_topl (fun k_42 ek_42 => ?_)
        obtain rfl : 0 = k_42 := (ek_42.trans (f_9 t_10)).symm
        refine lv_iload hx hb dL_law_2384 (lv_at hl 0 rfl) ?_
        refine lv_i2l (v := 0) hx hb dL_law_2386 (by decide) ?_
        refine W.lcmp hx hb dL_law_2387 ?_
        refine lv_topi (fun k_43 ek_43 => ?_)
        obtain rfl : k_43 = 0 := ek_43.trans (by decide)
        refine lv_if_eq (tgt := 2393) hx hb dL_law_2388 (by decide) (fun c_44 => ?_) (fun c_44 => ?_)
        · refine lv_goto (tgt := 2636) hx hb dL_law_2393 (by decide) ?_
          refine lv_iinc (v := 6) (lv' := [(5, .int 6), (7, .int 0), (6, .int 0), (4, .ref od), (3, .ref ou), (2, .ref m0), (1, .ref x0), (0, .ref b)]) hx hb dL_law_2636 hl (k := 2) rfl (by decide) (by decide) rfl (fun ls hl => ?_)
          refine lv_goto (tgt := 28) hx hb dL_law_2639 (by decide) ?_
          refine lv_iload hx hb dL_law_28 (lv_at hl 0 rfl) ?_
          refine lv_aload_n hx hb dL_law_30 rfl (lv_at hl 7 rfl) ?_
          refine va_slen hx hb hX hbl hbA hS dL_law_31 ?_
          refine lv_topi (fun n_45 en_45 => ?_)
          obtain rfl : n_45 = 6 := en_45.trans (by decide)
          refine lv_bipush (v := 6) hx hb dL_law_32 (by decide) ?_
          refine lv_isub hx hb dL_law_34 ?_
          refine lv_topi (fun k_46 ek_46 => ?_)
          obtain rfl : k_46 = 0 := ek_46.trans (by decide)
          refine lv_icmp_gt (tgt := 2642) hx hb dL_law_35 (by decide) (fun c_47 => ?_) (fun c_47 => ?_)
          · refine lv_iconst (v := 1) hx hb dL_law_2642 (by decide) ?_
            refine W.widen (k := 600006) (n := 7302072) (Nat.le_of_ble_eq_true rfl) (Nat.le_of_ble_eq_true rfl) ?_
            refine va_forget hS.2.2 ?_
            refine W.base ?_
            exact lw_ret (Drawn.sameBut.refl s.drawn lw_cs) hx hb hr hlocks dL_law_2643
          · exact absurd (by decide) c_47
        · exact absurd (by decide) c_44
    · exact absurd (by decide) c_40

set_option maxHeartbeats 4000000 in
set_option maxRecDepth 100000 in
theorem law_35 {p : Program} {e : Env} {s : State} {m : MethodId} {below : List Frame} {meth : Method} {c : Code} (l : Launch) (hlt : l.stackTraces = false) {b : Nat} {xs : Nat → Int32} (C0 : lw_At p s m meth c b 6 xs) (em : Nat → Nat) (dC : Nat → ClassId) (dI : Nat → Nat → Nat) (j : Nat) (hjj : ∀ z : Int32, z = ((xs 1).toUInt32 % 65536).toInt32 → 97 ≤ z.toInt → z.toInt ≤ 122 → (z - 97).toNatClampNeg = j) (x0 : Nat) (ca : Nat) (dr : Nat) (ty0 : Nat) (sf : Nat) (sb : Nat) (ra0 : Nat) (bk : Nat) (c0 : Nat) (th : Nat) (rr : Nat) (a0 : Nat) (a1 : Nat) (a2 : Nat) (mo : Nat) (vp : Value) (vm : Value) (u1 : Value) (u2 : Value) (sf1 : Value) (sb1 : Value) (fC : Nat → Option Nat) (fD : Nat → Option Nat) (cC : ClassId) (cH : ClassId) (cO : ClassId) (cI : ClassId) (cT : ClassId) (cR : ClassId) (cB0 : ClassId) (cB1 : ClassId) (cB2 : ClassId) (cM : ClassId) (m0 : Nat) (lc : Nat) (lp : Nat) (dl : Nat) (rr8 : Nat) (ff : Nat) (fb : Nat) (lw : Nat) (lo : Nat) (tf : Value) (tb : Value) (fL : Nat → Option Nat) (cO8 : ClassId) (cI8 : ClassId) (ou : Nat) (od : Nat) (cOut : ClassId) (cOd : ClassId) (hfC : fC 0 = some c0) (hfD : fD j = some rr) (hfL : fL j = some rr8) {H : Heap} {locs : List Loc} (hamb : amb em (fun q : Nat => s.heap.size ≤ q) s s.heap) (hK : va_K (dC, dI) vwCl [(cC, (.object "Bothfaces$Card")), (cH, .int), (cO, (.array .int)), (cI, .int), (cT, .int), (cR, .int), (cB0, .int), (cB1, .int), (cB2, .int), (cM, .int), (cO8, (.array .int)), (cI8, .int), (cOut, .long), (cOd, .double)] s) (hP : va_P (dC, dI) vwCl [(x0, .inr (11, [.ref ca, .int 0, .int 0, .ref dr, .ref ty0, .int 0, .ref sf, .ref sb, vp, vm, .ref ra0, .int 0, .ref bk])), (ca, .inl (cC, 16, .inr (.inr (.inr (.inr fC))))), (c0, .inr (7, [.ref th, u1, u2, .int 0, .int 0, .int 0, .int 0])), (th, .inl (cH, 4, .inl (fun _ => 0))), (dr, .inl (cO, 26, .inr (.inr (.inr (.inr fD))))), (rr, .inl (cI, 5, .inl (fun _ => 0))), (ty0, .inl (cT, 8, .inl (fun _ => 0))), (sf, .inr (10, [.int 0, sf1, .int 0, .int 0, .int 0, .int 1, .int 0])), (sb, .inr (10, [.int 1, sb1, .int 0, .int 0, .int 0, .int 1, .int 0])), (ra0, .inl (cR, 6, .inl (fun _ => 0))), (bk, .inr (6, [.ref a0, .ref a1, .ref a2, .ref mo, .int 0])), (a0, .inl (cB0, 8, .inl (fun _ => 0))), (a1, .inl (cB1, 8, .inl (fun _ => 0))), (a2, .inl (cB2, 8, .inl (fun _ => 0))), (mo, .inl (cM, 256, .inl (fun _ => 0))), (m0, .inr (14, [.ref lc, .ref lp, .ref dl, .ref ff, .ref fb, .ref lw, .ref lo, .ref (em 1), .int 0])), (lc, .inr (5, [.int 0, .ref (em 0), .int 0])), (lp, .inr (5, [.int 0, .ref (em 0), .int 0])), (dl, .inl (cO8, 26, .inr (.inr (.inr (.inr fL))))), (rr8, .inl (cI8, 5, .inl (fun _ => 0))), (ff, .inr (13, [tf, .int 0, .int 0, .int 1, .int 0])), (fb, .inr (13, [tb, .int 0, .int 0, .int 1, .int 0])), (lw, .inr (5, [.int 0, .ref (em 0), .int 0])), (lo, .inr (5, [.int 0, .ref (em 0), .int 0])), (ou, .inl (cOut, 1, .inr (.inl (fun _ => 0)))), (od, .inl (cOd, 1, .inr (.inr (.inr (.inl (fun _ => 0))))))] H) (hD : va_D (fun q : Nat => s.heap.size ≤ q) [(x0, .inr (11, [.ref ca, .int 0, .int 0, .ref dr, .ref ty0, .int 0, .ref sf, .ref sb, vp, vm, .ref ra0, .int 0, .ref bk])), (ca, .inl (cC, 16, .inr (.inr (.inr (.inr fC))))), (c0, .inr (7, [.ref th, u1, u2, .int 0, .int 0, .int 0, .int 0])), (th, .inl (cH, 4, .inl (fun _ => 0))), (dr, .inl (cO, 26, .inr (.inr (.inr (.inr fD))))), (rr, .inl (cI, 5, .inl (fun _ => 0))), (ty0, .inl (cT, 8, .inl (fun _ => 0))), (sf, .inr (10, [.int 0, sf1, .int 0, .int 0, .int 0, .int 1, .int 0])), (sb, .inr (10, [.int 1, sb1, .int 0, .int 0, .int 0, .int 1, .int 0])), (ra0, .inl (cR, 6, .inl (fun _ => 0))), (bk, .inr (6, [.ref a0, .ref a1, .ref a2, .ref mo, .int 0])), (a0, .inl (cB0, 8, .inl (fun _ => 0))), (a1, .inl (cB1, 8, .inl (fun _ => 0))), (a2, .inl (cB2, 8, .inl (fun _ => 0))), (mo, .inl (cM, 256, .inl (fun _ => 0))), (m0, .inr (14, [.ref lc, .ref lp, .ref dl, .ref ff, .ref fb, .ref lw, .ref lo, .ref (em 1), .int 0])), (lc, .inr (5, [.int 0, .ref (em 0), .int 0])), (lp, .inr (5, [.int 0, .ref (em 0), .int 0])), (dl, .inl (cO8, 26, .inr (.inr (.inr (.inr fL))))), (rr8, .inl (cI8, 5, .inl (fun _ => 0))), (ff, .inr (13, [tf, .int 0, .int 0, .int 1, .int 0])), (fb, .inr (13, [tb, .int 0, .int 0, .int 1, .int 0])), (lw, .inr (5, [.int 0, .ref (em 0), .int 0])), (lo, .inr (5, [.int 0, .ref (em 0), .int 0])), (ou, .inl (cOut, 1, .inr (.inl (fun _ => 0)))), (od, .inl (cOd, 1, .inr (.inr (.inr (.inl (fun _ => 0))))))]) (hS : va_S (fun q : Nat => s.heap.size ≤ q) s.heap H locs) {ls : Array Slot} (hl : lv_has ls 9 [(5, .int 0), (4, .ref od), (3, .ref ou), (2, .ref m0), (1, .ref x0), (0, .ref b)]) : W p l e room_1 s m #[Value.ref b] below meth c H locs 146 2187 (lw_Z below #[Value.ref b] s) (F0 m 2396 ls []) := by
  obtain ⟨hx, hb, hr, hml, hown0, hts0, hX, hbl, hlocks, hgv⟩ := id C0
  have hts := ow_hts hts0
  have hown : s.vm.findClass RL = some m.cls := hown0
  have hA : ∀ q : Nat, s.heap.size ≤ q → (fun q : Nat => s.heap.size ≤ q) q := fun _ h => h
  have hbA : ¬ (fun q : Nat => s.heap.size ≤ q) b := Nat.not_le.mpr hbl
  refine lv_aload_n hx hb dL_law_2396 rfl (lv_at hl 4 rfl) ?_
  refine lv_aload_n hx hb dL_law_2397 rfl (lv_at hl 5 rfl) ?_
  refine lv_iload hx hb dL_law_2398 (lv_at hl 0 rfl) ?_
  refine lv_iconst (v := 1) hx hb dL_law_2400 (by decide) ?_
  refine lv_iadd hx hb dL_law_2401 ?_
  refine lv_topi (fun k_1 ek_1 => ?_)
  obtain rfl : k_1 = 1 := ek_1.trans (by decide)
  refine va_sld hx hb hX hbl hbA hS (vp_in_iff.mpr ⟨by decide, by decide⟩) dL_law_2402 ?_
  refine lv_topi (fun y_2 ey_2 => ?_)
  have ey_2 : y_2 = xs 1 := ey_2
  refine lv_aload_n hx hb dL_law_2403 rfl (lv_at hl 2 rfl) ?_
  have hPc := hP.sub (ws' := [(x0, .inr (11, [.ref ca, .int 0, .int 0, .ref dr, .ref ty0, .int 0, .ref sf, .ref sb, vp, vm, .ref ra0, .int 0, .ref bk])), (bk, .inr (6, [.ref a0, .ref a1, .ref a2, .ref mo, .int 0])), (ou, .inl (cOut, 1, .inr (.inl (fun _ => 0))))]) [0, 10, 24] rfl
  have hDc := hD.sub (ws' := [(x0, .inr (11, [.ref ca, .int 0, .int 0, .ref dr, .ref ty0, .int 0, .ref sf, .ref sb, vp, vm, .ref ra0, .int 0, .ref bk])), (bk, .inr (6, [.ref a0, .ref a1, .ref a2, .ref mo, .int 0])), (ou, .inl (cOut, 1, .inr (.inl (fun _ => 0))))]) [0, 10, 24] (by decide) rfl
  have hKc := hK.sub (tys' := [(cOut, .long)]) [12] rfl
  have hFc := va_free (wc := [(x0, .inr (11, [.ref ca, .int 0, .int 0, .ref dr, .ref ty0, .int 0, .ref sf, .ref sb, vp, vm, .ref ra0, .int 0, .ref bk])), (bk, .inr (6, [.ref a0, .ref a1, .ref a2, .ref mo, .int 0])), (ou, .inl (cOut, 1, .inr (.inl (fun _ => 0))))]) hD hS hA [0, 10, 24] rfl
  refine va_calli (vx_runSW (As := [.ref x0, .int y_2, .ref ou]) (rest := []) ⟨hx, hb, hml, hown, hts⟩ (c_L_readyOn l hlt em dC dI x0 y_2 (.ref ca) (.int 0) (.int 0) (.ref dr) (.ref ty0) (.int 0) (.ref sf) (.ref sb) vp vm (.ref ra0) (.int 0) bk (.ref a0) (.ref a1) (.ref a2) (.ref mo) ou cOut (fun _ => 0) H.size) (vx_cwSW 3 hts gT_L_readyOn rfl rfl rfl (by decide +kernel) ⟨Nat.le_of_ble_eq_true rfl, Nat.le_of_ble_eq_true rfl⟩) ⟨Pw.blind _ _ _ _ _ _ _, fun U hU hW => ⟨rfl, Pw.go hPc hKc hDc hamb hS hFc hU hW⟩⟩ rfl rfl hl.1 rfl (lv_room (Nat.le_of_ble_eq_true rfl)) dL_law_2404 ⟨Nat.le_of_ble_eq_true rfl, Nat.le_of_ble_eq_true rfl⟩) hS (fun q _ h => hFc q h) hFc (fun r_3 u t H1 locs1 ht hvm hw hB hz1 hk1 hS => ?_)
  obtain ⟨hP1, hK1, hD1⟩ := hB
  rw [ht] at hP1
  have hK1 := va_K.moved hvm.symm hK1
  obtain ⟨hP, hD⟩ := va_join (wr := [(ca, .inl (cC, 16, .inr (.inr (.inr (.inr fC))))), (c0, .inr (7, [.ref th, u1, u2, .int 0, .int 0, .int 0, .int 0])), (th, .inl (cH, 4, .inl (fun _ => 0))), (dr, .inl (cO, 26, .inr (.inr (.inr (.inr fD))))), (rr, .inl (cI, 5, .inl (fun _ => 0))), (ty0, .inl (cT, 8, .inl (fun _ => 0))), (sf, .inr (10, [.int 0, sf1, .int 0, .int 0, .int 0, .int 1, .int 0])), (sb, .inr (10, [.int 1, sb1, .int 0, .int 0, .int 0, .int 1, .int 0])), (ra0, .inl (cR, 6, .inl (fun _ => 0))), (a0, .inl (cB0, 8, .inl (fun _ => 0))), (a1, .inl (cB1, 8, .inl (fun _ => 0))), (a2, .inl (cB2, 8, .inl (fun _ => 0))), (mo, .inl (cM, 256, .inl (fun _ => 0))), (m0, .inr (14, [.ref lc, .ref lp, .ref dl, .ref ff, .ref fb, .ref lw, .ref lo, .ref (em 1), .int 0])), (lc, .inr (5, [.int 0, .ref (em 0), .int 0])), (lp, .inr (5, [.int 0, .ref (em 0), .int 0])), (dl, .inl (cO8, 26, .inr (.inr (.inr (.inr fL))))), (rr8, .inl (cI8, 5, .inl (fun _ => 0))), (ff, .inr (13, [tf, .int 0, .int 0, .int 1, .int 0])), (fb, .inr (13, [tb, .int 0, .int 0, .int 1, .int 0])), (lw, .inr (5, [.int 0, .ref (em 0), .int 0])), (lo, .inr (5, [.int 0, .ref (em 0), .int 0])), (od, .inl (cOd, 1, .inr (.inr (.inr (.inl (fun _ => 0))))))]) (w1 := [(ou, .inl (cOut, 1, .inr (.inl (fun _ => 0))))]) hP hD [0, 10, 24] [1, 2, 3, 4, 5, 6, 7, 8, 9, 11, 12, 13, 14, 15, 16, 17, 18, 19, 20, 21, 22, 23, 25] rfl rfl (by decide) (by decide) hk1 hFc hP1 hD1
  have hK := (hK.sub (tys' := [(cC, (.object "Bothfaces$Card")), (cH, .int), (cO, (.array .int)), (cI, .int), (cT, .int), (cR, .int), (cB0, .int), (cB1, .int), (cB2, .int), (cM, .int), (cO8, (.array .int)), (cI8, .int), (cOd, .double)]) [0, 1, 2, 3, 4, 5, 6, 7, 8, 9, 10, 11, 13] rfl).app hK1
  generalize H1 = H at hP hS ⊢
  have hP : va_P (dC, dI) vwCl [(ca, .inl (cC, 16, .inr (.inr (.inr (.inr fC))))), (c0, .inr (7, [.ref th, u1, u2, .int 0, .int 0, .int 0, .int 0])), (th, .inl (cH, 4, .inl (fun _ => 0))), (dr, .inl (cO, 26, .inr (.inr (.inr (.inr fD))))), (rr, .inl (cI, 5, .inl (fun _ => 0))), (ty0, .inl (cT, 8, .inl (fun _ => 0))), (sf, .inr (10, [.int 0, sf1, .int 0, .int 0, .int 0, .int 1, .int 0])), (sb, .inr (10, [.int 1, sb1, .int 0, .int 0, .int 0, .int 1, .int 0])), (ra0, .inl (cR, 6, .inl (fun _ => 0))), (a0, .inl (cB0, 8, .inl (fun _ => 0))), (a1, .inl (cB1, 8, .inl (fun _ => 0))), (a2, .inl (cB2, 8, .inl (fun _ => 0))), (mo, .inl (cM, 256, .inl (fun _ => 0))), (m0, .inr (14, [.ref lc, .ref lp, .ref dl, .ref ff, .ref fb, .ref lw, .ref lo, .ref (em 1), .int 0])), (lc, .inr (5, [.int 0, .ref (em 0), .int 0])), (lp, .inr (5, [.int 0, .ref (em 0), .int 0])), (dl, .inl (cO8, 26, .inr (.inr (.inr (.inr fL))))), (rr8, .inl (cI8, 5, .inl (fun _ => 0))), (ff, .inr (13, [tf, .int 0, .int 0, .int 1, .int 0])), (fb, .inr (13, [tb, .int 0, .int 0, .int 1, .int 0])), (lw, .inr (5, [.int 0, .ref (em 0), .int 0])), (lo, .inr (5, [.int 0, .ref (em 0), .int 0])), (od, .inl (cOd, 1, .inr (.inr (.inr (.inl (fun _ => 0)))))), (ou, .inl (cOut, 1, .inr (.inl (fun _ => 0))))] H := hP
  have hD : va_D (fun q : Nat => s.heap.size ≤ q) [(ca, .inl (cC, 16, .inr (.inr (.inr (.inr fC))))), (c0, .inr (7, [.ref th, u1, u2, .int 0, .int 0, .int 0, .int 0])), (th, .inl (cH, 4, .inl (fun _ => 0))), (dr, .inl (cO, 26, .inr (.inr (.inr (.inr fD))))), (rr, .inl (cI, 5, .inl (fun _ => 0))), (ty0, .inl (cT, 8, .inl (fun _ => 0))), (sf, .inr (10, [.int 0, sf1, .int 0, .int 0, .int 0, .int 1, .int 0])), (sb, .inr (10, [.int 1, sb1, .int 0, .int 0, .int 0, .int 1, .int 0])), (ra0, .inl (cR, 6, .inl (fun _ => 0))), (a0, .inl (cB0, 8, .inl (fun _ => 0))), (a1, .inl (cB1, 8, .inl (fun _ => 0))), (a2, .inl (cB2, 8, .inl (fun _ => 0))), (mo, .inl (cM, 256, .inl (fun _ => 0))), (m0, .inr (14, [.ref lc, .ref lp, .ref dl, .ref ff, .ref fb, .ref lw, .ref lo, .ref (em 1), .int 0])), (lc, .inr (5, [.int 0, .ref (em 0), .int 0])), (lp, .inr (5, [.int 0, .ref (em 0), .int 0])), (dl, .inl (cO8, 26, .inr (.inr (.inr (.inr fL))))), (rr8, .inl (cI8, 5, .inl (fun _ => 0))), (ff, .inr (13, [tf, .int 0, .int 0, .int 1, .int 0])), (fb, .inr (13, [tb, .int 0, .int 0, .int 1, .int 0])), (lw, .inr (5, [.int 0, .ref (em 0), .int 0])), (lo, .inr (5, [.int 0, .ref (em 0), .int 0])), (od, .inl (cOd, 1, .inr (.inr (.inr (.inl (fun _ => 0)))))), (ou, .inl (cOut, 1, .inr (.inl (fun _ => 0))))] := hD
  have hK : va_K (dC, dI) vwCl [(cC, (.object "Bothfaces$Card")), (cH, .int), (cO, (.array .int)), (cI, .int), (cT, .int), (cR, .int), (cB0, .int), (cB1, .int), (cB2, .int), (cM, .int), (cO8, (.array .int)), (cI8, .int), (cOd, .double), (cOut, .long)] s := hK
  refine W.widen (k := 147) (n := 2193) (Nat.le_of_ble_eq_true rfl) (Nat.le_of_ble_eq_true rfl) ?_
  have hw : r_3 = 1 := hw
  rw [hw]
  refine lv_istore (lv' := [(6, .int 1), (5, .int 0), (4, .ref od), (3, .ref ou), (2, .ref m0), (1, .ref x0), (0, .ref b)]) hx hb dL_law_2407 hl (by decide) rfl (fun ls hl => ?_)
  refine lv_aload_n hx hb dL_law_2409 rfl (lv_at hl 4 rfl) ?_
  refine lv_aload_n hx hb dL_law_2410 rfl (lv_at hl 6 rfl) ?_
  refine lv_iload hx hb dL_law_2411 (lv_at hl 1 rfl) ?_
  refine lv_iconst (v := 1) hx hb dL_law_2413 (by decide) ?_
  refine lv_iadd hx hb dL_law_2414 ?_
  refine lv_topi (fun k_4 ek_4 => ?_)
  obtain rfl : k_4 = 1 := ek_4.trans (by decide)
  refine va_sld hx hb hX hbl hbA hS (vp_in_iff.mpr ⟨by decide, by decide⟩) dL_law_2415 ?_
  refine lv_topi (fun y_5 ey_5 => ?_)
  have ey_5 : y_5 = xs 1 := ey_5
  obtain rfl : y_2 = y_5 := ey_2.trans ey_5.symm
  have hPc := hP.sub (ws' := [(m0, .inr (14, [.ref lc, .ref lp, .ref dl, .ref ff, .ref fb, .ref lw, .ref lo, .ref (em 1), .int 0])), (lo, .inr (5, [.int 0, .ref (em 0), .int 0]))]) [13, 21] rfl
  have hDc := hD.sub (ws' := [(m0, .inr (14, [.ref lc, .ref lp, .ref dl, .ref ff, .ref fb, .ref lw, .ref lo, .ref (em 1), .int 0])), (lo, .inr (5, [.int 0, .ref (em 0), .int 0]))]) [13, 21] (by decide) rfl
  have hKc := hK.sub (tys' := []) [] rfl
  have hFc := va_free (wc := [(m0, .inr (14, [.ref lc, .ref lp, .ref dl, .ref ff, .ref fb, .ref lw, .ref lo, .ref (em 1), .int 0])), (lo, .inr (5, [.int 0, .ref (em 0), .int 0]))]) hD hS hA [13, 21] rfl
  refine va_calli (va_runV (As := [.int y_2]) (rest := []) ⟨hx, hb, hml, hown, hts⟩ (c_X8_readyOn l em dC dI m0 y_2 (.ref lc) (.ref lp) (.ref dl) (.ref ff) (.ref fb) (.ref lw) (.ref (em 1)) (.int 0) lo (.ref (em 0)) H.size) (cwV 1 hts gT_X8_readyOn rfl rfl rfl (by decide +kernel) ⟨Nat.le_of_ble_eq_true rfl, Nat.le_of_ble_eq_true rfl⟩) ⟨Pw.blind _ _ _ _ _ _ _, va_recv hKc hPc (ci := 14) (q0 := 0) rfl rfl, fun U hU hW => ⟨rfl, Pw.go hPc hKc hDc hamb hS hFc hU hW⟩⟩ rfl rfl hl.1 rfl (lv_room (Nat.le_of_ble_eq_true rfl)) dL_law_2416 ⟨Nat.le_of_ble_eq_true rfl, Nat.le_of_ble_eq_true rfl⟩) hS (fun q _ h => hFc q h) hFc (fun r_6 u t H1 locs1 ht hvm hw hB hz1 hk1 hS => ?_)
  obtain ⟨hP1, hK1, hD1⟩ := hB
  rw [ht] at hP1
  have hK1 := va_K.moved hvm.symm hK1
  obtain ⟨hP, hD⟩ := va_join (wr := [(ca, .inl (cC, 16, .inr (.inr (.inr (.inr fC))))), (c0, .inr (7, [.ref th, u1, u2, .int 0, .int 0, .int 0, .int 0])), (th, .inl (cH, 4, .inl (fun _ => 0))), (dr, .inl (cO, 26, .inr (.inr (.inr (.inr fD))))), (rr, .inl (cI, 5, .inl (fun _ => 0))), (ty0, .inl (cT, 8, .inl (fun _ => 0))), (sf, .inr (10, [.int 0, sf1, .int 0, .int 0, .int 0, .int 1, .int 0])), (sb, .inr (10, [.int 1, sb1, .int 0, .int 0, .int 0, .int 1, .int 0])), (ra0, .inl (cR, 6, .inl (fun _ => 0))), (a0, .inl (cB0, 8, .inl (fun _ => 0))), (a1, .inl (cB1, 8, .inl (fun _ => 0))), (a2, .inl (cB2, 8, .inl (fun _ => 0))), (mo, .inl (cM, 256, .inl (fun _ => 0))), (lc, .inr (5, [.int 0, .ref (em 0), .int 0])), (lp, .inr (5, [.int 0, .ref (em 0), .int 0])), (dl, .inl (cO8, 26, .inr (.inr (.inr (.inr fL))))), (rr8, .inl (cI8, 5, .inl (fun _ => 0))), (ff, .inr (13, [tf, .int 0, .int 0, .int 1, .int 0])), (fb, .inr (13, [tb, .int 0, .int 0, .int 1, .int 0])), (lw, .inr (5, [.int 0, .ref (em 0), .int 0])), (od, .inl (cOd, 1, .inr (.inr (.inr (.inl (fun _ => 0)))))), (ou, .inl (cOut, 1, .inr (.inl (fun _ => 0))))]) (w1 := [(m0, .inr (14, [.ref lc, .ref lp, .ref dl, .ref ff, .ref fb, .ref lw, .ref lo, .ref (em 1), .int 1]))]) hP hD [13, 21] [0, 1, 2, 3, 4, 5, 6, 7, 8, 9, 10, 11, 12, 14, 15, 16, 17, 18, 19, 20, 22, 23] rfl rfl (by decide) (by decide) hk1 hFc hP1 hD1
  have hK := (hK.sub (tys' := [(cC, (.object "Bothfaces$Card")), (cH, .int), (cO, (.array .int)), (cI, .int), (cT, .int), (cR, .int), (cB0, .int), (cB1, .int), (cB2, .int), (cM, .int), (cO8, (.array .int)), (cI8, .int), (cOd, .double), (cOut, .long)]) [0, 1, 2, 3, 4, 5, 6, 7, 8, 9, 10, 11, 12, 13] rfl).app hK1
  generalize H1 = H at hP hS ⊢
  have hP : va_P (dC, dI) vwCl [(ca, .inl (cC, 16, .inr (.inr (.inr (.inr fC))))), (c0, .inr (7, [.ref th, u1, u2, .int 0, .int 0, .int 0, .int 0])), (th, .inl (cH, 4, .inl (fun _ => 0))), (dr, .inl (cO, 26, .inr (.inr (.inr (.inr fD))))), (rr, .inl (cI, 5, .inl (fun _ => 0))), (ty0, .inl (cT, 8, .inl (fun _ => 0))), (sf, .inr (10, [.int 0, sf1, .int 0, .int 0, .int 0, .int 1, .int 0])), (sb, .inr (10, [.int 1, sb1, .int 0, .int 0, .int 0, .int 1, .int 0])), (ra0, .inl (cR, 6, .inl (fun _ => 0))), (a0, .inl (cB0, 8, .inl (fun _ => 0))), (a1, .inl (cB1, 8, .inl (fun _ => 0))), (a2, .inl (cB2, 8, .inl (fun _ => 0))), (mo, .inl (cM, 256, .inl (fun _ => 0))), (lc, .inr (5, [.int 0, .ref (em 0), .int 0])), (lp, .inr (5, [.int 0, .ref (em 0), .int 0])), (dl, .inl (cO8, 26, .inr (.inr (.inr (.inr fL))))), (rr8, .inl (cI8, 5, .inl (fun _ => 0))), (ff, .inr (13, [tf, .int 0, .int 0, .int 1, .int 0])), (fb, .inr (13, [tb, .int 0, .int 0, .int 1, .int 0])), (lw, .inr (5, [.int 0, .ref (em 0), .int 0])), (od, .inl (cOd, 1, .inr (.inr (.inr (.inl (fun _ => 0)))))), (ou, .inl (cOut, 1, .inr (.inl (fun _ => 0)))), (m0, .inr (14, [.ref lc, .ref lp, .ref dl, .ref ff, .ref fb, .ref lw, .ref lo, .ref (em 1), .int 1]))] H := hP
  have hD : va_D (fun q : Nat => s.heap.size ≤ q) [(ca, .inl (cC, 16, .inr (.inr (.inr (.inr fC))))), (c0, .inr (7, [.ref th, u1, u2, .int 0, .int 0, .int 0, .int 0])), (th, .inl (cH, 4, .inl (fun _ => 0))), (dr, .inl (cO, 26, .inr (.inr (.inr (.inr fD))))), (rr, .inl (cI, 5, .inl (fun _ => 0))), (ty0, .inl (cT, 8, .inl (fun _ => 0))), (sf, .inr (10, [.int 0, sf1, .int 0, .int 0, .int 0, .int 1, .int 0])), (sb, .inr (10, [.int 1, sb1, .int 0, .int 0, .int 0, .int 1, .int 0])), (ra0, .inl (cR, 6, .inl (fun _ => 0))), (a0, .inl (cB0, 8, .inl (fun _ => 0))), (a1, .inl (cB1, 8, .inl (fun _ => 0))), (a2, .inl (cB2, 8, .inl (fun _ => 0))), (mo, .inl (cM, 256, .inl (fun _ => 0))), (lc, .inr (5, [.int 0, .ref (em 0), .int 0])), (lp, .inr (5, [.int 0, .ref (em 0), .int 0])), (dl, .inl (cO8, 26, .inr (.inr (.inr (.inr fL))))), (rr8, .inl (cI8, 5, .inl (fun _ => 0))), (ff, .inr (13, [tf, .int 0, .int 0, .int 1, .int 0])), (fb, .inr (13, [tb, .int 0, .int 0, .int 1, .int 0])), (lw, .inr (5, [.int 0, .ref (em 0), .int 0])), (od, .inl (cOd, 1, .inr (.inr (.inr (.inl (fun _ => 0)))))), (ou, .inl (cOut, 1, .inr (.inl (fun _ => 0)))), (m0, .inr (14, [.ref lc, .ref lp, .ref dl, .ref ff, .ref fb, .ref lw, .ref lo, .ref (em 1), .int 1]))] := hD
  have hK : va_K (dC, dI) vwCl [(cC, (.object "Bothfaces$Card")), (cH, .int), (cO, (.array .int)), (cI, .int), (cT, .int), (cR, .int), (cB0, .int), (cB1, .int), (cB2, .int), (cM, .int), (cO8, (.array .int)), (cI8, .int), (cOd, .double), (cOut, .long)] s := hK
  refine W.widen (k := 147) (n := 2193) (Nat.le_of_ble_eq_true rfl) (Nat.le_of_ble_eq_true rfl) ?_
  have hw : r_6 = 0 := hw
  rw [hw]
  refine lv_istore (lv' := [(7, .int 0), (6, .int 1), (5, .int 0), (4, .ref od), (3, .ref ou), (2, .ref m0), (1, .ref x0), (0, .ref b)]) hx hb dL_law_2419 hl (by decide) rfl (fun ls hl => ?_)
  refine lv_aload_n hx hb dL_law_2421 rfl (lv_at hl 5 rfl) ?_
  have hPc := hP.sub (ws' := [(m0, .inr (14, [.ref lc, .ref lp, .ref dl, .ref ff, .ref fb, .ref lw, .ref lo, .ref (em 1), .int 1]))]) [22] rfl
  have hDc := hD.sub (ws' := [(m0, .inr (14, [.ref lc, .ref lp, .ref dl, .ref ff, .ref fb, .ref lw, .ref lo, .ref (em 1), .int 1]))]) [22] (by decide) rfl
  have hKc := hK.sub (tys' := []) [] rfl
  have hFc := va_free (wc := [(m0, .inr (14, [.ref lc, .ref lp, .ref dl, .ref ff, .ref fb, .ref lw, .ref lo, .ref (em 1), .int 1]))]) hD hS hA [22] rfl
  refine va_calli (va_runV (As := []) (rest := []) ⟨hx, hb, hml, hown, hts⟩ (c_X8_thrown l em dC dI m0 1 (.ref lc) (.ref lp) (.ref dl) (.ref ff) (.ref fb) (.ref lw) (.ref lo) (.ref (em 1)) H.size) (cwV 0 hts gT_X8_thrown rfl rfl rfl (by decide +kernel) ⟨Nat.le_of_ble_eq_true rfl, Nat.le_of_ble_eq_true rfl⟩) ⟨Pw.blind _ _ _ _ _ _ _, va_recv hKc hPc (ci := 14) (q0 := 0) rfl rfl, fun U hU hW => ⟨rfl, Pw.go hPc hKc hDc hamb hS hFc hU hW⟩⟩ rfl rfl hl.1 rfl (lv_room (Nat.le_of_ble_eq_true rfl)) dL_law_2422 ⟨Nat.le_of_ble_eq_true rfl, Nat.le_of_ble_eq_true rfl⟩) hS (fun q _ h => hFc q h) hFc (fun r_7 u t H1 locs1 ht hvm hw hB hz1 hk1 hS => ?_)
  obtain ⟨hP, hD⟩ := va_rest (wr := [(ca, .inl (cC, 16, .inr (.inr (.inr (.inr fC))))), (c0, .inr (7, [.ref th, u1, u2, .int 0, .int 0, .int 0, .int 0])), (th, .inl (cH, 4, .inl (fun _ => 0))), (dr, .inl (cO, 26, .inr (.inr (.inr (.inr fD))))), (rr, .inl (cI, 5, .inl (fun _ => 0))), (ty0, .inl (cT, 8, .inl (fun _ => 0))), (sf, .inr (10, [.int 0, sf1, .int 0, .int 0, .int 0, .int 1, .int 0])), (sb, .inr (10, [.int 1, sb1, .int 0, .int 0, .int 0, .int 1, .int 0])), (ra0, .inl (cR, 6, .inl (fun _ => 0))), (a0, .inl (cB0, 8, .inl (fun _ => 0))), (a1, .inl (cB1, 8, .inl (fun _ => 0))), (a2, .inl (cB2, 8, .inl (fun _ => 0))), (mo, .inl (cM, 256, .inl (fun _ => 0))), (lc, .inr (5, [.int 0, .ref (em 0), .int 0])), (lp, .inr (5, [.int 0, .ref (em 0), .int 0])), (dl, .inl (cO8, 26, .inr (.inr (.inr (.inr fL))))), (rr8, .inl (cI8, 5, .inl (fun _ => 0))), (ff, .inr (13, [tf, .int 0, .int 0, .int 1, .int 0])), (fb, .inr (13, [tb, .int 0, .int 0, .int 1, .int 0])), (lw, .inr (5, [.int 0, .ref (em 0), .int 0])), (od, .inl (cOd, 1, .inr (.inr (.inr (.inl (fun _ => 0)))))), (ou, .inl (cOut, 1, .inr (.inl (fun _ => 0))))]) hP hD [22] [0, 1, 2, 3, 4, 5, 6, 7, 8, 9, 10, 11, 12, 13, 14, 15, 16, 17, 18, 19, 20, 21] rfl rfl (by decide) (by decide) hk1 hFc
  generalize H1 = H at hP hS ⊢
  refine W.widen (k := 147) (n := 2193) (Nat.le_of_ble_eq_true rfl) (Nat.le_of_ble_eq_true rfl) ?_
  have hw : r_7 = 1 := hw
  rw [hw]
  refine lv_iload hx hb dL_law_2425 (lv_at hl 1 rfl) ?_
  refine lv_icmp_eq (tgt := 2432) hx hb dL_law_2427 (by decide) (fun c_8 => ?_) (fun c_8 => ?_)
  · refine lv_iload hx hb dL_law_2432 (lv_at hl 1 rfl) ?_
    refine lv_if_ne (tgt := 2449) hx hb dL_law_2434 (by decide) (fun c_9 => ?_) (fun c_9 => ?_)
    · refine lv_goto (tgt := 2636) hx hb dL_law_2449 (by decide) ?_
      refine lv_iinc (v := 6) (lv' := [(5, .int 6), (7, .int 0), (6, .int 1), (4, .ref od), (3, .ref ou), (2, .ref m0), (1, .ref x0), (0, .ref b)]) hx hb dL_law_2636 hl (k := 2) rfl (by decide) (by decide) rfl (fun ls hl => ?_)
      refine lv_goto (tgt := 28) hx hb dL_law_2639 (by decide) ?_
      refine lv_iload hx hb dL_law_28 (lv_at hl 0 rfl) ?_
      refine lv_aload_n hx hb dL_law_30 rfl (lv_at hl 7 rfl) ?_
      refine va_slen hx hb hX hbl hbA hS dL_law_31 ?_
      refine lv_topi (fun n_10 en_10 => ?_)
      obtain rfl : n_10 = 6 := en_10.trans (by decide)
      refine lv_bipush (v := 6) hx hb dL_law_32 (by decide) ?_
      refine lv_isub hx hb dL_law_34 ?_
      refine lv_topi (fun k_11 ek_11 => ?_)
      obtain rfl : k_11 = 0 := ek_11.trans (by decide)
      refine lv_icmp_gt (tgt := 2642) hx hb dL_law_35 (by decide) (fun c_12 => ?_) (fun c_12 => ?_)
      · refine lv_iconst (v := 1) hx hb dL_law_2642 (by decide) ?_
        refine W.widen (k := 600006) (n := 7302072) (Nat.le_of_ble_eq_true rfl) (Nat.le_of_ble_eq_true rfl) ?_
        refine va_forget hS.2.2 ?_
        refine W.base ?_
        exact lw_ret (Drawn.sameBut.refl s.drawn lw_cs) hx hb hr hlocks dL_law_2643
      · exact absurd (by decide) c_12
    · exact absurd c_9 (by decide)
  · exact absurd (by decide) c_8
