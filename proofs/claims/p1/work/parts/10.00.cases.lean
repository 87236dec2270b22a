set_option maxHeartbeats 4000000 in
set_option maxRecDepth 100000 in
theorem law_0 {p : Program} {e : Env} {s : State} {m : MethodId} {below : List Frame} {meth : Method} {c : Code} (l : Launch) (hlt : l.stackTraces = false) {b : Nat} {xs : Nat → Int32} (C0 : lw_At p s m meth c b 6 xs) (em : Nat → Nat) (dC : Nat → ClassId) (dI : Nat → Nat → Nat) (j : Nat) (hjj : ∀ z : Int32, z = ((xs 1).toUInt32 % 65536).toInt32 → 97 ≤ z.toInt → z.toInt ≤ 122 → (z - 97).toNatClampNeg = j) (x0 : Nat) (ca : Nat) (dr : Nat) (ty0 : Nat) (sf : Nat) (sb : Nat) (ra0 : Nat) (bk : Nat) (c0 : Nat) (th : Nat) (rr : Nat) (a0 : Nat) (a1 : Nat) (a2 : Nat) (mo : Nat) (vp : Value) (vm : Value) (u1 : Value) (u2 : Value) (sf1 : Value) (sb1 : Value) (fC : Nat → Option Nat) (fD : Nat → Option Nat) (cC : ClassId) (cH : ClassId) (cO : ClassId) (cI : ClassId) (cT : ClassId) (cR : ClassId) (cB0 : ClassId) (cB1 : ClassId) (cB2 : ClassId) (cM : ClassId) (m0 : Nat) (lc : Nat) (lp : Nat) (dl : Nat) (rr8 : Nat) (ff : Nat) (fb : Nat) (lw : Nat) (lo : Nat) (tf : Value) (tb : Value) (fL : Nat → Option Nat) (cO8 : ClassId) (cI8 : ClassId) (ou : Nat) (od : Nat) (cOut : ClassId) (cOd : ClassId) (hfC : fC 0 = some c0) (hfD : fD j = some rr) (hfL : fL j = some rr8) {H : Heap} {locs : List Loc} (hamb : amb em (fun q : Nat => s.heap.size ≤ q) s s.heap) (hK : va_K (dC, dI) vwCl [(cC, (.object "Bothfaces$Card")), (cH, .int), (cO, (.array .int)), (cI, .int), (cT, .int), (cR, .int), (cB0, .int), (cB1, .int), (cB2, .int), (cM, .int), (cO8, (.array .int)), (cI8, .int), (cOut, .long), (cOd, .double)] s) (hP : va_P (dC, dI) vwCl [(x0, .inr (11, [.ref ca, .int 0, .int 0, .ref dr, .ref ty0, .int 0, .ref sf, .ref sb, vp, vm, .ref ra0, .int 0, .ref bk])), (ca, .inl (cC, 16, .inr (.inr (.inr (.inr fC))))), (c0, .inr (7, [.ref th, u1, u2, .int 0, .int 0, .int 0, .int 0])), (th, .inl (cH, 4, .inl (fun _ => 0))), (dr, .inl (cO, 26, .inr (.inr (.inr (.inr fD))))), (rr, .inl (cI, 5, .inl (fun _ => 0))), (ty0, .inl (cT, 8, .inl (fun _ => 0))), (sf, .inr (10, [.int 0, sf1, .int 0, .int 0, .int 0, .int 1, .int 0])), (sb, .inr (10, [.int 1, sb1, .int 0, .int 0, .int 0, .int 1, .int 0])), (ra0, .inl (cR, 6, .inl (fun _ => 0))), (bk, .inr (6, [.ref a0, .ref a1, .ref a2, .ref mo, .int 0])), (a0, .inl (cB0, 8, .inl (fun _ => 0))), (a1, .inl (cB1, 8, .inl (fun _ => 0))), (a2, .inl (cB2, 8, .inl (fun _ => 0))), (mo, .inl (cM, 256, .inl (fun _ => 0))), (m0, .inr (14, [.ref lc, .ref lp, .ref dl, .ref ff, .ref fb, .ref lw, .ref lo, .ref (em 1), .int 0])), (lc, .inr (5, [.int 0, .ref (em 0), .int 0])), (lp, .inr (5, [.int 0, .ref (em 0), .int 0])), (dl, .inl (cO8, 26, .inr (.inr (.inr (.inr fL))))), (rr8, .inl (cI8, 5, .inl (fun _ => 0))), (ff, .inr (13, [tf, .int 0, .int 0, .int 1, .int 0])), (fb, .inr (13, [tb, .int 0, .int 0, .int 1, .int 0])), (lw, .inr (5, [.int 0, .ref (em 0), .int 0])), (lo, .inr (5, [.int 0, .ref (em 0), .int 0])), (ou, .inl (cOut, 1, .inr (.inl (fun _ => 0)))), (od, .inl (cOd, 1, .inr (.inr (.inr (.inl (fun _ => 0))))))] H) (hD : va_D (fun q : Nat => s.heap.size ≤ q) [(x0, .inr (11, [.ref ca, .int 0, .int 0, .ref dr, .ref ty0, .int 0, .ref sf, .ref sb, vp, vm, .ref ra0, .int 0, .ref bk])), (ca, .inl (cC, 16, .inr (.inr (.inr (.inr fC))))), (c0, .inr (7, [.ref th, u1, u2, .int 0, .int 0, .int 0, .int 0])), (th, .inl (cH, 4, .inl (fun _ => 0))), (dr, .inl (cO, 26, .inr (.inr (.inr (.inr fD))))), (rr, .inl (cI, 5, .inl (fun _ => 0))), (ty0, .inl (cT, 8, .inl (fun _ => 0))), (sf, .inr (10, [.int 0, sf1, .int 0, .int 0, .int 0, .int 1, .int 0])), (sb, .inr (10, [.int 1, sb1, .int 0, .int 0, .int 0, .int 1, .int 0])), (ra0, .inl (cR, 6, .inl (fun _ => 0))), (bk, .inr (6, [.ref a0, .ref a1, .ref a2, .ref mo, .int 0])), (a0, .inl (cB0, 8, .inl (fun _ => 0))), (a1, .inl (cB1, 8, .inl (fun _ => 0))), (a2, .inl (cB2, 8, .inl (fun _ => 0))), (mo, .inl (cM, 256, .inl (fun _ => 0))), (m0, .inr (14, [.ref lc, .ref lp, .ref dl, .ref ff, .ref fb, .ref lw, .ref lo, .ref (em 1), .int 0])), (lc, .inr (5, [.int 0, .ref (em 0), .int 0])), (lp, .inr (5, [.int 0, .ref (em 0), .int 0])), (dl, .inl (cO8, 26, .inr (.inr (.inr (.inr fL))))), (rr8, .inl (cI8, 5, .inl (fun _ => 0))), (ff, .inr (13, [tf, .int 0, .int 0, .int 1, .int 0])), (fb, .inr (13, [tb, .int 0, .int 0, .int 1, .int 0])), (lw, .inr (5, [.int 0, .ref (em 0), .int 0])), (lo, .inr (5, [.int 0, .ref (em 0), .int 0])), (ou, .inl (cOut, 1, .inr (.inl (fun _ => 0)))), (od, .inl (cOd, 1, .inr (.inr (.inr (.inl (fun _ => 0))))))]) (hS : va_S (fun q : Nat => s.heap.size ≤ q) s.heap H locs) {ls : Array Slot} (hl : lv_has ls 9 [(5, .int 0), (4, .ref od), (3, .ref ou), (2, .ref m0), (1, .ref x0), (0, .ref b)]) : W p l e room_1 s m #[Value.ref b] below meth c H locs 146 2187 (lw_Z below #[Value.ref b] s) (F0 m 228 ls []) := by
  obtain ⟨hx, hb, hr, hml, hown0, hts0, hX, hbl, hlocks, hgv⟩ := id C0
  have hts := ow_hts hts0
  have hown : s.vm.findClass RL = some m.cls := hown0
  have hA : ∀ q : Nat, s.heap.size ≤ q → (fun q : Nat => s.heap.size ≤ q) q := fun _ h => h
  have hbA : ¬ (fun q : Nat => s.heap.size ≤ q) b := Nat.not_le.mpr hbl
  refine lv_aload_n hx hb dL_law_228 rfl (lv_at hl 4 rfl) ?_
  refine lv_aload_n hx hb dL_law_229 rfl (lv_at hl 5 rfl) ?_
  refine lv_iload hx hb dL_law_230 (lv_at hl 0 rfl) ?_
  refine lv_iconst (v := 1) hx hb dL_law_232 (by decide) ?_
  refine lv_iadd hx hb dL_law_233 ?_
  refine lv_topi (fun k_1 ek_1 => ?_)
  obtain rfl : k_1 = 1 := ek_1.trans (by decide)
  refine va_sld hx hb hX hbl hbA hS (vp_in_iff.mpr ⟨by decide, by decide⟩) dL_law_234 ?_
  refine lv_topi (fun y_2 ey_2 => ?_)
  have ey_2 : y_2 = xs 1 := ey_2
  refine lv_aload_n hx hb dL_law_235 rfl (lv_at hl 5 rfl) ?_
  refine lv_iload hx hb dL_law_236 (lv_at hl 0 rfl) ?_
  refine lv_iconst (v := 2) hx hb dL_law_238 (by decide) ?_
  refine lv_iadd hx hb dL_law_239 ?_
  refine lv_topi (fun k_3 ek_3 => ?_)
  obtain rfl : k_3 = 2 := ek_3.trans (by decide)
  refine va_sld hx hb hX hbl hbA hS (vp_in_iff.mpr ⟨by decide, by decide⟩) dL_law_240 ?_
  refine lv_topi (fun y_4 ey_4 => ?_)
  have ey_4 : y_4 = xs 2 := ey_4
  refine lv_aload_n hx hb dL_law_241 rfl (lv_at hl 5 rfl) ?_
  refine lv_iload hx hb dL_law_242 (lv_at hl 0 rfl) ?_
  refine lv_iconst (v := 3) hx hb dL_law_244 (by decide) ?_
  refine lv_iadd hx hb dL_law_245 ?_
  refine lv_topi (fun k_5 ek_5 => ?_)
  obtain rfl : k_5 = 3 := ek_5.trans (by decide)
  refine va_sld hx hb hX hbl hbA hS (vp_in_iff.mpr ⟨by decide, by decide⟩) dL_law_246 ?_
  refine lv_topi (fun y_6 ey_6 => ?_)
  have ey_6 : y_6 = xs 3 := ey_6
  refine lv_aload_n hx hb dL_law_247 rfl (lv_at hl 5 rfl) ?_
  refine lv_iload hx hb dL_law_248 (lv_at hl 0 rfl) ?_
  refine lv_iconst (v := 4) hx hb dL_law_250 (by decide) ?_
  refine lv_iadd hx hb dL_law_251 ?_
  refine lv_topi (fun k_7 ek_7 => ?_)
  obtain rfl : k_7 = 4 := ek_7.trans (by decide)
  refine va_sld hx hb hX hbl hbA hS (vp_in_iff.mpr ⟨by decide, by decide⟩) dL_law_252 ?_
  refine lv_topi (fun y_8 ey_8 => ?_)
  have ey_8 : y_8 = xs 4 := ey_8
  refine lv_aload_n hx hb dL_law_253 rfl (lv_at hl 5 rfl) ?_
  refine lv_iload hx hb dL_law_254 (lv_at hl 0 rfl) ?_
  refine lv_iconst (v := 5) hx hb dL_law_256 (by decide) ?_
  refine lv_iadd hx hb dL_law_257 ?_
  refine lv_topi (fun k_9 ek_9 => ?_)
  obtain rfl : k_9 = 5 := ek_9.trans (by decide)
  refine va_sld hx hb hX hbl hbA hS (vp_in_iff.mpr ⟨by decide, by decide⟩) dL_law_258 ?_
  refine lv_topi (fun y_10 ey_10 => ?_)
  have ey_10 : y_10 = xs 5 := ey_10
  refine lv_i2c hx hb dL_law_259 rfl ?_
  refine lv_topi (fun z_11 ez_11 => ?_)
  refine lv_aload_n hx hb dL_law_260 rfl (lv_at hl 2 rfl) ?_
  have hPc := hP.sub (ws' := [(x0, .inr (11, [.ref ca, .int 0, .int 0, .ref dr, .ref ty0, .int 0, .ref sf, .ref sb, vp, vm, .ref ra0, .int 0, .ref bk])), (ca, .inl (cC, 16, .inr (.inr (.inr (.inr fC))))), (c0, .inr (7, [.ref th, u1, u2, .int 0, .int 0, .int 0, .int 0])), (th, .inl (cH, 4, .inl (fun _ => 0))), (ou, .inl (cOut, 1, .inr (.inl (fun _ => 0))))]) [0, 1, 2, 3, 24] rfl
  have hDc := hD.sub (ws' := [(x0, .inr (11, [.ref ca, .int 0, .int 0, .ref dr, .ref ty0, .int 0, .ref sf, .ref sb, vp, vm, .ref ra0, .int 0, .ref bk])), (ca, .inl (cC, 16, .inr (.inr (.inr (.inr fC))))), (c0, .inr (7, [.ref th, u1, u2, .int 0, .int 0, .int 0, .int 0])), (th, .inl (cH, 4, .inl (fun _ => 0))), (ou, .inl (cOut, 1, .inr (.inl (fun _ => 0))))]) [0, 1, 2, 3, 24] (by decide) rfl
  have hKc := hK.sub (tys' := [(cC, (.object "Bothfaces$Card")), (cH, .int), (cOut, .long)]) [0, 1, 12] rfl
  have hFc := va_free (wc := [(x0, .inr (11, [.ref ca, .int 0, .int 0, .ref dr, .ref ty0, .int 0, .ref sf, .ref sb, vp, vm, .ref ra0, .int 0, .ref bk])), (ca, .inl (cC, 16, .inr (.inr (.inr (.inr fC))))), (c0, .inr (7, [.ref th, u1, u2, .int 0, .int 0, .int 0, .int 0])), (th, .inl (cH, 4, .inl (fun _ => 0))), (ou, .inl (cOut, 1, .inr (.inl (fun _ => 0))))]) hD hS hA [0, 1, 2, 3, 24] rfl
  refine va_calli (vx_runSW (As := [.ref x0, .int y_2, .int y_4, .int y_6, .int y_8, .int z_11, .ref ou]) (rest := []) ⟨hx, hb, hml, hown, hts⟩ (c_L_card l hlt em dC dI x0 ca cC fC c0 th u1 u2 (.int 0) (.int 0) (.int 0) cH y_2 y_4 y_6 y_8 z_11 (.ref dr) (.ref ty0) (.int 0) (.ref sf) (.ref sb) vp vm (.ref ra0) (.int 0) (.ref bk) ou cOut (fun _ => 0) hfC H.size) (vx_cwSW 7 hts gT_L_card rfl rfl rfl (by decide +kernel) ⟨Nat.le_of_ble_eq_true rfl, Nat.le_of_ble_eq_true rfl⟩) ⟨Pw.blind _ _ _ _ _ _ _, fun U hU hW => ⟨rfl, Pw.go hPc hKc hDc hamb hS hFc hU hW⟩⟩ rfl rfl hl.1 rfl (lv_room (Nat.le_of_ble_eq_true rfl)) dL_law_261 ⟨Nat.le_of_ble_eq_true rfl, Nat.le_of_ble_eq_true rfl⟩) hS (fun q _ h => hFc q h) hFc (fun r_12 u t H1 locs1 ht hvm hw hB hz1 hk1 hS => ?_)
  obtain ⟨gOx_13, ⟨hP1, hK1, hD1⟩, f_14⟩ := hB
  rw [ht] at hP1
  have hK1 := va_K.moved hvm.symm hK1
  obtain ⟨hP, hD⟩ := va_join (wr := [(dr, .inl (cO, 26, .inr (.inr (.inr (.inr fD))))), (rr, .inl (cI, 5, .inl (fun _ => 0))), (ty0, .inl (cT, 8, .inl (fun _ => 0))), (sf, .inr (10, [.int 0, sf1, .int 0, .int 0, .int 0, .int 1, .int 0])), (sb, .inr (10, [.int 1, sb1, .int 0, .int 0, .int 0, .int 1, .int 0])), (ra0, .inl (cR, 6, .inl (fun _ => 0))), (bk, .inr (6, [.ref a0, .ref a1, .ref a2, .ref mo, .int 0])), (a0, .inl (cB0, 8, .inl (fun _ => 0))), (a1, .inl (cB1, 8, .inl (fun _ => 0))), (a2, .inl (cB2, 8, .inl (fun _ => 0))), (mo, .inl (cM, 256, .inl (fun _ => 0))), (m0, .inr (14, [.ref lc, .ref lp, .ref dl, .ref ff, .ref fb, .ref lw, .ref lo, .ref (em 1), .int 0])), (lc, .inr (5, [.int 0, .ref (em 0), .int 0])), (lp, .inr (5, [.int 0, .ref (em 0), .int 0])), (dl, .inl (cO8, 26, .inr (.inr (.inr (.inr fL))))), (rr8, .inl (cI8, 5, .inl (fun _ => 0))), (ff, .inr (13, [tf, .int 0, .int 0, .int 1, .int 0])), (fb, .inr (13, [tb, .int 0, .int 0, .int 1, .int 0])), (lw, .inr (5, [.int 0, .ref (em 0), .int 0])), (lo, .inr (5, [.int 0, .ref (em 0), .int 0])), (od, .inl (cOd, 1, .inr (.inr (.inr (.inl (fun _ => 0))))))]) (w1 := [(ou, .inl (cOut, 1, .inr (.inl gOx_13)))]) hP hD [0, 1, 2, 3, 24] [4, 5, 6, 7, 8, 9, 10, 11, 12, 13, 14, 15, 16, 17, 18, 19, 20, 21, 22, 23, 25] rfl rfl (by decide) (by decide) hk1 hFc hP1 hD1
  have hK := (hK.sub (tys' := [(cC, (.object "Bothfaces$Card")), (cH, .int), (cO, (.array .int)), (cI, .int), (cT, .int), (cR, .int), (cB0, .int), (cB1, .int), (cB2, .int), (cM, .int), (cO8, (.array .int)), (cI8, .int), (cOd, .double)]) [0, 1, 2, 3, 4, 5, 6, 7, 8, 9, 10, 11, 13] rfl).app hK1
  generalize H1 = H at hP hS ⊢
  have hP : va_P (dC, dI) vwCl [(dr, .inl (cO, 26, .inr (.inr (.inr (.inr fD))))), (rr, .inl (cI, 5, .inl (fun _ => 0))), (ty0, .inl (cT, 8, .inl (fun _ => 0))), (sf, .inr (10, [.int 0, sf1, .int 0, .int 0, .int 0, .int 1, .int 0])), (sb, .inr (10, [.int 1, sb1, .int 0, .int 0, .int 0, .int 1, .int 0])), (ra0, .inl (cR, 6, .inl (fun _ => 0))), (bk, .inr (6, [.ref a0, .ref a1, .ref a2, .ref mo, .int 0])), (a0, .inl (cB0, 8, .inl (fun _ => 0))), (a1, .inl (cB1, 8, .inl (fun _ => 0))), (a2, .inl (cB2, 8, .inl (fun _ => 0))), (mo, .inl (cM, 256, .inl (fun _ => 0))), (m0, .inr (14, [.ref lc, .ref lp, .ref dl, .ref ff, .ref fb, .ref lw, .ref lo, .ref (em 1), .int 0])), (lc, .inr (5, [.int 0, .ref (em 0), .int 0])), (lp, .inr (5, [.int 0, .ref (em 0), .int 0])), (dl, .inl (cO8, 26, .inr (.inr (.inr (.inr fL))))), (rr8, .inl (cI8, 5, .inl (fun _ => 0))), (ff, .inr (13, [tf, .int 0, .int 0, .int 1, .int 0])), (fb, .inr (13, [tb, .int 0, .int 0, .int 1, .int 0])), (lw, .inr (5, [.int 0, .ref (em 0), .int 0])), (lo, .inr (5, [.int 0, .ref (em 0), .int 0])), (od, .inl (cOd, 1, .inr (.inr (.inr (.inl (fun _ => 0)))))), (ou, .inl (cOut, 1, .inr (.inl gOx_13)))] H := hP
  have hD : va_D (fun q : Nat => s.heap.size ≤ q) [(dr, .inl (cO, 26, .inr (.inr (.inr (.inr fD))))), (rr, .inl (cI, 5, .inl (fun _ => 0))), (ty0, .inl (cT, 8, .inl (fun _ => 0))), (sf, .inr (10, [.int 0, sf1, .int 0, .int 0, .int 0, .int 1, .int 0])), (sb, .inr (10, [.int 1, sb1, .int 0, .int 0, .int 0, .int 1, .int 0])), (ra0, .inl (cR, 6, .inl (fun _ => 0))), (bk, .inr (6, [.ref a0, .ref a1, .ref a2, .ref mo, .int 0])), (a0, .inl (cB0, 8, .inl (fun _ => 0))), (a1, .inl (cB1, 8, .inl (fun _ => 0))), (a2, .inl (cB2, 8, .inl (fun _ => 0))), (mo, .inl (cM, 256, .inl (fun _ => 0))), (m0, .inr (14, [.ref lc, .ref lp, .ref dl, .ref ff, .ref fb, .ref lw, .ref lo, .ref (em 1), .int 0])), (lc, .inr (5, [.int 0, .ref (em 0), .int 0])), (lp, .inr (5, [.int 0, .ref (em 0), .int 0])), (dl, .inl (cO8, 26, .inr (.inr (.inr (.inr fL))))), (rr8, .inl (cI8, 5, .inl (fun _ => 0))), (ff, .inr (13, [tf, .int 0, .int 0, .int 1, .int 0])), (fb, .inr (13, [tb, .int 0, .int 0, .int 1, .int 0])), (lw, .inr (5, [.int 0, .ref (em 0), .int 0])), (lo, .inr (5, [.int 0, .ref (em 0), .int 0])), (od, .inl (cOd, 1, .inr (.inr (.inr (.inl (fun _ => 0)))))), (ou, .inl (cOut, 1, .inr (.inl gOx_13)))] := hD
  have hK : va_K (dC, dI) vwCl [(cC, (.object "Bothfaces$Card")), (cH, .int), (cO, (.array .int)), (cI, .int), (cT, .int), (cR, .int), (cB0, .int), (cB1, .int), (cB2, .int), (cM, .int), (cO8, (.array .int)), (cI8, .int), (cOd, .double), (cOut, .long)] s := hK
  refine W.widen (k := 151) (n := 2217) (Nat.le_of_ble_eq_true rfl) (Nat.le_of_ble_eq_true rfl) ?_
  have hw : ((y_2.toInt < 0 ∨ 7 < y_2.toInt ∨ y_4.toInt < 0 ∨ 7 < y_4.toInt ∨ y_6.toInt < 0 ∨ 7 < y_6.toInt ∨ y_8.toInt < 0 ∨ 7 < y_8.toInt ∨ (z_11.toInt ≠ 115 ∧ z_11.toInt ≠ 122)) → r_12 = 1) ∧ (¬ (y_2.toInt < 0 ∨ 7 < y_2.toInt ∨ y_4.toInt < 0 ∨ 7 < y_4.toInt ∨ y_6.toInt < 0 ∨ 7 < y_6.toInt ∨ y_8.toInt < 0 ∨ 7 < y_8.toInt ∨ (z_11.toInt ≠ 115 ∧ z_11.toInt ≠ 122)) → r_12 = 0) := hw
  rcases Classical.em (y_2.toInt < 0 ∨ 7 < y_2.toInt ∨ y_4.toInt < 0 ∨ 7 < y_4.toInt ∨ y_6.toInt < 0 ∨ 7 < y_6.toInt ∨ y_8.toInt < 0 ∨ 7 < y_8.toInt ∨ (z_11.toInt ≠ 115 ∧ z_11.toInt ≠ 122)) with t_15 | t_15
  · have hw := hw.1 t_15
    rw [hw]
    refine lv_istore (lv' := [(6, .int 1), (5, .int 0), (4, .ref od), (3, .ref ou), (2, .ref m0), (1, .ref x0), (0, .ref b)]) hx hb dL_law_264 hl (by decide) rfl (fun ls hl => ?_)
    refine lv_aload_n hx hb dL_law_266 rfl (lv_at hl 4 rfl) ?_
    refine lv_aload_n hx hb dL_law_267 rfl (lv_at hl 6 rfl) ?_
    refine lv_iload hx hb dL_law_268 (lv_at hl 1 rfl) ?_
    refine lv_iconst (v := 1) hx hb dL_law_270 (by decide) ?_
    refine lv_iadd hx hb dL_law_271 ?_
    refine lv_topi (fun k_16 ek_16 => ?_)
    obtain rfl : k_16 = 1 := ek_16.trans (by decide)
    refine va_sld hx hb hX hbl hbA hS (vp_in_iff.mpr ⟨by decide, by decide⟩) dL_law_272 ?_
    refine lv_topi (fun y_17 ey_17 => ?_)
    have ey_17 : y_17 = xs 1 := ey_17
    obtain rfl : y_2 = y_17 := ey_2.trans ey_17.symm
    refine lv_aload_n hx hb dL_law_273 rfl (lv_at hl 6 rfl) ?_
    refine lv_iload hx hb dL_law_274 (lv_at hl 1 rfl) ?_
    refine lv_iconst (v := 2) hx hb dL_law_276 (by decide) ?_
    refine lv_iadd hx hb dL_law_277 ?_
    refine lv_topi (fun k_18 ek_18 => ?_)
    obtain rfl : k_18 = 2 := ek_18.trans (by decide)
    refine va_sld hx hb hX hbl hbA hS (vp_in_iff.mpr ⟨by decide, by decide⟩) dL_law_278 ?_
    refine lv_topi (fun y_19 ey_19 => ?_)
    have ey_19 : y_19 = xs 2 := ey_19
    obtain rfl : y_4 = y_19 := ey_4.trans ey_19.symm
    refine lv_aload_n hx hb dL_law_279 rfl (lv_at hl 6 rfl) ?_
    refine lv_iload hx hb dL_law_280 (lv_at hl 1 rfl) ?_
    refine lv_iconst (v := 3) hx hb dL_law_282 (by decide) ?_
    refine lv_iadd hx hb dL_law_283 ?_
    refine lv_topi (fun k_20 ek_20 => ?_)
    obtain rfl : k_20 = 3 := ek_20.trans (by decide)
    refine va_sld hx hb hX hbl hbA hS (vp_in_iff.mpr ⟨by decide, by decide⟩) dL_law_284 ?_
    refine lv_topi (fun y_21 ey_21 => ?_)
    have ey_21 : y_21 = xs 3 := ey_21
    obtain rfl : y_6 = y_21 := ey_6.trans ey_21.symm
    refine lv_aload_n hx hb dL_law_285 rfl (lv_at hl 6 rfl) ?_
    refine lv_iload hx hb dL_law_286 (lv_at hl 1 rfl) ?_
    refine lv_iconst (v := 4) hx hb dL_law_288 (by decide) ?_
    refine lv_iadd hx hb dL_law_289 ?_
    refine lv_topi (fun k_22 ek_22 => ?_)
    obtain rfl : k_22 = 4 := ek_22.trans (by decide)
    refine va_sld hx hb hX hbl hbA hS (vp_in_iff.mpr ⟨by decide, by decide⟩) dL_law_290 ?_
    refine lv_topi (fun y_23 ey_23 => ?_)
    have ey_23 : y_23 = xs 4 := ey_23
    obtain rfl : y_8 = y_23 := ey_8.trans ey_23.symm
    refine lv_aload_n hx hb dL_law_291 rfl (lv_at hl 6 rfl) ?_
    refine lv_iload hx hb dL_law_292 (lv_at hl 1 rfl) ?_
    refine lv_iconst (v := 5) hx hb dL_law_294 (by decide) ?_
    refine lv_iadd hx hb dL_law_295 ?_
    refine lv_topi (fun k_24 ek_24 => ?_)
    obtain rfl : k_24 = 5 := ek_24.trans (by decide)
    refine va_sld hx hb hX hbl hbA hS (vp_in_iff.mpr ⟨by decide, by decide⟩) dL_law_296 ?_
    refine lv_topi (fun y_25 ey_25 => ?_)
    have ey_25 : y_25 = xs 5 := ey_25
    obtain rfl : y_10 = y_25 := ey_10.trans ey_25.symm
    refine lv_i2c hx hb dL_law_297 rfl ?_
    refine lv_topi (fun z_26 ez_26 => ?_)
    obtain rfl : z_11 = z_26 := ez_11.trans ez_26.symm
    have hPc := hP.sub (ws' := [(m0, .inr (14, [.ref lc, .ref lp, .ref dl, .ref ff, .ref fb, .ref lw, .ref lo, .ref (em 1), .int 0])), (lc, .inr (5, [.int 0, .ref (em 0), .int 0])), (lp, .inr (5, [.int 0, .ref (em 0), .int 0]))]) [11, 12, 13] rfl
    have hDc := hD.sub (ws' := [(m0, .inr (14, [.ref lc, .ref lp, .ref dl, .ref ff, .ref fb, .ref lw, .ref lo, .ref (em 1), .int 0])), (lc, .inr (5, [.int 0, .ref (em 0), .int 0])), (lp, .inr (5, [.int 0, .ref (em 0), .int 0]))]) [11, 12, 13] (by decide) rfl
    have hKc := hK.sub (tys' := []) [] rfl
    have hFc := va_free (wc := [(m0, .inr (14, [.ref lc, .ref lp, .ref dl, .ref ff, .ref fb, .ref lw, .ref lo, .ref (em 1), .int 0])), (lc, .inr (5, [.int 0, .ref (em 0), .int 0])), (lp, .inr (5, [.int 0, .ref (em 0), .int 0]))]) hD hS hA [11, 12, 13] rfl
    refine va_calli (va_runV (As := [.int y_2, .int y_4, .int y_6, .int y_8, .int z_11]) (rest := []) ⟨hx, hb, hml, hown, hts⟩ (c_X8_card l em dC dI m0 y_2 y_4 y_6 y_8 z_11 (.ref dl) (.ref ff) (.ref fb) (.ref lw) (.ref lo) (.ref (em 1)) (.int 0) lc lp H.size) (cwV 5 hts gT_X8_card rfl rfl rfl (by decide +kernel) ⟨Nat.le_of_ble_eq_true rfl, Nat.le_of_ble_eq_true rfl⟩) ⟨Pw.blind _ _ _ _ _ _ _, va_recv hKc hPc (ci := 14) (q0 := 0) rfl rfl, fun U hU hW => ⟨rfl, Pw.go hPc hKc hDc hamb hS hFc hU hW⟩⟩ rfl rfl hl.1 rfl (lv_room (Nat.le_of_ble_eq_true rfl)) dL_law_298 ⟨Nat.le_of_ble_eq_true rfl, Nat.le_of_ble_eq_true rfl⟩) hS (fun q _ h => hFc q h) hFc (fun r_27 u t H1 locs1 ht hvm hw hB hz1 hk1 hS => ?_)
    obtain ⟨tvx_28, ⟨hP1, hK1, hD1⟩, f_29, f_30⟩ := hB
    rw [ht] at hP1
    have hK1 := va_K.moved hvm.symm hK1
    obtain ⟨hP, hD⟩ := va_join (wr := [(dr, .inl (cO, 26, .inr (.inr (.inr (.inr fD))))), (rr, .inl (cI, 5, .inl (fun _ => 0))), (ty0, .inl (cT, 8, .inl (fun _ => 0))), (sf, .inr (10, [.int 0, sf1, .int 0, .int 0, .int 0, .int 1, .int 0])), (sb, .inr (10, [.int 1, sb1, .int 0, .int 0, .int 0, .int 1, .int 0])), (ra0, .inl (cR, 6, .inl (fun _ => 0))), (bk, .inr (6, [.ref a0, .ref a1, .ref a2, .ref mo, .int 0])), (a0, .inl (cB0, 8, .inl (fun _ => 0))), (a1, .inl (cB1, 8, .inl (fun _ => 0))), (a2, .inl (cB2, 8, .inl (fun _ => 0))), (mo, .inl (cM, 256, .inl (fun _ => 0))), (dl, .inl (cO8, 26, .inr (.inr (.inr (.inr fL))))), (rr8, .inl (cI8, 5, .inl (fun _ => 0))), (ff, .inr (13, [tf, .int 0, .int 0, .int 1, .int 0])), (fb, .inr (13, [tb, .int 0, .int 0, .int 1, .int 0])), (lw, .inr (5, [.int 0, .ref (em 0), .int 0])), (lo, .inr (5, [.int 0, .ref (em 0), .int 0])), (od, .inl (cOd, 1, .inr (.inr (.inr (.inl (fun _ => 0)))))), (ou, .inl (cOut, 1, .inr (.inl gOx_13)))]) (w1 := [(m0, .inr (14, [.ref lc, .ref lp, .ref dl, .ref ff, .ref fb, .ref lw, .ref lo, .ref (em 1), .int tvx_28]))]) hP hD [11, 12, 13] [0, 1, 2, 3, 4, 5, 6, 7, 8, 9, 10, 14, 15, 16, 17, 18, 19, 20, 21] rfl rfl (by decide) (by decide) hk1 hFc hP1 hD1
    have hK := (hK.sub (tys' := [(cC, (.object "Bothfaces$Card")), (cH, .int), (cO, (.array .int)), (cI, .int), (cT, .int), (cR, .int), (cB0, .int), (cB1, .int), (cB2, .int), (cM, .int), (cO8, (.array .int)), (cI8, .int), (cOd, .double), (cOut, .long)]) [0, 1, 2, 3, 4, 5, 6, 7, 8, 9, 10, 11, 12, 13] rfl).app hK1
    generalize H1 = H at hP hS ⊢
    have hP : va_P (dC, dI) vwCl [(dr, .inl (cO, 26, .inr (.inr (.inr (.inr fD))))), (rr, .inl (cI, 5, .inl (fun _ => 0))), (ty0, .inl (cT, 8, .inl (fun _ => 0))), (sf, .inr (10, [.int 0, sf1, .int 0, .int 0, .int 0, .int 1, .int 0])), (sb, .inr (10, [.int 1, sb1, .int 0, .int 0, .int 0, .int 1, .int 0])), (ra0, .inl (cR, 6, .inl (fun _ => 0))), (bk, .inr (6, [.ref a0, .ref a1, .ref a2, .ref mo, .int 0])), (a0, .inl (cB0, 8, .inl (fun _ => 0))), (a1, .inl (cB1, 8, .inl (fun _ => 0))), (a2, .inl (cB2, 8, .inl (fun _ => 0))), (mo, .inl (cM, 256, .inl (fun _ => 0))), (dl, .inl (cO8, 26, .inr (.inr (.inr (.inr fL))))), (rr8, .inl (cI8, 5, .inl (fun _ => 0))), (ff, .inr (13, [tf, .int 0, .int 0, .int 1, .int 0])), (fb, .inr (13, [tb, .int 0, .int 0, .int 1, .int 0])), (lw, .inr (5, [.int 0, .ref (em 0), .int 0])), (lo, .inr (5, [.int 0, .ref (em 0), .int 0])), (od, .inl (cOd, 1, .inr (.inr (.inr (.inl (fun _ => 0)))))), (ou, .inl (cOut, 1, .inr (.inl gOx_13))), (m0, .inr (14, [.ref lc, .ref lp, .ref dl, .ref ff, .ref fb, .ref lw, .ref lo, .ref (em 1), .int tvx_28]))] H := hP
    have hD : va_D (fun q : Nat => s.heap.size ≤ q) [(dr, .inl (cO, 26, .inr (.inr (.inr (.inr fD))))), (rr, .inl (cI, 5, .inl (fun _ => 0))), (ty0, .inl (cT, 8, .inl (fun _ => 0))), (sf, .inr (10, [.int 0, sf1, .int 0, .int 0, .int 0, .int 1, .int 0])), (sb, .inr (10, [.int 1, sb1, .int 0, .int 0, .int 0, .int 1, .int 0])), (ra0, .inl (cR, 6, .inl (fun _ => 0))), (bk, .inr (6, [.ref a0, .ref a1, .ref a2, .ref mo, .int 0])), (a0, .inl (cB0, 8, .inl (fun _ => 0))), (a1, .inl (cB1, 8, .inl (fun _ => 0))), (a2, .inl (cB2, 8, .inl (fun _ => 0))), (mo, .inl (cM, 256, .inl (fun _ => 0))), (dl, .inl (cO8, 26, .inr (.inr (.inr (.inr fL))))), (rr8, .inl (cI8, 5, .inl (fun _ => 0))), (ff, .inr (13, [tf, .int 0, .int 0, .int 1, .int 0])), (fb, .inr (13, [tb, .int 0, .int 0, .int 1, .int 0])), (lw, .inr (5, [.int 0, .ref (em 0), .int 0])), (lo, .inr (5, [.int 0, .ref (em 0), .int 0])), (od, .inl (cOd, 1, .inr (.inr (.inr (.inl (fun _ => 0)))))), (ou, .inl (cOut, 1, .inr (.inl gOx_13))), (m0, .inr (14, [.ref lc, .ref lp, .ref dl, .ref ff, .ref fb, .ref lw, .ref lo, .ref (em 1), .int tvx_28]))] := hD
    have hK : va_K (dC, dI) vwCl [(cC, (.object "Bothfaces$Card")), (cH, .int), (cO, (.array .int)), (cI, .int), (cT, .int), (cR, .int), (cB0, .int), (cB1, .int), (cB2, .int), (cM, .int), (cO8, (.array .int)), (cI8, .int), (cOd, .double), (cOut, .long)] s := hK
    refine W.widen (k := 154) (n := 2236) (Nat.le_of_ble_eq_true rfl) (Nat.le_of_ble_eq_true rfl) ?_
    have hw : ((y_2.toInt < 0 ∨ 7 < y_2.toInt ∨ y_4.toInt < 0 ∨ 7 < y_4.toInt ∨ y_6.toInt < 0 ∨ 7 < y_6.toInt ∨ y_8.toInt < 0 ∨ 7 < y_8.toInt ∨ (z_11.toInt ≠ 115 ∧ z_11.toInt ≠ 122)) → r_27 = 0) ∧ (¬ (y_2.toInt < 0 ∨ 7 < y_2.toInt ∨ y_4.toInt < 0 ∨ 7 < y_4.toInt ∨ y_6.toInt < 0 ∨ 7 < y_6.toInt ∨ y_8.toInt < 0 ∨ 7 < y_8.toInt ∨ (z_11.toInt ≠ 115 ∧ z_11.toInt ≠ 122)) → r_27 = 0) := hw
    have hw := hw.1 t_15
    rw [hw]
    obtain rfl : tvx_28 = 1 := f_29 t_15
    refine lv_istore (lv' := [(7, .int 0), (6, .int 1), (5, .int 0), (4, .ref od), (3, .ref ou), (2, .ref m0), (1, .ref x0), (0, .ref b)]) hx hb dL_law_301 hl (by decide) rfl (fun ls hl => ?_)
    refine lv_aload_n hx hb dL_law_303 rfl (lv_at hl 5 rfl) ?_
    have hPc := hP.sub (ws' := [(m0, .inr (14, [.ref lc, .ref lp, .ref dl, .ref ff, .ref fb, .ref lw, .ref lo, .ref (em 1), .int 1]))]) [19] rfl
    have hDc := hD.sub (ws' := [(m0, .inr (14, [.ref lc, .ref lp, .ref dl, .ref ff, .ref fb, .ref lw, .ref lo, .ref (em 1), .int 1]))]) [19] (by decide) rfl
    have hKc := hK.sub (tys' := []) [] rfl
    have hFc := va_free (wc := [(m0, .inr (14, [.ref lc, .ref lp, .ref dl, .ref ff, .ref fb, .ref lw, .ref lo, .ref (em 1), .int 1]))]) hD hS hA [19] rfl
    refine va_calli (va_runV (As := []) (rest := []) ⟨hx, hb, hml, hown, hts⟩ (c_X8_thrown l em dC dI m0 1 (.ref lc) (.ref lp) (.ref dl) (.ref ff) (.ref fb) (.ref lw) (.ref lo) (.ref (em 1)) H.size) (cwV 0 hts gT_X8_thrown rfl rfl rfl (by decide +kernel) ⟨Nat.le_of_ble_eq_true rfl, Nat.le_of_ble_eq_true rfl⟩) ⟨Pw.blind _ _ _ _ _ _ _, va_recv hKc hPc (ci := 14) (q0 := 0) rfl rfl, fun U hU hW => ⟨rfl, Pw.go hPc hKc hDc hamb hS hFc hU hW⟩⟩ rfl rfl hl.1 rfl (lv_room (Nat.le_of_ble_eq_true rfl)) dL_law_304 ⟨Nat.le_of_ble_eq_true rfl, Nat.le_of_ble_eq_true rfl⟩) hS (fun q _ h => hFc q h) hFc (fun r_32 u t H1 locs1 ht hvm hw hB hz1 hk1 hS => ?_)
    obtain ⟨hP, hD⟩ := va_rest (wr := [(dr, .inl (cO, 26, .inr (.inr (.inr (.inr fD))))), (rr, .inl (cI, 5, .inl (fun _ => 0))), (ty0, .inl (cT, 8, .inl (fun _ => 0))), (sf, .inr (10, [.int 0, sf1, .int 0, .int 0, .int 0, .int 1, .int 0])), (sb, .inr (10, [.int 1, sb1, .int 0, .int 0, .int 0, .int 1, .int 0])), (ra0, .inl (cR, 6, .inl (fun _ => 0))), (bk, .inr (6, [.ref a0, .ref a1, .ref a2, .ref mo, .int 0])), (a0, .inl (cB0, 8, .inl (fun _ => 0))), (a1, .inl (cB1, 8, .inl (fun _ => 0))), (a2, .inl (cB2, 8, .inl (fun _ => 0))), (mo, .inl (cM, 256, .inl (fun _ => 0))), (dl, .inl (cO8, 26, .inr (.inr (.inr (.inr fL))))), (rr8, .inl (cI8, 5, .inl (fun _ => 0))), (ff, .inr (13, [tf, .int 0, .int 0, .int 1, .int 0])), (fb, .inr (13, [tb, .int 0, .int 0, .int 1, .int 0])), (lw, .inr (5, [.int 0, .ref (em 0), .int 0])), (lo, .inr (5, [.int 0, .ref (em 0), .int 0])), (od, .inl (cOd, 1, .inr (.inr (.inr (.inl (fun _ => 0)))))), (ou, .inl (cOut, 1, .inr (.inl gOx_13)))]) hP hD [19] [0, 1, 2, 3, 4, 5, 6, 7, 8, 9, 10, 11, 12, 13, 14, 15, 16, 17, 18] rfl rfl (by decide) (by decide) hk1 hFc
    generalize H1 = H at hP hS ⊢
    refine W.widen (k := 154) (n := 2236) (Nat.le_of_ble_eq_true rfl) (Nat.le_of_ble_eq_true rfl) ?_
    have hw : r_32 = 1 := hw
    rw [hw]
    refine lv_iload hx hb dL_law_307 (lv_at hl 1 rfl) ?_
    refine lv_icmp_eq (tgt := 314) hx hb dL_law_309 (by decide) (fun c_33 => ?_) (fun c_33 => ?_)
    · refine lv_iload hx hb dL_law_314 (lv_at hl 1 rfl) ?_
      refine lv_if_ne (tgt := 331) hx hb dL_law_316 (by decide) (fun c_34 => ?_) (fun c_34 => ?_)
      · refine lv_goto (tgt := 2636) hx hb dL_law_331 (by decide) ?_
        refine lv_iinc (v := 6) (lv' := [(5, .int 6), (7, .int 0), (6, .int 1), (4, .ref od), (3, .ref ou), (2, .ref m0), (1, .ref x0), (0, .ref b)]) hx hb dL_law_2636 hl (k := 2) rfl (by decide) (by decide) rfl (fun ls hl => ?_)
        refine lv_goto (tgt := 28) hx hb dL_law_2639 (by decide) ?_
        refine lv_iload hx hb dL_law_28 (lv_at hl 0 rfl) ?_
        refine lv_aload_n hx hb dL_law_30 rfl (lv_at hl 7 rfl) ?_
        refine va_slen hx hb hX hbl hbA hS dL_law_31 ?_
        refine lv_topi (fun n_35 en_35 => ?_)
        obtain rfl : n_35 = 6 := en_35.trans (by decide)
        refine lv_bipush (v := 6) hx hb dL_law_32 (by decide) ?_
        refine lv_isub hx hb dL_law_34 ?_
        refine lv_topi (fun k_36 ek_36 => ?_)
        obtain rfl : k_36 = 0 := ek_36.trans (by decide)
        refine lv_icmp_gt (tgt := 2642) hx hb dL_law_35 (by decide) (fun c_37 => ?_) (fun c_37 => ?_)
        · refine lv_iconst (v := 1) hx hb dL_law_2642 (by decide) ?_
          refine W.widen (k := 600006) (n := 7302072) (Nat.le_of_ble_eq_true rfl) (Nat.le_of_ble_eq_true rfl) ?_
          refine va_forget hS.2.2 ?_
          refine W.base ?_
          exact lw_ret (Drawn.sameBut.refl s.drawn lw_cs) hx hb hr hlocks dL_law_2643
        · exact absurd (by decide) c_37
      · exact absurd c_34 (by decide)
    · exact absurd (by decide) c_33
  · have hw := hw.2 t_15
    rw [hw]
    refine lv_istore (lv' := [(6, .int 0), (5, .int 0), (4, .ref od), (3, .ref ou), (2, .ref m0), (1, .ref x0), (0, .ref b)]) hx hb dL_law_264 hl (by decide) rfl (fun ls hl => ?_)
    refine lv_aload_n hx hb dL_law_266 rfl (lv_at hl 4 rfl) ?_
    refine lv_aload_n hx hb dL_law_267 rfl (lv_at hl 6 rfl) ?_
    refine lv_iload hx hb dL_law_268 (lv_at hl 1 rfl) ?_
    refine lv_iconst (v := 1) hx hb dL_law_270 (by decide) ?_
    refine lv_iadd hx hb dL_law_271 ?_
    refine lv_topi (fun k_38 ek_38 => ?_)
    obtain rfl : k_38 = 1 := ek_38.trans (by decide)
    refine va_sld hx hb hX hbl hbA hS (vp_in_iff.mpr ⟨by decide, by decide⟩) dL_law_272 ?_
    refine lv_topi (fun y_39 ey_39 => ?_)
    have ey_39 : y_39 = xs 1 := ey_39
    obtain rfl : y_2 = y_39 := ey_2.trans ey_39.symm
    refine lv_aload_n hx hb dL_law_273 rfl (lv_at hl 6 rfl) ?_
    refine lv_iload hx hb dL_law_274 (lv_at hl 1 rfl) ?_
    refine lv_iconst (v := 2) hx hb dL_law_276 (by decide) ?_
    refine lv_iadd hx hb dL_law_277 ?_
    refine lv_topi (fun k_40 ek_40 => ?_)
    obtain rfl : k_40 = 2 := ek_40.trans (by decide)
    refine va_sld hx hb hX hbl hbA hS (vp_in_iff.mpr ⟨by decide, by decide⟩) dL_law_278 ?_
    refine lv_topi (fun y_41 ey_41 => ?_)
    have ey_41 : y_41 = xs 2 := ey_41
    obtain rfl : y_4 = y_41 := ey_4.trans ey_41.symm
    refine lv_aload_n hx hb dL_law_279 rfl (lv_at hl 6 rfl) ?_
    refine lv_iload hx hb dL_law_280 (lv_at hl 1 rfl) ?_
    refine lv_iconst (v := 3) hx hb dL_law_282 (by decide) ?_
    refine lv_iadd hx hb dL_law_283 ?_
    refine lv_topi (fun k_42 ek_42 => ?_)
    obtain rfl : k_42 = 3 := ek_42.trans (by decide)
    refine va_sld hx hb hX hbl hbA hS (vp_in_iff.mpr ⟨by decide, by decide⟩) dL_law_284 ?_
    refine lv_topi (fun y_43 ey_43 => ?_)
    have ey_43 : y_43 = xs 3 := ey_43
    obtain rfl : y_6 = y_43 := ey_6.trans ey_43.symm
    refine lv_aload_n hx hb dL_law_285 rfl (lv_at hl 6 rfl) ?_
    refine lv_iload hx hb dL_law_286 (lv_at hl 1 rfl) ?_
    refine lv_iconst (v := 4) hx hb dL_law_288 (by decide) ?_
    refine lv_iadd hx hb dL_law_289 ?_
    refine lv_topi (fun k_44 ek_44 => ?_)
    obtain rfl : k_44 = 4 := ek_44.trans (by decide)
    refine va_sld hx hb hX hbl hbA hS (vp_in_iff.mpr ⟨by decide, by decide⟩) dL_law_290 ?_
    refine lv_topi (fun y_45 ey_45 => ?_)
    have ey_45 : y_45 = xs 4 := ey_45
    obtain rfl : y_8 = y_45 := ey_8.trans ey_45.symm
    refine lv_aload_n hx hb dL_law_291 rfl (lv_at hl 6 rfl) ?_
    refine lv_iload hx hb dL_law_292 (lv_at hl 1 rfl) ?_
    refine lv_iconst (v := 5) hx hb dL_law_294 (by decide) ?_
    refine lv_iadd hx hb dL_law_295 ?_
    refine lv_topi (fun k_46 ek_46 => ?_)
    obtain rfl : k_46 = 5 := ek_46.trans (by decide)
    refine va_sld hx hb hX hbl hbA hS (vp_in_iff.mpr ⟨by decide, by decide⟩) dL_law_296 ?_
    refine lv_topi (fun y_47 ey_47 => ?_)
    have ey_47 : y_47 = xs 5 := ey_47
    obtain rfl : y_10 = y_47 := ey_10.trans ey_47.symm
    refine lv_i2c hx hb dL_law_297 rfl ?_
    refine lv_topi (fun z_48 ez_48 => ?_)
    obtain rfl : z_11 = z_48 := ez_11.trans ez_48.symm
    have hPc := hP.sub (ws' := [(m0, .inr (14, [.ref lc, .ref lp, .ref dl, .ref ff, .ref fb, .ref lw, .ref lo, .ref (em 1), .int 0])), (lc, .inr (5, [.int 0, .ref (em 0), .int 0])), (lp, .inr (5, [.int 0, .ref (em 0), .int 0]))]) [11, 12, 13] rfl
    have hDc := hD.sub (ws' := [(m0, .inr (14, [.ref lc, .ref lp, .ref dl, .ref ff, .ref fb, .ref lw, .ref lo, .ref (em 1), .int 0])), (lc, .inr (5, [.int 0, .ref (em 0), .int 0])), (lp, .inr (5, [.int 0, .ref (em 0), .int 0]))]) [11, 12, 13] (by decide) rfl
    have hKc := hK.sub (tys' := []) [] rfl
    have hFc := va_free (wc := [(m0, .inr (14, [.ref lc, .ref lp, .ref dl, .ref ff, .ref fb, .ref lw, .ref lo, .ref (em 1), .int 0])), (lc, .inr (5, [.int 0, .ref (em 0), .int 0])), (lp, .inr (5, [.int 0, .ref (em 0), .int 0]))]) hD hS hA [11, 12, 13] rfl
    refine va_calli (va_runV (As := [.int y_2, .int y_4, .int y_6, .int y_8, .int z_11]) (rest := []) ⟨hx, hb, hml, hown, hts⟩ (c_X8_card l em dC dI m0 y_2 y_4 y_6 y_8 z_11 (.ref dl) (.ref ff) (.ref fb) (.ref lw) (.ref lo) (.ref (em 1)) (.int 0) lc lp H.size) (cwV 5 hts gT_X8_card rfl rfl rfl (by decide +kernel) ⟨Nat.le_of_ble_eq_true rfl, Nat.le_of_ble_eq_true rfl⟩) ⟨Pw.blind _ _ _ _ _ _ _, va_recv hKc hPc (ci := 14) (q0 := 0) rfl rfl, fun U hU hW => ⟨rfl, Pw.go hPc hKc hDc hamb hS hFc hU hW⟩⟩ rfl rfl hl.1 rfl (lv_room (Nat.le_of_ble_eq_true rfl)) dL_law_298 ⟨Nat.le_of_ble_eq_true rfl, Nat.le_of_ble_eq_true rfl⟩) hS (fun q _ h => hFc q h) hFc (fun r_49 u t H1 locs1 ht hvm hw hB hz1 hk1 hS => ?_)
    obtain ⟨tvx_50, ⟨hP1, hK1, hD1⟩, f_51, f_52⟩ := hB
    rw [ht] at hP1
    have hK1 := va_K.moved hvm.symm hK1
    obtain ⟨hP, hD⟩ := va_join (wr := [(dr, .inl (cO, 26, .inr (.inr (.inr (.inr fD))))), (rr, .inl (cI, 5, .inl (fun _ => 0))), (ty0, .inl (cT, 8, .inl (fun _ => 0))), (sf, .inr (10, [.int 0, sf1, .int 0, .int 0, .int 0, .int 1, .int 0])), (sb, .inr (10, [.int 1, sb1, .int 0, .int 0, .int 0, .int 1, .int 0])), (ra0, .inl (cR, 6, .inl (fun _ => 0))), (bk, .inr (6, [.ref a0, .ref a1, .ref a2, .ref mo, .int 0])), (a0, .inl (cB0, 8, .inl (fun _ => 0))), (a1, .inl (cB1, 8, .inl (fun _ => 0))), (a2, .inl (cB2, 8, .inl (fun _ => 0))), (mo, .inl (cM, 256, .inl (fun _ => 0))), (dl, .inl (cO8, 26, .inr (.inr (.inr (.inr fL))))), (rr8, .inl (cI8, 5, .inl (fun _ => 0))), (ff, .inr (13, [tf, .int 0, .int 0, .int 1, .int 0])), (fb, .inr (13, [tb, .int 0, .int 0, .int 1, .int 0])), (lw, .inr (5, [.int 0, .ref (em 0), .int 0])), (lo, .inr (5, [.int 0, .ref (em 0), .int 0])), (od, .inl (cOd, 1, .inr (.inr (.inr (.inl (fun _ => 0)))))), (ou, .inl (cOut, 1, .inr (.inl gOx_13)))]) (w1 := [(m0, .inr (14, [.ref lc, .ref lp, .ref dl, .ref ff, .ref fb, .ref lw, .ref lo, .ref (em 1), .int tvx_50]))]) hP hD [11, 12, 13] [0, 1, 2, 3, 4, 5, 6, 7, 8, 9, 10, 14, 15, 16, 17, 18, 19, 20, 21] rfl rfl (by decide) (by decide) hk1 hFc hP1 hD1
    have hK := (hK.sub (tys' := [(cC, (.object "Bothfaces$Card")), (cH, .int), (cO, (.array .int)), (cI, .int), (cT, .int), (cR, .int), (cB0, .int), (cB1, .int), (cB2, .int), (cM, .int), (cO8, (.array .int)), (cI8, .int), (cOd, .double), (cOut, .long)]) [0, 1, 2, 3, 4, 5, 6, 7, 8, 9, 10, 11, 12, 13] rfl).app hK1
    generalize H1 = H at hP hS ⊢
    have hP : va_P (dC, dI) vwCl [(dr, .inl (cO, 26, .inr (.inr (.inr (.inr fD))))), (rr, .inl (cI, 5, .inl (fun _ => 0))), (ty0, .inl (cT, 8, .inl (fun _ => 0))), (sf, .inr (10, [.int 0, sf1, .int 0, .int 0, .int 0, .int 1, .int 0])), (sb, .inr (10, [.int 1, sb1, .int 0, .int 0, .int 0, .int 1, .int 0])), (ra0, .inl (cR, 6, .inl (fun _ => 0))), (bk, .inr (6, [.ref a0, .ref a1, .ref a2, .ref mo, .int 0])), (a0, .inl (cB0, 8, .inl (fun _ => 0))), (a1, .inl (cB1, 8, .inl (fun _ => 0))), (a2, .inl (cB2, 8, .inl (fun _ => 0))), (mo, .inl (cM, 256, .inl (fun _ => 0))), (dl, .inl (cO8, 26, .inr (.inr (.inr (.inr fL))))), (rr8, .inl (cI8, 5, .inl (fun _ => 0))), (ff, .inr (13, [tf, .int 0, .int 0, .int 1, .int 0])), (fb, .inr (13, [tb, .int 0, .int 0, .int 1, .int 0])), (lw, .inr (5, [.int 0, .ref (em 0), .int 0])), (lo, .inr (5, [.int 0, .ref (em 0), .int 0])), (od, .inl (cOd, 1, .inr (.inr (.inr (.inl (fun _ => 0)))))), (ou, .inl (cOut, 1, .inr (.inl gOx_13))), (m0, .inr (14, [.ref lc, .ref lp, .ref dl, .ref ff, .ref fb, .ref lw, .ref lo, .ref (em 1), .int tvx_50]))] H := hP
    have hD : va_D (fun q : Nat => s.heap.size ≤ q) [(dr, .inl (cO, 26, .inr (.inr (.inr (.inr fD))))), (rr, .inl (cI, 5, .inl (fun _ => 0))), (ty0, .inl (cT, 8, .inl (fun _ => 0))), (sf, .inr (10, [.int 0, sf1, .int 0, .int 0, .int 0, .int 1, .int 0])), (sb, .inr (10, [.int 1, sb1, .int 0, .int 0, .int 0, .int 1, .int 0])), (ra0, .inl (cR, 6, .inl (fun _ => 0))), (bk, .inr (6, [.ref a0, .ref a1, .ref a2, .ref mo, .int 0])), (a0, .inl (cB0, 8, .inl (fun _ => 0))), (a1, .inl (cB1, 8, .inl (fun _ => 0))), (a2, .inl (cB2, 8, .inl (fun _ => 0))), (mo, .inl (cM, 256, .inl (fun _ => 0))), (dl, .inl (cO8, 26, .inr (.inr (.inr (.inr fL))))), (rr8, .inl (cI8, 5, .inl (fun _ => 0))), (ff, .inr (13, [tf, .int 0, .int 0, .int 1, .int 0])), (fb, .inr (13, [tb, .int 0, .int 0, .int 1, .int 0])), (lw, .inr (5, [.int 0, .ref (em 0), .int 0])), (lo, .inr (5, [.int 0, .ref (em 0), .int 0])), (od, .inl (cOd, 1, .inr (.inr (.inr (.inl (fun _ => 0)))))), (ou, .inl (cOut, 1, .inr (.inl gOx_13))), (m0, .inr (14, [.ref lc, .ref lp, .ref dl, .ref ff, .ref fb, .ref lw, .ref lo, .ref (em 1), .int tvx_50]))] := hD
    have hK : va_K (dC, dI) vwCl [(cC, (.object "Bothfaces$Card")), (cH, .int), (cO, (.array .int)), (cI, .int), (cT, .int), (cR, .int), (cB0, .int), (cB1, .int), (cB2, .int), (cM, .int), (cO8, (.array .int)), (cI8, .int), (cOd, .double), (cOut, .long)] s := hK
    refine W.widen (k := 154) (n := 2236) (Nat.le_of_ble_eq_true rfl) (Nat.le_of_ble_eq_true rfl) ?_
    have hw : ((y_2.toInt < 0 ∨ 7 < y_2.toInt ∨ y_4.toInt < 0 ∨ 7 < y_4.toInt ∨ y_6.toInt < 0 ∨ 7 < y_6.toInt ∨ y_8.toInt < 0 ∨ 7 < y_8.toInt ∨ (z_11.toInt ≠ 115 ∧ z_11.toInt ≠ 122)) → r_49 = 0) ∧ (¬ (y_2.toInt < 0 ∨ 7 < y_2.toInt ∨ y_4.toInt < 0 ∨ 7 < y_4.toInt ∨ y_6.toInt < 0 ∨ 7 < y_6.toInt ∨ y_8.toInt < 0 ∨ 7 < y_8.toInt ∨ (z_11.toInt ≠ 115 ∧ z_11.toInt ≠ 122)) → r_49 = 0) := hw
    have hw := hw.2 t_15
    rw [hw]
    obtain rfl : tvx_50 = 0 := f_52 t_15
    refine lv_istore (lv' := [(7, .int 0), (6, .int 0), (5, .int 0), (4, .ref od), (3, .ref ou), (2, .ref m0), (1, .ref x0), (0, .ref b)]) hx hb dL_law_301 hl (by decide) rfl (fun ls hl => ?_)
    refine lv_aload_n hx hb dL_law_303 rfl (lv_at hl 5 rfl) ?_
    have hPc := hP.sub (ws' := [(m0, .inr (14, [.ref lc, .ref lp, .ref dl, .ref ff, .ref fb, .ref lw, .ref lo, .ref (em 1), .int 0]))]) [19] rfl
    have hDc := hD.sub (ws' := [(m0, .inr (14, [.ref lc, .ref lp, .ref dl, .ref ff, .ref fb, .ref lw, .ref lo, .ref (em 1), .int 0]))]) [19] (by decide) rfl
    have hKc := hK.sub (tys' := []) [] rfl
    have hFc := va_free (wc := [(m0, .inr (14, [.ref lc, .ref lp, .ref dl, .ref ff, .ref fb, .ref lw, .ref lo, .ref (em 1), .int 0]))]) hD hS hA [19] rfl
    refine va_calli (va_runV (As := []) (rest := []) ⟨hx, hb, hml, hown, hts⟩ (c_X8_thrown l em dC dI m0 0 (.ref lc) (.ref lp) (.ref dl) (.ref ff) (.ref fb) (.ref lw) (.ref lo) (.ref (em 1)) H.size) (cwV 0 hts gT_X8_thrown rfl rfl rfl (by decide +kernel) ⟨Nat.le_of_ble_eq_true rfl, Nat.le_of_ble_eq_true rfl⟩) ⟨Pw.blind _ _ _ _ _ _ _, va_recv hKc hPc (ci := 14) (q0 := 0) rfl rfl, fun U hU hW => ⟨rfl, Pw.go hPc hKc hDc hamb hS hFc hU hW⟩⟩ rfl rfl hl.1 rfl (lv_room (Nat.le_of_ble_eq_true rfl)) dL_law_304 ⟨Nat.le_of_ble_eq_true rfl, Nat.le_of_ble_eq_true rfl⟩) hS (fun q _ h => hFc q h) hFc (fun r_54 u t H1 locs1 ht hvm hw hB hz1 hk1 hS => ?_)
    obtain ⟨hP, hD⟩ := va_rest (wr := [(dr, .inl (cO, 26, .inr (.inr (.inr (.inr fD))))), (rr, .inl (cI, 5, .inl (fun _ => 0))), (ty0, .inl (cT, 8, .inl (fun _ => 0))), (sf, .inr (10, [.int 0, sf1, .int 0, .int 0, .int 0, .int 1, .int 0])), (sb, .inr (10, [.int 1, sb1, .int 0, .int 0, .int 0, .int 1, .int 0])), (ra0, .inl (cR, 6, .inl (fun _ => 0))), (bk, .inr (6, [.ref a0, .ref a1, .ref a2, .ref mo, .int 0])), (a0, .inl (cB0, 8, .inl (fun _ => 0))), (a1, .inl (cB1, 8, .inl (fun _ => 0))), (a2, .inl (cB2, 8, .inl (fun _ => 0))), (mo, .inl (cM, 256, .inl (fun _ => 0))), (dl, .inl (cO8, 26, .inr (.inr (.inr (.inr fL))))), (rr8, .inl (cI8, 5, .inl (fun _ => 0))), (ff, .inr (13, [tf, .int 0, .int 0, .int 1, .int 0])), (fb, .inr (13, [tb, .int 0, .int 0, .int 1, .int 0])), (lw, .inr (5, [.int 0, .ref (em 0), .int 0])), (lo, .inr (5, [.int 0, .ref (em 0), .int 0])), (od, .inl (cOd, 1, .inr (.inr (.inr (.inl (fun _ => 0)))))), (ou, .inl (cOut, 1, .inr (.inl gOx_13)))]) hP hD [19] [0, 1, 2, 3, 4, 5, 6, 7, 8, 9, 10, 11, 12, 13, 14, 15, 16, 17, 18] rfl rfl (by decide) (by decide) hk1 hFc
    generalize H1 = H at hP hS ⊢
    refine W.widen (k := 154) (n := 2236) (Nat.le_of_ble_eq_true rfl) (Nat.le_of_ble_eq_true rfl) ?_
    have hw : r_54 = 0 := hw
    rw [hw]
    refine lv_iload hx hb dL_law_307 (lv_at hl 1 rfl) ?_
    refine lv_icmp_eq (tgt := 314) hx hb dL_law_309 (by decide) (fun c_55 => ?_) (fun c_55 => ?_)
    · refine lv_iload hx hb dL_law_314 (lv_at hl 1 rfl) ?_
      refine lv_if_ne (tgt := 331) hx hb dL_law_316 (by decide) (fun c_56 => ?_) (fun c_56 => ?_)
      · exact absurd (by decide) c_56
      · refine lv_aload_n hx hb dL_law_319 rfl (lv_at hl 4 rfl) ?_
        refine lv_iconst (v := 0) hx hb dL_law_320 (by decide) ?_
        refine va_lald hx hb hK hP 18 13 rfl rfl (vp_in_iff.mpr ⟨by decide, by decide⟩) dL_law_321 ?_
        refine lv_topl (fun k_57 ek_57 => ?_)
        obtain rfl : 0 = k_57 := (ek_57.trans (f_14 t_15)).symm
        refine lv_iload hx hb dL_law_322 (lv_at hl 0 rfl) ?_
        refine lv_i2l (v := 0) hx hb dL_law_324 (by decide) ?_
        refine W.lcmp hx hb dL_law_325 ?_
        refine lv_topi (fun k_58 ek_58 => ?_)
        obtain rfl : k_58 = 0 := ek_58.trans (by decide)
        refine lv_if_eq (tgt := 331) hx hb dL_law_326 (by decide) (fun c_59 => ?_) (fun c_59 => ?_)
        · refine lv_goto (tgt := 2636) hx hb dL_law_331 (by decide) ?_
          refine lv_iinc (v := 6) (lv' := [(5, .int 6), (7, .int 0), (6, .int 0), (4, .ref od), (3, .ref ou), (2, .ref m0), (1, .ref x0), (0, .ref b)]) hx hb dL_law_2636 hl (k := 2) rfl (by decide) (by decide) rfl (fun ls hl => ?_)
          refine lv_goto (tgt := 28) hx hb dL_law_2639 (by decide) ?_
          refine lv_iload hx hb dL_law_28 (lv_at hl 0 rfl) ?_
          refine lv_aload_n hx hb dL_law_30 rfl (lv_at hl 7 rfl) ?_
          refine va_slen hx hb hX hbl hbA hS dL_law_31 ?_
          refine lv_topi (fun n_60 en_60 => ?_)
          obtain rfl : n_60 = 6 := en_60.trans (by decide)
          refine lv_bipush (v := 6) hx hb dL_law_32 (by decide) ?_
          refine lv_isub hx hb dL_law_34 ?_
          refine lv_topi (fun k_61 ek_61 => ?_)
          obtain rfl : k_61 = 0 := ek_61.trans (by decide)
          refine lv_icmp_gt (tgt := 2642) hx hb dL_law_35 (by decide) (fun c_62 => ?_) (fun c_62 => ?_)
          · refine lv_iconst (v := 1) hx hb dL_law_2642 (by decide) ?_
            refine W.widen (k := 600006) (n := 7302072) (Nat.le_of_ble_eq_true rfl) (Nat.le_of_ble_eq_true rfl) ?_
            refine va_forget hS.2.2 ?_
            refine W.base ?_
            exact lw_ret (Drawn.sameBut.refl s.drawn lw_cs) hx hb hr hlocks dL_law_2643
          · exact absurd (by decide) c_62
        · exact absurd (by decide) c_59
    · exact absurd (by decide) c_55

set_option maxHeartbeats 4000000 in
set_option maxRecDepth 100000 in
theorem law_1 {p : Program} {e : Env} {s : State} {m : MethodId} {below : List Frame} {meth : Method} {c : Code} (l : Launch) (hlt : l.stackTraces = false) {b : Nat} {xs : Nat → Int32} (C0 : lw_At p s m meth c b 6 xs) (em : Nat → Nat) (dC : Nat → ClassId) (dI : Nat → Nat → Nat) (j : Nat) (hjj : ∀ z : Int32, z = ((xs 1).toUInt32 % 65536).toInt32 → 97 ≤ z.toInt → z.toInt ≤ 122 → (z - 97).toNatClampNeg = j) (x0 : Nat) (ca : Nat) (dr : Nat) (ty0 : Nat) (sf : Nat) (sb : Nat) (ra0 : Nat) (bk : Nat) (c0 : Nat) (th : Nat) (rr : Nat) (a0 : Nat) (a1 : Nat) (a2 : Nat) (mo : Nat) (vp : Value) (vm : Value) (u1 : Value) (u2 : Value) (sf1 : Value) (sb1 : Value) (fC : Nat → Option Nat) (fD : Nat → Option Nat) (cC : ClassId) (cH : ClassId) (cO : ClassId) (cI : ClassId) (cT : ClassId) (cR : ClassId) (cB0 : ClassId) (cB1 : ClassId) (cB2 : ClassId) (cM : ClassId) (m0 : Nat) (lc : Nat) (lp : Nat) (dl : Nat) (rr8 : Nat) (ff : Nat) (fb : Nat) (lw : Nat) (lo : Nat) (tf : Value) (tb : Value) (fL : Nat → Option Nat) (cO8 : ClassId) (cI8 : ClassId) (ou : Nat) (od : Nat) (cOut : ClassId) (cOd : ClassId) (hfC : fC 0 = some c0) (hfD : fD j = some rr) (hfL : fL j = some rr8) {H : Heap} {locs : List Loc} (hamb : amb em (fun q : Nat => s.heap.size ≤ q) s s.heap) (hK : va_K (dC, dI) vwCl [(cC, (.object "Bothfaces$Card")), (cH, .int), (cO, (.array .int)), (cI, .int), (cT, .int), (cR, .int), (cB0, .int), (cB1, .int), (cB2, .int), (cM, .int), (cO8, (.array .int)), (cI8, .int), (cOut, .long), (cOd, .double)] s) (hP : va_P (dC, dI) vwCl [(x0, .inr (11, [.ref ca, .int 0, .int 0, .ref dr, .ref ty0, .int 0, .ref sf, .ref sb, vp, vm, .ref ra0, .int 0, .ref bk])), (ca, .inl (cC, 16, .inr (.inr (.inr (.inr fC))))), (c0, .inr (7, [.ref th, u1, u2, .int 0, .int 0, .int 0, .int 0])), (th, .inl (cH, 4, .inl (fun _ => 0))), (dr, .inl (cO, 26, .inr (.inr (.inr (.inr fD))))), (rr, .inl (cI, 5, .inl (fun _ => 0))), (ty0, .inl (cT, 8, .inl (fun _ => 0))), (sf, .inr (10, [.int 0, sf1, .int 0, .int 0, .int 0, .int 1, .int 0])), (sb, .inr (10, [.int 1, sb1, .int 0, .int 0, .int 0, .int 1, .int 0])), (ra0, .inl (cR, 6, .inl (fun _ => 0))), (bk, .inr (6, [.ref a0, .ref a1, .ref a2, .ref mo, .int 0])), (a0, .inl (cB0, 8, .inl (fun _ => 0))), (a1, .inl (cB1, 8, .inl (fun _ => 0))), (a2, .inl (cB2, 8, .inl (fun _ => 0))), (mo, .inl (cM, 256, .inl (fun _ => 0))), (m0, .inr (14, [.ref lc, .ref lp, .ref dl, .ref ff, .ref fb, .ref lw, .ref lo, .ref (em 1), .int 0])), (lc, .inr (5, [.int 0, .ref (em 0), .int 0])), (lp, .inr (5, [.int 0, .ref (em 0), .int 0])), (dl, .inl (cO8, 26, .inr (.inr (.inr (.inr fL))))), (rr8, .inl (cI8, 5, .inl (fun _ => 0))), (ff, .inr (13, [tf, .int 0, .int 0, .int 1, .int 0])), (fb, .inr (13, [tb, .int 0, .int 0, .int 1, .int 0])), (lw, .inr (5, [.int 0, .ref (em 0), .int 0])), (lo, .inr (5, [.int 0, .ref (em 0), .int 0])), (ou, .inl (cOut, 1, .inr (.inl (fun _ => 0)))), (od, .inl (cOd, 1, .inr (.inr (.inr (.inl (fun _ => 0))))))] H) (hD : va_D (fun q : Nat => s.heap.size ≤ q) [(x0, .inr (11, [.ref ca, .int 0, .int 0, .ref dr, .ref ty0, .int 0, .ref sf, .ref sb, vp, vm, .ref ra0, .int 0, .ref bk])), (ca, .inl (cC, 16, .inr (.inr (.inr (.inr fC))))), (c0, .inr (7, [.ref th, u1, u2, .int 0, .int 0, .int 0, .int 0])), (th, .inl (cH, 4, .inl (fun _ => 0))), (dr, .inl (cO, 26, .inr (.inr (.inr (.inr fD))))), (rr, .inl (cI, 5, .inl (fun _ => 0))), (ty0, .inl (cT, 8, .inl (fun _ => 0))), (sf, .inr (10, [.int 0, sf1, .int 0, .int 0, .int 0, .int 1, .int 0])), (sb, .inr (10, [.int 1, sb1, .int 0, .int 0, .int 0, .int 1, .int 0])), (ra0, .inl (cR, 6, .inl (fun _ => 0))), (bk, .inr (6, [.ref a0, .ref a1, .ref a2, .ref mo, .int 0])), (a0, .inl (cB0, 8, .inl (fun _ => 0))), (a1, .inl (cB1, 8, .inl (fun _ => 0))), (a2, .inl (cB2, 8, .inl (fun _ => 0))), (mo, .inl (cM, 256, .inl (fun _ => 0))), (m0, .inr (14, [.ref lc, .ref lp, .ref dl, .ref ff, .ref fb, .ref lw, .ref lo, .ref (em 1), .int 0])), (lc, .inr (5, [.int 0, .ref (em 0), .int 0])), (lp, .inr (5, [.int 0, .ref (em 0), .int 0])), (dl, .inl (cO8, 26, .inr (.inr (.inr (.inr fL))))), (rr8, .inl (cI8, 5, .inl (fun _ => 0))), (ff, .inr (13, [tf, .int 0, .int 0, .int 1, .int 0])), (fb, .inr (13, [tb, .int 0, .int 0, .int 1, .int 0])), (lw, .inr (5, [.int 0, .ref (em 0), .int 0])), (lo, .inr (5, [.int 0, .ref (em 0), .int 0])), (ou, .inl (cOut, 1, .inr (.inl (fun _ => 0)))), (od, .inl (cOd, 1, .inr (.inr (.inr (.inl (fun _ => 0))))))]) (hS : va_S (fun q : Nat => s.heap.size ≤ q) s.heap H locs) {ls : Array Slot} (hl : lv_has ls 9 [(5, .int 0), (4, .ref od), (3, .ref ou), (2, .ref m0), (1, .ref x0), (0, .ref b)]) : W p l e room_1 s m #[Value.ref b] below meth c H locs 146 2187 (lw_Z below #[Value.ref b] s) (F0 m 334 ls []) := by
  obtain ⟨hx, hb, hr, hml, hown0, hts0, hX, hbl, hlocks, hgv⟩ := id C0
  have hts := ow_hts hts0
  have hown : s.vm.findClass RL = some m.cls := hown0
  have hA : ∀ q : Nat, s.heap.size ≤ q → (fun q : Nat => s.heap.size ≤ q) q := fun _ h => h
  have hbA : ¬ (fun q : Nat => s.heap.size ≤ q) b := Nat.not_le.mpr hbl
  refine lv_aload_n hx hb dL_law_334 rfl (lv_at hl 4 rfl) ?_
  refine lv_aload_n hx hb dL_law_335 rfl (lv_at hl 5 rfl) ?_
  refine lv_iload hx hb dL_law_336 (lv_at hl 0 rfl) ?_
  refine lv_iconst (v := 1) hx hb dL_law_338 (by decide) ?_
  refine lv_iadd hx hb dL_law_339 ?_
  refine lv_topi (fun k_1 ek_1 => ?_)
  obtain rfl : k_1 = 1 := ek_1.trans (by decide)
  refine va_sld hx hb hX hbl hbA hS (vp_in_iff.mpr ⟨by decide, by decide⟩) dL_law_340 ?_
  refine lv_topi (fun y_2 ey_2 => ?_)
  have ey_2 : y_2 = xs 1 := ey_2
  refine lv_aload_n hx hb dL_law_341 rfl (lv_at hl 5 rfl) ?_
  refine lv_iload hx hb dL_law_342 (lv_at hl 0 rfl) ?_
  refine lv_iconst (v := 2) hx hb dL_law_344 (by decide) ?_
  refine lv_iadd hx hb dL_law_345 ?_
  refine lv_topi (fun k_3 ek_3 => ?_)
  obtain rfl : k_3 = 2 := ek_3.trans (by decide)
  refine va_sld hx hb hX hbl hbA hS (vp_in_iff.mpr ⟨by decide, by decide⟩) dL_law_346 ?_
  refine lv_topi (fun y_4 ey_4 => ?_)
  have ey_4 : y_4 = xs 2 := ey_4
  refine lv_aload_n hx hb dL_law_347 rfl (lv_at hl 2 rfl) ?_
  have hPc := hP.sub (ws' := [(x0, .inr (11, [.ref ca, .int 0, .int 0, .ref dr, .ref ty0, .int 0, .ref sf, .ref sb, vp, vm, .ref ra0, .int 0, .ref bk])), (ou, .inl (cOut, 1, .inr (.inl (fun _ => 0))))]) [0, 24] rfl
  have hDc := hD.sub (ws' := [(x0, .inr (11, [.ref ca, .int 0, .int 0, .ref dr, .ref ty0, .int 0, .ref sf, .ref sb, vp, vm, .ref ra0, .int 0, .ref bk])), (ou, .inl (cOut, 1, .inr (.inl (fun _ => 0))))]) [0, 24] (by decide) rfl
  have hKc := hK.sub (tys' := [(cOut, .long)]) [12] rfl
  have hFc := va_free (wc := [(x0, .inr (11, [.ref ca, .int 0, .int 0, .ref dr, .ref ty0, .int 0, .ref sf, .ref sb, vp, vm, .ref ra0, .int 0, .ref bk])), (ou, .inl (cOut, 1, .inr (.inl (fun _ => 0))))]) hD hS hA [0, 24] rfl
  refine va_calli (vx_runSW (As := [.ref x0, .int y_2, .int y_4, .ref ou]) (rest := []) ⟨hx, hb, hml, hown, hts⟩ (c_L_setPack l hlt em dC dI x0 y_2 y_4 (.ref ca) (.int 0) (.ref dr) (.ref ty0) (.int 0) (.ref sf) (.ref sb) vp vm (.ref ra0) (.int 0) (.ref bk) ou cOut (fun _ => 0) H.size) (vx_cwSW 4 hts gT_L_setPack rfl rfl rfl (by decide +kernel) ⟨Nat.le_of_ble_eq_true rfl, Nat.le_of_ble_eq_true rfl⟩) ⟨Pw.blind _ _ _ _ _ _ _, fun U hU hW => ⟨rfl, Pw.go hPc hKc hDc hamb hS hFc hU hW⟩⟩ rfl rfl hl.1 rfl (lv_room (Nat.le_of_ble_eq_true rfl)) dL_law_348 ⟨Nat.le_of_ble_eq_true rfl, Nat.le_of_ble_eq_true rfl⟩) hS (fun q _ h => hFc q h) hFc (fun r_5 u t H1 locs1 ht hvm hw hB hz1 hk1 hS => ?_)
  obtain ⟨hP1, hK1, hD1⟩ := hB
  rw [ht] at hP1
  have hK1 := va_K.moved hvm.symm hK1
  obtain ⟨hP, hD⟩ := va_join (wr := [(ca, .inl (cC, 16, .inr (.inr (.inr (.inr fC))))), (c0, .inr (7, [.ref th, u1, u2, .int 0, .int 0, .int 0, .int 0])), (th, .inl (cH, 4, .inl (fun _ => 0))), (dr, .inl (cO, 26, .inr (.inr (.inr (.inr fD))))), (rr, .inl (cI, 5, .inl (fun _ => 0))), (ty0, .inl (cT, 8, .inl (fun _ => 0))), (sf, .inr (10, [.int 0, sf1, .int 0, .int 0, .int 0, .int 1, .int 0])), (sb, .inr (10, [.int 1, sb1, .int 0, .int 0, .int 0, .int 1, .int 0])), (ra0, .inl (cR, 6, .inl (fun _ => 0))), (bk, .inr (6, [.ref a0, .ref a1, .ref a2, .ref mo, .int 0])), (a0, .inl (cB0, 8, .inl (fun _ => 0))), (a1, .inl (cB1, 8, .inl (fun _ => 0))), (a2, .inl (cB2, 8, .inl (fun _ => 0))), (mo, .inl (cM, 256, .inl (fun _ => 0))), (m0, .inr (14, [.ref lc, .ref lp, .ref dl, .ref ff, .ref fb, .ref lw, .ref lo, .ref (em 1), .int 0])), (lc, .inr (5, [.int 0, .ref (em 0), .int 0])), (lp, .inr (5, [.int 0, .ref (em 0), .int 0])), (dl, .inl (cO8, 26, .inr (.inr (.inr (.inr fL))))), (rr8, .inl (cI8, 5, .inl (fun _ => 0))), (ff, .inr (13, [tf, .int 0, .int 0, .int 1, .int 0])), (fb, .inr (13, [tb, .int 0, .int 0, .int 1, .int 0])), (lw, .inr (5, [.int 0, .ref (em 0), .int 0])), (lo, .inr (5, [.int 0, .ref (em 0), .int 0])), (od, .inl (cOd, 1, .inr (.inr (.inr (.inl (fun _ => 0))))))]) (w1 := [(ou, .inl (cOut, 1, .inr (.inl (fun _ => 0))))]) hP hD [0, 24] [1, 2, 3, 4, 5, 6, 7, 8, 9, 10, 11, 12, 13, 14, 15, 16, 17, 18, 19, 20, 21, 22, 23, 25] rfl rfl (by decide) (by decide) hk1 hFc hP1 hD1
  have hK := (hK.sub (tys' := [(cC, (.object "Bothfaces$Card")), (cH, .int), (cO, (.array .int)), (cI, .int), (cT, .int), (cR, .int), (cB0, .int), (cB1, .int), (cB2, .int), (cM, .int), (cO8, (.array .int)), (cI8, .int), (cOd, .double)]) [0, 1, 2, 3, 4, 5, 6, 7, 8, 9, 10, 11, 13] rfl).app hK1
  generalize H1 = H at hP hS ⊢
  have hP : va_P (dC, dI) vwCl [(ca, .inl (cC, 16, .inr (.inr (.inr (.inr fC))))), (c0, .inr (7, [.ref th, u1, u2, .int 0, .int 0, .int 0, .int 0])), (th, .inl (cH, 4, .inl (fun _ => 0))), (dr, .inl (cO, 26, .inr (.inr (.inr (.inr fD))))), (rr, .inl (cI, 5, .inl (fun _ => 0))), (ty0, .inl (cT, 8, .inl (fun _ => 0))), (sf, .inr (10, [.int 0, sf1, .int 0, .int 0, .int 0, .int 1, .int 0])), (sb, .inr (10, [.int 1, sb1, .int 0, .int 0, .int 0, .int 1, .int 0])), (ra0, .inl (cR, 6, .inl (fun _ => 0))), (bk, .inr (6, [.ref a0, .ref a1, .ref a2, .ref mo, .int 0])), (a0, .inl (cB0, 8, .inl (fun _ => 0))), (a1, .inl (cB1, 8, .inl (fun _ => 0))), (a2, .inl (cB2, 8, .inl (fun _ => 0))), (mo, .inl (cM, 256, .inl (fun _ => 0))), (m0, .inr (14, [.ref lc, .ref lp, .ref dl, .ref ff, .ref fb, .ref lw, .ref lo, .ref (em 1), .int 0])), (lc, .inr (5, [.int 0, .ref (em 0), .int 0])), (lp, .inr (5, [.int 0, .ref (em 0), .int 0])), (dl, .inl (cO8, 26, .inr (.inr (.inr (.inr fL))))), (rr8, .inl (cI8, 5, .inl (fun _ => 0))), (ff, .inr (13, [tf, .int 0, .int 0, .int 1, .int 0])), (fb, .inr (13, [tb, .int 0, .int 0, .int 1, .int 0])), (lw, .inr (5, [.int 0, .ref (em 0), .int 0])), (lo, .inr (5, [.int 0, .ref (em 0), .int 0])), (od, .inl (cOd, 1, .inr (.inr (.inr (.inl (fun _ => 0)))))), (ou, .inl (cOut, 1, .inr (.inl (fun _ => 0))))] H := hP
  have hD : va_D (fun q : Nat => s.heap.size ≤ q) [(ca, .inl (cC, 16, .inr (.inr (.inr (.inr fC))))), (c0, .inr (7, [.ref th, u1, u2, .int 0, .int 0, .int 0, .int 0])), (th, .inl (cH, 4, .inl (fun _ => 0))), (dr, .inl (cO, 26, .inr (.inr (.inr (.inr fD))))), (rr, .inl (cI, 5, .inl (fun _ => 0))), (ty0, .inl (cT, 8, .inl (fun _ => 0))), (sf, .inr (10, [.int 0, sf1, .int 0, .int 0, .int 0, .int 1, .int 0])), (sb, .inr (10, [.int 1, sb1, .int 0, .int 0, .int 0, .int 1, .int 0])), (ra0, .inl (cR, 6, .inl (fun _ => 0))), (bk, .inr (6, [.ref a0, .ref a1, .ref a2, .ref mo, .int 0])), (a0, .inl (cB0, 8, .inl (fun _ => 0))), (a1, .inl (cB1, 8, .inl (fun _ => 0))), (a2, .inl (cB2, 8, .inl (fun _ => 0))), (mo, .inl (cM, 256, .inl (fun _ => 0))), (m0, .inr (14, [.ref lc, .ref lp, .ref dl, .ref ff, .ref fb, .ref lw, .ref lo, .ref (em 1), .int 0])), (lc, .inr (5, [.int 0, .ref (em 0), .int 0])), (lp, .inr (5, [.int 0, .ref (em 0), .int 0])), (dl, .inl (cO8, 26, .inr (.inr (.inr (.inr fL))))), (rr8, .inl (cI8, 5, .inl (fun _ => 0))), (ff, .inr (13, [tf, .int 0, .int 0, .int 1, .int 0])), (fb, .inr (13, [tb, .int 0, .int 0, .int 1, .int 0])), (lw, .inr (5, [.int 0, .ref (em 0), .int 0])), (lo, .inr (5, [.int 0, .ref (em 0), .int 0])), (od, .inl (cOd, 1, .inr (.inr (.inr (.inl (fun _ => 0)))))), (ou, .inl (cOut, 1, .inr (.inl (fun _ => 0))))] := hD
  have hK : va_K (dC, dI) vwCl [(cC, (.object "Bothfaces$Card")), (cH, .int), (cO, (.array .int)), (cI, .int), (cT, .int), (cR, .int), (cB0, .int), (cB1, .int), (cB2, .int), (cM, .int), (cO8, (.array .int)), (cI8, .int), (cOd, .double), (cOut, .long)] s := hK
  refine W.widen (k := 147) (n := 2193) (Nat.le_of_ble_eq_true rfl) (Nat.le_of_ble_eq_true rfl) ?_
  have hw : r_5 = 1 := hw
  rw [hw]
  refine lv_istore (lv' := [(6, .int 1), (5, .int 0), (4, .ref od), (3, .ref ou), (2, .ref m0), (1, .ref x0), (0, .ref b)]) hx hb dL_law_351 hl (by decide) rfl (fun ls hl => ?_)
  refine lv_aload_n hx hb dL_law_353 rfl (lv_at hl 4 rfl) ?_
  refine lv_aload_n hx hb dL_law_354 rfl (lv_at hl 6 rfl) ?_
  refine lv_iload hx hb dL_law_355 (lv_at hl 1 rfl) ?_
  refine lv_iconst (v := 1) hx hb dL_law_357 (by decide) ?_
  refine lv_iadd hx hb dL_law_358 ?_
  refine lv_topi (fun k_6 ek_6 => ?_)
  obtain rfl : k_6 = 1 := ek_6.trans (by decide)
  refine va_sld hx hb hX hbl hbA hS (vp_in_iff.mpr ⟨by decide, by decide⟩) dL_law_359 ?_
  refine lv_topi (fun y_7 ey_7 => ?_)
  have ey_7 : y_7 = xs 1 := ey_7
  obtain rfl : y_2 = y_7 := ey_2.trans ey_7.symm
  refine lv_aload_n hx hb dL_law_360 rfl (lv_at hl 6 rfl) ?_
  refine lv_iload hx hb dL_law_361 (lv_at hl 1 rfl) ?_
  refine lv_iconst (v := 2) hx hb dL_law_363 (by decide) ?_
  refine lv_iadd hx hb dL_law_364 ?_
  refine lv_topi (fun k_8 ek_8 => ?_)
  obtain rfl : k_8 = 2 := ek_8.trans (by decide)
  refine va_sld hx hb hX hbl hbA hS (vp_in_iff.mpr ⟨by decide, by decide⟩) dL_law_365 ?_
  refine lv_topi (fun y_9 ey_9 => ?_)
  have ey_9 : y_9 = xs 2 := ey_9
  obtain rfl : y_4 = y_9 := ey_4.trans ey_9.symm
  have hPc := hP.sub (ws' := [(m0, .inr (14, [.ref lc, .ref lp, .ref dl, .ref ff, .ref fb, .ref lw, .ref lo, .ref (em 1), .int 0])), (lc, .inr (5, [.int 0, .ref (em 0), .int 0]))]) [14, 15] rfl
  have hDc := hD.sub (ws' := [(m0, .inr (14, [.ref lc, .ref lp, .ref dl, .ref ff, .ref fb, .ref lw, .ref lo, .ref (em 1), .int 0])), (lc, .inr (5, [.int 0, .ref (em 0), .int 0]))]) [14, 15] (by decide) rfl
  have hKc := hK.sub (tys' := []) [] rfl
  have hFc := va_free (wc := [(m0, .inr (14, [.ref lc, .ref lp, .ref dl, .ref ff, .ref fb, .ref lw, .ref lo, .ref (em 1), .int 0])), (lc, .inr (5, [.int 0, .ref (em 0), .int 0]))]) hD hS hA [14, 15] rfl
  refine va_calli (va_runV (As := [.int y_2, .int y_4]) (rest := []) ⟨hx, hb, hml, hown, hts⟩ (c_X8_setPack l em dC dI m0 y_2 y_4 (.ref lp) (.ref dl) (.ref ff) (.ref fb) (.ref lw) (.ref lo) (.ref (em 1)) (.int 0) lc (.ref (em 0)) H.size) (cwV 2 hts gT_X8_setPack rfl rfl rfl (by decide +kernel) ⟨Nat.le_of_ble_eq_true rfl, Nat.le_of_ble_eq_true rfl⟩) ⟨Pw.blind _ _ _ _ _ _ _, va_recv hKc hPc (ci := 14) (q0 := 0) rfl rfl, fun U hU hW => ⟨rfl, Pw.go hPc hKc hDc hamb hS hFc hU hW⟩⟩ rfl rfl hl.1 rfl (lv_room (Nat.le_of_ble_eq_true rfl)) dL_law_366 ⟨Nat.le_of_ble_eq_true rfl, Nat.le_of_ble_eq_true rfl⟩) hS (fun q _ h => hFc q h) hFc (fun r_10 u t H1 locs1 ht hvm hw hB hz1 hk1 hS => ?_)
  obtain ⟨hP1, hK1, hD1⟩ := hB
  rw [ht] at hP1
  have hK1 := va_K.moved hvm.symm hK1
  obtain ⟨hP, hD⟩ := va_join (wr := [(ca, .inl (cC, 16, .inr (.inr (.inr (.inr fC))))), (c0, .inr (7, [.ref th, u1, u2, .int 0, .int 0, .int 0, .int 0])), (th, .inl (cH, 4, .inl (fun _ => 0))), (dr, .inl (cO, 26, .inr (.inr (.inr (.inr fD))))), (rr, .inl (cI, 5, .inl (fun _ => 0))), (ty0, .inl (cT, 8, .inl (fun _ => 0))), (sf, .inr (10, [.int 0, sf1, .int 0, .int 0, .int 0, .int 1, .int 0])), (sb, .inr (10, [.int 1, sb1, .int 0, .int 0, .int 0, .int 1, .int 0])), (ra0, .inl (cR, 6, .inl (fun _ => 0))), (bk, .inr (6, [.ref a0, .ref a1, .ref a2, .ref mo, .int 0])), (a0, .inl (cB0, 8, .inl (fun _ => 0))), (a1, .inl (cB1, 8, .inl (fun _ => 0))), (a2, .inl (cB2, 8, .inl (fun _ => 0))), (mo, .inl (cM, 256, .inl (fun _ => 0))), (lp, .inr (5, [.int 0, .ref (em 0), .int 0])), (dl, .inl (cO8, 26, .inr (.inr (.inr (.inr fL))))), (rr8, .inl (cI8, 5, .inl (fun _ => 0))), (ff, .inr (13, [tf, .int 0, .int 0, .int 1, .int 0])), (fb, .inr (13, [tb, .int 0, .int 0, .int 1, .int 0])), (lw, .inr (5, [.int 0, .ref (em 0), .int 0])), (lo, .inr (5, [.int 0, .ref (em 0), .int 0])), (od, .inl (cOd, 1, .inr (.inr (.inr (.inl (fun _ => 0)))))), (ou, .inl (cOut, 1, .inr (.inl (fun _ => 0))))]) (w1 := [(m0, .inr (14, [.ref lc, .ref lp, .ref dl, .ref ff, .ref fb, .ref lw, .ref lo, .ref (em 1), .int 1]))]) hP hD [14, 15] [0, 1, 2, 3, 4, 5, 6, 7, 8, 9, 10, 11, 12, 13, 16, 17, 18, 19, 20, 21, 22, 23, 24] rfl rfl (by decide) (by decide) hk1 hFc hP1 hD1
  have hK := (hK.sub (tys' := [(cC, (.object "Bothfaces$Card")), (cH, .int), (cO, (.array .int)), (cI, .int), (cT, .int), (cR, .int), (cB0, .int), (cB1, .int), (cB2, .int), (cM, .int), (cO8, (.array .int)), (cI8, .int), (cOd, .double), (cOut, .long)]) [0, 1, 2, 3, 4, 5, 6, 7, 8, 9, 10, 11, 12, 13] rfl).app hK1
  generalize H1 = H at hP hS ⊢
  have hP : va_P (dC, dI) vwCl [(ca, .inl (cC, 16, .inr (.inr (.inr (.inr fC))))), (c0, .inr (7, [.ref th, u1, u2, .int 0, .int 0, .int 0, .int 0])), (th, .inl (cH, 4, .inl (fun _ => 0))), (dr, .inl (cO, 26, .inr (.inr (.inr (.inr fD))))), (rr, .inl (cI, 5, .inl (fun _ => 0))), (ty0, .inl (cT, 8, .inl (fun _ => 0))), (sf, .inr (10, [.int 0, sf1, .int 0, .int 0, .int 0, .int 1, .int 0])), (sb, .inr (10, [.int 1, sb1, .int 0, .int 0, .int 0, .int 1, .int 0])), (ra0, .inl (cR, 6, .inl (fun _ => 0))), (bk, .inr (6, [.ref a0, .ref a1, .ref a2, .ref mo, .int 0])), (a0, .inl (cB0, 8, .inl (fun _ => 0))), (a1, .inl (cB1, 8, .inl (fun _ => 0))), (a2, .inl (cB2, 8, .inl (fun _ => 0))), (mo, .inl (cM, 256, .inl (fun _ => 0))), (lp, .inr (5, [.int 0, .ref (em 0), .int 0])), (dl, .inl (cO8, 26, .inr (.inr (.inr (.inr fL))))), (rr8, .inl (cI8, 5, .inl (fun _ => 0))), (ff, .inr (13, [tf, .int 0, .int 0, .int 1, .int 0])), (fb, .inr (13, [tb, .int 0, .int 0, .int 1, .int 0])), (lw, .inr (5, [.int 0, .ref (em 0), .int 0])), (lo, .inr (5, [.int 0, .ref (em 0), .int 0])), (od, .inl (cOd, 1, .inr (.inr (.inr (.inl (fun _ => 0)))))), (ou, .inl (cOut, 1, .inr (.inl (fun _ => 0)))), (m0, .inr (14, [.ref lc, .ref lp, .ref dl, .ref ff, .ref fb, .ref lw, .ref lo, .ref (em 1), .int 1]))] H := hP
  have hD : va_D (fun q : Nat => s.heap.size ≤ q) [(ca, .inl (cC, 16, .inr (.inr (.inr (.inr fC))))), (c0, .inr (7, [.ref th, u1, u2, .int 0, .int 0, .int 0, .int 0])), (th, .inl (cH, 4, .inl (fun _ => 0))), (dr, .inl (cO, 26, .inr (.inr (.inr (.inr fD))))), (rr, .inl (cI, 5, .inl (fun _ => 0))), (ty0, .inl (cT, 8, .inl (fun _ => 0))), (sf, .inr (10, [.int 0, sf1, .int 0, .int 0, .int 0, .int 1, .int 0])), (sb, .inr (10, [.int 1, sb1, .int 0, .int 0, .int 0, .int 1, .int 0])), (ra0, .inl (cR, 6, .inl (fun _ => 0))), (bk, .inr (6, [.ref a0, .ref a1, .ref a2, .ref mo, .int 0])), (a0, .inl (cB0, 8, .inl (fun _ => 0))), (a1, .inl (cB1, 8, .inl (fun _ => 0))), (a2, .inl (cB2, 8, .inl (fun _ => 0))), (mo, .inl (cM, 256, .inl (fun _ => 0))), (lp, .inr (5, [.int 0, .ref (em 0), .int 0])), (dl, .inl (cO8, 26, .inr (.inr (.inr (.inr fL))))), (rr8, .inl (cI8, 5, .inl (fun _ => 0))), (ff, .inr (13, [tf, .int 0, .int 0, .int 1, .int 0])), (fb, .inr (13, [tb, .int 0, .int 0, .int 1, .int 0])), (lw, .inr (5, [.int 0, .ref (em 0), .int 0])), (lo, .inr (5, [.int 0, .ref (em 0), .int 0])), (od, .inl (cOd, 1, .inr (.inr (.inr (.inl (fun _ => 0)))))), (ou, .inl (cOut, 1, .inr (.inl (fun _ => 0)))), (m0, .inr (14, [.ref lc, .ref lp, .ref dl, .ref ff, .ref fb, .ref lw, .ref lo, .ref (em 1), .int 1]))] := hD
  have hK : va_K (dC, dI) vwCl [(cC, (.object "Bothfaces$Card")), (cH, .int), (cO, (.array .int)), (cI, .int), (cT, .int), (cR, .int), (cB0, .int), (cB1, .int), (cB2, .int), (cM, .int), (cO8, (.array .int)), (cI8, .int), (cOd, .double), (cOut, .long)] s := hK
  refine W.widen (k := 147) (n := 2193) (Nat.le_of_ble_eq_true rfl) (Nat.le_of_ble_eq_true rfl) ?_
  have hw : r_10 = 0 := hw
  rw [hw]
  refine lv_istore (lv' := [(7, .int 0), (6, .int 1), (5, .int 0), (4, .ref od), (3, .ref ou), (2, .ref m0), (1, .ref x0), (0, .ref b)]) hx hb dL_law_369 hl (by decide) rfl (fun ls hl => ?_)
  refine lv_aload_n hx hb dL_law_371 rfl (lv_at hl 5 rfl) ?_
  have hPc := hP.sub (ws' := [(m0, .inr (14, [.ref lc, .ref lp, .ref dl, .ref ff, .ref fb, .ref lw, .ref lo, .ref (em 1), .int 1]))]) [23] rfl
  have hDc := hD.sub (ws' := [(m0, .inr (14, [.ref lc, .ref lp, .ref dl, .ref ff, .ref fb, .ref lw, .ref lo, .ref (em 1), .int 1]))]) [23] (by decide) rfl
  have hKc := hK.sub (tys' := []) [] rfl
  have hFc := va_free (wc := [(m0, .inr (14, [.ref lc, .ref lp, .ref dl, .ref ff, .ref fb, .ref lw, .ref lo, .ref (em 1), .int 1]))]) hD hS hA [23] rfl
  refine va_calli (va_runV (As := []) (rest := []) ⟨hx, hb, hml, hown, hts⟩ (c_X8_thrown l em dC dI m0 1 (.ref lc) (.ref lp) (.ref dl) (.ref ff) (.ref fb) (.ref lw) (.ref lo) (.ref (em 1)) H.size) (cwV 0 hts gT_X8_thrown rfl rfl rfl (by decide +kernel) ⟨Nat.le_of_ble_eq_true rfl, Nat.le_of_ble_eq_true rfl⟩) ⟨Pw.blind _ _ _ _ _ _ _, va_recv hKc hPc (ci := 14) (q0 := 0) rfl rfl, fun U hU hW => ⟨rfl, Pw.go hPc hKc hDc hamb hS hFc hU hW⟩⟩ rfl rfl hl.1 rfl (lv_room (Nat.le_of_ble_eq_true rfl)) dL_law_372 ⟨Nat.le_of_ble_eq_true rfl, Nat.le_of_ble_eq_true rfl⟩) hS (fun q _ h => hFc q h) hFc (fun r_11 u t H1 locs1 ht hvm hw hB hz1 hk1 hS => ?_)
  obtain ⟨hP, hD⟩ := va_rest (wr := [(ca, .inl (cC, 16, .inr (.inr (.inr (.inr fC))))), (c0, .inr (7, [.ref th, u1, u2, .int 0, .int 0, .int 0, .int 0])), (th, .inl (cH, 4, .inl (fun _ => 0))), (dr, .inl (cO, 26, .inr (.inr (.inr (.inr fD))))), (rr, .inl (cI, 5, .inl (fun _ => 0))), (ty0, .inl (cT, 8, .inl (fun _ => 0))), (sf, .inr (10, [.int 0, sf1, .int 0, .int 0, .int 0, .int 1, .int 0])), (sb, .inr (10, [.int 1, sb1, .int 0, .int 0, .int 0, .int 1, .int 0])), (ra0, .inl (cR, 6, .inl (fun _ => 0))), (bk, .inr (6, [.ref a0, .ref a1, .ref a2, .ref mo, .int 0])), (a0, .inl (cB0, 8, .inl (fun _ => 0))), (a1, .inl (cB1, 8, .inl (fun _ => 0))), (a2, .inl (cB2, 8, .inl (fun _ => 0))), (mo, .inl (cM, 256, .inl (fun _ => 0))), (lp, .inr (5, [.int 0, .ref (em 0), .int 0])), (dl, .inl (cO8, 26, .inr (.inr (.inr (.inr fL))))), (rr8, .inl (cI8, 5, .inl (fun _ => 0))), (ff, .inr (13, [tf, .int 0, .int 0, .int 1, .int 0])), (fb, .inr (13, [tb, .int 0, .int 0, .int 1, .int 0])), (lw, .inr (5, [.int 0, .ref (em 0), .int 0])), (lo, .inr (5, [.int 0, .ref (em 0), .int 0])), (od, .inl (cOd, 1, .inr (.inr (.inr (.inl (fun _ => 0)))))), (ou, .inl (cOut, 1, .inr (.inl (fun _ => 0))))]) hP hD [23] [0, 1, 2, 3, 4, 5, 6, 7, 8, 9, 10, 11, 12, 13, 14, 15, 16, 17, 18, 19, 20, 21, 22] rfl rfl (by decide) (by decide) hk1 hFc
  generalize H1 = H at hP hS ⊢
  refine W.widen (k := 147) (n := 2193) (Nat.le_of_ble_eq_true rfl) (Nat.le_of_ble_eq_true rfl) ?_
  have hw : r_11 = 1 := hw
  rw [hw]
  refine lv_iload hx hb dL_law_375 (lv_at hl 1 rfl) ?_
  refine lv_icmp_eq (tgt := 382) hx hb dL_law_377 (by decide) (fun c_12 => ?_) (fun c_12 => ?_)
  · refine lv_iload hx hb dL_law_382 (lv_at hl 1 rfl) ?_
    refine lv_if_ne (tgt := 399) hx hb dL_law_384 (by decide) (fun c_13 => ?_) (fun c_13 => ?_)
    · refine lv_goto (tgt := 2636) hx hb dL_law_399 (by decide) ?_
      refine lv_iinc (v := 6) (lv' := [(5, .int 6), (7, .int 0), (6, .int 1), (4, .ref od), (3, .ref ou), (2, .ref m0), (1, .ref x0), (0, .ref b)]) hx hb dL_law_2636 hl (k := 2) rfl (by decide) (by decide) rfl (fun ls hl => ?_)
      refine lv_goto (tgt := 28) hx hb dL_law_2639 (by decide) ?_
      refine lv_iload hx hb dL_law_28 (lv_at hl 0 rfl) ?_
      refine lv_aload_n hx hb dL_law_30 rfl (lv_at hl 7 rfl) ?_
      refine va_slen hx hb hX hbl hbA hS dL_law_31 ?_
      refine lv_topi (fun n_14 en_14 => ?_)
      obtain rfl : n_14 = 6 := en_14.trans (by decide)
      refine lv_bipush (v := 6) hx hb dL_law_32 (by decide) ?_
      refine lv_isub hx hb dL_law_34 ?_
      refine lv_topi (fun k_15 ek_15 => ?_)
      obtain rfl : k_15 = 0 := ek_15.trans (by decide)
      refine lv_icmp_gt (tgt := 2642) hx hb dL_law_35 (by decide) (fun c_16 => ?_) (fun c_16 => ?_)
      · refine lv_iconst (v := 1) hx hb dL_law_2642 (by decide) ?_
        refine W.widen (k := 600006) (n := 7302072) (Nat.le_of_ble_eq_true rfl) (Nat.le_of_ble_eq_true rfl) ?_
        refine va_forget hS.2.2 ?_
        refine W.base ?_
        exact lw_ret (Drawn.sameBut.refl s.drawn lw_cs) hx hb hr hlocks dL_law_2643
      · exact absurd (by decide) c_16
    · exact absurd c_13 (by decide)
  · exact absurd (by decide) c_12

set_option maxHeartbeats 4000000 in
set_option maxRecDepth 100000 in
theorem law_2 {p : Program} {e : Env} {s : State} {m : MethodId} {below : List Frame} {meth : Method} {c : Code} (l : Launch) (hlt : l.stackTraces = false) {b : Nat} {xs : Nat → Int32} (C0 : lw_At p s m meth c b 6 xs) (em : Nat → Nat) (dC : Nat → ClassId) (dI : Nat → Nat → Nat) (j : Nat) (hjj : ∀ z : Int32, z = ((xs 1).toUInt32 % 65536).toInt32 → 97 ≤ z.toInt → z.toInt ≤ 122 → (z - 97).toNatClampNeg = j) (x0 : Nat) (ca : Nat) (dr : Nat) (ty0 : Nat) (sf : Nat) (sb : Nat) (ra0 : Nat) (bk : Nat) (c0 : Nat) (th : Nat) (rr : Nat) (a0 : Nat) (a1 : Nat) (a2 : Nat) (mo : Nat) (vp : Value) (vm : Value) (u1 : Value) (u2 : Value) (sf1 : Value) (sb1 : Value) (fC : Nat → Option Nat) (fD : Nat → Option Nat) (cC : ClassId) (cH : ClassId) (cO : ClassId) (cI : ClassId) (cT : ClassId) (cR : ClassId) (cB0 : ClassId) (cB1 : ClassId) (cB2 : ClassId) (cM : ClassId) (m0 : Nat) (lc : Nat) (lp : Nat) (dl : Nat) (rr8 : Nat) (ff : Nat) (fb : Nat) (lw : Nat) (lo : Nat) (tf : Value) (tb : Value) (fL : Nat → Option Nat) (cO8 : ClassId) (cI8 : ClassId) (ou : Nat) (od : Nat) (cOut : ClassId) (cOd : ClassId) (hfC : fC 0 = some c0) (hfD : fD j = some rr) (hfL : fL j = some rr8) {H : Heap} {locs : List Loc} (hamb : amb em (fun q : Nat => s.heap.size ≤ q) s s.heap) (hK : va_K (dC, dI) vwCl [(cC, (.object "Bothfaces$Card")), (cH, .int), (cO, (.array .int)), (cI, .int), (cT, .int), (cR, .int), (cB0, .int), (cB1, .int), (cB2, .int), (cM, .int), (cO8, (.array .int)), (cI8, .int), (cOut, .long), (cOd, .double)] s) (hP : va_P (dC, dI) vwCl [(x0, .inr (11, [.ref ca, .int 0, .int 0, .ref dr, .ref ty0, .int 0, .ref sf, .ref sb, vp, vm, .ref ra0, .int 0, .ref bk])), (ca, .inl (cC, 16, .inr (.inr (.inr (.inr fC))))), (c0, .inr (7, [.ref th, u1, u2, .int 0, .int 0, .int 0, .int 0])), (th, .inl (cH, 4, .inl (fun _ => 0))), (dr, .inl (cO, 26, .inr (.inr (.inr (.inr fD))))), (rr, .inl (cI, 5, .inl (fun _ => 0))), (ty0, .inl (cT, 8, .inl (fun _ => 0))), (sf, .inr (10, [.int 0, sf1, .int 0, .int 0, .int 0, .int 1, .int 0])), (sb, .inr (10, [.int 1, sb1, .int 0, .int 0, .int 0, .int 1, .int 0])), (ra0, .inl (cR, 6, .inl (fun _ => 0))), (bk, .inr (6, [.ref a0, .ref a1, .ref a2, .ref mo, .int 0])), (a0, .inl (cB0, 8, .inl (fun _ => 0))), (a1, .inl (cB1, 8, .inl (fun _ => 0))), (a2, .inl (cB2, 8, .inl (fun _ => 0))), (mo, .inl (cM, 256, .inl (fun _ => 0))), (m0, .inr (14, [.ref lc, .ref lp, .ref dl, .ref ff, .ref fb, .ref lw, .ref lo, .ref (em 1), .int 0])), (lc, .inr (5, [.int 0, .ref (em 0), .int 0])), (lp, .inr (5, [.int 0, .ref (em 0), .int 0])), (dl, .inl (cO8, 26, .inr (.inr (.inr (.inr fL))))), (rr8, .inl (cI8, 5, .inl (fun _ => 0))), (ff, .inr (13, [tf, .int 0, .int 0, .int 1, .int 0])), (fb, .inr (13, [tb, .int 0, .int 0, .int 1, .int 0])), (lw, .inr (5, [.int 0, .ref (em 0), .int 0])), (lo, .inr (5, [.int 0, .ref (em 0), .int 0])), (ou, .inl (cOut, 1, .inr (.inl (fun _ => 0)))), (od, .inl (cOd, 1, .inr (.inr (.inr (.inl (fun _ => 0))))))] H) (hD : va_D (fun q : Nat => s.heap.size ≤ q) [(x0, .inr (11, [.ref ca, .int 0, .int 0, .ref dr, .ref ty0, .int 0, .ref sf, .ref sb, vp, vm, .ref ra0, .int 0, .ref bk])), (ca, .inl (cC, 16, .inr (.inr (.inr (.inr fC))))), (c0, .inr (7, [.ref th, u1, u2, .int 0, .int 0, .int 0, .int 0])), (th, .inl (cH, 4, .inl (fun _ => 0))), (dr, .inl (cO, 26, .inr (.inr (.inr (.inr fD))))), (rr, .inl (cI, 5, .inl (fun _ => 0))), (ty0, .inl (cT, 8, .inl (fun _ => 0))), (sf, .inr (10, [.int 0, sf1, .int 0, .int 0, .int 0, .int 1, .int 0])), (sb, .inr (10, [.int 1, sb1, .int 0, .int 0, .int 0, .int 1, .int 0])), (ra0, .inl (cR, 6, .inl (fun _ => 0))), (bk, .inr (6, [.ref a0, .ref a1, .ref a2, .ref mo, .int 0])), (a0, .inl (cB0, 8, .inl (fun _ => 0))), (a1, .inl (cB1, 8, .inl (fun _ => 0))), (a2, .inl (cB2, 8, .inl (fun _ => 0))), (mo, .inl (cM, 256, .inl (fun _ => 0))), (m0, .inr (14, [.ref lc, .ref lp, .ref dl, .ref ff, .ref fb, .ref lw, .ref lo, .ref (em 1), .int 0])), (lc, .inr (5, [.int 0, .ref (em 0), .int 0])), (lp, .inr (5, [.int 0, .ref (em 0), .int 0])), (dl, .inl (cO8, 26, .inr (.inr (.inr (.inr fL))))), (rr8, .inl (cI8, 5, .inl (fun _ => 0))), (ff, .inr (13, [tf, .int 0, .int 0, .int 1, .int 0])), (fb, .inr (13, [tb, .int 0, .int 0, .int 1, .int 0])), (lw, .inr (5, [.int 0, .ref (em 0), .int 0])), (lo, .inr (5, [.int 0, .ref (em 0), .int 0])), (ou, .inl (cOut, 1, .inr (.inl (fun _ => 0)))), (od, .inl (cOd, 1, .inr (.inr (.inr (.inl (fun _ => 0))))))]) (hS : va_S (fun q : Nat => s.heap.size ≤ q) s.heap H locs) {ls : Array Slot} (hl : lv_has ls 9 [(5, .int 0), (4, .ref od), (3, .ref ou), (2, .ref m0), (1, .ref x0), (0, .ref b)]) : W p l e room_1 s m #[Value.ref b] below meth c H locs 146 2187 (lw_Z below #[Value.ref b] s) (F0 m 402 ls []) := by
  obtain ⟨hx, hb, hr, hml, hown0, hts0, hX, hbl, hlocks, hgv⟩ := id C0
  have hts := ow_hts hts0
  have hown : s.vm.findClass RL = some m.cls := hown0
  have hA : ∀ q : Nat, s.heap.size ≤ q → (fun q : Nat => s.heap.size ≤ q) q := fun _ h => h
  have hbA : ¬ (fun q : Nat => s.heap.size ≤ q) b := Nat.not_le.mpr hbl
  refine lv_aload_n hx hb dL_law_402 rfl (lv_at hl 4 rfl) ?_
  refine lv_aload_n hx hb dL_law_403 rfl (lv_at hl 5 rfl) ?_
  refine lv_iload hx hb dL_law_404 (lv_at hl 0 rfl) ?_
  refine lv_iconst (v := 1) hx hb dL_law_406 (by decide) ?_
  refine lv_iadd hx hb dL_law_407 ?_
  refine lv_topi (fun k_1 ek_1 => ?_)
  obtain rfl : k_1 = 1 := ek_1.trans (by decide)
  refine va_sld hx hb hX hbl hbA hS (vp_in_iff.mpr ⟨by decide, by decide⟩) dL_law_408 ?_
  refine lv_topi (fun y_2 ey_2 => ?_)
  have ey_2 : y_2 = xs 1 := ey_2
  refine lv_aload_n hx hb dL_law_409 rfl (lv_at hl 5 rfl) ?_
  refine lv_iload hx hb dL_law_410 (lv_at hl 0 rfl) ?_
  refine lv_iconst (v := 2) hx hb dL_law_412 (by decide) ?_
  refine lv_iadd hx hb dL_law_413 ?_
  refine lv_topi (fun k_3 ek_3 => ?_)
  obtain rfl : k_3 = 2 := ek_3.trans (by decide)
  refine va_sld hx hb hX hbl hbA hS (vp_in_iff.mpr ⟨by decide, by decide⟩) dL_law_414 ?_
  refine lv_topi (fun y_4 ey_4 => ?_)
  have ey_4 : y_4 = xs 2 := ey_4
  refine lv_if_eq (tgt := 422) hx hb dL_law_415 (by decide) (fun c_5 => ?_) (fun c_5 => ?_)
  · refine lv_iconst (v := 0) hx hb dL_law_422 (by decide) ?_
    refine lv_aload_n hx hb dL_law_423 rfl (lv_at hl 2 rfl) ?_
    have hPc := hP.sub (ws' := [(x0, .inr (11, [.ref ca, .int 0, .int 0, .ref dr, .ref ty0, .int 0, .ref sf, .ref sb, vp, vm, .ref ra0, .int 0, .ref bk])), (ou, .inl (cOut, 1, .inr (.inl (fun _ => 0))))]) [0, 24] rfl
    have hDc := hD.sub (ws' := [(x0, .inr (11, [.ref ca, .int 0, .int 0, .ref dr, .ref ty0, .int 0, .ref sf, .ref sb, vp, vm, .ref ra0, .int 0, .ref bk])), (ou, .inl (cOut, 1, .inr (.inl (fun _ => 0))))]) [0, 24] (by decide) rfl
    have hKc := hK.sub (tys' := [(cOut, .long)]) [12] rfl
    have hFc := va_free (wc := [(x0, .inr (11, [.ref ca, .int 0, .int 0, .ref dr, .ref ty0, .int 0, .ref sf, .ref sb, vp, vm, .ref ra0, .int 0, .ref bk])), (ou, .inl (cOut, 1, .inr (.inl (fun _ => 0))))]) hD hS hA [0, 24] rfl
    refine va_calli (vx_runSW (As := [.ref x0, .int y_2, .int 0, .ref ou]) (rest := []) ⟨hx, hb, hml, hown, hts⟩ (c_L_turn l hlt em dC dI x0 y_2 0 (.ref ca) (.int 0) (.ref dr) (.ref ty0) (.int 0) (.ref sf) (.ref sb) vp vm (.ref ra0) (.int 0) (.ref bk) ou cOut (fun _ => 0) H.size) (vx_cwSW 4 hts gT_L_turn rfl rfl rfl (by decide +kernel) ⟨Nat.le_of_ble_eq_true rfl, Nat.le_of_ble_eq_true rfl⟩) ⟨Pw.blind _ _ _ _ _ _ _, fun U hU hW => ⟨rfl, Pw.go hPc hKc hDc hamb hS hFc hU hW⟩⟩ rfl rfl hl.1 rfl (lv_room (Nat.le_of_ble_eq_true rfl)) dL_law_424 ⟨Nat.le_of_ble_eq_true rfl, Nat.le_of_ble_eq_true rfl⟩) hS (fun q _ h => hFc q h) hFc (fun r_6 u t H1 locs1 ht hvm hw hB hz1 hk1 hS => ?_)
    obtain ⟨gOx_7, ⟨hP1, hK1, hD1⟩, f_8⟩ := hB
    rw [ht] at hP1
    have hK1 := va_K.moved hvm.symm hK1
    obtain ⟨hP, hD⟩ := va_join (wr := [(ca, .inl (cC, 16, .inr (.inr (.inr (.inr fC))))), (c0, .inr (7, [.ref th, u1, u2, .int 0, .int 0, .int 0, .int 0])), (th, .inl (cH, 4, .inl (fun _ => 0))), (dr, .inl (cO, 26, .inr (.inr (.inr (.inr fD))))), (rr, .inl (cI, 5, .inl (fun _ => 0))), (ty0, .inl (cT, 8, .inl (fun _ => 0))), (sf, .inr (10, [.int 0, sf1, .int 0, .int 0, .int 0, .int 1, .int 0])), (sb, .inr (10, [.int 1, sb1, .int 0, .int 0, .int 0, .int 1, .int 0])), (ra0, .inl (cR, 6, .inl (fun _ => 0))), (bk, .inr (6, [.ref a0, .ref a1, .ref a2, .ref mo, .int 0])), (a0, .inl (cB0, 8, .inl (fun _ => 0))), (a1, .inl (cB1, 8, .inl (fun _ => 0))), (a2, .inl (cB2, 8, .inl (fun _ => 0))), (mo, .inl (cM, 256, .inl (fun _ => 0))), (m0, .inr (14, [.ref lc, .ref lp, .ref dl, .ref ff, .ref fb, .ref lw, .ref lo, .ref (em 1), .int 0])), (lc, .inr (5, [.int 0, .ref (em 0), .int 0])), (lp, .inr (5, [.int 0, .ref (em 0), .int 0])), (dl, .inl (cO8, 26, .inr (.inr (.inr (.inr fL))))), (rr8, .inl (cI8, 5, .inl (fun _ => 0))), (ff, .inr (13, [tf, .int 0, .int 0, .int 1, .int 0])), (fb, .inr (13, [tb, .int 0, .int 0, .int 1, .int 0])), (lw, .inr (5, [.int 0, .ref (em 0), .int 0])), (lo, .inr (5, [.int 0, .ref (em 0), .int 0])), (od, .inl (cOd, 1, .inr (.inr (.inr (.inl (fun _ => 0))))))]) (w1 := [(ou, .inl (cOut, 1, .inr (.inl gOx_7)))]) hP hD [0, 24] [1, 2, 3, 4, 5, 6, 7, 8, 9, 10, 11, 12, 13, 14, 15, 16, 17, 18, 19, 20, 21, 22, 23, 25] rfl rfl (by decide) (by decide) hk1 hFc hP1 hD1
    have hK := (hK.sub (tys' := [(cC, (.object "Bothfaces$Card")), (cH, .int), (cO, (.array .int)), (cI, .int), (cT, .int), (cR, .int), (cB0, .int), (cB1, .int), (cB2, .int), (cM, .int), (cO8, (.array .int)), (cI8, .int), (cOd, .double)]) [0, 1, 2, 3, 4, 5, 6, 7, 8, 9, 10, 11, 13] rfl).app hK1
    generalize H1 = H at hP hS ⊢
    have hP : va_P (dC, dI) vwCl [(ca, .inl (cC, 16, .inr (.inr (.inr (.inr fC))))), (c0, .inr (7, [.ref th, u1, u2, .int 0, .int 0, .int 0, .int 0])), (th, .inl (cH, 4, .inl (fun _ => 0))), (dr, .inl (cO, 26, .inr (.inr (.inr (.inr fD))))), (rr, .inl (cI, 5, .inl (fun _ => 0))), (ty0, .inl (cT, 8, .inl (fun _ => 0))), (sf, .inr (10, [.int 0, sf1, .int 0, .int 0, .int 0, .int 1, .int 0])), (sb, .inr (10, [.int 1, sb1, .int 0, .int 0, .int 0, .int 1, .int 0])), (ra0, .inl (cR, 6, .inl (fun _ => 0))), (bk, .inr (6, [.ref a0, .ref a1, .ref a2, .ref mo, .int 0])), (a0, .inl (cB0, 8, .inl (fun _ => 0))), (a1, .inl (cB1, 8, .inl (fun _ => 0))), (a2, .inl (cB2, 8, .inl (fun _ => 0))), (mo, .inl (cM, 256, .inl (fun _ => 0))), (m0, .inr (14, [.ref lc, .ref lp, .ref dl, .ref ff, .ref fb, .ref lw, .ref lo, .ref (em 1), .int 0])), (lc, .inr (5, [.int 0, .ref (em 0), .int 0])), (lp, .inr (5, [.int 0, .ref (em 0), .int 0])), (dl, .inl (cO8, 26, .inr (.inr (.inr (.inr fL))))), (rr8, .inl (cI8, 5, .inl (fun _ => 0))), (ff, .inr (13, [tf, .int 0, .int 0, .int 1, .int 0])), (fb, .inr (13, [tb, .int 0, .int 0, .int 1, .int 0])), (lw, .inr (5, [.int 0, .ref (em 0), .int 0])), (lo, .inr (5, [.int 0, .ref (em 0), .int 0])), (od, .inl (cOd, 1, .inr (.inr (.inr (.inl (fun _ => 0)))))), (ou, .inl (cOut, 1, .inr (.inl gOx_7)))] H := hP
    have hD : va_D (fun q : Nat => s.heap.size ≤ q) [(ca, .inl (cC, 16, .inr (.inr (.inr (.inr fC))))), (c0, .inr (7, [.ref th, u1, u2, .int 0, .int 0, .int 0, .int 0])), (th, .inl (cH, 4, .inl (fun _ => 0))), (dr, .inl (cO, 26, .inr (.inr (.inr (.inr fD))))), (rr, .inl (cI, 5, .inl (fun _ => 0))), (ty0, .inl (cT, 8, .inl (fun _ => 0))), (sf, .inr (10, [.int 0, sf1, .int 0, .int 0, .int 0, .int 1, .int 0])), (sb, .inr (10, [.int 1, sb1, .int 0, .int 0, .int 0, .int 1, .int 0])), (ra0, .inl (cR, 6, .inl (fun _ => 0))), (bk, .inr (6, [.ref a0, .ref a1, .ref a2, .ref mo, .int 0])), (a0, .inl (cB0, 8, .inl (fun _ => 0))), (a1, .inl (cB1, 8, .inl (fun _ => 0))), (a2, .inl (cB2, 8, .inl (fun _ => 0))), (mo, .inl (cM, 256, .inl (fun _ => 0))), (m0, .inr (14, [.ref lc, .ref lp, .ref dl, .ref ff, .ref fb, .ref lw, .ref lo, .ref (em 1), .int 0])), (lc, .inr (5, [.int 0, .ref (em 0), .int 0])), (lp, .inr (5, [.int 0, .ref (em 0), .int 0])), (dl, .inl (cO8, 26, .inr (.inr (.inr (.inr fL))))), (rr8, .inl (cI8, 5, .inl (fun _ => 0))), (ff, .inr (13, [tf, .int 0, .int 0, .int 1, .int 0])), (fb, .inr (13, [tb, .int 0, .int 0, .int 1, .int 0])), (lw, .inr (5, [.int 0, .ref (em 0), .int 0])), (lo, .inr (5, [.int 0, .ref (em 0), .int 0])), (od, .inl (cOd, 1, .inr (.inr (.inr (.inl (fun _ => 0)))))), (ou, .inl (cOut, 1, .inr (.inl gOx_7)))] := hD
    have hK : va_K (dC, dI) vwCl [(cC, (.object "Bothfaces$Card")), (cH, .int), (cO, (.array .int)), (cI, .int), (cT, .int), (cR, .int), (cB0, .int), (cB1, .int), (cB2, .int), (cM, .int), (cO8, (.array .int)), (cI8, .int), (cOd, .double), (cOut, .long)] s := hK
    refine W.widen (k := 147) (n := 2193) (Nat.le_of_ble_eq_true rfl) (Nat.le_of_ble_eq_true rfl) ?_
    have hw : ((y_2.toInt < 0 ∨ 3 < y_2.toInt) → r_6 = 1) ∧ (¬ (y_2.toInt < 0 ∨ 3 < y_2.toInt) → r_6 = 0) := hw
    rcases Classical.em (y_2.toInt < 0 ∨ 3 < y_2.toInt) with t_9 | t_9
    · have hw := hw.1 t_9
      rw [hw]
      refine lv_istore (lv' := [(6, .int 1), (5, .int 0), (4, .ref od), (3, .ref ou), (2, .ref m0), (1, .ref x0), (0, .ref b)]) hx hb dL_law_427 hl (by decide) rfl (fun ls hl => ?_)
      refine lv_aload_n hx hb dL_law_429 rfl (lv_at hl 4 rfl) ?_
      refine lv_aload_n hx hb dL_law_430 rfl (lv_at hl 6 rfl) ?_
      refine lv_iload hx hb dL_law_431 (lv_at hl 1 rfl) ?_
      refine lv_iconst (v := 1) hx hb dL_law_433 (by decide) ?_
      refine lv_iadd hx hb dL_law_434 ?_
      refine lv_topi (fun k_10 ek_10 => ?_)
      obtain rfl : k_10 = 1 := ek_10.trans (by decide)
      refine va_sld hx hb hX hbl hbA hS (vp_in_iff.mpr ⟨by decide, by decide⟩) dL_law_435 ?_
      refine lv_topi (fun y_11 ey_11 => ?_)
      have ey_11 : y_11 = xs 1 := ey_11
      obtain rfl : y_2 = y_11 := ey_2.trans ey_11.symm
      refine lv_aload_n hx hb dL_law_436 rfl (lv_at hl 6 rfl) ?_
      refine lv_iload hx hb dL_law_437 (lv_at hl 1 rfl) ?_
      refine lv_iconst (v := 2) hx hb dL_law_439 (by decide) ?_
      refine lv_iadd hx hb dL_law_440 ?_
      refine lv_topi (fun k_12 ek_12 => ?_)
      obtain rfl : k_12 = 2 := ek_12.trans (by decide)
      refine va_sld hx hb hX hbl hbA hS (vp_in_iff.mpr ⟨by decide, by decide⟩) dL_law_441 ?_
      refine lv_topi (fun y_13 ey_13 => ?_)
      have ey_13 : y_13 = xs 2 := ey_13
      obtain rfl : y_4 = y_13 := ey_4.trans ey_13.symm
      refine lv_if_eq (tgt := 449) hx hb dL_law_442 (by decide) (fun c_14 => ?_) (fun c_14 => ?_)
      · refine lv_iconst (v := 0) hx hb dL_law_449 (by decide) ?_
        have hPc := hP.sub (ws' := [(m0, .inr (14, [.ref lc, .ref lp, .ref dl, .ref ff, .ref fb, .ref lw, .ref lo, .ref (em 1), .int 0])), (lc, .inr (5, [.int 0, .ref (em 0), .int 0]))]) [14, 15] rfl
        have hDc := hD.sub (ws' := [(m0, .inr (14, [.ref lc, .ref lp, .ref dl, .ref ff, .ref fb, .ref lw, .ref lo, .ref (em 1), .int 0])), (lc, .inr (5, [.int 0, .ref (em 0), .int 0]))]) [14, 15] (by decide) rfl
        have hKc := hK.sub (tys' := []) [] rfl
        have hFc := va_free (wc := [(m0, .inr (14, [.ref lc, .ref lp, .ref dl, .ref ff, .ref fb, .ref lw, .ref lo, .ref (em 1), .int 0])), (lc, .inr (5, [.int 0, .ref (em 0), .int 0]))]) hD hS hA [14, 15] rfl
        refine va_calli (va_runV (As := [.int y_2, .int 0]) (rest := []) ⟨hx, hb, hml, hown, hts⟩ (c_X8_turn l em dC dI m0 y_2 0 (.ref lp) (.ref dl) (.ref ff) (.ref fb) (.ref lw) (.ref lo) (.ref (em 1)) (.int 0) lc (.ref (em 0)) H.size) (cwV 2 hts gT_X8_turn rfl rfl rfl (by decide +kernel) ⟨Nat.le_of_ble_eq_true rfl, Nat.le_of_ble_eq_true rfl⟩) ⟨Pw.blind _ _ _ _ _ _ _, va_recv hKc hPc (ci := 14) (q0 := 0) rfl rfl, fun U hU hW => ⟨rfl, Pw.go hPc hKc hDc hamb hS hFc hU hW⟩⟩ rfl rfl hl.1 rfl (lv_room (Nat.le_of_ble_eq_true rfl)) dL_law_450 ⟨Nat.le_of_ble_eq_true rfl, Nat.le_of_ble_eq_true rfl⟩) hS (fun q _ h => hFc q h) hFc (fun r_15 u t H1 locs1 ht hvm hw hB hz1 hk1 hS => ?_)
        obtain ⟨tvx_16, ⟨hP1, hK1, hD1⟩, f_17, f_18⟩ := hB
        rw [ht] at hP1
        have hK1 := va_K.moved hvm.symm hK1
        obtain ⟨hP, hD⟩ := va_join (wr := [(ca, .inl (cC, 16, .inr (.inr (.inr (.inr fC))))), (c0, .inr (7, [.ref th, u1, u2, .int 0, .int 0, .int 0, .int 0])), (th, .inl (cH, 4, .inl (fun _ => 0))), (dr, .inl (cO, 26, .inr (.inr (.inr (.inr fD))))), (rr, .inl (cI, 5, .inl (fun _ => 0))), (ty0, .inl (cT, 8, .inl (fun _ => 0))), (sf, .inr (10, [.int 0, sf1, .int 0, .int 0, .int 0, .int 1, .int 0])), (sb, .inr (10, [.int 1, sb1, .int 0, .int 0, .int 0, .int 1, .int 0])), (ra0, .inl (cR, 6, .inl (fun _ => 0))), (bk, .inr (6, [.ref a0, .ref a1, .ref a2, .ref mo, .int 0])), (a0, .inl (cB0, 8, .inl (fun _ => 0))), (a1, .inl (cB1, 8, .inl (fun _ => 0))), (a2, .inl (cB2, 8, .inl (fun _ => 0))), (mo, .inl (cM, 256, .inl (fun _ => 0))), (lp, .inr (5, [.int 0, .ref (em 0), .int 0])), (dl, .inl (cO8, 26, .inr (.inr (.inr (.inr fL))))), (rr8, .inl (cI8, 5, .inl (fun _ => 0))), (ff, .inr (13, [tf, .int 0, .int 0, .int 1, .int 0])), (fb, .inr (13, [tb, .int 0, .int 0, .int 1, .int 0])), (lw, .inr (5, [.int 0, .ref (em 0), .int 0])), (lo, .inr (5, [.int 0, .ref (em 0), .int 0])), (od, .inl (cOd, 1, .inr (.inr (.inr (.inl (fun _ => 0)))))), (ou, .inl (cOut, 1, .inr (.inl gOx_7)))]) (w1 := [(m0, .inr (14, [.ref lc, .ref lp, .ref dl, .ref ff, .ref fb, .ref lw, .ref lo, .ref (em 1), .int tvx_16]))]) hP hD [14, 15] [0, 1, 2, 3, 4, 5, 6, 7, 8, 9, 10, 11, 12, 13, 16, 17, 18, 19, 20, 21, 22, 23, 24] rfl rfl (by decide) (by decide) hk1 hFc hP1 hD1
        have hK := (hK.sub (tys' := [(cC, (.object "Bothfaces$Card")), (cH, .int), (cO, (.array .int)), (cI, .int), (cT, .int), (cR, .int), (cB0, .int), (cB1, .int), (cB2, .int), (cM, .int), (cO8, (.array .int)), (cI8, .int), (cOd, .double), (cOut, .long)]) [0, 1, 2, 3, 4, 5, 6, 7, 8, 9, 10, 11, 12, 13] rfl).app hK1
        generalize H1 = H at hP hS ⊢
        have hP : va_P (dC, dI) vwCl [(ca, .inl (cC, 16, .inr (.inr (.inr (.inr fC))))), (c0, .inr (7, [.ref th, u1, u2, .int 0, .int 0, .int 0, .int 0])), (th, .inl (cH, 4, .inl (fun _ => 0))), (dr, .inl (cO, 26, .inr (.inr (.inr (.inr fD))))), (rr, .inl (cI, 5, .inl (fun _ => 0))), (ty0, .inl (cT, 8, .inl (fun _ => 0))), (sf, .inr (10, [.int 0, sf1, .int 0, .int 0, .int 0, .int 1, .int 0])), (sb, .inr (10, [.int 1, sb1, .int 0, .int 0, .int 0, .int 1, .int 0])), (ra0, .inl (cR, 6, .inl (fun _ => 0))), (bk, .inr (6, [.ref a0, .ref a1, .ref a2, .ref mo, .int 0])), (a0, .inl (cB0, 8, .inl (fun _ => 0))), (a1, .inl (cB1, 8, .inl (fun _ => 0))), (a2, .inl (cB2, 8, .inl (fun _ => 0))), (mo, .inl (cM, 256, .inl (fun _ => 0))), (lp, .inr (5, [.int 0, .ref (em 0), .int 0])), (dl, .inl (cO8, 26, .inr (.inr (.inr (.inr fL))))), (rr8, .inl (cI8, 5, .inl (fun _ => 0))), (ff, .inr (13, [tf, .int 0, .int 0, .int 1, .int 0])), (fb, .inr (13, [tb, .int 0, .int 0, .int 1, .int 0])), (lw, .inr (5, [.int 0, .ref (em 0), .int 0])), (lo, .inr (5, [.int 0, .ref (em 0), .int 0])), (od, .inl (cOd, 1, .inr (.inr (.inr (.inl (fun _ => 0)))))), (ou, .inl (cOut, 1, .inr (.inl gOx_7))), (m0, .inr (14, [.ref lc, .ref lp, .ref dl, .ref ff, .ref fb, .ref lw, .ref lo, .ref (em 1), .int tvx_16]))] H := hP
        have hD : va_D (fun q : Nat => s.heap.size ≤ q) [(ca, .inl (cC, 16, .inr (.inr (.inr (.inr fC))))), (c0, .inr (7, [.ref th, u1, u2, .int 0, .int 0, .int 0, .int 0])), (th, .inl (cH, 4, .inl (fun _ => 0))), (dr, .inl (cO, 26, .inr (.inr (.inr (.inr fD))))), (rr, .inl (cI, 5, .inl (fun _ => 0))), (ty0, .inl (cT, 8, .inl (fun _ => 0))), (sf, .inr (10, [.int 0, sf1, .int 0, .int 0, .int 0, .int 1, .int 0])), (sb, .inr (10, [.int 1, sb1, .int 0, .int 0, .int 0, .int 1, .int 0])), (ra0, .inl (cR, 6, .inl (fun _ => 0))), (bk, .inr (6, [.ref a0, .ref a1, .ref a2, .ref mo, .int 0])), (a0, .inl (cB0, 8, .inl (fun _ => 0))), (a1, .inl (cB1, 8, .inl (fun _ => 0))), (a2, .inl (cB2, 8, .inl (fun _ => 0))), (mo, .inl (cM, 256, .inl (fun _ => 0))), (lp, .inr (5, [.int 0, .ref (em 0), .int 0])), (dl, .inl (cO8, 26, .inr (.inr (.inr (.inr fL))))), (rr8, .inl (cI8, 5, .inl (fun _ => 0))), (ff, .inr (13, [tf, .int 0, .int 0, .int 1, .int 0])), (fb, .inr (13, [tb, .int 0, .int 0, .int 1, .int 0])), (lw, .inr (5, [.int 0, .ref (em 0), .int 0])), (lo, .inr (5, [.int 0, .ref (em 0), .int 0])), (od, .inl (cOd, 1, .inr (.inr (.inr (.inl (fun _ => 0)))))), (ou, .inl (cOut, 1, .inr (.inl gOx_7))), (m0, .inr (14, [.ref lc, .ref lp, .ref dl, .ref ff, .ref fb, .ref lw, .ref lo, .ref (em 1), .int tvx_16]))] := hD
        have hK : va_K (dC, dI) vwCl [(cC, (.object "Bothfaces$Card")), (cH, .int), (cO, (.array .int)), (cI, .int), (cT, .int), (cR, .int), (cB0, .int), (cB1, .int), (cB2, .int), (cM, .int), (cO8, (.array .int)), (cI8, .int), (cOd, .double), (cOut, .long)] s := hK
        refine W.widen (k := 148) (n := 2197) (Nat.le_of_ble_eq_true rfl) (Nat.le_of_ble_eq_true rfl) ?_
        have hw : ((y_2.toInt < 0 ∨ 3 < y_2.toInt) → r_15 = 0) ∧ (¬ (y_2.toInt < 0 ∨ 3 < y_2.toInt) → r_15 = 0) := hw
        have hw := hw.1 t_9
        rw [hw]
        obtain rfl : tvx_16 = 1 := f_17 t_9
        refine lv_istore (lv' := [(7, .int 0), (6, .int 1), (5, .int 0), (4, .ref od), (3, .ref ou), (2, .ref m0), (1, .ref x0), (0, .ref b)]) hx hb dL_law_453 hl (by decide) rfl (fun ls hl => ?_)
        refine lv_aload_n hx hb dL_law_455 rfl (lv_at hl 5 rfl) ?_
        have hPc := hP.sub (ws' := [(m0, .inr (14, [.ref lc, .ref lp, .ref dl, .ref ff, .ref fb, .ref lw, .ref lo, .ref (em 1), .int 1]))]) [23] rfl
        have hDc := hD.sub (ws' := [(m0, .inr (14, [.ref lc, .ref lp, .ref dl, .ref ff, .ref fb, .ref lw, .ref lo, .ref (em 1), .int 1]))]) [23] (by decide) rfl
        have hKc := hK.sub (tys' := []) [] rfl
        have hFc := va_free (wc := [(m0, .inr (14, [.ref lc, .ref lp, .ref dl, .ref ff, .ref fb, .ref lw, .ref lo, .ref (em 1), .int 1]))]) hD hS hA [23] rfl
        refine va_calli (va_runV (As := []) (rest := []) ⟨hx, hb, hml, hown, hts⟩ (c_X8_thrown l em dC dI m0 1 (.ref lc) (.ref lp) (.ref dl) (.ref ff) (.ref fb) (.ref lw) (.ref lo) (.ref (em 1)) H.size) (cwV 0 hts gT_X8_thrown rfl rfl rfl (by decide +kernel) ⟨Nat.le_of_ble_eq_true rfl, Nat.le_of_ble_eq_true rfl⟩) ⟨Pw.blind _ _ _ _ _ _ _, va_recv hKc hPc (ci := 14) (q0 := 0) rfl rfl, fun U hU hW => ⟨rfl, Pw.go hPc hKc hDc hamb hS hFc hU hW⟩⟩ rfl rfl hl.1 rfl (lv_room (Nat.le_of_ble_eq_true rfl)) dL_law_456 ⟨Nat.le_of_ble_eq_true rfl, Nat.le_of_ble_eq_true rfl⟩) hS (fun q _ h => hFc q h) hFc (fun r_20 u t H1 locs1 ht hvm hw hB hz1 hk1 hS => ?_)
        obtain ⟨hP, hD⟩ := va_rest (wr := [(ca, .inl (cC, 16, .inr (.inr (.inr (.inr fC))))), (c0, .inr (7, [.ref th, u1, u2, .int 0, .int 0, .int 0, .int 0])), (th, .inl (cH, 4, .inl (fun _ => 0))), (dr, .inl (cO, 26, .inr (.inr (.inr (.inr fD))))), (rr, .inl (cI, 5, .inl (fun _ => 0))), (ty0, .inl (cT, 8, .inl (fun _ => 0))), (sf, .inr (10, [.int 0, sf1, .int 0, .int 0, .int 0, .int 1, .int 0])), (sb, .inr (10, [.int 1, sb1, .int 0, .int 0, .int 0, .int 1, .int 0])), (ra0, .inl (cR, 6, .inl (fun _ => 0))), (bk, .inr (6, [.ref a0, .ref a1, .ref a2, .ref mo, .int 0])), (a0, .inl (cB0, 8, .inl (fun _ => 0))), (a1, .inl (cB1, 8, .inl (fun _ => 0))), (a2, .inl (cB2, 8, .inl (fun _ => 0))), (mo, .inl (cM, 256, .inl (fun _ => 0))), (lp, .inr (5, [.int 0, .ref (em 0), .int 0])), (dl, .inl (cO8, 26, .inr (.inr (.inr (.inr fL))))), (rr8, .inl (cI8, 5, .inl (fun _ => 0))), (ff, .inr (13, [tf, .int 0, .int 0, .int 1, .int 0])), (fb, .inr (13, [tb, .int 0, .int 0, .int 1, .int 0])), (lw, .inr (5, [.int 0, .ref (em 0), .int 0])), (lo, .inr (5, [.int 0, .ref (em 0), .int 0])), (od, .inl (cOd, 1, .inr (.inr (.inr (.inl (fun _ => 0)))))), (ou, .inl (cOut, 1, .inr (.inl gOx_7)))]) hP hD [23] [0, 1, 2, 3, 4, 5, 6, 7, 8, 9, 10, 11, 12, 13, 14, 15, 16, 17, 18, 19, 20, 21, 22] rfl rfl (by decide) (by decide) hk1 hFc
        generalize H1 = H at hP hS ⊢
        refine W.widen (k := 148) (n := 2197) (Nat.le_of_ble_eq_true rfl) (Nat.le_of_ble_eq_true rfl) ?_
        have hw : r_20 = 1 := hw
        rw [hw]
        refine lv_iload hx hb dL_law_459 (lv_at hl 1 rfl) ?_
        refine lv_icmp_eq (tgt := 466) hx hb dL_law_461 (by decide) (fun c_21 => ?_) (fun c_21 => ?_)
        · refine lv_iload hx hb dL_law_466 (lv_at hl 1 rfl) ?_
          refine lv_if_ne (tgt := 483) hx hb dL_law_468 (by decide) (fun c_22 => ?_) (fun c_22 => ?_)
          · refine lv_goto (tgt := 2636) hx hb dL_law_483 (by decide) ?_
            refine lv_iinc (v := 6) (lv' := [(5, .int 6), (7, .int 0), (6, .int 1), (4, .ref od), (3, .ref ou), (2, .ref m0), (1, .ref x0), (0, .ref b)]) hx hb dL_law_2636 hl (k := 2) rfl (by decide) (by decide) rfl (fun ls hl => ?_)
            refine lv_goto (tgt := 28) hx hb dL_law_2639 (by decide) ?_
            refine lv_iload hx hb dL_law_28 (lv_at hl 0 rfl) ?_
            refine lv_aload_n hx hb dL_law_30 rfl (lv_at hl 7 rfl) ?_
            refine va_slen hx hb hX hbl hbA hS dL_law_31 ?_
            refine lv_topi (fun n_23 en_23 => ?_)
            obtain rfl : n_23 = 6 := en_23.trans (by decide)
            refine lv_bipush (v := 6) hx hb dL_law_32 (by decide) ?_
            refine lv_isub hx hb dL_law_34 ?_
            refine lv_topi (fun k_24 ek_24 => ?_)
            obtain rfl : k_24 = 0 := ek_24.trans (by decide)
            refine lv_icmp_gt (tgt := 2642) hx hb dL_law_35 (by decide) (fun c_25 => ?_) (fun c_25 => ?_)
            · refine lv_iconst (v := 1) hx hb dL_law_2642 (by decide) ?_
              refine W.widen (k := 600006) (n := 7302072) (Nat.le_of_ble_eq_true rfl) (Nat.le_of_ble_eq_true rfl) ?_
              refine va_forget hS.2.2 ?_
              refine W.base ?_
              exact lw_ret (Drawn.sameBut.refl s.drawn lw_cs) hx hb hr hlocks dL_law_2643
            · exact absurd (by decide) c_25
          · exact absurd c_22 (by decide)
        · exact absurd (by decide) c_21
      · exact absurd c_5 c_14
    · have hw := hw.2 t_9
      rw [hw]
      refine lv_istore (lv' := [(6, .int 0), (5, .int 0), (4, .ref od), (3, .ref ou), (2, .ref m0), (1, .ref x0), (0, .ref b)]) hx hb dL_law_427 hl (by decide) rfl (fun ls hl => ?_)
      refine lv_aload_n hx hb dL_law_429 rfl (lv_at hl 4 rfl) ?_
      refine lv_aload_n hx hb dL_law_430 rfl (lv_at hl 6 rfl) ?_
      refine lv_iload hx hb dL_law_431 (lv_at hl 1 rfl) ?_
      refine lv_iconst (v := 1) hx hb dL_law_433 (by decide) ?_
      refine lv_iadd hx hb dL_law_434 ?_
      refine lv_topi (fun k_26 ek_26 => ?_)
      obtain rfl : k_26 = 1 := ek_26.trans (by decide)
      refine va_sld hx hb hX hbl hbA hS (vp_in_iff.mpr ⟨by decide, by decide⟩) dL_law_435 ?_
      refine lv_topi (fun y_27 ey_27 => ?_)
      have ey_27 : y_27 = xs 1 := ey_27
      obtain rfl : y_2 = y_27 := ey_2.trans ey_27.symm
      refine lv_aload_n hx hb dL_law_436 rfl (lv_at hl 6 rfl) ?_
      refine lv_iload hx hb dL_law_437 (lv_at hl 1 rfl) ?_
      refine lv_iconst (v := 2) hx hb dL_law_439 (by decide) ?_
      refine lv_iadd hx hb dL_law_440 ?_
      refine lv_topi (fun k_28 ek_28 => ?_)
      obtain rfl : k_28 = 2 := ek_28.trans (by decide)
      refine va_sld hx hb hX hbl hbA hS (vp_in_iff.mpr ⟨by decide, by decide⟩) dL_law_441 ?_
      refine lv_topi (fun y_29 ey_29 => ?_)
      have ey_29 : y_29 = xs 2 := ey_29
      obtain rfl : y_4 = y_29 := ey_4.trans ey_29.symm
      refine lv_if_eq (tgt := 449) hx hb dL_law_442 (by decide) (fun c_30 => ?_) (fun c_30 => ?_)
      · refine lv_iconst (v := 0) hx hb dL_law_449 (by decide) ?_
        have hPc := hP.sub (ws' := [(m0, .inr (14, [.ref lc, .ref lp, .ref dl, .ref ff, .ref fb, .ref lw, .ref lo, .ref (em 1), .int 0])), (lc, .inr (5, [.int 0, .ref (em 0), .int 0]))]) [14, 15] rfl
        have hDc := hD.sub (ws' := [(m0, .inr (14, [.ref lc, .ref lp, .ref dl, .ref ff, .ref fb, .ref lw, .ref lo, .ref (em 1), .int 0])), (lc, .inr (5, [.int 0, .ref (em 0), .int 0]))]) [14, 15] (by decide) rfl
        have hKc := hK.sub (tys' := []) [] rfl
        have hFc := va_free (wc := [(m0, .inr (14, [.ref lc, .ref lp, .ref dl, .ref ff, .ref fb, .ref lw, .ref lo, .ref (em 1), .int 0])), (lc, .inr (5, [.int 0, .ref (em 0), .int 0]))]) hD hS hA [14, 15] rfl
        refine va_calli (va_runV (As := [.int y_2, .int 0]) (rest := []) ⟨hx, hb, hml, hown, hts⟩ (c_X8_turn l em dC dI m0 y_2 0 (.ref lp) (.ref dl) (.ref ff) (.ref fb) (.ref lw) (.ref lo) (.ref (em 1)) (.int 0) lc (.ref (em 0)) H.size) (cwV 2 hts gT_X8_turn rfl rfl rfl (by decide +kernel) ⟨Nat.le_of_ble_eq_true rfl, Nat.le_of_ble_eq_true rfl⟩) ⟨Pw.blind _ _ _ _ _ _ _, va_recv hKc hPc (ci := 14) (q0 := 0) rfl rfl, fun U hU hW => ⟨rfl, Pw.go hPc hKc hDc hamb hS hFc hU hW⟩⟩ rfl rfl hl.1 rfl (lv_room (Nat.le_of_ble_eq_true rfl)) dL_law_450 ⟨Nat.le_of_ble_eq_true rfl, Nat.le_of_ble_eq_true rfl⟩) hS (fun q _ h => hFc q h) hFc (fun r_31 u t H1 locs1 ht hvm hw hB hz1 hk1 hS => ?_)
        obtain ⟨tvx_32, ⟨hP1, hK1, hD1⟩, f_33, f_34⟩ := hB
        rw [ht] at hP1
        have hK1 := va_K.moved hvm.symm hK1
        obtain ⟨hP, hD⟩ := va_join (wr := [(ca, .inl (cC, 16, .inr (.inr (.inr (.inr fC))))), (c0, .inr (7, [.ref th, u1, u2, .int 0, .int 0, .int 0, .int 0])), (th, .inl (cH, 4, .inl (fun _ => 0))), (dr, .inl (cO, 26, .inr (.inr (.inr (.inr fD))))), (rr, .inl (cI, 5, .inl (fun _ => 0))), (ty0, .inl (cT, 8, .inl (fun _ => 0))), (sf, .inr (10, [.int 0, sf1, .int 0, .int 0, .int 0, .int 1, .int 0])), (sb, .inr (10, [.int 1, sb1, .int 0, .int 0, .int 0, .int 1, .int 0])), (ra0, .inl (cR, 6, .inl (fun _ => 0))), (bk, .inr (6, [.ref a0, .ref a1, .ref a2, .ref mo, .int 0])), (a0, .inl (cB0, 8, .inl (fun _ => 0))), (a1, .inl (cB1, 8, .inl (fun _ => 0))), (a2, .inl (cB2, 8, .inl (fun _ => 0))), (mo, .inl (cM, 256, .inl (fun _ => 0))), (lp, .inr (5, [.int 0, .ref (em 0), .int 0])), (dl, .inl (cO8, 26, .inr (.inr (.inr (.inr fL))))), (rr8, .inl (cI8, 5, .inl (fun _ => 0))), (ff, .inr (13, [tf, .int 0, .int 0, .int 1, .int 0])), (fb, .inr (13, [tb, .int 0, .int 0, .int 1, .int 0])), (lw, .inr (5, [.int 0, .ref (em 0), .int 0])), (lo, .inr (5, [.int 0, .ref (em 0), .int 0])), (od, .inl (cOd, 1, .inr (.inr (.inr (.inl (fun _ => 0)))))), (ou, .inl (cOut, 1, .inr (.inl gOx_7)))]) (w1 := [(m0, .inr (14, [.ref lc, .ref lp, .ref dl, .ref ff, .ref fb, .ref lw, .ref lo, .ref (em 1), .int tvx_32]))]) hP hD [14, 15] [0, 1, 2, 3, 4, 5, 6, 7, 8, 9, 10, 11, 12, 13, 16, 17, 18, 19, 20, 21, 22, 23, 24] rfl rfl (by decide) (by decide) hk1 hFc hP1 hD1
        have hK := (hK.sub (tys' := [(cC, (.object "Bothfaces$Card")), (cH, .int), (cO, (.array .int)), (cI, .int), (cT, .int), (cR, .int), (cB0, .int), (cB1, .int), (cB2, .int), (cM, .int), (cO8, (.array .int)), (cI8, .int), (cOd, .double), (cOut, .long)]) [0, 1, 2, 3, 4, 5, 6, 7, 8, 9, 10, 11, 12, 13] rfl).app hK1
        generalize H1 = H at hP hS ⊢
        have hP : va_P (dC, dI) vwCl [(ca, .inl (cC, 16, .inr (.inr (.inr (.inr fC))))), (c0, .inr (7, [.ref th, u1, u2, .int 0, .int 0, .int 0, .int 0])), (th, .inl (cH, 4, .inl (fun _ => 0))), (dr, .inl (cO, 26, .inr (.inr (.inr (.inr fD))))), (rr, .inl (cI, 5, .inl (fun _ => 0))), (ty0, .inl (cT, 8, .inl (fun _ => 0))), (sf, .inr (10, [.int 0, sf1, .int 0, .int 0, .int 0, .int 1, .int 0])), (sb, .inr (10, [.int 1, sb1, .int 0, .int 0, .int 0, .int 1, .int 0])), (ra0, .inl (cR, 6, .inl (fun _ => 0))), (bk, .inr (6, [.ref a0, .ref a1, .ref a2, .ref mo, .int 0])), (a0, .inl (cB0, 8, .inl (fun _ => 0))), (a1, .inl (cB1, 8, .inl (fun _ => 0))), (a2, .inl (cB2, 8, .inl (fun _ => 0))), (mo, .inl (cM, 256, .inl (fun _ => 0))), (lp, .inr (5, [.int 0, .ref (em 0), .int 0])), (dl, .inl (cO8, 26, .inr (.inr (.inr (.inr fL))))), (rr8, .inl (cI8, 5, .inl (fun _ => 0))), (ff, .inr (13, [tf, .int 0, .int 0, .int 1, .int 0])), (fb, .inr (13, [tb, .int 0, .int 0, .int 1, .int 0])), (lw, .inr (5, [.int 0, .ref (em 0), .int 0])), (lo, .inr (5, [.int 0, .ref (em 0), .int 0])), (od, .inl (cOd, 1, .inr (.inr (.inr (.inl (fun _ => 0)))))), (ou, .inl (cOut, 1, .inr (.inl gOx_7))), (m0, .inr (14, [.ref lc, .ref lp, .ref dl, .ref ff, .ref fb, .ref lw, .ref lo, .ref (em 1), .int tvx_32]))] H := hP
        have hD : va_D (fun q : Nat => s.heap.size ≤ q) [(ca, .inl (cC, 16, .inr (.inr (.inr (.inr fC))))), (c0, .inr (7, [.ref th, u1, u2, .int 0, .int 0, .int 0, .int 0])), (th, .inl (cH, 4, .inl (fun _ => 0))), (dr, .inl (cO, 26, .inr (.inr (.inr (.inr fD))))), (rr, .inl (cI, 5, .inl (fun _ => 0))), (ty0, .inl (cT, 8, .inl (fun _ => 0))), (sf, .inr (10, [.int 0, sf1, .int 0, .int 0, .int 0, .int 1, .int 0])), (sb, .inr (10, [.int 1, sb1, .int 0, .int 0, .int 0, .int 1, .int 0])), (ra0, .inl (cR, 6, .inl (fun _ => 0))), (bk, .inr (6, [.ref a0, .ref a1, .ref a2, .ref mo, .int 0])), (a0, .inl (cB0, 8, .inl (fun _ => 0))), (a1, .inl (cB1, 8, .inl (fun _ => 0))), (a2, .inl (cB2, 8, .inl (fun _ => 0))), (mo, .inl (cM, 256, .inl (fun _ => 0))), (lp, .inr (5, [.int 0, .ref (em 0), .int 0])), (dl, .inl (cO8, 26, .inr (.inr (.inr (.inr fL))))), (rr8, .inl (cI8, 5, .inl (fun _ => 0))), (ff, .inr (13, [tf, .int 0, .int 0, .int 1, .int 0])), (fb, .inr (13, [tb, .int 0, .int 0, .int 1, .int 0])), (lw, .inr (5, [.int 0, .ref (em 0), .int 0])), (lo, .inr (5, [.int 0, .ref (em 0), .int 0])), (od, .inl (cOd, 1, .inr (.inr (.inr (.inl (fun _ => 0)))))), (ou, .inl (cOut, 1, .inr (.inl gOx_7))), (m0, .inr (14, [.ref lc, .ref lp, .ref dl, .ref ff, .ref fb, .ref lw, .ref lo, .ref (em 1), .int tvx_32]))] := hD
        have hK : va_K (dC, dI) vwCl [(cC, (.object "Bothfaces$Card")), (cH, .int), (cO, (.array .int)), (cI, .int), (cT, .int), (cR, .int), (cB0, .int), (cB1, .int), (cB2, .int), (cM, .int), (cO8, (.array .int)), (cI8, .int), (cOd, .double), (cOut, .long)] s := hK
        refine W.widen (k := 148) (n := 2197) (Nat.le_of_ble_eq_true rfl) (Nat.le_of_ble_eq_true rfl) ?_
        have hw : ((y_2.toInt < 0 ∨ 3 < y_2.toInt) → r_31 = 0) ∧ (¬ (y_2.toInt < 0 ∨ 3 < y_2.toInt) → r_31 = 0) := hw
        have hw := hw.2 t_9
        rw [hw]
        obtain rfl : tvx_32 = 0 := f_34 t_9
        refine lv_istore (lv' := [(7, .int 0), (6, .int 0), (5, .int 0), (4, .ref od), (3, .ref ou), (2, .ref m0), (1, .ref x0), (0, .ref b)]) hx hb dL_law_453 hl (by decide) rfl (fun ls hl => ?_)
        refine lv_aload_n hx hb dL_law_455 rfl (lv_at hl 5 rfl) ?_
        have hPc := hP.sub (ws' := [(m0, .inr (14, [.ref lc, .ref lp, .ref dl, .ref ff, .ref fb, .ref lw, .ref lo, .ref (em 1), .int 0]))]) [23] rfl
        have hDc := hD.sub (ws' := [(m0, .inr (14, [.ref lc, .ref lp, .ref dl, .ref ff, .ref fb, .ref lw, .ref lo, .ref (em 1), .int 0]))]) [23] (by decide) rfl
        have hKc := hK.sub (tys' := []) [] rfl
        have hFc := va_free (wc := [(m0, .inr (14, [.ref lc, .ref lp, .ref dl, .ref ff, .ref fb, .ref lw, .ref lo, .ref (em 1), .int 0]))]) hD hS hA [23] rfl
        refine va_calli (va_runV (As := []) (rest := []) ⟨hx, hb, hml, hown, hts⟩ (c_X8_thrown l em dC dI m0 0 (.ref lc) (.ref lp) (.ref dl) (.ref ff) (.ref fb) (.ref lw) (.ref lo) (.ref (em 1)) H.size) (cwV 0 hts gT_X8_thrown rfl rfl rfl (by decide +kernel) ⟨Nat.le_of_ble_eq_true rfl, Nat.le_of_ble_eq_true rfl⟩) ⟨Pw.blind _ _ _ _ _ _ _, va_recv hKc hPc (ci := 14) (q0 := 0) rfl rfl, fun U hU hW => ⟨rfl, Pw.go hPc hKc hDc hamb hS hFc hU hW⟩⟩ rfl rfl hl.1 rfl (lv_room (Nat.le_of_ble_eq_true rfl)) dL_law_456 ⟨Nat.le_of_ble_eq_true rfl, Nat.le_of_ble_eq_true rfl⟩) hS (fun q _ h => hFc q h) hFc (fun r_36 u t H1 locs1 ht hvm hw hB hz1 hk1 hS => ?_)
        obtain ⟨hP, hD⟩ := va_rest (wr := [(ca, .inl (cC, 16, .inr (.inr (.inr (.inr fC))))), (c0, .inr (7, [.ref th, u1, u2, .int 0, .int 0, .int 0, .int 0])), (th, .inl (cH, 4, .inl (fun _ => 0))), (dr, .inl (cO, 26, .inr (.inr (.inr (.inr fD))))), (rr, .inl (cI, 5, .inl (fun _ => 0))), (ty0, .inl (cT, 8, .inl (fun _ => 0))), (sf, .inr (10, [.int 0, sf1, .int 0, .int 0, .int 0, .int 1, .int 0])), (sb, .inr (10, [.int 1, sb1, .int 0, .int 0, .int 0, .int 1, .int 0])), (ra0, .inl (cR, 6, .inl (fun _ => 0))), (bk, .inr (6, [.ref a0, .ref a1, .ref a2, .ref mo, .int 0])), (a0, .inl (cB0, 8, .inl (fun _ => 0))), (a1, .inl (cB1, 8, .inl (fun _ => 0))), (a2, .inl (cB2, 8, .inl (fun _ => 0))), (mo, .inl (cM, 256, .inl (fun _ => 0))), (lp, .inr (5, [.int 0, .ref (em 0), .int 0])), (dl, .inl (cO8, 26, .inr (.inr (.inr (.inr fL))))), (rr8, .inl (cI8, 5, .inl (fun _ => 0))), (ff, .inr (13, [tf, .int 0, .int 0, .int 1, .int 0])), (fb, .inr (13, [tb, .int 0, .int 0, .int 1, .int 0])), (lw, .inr (5, [.int 0, .ref (em 0), .int 0])), (lo, .inr (5, [.int 0, .ref (em 0), .int 0])), (od, .inl (cOd, 1, .inr (.inr (.inr (.inl (fun _ => 0)))))), (ou, .inl (cOut, 1, .inr (.inl gOx_7)))]) hP hD [23] [0, 1, 2, 3, 4, 5, 6, 7, 8, 9, 10, 11, 12, 13, 14, 15, 16, 17, 18, 19, 20, 21, 22] rfl rfl (by decide) (by decide) hk1 hFc
        generalize H1 = H at hP hS ⊢
        refine W.widen (k := 148) (n := 2197) (Nat.le_of_ble_eq_true rfl) (Nat.le_of_ble_eq_true rfl) ?_
        have hw : r_36 = 0 := hw
        rw [hw]
        refine lv_iload hx hb dL_law_459 (lv_at hl 1 rfl) ?_
        refine lv_icmp_eq (tgt := 466) hx hb dL_law_461 (by decide) (fun c_37 => ?_) (fun c_37 => ?_)
        · refine lv_iload hx hb dL_law_466 (lv_at hl 1 rfl) ?_
          refine lv_if_ne (tgt := 483) hx hb dL_law_468 (by decide) (fun c_38 => ?_) (fun c_38 => ?_)
          · exact absurd (by decide) c_38
          · refine lv_aload_n hx hb dL_law_471 rfl (lv_at hl 4 rfl) ?_
            refine lv_iconst (v := 0) hx hb dL_law_472 (by decide) ?_
            refine va_lald hx hb hK hP 22 13 rfl rfl (vp_in_iff.mpr ⟨by decide, by decide⟩) dL_law_473 ?_
            refine lv_topl (fun k_39 ek_39 => ?_)
            obtain rfl : 0 = k_39 := (ek_39.trans (f_8 t_9)).symm
            refine lv_iload hx hb dL_law_474 (lv_at hl 0 rfl) ?_
            refine lv_i2l (v := 0) hx hb dL_law_476 (by decide) ?_
            refine W.lcmp hx hb dL_law_477 ?_
            refine lv_topi (fun k_40 ek_40 => ?_)
            obtain rfl : k_40 = 0 := ek_40.trans (by decide)
            refine lv_if_eq (tgt := 483) hx hb dL_law_478 (by decide) (fun c_41 => ?_) (fun c_41 => ?_)
            · refine lv_goto (tgt := 2636) hx hb dL_law_483 (by decide) ?_
              refine lv_iinc (v := 6) (lv' := [(5, .int 6), (7, .int 0), (6, .int 0), (4, .ref od), (3, .ref ou), (2, .ref m0), (1, .ref x0), (0, .ref b)]) hx hb dL_law_2636 hl (k := 2) rfl (by decide) (by decide) rfl (fun ls hl => ?_)
              refine lv_goto (tgt := 28) hx hb dL_law_2639 (by decide) ?_
              refine lv_iload hx hb dL_law_28 (lv_at hl 0 rfl) ?_
              refine lv_aload_n hx hb dL_law_30 rfl (lv_at hl 7 rfl) ?_
              refine va_slen hx hb hX hbl hbA hS dL_law_31 ?_
              refine lv_topi (fun n_42 en_42 => ?_)
              obtain rfl : n_42 = 6 := en_42.trans (by decide)
              refine lv_bipush (v := 6) hx hb dL_law_32 (by decide) ?_
              refine lv_isub hx hb dL_law_34 ?_
              refine lv_topi (fun k_43 ek_43 => ?_)
              obtain rfl : k_43 = 0 := ek_43.trans (by decide)
              refine lv_icmp_gt (tgt := 2642) hx hb dL_law_35 (by decide) (fun c_44 => ?_) (fun c_44 => ?_)
              · refine lv_iconst (v := 1) hx hb dL_law_2642 (by decide) ?_
                refine W.widen (k := 600006) (n := 7302072) (Nat.le_of_ble_eq_true rfl) (Nat.le_of_ble_eq_true rfl) ?_
                refine va_forget hS.2.2 ?_
                refine W.base ?_
                exact lw_ret (Drawn.sameBut.refl s.drawn lw_cs) hx hb hr hlocks dL_law_2643
              · exact absurd (by decide) c_44
            · exact absurd (by decide) c_41
        · exact absurd (by decide) c_37
      · exact absurd c_5 c_30
  · refine lv_iconst (v := 1) hx hb dL_law_418 (by decide) ?_
    refine lv_goto (tgt := 423) hx hb dL_law_419 (by decide) ?_
    refine lv_aload_n hx hb dL_law_423 rfl (lv_at hl 2 rfl) ?_
    have hPc := hP.sub (ws' := [(x0, .inr (11, [.ref ca, .int 0, .int 0, .ref dr, .ref ty0, .int 0, .ref sf, .ref sb, vp, vm, .ref ra0, .int 0, .ref bk])), (ou, .inl (cOut, 1, .inr (.inl (fun _ => 0))))]) [0, 24] rfl
    have hDc := hD.sub (ws' := [(x0, .inr (11, [.ref ca, .int 0, .int 0, .ref dr, .ref ty0, .int 0, .ref sf, .ref sb, vp, vm, .ref ra0, .int 0, .ref bk])), (ou, .inl (cOut, 1, .inr (.inl (fun _ => 0))))]) [0, 24] (by decide) rfl
    have hKc := hK.sub (tys' := [(cOut, .long)]) [12] rfl
    have hFc := va_free (wc := [(x0, .inr (11, [.ref ca, .int 0, .int 0, .ref dr, .ref ty0, .int 0, .ref sf, .ref sb, vp, vm, .ref ra0, .int 0, .ref bk])), (ou, .inl (cOut, 1, .inr (.inl (fun _ => 0))))]) hD hS hA [0, 24] rfl
    refine va_calli (vx_runSW (As := [.ref x0, .int y_2, .int 1, .ref ou]) (rest := []) ⟨hx, hb, hml, hown, hts⟩ (c_L_turn l hlt em dC dI x0 y_2 1 (.ref ca) (.int 0) (.ref dr) (.ref ty0) (.int 0) (.ref sf) (.ref sb) vp vm (.ref ra0) (.int 0) (.ref bk) ou cOut (fun _ => 0) H.size) (vx_cwSW 4 hts gT_L_turn rfl rfl rfl (by decide +kernel) ⟨Nat.le_of_ble_eq_true rfl, Nat.le_of_ble_eq_true rfl⟩) ⟨Pw.blind _ _ _ _ _ _ _, fun U hU hW => ⟨rfl, Pw.go hPc hKc hDc hamb hS hFc hU hW⟩⟩ rfl rfl hl.1 rfl (lv_room (Nat.le_of_ble_eq_true rfl)) dL_law_424 ⟨Nat.le_of_ble_eq_true rfl, Nat.le_of_ble_eq_true rfl⟩) hS (fun q _ h => hFc q h) hFc (fun r_45 u t H1 locs1 ht hvm hw hB hz1 hk1 hS => ?_)
    obtain ⟨gOx_46, ⟨hP1, hK1, hD1⟩, f_47⟩ := hB
    rw [ht] at hP1
    have hK1 := va_K.moved hvm.symm hK1
    obtain ⟨hP, hD⟩ := va_join (wr := [(ca, .inl (cC, 16, .inr (.inr (.inr (.inr fC))))), (c0, .inr (7, [.ref th, u1, u2, .int 0, .int 0, .int 0, .int 0])), (th, .inl (cH, 4, .inl (fun _ => 0))), (dr, .inl (cO, 26, .inr (.inr (.inr (.inr fD))))), (rr, .inl (cI, 5, .inl (fun _ => 0))), (ty0, .inl (cT, 8, .inl (fun _ => 0))), (sf, .inr (10, [.int 0, sf1, .int 0, .int 0, .int 0, .int 1, .int 0])), (sb, .inr (10, [.int 1, sb1, .int 0, .int 0, .int 0, .int 1, .int 0])), (ra0, .inl (cR, 6, .inl (fun _ => 0))), (bk, .inr (6, [.ref a0, .ref a1, .ref a2, .ref mo, .int 0])), (a0, .inl (cB0, 8, .inl (fun _ => 0))), (a1, .inl (cB1, 8, .inl (fun _ => 0))), (a2, .inl (cB2, 8, .inl (fun _ => 0))), (mo, .inl (cM, 256, .inl (fun _ => 0))), (m0, .inr (14, [.ref lc, .ref lp, .ref dl, .ref ff, .ref fb, .ref lw, .ref lo, .ref (em 1), .int 0])), (lc, .inr (5, [.int 0, .ref (em 0), .int 0])), (lp, .inr (5, [.int 0, .ref (em 0), .int 0])), (dl, .inl (cO8, 26, .inr (.inr (.inr (.inr fL))))), (rr8, .inl (cI8, 5, .inl (fun _ => 0))), (ff, .inr (13, [tf, .int 0, .int 0, .int 1, .int 0])), (fb, .inr (13, [tb, .int 0, .int 0, .int 1, .int 0])), (lw, .inr (5, [.int 0, .ref (em 0), .int 0])), (lo, .inr (5, [.int 0, .ref (em 0), .int 0])), (od, .inl (cOd, 1, .inr (.inr (.inr (.inl (fun _ => 0))))))]) (w1 := [(ou, .inl (cOut, 1, .inr (.inl gOx_46)))]) hP hD [0, 24] [1, 2, 3, 4, 5, 6, 7, 8, 9, 10, 11, 12, 13, 14, 15, 16, 17, 18, 19, 20, 21, 22, 23, 25] rfl rfl (by decide) (by decide) hk1 hFc hP1 hD1
    have hK := (hK.sub (tys' := [(cC, (.object "Bothfaces$Card")), (cH, .int), (cO, (.array .int)), (cI, .int), (cT, .int), (cR, .int), (cB0, .int), (cB1, .int), (cB2, .int), (cM, .int), (cO8, (.array .int)), (cI8, .int), (cOd, .double)]) [0, 1, 2, 3, 4, 5, 6, 7, 8, 9, 10, 11, 13] rfl).app hK1
    generalize H1 = H at hP hS ⊢
    have hP : va_P (dC, dI) vwCl [(ca, .inl (cC, 16, .inr (.inr (.inr (.inr fC))))), (c0, .inr (7, [.ref th, u1, u2, .int 0, .int 0, .int 0, .int 0])), (th, .inl (cH, 4, .inl (fun _ => 0))), (dr, .inl (cO, 26, .inr (.inr (.inr (.inr fD))))), (rr, .inl (cI, 5, .inl (fun _ => 0))), (ty0, .inl (cT, 8, .inl (fun _ => 0))), (sf, .inr (10, [.int 0, sf1, .int 0, .int 0, .int 0, .int 1, .int 0])), (sb, .inr (10, [.int 1, sb1, .int 0, .int 0, .int 0, .int 1, .int 0])), (ra0, .inl (cR, 6, .inl (fun _ => 0))), (bk, .inr (6, [.ref a0, .ref a1, .ref a2, .ref mo, .int 0])), (a0, .inl (cB0, 8, .inl (fun _ => 0))), (a1, .inl (cB1, 8, .inl (fun _ => 0))), (a2, .inl (cB2, 8, .inl (fun _ => 0))), (mo, .inl (cM, 256, .inl (fun _ => 0))), (m0, .inr (14, [.ref lc, .ref lp, .ref dl, .ref ff, .ref fb, .ref lw, .ref lo, .ref (em 1), .int 0])), (lc, .inr (5, [.int 0, .ref (em 0), .int 0])), (lp, .inr (5, [.int 0, .ref (em 0), .int 0])), (dl, .inl (cO8, 26, .inr (.inr (.inr (.inr fL))))), (rr8, .inl (cI8, 5, .inl (fun _ => 0))), (ff, .inr (13, [tf, .int 0, .int 0, .int 1, .int 0])), (fb, .inr (13, [tb, .int 0, .int 0, .int 1, .int 0])), (lw, .inr (5, [.int 0, .ref (em 0), .int 0])), (lo, .inr (5, [.int 0, .ref (em 0), .int 0])), (od, .inl (cOd, 1, .inr (.inr (.inr (.inl (fun _ => 0)))))), (ou, .inl (cOut, 1, .inr (.inl gOx_46)))] H := hP
    have hD : va_D (fun q : Nat => s.heap.size ≤ q) [(ca, .inl (cC, 16, .inr (.inr (.inr (.inr fC))))), (c0, .inr (7, [.ref th, u1, u2, .int 0, .int 0, .int 0, .int 0])), (th, .inl (cH, 4, .inl (fun _ => 0))), (dr, .inl (cO, 26, .inr (.inr (.inr (.inr fD))))), (rr, .inl (cI, 5, .inl (fun _ => 0))), (ty0, .inl (cT, 8, .inl (fun _ => 0))), (sf, .inr (10, [.int 0, sf1, .int 0, .int 0, .int 0, .int 1, .int 0])), (sb, .inr (10, [.int 1, sb1, .int 0, .int 0, .int 0, .int 1, .int 0])), (ra0, .inl (cR, 6, .inl (fun _ => 0))), (bk, .inr (6, [.ref a0, .ref a1, .ref a2, .ref mo, .int 0])), (a0, .inl (cB0, 8, .inl (fun _ => 0))), (a1, .inl (cB1, 8, .inl (fun _ => 0))), (a2, .inl (cB2, 8, .inl (fun _ => 0))), (mo, .inl (cM, 256, .inl (fun _ => 0))), (m0, .inr (14, [.ref lc, .ref lp, .ref dl, .ref ff, .ref fb, .ref lw, .ref lo, .ref (em 1), .int 0])), (lc, .inr (5, [.int 0, .ref (em 0), .int 0])), (lp, .inr (5, [.int 0, .ref (em 0), .int 0])), (dl, .inl (cO8, 26, .inr (.inr (.inr (.inr fL))))), (rr8, .inl (cI8, 5, .inl (fun _ => 0))), (ff, .inr (13, [tf, .int 0, .int 0, .int 1, .int 0])), (fb, .inr (13, [tb, .int 0, .int 0, .int 1, .int 0])), (lw, .inr (5, [.int 0, .ref (em 0), .int 0])), (lo, .inr (5, [.int 0, .ref (em 0), .int 0])), (od, .inl (cOd, 1, .inr (.inr (.inr (.inl (fun _ => 0)))))), (ou, .inl (cOut, 1, .inr (.inl gOx_46)))] := hD
    have hK : va_K (dC, dI) vwCl [(cC, (.object "Bothfaces$Card")), (cH, .int), (cO, (.array .int)), (cI, .int), (cT, .int), (cR, .int), (cB0, .int), (cB1, .int), (cB2, .int), (cM, .int), (cO8, (.array .int)), (cI8, .int), (cOd, .double), (cOut, .long)] s := hK
    refine W.widen (k := 147) (n := 2193) (Nat.le_of_ble_eq_true rfl) (Nat.le_of_ble_eq_true rfl) ?_
    have hw : ((y_2.toInt < 0 ∨ 3 < y_2.toInt) → r_45 = 1) ∧ (¬ (y_2.toInt < 0 ∨ 3 < y_2.toInt) → r_45 = 0) := hw
    rcases Classical.em (y_2.toInt < 0 ∨ 3 < y_2.toInt) with t_48 | t_48
    · have hw := hw.1 t_48
      rw [hw]
      refine lv_istore (lv' := [(6, .int 1), (5, .int 0), (4, .ref od), (3, .ref ou), (2, .ref m0), (1, .ref x0), (0, .ref b)]) hx hb dL_law_427 hl (by decide) rfl (fun ls hl => ?_)
      refine lv_aload_n hx hb dL_law_429 rfl (lv_at hl 4 rfl) ?_
      refine lv_aload_n hx hb dL_law_430 rfl (lv_at hl 6 rfl) ?_
      refine lv_iload hx hb dL_law_431 (lv_at hl 1 rfl) ?_
      refine lv_iconst (v := 1) hx hb dL_law_433 (by decide) ?_
      refine lv_iadd hx hb dL_law_434 ?_
      refine lv_topi (fun k_49 ek_49 => ?_)
      obtain rfl : k_49 = 1 := ek_49.trans (by decide)
      refine va_sld hx hb hX hbl hbA hS (vp_in_iff.mpr ⟨by decide, by decide⟩) dL_law_435 ?_
      refine lv_topi (fun y_50 ey_50 => ?_)
      have ey_50 : y_50 = xs 1 := ey_50
      obtain rfl : y_2 = y_50 := ey_2.trans ey_50.symm
      refine lv_aload_n hx hb dL_law_436 rfl (lv_at hl 6 rfl) ?_
      refine lv_iload hx hb dL_law_437 (lv_at hl 1 rfl) ?_
      refine lv_iconst (v := 2) hx hb dL_law_439 (by decide) ?_
      refine lv_iadd hx hb dL_law_440 ?_
      refine lv_topi (fun k_51 ek_51 => ?_)
      obtain rfl : k_51 = 2 := ek_51.trans (by decide)
      refine va_sld hx hb hX hbl hbA hS (vp_in_iff.mpr ⟨by decide, by decide⟩) dL_law_441 ?_
      refine lv_topi (fun y_52 ey_52 => ?_)
      have ey_52 : y_52 = xs 2 := ey_52
      obtain rfl : y_4 = y_52 := ey_4.trans ey_52.symm
      refine lv_if_eq (tgt := 449) hx hb dL_law_442 (by decide) (fun c_53 => ?_) (fun c_53 => ?_)
      · exact absurd c_53 c_5
      · refine lv_iconst (v := 1) hx hb dL_law_445 (by decide) ?_
        refine lv_goto (tgt := 450) hx hb dL_law_446 (by decide) ?_
        have hPc := hP.sub (ws' := [(m0, .inr (14, [.ref lc, .ref lp, .ref dl, .ref ff, .ref fb, .ref lw, .ref lo, .ref (em 1), .int 0])), (lc, .inr (5, [.int 0, .ref (em 0), .int 0]))]) [14, 15] rfl
        have hDc := hD.sub (ws' := [(m0, .inr (14, [.ref lc, .ref lp, .ref dl, .ref ff, .ref fb, .ref lw, .ref lo, .ref (em 1), .int 0])), (lc, .inr (5, [.int 0, .ref (em 0), .int 0]))]) [14, 15] (by decide) rfl
        have hKc := hK.sub (tys' := []) [] rfl
        have hFc := va_free (wc := [(m0, .inr (14, [.ref lc, .ref lp, .ref dl, .ref ff, .ref fb, .ref lw, .ref lo, .ref (em 1), .int 0])), (lc, .inr (5, [.int 0, .ref (em 0), .int 0]))]) hD hS hA [14, 15] rfl
        refine va_calli (va_runV (As := [.int y_2, .int 1]) (rest := []) ⟨hx, hb, hml, hown, hts⟩ (c_X8_turn l em dC dI m0 y_2 1 (.ref lp) (.ref dl) (.ref ff) (.ref fb) (.ref lw) (.ref lo) (.ref (em 1)) (.int 0) lc (.ref (em 0)) H.size) (cwV 2 hts gT_X8_turn rfl rfl rfl (by decide +kernel) ⟨Nat.le_of_ble_eq_true rfl, Nat.le_of_ble_eq_true rfl⟩) ⟨Pw.blind _ _ _ _ _ _ _, va_recv hKc hPc (ci := 14) (q0 := 0) rfl rfl, fun U hU hW => ⟨rfl, Pw.go hPc hKc hDc hamb hS hFc hU hW⟩⟩ rfl rfl hl.1 rfl (lv_room (Nat.le_of_ble_eq_true rfl)) dL_law_450 ⟨Nat.le_of_ble_eq_true rfl, Nat.le_of_ble_eq_true rfl⟩) hS (fun q _ h => hFc q h) hFc (fun r_54 u t H1 locs1 ht hvm hw hB hz1 hk1 hS => ?_)
        obtain ⟨tvx_55, ⟨hP1, hK1, hD1⟩, f_56, f_57⟩ := hB
        rw [ht] at hP1
        have hK1 := va_K.moved hvm.symm hK1
        obtain ⟨hP, hD⟩ := va_join (wr := [(ca, .inl (cC, 16, .inr (.inr (.inr (.inr fC))))), (c0, .inr (7, [.ref th, u1, u2, .int 0, .int 0, .int 0, .int 0])), (th, .inl (cH, 4, .inl (fun _ => 0))), (dr, .inl (cO, 26, .inr (.inr (.inr (.inr fD))))), (rr, .inl (cI, 5, .inl (fun _ => 0))), (ty0, .inl (cT, 8, .inl (fun _ => 0))), (sf, .inr (10, [.int 0, sf1, .int 0, .int 0, .int 0, .int 1, .int 0])), (sb, .inr (10, [.int 1, sb1, .int 0, .int 0, .int 0, .int 1, .int 0])), (ra0, .inl (cR, 6, .inl (fun _ => 0))), (bk, .inr (6, [.ref a0, .ref a1, .ref a2, .ref mo, .int 0])), (a0, .inl (cB0, 8, .inl (fun _ => 0))), (a1, .inl (cB1, 8, .inl (fun _ => 0))), (a2, .inl (cB2, 8, .inl (fun _ => 0))), (mo, .inl (cM, 256, .inl (fun _ => 0))), (lp, .inr (5, [.int 0, .ref (em 0), .int 0])), (dl, .inl (cO8, 26, .inr (.inr (.inr (.inr fL))))), (rr8, .inl (cI8, 5, .inl (fun _ => 0))), (ff, .inr (13, [tf, .int 0, .int 0, .int 1, .int 0])), (fb, .inr (13, [tb, .int 0, .int 0, .int 1, .int 0])), (lw, .inr (5, [.int 0, .ref (em 0), .int 0])), (lo, .inr (5, [.int 0, .ref (em 0), .int 0])), (od, .inl (cOd, 1, .inr (.inr (.inr (.inl (fun _ => 0)))))), (ou, .inl (cOut, 1, .inr (.inl gOx_46)))]) (w1 := [(m0, .inr (14, [.ref lc, .ref lp, .ref dl, .ref ff, .ref fb, .ref lw, .ref lo, .ref (em 1), .int tvx_55]))]) hP hD [14, 15] [0, 1, 2, 3, 4, 5, 6, 7, 8, 9, 10, 11, 12, 13, 16, 17, 18, 19, 20, 21, 22, 23, 24] rfl rfl (by decide) (by decide) hk1 hFc hP1 hD1
        have hK := (hK.sub (tys' := [(cC, (.object "Bothfaces$Card")), (cH, .int), (cO, (.array .int)), (cI, .int), (cT, .int), (cR, .int), (cB0, .int), (cB1, .int), (cB2, .int), (cM, .int), (cO8, (.array .int)), (cI8, .int), (cOd, .double), (cOut, .long)]) [0, 1, 2, 3, 4, 5, 6, 7, 8, 9, 10, 11, 12, 13] rfl).app hK1
        generalize H1 = H at hP hS ⊢
        have hP : va_P (dC, dI) vwCl [(ca, .inl (cC, 16, .inr (.inr (.inr (.inr fC))))), (c0, .inr (7, [.ref th, u1, u2, .int 0, .int 0, .int 0, .int 0])), (th, .inl (cH, 4, .inl (fun _ => 0))), (dr, .inl (cO, 26, .inr (.inr (.inr (.inr fD))))), (rr, .inl (cI, 5, .inl (fun _ => 0))), (ty0, .inl (cT, 8, .inl (fun _ => 0))), (sf, .inr (10, [.int 0, sf1, .int 0, .int 0, .int 0, .int 1, .int 0])), (sb, .inr (10, [.int 1, sb1, .int 0, .int 0, .int 0, .int 1, .int 0])), (ra0, .inl (cR, 6, .inl (fun _ => 0))), (bk, .inr (6, [.ref a0, .ref a1, .ref a2, .ref mo, .int 0])), (a0, .inl (cB0, 8, .inl (fun _ => 0))), (a1, .inl (cB1, 8, .inl (fun _ => 0))), (a2, .inl (cB2, 8, .inl (fun _ => 0))), (mo, .inl (cM, 256, .inl (fun _ => 0))), (lp, .inr (5, [.int 0, .ref (em 0), .int 0])), (dl, .inl (cO8, 26, .inr (.inr (.inr (.inr fL))))), (rr8, .inl (cI8, 5, .inl (fun _ => 0))), (ff, .inr (13, [tf, .int 0, .int 0, .int 1, .int 0])), (fb, .inr (13, [tb, .int 0, .int 0, .int 1, .int 0])), (lw, .inr (5, [.int 0, .ref (em 0), .int 0])), (lo, .inr (5, [.int 0, .ref (em 0), .int 0])), (od, .inl (cOd, 1, .inr (.inr (.inr (.inl (fun _ => 0)))))), (ou, .inl (cOut, 1, .inr (.inl gOx_46))), (m0, .inr (14, [.ref lc, .ref lp, .ref dl, .ref ff, .ref fb, .ref lw, .ref lo, .ref (em 1), .int tvx_55]))] H := hP
        have hD : va_D (fun q : Nat => s.heap.size ≤ q) [(ca, .inl (cC, 16, .inr (.inr (.inr (.inr fC))))), (c0, .inr (7, [.ref th, u1, u2, .int 0, .int 0, .int 0, .int 0])), (th, .inl (cH, 4, .inl (fun _ => 0))), (dr, .inl (cO, 26, .inr (.inr (.inr (.inr fD))))), (rr, .inl (cI, 5, .inl (fun _ => 0))), (ty0, .inl (cT, 8, .inl (fun _ => 0))), (sf, .inr (10, [.int 0, sf1, .int 0, .int 0, .int 0, .int 1, .int 0])), (sb, .inr (10, [.int 1, sb1, .int 0, .int 0, .int 0, .int 1, .int 0])), (ra0, .inl (cR, 6, .inl (fun _ => 0))), (bk, .inr (6, [.ref a0, .ref a1, .ref a2, .ref mo, .int 0])), (a0, .inl (cB0, 8, .inl (fun _ => 0))), (a1, .inl (cB1, 8, .inl (fun _ => 0))), (a2, .inl (cB2, 8, .inl (fun _ => 0))), (mo, .inl (cM, 256, .inl (fun _ => 0))), (lp, .inr (5, [.int 0, .ref (em 0), .int 0])), (dl, .inl (cO8, 26, .inr (.inr (.inr (.inr fL))))), (rr8, .inl (cI8, 5, .inl (fun _ => 0))), (ff, .inr (13, [tf, .int 0, .int 0, .int 1, .int 0])), (fb, .inr (13, [tb, .int 0, .int 0, .int 1, .int 0])), (lw, .inr (5, [.int 0, .ref (em 0), .int 0])), (lo, .inr (5, [.int 0, .ref (em 0), .int 0])), (od, .inl (cOd, 1, .inr (.inr (.inr (.inl (fun _ => 0)))))), (ou, .inl (cOut, 1, .inr (.inl gOx_46))), (m0, .inr (14, [.ref lc, .ref lp, .ref dl, .ref ff, .ref fb, .ref lw, .ref lo, .ref (em 1), .int tvx_55]))] := hD
        have hK : va_K (dC, dI) vwCl [(cC, (.object "Bothfaces$Card")), (cH, .int), (cO, (.array .int)), (cI, .int), (cT, .int), (cR, .int), (cB0, .int), (cB1, .int), (cB2, .int), (cM, .int), (cO8, (.array .int)), (cI8, .int), (cOd, .double), (cOut, .long)] s := hK
        refine W.widen (k := 148) (n := 2197) (Nat.le_of_ble_eq_true rfl) (Nat.le_of_ble_eq_true rfl) ?_
        have hw : ((y_2.toInt < 0 ∨ 3 < y_2.toInt) → r_54 = 0) ∧ (¬ (y_2.toInt < 0 ∨ 3 < y_2.toInt) → r_54 = 0) := hw
        have hw := hw.1 t_48
        rw [hw]
        obtain rfl : tvx_55 = 1 := f_56 t_48
        refine lv_istore (lv' := [(7, .int 0), (6, .int 1), (5, .int 0), (4, .ref od), (3, .ref ou), (2, .ref m0), (1, .ref x0), (0, .ref b)]) hx hb dL_law_453 hl (by decide) rfl (fun ls hl => ?_)
        refine lv_aload_n hx hb dL_law_455 rfl (lv_at hl 5 rfl) ?_
        have hPc := hP.sub (ws' := [(m0, .inr (14, [.ref lc, .ref lp, .ref dl, .ref ff, .ref fb, .ref lw, .ref lo, .ref (em 1), .int 1]))]) [23] rfl
        have hDc := hD.sub (ws' := [(m0, .inr (14, [.ref lc, .ref lp, .ref dl, .ref ff, .ref fb, .ref lw, .ref lo, .ref (em 1), .int 1]))]) [23] (by decide) rfl
        have hKc := hK.sub (tys' := []) [] rfl
        have hFc := va_free (wc := [(m0, .inr (14, [.ref lc, .ref lp, .ref dl, .ref ff, .ref fb, .ref lw, .ref lo, .ref (em 1), .int 1]))]) hD hS hA [23] rfl
        refine va_calli (va_runV (As := []) (rest := []) ⟨hx, hb, hml, hown, hts⟩ (c_X8_thrown l em dC dI m0 1 (.ref lc) (.ref lp) (.ref dl) (.ref ff) (.ref fb) (.ref lw) (.ref lo) (.ref (em 1)) H.size) (cwV 0 hts gT_X8_thrown rfl rfl rfl (by decide +kernel) ⟨Nat.le_of_ble_eq_true rfl, Nat.le_of_ble_eq_true rfl⟩) ⟨Pw.blind _ _ _ _ _ _ _, va_recv hKc hPc (ci := 14) (q0 := 0) rfl rfl, fun U hU hW => ⟨rfl, Pw.go hPc hKc hDc hamb hS hFc hU hW⟩⟩ rfl rfl hl.1 rfl (lv_room (Nat.le_of_ble_eq_true rfl)) dL_law_456 ⟨Nat.le_of_ble_eq_true rfl, Nat.le_of_ble_eq_true rfl⟩) hS (fun q _ h => hFc q h) hFc (fun r_59 u t H1 locs1 ht hvm hw hB hz1 hk1 hS => ?_)
        obtain ⟨hP, hD⟩ := va_rest (wr := [(ca, .inl (cC, 16, .inr (.inr (.inr (.inr fC))))), (c0, .inr (7, [.ref th, u1, u2, .int 0, .int 0, .int 0, .int 0])), (th, .inl (cH, 4, .inl (fun _ => 0))), (dr, .inl (cO, 26, .inr (.inr (.inr (.inr fD))))), (rr, .inl (cI, 5, .inl (fun _ => 0))), (ty0, .inl (cT, 8, .inl (fun _ => 0))), (sf, .inr (10, [.int 0, sf1, .int 0, .int 0, .int 0, .int 1, .int 0])), (sb, .inr (10, [.int 1, sb1, .int 0, .int 0, .int 0, .int 1, .int 0])), (ra0, .inl (cR, 6, .inl (fun _ => 0))), (bk, .inr (6, [.ref a0, .ref a1, .ref a2, .ref mo, .int 0])), (a0, .inl (cB0, 8, .inl (fun _ => 0))), (a1, .inl (cB1, 8, .inl (fun _ => 0))), (a2, .inl (cB2, 8, .inl (fun _ => 0))), (mo, .inl (cM, 256, .inl (fun _ => 0))), (lp, .inr (5, [.int 0, .ref (em 0), .int 0])), (dl, .inl (cO8, 26, .inr (.inr (.inr (.inr fL))))), (rr8, .inl (cI8, 5, .inl (fun _ => 0))), (ff, .inr (13, [tf, .int 0, .int 0, .int 1, .int 0])), (fb, .inr (13, [tb, .int 0, .int 0, .int 1, .int 0])), (lw, .inr (5, [.int 0, .ref (em 0), .int 0])), (lo, .inr (5, [.int 0, .ref (em 0), .int 0])), (od, .inl (cOd, 1, .inr (.inr (.inr (.inl (fun _ => 0)))))), (ou, .inl (cOut, 1, .inr (.inl gOx_46)))]) hP hD [23] [0, 1, 2, 3, 4, 5, 6, 7, 8, 9, 10, 11, 12, 13, 14, 15, 16, 17, 18, 19, 20, 21, 22] rfl rfl (by decide) (by decide) hk1 hFc
        generalize H1 = H at hP hS ⊢
        refine W.widen (k := 148) (n := 2197) (Nat.le_of_ble_eq_true rfl) (Nat.le_of_ble_eq_true rfl) ?_
        have hw : r_59 = 1 := hw
        rw [hw]
        refine lv_iload hx hb dL_law_459 (lv_at hl 1 rfl) ?_
        refine lv_icmp_eq (tgt := 466) hx hb dL_law_461 (by decide) (fun c_60 => ?_) (fun c_60 => ?_)
        · refine lv_iload hx hb dL_law_466 (lv_at hl 1 rfl) ?_
          refine lv_if_ne (tgt := 483) hx hb dL_law_468 (by decide) (fun c_61 => ?_) (fun c_61 => ?_)
          · refine lv_goto (tgt := 2636) hx hb dL_law_483 (by decide) ?_
            refine lv_iinc (v := 6) (lv' := [(5, .int 6), (7, .int 0), (6, .int 1), (4, .ref od), (3, .ref ou), (2, .ref m0), (1, .ref x0), (0, .ref b)]) hx hb dL_law_2636 hl (k := 2) rfl (by decide) (by decide) rfl (fun ls hl => ?_)
            refine lv_goto (tgt := 28) hx hb dL_law_2639 (by decide) ?_
            refine lv_iload hx hb dL_law_28 (lv_at hl 0 rfl) ?_
            refine lv_aload_n hx hb dL_law_30 rfl (lv_at hl 7 rfl) ?_
            refine va_slen hx hb hX hbl hbA hS dL_law_31 ?_
            refine lv_topi (fun n_62 en_62 => ?_)
            obtain rfl : n_62 = 6 := en_62.trans (by decide)
            refine lv_bipush (v := 6) hx hb dL_law_32 (by decide) ?_
            refine lv_isub hx hb dL_law_34 ?_
            refine lv_topi (fun k_63 ek_63 => ?_)
            obtain rfl : k_63 = 0 := ek_63.trans (by decide)
            refine lv_icmp_gt (tgt := 2642) hx hb dL_law_35 (by decide) (fun c_64 => ?_) (fun c_64 => ?_)
            · refine lv_iconst (v := 1) hx hb dL_law_2642 (by decide) ?_
              refine W.widen (k := 600006) (n := 7302072) (Nat.le_of_ble_eq_true rfl) (Nat.le_of_ble_eq_true rfl) ?_
              refine va_forget hS.2.2 ?_
              refine W.base ?_
              exact lw_ret (Drawn.sameBut.refl s.drawn lw_cs) hx hb hr hlocks dL_law_2643
            · exact absurd (by decide) c_64
          · exact absurd c_61 (by decide)
        · exact absurd (by decide) c_60
    · have hw := hw.2 t_48
      rw [hw]
      refine lv_istore (lv' := [(6, .int 0), (5, .int 0), (4, .ref od), (3, .ref ou), (2, .ref m0), (1, .ref x0), (0, .ref b)]) hx hb dL_law_427 hl (by decide) rfl (fun ls hl => ?_)
      refine lv_aload_n hx hb dL_law_429 rfl (lv_at hl 4 rfl) ?_
      refine lv_aload_n hx hb dL_law_430 rfl (lv_at hl 6 rfl) ?_
      refine lv_iload hx hb dL_law_431 (lv_at hl 1 rfl) ?_
      refine lv_iconst (v := 1) hx hb dL_law_433 (by decide) ?_
      refine lv_iadd hx hb dL_law_434 ?_
      refine lv_topi (fun k_65 ek_65 => ?_)
      obtain rfl : k_65 = 1 := ek_65.trans (by decide)
      refine va_sld hx hb hX hbl hbA hS (vp_in_iff.mpr ⟨by decide, by decide⟩) dL_law_435 ?_
      refine lv_topi (fun y_66 ey_66 => ?_)
      have ey_66 : y_66 = xs 1 := ey_66
      obtain rfl : y_2 = y_66 := ey_2.trans ey_66.symm
      refine lv_aload_n hx hb dL_law_436 rfl (lv_at hl 6 rfl) ?_
      refine lv_iload hx hb dL_law_437 (lv_at hl 1 rfl) ?_
      refine lv_iconst (v := 2) hx hb dL_law_439 (by decide) ?_
      refine lv_iadd hx hb dL_law_440 ?_
      refine lv_topi (fun k_67 ek_67 => ?_)
      obtain rfl : k_67 = 2 := ek_67.trans (by decide)
      refine va_sld hx hb hX hbl hbA hS (vp_in_iff.mpr ⟨by decide, by decide⟩) dL_law_441 ?_
      refine lv_topi (fun y_68 ey_68 => ?_)
      have ey_68 : y_68 = xs 2 := ey_68
      obtain rfl : y_4 = y_68 := ey_4.trans ey_68.symm
      refine lv_if_eq (tgt := 449) hx hb dL_law_442 (by decide) (fun c_69 => ?_) (fun c_69 => ?_)
      · exact absurd c_69 c_5
      · refine lv_iconst (v := 1) hx hb dL_law_445 (by decide) ?_
        refine lv_goto (tgt := 450) hx hb dL_law_446 (by decide) ?_
        have hPc := hP.sub (ws' := [(m0, .inr (14, [.ref lc, .ref lp, .ref dl, .ref ff, .ref fb, .ref lw, .ref lo, .ref (em 1), .int 0])), (lc, .inr (5, [.int 0, .ref (em 0), .int 0]))]) [14, 15] rfl
        have hDc := hD.sub (ws' := [(m0, .inr (14, [.ref lc, .ref lp, .ref dl, .ref ff, .ref fb, .ref lw, .ref lo, .ref (em 1), .int 0])), (lc, .inr (5, [.int 0, .ref (em 0), .int 0]))]) [14, 15] (by decide) rfl
        have hKc := hK.sub (tys' := []) [] rfl
        have hFc := va_free (wc := [(m0, .inr (14, [.ref lc, .ref lp, .ref dl, .ref ff, .ref fb, .ref lw, .ref lo, .ref (em 1), .int 0])), (lc, .inr (5, [.int 0, .ref (em 0), .int 0]))]) hD hS hA [14, 15] rfl
        refine va_calli (va_runV (As := [.int y_2, .int 1]) (rest := []) ⟨hx, hb, hml, hown, hts⟩ (c_X8_turn l em dC dI m0 y_2 1 (.ref lp) (.ref dl) (.ref ff) (.ref fb) (.ref lw) (.ref lo) (.ref (em 1)) (.int 0) lc (.ref (em 0)) H.size) (cwV 2 hts gT_X8_turn rfl rfl rfl (by decide +kernel) ⟨Nat.le_of_ble_eq_true rfl, Nat.le_of_ble_eq_true rfl⟩) ⟨Pw.blind _ _ _ _ _ _ _, va_recv hKc hPc (ci := 14) (q0 := 0) rfl rfl, fun U hU hW => ⟨rfl, Pw.go hPc hKc hDc hamb hS hFc hU hW⟩⟩ rfl rfl hl.1 rfl (lv_room (Nat.le_of_ble_eq_true rfl)) dL_law_450 ⟨Nat.le_of_ble_eq_true rfl, Nat.le_of_ble_eq_true rfl⟩) hS (fun q _ h => hFc q h) hFc (fun r_70 u t H1 locs1 ht hvm hw hB hz1 hk1 hS => ?_)
        obtain ⟨tvx_71, ⟨hP1, hK1, hD1⟩, f_72, f_73⟩ := hB
        rw [ht] at hP1
        have hK1 := va_K.moved hvm.symm hK1
        obtain ⟨hP, hD⟩ := va_join (wr := [(ca, .inl (cC, 16, .inr (.inr (.inr (.inr fC))))), (c0, .inr (7, [.ref th, u1, u2, .int 0, .int 0, .int 0, .int 0])), (th, .inl (cH, 4, .inl (fun _ => 0))), (dr, .inl (cO, 26, .inr (.inr (.inr (.inr fD))))), (rr, .inl (cI, 5, .inl (fun _ => 0))), (ty0, .inl (cT, 8, .inl (fun _ => 0))), (sf, .inr (10, [.int 0, sf1, .int 0, .int 0, .int 0, .int 1, .int 0])), (sb, .inr (10, [.int 1, sb1, .int 0, .int 0, .int 0, .int 1, .int 0])), (ra0, .inl (cR, 6, .inl (fun _ => 0))), (bk, .inr (6, [.ref a0, .ref a1, .ref a2, .ref mo, .int 0])), (a0, .inl (cB0, 8, .inl (fun _ => 0))), (a1, .inl (cB1, 8, .inl (fun _ => 0))), (a2, .inl (cB2, 8, .inl (fun _ => 0))), (mo, .inl (cM, 256, .inl (fun _ => 0))), (lp, .inr (5, [.int 0, .ref (em 0), .int 0])), (dl, .inl (cO8, 26, .inr (.inr (.inr (.inr fL))))), (rr8, .inl (cI8, 5, .inl (fun _ => 0))), (ff, .inr (13, [tf, .int 0, .int 0, .int 1, .int 0])), (fb, .inr (13, [tb, .int 0, .int 0, .int 1, .int 0])), (lw, .inr (5, [.int 0, .ref (em 0), .int 0])), (lo, .inr (5, [.int 0, .ref (em 0), .int 0])), (od, .inl (cOd, 1, .inr (.inr (.inr (.inl (fun _ => 0)))))), (ou, .inl (cOut, 1, .inr (.inl gOx_46)))]) (w1 := [(m0, .inr (14, [.ref lc, .ref lp, .ref dl, .ref ff, .ref fb, .ref lw, .ref lo, .ref (em 1), .int tvx_71]))]) hP hD [14, 15] [0, 1, 2, 3, 4, 5, 6, 7, 8, 9, 10, 11, 12, 13, 16, 17, 18, 19, 20, 21, 22, 23, 24] rfl rfl (by decide) (by decide) hk1 hFc hP1 hD1
        have hK := (hK.sub (tys' := [(cC, (.object "Bothfaces$Card")), (cH, .int), (cO, (.array .int)), (cI, .int), (cT, .int), (cR, .int), (cB0, .int), (cB1, .int), (cB2, .int), (cM, .int), (cO8, (.array .int)), (cI8, .int), (cOd, .double), (cOut, .long)]) [0, 1, 2, 3, 4, 5, 6, 7, 8, 9, 10, 11, 12, 13] rfl).app hK1
        generalize H1 = H at hP hS ⊢
        have hP : va_P (dC, dI) vwCl [(ca, .inl (cC, 16, .inr (.inr (.inr (.inr fC))))), (c0, .inr (7, [.ref th, u1, u2, .int 0, .int 0, .int 0, .int 0])), (th, .inl (cH, 4, .inl (fun _ => 0))), (dr, .inl (cO, 26, .inr (.inr (.inr (.inr fD))))), (rr, .inl (cI, 5, .inl (fun _ => 0))), (ty0, .inl (cT, 8, .inl (fun _ => 0))), (sf, .inr (10, [.int 0, sf1, .int 0, .int 0, .int 0, .int 1, .int 0])), (sb, .inr (10, [.int 1, sb1, .int 0, .int 0, .int 0, .int 1, .int 0])), (ra0, .inl (cR, 6, .inl (fun _ => 0))), (bk, .inr (6, [.ref a0, .ref a1, .ref a2, .ref mo, .int 0])), (a0, .inl (cB0, 8, .inl (fun _ => 0))), (a1, .inl (cB1, 8, .inl (fun _ => 0))), (a2, .inl (cB2, 8, .inl (fun _ => 0))), (mo, .inl (cM, 256, .inl (fun _ => 0))), (lp, .inr (5, [.int 0, .ref (em 0), .int 0])), (dl, .inl (cO8, 26, .inr (.inr (.inr (.inr fL))))), (rr8, .inl (cI8, 5, .inl (fun _ => 0))), (ff, .inr (13, [tf, .int 0, .int 0, .int 1, .int 0])), (fb, .inr (13, [tb, .int 0, .int 0, .int 1, .int 0])), (lw, .inr (5, [.int 0, .ref (em 0), .int 0])), (lo, .inr (5, [.int 0, .ref (em 0), .int 0])), (od, .inl (cOd, 1, .inr (.inr (.inr (.inl (fun _ => 0)))))), (ou, .inl (cOut, 1, .inr (.inl gOx_46))), (m0, .inr (14, [.ref lc, .ref lp, .ref dl, .ref ff, .ref fb, .ref lw, .ref lo, .ref (em 1), .int tvx_71]))] H := hP
        have hD : va_D (fun q : Nat => s.heap.size ≤ q) [(ca, .inl (cC, 16, .inr (.inr (.inr (.inr fC))))), (c0, .inr (7, [.ref th, u1, u2, .int 0, .int 0, .int 0, .int 0])), (th, .inl (cH, 4, .inl (fun _ => 0))), (dr, .inl (cO, 26, .inr (.inr (.inr (.inr fD))))), (rr, .inl (cI, 5, .inl (fun _ => 0))), (ty0, .inl (cT, 8, .inl (fun _ => 0))), (sf, .inr (10, [.int 0, sf1, .int 0, .int 0, .int 0, .int 1, .int 0])), (sb, .inr (10, [.int 1, sb1, .int 0, .int 0, .int 0, .int 1, .int 0])), (ra0, .inl (cR, 6, .inl (fun _ => 0))), (bk, .inr (6, [.ref a0, .ref a1, .ref a2, .ref mo, .int 0])), (a0, .inl (cB0, 8, .inl (fun _ => 0))), (a1, .inl (cB1, 8, .inl (fun _ => 0))), (a2, .inl (cB2, 8, .inl (fun _ => 0))), (mo, .inl (cM, 256, .inl (fun _ => 0))), (lp, .inr (5, [.int 0, .ref (em 0), .int 0])), (dl, .inl (cO8, 26, .inr (.inr (.inr (.inr fL))))), (rr8, .inl (cI8, 5, .inl (fun _ => 0))), (ff, .inr (13, [tf, .int 0, .int 0, .int 1, .int 0])), (fb, .inr (13, [tb, .int 0, .int 0, .int 1, .int 0])), (lw, .inr (5, [.int 0, .ref (em 0), .int 0])), (lo, .inr (5, [.int 0, .ref (em 0), .int 0])), (od, .inl (cOd, 1, .inr (.inr (.inr (.inl (fun _ => 0)))))), (ou, .inl (cOut, 1, .inr (.inl gOx_46))), (m0, .inr (14, [.ref lc, .ref lp, .ref dl, .ref ff, .ref fb, .ref lw, .ref lo, .ref (em 1), .int tvx_71]))] := hD
        have hK : va_K (dC, dI) vwCl [(cC, (.object "Bothfaces$Card")), (cH, .int), (cO, (.array .int)), (cI, .int), (cT, .int), (cR, .int), (cB0, .int), (cB1, .int), (cB2, .int), (cM, .int), (cO8, (.array .int)), (cI8, .int), (cOd, .double), (cOut, .long)] s := hK
        refine W.widen (k := 148) (n := 2197) (Nat.le_of_ble_eq_true rfl) (Nat.le_of_ble_eq_true rfl) ?_
        have hw : ((y_2.toInt < 0 ∨ 3 < y_2.toInt) → r_70 = 0) ∧ (¬ (y_2.toInt < 0 ∨ 3 < y_2.toInt) → r_70 = 0) := hw
        have hw := hw.2 t_48
        rw [hw]
        obtain rfl : tvx_71 = 0 := f_73 t_48
        refine lv_istore (lv' := [(7, .int 0), (6, .int 0), (5, .int 0), (4, .ref od), (3, .ref ou), (2, .ref m0), (1, .ref x0), (0, .ref b)]) hx hb dL_law_453 hl (by decide) rfl (fun ls hl => ?_)
        refine lv_aload_n hx hb dL_law_455 rfl (lv_at hl 5 rfl) ?_
        have hPc := hP.sub (ws' := [(m0, .inr (14, [.ref lc, .ref lp, .ref dl, .ref ff, .ref fb, .ref lw, .ref lo, .ref (em 1), .int 0]))]) [23] rfl
        have hDc := hD.sub (ws' := [(m0, .inr (14, [.ref lc, .ref lp, .ref dl, .ref ff, .ref fb, .ref lw, .ref lo, .ref (em 1), .int 0]))]) [23] (by decide) rfl
        have hKc := hK.sub (tys' := []) [] rfl
        have hFc := va_free (wc := [(m0, .inr (14, [.ref lc, .ref lp, .ref dl, .ref ff, .ref fb, .ref lw, .ref lo, .ref (em 1), .int 0]))]) hD hS hA [23] rfl
        refine va_calli (va_runV (As := []) (rest := []) ⟨hx, hb, hml, hown, hts⟩ (c_X8_thrown l em dC dI m0 0 (.ref lc) (.ref lp) (.ref dl) (.ref ff) (.ref fb) (.ref lw) (.ref lo) (.ref (em 1)) H.size) (cwV 0 hts gT_X8_thrown rfl rfl rfl (by decide +kernel) ⟨Nat.le_of_ble_eq_true rfl, Nat.le_of_ble_eq_true rfl⟩) ⟨Pw.blind _ _ _ _ _ _ _, va_recv hKc hPc (ci := 14) (q0 := 0) rfl rfl, fun U hU hW => ⟨rfl, Pw.go hPc hKc hDc hamb hS hFc hU hW⟩⟩ rfl rfl hl.1 rfl (lv_room (Nat.le_of_ble_eq_true rfl)) dL_law_456 ⟨Nat.le_of_ble_eq_true rfl, Nat.le_of_ble_eq_true rfl⟩) hS (fun q _ h => hFc q h) hFc (fun r_75 u t H1 locs1 ht hvm hw hB hz1 hk1 hS => ?_)
        obtain ⟨hP, hD⟩ := va_rest (wr := [(ca, .inl (cC, 16, .inr (.inr (.inr (.inr fC))))), (c0, .inr (7, [.ref th, u1, u2, .int 0, .int 0, .int 0, .int 0])), (th, .inl (cH, 4, .inl (fun _ => 0))), (dr, .inl (cO, 26, .inr (.inr (.inr (.inr fD))))), (rr, .inl (cI, 5, .inl (fun _ => 0))), (ty0, .inl (cT, 8, .inl (fun _ => 0))), (sf, .inr (10, [.int 0, sf1, .int 0, .int 0, .int 0, .int 1, .int 0])), (sb, .inr (10, [.int 1, sb1, .int 0, .int 0, .int 0, .int 1, .int 0])), (ra0, .inl (cR, 6, .inl (fun _ => 0))), (bk, .inr (6, [.ref a0, .ref a1, .ref a2, .ref mo, .int 0])), (a0, .inl (cB0, 8, .inl (fun _ => 0))), (a1, .inl (cB1, 8, .inl (fun _ => 0))), (a2, .inl (cB2, 8, .inl (fun _ => 0))), (mo, .inl (cM, 256, .inl (fun _ => 0))), (lp, .inr (5, [.int 0, .ref (em 0), .int 0])), (dl, .inl (cO8, 26, .inr (.inr (.inr (.inr fL))))), (rr8, .inl (cI8, 5, .inl (fun _ => 0))), (ff, .inr (13, [tf, .int 0, .int 0, .int 1, .int 0])), (fb, .inr (13, [tb, .int 0, .int 0, .int 1, .int 0])), (lw, .inr (5, [.int 0, .ref (em 0), .int 0])), (lo, .inr (5, [.int 0, .ref (em 0), .int 0])), (od, .inl (cOd, 1, .inr (.inr (.inr (.inl (fun _ => 0)))))), (ou, .inl (cOut, 1, .inr (.inl gOx_46)))]) hP hD [23] [0, 1, 2, 3, 4, 5, 6, 7, 8, 9, 10, 11, 12, 13, 14, 15, 16, 17, 18, 19, 20, 21, 22] rfl rfl (by decide) (by decide) hk1 hFc
        generalize H1 = H at hP hS ⊢
        refine W.widen (k := 148) (n := 2197) (Nat.le_of_ble_eq_true rfl) (Nat.le_of_ble_eq_true rfl) ?_
        have hw : r_75 = 0 := hw
        rw [hw]
        refine lv_iload hx hb dL_law_459 (lv_at hl 1 rfl) ?_
        refine lv_icmp_eq (tgt := 466) hx hb dL_law_461 (by decide) (fun c_76 => ?_) (fun c_76 => ?_)
        · refine lv_iload hx hb dL_law_466 (lv_at hl 1 rfl) ?_
          refine lv_if_ne (tgt := 483) hx hb dL_law_468 (by decide) (fun c_77 => ?_) (fun c_77 => ?_)
          · exact absurd (by decide) c_77
          · refine lv_aload_n hx hb dL_law_471 rfl (lv_at hl 4 rfl) ?_
            refine lv_iconst (v := 0) hx hb dL_law_472 (by decide) ?_
            refine va_lald hx hb hK hP 22 13 rfl rfl (vp_in_iff.mpr ⟨by decide, by decide⟩) dL_law_473 ?_
            refine lv_topl (fun k_78 ek_78 => ?_)
            obtain rfl : 0 = k_78 := (ek_78.trans (f_47 t_48)).symm
            refine lv_iload hx hb dL_law_474 (lv_at hl 0 rfl) ?_
            refine lv_i2l (v := 0) hx hb dL_law_476 (by decide) ?_
            refine W.lcmp hx hb dL_law_477 ?_
            refine lv_topi (fun k_79 ek_79 => ?_)
            obtain rfl : k_79 = 0 := ek_79.trans (by decide)
            refine lv_if_eq (tgt := 483) hx hb dL_law_478 (by decide) (fun c_80 => ?_) (fun c_80 => ?_)
            · refine lv_goto (tgt := 2636) hx hb dL_law_483 (by decide) ?_
              refine lv_iinc (v := 6) (lv' := [(5, .int 6), (7, .int 0), (6, .int 0), (4, .ref od), (3, .ref ou), (2, .ref m0), (1, .ref x0), (0, .ref b)]) hx hb dL_law_2636 hl (k := 2) rfl (by decide) (by decide) rfl (fun ls hl => ?_)
              refine lv_goto (tgt := 28) hx hb dL_law_2639 (by decide) ?_
              refine lv_iload hx hb dL_law_28 (lv_at hl 0 rfl) ?_
              refine lv_aload_n hx hb dL_law_30 rfl (lv_at hl 7 rfl) ?_
              refine va_slen hx hb hX hbl hbA hS dL_law_31 ?_
              refine lv_topi (fun n_81 en_81 => ?_)
              obtain rfl : n_81 = 6 := en_81.trans (by decide)
              refine lv_bipush (v := 6) hx hb dL_law_32 (by decide) ?_
              refine lv_isub hx hb dL_law_34 ?_
              refine lv_topi (fun k_82 ek_82 => ?_)
              obtain rfl : k_82 = 0 := ek_82.trans (by decide)
              refine lv_icmp_gt (tgt := 2642) hx hb dL_law_35 (by decide) (fun c_83 => ?_) (fun c_83 => ?_)
              · refine lv_iconst (v := 1) hx hb dL_law_2642 (by decide) ?_
                refine W.widen (k := 600006) (n := 7302072) (Nat.le_of_ble_eq_true rfl) (Nat.le_of_ble_eq_true rfl) ?_
                refine va_forget hS.2.2 ?_
                refine W.base ?_
                exact lw_ret (Drawn.sameBut.refl s.drawn lw_cs) hx hb hr hlocks dL_law_2643
              · exact absurd (by decide) c_83
            · exact absurd (by decide) c_80
        · exact absurd (by decide) c_76

set_option maxHeartbeats 4000000 in
set_option maxRecDepth 100000 in
theorem law_3 {p : Program} {e : Env} {s : State} {m : MethodId} {below : List Frame} {meth : Method} {c : Code} (l : Launch) (hlt : l.stackTraces = false) {b : Nat} {xs : Nat → Int32} (C0 : lw_At p s m meth c b 6 xs) (em : Nat → Nat) (dC : Nat → ClassId) (dI : Nat → Nat → Nat) (j : Nat) (hjj : ∀ z : Int32, z = ((xs 1).toUInt32 % 65536).toInt32 → 97 ≤ z.toInt → z.toInt ≤ 122 → (z - 97).toNatClampNeg = j) (x0 : Nat) (ca : Nat) (dr : Nat) (ty0 : Nat) (sf : Nat) (sb : Nat) (ra0 : Nat) (bk : Nat) (c0 : Nat) (th : Nat) (rr : Nat) (a0 : Nat) (a1 : Nat) (a2 : Nat) (mo : Nat) (vp : Value) (vm : Value) (u1 : Value) (u2 : Value) (sf1 : Value) (sb1 : Value) (fC : Nat → Option Nat) (fD : Nat → Option Nat) (cC : ClassId) (cH : ClassId) (cO : ClassId) (cI : ClassId) (cT : ClassId) (cR : ClassId) (cB0 : ClassId) (cB1 : ClassId) (cB2 : ClassId) (cM : ClassId) (m0 : Nat) (lc : Nat) (lp : Nat) (dl : Nat) (rr8 : Nat) (ff : Nat) (fb : Nat) (lw : Nat) (lo : Nat) (tf : Value) (tb : Value) (fL : Nat → Option Nat) (cO8 : ClassId) (cI8 : ClassId) (ou : Nat) (od : Nat) (cOut : ClassId) (cOd : ClassId) (hfC : fC 0 = some c0) (hfD : fD j = some rr) (hfL : fL j = some rr8) {H : Heap} {locs : List Loc} (hamb : amb em (fun q : Nat => s.heap.size ≤ q) s s.heap) (hK : va_K (dC, dI) vwCl [(cC, (.object "Bothfaces$Card")), (cH, .int), (cO, (.array .int)), (cI, .int), (cT, .int), (cR, .int), (cB0, .int), (cB1, .int), (cB2, .int), (cM, .int), (cO8, (.array .int)), (cI8, .int), (cOut, .long), (cOd, .double)] s) (hP : va_P (dC, dI) vwCl [(x0, .inr (11, [.ref ca, .int 0, .int 0, .ref dr, .ref ty0, .int 0, .ref sf, .ref sb, vp, vm, .ref ra0, .int 0, .ref bk])), (ca, .inl (cC, 16, .inr (.inr (.inr (.inr fC))))), (c0, .inr (7, [.ref th, u1, u2, .int 0, .int 0, .int 0, .int 0])), (th, .inl (cH, 4, .inl (fun _ => 0))), (dr, .inl (cO, 26, .inr (.inr (.inr (.inr fD))))), (rr, .inl (cI, 5, .inl (fun _ => 0))), (ty0, .inl (cT, 8, .inl (fun _ => 0))), (sf, .inr (10, [.int 0, sf1, .int 0, .int 0, .int 0, .int 1, .int 0])), (sb, .inr (10, [.int 1, sb1, .int 0, .int 0, .int 0, .int 1, .int 0])), (ra0, .inl (cR, 6, .inl (fun _ => 0))), (bk, .inr (6, [.ref a0, .ref a1, .ref a2, .ref mo, .int 0])), (a0, .inl (cB0, 8, .inl (fun _ => 0))), (a1, .inl (cB1, 8, .inl (fun _ => 0))), (a2, .inl (cB2, 8, .inl (fun _ => 0))), (mo, .inl (cM, 256, .inl (fun _ => 0))), (m0, .inr (14, [.ref lc, .ref lp, .ref dl, .ref ff, .ref fb, .ref lw, .ref lo, .ref (em 1), .int 0])), (lc, .inr (5, [.int 0, .ref (em 0), .int 0])), (lp, .inr (5, [.int 0, .ref (em 0), .int 0])), (dl, .inl (cO8, 26, .inr (.inr (.inr (.inr fL))))), (rr8, .inl (cI8, 5, .inl (fun _ => 0))), (ff, .inr (13, [tf, .int 0, .int 0, .int 1, .int 0])), (fb, .inr (13, [tb, .int 0, .int 0, .int 1, .int 0])), (lw, .inr (5, [.int 0, .ref (em 0), .int 0])), (lo, .inr (5, [.int 0, .ref (em 0), .int 0])), (ou, .inl (cOut, 1, .inr (.inl (fun _ => 0)))), (od, .inl (cOd, 1, .inr (.inr (.inr (.inl (fun _ => 0))))))] H) (hD : va_D (fun q : Nat => s.heap.size ≤ q) [(x0, .inr (11, [.ref ca, .int 0, .int 0, .ref dr, .ref ty0, .int 0, .ref sf, .ref sb, vp, vm, .ref ra0, .int 0, .ref bk])), (ca, .inl (cC, 16, .inr (.inr (.inr (.inr fC))))), (c0, .inr (7, [.ref th, u1, u2, .int 0, .int 0, .int 0, .int 0])), (th, .inl (cH, 4, .inl (fun _ => 0))), (dr, .inl (cO, 26, .inr (.inr (.inr (.inr fD))))), (rr, .inl (cI, 5, .inl (fun _ => 0))), (ty0, .inl (cT, 8, .inl (fun _ => 0))), (sf, .inr (10, [.int 0, sf1, .int 0, .int 0, .int 0, .int 1, .int 0])), (sb, .inr (10, [.int 1, sb1, .int 0, .int 0, .int 0, .int 1, .int 0])), (ra0, .inl (cR, 6, .inl (fun _ => 0))), (bk, .inr (6, [.ref a0, .ref a1, .ref a2, .ref mo, .int 0])), (a0, .inl (cB0, 8, .inl (fun _ => 0))), (a1, .inl (cB1, 8, .inl (fun _ => 0))), (a2, .inl (cB2, 8, .inl (fun _ => 0))), (mo, .inl (cM, 256, .inl (fun _ => 0))), (m0, .inr (14, [.ref lc, .ref lp, .ref dl, .ref ff, .ref fb, .ref lw, .ref lo, .ref (em 1), .int 0])), (lc, .inr (5, [.int 0, .ref (em 0), .int 0])), (lp, .inr (5, [.int 0, .ref (em 0), .int 0])), (dl, .inl (cO8, 26, .inr (.inr (.inr (.inr fL))))), (rr8, .inl (cI8, 5, .inl (fun _ => 0))), (ff, .inr (13, [tf, .int 0, .int 0, .int 1, .int 0])), (fb, .inr (13, [tb, .int 0, .int 0, .int 1, .int 0])), (lw, .inr (5, [.int 0, .ref (em 0), .int 0])), (lo, .inr (5, [.int 0, .ref (em 0), .int 0])), (ou, .inl (cOut, 1, .inr (.inl (fun _ => 0)))), (od, .inl (cOd, 1, .inr (.inr (.inr (.inl (fun _ => 0))))))]) (hS : va_S (fun q : Nat => s.heap.size ≤ q) s.heap H locs) {ls : Array Slot} (hl : lv_has ls 9 [(5, .int 0), (4, .ref od), (3, .ref ou), (2, .ref m0), (1, .ref x0), (0, .ref b)]) : W p l e room_1 s m #[Value.ref b] below meth c H locs 146 2187 (lw_Z below #[Value.ref b] s) (F0 m 486 ls []) := by
  obtain ⟨hx, hb, hr, hml, hown0, hts0, hX, hbl, hlocks, hgv⟩ := id C0
  have hts := ow_hts hts0
  have hown : s.vm.findClass RL = some m.cls := hown0
  have hA : ∀ q : Nat, s.heap.size ≤ q → (fun q : Nat => s.heap.size ≤ q) q := fun _ h => h
  have hbA : ¬ (fun q : Nat => s.heap.size ≤ q) b := Nat.not_le.mpr hbl
  refine lv_aload_n hx hb dL_law_486 rfl (lv_at hl 4 rfl) ?_
  refine lv_aload_n hx hb dL_law_487 rfl (lv_at hl 5 rfl) ?_
  refine lv_iload hx hb dL_law_488 (lv_at hl 0 rfl) ?_
  refine lv_iconst (v := 1) hx hb dL_law_490 (by decide) ?_
  refine lv_iadd hx hb dL_law_491 ?_
  refine lv_topi (fun k_1 ek_1 => ?_)
  obtain rfl : k_1 = 1 := ek_1.trans (by decide)
  refine va_sld hx hb hX hbl hbA hS (vp_in_iff.mpr ⟨by decide, by decide⟩) dL_law_492 ?_
  refine lv_topi (fun y_2 ey_2 => ?_)
  have ey_2 : y_2 = xs 1 := ey_2
  refine lv_aload_n hx hb dL_law_493 rfl (lv_at hl 2 rfl) ?_
  have hPc := hP.sub (ws' := [(x0, .inr (11, [.ref ca, .int 0, .int 0, .ref dr, .ref ty0, .int 0, .ref sf, .ref sb, vp, vm, .ref ra0, .int 0, .ref bk])), (ou, .inl (cOut, 1, .inr (.inl (fun _ => 0))))]) [0, 24] rfl
  have hDc := hD.sub (ws' := [(x0, .inr (11, [.ref ca, .int 0, .int 0, .ref dr, .ref ty0, .int 0, .ref sf, .ref sb, vp, vm, .ref ra0, .int 0, .ref bk])), (ou, .inl (cOut, 1, .inr (.inl (fun _ => 0))))]) [0, 24] (by decide) rfl
  have hKc := hK.sub (tys' := [(cOut, .long)]) [12] rfl
  have hFc := va_free (wc := [(x0, .inr (11, [.ref ca, .int 0, .int 0, .ref dr, .ref ty0, .int 0, .ref sf, .ref sb, vp, vm, .ref ra0, .int 0, .ref bk])), (ou, .inl (cOut, 1, .inr (.inl (fun _ => 0))))]) hD hS hA [0, 24] rfl
  refine va_calli (vx_runSW (As := [.ref x0, .int y_2, .ref ou]) (rest := []) ⟨hx, hb, hml, hown, hts⟩ (c_L_at l hlt em dC dI x0 y_2 (.ref ca) (.int 0) (.ref dr) (.ref ty0) (.int 0) (.ref sf) (.ref sb) vp vm (.ref ra0) (.int 0) (.ref bk) ou cOut (fun _ => 0) H.size) (vx_cwSW 3 hts gT_L_at rfl rfl rfl (by decide +kernel) ⟨Nat.le_of_ble_eq_true rfl, Nat.le_of_ble_eq_true rfl⟩) ⟨Pw.blind _ _ _ _ _ _ _, fun U hU hW => ⟨rfl, Pw.go hPc hKc hDc hamb hS hFc hU hW⟩⟩ rfl rfl hl.1 rfl (lv_room (Nat.le_of_ble_eq_true rfl)) dL_law_494 ⟨Nat.le_of_ble_eq_true rfl, Nat.le_of_ble_eq_true rfl⟩) hS (fun q _ h => hFc q h) hFc (fun r_3 u t H1 locs1 ht hvm hw hB hz1 hk1 hS => ?_)
  obtain ⟨hP1, hK1, hD1⟩ := hB
  rw [ht] at hP1
  have hK1 := va_K.moved hvm.symm hK1
  obtain ⟨hP, hD⟩ := va_join (wr := [(ca, .inl (cC, 16, .inr (.inr (.inr (.inr fC))))), (c0, .inr (7, [.ref th, u1, u2, .int 0, .int 0, .int 0, .int 0])), (th, .inl (cH, 4, .inl (fun _ => 0))), (dr, .inl (cO, 26, .inr (.inr (.inr (.inr fD))))), (rr, .inl (cI, 5, .inl (fun _ => 0))), (ty0, .inl (cT, 8, .inl (fun _ => 0))), (sf, .inr (10, [.int 0, sf1, .int 0, .int 0, .int 0, .int 1, .int 0])), (sb, .inr (10, [.int 1, sb1, .int 0, .int 0, .int 0, .int 1, .int 0])), (ra0, .inl (cR, 6, .inl (fun _ => 0))), (bk, .inr (6, [.ref a0, .ref a1, .ref a2, .ref mo, .int 0])), (a0, .inl (cB0, 8, .inl (fun _ => 0))), (a1, .inl (cB1, 8, .inl (fun _ => 0))), (a2, .inl (cB2, 8, .inl (fun _ => 0))), (mo, .inl (cM, 256, .inl (fun _ => 0))), (m0, .inr (14, [.ref lc, .ref lp, .ref dl, .ref ff, .ref fb, .ref lw, .ref lo, .ref (em 1), .int 0])), (lc, .inr (5, [.int 0, .ref (em 0), .int 0])), (lp, .inr (5, [.int 0, .ref (em 0), .int 0])), (dl, .inl (cO8, 26, .inr (.inr (.inr (.inr fL))))), (rr8, .inl (cI8, 5, .inl (fun _ => 0))), (ff, .inr (13, [tf, .int 0, .int 0, .int 1, .int 0])), (fb, .inr (13, [tb, .int 0, .int 0, .int 1, .int 0])), (lw, .inr (5, [.int 0, .ref (em 0), .int 0])), (lo, .inr (5, [.int 0, .ref (em 0), .int 0])), (od, .inl (cOd, 1, .inr (.inr (.inr (.inl (fun _ => 0))))))]) (w1 := [(ou, .inl (cOut, 1, .inr (.inl (fun _ => 0))))]) hP hD [0, 24] [1, 2, 3, 4, 5, 6, 7, 8, 9, 10, 11, 12, 13, 14, 15, 16, 17, 18, 19, 20, 21, 22, 23, 25] rfl rfl (by decide) (by decide) hk1 hFc hP1 hD1
  have hK := (hK.sub (tys' := [(cC, (.object "Bothfaces$Card")), (cH, .int), (cO, (.array .int)), (cI, .int), (cT, .int), (cR, .int), (cB0, .int), (cB1, .int), (cB2, .int), (cM, .int), (cO8, (.array .int)), (cI8, .int), (cOd, .double)]) [0, 1, 2, 3, 4, 5, 6, 7, 8, 9, 10, 11, 13] rfl).app hK1
  generalize H1 = H at hP hS ⊢
  have hP : va_P (dC, dI) vwCl [(ca, .inl (cC, 16, .inr (.inr (.inr (.inr fC))))), (c0, .inr (7, [.ref th, u1, u2, .int 0, .int 0, .int 0, .int 0])), (th, .inl (cH, 4, .inl (fun _ => 0))), (dr, .inl (cO, 26, .inr (.inr (.inr (.inr fD))))), (rr, .inl (cI, 5, .inl (fun _ => 0))), (ty0, .inl (cT, 8, .inl (fun _ => 0))), (sf, .inr (10, [.int 0, sf1, .int 0, .int 0, .int 0, .int 1, .int 0])), (sb, .inr (10, [.int 1, sb1, .int 0, .int 0, .int 0, .int 1, .int 0])), (ra0, .inl (cR, 6, .inl (fun _ => 0))), (bk, .inr (6, [.ref a0, .ref a1, .ref a2, .ref mo, .int 0])), (a0, .inl (cB0, 8, .inl (fun _ => 0))), (a1, .inl (cB1, 8, .inl (fun _ => 0))), (a2, .inl (cB2, 8, .inl (fun _ => 0))), (mo, .inl (cM, 256, .inl (fun _ => 0))), (m0, .inr (14, [.ref lc, .ref lp, .ref dl, .ref ff, .ref fb, .ref lw, .ref lo, .ref (em 1), .int 0])), (lc, .inr (5, [.int 0, .ref (em 0), .int 0])), (lp, .inr (5, [.int 0, .ref (em 0), .int 0])), (dl, .inl (cO8, 26, .inr (.inr (.inr (.inr fL))))), (rr8, .inl (cI8, 5, .inl (fun _ => 0))), (ff, .inr (13, [tf, .int 0, .int 0, .int 1, .int 0])), (fb, .inr (13, [tb, .int 0, .int 0, .int 1, .int 0])), (lw, .inr (5, [.int 0, .ref (em 0), .int 0])), (lo, .inr (5, [.int 0, .ref (em 0), .int 0])), (od, .inl (cOd, 1, .inr (.inr (.inr (.inl (fun _ => 0)))))), (ou, .inl (cOut, 1, .inr (.inl (fun _ => 0))))] H := hP
  have hD : va_D (fun q : Nat => s.heap.size ≤ q) [(ca, .inl (cC, 16, .inr (.inr (.inr (.inr fC))))), (c0, .inr (7, [.ref th, u1, u2, .int 0, .int 0, .int 0, .int 0])), (th, .inl (cH, 4, .inl (fun _ => 0))), (dr, .inl (cO, 26, .inr (.inr (.inr (.inr fD))))), (rr, .inl (cI, 5, .inl (fun _ => 0))), (ty0, .inl (cT, 8, .inl (fun _ => 0))), (sf, .inr (10, [.int 0, sf1, .int 0, .int 0, .int 0, .int 1, .int 0])), (sb, .inr (10, [.int 1, sb1, .int 0, .int 0, .int 0, .int 1, .int 0])), (ra0, .inl (cR, 6, .inl (fun _ => 0))), (bk, .inr (6, [.ref a0, .ref a1, .ref a2, .ref mo, .int 0])), (a0, .inl (cB0, 8, .inl (fun _ => 0))), (a1, .inl (cB1, 8, .inl (fun _ => 0))), (a2, .inl (cB2, 8, .inl (fun _ => 0))), (mo, .inl (cM, 256, .inl (fun _ => 0))), (m0, .inr (14, [.ref lc, .ref lp, .ref dl, .ref ff, .ref fb, .ref lw, .ref lo, .ref (em 1), .int 0])), (lc, .inr (5, [.int 0, .ref (em 0), .int 0])), (lp, .inr (5, [.int 0, .ref (em 0), .int 0])), (dl, .inl (cO8, 26, .inr (.inr (.inr (.inr fL))))), (rr8, .inl (cI8, 5, .inl (fun _ => 0))), (ff, .inr (13, [tf, .int 0, .int 0, .int 1, .int 0])), (fb, .inr (13, [tb, .int 0, .int 0, .int 1, .int 0])), (lw, .inr (5, [.int 0, .ref (em 0), .int 0])), (lo, .inr (5, [.int 0, .ref (em 0), .int 0])), (od, .inl (cOd, 1, .inr (.inr (.inr (.inl (fun _ => 0)))))), (ou, .inl (cOut, 1, .inr (.inl (fun _ => 0))))] := hD
  have hK : va_K (dC, dI) vwCl [(cC, (.object "Bothfaces$Card")), (cH, .int), (cO, (.array .int)), (cI, .int), (cT, .int), (cR, .int), (cB0, .int), (cB1, .int), (cB2, .int), (cM, .int), (cO8, (.array .int)), (cI8, .int), (cOd, .double), (cOut, .long)] s := hK
  refine W.widen (k := 147) (n := 2193) (Nat.le_of_ble_eq_true rfl) (Nat.le_of_ble_eq_true rfl) ?_
  have hw : r_3 = 1 := hw
  rw [hw]
  refine lv_istore (lv' := [(6, .int 1), (5, .int 0), (4, .ref od), (3, .ref ou), (2, .ref m0), (1, .ref x0), (0, .ref b)]) hx hb dL_law_497 hl (by decide) rfl (fun ls hl => ?_)
  refine lv_aload_n hx hb dL_law_499 rfl (lv_at hl 4 rfl) ?_
  refine lv_aload_n hx hb dL_law_500 rfl (lv_at hl 6 rfl) ?_
  refine lv_iload hx hb dL_law_501 (lv_at hl 1 rfl) ?_
  refine lv_iconst (v := 1) hx hb dL_law_503 (by decide) ?_
  refine lv_iadd hx hb dL_law_504 ?_
  refine lv_topi (fun k_4 ek_4 => ?_)
  obtain rfl : k_4 = 1 := ek_4.trans (by decide)
  refine va_sld hx hb hX hbl hbA hS (vp_in_iff.mpr ⟨by decide, by decide⟩) dL_law_505 ?_
  refine lv_topi (fun y_5 ey_5 => ?_)
  have ey_5 : y_5 = xs 1 := ey_5
  obtain rfl : y_2 = y_5 := ey_2.trans ey_5.symm
  have hPc := hP.sub (ws' := [(m0, .inr (14, [.ref lc, .ref lp, .ref dl, .ref ff, .ref fb, .ref lw, .ref lo, .ref (em 1), .int 0])), (lc, .inr (5, [.int 0, .ref (em 0), .int 0]))]) [14, 15] rfl
  have hDc := hD.sub (ws' := [(m0, .inr (14, [.ref lc, .ref lp, .ref dl, .ref ff, .ref fb, .ref lw, .ref lo, .ref (em 1), .int 0])), (lc, .inr (5, [.int 0, .ref (em 0), .int 0]))]) [14, 15] (by decide) rfl
  have hKc := hK.sub (tys' := []) [] rfl
  have hFc := va_free (wc := [(m0, .inr (14, [.ref lc, .ref lp, .ref dl, .ref ff, .ref fb, .ref lw, .ref lo, .ref (em 1), .int 0])), (lc, .inr (5, [.int 0, .ref (em 0), .int 0]))]) hD hS hA [14, 15] rfl
  refine va_calli (va_runV (As := [.int y_2]) (rest := []) ⟨hx, hb, hml, hown, hts⟩ (c_X8_at l em dC dI m0 y_2 (.ref lp) (.ref dl) (.ref ff) (.ref fb) (.ref lw) (.ref lo) (.ref (em 1)) (.int 0) lc (.ref (em 0)) H.size) (cwV 1 hts gT_X8_at rfl rfl rfl (by decide +kernel) ⟨Nat.le_of_ble_eq_true rfl, Nat.le_of_ble_eq_true rfl⟩) ⟨Pw.blind _ _ _ _ _ _ _, va_recv hKc hPc (ci := 14) (q0 := 0) rfl rfl, fun U hU hW => ⟨rfl, Pw.go hPc hKc hDc hamb hS hFc hU hW⟩⟩ rfl rfl hl.1 rfl (lv_room (Nat.le_of_ble_eq_true rfl)) dL_law_506 ⟨Nat.le_of_ble_eq_true rfl, Nat.le_of_ble_eq_true rfl⟩) hS (fun q _ h => hFc q h) hFc (fun r_6 u t H1 locs1 ht hvm hw hB hz1 hk1 hS => ?_)
  obtain ⟨hP1, hK1, hD1⟩ := hB
  rw [ht] at hP1
  have hK1 := va_K.moved hvm.symm hK1
  obtain ⟨hP, hD⟩ := va_join (wr := [(ca, .inl (cC, 16, .inr (.inr (.inr (.inr fC))))), (c0, .inr (7, [.ref th, u1, u2, .int 0, .int 0, .int 0, .int 0])), (th, .inl (cH, 4, .inl (fun _ => 0))), (dr, .inl (cO, 26, .inr (.inr (.inr (.inr fD))))), (rr, .inl (cI, 5, .inl (fun _ => 0))), (ty0, .inl (cT, 8, .inl (fun _ => 0))), (sf, .inr (10, [.int 0, sf1, .int 0, .int 0, .int 0, .int 1, .int 0])), (sb, .inr (10, [.int 1, sb1, .int 0, .int 0, .int 0, .int 1, .int 0])), (ra0, .inl (cR, 6, .inl (fun _ => 0))), (bk, .inr (6, [.ref a0, .ref a1, .ref a2, .ref mo, .int 0])), (a0, .inl (cB0, 8, .inl (fun _ => 0))), (a1, .inl (cB1, 8, .inl (fun _ => 0))), (a2, .inl (cB2, 8, .inl (fun _ => 0))), (mo, .inl (cM, 256, .inl (fun _ => 0))), (lp, .inr (5, [.int 0, .ref (em 0), .int 0])), (dl, .inl (cO8, 26, .inr (.inr (.inr (.inr fL))))), (rr8, .inl (cI8, 5, .inl (fun _ => 0))), (ff, .inr (13, [tf, .int 0, .int 0, .int 1, .int 0])), (fb, .inr (13, [tb, .int 0, .int 0, .int 1, .int 0])), (lw, .inr (5, [.int 0, .ref (em 0), .int 0])), (lo, .inr (5, [.int 0, .ref (em 0), .int 0])), (od, .inl (cOd, 1, .inr (.inr (.inr (.inl (fun _ => 0)))))), (ou, .inl (cOut, 1, .inr (.inl (fun _ => 0))))]) (w1 := [(m0, .inr (14, [.ref lc, .ref lp, .ref dl, .ref ff, .ref fb, .ref lw, .ref lo, .ref (em 1), .int 1]))]) hP hD [14, 15] [0, 1, 2, 3, 4, 5, 6, 7, 8, 9, 10, 11, 12, 13, 16, 17, 18, 19, 20, 21, 22, 23, 24] rfl rfl (by decide) (by decide) hk1 hFc hP1 hD1
  have hK := (hK.sub (tys' := [(cC, (.object "Bothfaces$Card")), (cH, .int), (cO, (.array .int)), (cI, .int), (cT, .int), (cR, .int), (cB0, .int), (cB1, .int), (cB2, .int), (cM, .int), (cO8, (.array .int)), (cI8, .int), (cOd, .double), (cOut, .long)]) [0, 1, 2, 3, 4, 5, 6, 7, 8, 9, 10, 11, 12, 13] rfl).app hK1
  generalize H1 = H at hP hS ⊢
  have hP : va_P (dC, dI) vwCl [(ca, .inl (cC, 16, .inr (.inr (.inr (.inr fC))))), (c0, .inr (7, [.ref th, u1, u2, .int 0, .int 0, .int 0, .int 0])), (th, .inl (cH, 4, .inl (fun _ => 0))), (dr, .inl (cO, 26, .inr (.inr (.inr (.inr fD))))), (rr, .inl (cI, 5, .inl (fun _ => 0))), (ty0, .inl (cT, 8, .inl (fun _ => 0))), (sf, .inr (10, [.int 0, sf1, .int 0, .int 0, .int 0, .int 1, .int 0])), (sb, .inr (10, [.int 1, sb1, .int 0, .int 0, .int 0, .int 1, .int 0])), (ra0, .inl (cR, 6, .inl (fun _ => 0))), (bk, .inr (6, [.ref a0, .ref a1, .ref a2, .ref mo, .int 0])), (a0, .inl (cB0, 8, .inl (fun _ => 0))), (a1, .inl (cB1, 8, .inl (fun _ => 0))), (a2, .inl (cB2, 8, .inl (fun _ => 0))), (mo, .inl (cM, 256, .inl (fun _ => 0))), (lp, .inr (5, [.int 0, .ref (em 0), .int 0])), (dl, .inl (cO8, 26, .inr (.inr (.inr (.inr fL))))), (rr8, .inl (cI8, 5, .inl (fun _ => 0))), (ff, .inr (13, [tf, .int 0, .int 0, .int 1, .int 0])), (fb, .inr (13, [tb, .int 0, .int 0, .int 1, .int 0])), (lw, .inr (5, [.int 0, .ref (em 0), .int 0])), (lo, .inr (5, [.int 0, .ref (em 0), .int 0])), (od, .inl (cOd, 1, .inr (.inr (.inr (.inl (fun _ => 0)))))), (ou, .inl (cOut, 1, .inr (.inl (fun _ => 0)))), (m0, .inr (14, [.ref lc, .ref lp, .ref dl, .ref ff, .ref fb, .ref lw, .ref lo, .ref (em 1), .int 1]))] H := hP
  have hD : va_D (fun q : Nat => s.heap.size ≤ q) [(ca, .inl (cC, 16, .inr (.inr (.inr (.inr fC))))), (c0, .inr (7, [.ref th, u1, u2, .int 0, .int 0, .int 0, .int 0])), (th, .inl (cH, 4, .inl (fun _ => 0))), (dr, .inl (cO, 26, .inr (.inr (.inr (.inr fD))))), (rr, .inl (cI, 5, .inl (fun _ => 0))), (ty0, .inl (cT, 8, .inl (fun _ => 0))), (sf, .inr (10, [.int 0, sf1, .int 0, .int 0, .int 0, .int 1, .int 0])), (sb, .inr (10, [.int 1, sb1, .int 0, .int 0, .int 0, .int 1, .int 0])), (ra0, .inl (cR, 6, .inl (fun _ => 0))), (bk, .inr (6, [.ref a0, .ref a1, .ref a2, .ref mo, .int 0])), (a0, .inl (cB0, 8, .inl (fun _ => 0))), (a1, .inl (cB1, 8, .inl (fun _ => 0))), (a2, .inl (cB2, 8, .inl (fun _ => 0))), (mo, .inl (cM, 256, .inl (fun _ => 0))), (lp, .inr (5, [.int 0, .ref (em 0), .int 0])), (dl, .inl (cO8, 26, .inr (.inr (.inr (.inr fL))))), (rr8, .inl (cI8, 5, .inl (fun _ => 0))), (ff, .inr (13, [tf, .int 0, .int 0, .int 1, .int 0])), (fb, .inr (13, [tb, .int 0, .int 0, .int 1, .int 0])), (lw, .inr (5, [.int 0, .ref (em 0), .int 0])), (lo, .inr (5, [.int 0, .ref (em 0), .int 0])), (od, .inl (cOd, 1, .inr (.inr (.inr (.inl (fun _ => 0)))))), (ou, .inl (cOut, 1, .inr (.inl (fun _ => 0)))), (m0, .inr (14, [.ref lc, .ref lp, .ref dl, .ref ff, .ref fb, .ref lw, .ref lo, .ref (em 1), .int 1]))] := hD
  have hK : va_K (dC, dI) vwCl [(cC, (.object "Bothfaces$Card")), (cH, .int), (cO, (.array .int)), (cI, .int), (cT, .int), (cR, .int), (cB0, .int), (cB1, .int), (cB2, .int), (cM, .int), (cO8, (.array .int)), (cI8, .int), (cOd, .double), (cOut, .long)] s := hK
  refine W.widen (k := 147) (n := 2193) (Nat.le_of_ble_eq_true rfl) (Nat.le_of_ble_eq_true rfl) ?_
  have hw : r_6 = 0 := hw
  rw [hw]
  refine lv_istore (lv' := [(7, .int 0), (6, .int 1), (5, .int 0), (4, .ref od), (3, .ref ou), (2, .ref m0), (1, .ref x0), (0, .ref b)]) hx hb dL_law_509 hl (by decide) rfl (fun ls hl => ?_)
  refine lv_aload_n hx hb dL_law_511 rfl (lv_at hl 5 rfl) ?_
  have hPc := hP.sub (ws' := [(m0, .inr (14, [.ref lc, .ref lp, .ref dl, .ref ff, .ref fb, .ref lw, .ref lo, .ref (em 1), .int 1]))]) [23] rfl
  have hDc := hD.sub (ws' := [(m0, .inr (14, [.ref lc, .ref lp, .ref dl, .ref ff, .ref fb, .ref lw, .ref lo, .ref (em 1), .int 1]))]) [23] (by decide) rfl
  have hKc := hK.sub (tys' := []) [] rfl
  have hFc := va_free (wc := [(m0, .inr (14, [.ref lc, .ref lp, .ref dl, .ref ff, .ref fb, .ref lw, .ref lo, .ref (em 1), .int 1]))]) hD hS hA [23] rfl
  refine va_calli (va_runV (As := []) (rest := []) ⟨hx, hb, hml, hown, hts⟩ (c_X8_thrown l em dC dI m0 1 (.ref lc) (.ref lp) (.ref dl) (.ref ff) (.ref fb) (.ref lw) (.ref lo) (.ref (em 1)) H.size) (cwV 0 hts gT_X8_thrown rfl rfl rfl (by decide +kernel) ⟨Nat.le_of_ble_eq_true rfl, Nat.le_of_ble_eq_true rfl⟩) ⟨Pw.blind _ _ _ _ _ _ _, va_recv hKc hPc (ci := 14) (q0 := 0) rfl rfl, fun U hU hW => ⟨rfl, Pw.go hPc hKc hDc hamb hS hFc hU hW⟩⟩ rfl rfl hl.1 rfl (lv_room (Nat.le_of_ble_eq_true rfl)) dL_law_512 ⟨Nat.le_of_ble_eq_true rfl, Nat.le_of_ble_eq_true rfl⟩) hS (fun q _ h => hFc q h) hFc (fun r_7 u t H1 locs1 ht hvm hw hB hz1 hk1 hS => ?_)
  obtain ⟨hP, hD⟩ := va_rest (wr := [(ca, .inl (cC, 16, .inr (.inr (.inr (.inr fC))))), (c0, .inr (7, [.ref th, u1, u2, .int 0, .int 0, .int 0, .int 0])), (th, .inl (cH, 4, .inl (fun _ => 0))), (dr, .inl (cO, 26, .inr (.inr (.inr (.inr fD))))), (rr, .inl (cI, 5, .inl (fun _ => 0))), (ty0, .inl (cT, 8, .inl (fun _ => 0))), (sf, .inr (10, [.int 0, sf1, .int 0, .int 0, .int 0, .int 1, .int 0])), (sb, .inr (10, [.int 1, sb1, .int 0, .int 0, .int 0, .int 1, .int 0])), (ra0, .inl (cR, 6, .inl (fun _ => 0))), (bk, .inr (6, [.ref a0, .ref a1, .ref a2, .ref mo, .int 0])), (a0, .inl (cB0, 8, .inl (fun _ => 0))), (a1, .inl (cB1, 8, .inl (fun _ => 0))), (a2, .inl (cB2, 8, .inl (fun _ => 0))), (mo, .inl (cM, 256, .inl (fun _ => 0))), (lp, .inr (5, [.int 0, .ref (em 0), .int 0])), (dl, .inl (cO8, 26, .inr (.inr (.inr (.inr fL))))), (rr8, .inl (cI8, 5, .inl (fun _ => 0))), (ff, .inr (13, [tf, .int 0, .int 0, .int 1, .int 0])), (fb, .inr (13, [tb, .int 0, .int 0, .int 1, .int 0])), (lw, .inr (5, [.int 0, .ref (em 0), .int 0])), (lo, .inr (5, [.int 0, .ref (em 0), .int 0])), (od, .inl (cOd, 1, .inr (.inr (.inr (.inl (fun _ => 0)))))), (ou, .inl (cOut, 1, .inr (.inl (fun _ => 0))))]) hP hD [23] [0, 1, 2, 3, 4, 5, 6, 7, 8, 9, 10, 11, 12, 13, 14, 15, 16, 17, 18, 19, 20, 21, 22] rfl rfl (by decide) (by decide) hk1 hFc
  generalize H1 = H at hP hS ⊢
  refine W.widen (k := 147) (n := 2193) (Nat.le_of_ble_eq_true rfl) (Nat.le_of_ble_eq_true rfl) ?_
  have hw : r_7 = 1 := hw
  rw [hw]
  refine lv_iload hx hb dL_law_515 (lv_at hl 1 rfl) ?_
  refine lv_icmp_eq (tgt := 522) hx hb dL_law_517 (by decide) (fun c_8 => ?_) (fun c_8 => ?_)
  · refine lv_iload hx hb dL_law_522 (lv_at hl 1 rfl) ?_
    refine lv_if_ne (tgt := 539) hx hb dL_law_524 (by decide) (fun c_9 => ?_) (fun c_9 => ?_)
    · refine lv_goto (tgt := 2636) hx hb dL_law_539 (by decide) ?_
      refine lv_iinc (v := 6) (lv' := [(5, .int 6), (7, .int 0), (6, .int 1), (4, .ref od), (3, .ref ou), (2, .ref m0), (1, .ref x0), (0, .ref b)]) hx hb dL_law_2636 hl (k := 2) rfl (by decide) (by decide) rfl (fun ls hl => ?_)
      refine lv_goto (tgt := 28) hx hb dL_law_2639 (by decide) ?_
      refine lv_iload hx hb dL_law_28 (lv_at hl 0 rfl) ?_
      refine lv_aload_n hx hb dL_law_30 rfl (lv_at hl 7 rfl) ?_
      refine va_slen hx hb hX hbl hbA hS dL_law_31 ?_
      refine lv_topi (fun n_10 en_10 => ?_)
      obtain rfl : n_10 = 6 := en_10.trans (by decide)
      refine lv_bipush (v := 6) hx hb dL_law_32 (by decide) ?_
      refine lv_isub hx hb dL_law_34 ?_
      refine lv_topi (fun k_11 ek_11 => ?_)
      obtain rfl : k_11 = 0 := ek_11.trans (by decide)
      refine lv_icmp_gt (tgt := 2642) hx hb dL_law_35 (by decide) (fun c_12 => ?_) (fun c_12 => ?_)
      · refine lv_iconst (v := 1) hx hb dL_law_2642 (by decide) ?_
        refine W.widen (k := 600006) (n := 7302072) (Nat.le_of_ble_eq_true rfl) (Nat.le_of_ble_eq_true rfl) ?_
        refine va_forget hS.2.2 ?_
        refine W.base ?_
        exact lw_ret (Drawn.sameBut.refl s.drawn lw_cs) hx hb hr hlocks dL_law_2643
      · exact absurd (by decide) c_12
    · exact absurd c_9 (by decide)
  · exact absurd (by decide) c_8

set_option maxHeartbeats 4000000 in
set_option maxRecDepth 100000 in
theorem law_4 {p : Program} {e : Env} {s : State} {m : MethodId} {below : List Frame} {meth : Method} {c : Code} (l : Launch) (hlt : l.stackTraces = false) {b : Nat} {xs : Nat → Int32} (C0 : lw_At p s m meth c b 6 xs) (em : Nat → Nat) (dC : Nat → ClassId) (dI : Nat → Nat → Nat) (j : Nat) (hjj : ∀ z : Int32, z = ((xs 1).toUInt32 % 65536).toInt32 → 97 ≤ z.toInt → z.toInt ≤ 122 → (z - 97).toNatClampNeg = j) (x0 : Nat) (ca : Nat) (dr : Nat) (ty0 : Nat) (sf : Nat) (sb : Nat) (ra0 : Nat) (bk : Nat) (c0 : Nat) (th : Nat) (rr : Nat) (a0 : Nat) (a1 : Nat) (a2 : Nat) (mo : Nat) (vp : Value) (vm : Value) (u1 : Value) (u2 : Value) (sf1 : Value) (sb1 : Value) (fC : Nat → Option Nat) (fD : Nat → Option Nat) (cC : ClassId) (cH : ClassId) (cO : ClassId) (cI : ClassId) (cT : ClassId) (cR : ClassId) (cB0 : ClassId) (cB1 : ClassId) (cB2 : ClassId) (cM : ClassId) (m0 : Nat) (lc : Nat) (lp : Nat) (dl : Nat) (rr8 : Nat) (ff : Nat) (fb : Nat) (lw : Nat) (lo : Nat) (tf : Value) (tb : Value) (fL : Nat → Option Nat) (cO8 : ClassId) (cI8 : ClassId) (ou : Nat) (od : Nat) (cOut : ClassId) (cOd : ClassId) (hfC : fC 0 = some c0) (hfD : fD j = some rr) (hfL : fL j = some rr8) {H : Heap} {locs : List Loc} (hamb : amb em (fun q : Nat => s.heap.size ≤ q) s s.heap) (hK : va_K (dC, dI) vwCl [(cC, (.object "Bothfaces$Card")), (cH, .int), (cO, (.array .int)), (cI, .int), (cT, .int), (cR, .int), (cB0, .int), (cB1, .int), (cB2, .int), (cM, .int), (cO8, (.array .int)), (cI8, .int), (cOut, .long), (cOd, .double)] s) (hP : va_P (dC, dI) vwCl [(x0, .inr (11, [.ref ca, .int 0, .int 0, .ref dr, .ref ty0, .int 0, .ref sf, .ref sb, vp, vm, .ref ra0, .int 0, .ref bk])), (ca, .inl (cC, 16, .inr (.inr (.inr (.inr fC))))), (c0, .inr (7, [.ref th, u1, u2, .int 0, .int 0, .int 0, .int 0])), (th, .inl (cH, 4, .inl (fun _ => 0))), (dr, .inl (cO, 26, .inr (.inr (.inr (.inr fD))))), (rr, .inl (cI, 5, .inl (fun _ => 0))), (ty0, .inl (cT, 8, .inl (fun _ => 0))), (sf, .inr (10, [.int 0, sf1, .int 0, .int 0, .int 0, .int 1, .int 0])), (sb, .inr (10, [.int 1, sb1, .int 0, .int 0, .int 0, .int 1, .int 0])), (ra0, .inl (cR, 6, .inl (fun _ => 0))), (bk, .inr (6, [.ref a0, .ref a1, .ref a2, .ref mo, .int 0])), (a0, .inl (cB0, 8, .inl (fun _ => 0))), (a1, .inl (cB1, 8, .inl (fun _ => 0))), (a2, .inl (cB2, 8, .inl (fun _ => 0))), (mo, .inl (cM, 256, .inl (fun _ => 0))), (m0, .inr (14, [.ref lc, .ref lp, .ref dl, .ref ff, .ref fb, .ref lw, .ref lo, .ref (em 1), .int 0])), (lc, .inr (5, [.int 0, .ref (em 0), .int 0])), (lp, .inr (5, [.int 0, .ref (em 0), .int 0])), (dl, .inl (cO8, 26, .inr (.inr (.inr (.inr fL))))), (rr8, .inl (cI8, 5, .inl (fun _ => 0))), (ff, .inr (13, [tf, .int 0, .int 0, .int 1, .int 0])), (fb, .inr (13, [tb, .int 0, .int 0, .int 1, .int 0])), (lw, .inr (5, [.int 0, .ref (em 0), .int 0])), (lo, .inr (5, [.int 0, .ref (em 0), .int 0])), (ou, .inl (cOut, 1, .inr (.inl (fun _ => 0)))), (od, .inl (cOd, 1, .inr (.inr (.inr (.inl (fun _ => 0))))))] H) (hD : va_D (fun q : Nat => s.heap.size ≤ q) [(x0, .inr (11, [.ref ca, .int 0, .int 0, .ref dr, .ref ty0, .int 0, .ref sf, .ref sb, vp, vm, .ref ra0, .int 0, .ref bk])), (ca, .inl (cC, 16, .inr (.inr (.inr (.inr fC))))), (c0, .inr (7, [.ref th, u1, u2, .int 0, .int 0, .int 0, .int 0])), (th, .inl (cH, 4, .inl (fun _ => 0))), (dr, .inl (cO, 26, .inr (.inr (.inr (.inr fD))))), (rr, .inl (cI, 5, .inl (fun _ => 0))), (ty0, .inl (cT, 8, .inl (fun _ => 0))), (sf, .inr (10, [.int 0, sf1, .int 0, .int 0, .int 0, .int 1, .int 0])), (sb, .inr (10, [.int 1, sb1, .int 0, .int 0, .int 0, .int 1, .int 0])), (ra0, .inl (cR, 6, .inl (fun _ => 0))), (bk, .inr (6, [.ref a0, .ref a1, .ref a2, .ref mo, .int 0])), (a0, .inl (cB0, 8, .inl (fun _ => 0))), (a1, .inl (cB1, 8, .inl (fun _ => 0))), (a2, .inl (cB2, 8, .inl (fun _ => 0))), (mo, .inl (cM, 256, .inl (fun _ => 0))), (m0, .inr (14, [.ref lc, .ref lp, .ref dl, .ref ff, .ref fb, .ref lw, .ref lo, .ref (em 1), .int 0])), (lc, .inr (5, [.int 0, .ref (em 0), .int 0])), (lp, .inr (5, [.int 0, .ref (em 0), .int 0])), (dl, .inl (cO8, 26, .inr (.inr (.inr (.inr fL))))), (rr8, .inl (cI8, 5, .inl (fun _ => 0))), (ff, .inr (13, [tf, .int 0, .int 0, .int 1, .int 0])), (fb, .inr (13, [tb, .int 0, .int 0, .int 1, .int 0])), (lw, .inr (5, [.int 0, .ref (em 0), .int 0])), (lo, .inr (5, [.int 0, .ref (em 0), .int 0])), (ou, .inl (cOut, 1, .inr (.inl (fun _ => 0)))), (od, .inl (cOd, 1, .inr (.inr (.inr (.inl (fun _ => 0))))))]) (hS : va_S (fun q : Nat => s.heap.size ≤ q) s.heap H locs) {ls : Array Slot} (hl : lv_has ls 9 [(5, .int 0), (4, .ref od), (3, .ref ou), (2, .ref m0), (1, .ref x0), (0, .ref b)]) : W p l e room_1 s m #[Value.ref b] below meth c H locs 146 2187 (lw_Z below #[Value.ref b] s) (F0 m 542 ls []) := by
  obtain ⟨hx, hb, hr, hml, hown0, hts0, hX, hbl, hlocks, hgv⟩ := id C0
  have hts := ow_hts hts0
  have hown : s.vm.findClass RL = some m.cls := hown0
  have hA : ∀ q : Nat, s.heap.size ≤ q → (fun q : Nat => s.heap.size ≤ q) q := fun _ h => h
  have hbA : ¬ (fun q : Nat => s.heap.size ≤ q) b := Nat.not_le.mpr hbl
  refine lv_aload_n hx hb dL_law_542 rfl (lv_at hl 4 rfl) ?_
  refine lv_aload_n hx hb dL_law_543 rfl (lv_at hl 5 rfl) ?_
  refine lv_iload hx hb dL_law_544 (lv_at hl 0 rfl) ?_
  refine lv_iconst (v := 1) hx hb dL_law_546 (by decide) ?_
  refine lv_iadd hx hb dL_law_547 ?_
  refine lv_topi (fun k_1 ek_1 => ?_)
  obtain rfl : k_1 = 1 := ek_1.trans (by decide)
  refine va_sld hx hb hX hbl hbA hS (vp_in_iff.mpr ⟨by decide, by decide⟩) dL_law_548 ?_
  refine lv_topi (fun y_2 ey_2 => ?_)
  have ey_2 : y_2 = xs 1 := ey_2
  refine lv_aload_n hx hb dL_law_549 rfl (lv_at hl 2 rfl) ?_
  have hPc := hP.sub (ws' := [(x0, .inr (11, [.ref ca, .int 0, .int 0, .ref dr, .ref ty0, .int 0, .ref sf, .ref sb, vp, vm, .ref ra0, .int 0, .ref bk])), (ou, .inl (cOut, 1, .inr (.inl (fun _ => 0))))]) [0, 24] rfl
  have hDc := hD.sub (ws' := [(x0, .inr (11, [.ref ca, .int 0, .int 0, .ref dr, .ref ty0, .int 0, .ref sf, .ref sb, vp, vm, .ref ra0, .int 0, .ref bk])), (ou, .inl (cOut, 1, .inr (.inl (fun _ => 0))))]) [0, 24] (by decide) rfl
  have hKc := hK.sub (tys' := [(cOut, .long)]) [12] rfl
  have hFc := va_free (wc := [(x0, .inr (11, [.ref ca, .int 0, .int 0, .ref dr, .ref ty0, .int 0, .ref sf, .ref sb, vp, vm, .ref ra0, .int 0, .ref bk])), (ou, .inl (cOut, 1, .inr (.inl (fun _ => 0))))]) hD hS hA [0, 24] rfl
  refine va_calli (vx_runSW (As := [.ref x0, .int y_2, .ref ou]) (rest := []) ⟨hx, hb, hml, hown, hts⟩ (c_L_twist l hlt em dC dI x0 y_2 (.ref ca) (.int 0) (.ref dr) (.ref ty0) (.int 0) (.ref sf) (.ref sb) vp vm (.ref ra0) (.int 0) (.ref bk) ou cOut (fun _ => 0) H.size) (vx_cwSW 3 hts gT_L_twist rfl rfl rfl (by decide +kernel) ⟨Nat.le_of_ble_eq_true rfl, Nat.le_of_ble_eq_true rfl⟩) ⟨Pw.blind _ _ _ _ _ _ _, fun U hU hW => ⟨rfl, Pw.go hPc hKc hDc hamb hS hFc hU hW⟩⟩ rfl rfl hl.1 rfl (lv_room (Nat.le_of_ble_eq_true rfl)) dL_law_550 ⟨Nat.le_of_ble_eq_true rfl, Nat.le_of_ble_eq_true rfl⟩) hS (fun q _ h => hFc q h) hFc (fun r_3 u t H1 locs1 ht hvm hw hB hz1 hk1 hS => ?_)
  obtain ⟨hP1, hK1, hD1⟩ := hB
  rw [ht] at hP1
  have hK1 := va_K.moved hvm.symm hK1
  obtain ⟨hP, hD⟩ := va_join (wr := [(ca, .inl (cC, 16, .inr (.inr (.inr (.inr fC))))), (c0, .inr (7, [.ref th, u1, u2, .int 0, .int 0, .int 0, .int 0])), (th, .inl (cH, 4, .inl (fun _ => 0))), (dr, .inl (cO, 26, .inr (.inr (.inr (.inr fD))))), (rr, .inl (cI, 5, .inl (fun _ => 0))), (ty0, .inl (cT, 8, .inl (fun _ => 0))), (sf, .inr (10, [.int 0, sf1, .int 0, .int 0, .int 0, .int 1, .int 0])), (sb, .inr (10, [.int 1, sb1, .int 0, .int 0, .int 0, .int 1, .int 0])), (ra0, .inl (cR, 6, .inl (fun _ => 0))), (bk, .inr (6, [.ref a0, .ref a1, .ref a2, .ref mo, .int 0])), (a0, .inl (cB0, 8, .inl (fun _ => 0))), (a1, .inl (cB1, 8, .inl (fun _ => 0))), (a2, .inl (cB2, 8, .inl (fun _ => 0))), (mo, .inl (cM, 256, .inl (fun _ => 0))), (m0, .inr (14, [.ref lc, .ref lp, .ref dl, .ref ff, .ref fb, .ref lw, .ref lo, .ref (em 1), .int 0])), (lc, .inr (5, [.int 0, .ref (em 0), .int 0])), (lp, .inr (5, [.int 0, .ref (em 0), .int 0])), (dl, .inl (cO8, 26, .inr (.inr (.inr (.inr fL))))), (rr8, .inl (cI8, 5, .inl (fun _ => 0))), (ff, .inr (13, [tf, .int 0, .int 0, .int 1, .int 0])), (fb, .inr (13, [tb, .int 0, .int 0, .int 1, .int 0])), (lw, .inr (5, [.int 0, .ref (em 0), .int 0])), (lo, .inr (5, [.int 0, .ref (em 0), .int 0])), (od, .inl (cOd, 1, .inr (.inr (.inr (.inl (fun _ => 0))))))]) (w1 := [(ou, .inl (cOut, 1, .inr (.inl (fun _ => 0))))]) hP hD [0, 24] [1, 2, 3, 4, 5, 6, 7, 8, 9, 10, 11, 12, 13, 14, 15, 16, 17, 18, 19, 20, 21, 22, 23, 25] rfl rfl (by decide) (by decide) hk1 hFc hP1 hD1
  have hK := (hK.sub (tys' := [(cC, (.object "Bothfaces$Card")), (cH, .int), (cO, (.array .int)), (cI, .int), (cT, .int), (cR, .int), (cB0, .int), (cB1, .int), (cB2, .int), (cM, .int), (cO8, (.array .int)), (cI8, .int), (cOd, .double)]) [0, 1, 2, 3, 4, 5, 6, 7, 8, 9, 10, 11, 13] rfl).app hK1
  generalize H1 = H at hP hS ⊢
  have hP : va_P (dC, dI) vwCl [(ca, .inl (cC, 16, .inr (.inr (.inr (.inr fC))))), (c0, .inr (7, [.ref th, u1, u2, .int 0, .int 0, .int 0, .int 0])), (th, .inl (cH, 4, .inl (fun _ => 0))), (dr, .inl (cO, 26, .inr (.inr (.inr (.inr fD))))), (rr, .inl (cI, 5, .inl (fun _ => 0))), (ty0, .inl (cT, 8, .inl (fun _ => 0))), (sf, .inr (10, [.int 0, sf1, .int 0, .int 0, .int 0, .int 1, .int 0])), (sb, .inr (10, [.int 1, sb1, .int 0, .int 0, .int 0, .int 1, .int 0])), (ra0, .inl (cR, 6, .inl (fun _ => 0))), (bk, .inr (6, [.ref a0, .ref a1, .ref a2, .ref mo, .int 0])), (a0, .inl (cB0, 8, .inl (fun _ => 0))), (a1, .inl (cB1, 8, .inl (fun _ => 0))), (a2, .inl (cB2, 8, .inl (fun _ => 0))), (mo, .inl (cM, 256, .inl (fun _ => 0))), (m0, .inr (14, [.ref lc, .ref lp, .ref dl, .ref ff, .ref fb, .ref lw, .ref lo, .ref (em 1), .int 0])), (lc, .inr (5, [.int 0, .ref (em 0), .int 0])), (lp, .inr (5, [.int 0, .ref (em 0), .int 0])), (dl, .inl (cO8, 26, .inr (.inr (.inr (.inr fL))))), (rr8, .inl (cI8, 5, .inl (fun _ => 0))), (ff, .inr (13, [tf, .int 0, .int 0, .int 1, .int 0])), (fb, .inr (13, [tb, .int 0, .int 0, .int 1, .int 0])), (lw, .inr (5, [.int 0, .ref (em 0), .int 0])), (lo, .inr (5, [.int 0, .ref (em 0), .int 0])), (od, .inl (cOd, 1, .inr (.inr (.inr (.inl (fun _ => 0)))))), (ou, .inl (cOut, 1, .inr (.inl (fun _ => 0))))] H := hP
  have hD : va_D (fun q : Nat => s.heap.size ≤ q) [(ca, .inl (cC, 16, .inr (.inr (.inr (.inr fC))))), (c0, .inr (7, [.ref th, u1, u2, .int 0, .int 0, .int 0, .int 0])), (th, .inl (cH, 4, .inl (fun _ => 0))), (dr, .inl (cO, 26, .inr (.inr (.inr (.inr fD))))), (rr, .inl (cI, 5, .inl (fun _ => 0))), (ty0, .inl (cT, 8, .inl (fun _ => 0))), (sf, .inr (10, [.int 0, sf1, .int 0, .int 0, .int 0, .int 1, .int 0])), (sb, .inr (10, [.int 1, sb1, .int 0, .int 0, .int 0, .int 1, .int 0])), (ra0, .inl (cR, 6, .inl (fun _ => 0))), (bk, .inr (6, [.ref a0, .ref a1, .ref a2, .ref mo, .int 0])), (a0, .inl (cB0, 8, .inl (fun _ => 0))), (a1, .inl (cB1, 8, .inl (fun _ => 0))), (a2, .inl (cB2, 8, .inl (fun _ => 0))), (mo, .inl (cM, 256, .inl (fun _ => 0))), (m0, .inr (14, [.ref lc, .ref lp, .ref dl, .ref ff, .ref fb, .ref lw, .ref lo, .ref (em 1), .int 0])), (lc, .inr (5, [.int 0, .ref (em 0), .int 0])), (lp, .inr (5, [.int 0, .ref (em 0), .int 0])), (dl, .inl (cO8, 26, .inr (.inr (.inr (.inr fL))))), (rr8, .inl (cI8, 5, .inl (fun _ => 0))), (ff, .inr (13, [tf, .int 0, .int 0, .int 1, .int 0])), (fb, .inr (13, [tb, .int 0, .int 0, .int 1, .int 0])), (lw, .inr (5, [.int 0, .ref (em 0), .int 0])), (lo, .inr (5, [.int 0, .ref (em 0), .int 0])), (od, .inl (cOd, 1, .inr (.inr (.inr (.inl (fun _ => 0)))))), (ou, .inl (cOut, 1, .inr (.inl (fun _ => 0))))] := hD
  have hK : va_K (dC, dI) vwCl [(cC, (.object "Bothfaces$Card")), (cH, .int), (cO, (.array .int)), (cI, .int), (cT, .int), (cR, .int), (cB0, .int), (cB1, .int), (cB2, .int), (cM, .int), (cO8, (.array .int)), (cI8, .int), (cOd, .double), (cOut, .long)] s := hK
  refine W.widen (k := 147) (n := 2193) (Nat.le_of_ble_eq_true rfl) (Nat.le_of_ble_eq_true rfl) ?_
  have hw : r_3 = 1 := hw
  rw [hw]
  refine lv_istore (lv' := [(6, .int 1), (5, .int 0), (4, .ref od), (3, .ref ou), (2, .ref m0), (1, .ref x0), (0, .ref b)]) hx hb dL_law_553 hl (by decide) rfl (fun ls hl => ?_)
  refine lv_aload_n hx hb dL_law_555 rfl (lv_at hl 4 rfl) ?_
  refine lv_aload_n hx hb dL_law_556 rfl (lv_at hl 6 rfl) ?_
  refine lv_iload hx hb dL_law_557 (lv_at hl 1 rfl) ?_
  refine lv_iconst (v := 1) hx hb dL_law_559 (by decide) ?_
  refine lv_iadd hx hb dL_law_560 ?_
  refine lv_topi (fun k_4 ek_4 => ?_)
  obtain rfl : k_4 = 1 := ek_4.trans (by decide)
  refine va_sld hx hb hX hbl hbA hS (vp_in_iff.mpr ⟨by decide, by decide⟩) dL_law_561 ?_
  refine lv_topi (fun y_5 ey_5 => ?_)
  have ey_5 : y_5 = xs 1 := ey_5
  obtain rfl : y_2 = y_5 := ey_2.trans ey_5.symm
  have hPc := hP.sub (ws' := [(m0, .inr (14, [.ref lc, .ref lp, .ref dl, .ref ff, .ref fb, .ref lw, .ref lo, .ref (em 1), .int 0])), (lc, .inr (5, [.int 0, .ref (em 0), .int 0]))]) [14, 15] rfl
  have hDc := hD.sub (ws' := [(m0, .inr (14, [.ref lc, .ref lp, .ref dl, .ref ff, .ref fb, .ref lw, .ref lo, .ref (em 1), .int 0])), (lc, .inr (5, [.int 0, .ref (em 0), .int 0]))]) [14, 15] (by decide) rfl
  have hKc := hK.sub (tys' := []) [] rfl
  have hFc := va_free (wc := [(m0, .inr (14, [.ref lc, .ref lp, .ref dl, .ref ff, .ref fb, .ref lw, .ref lo, .ref (em 1), .int 0])), (lc, .inr (5, [.int 0, .ref (em 0), .int 0]))]) hD hS hA [14, 15] rfl
  refine va_calli (va_runV (As := [.int y_2]) (rest := []) ⟨hx, hb, hml, hown, hts⟩ (c_X8_twist l em dC dI m0 y_2 (.ref lp) (.ref dl) (.ref ff) (.ref fb) (.ref lw) (.ref lo) (.ref (em 1)) (.int 0) lc (.ref (em 0)) H.size) (cwV 1 hts gT_X8_twist rfl rfl rfl (by decide +kernel) ⟨Nat.le_of_ble_eq_true rfl, Nat.le_of_ble_eq_true rfl⟩) ⟨Pw.blind _ _ _ _ _ _ _, va_recv hKc hPc (ci := 14) (q0 := 0) rfl rfl, fun U hU hW => ⟨rfl, Pw.go hPc hKc hDc hamb hS hFc hU hW⟩⟩ rfl rfl hl.1 rfl (lv_room (Nat.le_of_ble_eq_true rfl)) dL_law_562 ⟨Nat.le_of_ble_eq_true rfl, Nat.le_of_ble_eq_true rfl⟩) hS (fun q _ h => hFc q h) hFc (fun r_6 u t H1 locs1 ht hvm hw hB hz1 hk1 hS => ?_)
  obtain ⟨hP1, hK1, hD1⟩ := hB
  rw [ht] at hP1
  have hK1 := va_K.moved hvm.symm hK1
  obtain ⟨hP, hD⟩ := va_join (wr := [(ca, .inl (cC, 16, .inr (.inr (.inr (.inr fC))))), (c0, .inr (7, [.ref th, u1, u2, .int 0, .int 0, .int 0, .int 0])), (th, .inl (cH, 4, .inl (fun _ => 0))), (dr, .inl (cO, 26, .inr (.inr (.inr (.inr fD))))), (rr, .inl (cI, 5, .inl (fun _ => 0))), (ty0, .inl (cT, 8, .inl (fun _ => 0))), (sf, .inr (10, [.int 0, sf1, .int 0, .int 0, .int 0, .int 1, .int 0])), (sb, .inr (10, [.int 1, sb1, .int 0, .int 0, .int 0, .int 1, .int 0])), (ra0, .inl (cR, 6, .inl (fun _ => 0))), (bk, .inr (6, [.ref a0, .ref a1, .ref a2, .ref mo, .int 0])), (a0, .inl (cB0, 8, .inl (fun _ => 0))), (a1, .inl (cB1, 8, .inl (fun _ => 0))), (a2, .inl (cB2, 8, .inl (fun _ => 0))), (mo, .inl (cM, 256, .inl (fun _ => 0))), (lp, .inr (5, [.int 0, .ref (em 0), .int 0])), (dl, .inl (cO8, 26, .inr (.inr (.inr (.inr fL))))), (rr8, .inl (cI8, 5, .inl (fun _ => 0))), (ff, .inr (13, [tf, .int 0, .int 0, .int 1, .int 0])), (fb, .inr (13, [tb, .int 0, .int 0, .int 1, .int 0])), (lw, .inr (5, [.int 0, .ref (em 0), .int 0])), (lo, .inr (5, [.int 0, .ref (em 0), .int 0])), (od, .inl (cOd, 1, .inr (.inr (.inr (.inl (fun _ => 0)))))), (ou, .inl (cOut, 1, .inr (.inl (fun _ => 0))))]) (w1 := [(m0, .inr (14, [.ref lc, .ref lp, .ref dl, .ref ff, .ref fb, .ref lw, .ref lo, .ref (em 1), .int 1]))]) hP hD [14, 15] [0, 1, 2, 3, 4, 5, 6, 7, 8, 9, 10, 11, 12, 13, 16, 17, 18, 19, 20, 21, 22, 23, 24] rfl rfl (by decide) (by decide) hk1 hFc hP1 hD1
  have hK := (hK.sub (tys' := [(cC, (.object "Bothfaces$Card")), (cH, .int), (cO, (.array .int)), (cI, .int), (cT, .int), (cR, .int), (cB0, .int), (cB1, .int), (cB2, .int), (cM, .int), (cO8, (.array .int)), (cI8, .int), (cOd, .double), (cOut, .long)]) [0, 1, 2, 3, 4, 5, 6, 7, 8, 9, 10, 11, 12, 13] rfl).app hK1
  generalize H1 = H at hP hS ⊢
  have hP : va_P (dC, dI) vwCl [(ca, .inl (cC, 16, .inr (.inr (.inr (.inr fC))))), (c0, .inr (7, [.ref th, u1, u2, .int 0, .int 0, .int 0, .int 0])), (th, .inl (cH, 4, .inl (fun _ => 0))), (dr, .inl (cO, 26, .inr (.inr (.inr (.inr fD))))), (rr, .inl (cI, 5, .inl (fun _ => 0))), (ty0, .inl (cT, 8, .inl (fun _ => 0))), (sf, .inr (10, [.int 0, sf1, .int 0, .int 0, .int 0, .int 1, .int 0])), (sb, .inr (10, [.int 1, sb1, .int 0, .int 0, .int 0, .int 1, .int 0])), (ra0, .inl (cR, 6, .inl (fun _ => 0))), (bk, .inr (6, [.ref a0, .ref a1, .ref a2, .ref mo, .int 0])), (a0, .inl (cB0, 8, .inl (fun _ => 0))), (a1, .inl (cB1, 8, .inl (fun _ => 0))), (a2, .inl (cB2, 8, .inl (fun _ => 0))), (mo, .inl (cM, 256, .inl (fun _ => 0))), (lp, .inr (5, [.int 0, .ref (em 0), .int 0])), (dl, .inl (cO8, 26, .inr (.inr (.inr (.inr fL))))), (rr8, .inl (cI8, 5, .inl (fun _ => 0))), (ff, .inr (13, [tf, .int 0, .int 0, .int 1, .int 0])), (fb, .inr (13, [tb, .int 0, .int 0, .int 1, .int 0])), (lw, .inr (5, [.int 0, .ref (em 0), .int 0])), (lo, .inr (5, [.int 0, .ref (em 0), .int 0])), (od, .inl (cOd, 1, .inr (.inr (.inr (.inl (fun _ => 0)))))), (ou, .inl (cOut, 1, .inr (.inl (fun _ => 0)))), (m0, .inr (14, [.ref lc, .ref lp, .ref dl, .ref ff, .ref fb, .ref lw, .ref lo, .ref (em 1), .int 1]))] H := hP
  have hD : va_D (fun q : Nat => s.heap.size ≤ q) [(ca, .inl (cC, 16, .inr (.inr (.inr (.inr fC))))), (c0, .inr (7, [.ref th, u1, u2, .int 0, .int 0, .int 0, .int 0])), (th, .inl (cH, 4, .inl (fun _ => 0))), (dr, .inl (cO, 26, .inr (.inr (.inr (.inr fD))))), (rr, .inl (cI, 5, .inl (fun _ => 0))), (ty0, .inl (cT, 8, .inl (fun _ => 0))), (sf, .inr (10, [.int 0, sf1, .int 0, .int 0, .int 0, .int 1, .int 0])), (sb, .inr (10, [.int 1, sb1, .int 0, .int 0, .int 0, .int 1, .int 0])), (ra0, .inl (cR, 6, .inl (fun _ => 0))), (bk, .inr (6, [.ref a0, .ref a1, .ref a2, .ref mo, .int 0])), (a0, .inl (cB0, 8, .inl (fun _ => 0))), (a1, .inl (cB1, 8, .inl (fun _ => 0))), (a2, .inl (cB2, 8, .inl (fun _ => 0))), (mo, .inl (cM, 256, .inl (fun _ => 0))), (lp, .inr (5, [.int 0, .ref (em 0), .int 0])), (dl, .inl (cO8, 26, .inr (.inr (.inr (.inr fL))))), (rr8, .inl (cI8, 5, .inl (fun _ => 0))), (ff, .inr (13, [tf, .int 0, .int 0, .int 1, .int 0])), (fb, .inr (13, [tb, .int 0, .int 0, .int 1, .int 0])), (lw, .inr (5, [.int 0, .ref (em 0), .int 0])), (lo, .inr (5, [.int 0, .ref (em 0), .int 0])), (od, .inl (cOd, 1, .inr (.inr (.inr (.inl (fun _ => 0)))))), (ou, .inl (cOut, 1, .inr (.inl (fun _ => 0)))), (m0, .inr (14, [.ref lc, .ref lp, .ref dl, .ref ff, .ref fb, .ref lw, .ref lo, .ref (em 1), .int 1]))] := hD
  have hK : va_K (dC, dI) vwCl [(cC, (.object "Bothfaces$Card")), (cH, .int), (cO, (.array .int)), (cI, .int), (cT, .int), (cR, .int), (cB0, .int), (cB1, .int), (cB2, .int), (cM, .int), (cO8, (.array .int)), (cI8, .int), (cOd, .double), (cOut, .long)] s := hK
  refine W.widen (k := 147) (n := 2193) (Nat.le_of_ble_eq_true rfl) (Nat.le_of_ble_eq_true rfl) ?_
  have hw : r_6 = 0 := hw
  rw [hw]
  refine lv_istore (lv' := [(7, .int 0), (6, .int 1), (5, .int 0), (4, .ref od), (3, .ref ou), (2, .ref m0), (1, .ref x0), (0, .ref b)]) hx hb dL_law_565 hl (by decide) rfl (fun ls hl => ?_)
  refine lv_aload_n hx hb dL_law_567 rfl (lv_at hl 5 rfl) ?_
  have hPc := hP.sub (ws' := [(m0, .inr (14, [.ref lc, .ref lp, .ref dl, .ref ff, .ref fb, .ref lw, .ref lo, .ref (em 1), .int 1]))]) [23] rfl
  have hDc := hD.sub (ws' := [(m0, .inr (14, [.ref lc, .ref lp, .ref dl, .ref ff, .ref fb, .ref lw, .ref lo, .ref (em 1), .int 1]))]) [23] (by decide) rfl
  have hKc := hK.sub (tys' := []) [] rfl
  have hFc := va_free (wc := [(m0, .inr (14, [.ref lc, .ref lp, .ref dl, .ref ff, .ref fb, .ref lw, .ref lo, .ref (em 1), .int 1]))]) hD hS hA [23] rfl
  refine va_calli (va_runV (As := []) (rest := []) ⟨hx, hb, hml, hown, hts⟩ (c_X8_thrown l em dC dI m0 1 (.ref lc) (.ref lp) (.ref dl) (.ref ff) (.ref fb) (.ref lw) (.ref lo) (.ref (em 1)) H.size) (cwV 0 hts gT_X8_thrown rfl rfl rfl (by decide +kernel) ⟨Nat.le_of_ble_eq_true rfl, Nat.le_of_ble_eq_true rfl⟩) ⟨Pw.blind _ _ _ _ _ _ _, va_recv hKc hPc (ci := 14) (q0 := 0) rfl rfl, fun U hU hW => ⟨rfl, Pw.go hPc hKc hDc hamb hS hFc hU hW⟩⟩ rfl rfl hl.1 rfl (lv_room (Nat.le_of_ble_eq_true rfl)) dL_law_568 ⟨Nat.le_of_ble_eq_true rfl, Nat.le_of_ble_eq_true rfl⟩) hS (fun q _ h => hFc q h) hFc (fun r_7 u t H1 locs1 ht hvm hw hB hz1 hk1 hS => ?_)
  obtain ⟨hP, hD⟩ := va_rest (wr := [(ca, .inl (cC, 16, .inr (.inr (.inr (.inr fC))))), (c0, .inr (7, [.ref th, u1, u2, .int 0, .int 0, .int 0, .int 0])), (th, .inl (cH, 4, .inl (fun _ => 0))), (dr, .inl (cO, 26, .inr (.inr (.inr (.inr fD))))), (rr, .inl (cI, 5, .inl (fun _ => 0))), (ty0, .inl (cT, 8, .inl (fun _ => 0))), (sf, .inr (10, [.int 0, sf1, .int 0, .int 0, .int 0, .int 1, .int 0])), (sb, .inr (10, [.int 1, sb1, .int 0, .int 0, .int 0, .int 1, .int 0])), (ra0, .inl (cR, 6, .inl (fun _ => 0))), (bk, .inr (6, [.ref a0, .ref a1, .ref a2, .ref mo, .int 0])), (a0, .inl (cB0, 8, .inl (fun _ => 0))), (a1, .inl (cB1, 8, .inl (fun _ => 0))), (a2, .inl (cB2, 8, .inl (fun _ => 0))), (mo, .inl (cM, 256, .inl (fun _ => 0))), (lp, .inr (5, [.int 0, .ref (em 0), .int 0])), (dl, .inl (cO8, 26, .inr (.inr (.inr (.inr fL))))), (rr8, .inl (cI8, 5, .inl (fun _ => 0))), (ff, .inr (13, [tf, .int 0, .int 0, .int 1, .int 0])), (fb, .inr (13, [tb, .int 0, .int 0, .int 1, .int 0])), (lw, .inr (5, [.int 0, .ref (em 0), .int 0])), (lo, .inr (5, [.int 0, .ref (em 0), .int 0])), (od, .inl (cOd, 1, .inr (.inr (.inr (.inl (fun _ => 0)))))), (ou, .inl (cOut, 1, .inr (.inl (fun _ => 0))))]) hP hD [23] [0, 1, 2, 3, 4, 5, 6, 7, 8, 9, 10, 11, 12, 13, 14, 15, 16, 17, 18, 19, 20, 21, 22] rfl rfl (by decide) (by decide) hk1 hFc
  generalize H1 = H at hP hS ⊢
  refine W.widen (k := 147) (n := 2193) (Nat.le_of_ble_eq_true rfl) (Nat.le_of_ble_eq_true rfl) ?_
  have hw : r_7 = 1 := hw
  rw [hw]
  refine lv_iload hx hb dL_law_571 (lv_at hl 1 rfl) ?_
  refine lv_icmp_eq (tgt := 578) hx hb dL_law_573 (by decide) (fun c_8 => ?_) (fun c_8 => ?_)
  · refine lv_iload hx hb dL_law_578 (lv_at hl 1 rfl) ?_
    refine lv_if_ne (tgt := 595) hx hb dL_law_580 (by decide) (fun c_9 => ?_) (fun c_9 => ?_)
    · refine lv_goto (tgt := 2636) hx hb dL_law_595 (by decide) ?_
      refine lv_iinc (v := 6) (lv' := [(5, .int 6), (7, .int 0), (6, .int 1), (4, .ref od), (3, .ref ou), (2, .ref m0), (1, .ref x0), (0, .ref b)]) hx hb dL_law_2636 hl (k := 2) rfl (by decide) (by decide) rfl (fun ls hl => ?_)
      refine lv_goto (tgt := 28) hx hb dL_law_2639 (by decide) ?_
      refine lv_iload hx hb dL_law_28 (lv_at hl 0 rfl) ?_
      refine lv_aload_n hx hb dL_law_30 rfl (lv_at hl 7 rfl) ?_
      refine va_slen hx hb hX hbl hbA hS dL_law_31 ?_
      refine lv_topi (fun n_10 en_10 => ?_)
      obtain rfl : n_10 = 6 := en_10.trans (by decide)
      refine lv_bipush (v := 6) hx hb dL_law_32 (by decide) ?_
      refine lv_isub hx hb dL_law_34 ?_
      refine lv_topi (fun k_11 ek_11 => ?_)
      obtain rfl : k_11 = 0 := ek_11.trans (by decide)
      refine lv_icmp_gt (tgt := 2642) hx hb dL_law_35 (by decide) (fun c_12 => ?_) (fun c_12 => ?_)
      · refine lv_iconst (v := 1) hx hb dL_law_2642 (by decide) ?_
        refine W.widen (k := 600006) (n := 7302072) (Nat.le_of_ble_eq_true rfl) (Nat.le_of_ble_eq_true rfl) ?_
        refine va_forget hS.2.2 ?_
        refine W.base ?_
        exact lw_ret (Drawn.sameBut.refl s.drawn lw_cs) hx hb hr hlocks dL_law_2643
      · exact absurd (by decide) c_12
    · exact absurd c_9 (by decide)
  · exact absurd (by decide) c_8

set_option maxHeartbeats 4000000 in
set_option maxRecDepth 100000 in
theorem law_5 {p : Program} {e : Env} {s : State} {m : MethodId} {below : List Frame} {meth : Method} {c : Code} (l : Launch) (hlt : l.stackTraces = false) {b : Nat} {xs : Nat → Int32} (C0 : lw_At p s m meth c b 6 xs) (em : Nat → Nat) (dC : Nat → ClassId) (dI : Nat → Nat → Nat) (j : Nat) (hjj : ∀ z : Int32, z = ((xs 1).toUInt32 % 65536).toInt32 → 97 ≤ z.toInt → z.toInt ≤ 122 → (z - 97).toNatClampNeg = j) (x0 : Nat) (ca : Nat) (dr : Nat) (ty0 : Nat) (sf : Nat) (sb : Nat) (ra0 : Nat) (bk : Nat) (c0 : Nat) (th : Nat) (rr : Nat) (a0 : Nat) (a1 : Nat) (a2 : Nat) (mo : Nat) (vp : Value) (vm : Value) (u1 : Value) (u2 : Value) (sf1 : Value) (sb1 : Value) (fC : Nat → Option Nat) (fD : Nat → Option Nat) (cC : ClassId) (cH : ClassId) (cO : ClassId) (cI : ClassId) (cT : ClassId) (cR : ClassId) (cB0 : ClassId) (cB1 : ClassId) (cB2 : ClassId) (cM : ClassId) (m0 : Nat) (lc : Nat) (lp : Nat) (dl : Nat) (rr8 : Nat) (ff : Nat) (fb : Nat) (lw : Nat) (lo : Nat) (tf : Value) (tb : Value) (fL : Nat → Option Nat) (cO8 : ClassId) (cI8 : ClassId) (ou : Nat) (od : Nat) (cOut : ClassId) (cOd : ClassId) (hfC : fC 0 = some c0) (hfD : fD j = some rr) (hfL : fL j = some rr8) {H : Heap} {locs : List Loc} (hamb : amb em (fun q : Nat => s.heap.size ≤ q) s s.heap) (hK : va_K (dC, dI) vwCl [(cC, (.object "Bothfaces$Card")), (cH, .int), (cO, (.array .int)), (cI, .int), (cT, .int), (cR, .int), (cB0, .int), (cB1, .int), (cB2, .int), (cM, .int), (cO8, (.array .int)), (cI8, .int), (cOut, .long), (cOd, .double)] s) (hP : va_P (dC, dI) vwCl [(x0, .inr (11, [.ref ca, .int 0, .int 0, .ref dr, .ref ty0, .int 0, .ref sf, .ref sb, vp, vm, .ref ra0, .int 0, .ref bk])), (ca, .inl (cC, 16, .inr (.inr (.inr (.inr fC))))), (c0, .inr (7, [.ref th, u1, u2, .int 0, .int 0, .int 0, .int 0])), (th, .inl (cH, 4, .inl (fun _ => 0))), (dr, .inl (cO, 26, .inr (.inr (.inr (.inr fD))))), (rr, .inl (cI, 5, .inl (fun _ => 0))), (ty0, .inl (cT, 8, .inl (fun _ => 0))), (sf, .inr (10, [.int 0, sf1, .int 0, .int 0, .int 0, .int 1, .int 0])), (sb, .inr (10, [.int 1, sb1, .int 0, .int 0, .int 0, .int 1, .int 0])), (ra0, .inl (cR, 6, .inl (fun _ => 0))), (bk, .inr (6, [.ref a0, .ref a1, .ref a2, .ref mo, .int 0])), (a0, .inl (cB0, 8, .inl (fun _ => 0))), (a1, .inl (cB1, 8, .inl (fun _ => 0))), (a2, .inl (cB2, 8, .inl (fun _ => 0))), (mo, .inl (cM, 256, .inl (fun _ => 0))), (m0, .inr (14, [.ref lc, .ref lp, .ref dl, .ref ff, .ref fb, .ref lw, .ref lo, .ref (em 1), .int 0])), (lc, .inr (5, [.int 0, .ref (em 0), .int 0])), (lp, .inr (5, [.int 0, .ref (em 0), .int 0])), (dl, .inl (cO8, 26, .inr (.inr (.inr (.inr fL))))), (rr8, .inl (cI8, 5, .inl (fun _ => 0))), (ff, .inr (13, [tf, .int 0, .int 0, .int 1, .int 0])), (fb, .inr (13, [tb, .int 0, .int 0, .int 1, .int 0])), (lw, .inr (5, [.int 0, .ref (em 0), .int 0])), (lo, .inr (5, [.int 0, .ref (em 0), .int 0])), (ou, .inl (cOut, 1, .inr (.inl (fun _ => 0)))), (od, .inl (cOd, 1, .inr (.inr (.inr (.inl (fun _ => 0))))))] H) (hD : va_D (fun q : Nat => s.heap.size ≤ q) [(x0, .inr (11, [.ref ca, .int 0, .int 0, .ref dr, .ref ty0, .int 0, .ref sf, .ref sb, vp, vm, .ref ra0, .int 0, .ref bk])), (ca, .inl (cC, 16, .inr (.inr (.inr (.inr fC))))), (c0, .inr (7, [.ref th, u1, u2, .int 0, .int 0, .int 0, .int 0])), (th, .inl (cH, 4, .inl (fun _ => 0))), (dr, .inl (cO, 26, .inr (.inr (.inr (.inr fD))))), (rr, .inl (cI, 5, .inl (fun _ => 0))), (ty0, .inl (cT, 8, .inl (fun _ => 0))), (sf, .inr (10, [.int 0, sf1, .int 0, .int 0, .int 0, .int 1, .int 0])), (sb, .inr (10, [.int 1, sb1, .int 0, .int 0, .int 0, .int 1, .int 0])), (ra0, .inl (cR, 6, .inl (fun _ => 0))), (bk, .inr (6, [.ref a0, .ref a1, .ref a2, .ref mo, .int 0])), (a0, .inl (cB0, 8, .inl (fun _ => 0))), (a1, .inl (cB1, 8, .inl (fun _ => 0))), (a2, .inl (cB2, 8, .inl (fun _ => 0))), (mo, .inl (cM, 256, .inl (fun _ => 0))), (m0, .inr (14, [.ref lc, .ref lp, .ref dl, .ref ff, .ref fb, .ref lw, .ref lo, .ref (em 1), .int 0])), (lc, .inr (5, [.int 0, .ref (em 0), .int 0])), (lp, .inr (5, [.int 0, .ref (em 0), .int 0])), (dl, .inl (cO8, 26, .inr (.inr (.inr (.inr fL))))), (rr8, .inl (cI8, 5, .inl (fun _ => 0))), (ff, .inr (13, [tf, .int 0, .int 0, .int 1, .int 0])), (fb, .inr (13, [tb, .int 0, .int 0, .int 1, .int 0])), (lw, .inr (5, [.int 0, .ref (em 0), .int 0])), (lo, .inr (5, [.int 0, .ref (em 0), .int 0])), (ou, .inl (cOut, 1, .inr (.inl (fun _ => 0)))), (od, .inl (cOd, 1, .inr (.inr (.inr (.inl (fun _ => 0))))))]) (hS : va_S (fun q : Nat => s.heap.size ≤ q) s.heap H locs) {ls : Array Slot} (hl : lv_has ls 9 [(5, .int 0), (4, .ref od), (3, .ref ou), (2, .ref m0), (1, .ref x0), (0, .ref b)]) : W p l e room_1 s m #[Value.ref b] below meth c H locs 146 2187 (lw_Z below #[Value.ref b] s) (F0 m 598 ls []) := by
  obtain ⟨hx, hb, hr, hml, hown0, hts0, hX, hbl, hlocks, hgv⟩ := id C0
  have hts := ow_hts hts0
  have hown : s.vm.findClass RL = some m.cls := hown0
  have hA : ∀ q : Nat, s.heap.size ≤ q → (fun q : Nat => s.heap.size ≤ q) q := fun _ h => h
  have hbA : ¬ (fun q : Nat => s.heap.size ≤ q) b := Nat.not_le.mpr hbl
  refine lv_aload_n hx hb dL_law_598 rfl (lv_at hl 4 rfl) ?_
  have hPc := hP.sub (ws' := [(x0, .inr (11, [.ref ca, .int 0, .int 0, .ref dr, .ref ty0, .int 0, .ref sf, .ref sb, vp, vm, .ref ra0, .int 0, .ref bk]))]) [0] rfl
  have hDc := hD.sub (ws' := [(x0, .inr (11, [.ref ca, .int 0, .int 0, .ref dr, .ref ty0, .int 0, .ref sf, .ref sb, vp, vm, .ref ra0, .int 0, .ref bk]))]) [0] (by decide) rfl
  have hKc := hK.sub (tys' := []) [] rfl
  have hFc := va_free (wc := [(x0, .inr (11, [.ref ca, .int 0, .int 0, .ref dr, .ref ty0, .int 0, .ref sf, .ref sb, vp, vm, .ref ra0, .int 0, .ref bk]))]) hD hS hA [0] rfl
  refine va_calli (va_runV (As := []) (rest := []) ⟨hx, hb, hml, hown, hts⟩ (c_X5_mostTwist l em dC dI x0 (.ref ca) (.int 0) (.ref dr) (.ref ty0) (.int 0) (.ref sf) (.ref sb) vp vm (.ref ra0) (.int 0) (.ref bk) H.size) (cwV 0 hts gT_X5_mostTwist rfl rfl rfl (by decide +kernel) ⟨Nat.le_of_ble_eq_true rfl, Nat.le_of_ble_eq_true rfl⟩) ⟨Pw.blind _ _ _ _ _ _ _, va_recv hKc hPc (ci := 11) (q0 := 0) rfl rfl, fun U hU hW => ⟨rfl, Pw.go hPc hKc hDc hamb hS hFc hU hW⟩⟩ rfl rfl hl.1 rfl (lv_room (Nat.le_of_ble_eq_true rfl)) dL_law_599 ⟨Nat.le_of_ble_eq_true rfl, Nat.le_of_ble_eq_true rfl⟩) hS (fun q _ h => hFc q h) hFc (fun r_1 u t H1 locs1 ht hvm hw hB hz1 hk1 hS => ?_)
  obtain ⟨hP, hD⟩ := va_rest (wr := [(ca, .inl (cC, 16, .inr (.inr (.inr (.inr fC))))), (c0, .inr (7, [.ref th, u1, u2, .int 0, .int 0, .int 0, .int 0])), (th, .inl (cH, 4, .inl (fun _ => 0))), (dr, .inl (cO, 26, .inr (.inr (.inr (.inr fD))))), (rr, .inl (cI, 5, .inl (fun _ => 0))), (ty0, .inl (cT, 8, .inl (fun _ => 0))), (sf, .inr (10, [.int 0, sf1, .int 0, .int 0, .int 0, .int 1, .int 0])), (sb, .inr (10, [.int 1, sb1, .int 0, .int 0, .int 0, .int 1, .int 0])), (ra0, .inl (cR, 6, .inl (fun _ => 0))), (bk, .inr (6, [.ref a0, .ref a1, .ref a2, .ref mo, .int 0])), (a0, .inl (cB0, 8, .inl (fun _ => 0))), (a1, .inl (cB1, 8, .inl (fun _ => 0))), (a2, .inl (cB2, 8, .inl (fun _ => 0))), (mo, .inl (cM, 256, .inl (fun _ => 0))), (m0, .inr (14, [.ref lc, .ref lp, .ref dl, .ref ff, .ref fb, .ref lw, .ref lo, .ref (em 1), .int 0])), (lc, .inr (5, [.int 0, .ref (em 0), .int 0])), (lp, .inr (5, [.int 0, .ref (em 0), .int 0])), (dl, .inl (cO8, 26, .inr (.inr (.inr (.inr fL))))), (rr8, .inl (cI8, 5, .inl (fun _ => 0))), (ff, .inr (13, [tf, .int 0, .int 0, .int 1, .int 0])), (fb, .inr (13, [tb, .int 0, .int 0, .int 1, .int 0])), (lw, .inr (5, [.int 0, .ref (em 0), .int 0])), (lo, .inr (5, [.int 0, .ref (em 0), .int 0])), (ou, .inl (cOut, 1, .inr (.inl (fun _ => 0)))), (od, .inl (cOd, 1, .inr (.inr (.inr (.inl (fun _ => 0))))))]) hP hD [0] [1, 2, 3, 4, 5, 6, 7, 8, 9, 10, 11, 12, 13, 14, 15, 16, 17, 18, 19, 20, 21, 22, 23, 24, 25] rfl rfl (by decide) (by decide) hk1 hFc
  generalize H1 = H at hP hS ⊢
  refine W.widen (k := 146) (n := 2187) (Nat.le_of_ble_eq_true rfl) (Nat.le_of_ble_eq_true rfl) ?_
  have hw : r_1 = 0 := hw
  rw [hw]
  refine lv_aload_n hx hb dL_law_602 rfl (lv_at hl 3 rfl) ?_
  have hPc := hP.sub (ws' := [(m0, .inr (14, [.ref lc, .ref lp, .ref dl, .ref ff, .ref fb, .ref lw, .ref lo, .ref (em 1), .int 0])), (lc, .inr (5, [.int 0, .ref (em 0), .int 0]))]) [14, 15] rfl
  have hDc := hD.sub (ws' := [(m0, .inr (14, [.ref lc, .ref lp, .ref dl, .ref ff, .ref fb, .ref lw, .ref lo, .ref (em 1), .int 0])), (lc, .inr (5, [.int 0, .ref (em 0), .int 0]))]) [14, 15] (by decide) rfl
  have hKc := hK.sub (tys' := []) [] rfl
  have hFc := va_free (wc := [(m0, .inr (14, [.ref lc, .ref lp, .ref dl, .ref ff, .ref fb, .ref lw, .ref lo, .ref (em 1), .int 0])), (lc, .inr (5, [.int 0, .ref (em 0), .int 0]))]) hD hS hA [14, 15] rfl
  refine va_calli (va_runV (As := []) (rest := [.int 0]) ⟨hx, hb, hml, hown, hts⟩ (c_X8_mostTwist l em dC dI m0 (.ref lp) (.ref dl) (.ref ff) (.ref fb) (.ref lw) (.ref lo) (.ref (em 1)) (.int 0) lc (.ref (em 0)) H.size) (cwV 0 hts gT_X8_mostTwist rfl rfl rfl (by decide +kernel) ⟨Nat.le_of_ble_eq_true rfl, Nat.le_of_ble_eq_true rfl⟩) ⟨Pw.blind _ _ _ _ _ _ _, va_recv hKc hPc (ci := 14) (q0 := 0) rfl rfl, fun U hU hW => ⟨rfl, Pw.go hPc hKc hDc hamb hS hFc hU hW⟩⟩ rfl rfl hl.1 rfl (lv_room (Nat.le_of_ble_eq_true rfl)) dL_law_603 ⟨Nat.le_of_ble_eq_true rfl, Nat.le_of_ble_eq_true rfl⟩) hS (fun q _ h => hFc q h) hFc (fun r_2 u t H1 locs1 ht hvm hw hB hz1 hk1 hS => ?_)
  obtain ⟨hP1, hK1, hD1⟩ := hB
  rw [ht] at hP1
  have hK1 := va_K.moved hvm.symm hK1
  obtain ⟨hP, hD⟩ := va_join (wr := [(ca, .inl (cC, 16, .inr (.inr (.inr (.inr fC))))), (c0, .inr (7, [.ref th, u1, u2, .int 0, .int 0, .int 0, .int 0])), (th, .inl (cH, 4, .inl (fun _ => 0))), (dr, .inl (cO, 26, .inr (.inr (.inr (.inr fD))))), (rr, .inl (cI, 5, .inl (fun _ => 0))), (ty0, .inl (cT, 8, .inl (fun _ => 0))), (sf, .inr (10, [.int 0, sf1, .int 0, .int 0, .int 0, .int 1, .int 0])), (sb, .inr (10, [.int 1, sb1, .int 0, .int 0, .int 0, .int 1, .int 0])), (ra0, .inl (cR, 6, .inl (fun _ => 0))), (bk, .inr (6, [.ref a0, .ref a1, .ref a2, .ref mo, .int 0])), (a0, .inl (cB0, 8, .inl (fun _ => 0))), (a1, .inl (cB1, 8, .inl (fun _ => 0))), (a2, .inl (cB2, 8, .inl (fun _ => 0))), (mo, .inl (cM, 256, .inl (fun _ => 0))), (lp, .inr (5, [.int 0, .ref (em 0), .int 0])), (dl, .inl (cO8, 26, .inr (.inr (.inr (.inr fL))))), (rr8, .inl (cI8, 5, .inl (fun _ => 0))), (ff, .inr (13, [tf, .int 0, .int 0, .int 1, .int 0])), (fb, .inr (13, [tb, .int 0, .int 0, .int 1, .int 0])), (lw, .inr (5, [.int 0, .ref (em 0), .int 0])), (lo, .inr (5, [.int 0, .ref (em 0), .int 0])), (ou, .inl (cOut, 1, .inr (.inl (fun _ => 0)))), (od, .inl (cOd, 1, .inr (.inr (.inr (.inl (fun _ => 0))))))]) (w1 := [(m0, .inr (14, [.ref lc, .ref lp, .ref dl, .ref ff, .ref fb, .ref lw, .ref lo, .ref (em 1), .int 0]))]) hP hD [14, 15] [0, 1, 2, 3, 4, 5, 6, 7, 8, 9, 10, 11, 12, 13, 16, 17, 18, 19, 20, 21, 22, 23, 24] rfl rfl (by decide) (by decide) hk1 hFc hP1 hD1
  have hK := (hK.sub (tys' := [(cC, (.object "Bothfaces$Card")), (cH, .int), (cO, (.array .int)), (cI, .int), (cT, .int), (cR, .int), (cB0, .int), (cB1, .int), (cB2, .int), (cM, .int), (cO8, (.array .int)), (cI8, .int), (cOut, .long), (cOd, .double)]) [0, 1, 2, 3, 4, 5, 6, 7, 8, 9, 10, 11, 12, 13] rfl).app hK1
  generalize H1 = H at hP hS ⊢
  have hP : va_P (dC, dI) vwCl [(ca, .inl (cC, 16, .inr (.inr (.inr (.inr fC))))), (c0, .inr (7, [.ref th, u1, u2, .int 0, .int 0, .int 0, .int 0])), (th, .inl (cH, 4, .inl (fun _ => 0))), (dr, .inl (cO, 26, .inr (.inr (.inr (.inr fD))))), (rr, .inl (cI, 5, .inl (fun _ => 0))), (ty0, .inl (cT, 8, .inl (fun _ => 0))), (sf, .inr (10, [.int 0, sf1, .int 0, .int 0, .int 0, .int 1, .int 0])), (sb, .inr (10, [.int 1, sb1, .int 0, .int 0, .int 0, .int 1, .int 0])), (ra0, .inl (cR, 6, .inl (fun _ => 0))), (bk, .inr (6, [.ref a0, .ref a1, .ref a2, .ref mo, .int 0])), (a0, .inl (cB0, 8, .inl (fun _ => 0))), (a1, .inl (cB1, 8, .inl (fun _ => 0))), (a2, .inl (cB2, 8, .inl (fun _ => 0))), (mo, .inl (cM, 256, .inl (fun _ => 0))), (lp, .inr (5, [.int 0, .ref (em 0), .int 0])), (dl, .inl (cO8, 26, .inr (.inr (.inr (.inr fL))))), (rr8, .inl (cI8, 5, .inl (fun _ => 0))), (ff, .inr (13, [tf, .int 0, .int 0, .int 1, .int 0])), (fb, .inr (13, [tb, .int 0, .int 0, .int 1, .int 0])), (lw, .inr (5, [.int 0, .ref (em 0), .int 0])), (lo, .inr (5, [.int 0, .ref (em 0), .int 0])), (ou, .inl (cOut, 1, .inr (.inl (fun _ => 0)))), (od, .inl (cOd, 1, .inr (.inr (.inr (.inl (fun _ => 0)))))), (m0, .inr (14, [.ref lc, .ref lp, .ref dl, .ref ff, .ref fb, .ref lw, .ref lo, .ref (em 1), .int 0]))] H := hP
  have hD : va_D (fun q : Nat => s.heap.size ≤ q) [(ca, .inl (cC, 16, .inr (.inr (.inr (.inr fC))))), (c0, .inr (7, [.ref th, u1, u2, .int 0, .int 0, .int 0, .int 0])), (th, .inl (cH, 4, .inl (fun _ => 0))), (dr, .inl (cO, 26, .inr (.inr (.inr (.inr fD))))), (rr, .inl (cI, 5, .inl (fun _ => 0))), (ty0, .inl (cT, 8, .inl (fun _ => 0))), (sf, .inr (10, [.int 0, sf1, .int 0, .int 0, .int 0, .int 1, .int 0])), (sb, .inr (10, [.int 1, sb1, .int 0, .int 0, .int 0, .int 1, .int 0])), (ra0, .inl (cR, 6, .inl (fun _ => 0))), (bk, .inr (6, [.ref a0, .ref a1, .ref a2, .ref mo, .int 0])), (a0, .inl (cB0, 8, .inl (fun _ => 0))), (a1, .inl (cB1, 8, .inl (fun _ => 0))), (a2, .inl (cB2, 8, .inl (fun _ => 0))), (mo, .inl (cM, 256, .inl (fun _ => 0))), (lp, .inr (5, [.int 0, .ref (em 0), .int 0])), (dl, .inl (cO8, 26, .inr (.inr (.inr (.inr fL))))), (rr8, .inl (cI8, 5, .inl (fun _ => 0))), (ff, .inr (13, [tf, .int 0, .int 0, .int 1, .int 0])), (fb, .inr (13, [tb, .int 0, .int 0, .int 1, .int 0])), (lw, .inr (5, [.int 0, .ref (em 0), .int 0])), (lo, .inr (5, [.int 0, .ref (em 0), .int 0])), (ou, .inl (cOut, 1, .inr (.inl (fun _ => 0)))), (od, .inl (cOd, 1, .inr (.inr (.inr (.inl (fun _ => 0)))))), (m0, .inr (14, [.ref lc, .ref lp, .ref dl, .ref ff, .ref fb, .ref lw, .ref lo, .ref (em 1), .int 0]))] := hD
  have hK : va_K (dC, dI) vwCl [(cC, (.object "Bothfaces$Card")), (cH, .int), (cO, (.array .int)), (cI, .int), (cT, .int), (cR, .int), (cB0, .int), (cB1, .int), (cB2, .int), (cM, .int), (cO8, (.array .int)), (cI8, .int), (cOut, .long), (cOd, .double)] s := hK
  refine W.widen (k := 147) (n := 2191) (Nat.le_of_ble_eq_true rfl) (Nat.le_of_ble_eq_true rfl) ?_
  have hw : r_2 = 0 := hw
  rw [hw]
  refine lv_icmp_eq (tgt := 2636) hx hb dL_law_606 (by decide) (fun c_3 => ?_) (fun c_3 => ?_)
  · refine lv_iinc (v := 6) (lv' := [(5, .int 6), (4, .ref od), (3, .ref ou), (2, .ref m0), (1, .ref x0), (0, .ref b)]) hx hb dL_law_2636 hl (k := 0) rfl (by decide) (by decide) rfl (fun ls hl => ?_)
    refine lv_goto (tgt := 28) hx hb dL_law_2639 (by decide) ?_
    refine lv_iload hx hb dL_law_28 (lv_at hl 0 rfl) ?_
    refine lv_aload_n hx hb dL_law_30 rfl (lv_at hl 5 rfl) ?_
    refine va_slen hx hb hX hbl hbA hS dL_law_31 ?_
    refine lv_topi (fun n_4 en_4 => ?_)
    obtain rfl : n_4 = 6 := en_4.trans (by decide)
    refine lv_bipush (v := 6) hx hb dL_law_32 (by decide) ?_
    refine lv_isub hx hb dL_law_34 ?_
    refine lv_topi (fun k_5 ek_5 => ?_)
    obtain rfl : k_5 = 0 := ek_5.trans (by decide)
    refine lv_icmp_gt (tgt := 2642) hx hb dL_law_35 (by decide) (fun c_6 => ?_) (fun c_6 => ?_)
    · refine lv_iconst (v := 1) hx hb dL_law_2642 (by decide) ?_
      refine W.widen (k := 600006) (n := 7302072) (Nat.le_of_ble_eq_true rfl) (Nat.le_of_ble_eq_true rfl) ?_
      refine va_forget hS.2.2 ?_
      refine W.base ?_
      exact lw_ret (Drawn.sameBut.refl s.drawn lw_cs) hx hb hr hlocks dL_law_2643
    · exact absurd (by decide) c_6
  · exact absurd (by decide) c_3
