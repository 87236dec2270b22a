theorem ow_fitb (x : Int32) : fits .byte (.int (vp_nar .byte x)) = true := by
  rw [vp_nar_byte]
  exact pk_fb x
set_option maxHeartbeats 4000000 in
set_option maxRecDepth 100000 in
theorem c_J5_init_d00df (l : Launch) (em : Nat → Nat) (dC : Nat → ClassId) (dI : Nat → Nat → Nat) (sb : Nat) (sz : Nat) : Met l yJ5_init_d00df wsJ5_init_d00df ({ frames := 1, cells := 1, slots := 16, locals := 12 }) (va_Pc [.ref sb, .int 16] (Pw em dC dI sz [(sb, .inr (1, [.null, .int 0, .int 0, .int 0]))] [])) (va_Qv (fun _ : Unit => True) (fun _ t => ∃ (bv : Nat) (cV : ClassId), Qw dC dI (va_A [(sb, .inr (1, [.null, .int 0, .int 0, .int 0]))] sz) [(sb, .inr (1, [.ref bv, .int 0, .int 0, .int 0])), (bv, .inl (cV, 16, .inl (fun _ => 0)))] [(cV, .byte)] t ∧ sb_Fit (fun _ => 0)) (va_A [(sb, .inr (1, [.null, .int 0, .int 0, .int 0]))] sz)) 1 16 (va_A [(sb, .inr (1, [.null, .int 0, .int 0, .int 0]))] sz) := by
  refine Met.ofW (cc := cJ5_init_d00df) (maxL := 2) (ret := none) (by decide) rfl ?_
  intro p e s m args below meth c s₁ B hml hv
  obtain ⟨rfl, hsz, hP, hK, hD0, hamb⟩ := hv
  have hx := B.exec
  have hb := B.bytes
  have hr := B.returns
  have hts := atoms_spec (ws := wsJ5_init_d00df) B.pre
  have hown : s.vm.findClass RJ5 = some m.cls := findClass_of_methodNamed B.named
  have hlocks := B.notSynchronized
  have hin : meth.name = "<init>" := (name_of_methodNamed B.named B.method).1
  subst hsz
  have hD := hD0.self (sz := s.heap.size)
  generalize hAe : va_A [(sb, .inr (1, [.null, .int 0, .int 0, .int 0]))] s.heap.size = A at hD hamb ⊢
  have hA : ∀ q : Nat, s.heap.size ≤ q → A q := fun q h => by rw [← hAe]; exact Or.inr h
  have hS : va_S A s.heap s.heap [] := va_S.rf
  have hP : va_P (dC, dI) vwCl [(sb, .inr (1, [.null, .int 0, .int 0, .int 0]))] s.heap := hP
  have hl := lv_entry ([.ref sb, .int 16]) (n := 2) (Nat.le_of_ble_eq_true rfl)
  rw [lg_entry_eq]
  generalize (lg_sl ([.ref sb, .int 16]) ++ List.replicate (2 - (lg_sl ([.ref sb, .int 16])).length) Slot.unset).toArray = ls at hl ⊢
  have hl : lv_has ls 2 [(0, .ref sb), (1, .int 16)] := hl
  refine lv_aload_n hx hb dJ5_init_d00df_0 rfl (lv_at hl 0 rfl) ?_
  refine W.objInit hx hb hown (hts (.methodLink RJ5 3 objectInit) (by decide +kernel)) (hts (.instanceMethod objectInit) (by decide +kernel)) (hts (.code objectInit ⟨#[0xb1]⟩ 1 none) (by decide +kernel)) rfl (by rw [hml]; exact hl.1) rfl dJ5_init_d00df_1 (Nat.le_of_ble_eq_true rfl) (Nat.le_of_ble_eq_true rfl) ?_
  refine W.eq (g2 := F0 m 4 ls []) rfl ?_
  refine va_gets hx hb hamb.zc hS hown (hts (.fieldLink RJ5 18 "java/lang/String" "COMPACT_STRINGS" "Z") (by decide +kernel)) (fun _ h9 => h9) dJ5_init_d00df_4 ?_
  refine lv_if_eq (tgt := 25) hx hb dJ5_init_d00df_7 (by decide) (fun c_1 => ?_) (fun c_1 => ?_)
  · exact absurd c_1 (by decide)
  · refine lv_aload_n hx hb dJ5_init_d00df_10 rfl (lv_at hl 0 rfl) ?_
    refine lv_iload_n hx hb dJ5_init_d00df_11 rfl (lv_at hl 1 rfl) ?_
    refine va_newa (atype := .byte) (ty := .byte) (a0 := (16, .inl (fun _ => 0))) hx hb (hts (.arrayClass .byte) (by decide +kernel)) rfl hK hP hD hS hA (fun _ => rfl) (by decide) rfl (Nat.le_of_ble_eq_true rfl) (Nat.le_of_ble_eq_true rfl) (Nat.le_of_ble_eq_true rfl) dJ5_init_d00df_12 (fun q_2 cA_3 H hK hP hD hS => ?_)
    have hP : va_P (dC, dI) vwCl [(sb, .inr (1, [.null, .int 0, .int 0, .int 0])), (q_2, .inl (cA_3, 16, .inl (fun _ => 0)))] H := hP
    have hD : va_D A [(sb, .inr (1, [.null, .int 0, .int 0, .int 0])), (q_2, .inl (cA_3, 16, .inl (fun _ => 0)))] := hD
    have hK : va_K (dC, dI) vwCl [(cA_3, .byte)] s := hK
    refine W.widen (k := 1) (n := 16) (Nat.le_of_ble_eq_true rfl) (Nat.le_of_ble_eq_true rfl) ?_
    refine va_put (D := (dC, dI)) (ci := 1) (v := .ref q_2) (ty := (.array .byte)) (C := RJ4) (T := TJ4) (N := 4) hx hb hts (by decide +kernel) tyJ4 tyJ4_ok nmJ4 hown hK hP hD hS 0 rfl rfl 0 (by decide) (hts (.fieldLink RJ5 15 "java/lang/AbstractStringBuilder" "value" "[B") (by decide +kernel)) (fun _ h9 => h9) rfl (by decide +kernel) rfl rfl (Nat.le_of_ble_eq_true rfl) dJ5_init_d00df_14 (fun H locs hP hD hS => ?_)
    have hP : va_P (dC, dI) vwCl [(sb, .inr (1, [.ref q_2, .int 0, .int 0, .int 0])), (q_2, .inl (cA_3, 16, .inl (fun _ => 0)))] H := hP
    have hD : va_D A [(sb, .inr (1, [.ref q_2, .int 0, .int 0, .int 0])), (q_2, .inl (cA_3, 16, .inl (fun _ => 0)))] := hD
    refine lv_aload_n hx hb dJ5_init_d00df_17 rfl (lv_at hl 0 rfl) ?_
    refine lv_iconst (v := 0) hx hb dJ5_init_d00df_18 (by decide) ?_
    refine va_put (D := (dC, dI)) (ci := 1) (v := .int 0) (ty := .byte) (C := RJ4) (T := TJ4) (N := 4) hx hb hts (by decide +kernel) tyJ4 tyJ4_ok nmJ4 hown hK hP hD hS 0 rfl rfl 1 (by decide) (hts (.fieldLink RJ5 22 "java/lang/AbstractStringBuilder" "coder" "B") (by decide +kernel)) (fun _ h9 => h9) rfl (by decide +kernel) rfl rfl (Nat.le_of_ble_eq_true rfl) dJ5_init_d00df_19 (fun H locs hP hD hS => ?_)
    have hP : va_P (dC, dI) vwCl [(sb, .inr (1, [.ref q_2, .int 0, .int 0, .int 0])), (q_2, .inl (cA_3, 16, .inl (fun _ => 0)))] H := hP
    have hD : va_D A [(sb, .inr (1, [.ref q_2, .int 0, .int 0, .int 0])), (q_2, .inl (cA_3, 16, .inl (fun _ => 0)))] := hD
    refine lv_goto (tgt := 38) hx hb dJ5_init_d00df_22 (by decide) ?_
    refine W.widen (k := 1) (n := 16) (Nat.le_of_ble_eq_true rfl) (Nat.le_of_ble_eq_true rfl) ?_
    have hP9 := hP.sub (ws' := [(sb, .inr (1, [.ref q_2, .int 0, .int 0, .int 0])), (q_2, .inl (cA_3, 16, .inl (fun _ => 0)))]) [0, 1] rfl
    have hD9 := hD.sub (ws' := [(sb, .inr (1, [.ref q_2, .int 0, .int 0, .int 0])), (q_2, .inl (cA_3, 16, .inl (fun _ => 0)))]) [0, 1] (by decide) rfl
    have hK9 := hK.sub (tys' := [(cA_3, .byte)]) [0] rfl
    exact W.vret hx hb hr (fun t ht hW => ⟨⟨(), rfl, trivial, ⟨(q_2), (cA_3), ⟨by rw [ht]; exact hP9, va_K.moved hW.alike hK9, hD9⟩, (by first | assumption | exact sb_fit0)⟩⟩, hS.F ht⟩) hS.2.2 dJ5_init_d00df_38

set_option maxHeartbeats 4000000 in
set_option maxRecDepth 100000 in
theorem c_J4_init_da8c8 (l : Launch) (em : Nat → Nat) (dC : Nat → ClassId) (dI : Nat → Nat → Nat) (sb : Nat) (sz : Nat) : Met l yJ4_init_da8c8 wsJ4_init_da8c8 ({ frames := 2, cells := 1, slots := 16, locals := 33 }) (va_Pc [.ref sb] (Pw em dC dI sz [(sb, .inr (1, [.null, .int 0, .int 0, .int 0]))] [])) (va_Qv (fun _ : Unit => True) (fun _ t => ∃ (bv : Nat) (cV : ClassId), Qw dC dI (va_A [(sb, .inr (1, [.null, .int 0, .int 0, .int 0]))] sz) [(sb, .inr (1, [.ref bv, .int 0, .int 0, .int 0])), (bv, .inl (cV, 16, .inl (fun _ => 0)))] [(cV, .byte)] t ∧ sb_Fit (fun _ => 0)) (va_A [(sb, .inr (1, [.null, .int 0, .int 0, .int 0]))] sz)) 1 16 (va_A [(sb, .inr (1, [.null, .int 0, .int 0, .int 0]))] sz) := by
  refine Met.ofW (cc := cJ4_init_da8c8) (maxL := 1) (ret := none) (by decide) rfl ?_
  intro p e s m args below meth c s₁ B hml hv
  obtain ⟨rfl, hsz, hP, hK, hD0, hamb⟩ := hv
  have hx := B.exec
  have hb := B.bytes
  have hr := B.returns
  have hts := atoms_spec (ws := wsJ4_init_da8c8) B.pre
  have hown : s.vm.findClass RJ4 = some m.cls := findClass_of_methodNamed B.named
  have hlocks := B.notSynchronized
  have hin : meth.name = "<init>" := (name_of_methodNamed B.named B.method).1
  subst hsz
  have hD := hD0.self (sz := s.heap.size)
  generalize hAe : va_A [(sb, .inr (1, [.null, .int 0, .int 0, .int 0]))] s.heap.size = A at hD hamb ⊢
  have hA : ∀ q : Nat, s.heap.size ≤ q → A q := fun q h => by rw [← hAe]; exact Or.inr h
  have hS : va_S A s.heap s.heap [] := va_S.rf
  have hP : va_P (dC, dI) vwCl [(sb, .inr (1, [.null, .int 0, .int 0, .int 0]))] s.heap := hP
  have hl := lv_entry ([.ref sb]) (n := 1) (Nat.le_of_ble_eq_true rfl)
  rw [lg_entry_eq]
  generalize (lg_sl ([.ref sb]) ++ List.replicate (1 - (lg_sl ([.ref sb])).length) Slot.unset).toArray = ls at hl ⊢
  have hl : lv_has ls 1 [(0, .ref sb)] := hl
  refine lv_aload_n hx hb dJ4_init_da8c8_0 rfl (lv_at hl 0 rfl) ?_
  refine lv_bipush (v := 16) hx hb dJ4_init_da8c8_1 (by decide) ?_
  have hPc := hP.sub (ws' := [(sb, .inr (1, [.null, .int 0, .int 0, .int 0]))]) [0] rfl
  have hDc := hD.sub (ws' := [(sb, .inr (1, [.null, .int 0, .int 0, .int 0]))]) [0] (by decide) rfl
  have hKc := hK.sub (tys' := []) [] rfl
  have hFc := va_free (wc := [(sb, .inr (1, [.null, .int 0, .int 0, .int 0]))]) hD hS hA [0] rfl
  refine va_callv (va_runI (As := [.int 16]) (rest := []) ⟨hx, hb, hml, hown, hts⟩ (c_J5_init_d00df l em dC dI sb s.heap.size) (cwI 1 hts gJ4_init_da8c8_J5_init_d00df rfl rfl rfl (hts (.initialized RJ5) (by decide +kernel)) (hts (.methodLink RJ4 1 yJ5_init_d00df) (by decide +kernel)) (hts (.instanceMethod yJ5_init_d00df) (by decide +kernel)) rfl (by decide +kernel) ⟨Nat.le_of_ble_eq_true rfl, Nat.le_of_ble_eq_true rfl⟩) ⟨Pw.blind _ _ _ _ _ _ _, fun U hU hW => ⟨rfl, Pw.go hPc hKc hDc hamb hS hFc hU hW⟩⟩ rfl rfl hl.1 rfl (lv_room (Nat.le_of_ble_eq_true rfl)) dJ4_init_da8c8_3 ⟨Nat.le_of_ble_eq_true rfl, Nat.le_of_ble_eq_true rfl⟩) hS (fun q _ h => hFc q h) hFc (fun u t H1 locs1 ht hvm hw hB hz1 hk1 hS => ?_)
  obtain ⟨bvx_2, cVx_3, ⟨hP1, hK1, hD1⟩, f_4⟩ := hB
  rw [ht] at hP1
  have hK1 := va_K.moved hvm.symm hK1
  obtain ⟨hP, hD⟩ := va_join (wr := []) (w1 := [(sb, .inr (1, [.ref bvx_2, .int 0, .int 0, .int 0])), (bvx_2, .inl (cVx_3, 16, .inl (fun _ => 0)))]) hP hD [0] [] rfl rfl (by decide) (by decide) hk1 hFc hP1 hD1
  have hK := (hK.sub (tys' := []) [] rfl).app hK1
  generalize H1 = H at hP hS ⊢
  have hP : va_P (dC, dI) vwCl [(sb, .inr (1, [.ref bvx_2, .int 0, .int 0, .int 0])), (bvx_2, .inl (cVx_3, 16, .inl (fun _ => 0)))] H := hP
  have hD : va_D A [(sb, .inr (1, [.ref bvx_2, .int 0, .int 0, .int 0])), (bvx_2, .inl (cVx_3, 16, .inl (fun _ => 0)))] := hD
  have hK : va_K (dC, dI) vwCl [(cVx_3, .byte)] s := hK
  refine W.widen (k := 1) (n := 16) (Nat.le_of_ble_eq_true rfl) (Nat.le_of_ble_eq_true rfl) ?_
  refine W.widen (k := 1) (n := 16) (Nat.le_of_ble_eq_true rfl) (Nat.le_of_ble_eq_true rfl) ?_
  have hP9 := hP.sub (ws' := [(sb, .inr (1, [.ref bvx_2, .int 0, .int 0, .int 0])), (bvx_2, .inl (cVx_3, 16, .inl (fun _ => 0)))]) [0, 1] rfl
  have hD9 := hD.sub (ws' := [(sb, .inr (1, [.ref bvx_2, .int 0, .int 0, .int 0])), (bvx_2, .inl (cVx_3, 16, .inl (fun _ => 0)))]) [0, 1] (by decide) rfl
  have hK9 := hK.sub (tys' := [(cVx_3, .byte)]) [0] rfl
  exact W.vret hx hb hr (fun t ht hW => ⟨⟨(), rfl, trivial, ⟨(bvx_2), (cVx_3), ⟨by rw [ht]; exact hP9, va_K.moved hW.alike hK9, hD9⟩, (by first | assumption | exact sb_fit0)⟩⟩, hS.F ht⟩) hS.2.2 dJ4_init_da8c8_6

set_option maxHeartbeats 4000000 in
set_option maxRecDepth 100000 in
theorem c_J5_ensureCapacityInternal_d00df_0 (l : Launch) (em : Nat → Nat) (dC : Nat → ClassId) (dI : Nat → Nat → Nat) (sb : Nat) (ml : Value) (bv : Nat) (cV : ClassId) (fV : Nat → Int32) (sz : Nat) : Met l yJ5_ensureCapacityInternal_d00df wsJ5_ensureCapacityInternal_d00df ({ frames := 0, cells := 0, slots := 0, locals := 0 }) (va_Pc [.ref sb, .int 0] (Pw em dC dI sz [(sb, .inr (1, [.ref bv, .int 0, ml, .int 0])), (bv, .inl (cV, 16, .inl fV))] [(cV, .byte)])) (va_Qv (fun _ : Unit => True) (fun _ t => Qw dC dI (va_A [(sb, .inr (1, [.ref bv, .int 0, ml, .int 0])), (bv, .inl (cV, 16, .inl fV))] sz) [(sb, .inr (1, [.ref bv, .int 0, ml, .int 0])), (bv, .inl (cV, 16, .inl fV))] [(cV, .byte)] t) (va_A [(sb, .inr (1, [.ref bv, .int 0, ml, .int 0])), (bv, .inl (cV, 16, .inl fV))] sz)) 0 0 (va_A [(sb, .inr (1, [.ref bv, .int 0, ml, .int 0])), (bv, .inl (cV, 16, .inl fV))] sz) := by
  refine Met.ofW (cc := cJ5_ensureCapacityInternal_d00df) (maxL := 3) (ret := none) (by decide) rfl ?_
  intro p e s m args below meth c s₁ B hml hv
  obtain ⟨rfl, hsz, hP, hK, hD0, hamb⟩ := hv
  have hx := B.exec
  have hb := B.bytes
  have hr := B.returns
  have hts := atoms_spec (ws := wsJ5_ensureCapacityInternal_d00df) B.pre
  have hown : s.vm.findClass RJ5 = some m.cls := findClass_of_methodNamed B.named
  have hlocks := B.notSynchronized
  subst hsz
  have hD := hD0.self (sz := s.heap.size)
  generalize hAe : va_A [(sb, .inr (1, [.ref bv, .int 0, ml, .int 0])), (bv, .inl (cV, 16, .inl fV))] s.heap.size = A at hD hamb ⊢
  have hA : ∀ q : Nat, s.heap.size ≤ q → A q := fun q h => by rw [← hAe]; exact Or.inr h
  have hS : va_S A s.heap s.heap [] := va_S.rf
  have hP : va_P (dC, dI) vwCl [(sb, .inr (1, [.ref bv, .int 0, ml, .int 0])), (bv, .inl (cV, 16, .inl fV))] s.heap := hP
  have hl := lv_entry ([.ref sb, .int 0]) (n := 3) (Nat.le_of_ble_eq_true rfl)
  rw [lg_entry_eq]
  generalize (lg_sl ([.ref sb, .int 0]) ++ List.replicate (3 - (lg_sl ([.ref sb, .int 0])).length) Slot.unset).toArray = ls at hl ⊢
  have hl : lv_has ls 3 [(0, .ref sb), (1, .int 0)] := hl
  refine lv_aload_n hx hb dJ5_ensureCapacityInternal_d00df_0 rfl (lv_at hl 0 rfl) ?_
  refine va_get (D := (dC, dI)) (ci := 1) (v := .ref bv) (C := RJ4) (T := TJ4) (N := 4) hx hb hts (by decide +kernel) hown hK hP 0 rfl rfl 0 (by decide) (hts (.fieldLink RJ5 15 "java/lang/AbstractStringBuilder" "value" "[B") (by decide +kernel)) (fun _ h9 => h9) rfl dJ5_ensureCapacityInternal_d00df_1 ?_
  refine va_alen hx hb hK hP 1 0 rfl rfl (v := 16) rfl dJ5_ensureCapacityInternal_d00df_4 ?_
  refine lv_aload_n hx hb dJ5_ensureCapacityInternal_d00df_5 rfl (lv_at hl 0 rfl) ?_
  refine va_get (D := (dC, dI)) (ci := 1) (v := .int 0) (C := RJ4) (T := TJ4) (N := 4) hx hb hts (by decide +kernel) hown hK hP 0 rfl rfl 1 (by decide) (hts (.fieldLink RJ5 22 "java/lang/AbstractStringBuilder" "coder" "B") (by decide +kernel)) (fun _ h9 => h9) rfl dJ5_ensureCapacityInternal_d00df_6 ?_
  refine lv_ishr hx hb dJ5_ensureCapacityInternal_d00df_9 ?_
  refine lv_topi (fun k_1 ek_1 => ?_)
  obtain rfl : k_1 = 16 := ek_1.trans (by decide)
  refine lv_istore_n (lv' := [(2, .int 16), (0, .ref sb), (1, .int 0)]) hx hb dJ5_ensureCapacityInternal_d00df_10 rfl hl (by decide) rfl (fun ls hl => ?_)
  refine lv_iload_n hx hb dJ5_ensureCapacityInternal_d00df_11 rfl (lv_at hl 2 rfl) ?_
  refine lv_iload_n hx hb dJ5_ensureCapacityInternal_d00df_12 rfl (lv_at hl 0 rfl) ?_
  refine lv_isub hx hb dJ5_ensureCapacityInternal_d00df_13 ?_
  refine lv_topi (fun k_2 ek_2 => ?_)
  obtain rfl : k_2 = (-16) := ek_2.trans (by decide)
  refine lv_if_le (tgt := 38) hx hb dJ5_ensureCapacityInternal_d00df_14 (by decide) (fun c_3 => ?_) (fun c_3 => ?_)
  · refine W.widen (k := 0) (n := 0) (Nat.le_of_ble_eq_true rfl) (Nat.le_of_ble_eq_true rfl) ?_
    have hP9 := hP.sub (ws' := [(sb, .inr (1, [.ref bv, .int 0, ml, .int 0])), (bv, .inl (cV, 16, .inl fV))]) [0, 1] rfl
    have hD9 := hD.sub (ws' := [(sb, .inr (1, [.ref bv, .int 0, ml, .int 0])), (bv, .inl (cV, 16, .inl fV))]) [0, 1] (by decide) rfl
    have hK9 := hK.sub (tys' := [(cV, .byte)]) [0] rfl
    exact W.vret hx hb hr (fun t ht hW => ⟨⟨(), rfl, trivial, ⟨by rw [ht]; exact hP9, va_K.moved hW.alike hK9, hD9⟩⟩, hS.F ht⟩) hS.2.2 dJ5_ensureCapacityInternal_d00df_38
  · exact absurd (by decide) c_3

set_option maxHeartbeats 4000000 in
set_option maxRecDepth 100000 in
theorem c_J5_ensureCapacityInternal_d00df_1 (l : Launch) (em : Nat → Nat) (dC : Nat → ClassId) (dI : Nat → Nat → Nat) (sb : Nat) (ml : Value) (bv : Nat) (cV : ClassId) (fV : Nat → Int32) (sz : Nat) : Met l yJ5_ensureCapacityInternal_d00df wsJ5_ensureCapacityInternal_d00df ({ frames := 0, cells := 0, slots := 0, locals := 0 }) (va_Pc [.ref sb, .int 1] (Pw em dC dI sz [(sb, .inr (1, [.ref bv, .int 0, ml, .int 0])), (bv, .inl (cV, 16, .inl fV))] [(cV, .byte)])) (va_Qv (fun _ : Unit => True) (fun _ t => Qw dC dI (va_A [(sb, .inr (1, [.ref bv, .int 0, ml, .int 0])), (bv, .inl (cV, 16, .inl fV))] sz) [(sb, .inr (1, [.ref bv, .int 0, ml, .int 0])), (bv, .inl (cV, 16, .inl fV))] [(cV, .byte)] t) (va_A [(sb, .inr (1, [.ref bv, .int 0, ml, .int 0])), (bv, .inl (cV, 16, .inl fV))] sz)) 0 0 (va_A [(sb, .inr (1, [.ref bv, .int 0, ml, .int 0])), (bv, .inl (cV, 16, .inl fV))] sz) := by
  refine Met.ofW (cc := cJ5_ensureCapacityInternal_d00df) (maxL := 3) (ret := none) (by decide) rfl ?_
  intro p e s m args below meth c s₁ B hml hv
  obtain ⟨rfl, hsz, hP, hK, hD0, hamb⟩ := hv
  have hx := B.exec
  have hb := B.bytes
  have hr := B.returns
  have hts := atoms_spec (ws := wsJ5_ensureCapacityInternal_d00df) B.pre
  have hown : s.vm.findClass RJ5 = some m.cls := findClass_of_methodNamed B.named
  have hlocks := B.notSynchronized
  subst hsz
  have hD := hD0.self (sz := s.heap.size)
  generalize hAe : va_A [(sb, .inr (1, [.ref bv, .int 0, ml, .int 0])), (bv, .inl (cV, 16, .inl fV))] s.heap.size = A at hD hamb ⊢
  have hA : ∀ q : Nat, s.heap.size ≤ q → A q := fun q h => by rw [← hAe]; exact Or.inr h
  have hS : va_S A s.heap s.heap [] := va_S.rf
  have hP : va_P (dC, dI) vwCl [(sb, .inr (1, [.ref bv, .int 0, ml, .int 0])), (bv, .inl (cV, 16, .inl fV))] s.heap := hP
  have hl := lv_entry ([.ref sb, .int 1]) (n := 3) (Nat.le_of_ble_eq_true rfl)
  rw [lg_entry_eq]
  generalize (lg_sl ([.ref sb, .int 1]) ++ List.replicate (3 - (lg_sl ([.ref sb, .int 1])).length) Slot.unset).toArray = ls at hl ⊢
  have hl : lv_has ls 3 [(0, .ref sb), (1, .int 1)] := hl
  refine lv_aload_n hx hb dJ5_ensureCapacityInternal_d00df_0 rfl (lv_at hl 0 rfl) ?_
  refine va_get (D := (dC, dI)) (ci := 1) (v := .ref bv) (C := RJ4) (T := TJ4) (N := 4) hx hb hts (by decide +kernel) hown hK hP 0 rfl rfl 0 (by decide) (hts (.fieldLink RJ5 15 "java/lang/AbstractStringBuilder" "value" "[B") (by decide +kernel)) (fun _ h9 => h9) rfl dJ5_ensureCapacityInternal_d00df_1 ?_
  refine va_alen hx hb hK hP 1 0 rfl rfl (v := 16) rfl dJ5_ensureCapacityInternal_d00df_4 ?_
  refine lv_aload_n hx hb dJ5_ensureCapacityInternal_d00df_5 rfl (lv_at hl 0 rfl) ?_
  refine va_get (D := (dC, dI)) (ci := 1) (v := .int 0) (C := RJ4) (T := TJ4) (N := 4) hx hb hts (by decide +kernel) hown hK hP 0 rfl rfl 1 (by decide) (hts (.fieldLink RJ5 22 "java/lang/AbstractStringBuilder" "coder" "B") (by decide +kernel)) (fun _ h9 => h9) rfl dJ5_ensureCapacityInternal_d00df_6 ?_
  refine lv_ishr hx hb dJ5_ensureCapacityInternal_d00df_9 ?_
  refine lv_topi (fun k_1 ek_1 => ?_)
  obtain rfl : k_1 = 16 := ek_1.trans (by decide)
  refine lv_istore_n (lv' := [(2, .int 16), (0, .ref sb), (1, .int 1)]) hx hb dJ5_ensureCapacityInternal_d00df_10 rfl hl (by decide) rfl (fun ls hl => ?_)
  refine lv_iload_n hx hb dJ5_ensureCapacityInternal_d00df_11 rfl (lv_at hl 2 rfl) ?_
  refine lv_iload_n hx hb dJ5_ensureCapacityInternal_d00df_12 rfl (lv_at hl 0 rfl) ?_
  refine lv_isub hx hb dJ5_ensureCapacityInternal_d00df_13 ?_
  refine lv_topi (fun k_2 ek_2 => ?_)
  obtain rfl : k_2 = (-15) := ek_2.trans (by decide)
  refine lv_if_le (tgt := 38) hx hb dJ5_ensureCapacityInternal_d00df_14 (by decide) (fun c_3 => ?_) (fun c_3 => ?_)
  · refine W.widen (k := 0) (n := 0) (Nat.le_of_ble_eq_true rfl) (Nat.le_of_ble_eq_true rfl) ?_
    have hP9 := hP.sub (ws' := [(sb, .inr (1, [.ref bv, .int 0, ml, .int 0])), (bv, .inl (cV, 16, .inl fV))]) [0, 1] rfl
    have hD9 := hD.sub (ws' := [(sb, .inr (1, [.ref bv, .int 0, ml, .int 0])), (bv, .inl (cV, 16, .inl fV))]) [0, 1] (by decide) rfl
    have hK9 := hK.sub (tys' := [(cV, .byte)]) [0] rfl
    exact W.vret hx hb hr (fun t ht hW => ⟨⟨(), rfl, trivial, ⟨by rw [ht]; exact hP9, va_K.moved hW.alike hK9, hD9⟩⟩, hS.F ht⟩) hS.2.2 dJ5_ensureCapacityInternal_d00df_38
  · exact absurd (by decide) c_3

set_option maxHeartbeats 4000000 in
set_option maxRecDepth 100000 in
theorem c_J5_isLatin1_aae02 (l : Launch) (em : Nat → Nat) (dC : Nat → ClassId) (dI : Nat → Nat → Nat) (sb : Nat) (ml : Value) (bvv : Value) (cn : Value) (sz : Nat) : Met l yJ5_isLatin1_aae02 wsJ5_isLatin1_aae02 ({ frames := 0, cells := 0, slots := 0, locals := 0 }) (va_Pc [.ref sb] (Pw em dC dI sz [(sb, .inr (1, [bvv, .int 0, ml, cn]))] [])) (va_Qi (fun (r : Int32) (_ : Unit) => r = 1) (fun _ t => Qw dC dI (va_A [(sb, .inr (1, [bvv, .int 0, ml, cn]))] sz) [(sb, .inr (1, [bvv, .int 0, ml, cn]))] [] t) (va_A [(sb, .inr (1, [bvv, .int 0, ml, cn]))] sz)) 0 0 (va_A [(sb, .inr (1, [bvv, .int 0, ml, cn]))] sz) := by
  refine Met.ofW (cc := cJ5_isLatin1_aae02) (maxL := 1) (ret := (some .boolean)) (by decide) rfl ?_
  intro p e s m args below meth c s₁ B hml hv
  obtain ⟨rfl, hsz, hP, hK, hD0, hamb⟩ := hv
  have hx := B.exec
  have hb := B.bytes
  have hr := B.returns
  have hts := atoms_spec (ws := wsJ5_isLatin1_aae02) B.pre
  have hown : s.vm.findClass RJ5 = some m.cls := findClass_of_methodNamed B.named
  have hlocks := B.notSynchronized
  subst hsz
  have hD := hD0.self (sz := s.heap.size)
  generalize hAe : va_A [(sb, .inr (1, [bvv, .int 0, ml, cn]))] s.heap.size = A at hD hamb ⊢
  have hA : ∀ q : Nat, s.heap.size ≤ q → A q := fun q h => by rw [← hAe]; exact Or.inr h
  have hS : va_S A s.heap s.heap [] := va_S.rf
  have hP : va_P (dC, dI) vwCl [(sb, .inr (1, [bvv, .int 0, ml, cn]))] s.heap := hP
  have hl := lv_entry ([.ref sb]) (n := 1) (Nat.le_of_ble_eq_true rfl)
  rw [lg_entry_eq]
  generalize (lg_sl ([.ref sb]) ++ List.replicate (1 - (lg_sl ([.ref sb])).length) Slot.unset).toArray = ls at hl ⊢
  have hl : lv_has ls 1 [(0, .ref sb)] := hl
  refine va_gets hx hb hamb.zc hS hown (hts (.fieldLink RJ5 18 "java/lang/String" "COMPACT_STRINGS" "Z") (by decide +kernel)) (fun _ h9 => h9) dJ5_isLatin1_aae02_0 ?_
  refine lv_if_eq (tgt := 17) hx hb dJ5_isLatin1_aae02_3 (by decide) (fun c_1 => ?_) (fun c_1 => ?_)
  · exact absurd c_1 (by decide)
  · refine lv_aload_n hx hb dJ5_isLatin1_aae02_6 rfl (lv_at hl 0 rfl) ?_
    refine va_get (D := (dC, dI)) (ci := 1) (v := .int 0) (C := RJ4) (T := TJ4) (N := 4) hx hb hts (by decide +kernel) hown hK hP 0 rfl rfl 1 (by decide) (hts (.fieldLink RJ5 22 "java/lang/AbstractStringBuilder" "coder" "B") (by decide +kernel)) (fun _ h9 => h9) rfl dJ5_isLatin1_aae02_7 ?_
    refine lv_if_ne (tgt := 17) hx hb dJ5_isLatin1_aae02_10 (by decide) (fun c_2 => ?_) (fun c_2 => ?_)
    · exact absurd (by decide) c_2
    · refine lv_iconst (v := 1) hx hb dJ5_isLatin1_aae02_13 (by decide) ?_
      refine lv_goto (tgt := 18) hx hb dJ5_isLatin1_aae02_14 (by decide) ?_
      refine W.widen (k := 0) (n := 0) (Nat.le_of_ble_eq_true rfl) (Nat.le_of_ble_eq_true rfl) ?_
      have hP9 := hP.sub (ws' := [(sb, .inr (1, [bvv, .int 0, ml, cn]))]) [0] rfl
      have hD9 := hD.sub (ws' := [(sb, .inr (1, [bvv, .int 0, ml, cn]))]) [0] (by decide) rfl
      have hK9 := hK.sub (tys' := []) [] rfl
      exact W.zret (v := 1) hx hb hr rfl (fun t ht hW => ⟨⟨1, (), rfl, rfl, ⟨by rw [ht]; exact hP9, va_K.moved hW.alike hK9, hD9⟩⟩, hS.F ht⟩) hS.2.2 dJ5_isLatin1_aae02_18

set_option maxHeartbeats 4000000 in
set_option maxRecDepth 100000 in
theorem c_J1_canEncode_fc78d (l : Launch) (em : Nat → Nat) (dC : Nat → ClassId) (dI : Nat → Nat → Nat) (p0 : Int32) (hb9 : 97 ≤ p0.toInt ∧ p0.toInt ≤ 122) (sz : Nat) : Met l yJ1_canEncode_fc78d wsJ1_canEncode_fc78d ({ frames := 0, cells := 0, slots := 0, locals := 0 }) (va_Pc [.int p0] (Pw em dC dI sz [] [])) (va_Qi (fun (r : Int32) (_ : Unit) => r = 1) (fun _ t => True) (va_A [] sz)) 0 0 (va_A [] sz) := by
  refine Met.ofW (cc := cJ1_canEncode_fc78d) (maxL := 1) (ret := (some .boolean)) (by decide) rfl ?_
  intro p e s m args below meth c s₁ B hml hv
  obtain ⟨rfl, hsz, hP, hK, hD0, hamb⟩ := hv
  have hx := B.exec
  have hb := B.bytes
  have hr := B.returns
  have hts := atoms_spec (ws := wsJ1_canEncode_fc78d) B.pre
  have hown : s.vm.findClass RJ1 = some m.cls := findClass_of_methodNamed B.named
  have hlocks := B.notSynchronized
  subst hsz
  have hD := hD0.self (sz := s.heap.size)
  generalize hAe : va_A [] s.heap.size = A at hD hamb ⊢
  have hA : ∀ q : Nat, s.heap.size ≤ q → A q := fun q h => by rw [← hAe]; exact Or.inr h
  have hS : va_S A s.heap s.heap [] := va_S.rf
  have hP : va_P (dC, dI) vwCl [] s.heap := hP
  have hl := lv_entry ([.int p0]) (n := 1) (Nat.le_of_ble_eq_true rfl)
  rw [lg_entry_eq]
  generalize (lg_sl ([.int p0]) ++ List.replicate (1 - (lg_sl ([.int p0])).length) Slot.unset).toArray = ls at hl ⊢
  have hl : lv_has ls 1 [(0, .int p0)] := hl
  refine lv_iload_n hx hb dJ1_canEncode_fc78d_0 rfl (lv_at hl 0 rfl) ?_
  refine lv_sipush (v := 255) hx hb dJ1_canEncode_fc78d_1 (by decide) ?_
  refine lv_icmp_gt (tgt := 11) hx hb dJ1_canEncode_fc78d_4 (by decide) (fun c_1 => ?_) (fun c_1 => ?_)
  · have t_2 := b_lt rfl c_1
    rw [show (255 : Int32).toInt = 255 from rfl] at t_2
    exfalso; omega
  · have t_3 := b_nlt rfl c_1
    rw [show (255 : Int32).toInt = 255 from rfl] at t_3
    refine lv_iconst (v := 1) hx hb dJ1_canEncode_fc78d_7 (by decide) ?_
    refine lv_goto (tgt := 12) hx hb dJ1_canEncode_fc78d_8 (by decide) ?_
    refine W.widen (k := 0) (n := 0) (Nat.le_of_ble_eq_true rfl) (Nat.le_of_ble_eq_true rfl) ?_
    exact W.zret (v := 1) hx hb hr rfl (fun t ht hW => ⟨⟨1, (), rfl, rfl, trivial⟩, hS.F ht⟩) hS.2.2 dJ1_canEncode_fc78d_12

set_option maxHeartbeats 4000000 in
set_option maxRecDepth 100000 in
theorem c_J5_inflateIfNeededFor_a7421 (l : Launch) (em : Nat → Nat) (dC : Nat → ClassId) (dI : Nat → Nat → Nat) (sb : Nat) (ml : Value) (bvv : Value) (sz : Nat) : Met l yJ5_inflateIfNeededFor_a7421 wsJ5_inflateIfNeededFor_a7421 ({ frames := 1, cells := 0, slots := 0, locals := 20 }) (va_Pc [.ref sb, .ref (em 1)] (Pw em dC dI sz [(sb, .inr (1, [bvv, .int 0, ml, .int 0]))] [])) (va_Qv (fun _ : Unit => True) (fun _ t => Qw dC dI (va_A [(sb, .inr (1, [bvv, .int 0, ml, .int 0]))] sz) [(sb, .inr (1, [bvv, .int 0, ml, .int 0]))] [] t) (va_A [(sb, .inr (1, [bvv, .int 0, ml, .int 0]))] sz)) 0 0 (va_A [(sb, .inr (1, [bvv, .int 0, ml, .int 0]))] sz) := by
  refine Met.ofW (cc := cJ5_inflateIfNeededFor_a7421) (maxL := 2) (ret := none) (by decide) rfl ?_
  intro p e s m args below meth c s₁ B hml hv
  obtain ⟨rfl, hsz, hP, hK, hD0, hamb⟩ := hv
  have hx := B.exec
  have hb := B.bytes
  have hr := B.returns
  have hts := atoms_spec (ws := wsJ5_inflateIfNeededFor_a7421) B.pre
  have hown : s.vm.findClass RJ5 = some m.cls := findClass_of_methodNamed B.named
  have hlocks := B.notSynchronized
  subst hsz
  have hD := hD0.self (sz := s.heap.size)
  generalize hAe : va_A [(sb, .inr (1, [bvv, .int 0, ml, .int 0]))] s.heap.size = A at hD hamb ⊢
  have hA : ∀ q : Nat, s.heap.size ≤ q → A q := fun q h => by rw [← hAe]; exact Or.inr h
  have hS : va_S A s.heap s.heap [] := va_S.rf
  have hP : va_P (dC, dI) vwCl [(sb, .inr (1, [bvv, .int 0, ml, .int 0]))] s.heap := hP
  have hl := lv_entry ([.ref sb, .ref (em 1)]) (n := 2) (Nat.le_of_ble_eq_true rfl)
  rw [lg_entry_eq]
  generalize (lg_sl ([.ref sb, .ref (em 1)]) ++ List.replicate (2 - (lg_sl ([.ref sb, .ref (em 1)])).length) Slot.unset).toArray = ls at hl ⊢
  have hl : lv_has ls 2 [(0, .ref sb), (1, .ref (em 1))] := hl
  refine va_gets hx hb hamb.zc hS hown (hts (.fieldLink RJ5 18 "java/lang/String" "COMPACT_STRINGS" "Z") (by decide +kernel)) (fun _ h9 => h9) dJ5_inflateIfNeededFor_a7421_0 ?_
  refine lv_if_eq (tgt := 21) hx hb dJ5_inflateIfNeededFor_a7421_3 (by decide) (fun c_1 => ?_) (fun c_1 => ?_)
  · exact absurd c_1 (by decide)
  · refine lv_aload_n hx hb dJ5_inflateIfNeededFor_a7421_6 rfl (lv_at hl 0 rfl) ?_
    refine va_get (D := (dC, dI)) (ci := 1) (v := .int 0) (C := RJ4) (T := TJ4) (N := 4) hx hb hts (by decide +kernel) hown hK hP 0 rfl rfl 1 (by decide) (hts (.fieldLink RJ5 22 "java/lang/AbstractStringBuilder" "coder" "B") (by decide +kernel)) (fun _ h9 => h9) rfl dJ5_inflateIfNeededFor_a7421_7 ?_
    refine lv_aload_n hx hb dJ5_inflateIfNeededFor_a7421_10 rfl (lv_at hl 1 rfl) ?_
    have hPc := hP.sub (ws' := []) [] rfl
    have hDc := hD.sub (ws' := []) [] (by decide) rfl
    have hKc := hK.sub (tys' := []) [] rfl
    have hFc := va_free (wc := []) hD hS hA [] rfl
    refine va_calli (va_runV (As := []) (rest := [.int 0]) ⟨hx, hb, hml, hown, hts⟩ (c_J0_coder_7d493 l em dC dI s.heap.size) (cwV 0 hts gJ5_inflateIfNeededFor_a7421_J0_coder_7d493 rfl rfl rfl (by decide +kernel) ⟨Nat.le_of_ble_eq_true rfl, Nat.le_of_ble_eq_true rfl⟩) ⟨Pw.blind _ _ _ _ _ _ _, (vk_recv hamb.s1 (i := 0) (by decide) hS), fun U hU hW => ⟨rfl, Pw.go hPc hKc hDc hamb hS hFc hU hW⟩⟩ rfl rfl hl.1 rfl (lv_room (Nat.le_of_ble_eq_true rfl)) dJ5_inflateIfNeededFor_a7421_11 ⟨Nat.le_of_ble_eq_true rfl, Nat.le_of_ble_eq_true rfl⟩) hS (fun q _ h => hFc q h) hFc (fun r_2 u t H1 locs1 ht hvm hw hB hz1 hk1 hS => ?_)
    obtain ⟨hP, hD⟩ := va_rest (wr := [(sb, .inr (1, [bvv, .int 0, ml, .int 0]))]) hP hD [] [0] rfl rfl (by decide) (by decide) hk1 hFc
    generalize H1 = H at hP hS ⊢
    refine W.widen (k := 0) (n := 0) (Nat.le_of_ble_eq_true rfl) (Nat.le_of_ble_eq_true rfl) ?_
    have hw : r_2 = 0 := hw
    rw [hw]
    refine lv_icmp_eq (tgt := 21) hx hb dJ5_inflateIfNeededFor_a7421_14 (by decide) (fun c_3 => ?_) (fun c_3 => ?_)
    · refine W.widen (k := 0) (n := 0) (Nat.le_of_ble_eq_true rfl) (Nat.le_of_ble_eq_true rfl) ?_
      have hP9 := hP.sub (ws' := [(sb, .inr (1, [bvv, .int 0, ml, .int 0]))]) [0] rfl
      have hD9 := hD.sub (ws' := [(sb, .inr (1, [bvv, .int 0, ml, .int 0]))]) [0] (by decide) rfl
      have hK9 := hK.sub (tys' := []) [] rfl
      exact W.vret hx hb hr (fun t ht hW => ⟨⟨(), rfl, trivial, ⟨by rw [ht]; exact hP9, va_K.moved hW.alike hK9, hD9⟩⟩, hS.F ht⟩) hS.2.2 dJ5_inflateIfNeededFor_a7421_21
    · exact absurd (by decide) c_3

set_option maxHeartbeats 4000000 in
set_option maxRecDepth 100000 in
theorem c_J0_getBytes_840e7 (l : Launch) (em : Nat → Nat) (dC : Nat → ClassId) (dI : Nat → Nat → Nat) (bv : Nat) (cV : ClassId) (fV : Nat → Int32) (hF : sb_Fit fV) (sz : Nat) : Met l yJ0_getBytes_840e7 wsJ0_getBytes_840e7 ({ frames := 1, cells := 0, slots := 0, locals := 40 }) (va_Pc [.ref (em 1), .ref bv, .int 0, .int 0] (Pw em dC dI sz [(bv, .inl (cV, 16, .inl fV))] [(cV, .byte)])) (va_Qv (fun _ : Unit => True) (fun _ t => ∃ (gV : Nat → Int32), Qw dC dI (va_A [(bv, .inl (cV, 16, .inl fV))] sz) [(bv, .inl (cV, 16, .inl gV))] [(cV, .byte)] t ∧ sb_Fit gV) (va_A [(bv, .inl (cV, 16, .inl fV))] sz)) 0 0 (va_A [(bv, .inl (cV, 16, .inl fV))] sz) := by
  refine Met.ofW (cc := cJ0_getBytes_840e7) (maxL := 4) (ret := none) (by decide) rfl ?_
  intro p e s m args below meth c s₁ B hml hv
  obtain ⟨rfl, hsz, hP, hK, hD0, hamb⟩ := hv
  have hx := B.exec
  have hb := B.bytes
  have hr := B.returns
  have hts := atoms_spec (ws := wsJ0_getBytes_840e7) B.pre
  have hown : s.vm.findClass RJ0 = some m.cls := findClass_of_methodNamed B.named
  have hlocks := B.notSynchronized
  subst hsz
  have hD := hD0.self (sz := s.heap.size)
  generalize hAe : va_A [(bv, .inl (cV, 16, .inl fV))] s.heap.size = A at hD hamb ⊢
  have hA : ∀ q : Nat, s.heap.size ≤ q → A q := fun q h => by rw [← hAe]; exact Or.inr h
  have hS : va_S A s.heap s.heap [] := va_S.rf
  have hP : va_P (dC, dI) vwCl [(bv, .inl (cV, 16, .inl fV))] s.heap := hP
  have hl := lv_entry ([.ref (em 1), .ref bv, .int 0, .int 0]) (n := 4) (Nat.le_of_ble_eq_true rfl)
  rw [lg_entry_eq]
  generalize (lg_sl ([.ref (em 1), .ref bv, .int 0, .int 0]) ++ List.replicate (4 - (lg_sl ([.ref (em 1), .ref bv, .int 0, .int 0])).length) Slot.unset).toArray = ls at hl ⊢
  have hl : lv_has ls 4 [(0, .ref (em 1)), (1, .ref bv), (2, .int 0), (3, .int 0)] := hl
  refine lv_aload_n hx hb dJ0_getBytes_840e7_0 rfl (lv_at hl 0 rfl) ?_
  have hPc := hP.sub (ws' := []) [] rfl
  have hDc := hD.sub (ws' := []) [] (by decide) rfl
  have hKc := hK.sub (tys' := []) [] rfl
  have hFc := va_free (wc := []) hD hS hA [] rfl
  refine va_calli (va_runV (As := []) (rest := []) ⟨hx, hb, hml, hown, hts⟩ (c_J0_coder_7d493 l em dC dI s.heap.size) (cwV 0 hts gJ0_getBytes_840e7_J0_coder_7d493 rfl rfl rfl (by decide +kernel) ⟨Nat.le_of_ble_eq_true rfl, Nat.le_of_ble_eq_true rfl⟩) ⟨Pw.blind _ _ _ _ _ _ _, (vk_recv hamb.s1 (i := 0) (by decide) hS), fun U hU hW => ⟨rfl, Pw.go hPc hKc hDc hamb hS hFc hU hW⟩⟩ rfl rfl hl.1 rfl (lv_room (Nat.le_of_ble_eq_true rfl)) dJ0_getBytes_840e7_1 ⟨Nat.le_of_ble_eq_true rfl, Nat.le_of_ble_eq_true rfl⟩) hS (fun q _ h => hFc q h) hFc (fun r_1 u t H1 locs1 ht hvm hw hB hz1 hk1 hS => ?_)
  obtain ⟨hP, hD⟩ := va_rest (wr := [(bv, .inl (cV, 16, .inl fV))]) hP hD [] [0] rfl rfl (by decide) (by decide) hk1 hFc
  generalize H1 = H at hP hS ⊢
  refine W.widen (k := 0) (n := 0) (Nat.le_of_ble_eq_true rfl) (Nat.le_of_ble_eq_true rfl) ?_
  have hw : r_1 = 0 := hw
  rw [hw]
  refine lv_iload_n hx hb dJ0_getBytes_840e7_4 rfl (lv_at hl 3 rfl) ?_
  refine lv_icmp_ne (tgt := 28) hx hb dJ0_getBytes_840e7_5 (by decide) (fun c_2 => ?_) (fun c_2 => ?_)
  · exact absurd (by decide) c_2
  · refine lv_aload_n hx hb dJ0_getBytes_840e7_8 rfl (lv_at hl 0 rfl) ?_
    refine vk_getf hx hb ((hamb.s1.1 0 (by decide)).2.2.1) hS hown (hts (.fieldLink RJ0 9 "java/lang/String" "value" "[B") (by decide +kernel)) (fun _ h9 => h9) dJ0_getBytes_840e7_9 ?_
    refine lv_iconst (v := 0) hx hb dJ0_getBytes_840e7_12 (by decide) ?_
    refine lv_aload_n hx hb dJ0_getBytes_840e7_13 rfl (lv_at hl 1 rfl) ?_
    refine lv_iload_n hx hb dJ0_getBytes_840e7_14 rfl (lv_at hl 2 rfl) ?_
    refine lv_iload_n hx hb dJ0_getBytes_840e7_15 rfl (lv_at hl 3 rfl) ?_
    refine lv_ishl hx hb dJ0_getBytes_840e7_16 ?_
    refine lv_topi (fun k_3 ek_3 => ?_)
    obtain rfl : k_3 = 0 := ek_3.trans (by decide)
    refine lv_aload_n hx hb dJ0_getBytes_840e7_17 rfl (lv_at hl 0 rfl) ?_
    refine vk_getf hx hb ((hamb.s1.1 0 (by decide)).2.2.1) hS hown (hts (.fieldLink RJ0 9 "java/lang/String" "value" "[B") (by decide +kernel)) (fun _ h9 => h9) dJ0_getBytes_840e7_18 ?_
    refine va_tlen hx hb (hamb.s1.1 0 (by decide)).2.2.2 hS (v := 0) (by decide) dJ0_getBytes_840e7_21 ?_
    refine vk_copyt hx hb (by rw [hml]; exact hl.1.symm) hown (hts (.methodLink RJ0 212 arraycopyName) (by decide +kernel)) (hts (.native arraycopyName) (by decide +kernel)) (hts (.static arraycopyName) (by decide +kernel)) (hts (.initialized "java/lang/System") (by decide +kernel)) hK hP hD hS ((hamb.s1.1 0 (by decide)).2.2.2) 0 0 rfl rfl (by decide) (by decide) (by decide) (by decide) (by decide) (fun i hi => absurd hi (Nat.not_lt_zero i)) (Nat.le_of_ble_eq_true rfl) (by decide) dJ0_getBytes_840e7_22 (fun H locs hP hD hS => ?_)
    have hP : va_P (dC, dI) vwCl [(bv, .inl (cV, 16, .inl (va_cpy (fun j => ((([[]] : List (List Int32)).getD 0 []).getD j 0)) fV 0 0 0)))] H := hP
    have hD : va_D A [(bv, .inl (cV, 16, .inl (va_cpy (fun j => ((([[]] : List (List Int32)).getD 0 []).getD j 0)) fV 0 0 0)))] := hD
    have f_4 : sb_Fit (va_cpy (fun j => ((([[]] : List (List Int32)).getD 0 []).getD j 0)) fV 0 0 0) := sb_fitC (fun j => rfl) hF
    refine lv_goto (tgt := 43) hx hb dJ0_getBytes_840e7_25 (by decide) ?_
    refine W.widen (k := 0) (n := 0) (Nat.le_of_ble_eq_true rfl) (Nat.le_of_ble_eq_true rfl) ?_
    have hP9 := hP.sub (ws' := [(bv, .inl (cV, 16, .inl (va_cpy (fun j => ((([[]] : List (List Int32)).getD 0 []).getD j 0)) fV 0 0 0)))]) [0] rfl
    have hD9 := hD.sub (ws' := [(bv, .inl (cV, 16, .inl (va_cpy (fun j => ((([[]] : List (List Int32)).getD 0 []).getD j 0)) fV 0 0 0)))]) [0] (by decide) rfl
    have hK9 := hK.sub (tys' := [(cV, .byte)]) [0] rfl
    exact W.vret hx hb hr (fun t ht hW => ⟨⟨(), rfl, trivial, ⟨((va_cpy (fun j => ((([[]] : List (List Int32)).getD 0 []).getD j 0)) fV 0 0 0)), ⟨by rw [ht]; exact hP9, va_K.moved hW.alike hK9, hD9⟩, (by first | assumption | exact sb_fit0)⟩⟩, hS.F ht⟩) hS.2.2 dJ0_getBytes_840e7_43

set_option maxHeartbeats 4000000 in
set_option maxRecDepth 100000 in
theorem c_J5_putStringAt_47b60 (l : Launch) (em : Nat → Nat) (dC : Nat → ClassId) (dI : Nat → Nat → Nat) (sb : Nat) (ml : Value) (bv : Nat) (cV : ClassId) (fV : Nat → Int32) (hF : sb_Fit fV) (sz : Nat) : Met l yJ5_putStringAt_47b60 wsJ5_putStringAt_47b60 ({ frames := 2, cells := 0, slots := 0, locals := 63 }) (va_Pc [.ref sb, .int 0, .ref (em 1)] (Pw em dC dI sz [(sb, .inr (1, [.ref bv, .int 0, ml, .int 0])), (bv, .inl (cV, 16, .inl fV))] [(cV, .byte)])) (va_Qv (fun _ : Unit => True) (fun _ t => ∃ (gV : Nat → Int32), Qw dC dI (va_A [(sb, .inr (1, [.ref bv, .int 0, ml, .int 0])), (bv, .inl (cV, 16, .inl fV))] sz) [(sb, .inr (1, [.ref bv, .int 0, ml, .int 0])), (bv, .inl (cV, 16, .inl gV))] [(cV, .byte)] t ∧ sb_Fit gV) (va_A [(sb, .inr (1, [.ref bv, .int 0, ml, .int 0])), (bv, .inl (cV, 16, .inl fV))] sz)) 0 0 (va_A [(sb, .inr (1, [.ref bv, .int 0, ml, .int 0])), (bv, .inl (cV, 16, .inl fV))] sz) := by
  refine Met.ofW (cc := cJ5_putStringAt_47b60) (maxL := 3) (ret := none) (by decide) rfl ?_
  intro p e s m args below meth c s₁ B hml hv
  obtain ⟨rfl, hsz, hP, hK, hD0, hamb⟩ := hv
  have hx := B.exec
  have hb := B.bytes
  have hr := B.returns
  have hts := atoms_spec (ws := wsJ5_putStringAt_47b60) B.pre
  have hown : s.vm.findClass RJ5 = some m.cls := findClass_of_methodNamed B.named
  have hlocks := B.notSynchronized
  subst hsz
  have hD := hD0.self (sz := s.heap.size)
  generalize hAe : va_A [(sb, .inr (1, [.ref bv, .int 0, ml, .int 0])), (bv, .inl (cV, 16, .inl fV))] s.heap.size = A at hD hamb ⊢
  have hA : ∀ q : Nat, s.heap.size ≤ q → A q := fun q h => by rw [← hAe]; exact Or.inr h
  have hS : va_S A s.heap s.heap [] := va_S.rf
  have hP : va_P (dC, dI) vwCl [(sb, .inr (1, [.ref bv, .int 0, ml, .int 0])), (bv, .inl (cV, 16, .inl fV))] s.heap := hP
  have hl := lv_entry ([.ref sb, .int 0, .ref (em 1)]) (n := 3) (Nat.le_of_ble_eq_true rfl)
  rw [lg_entry_eq]
  generalize (lg_sl ([.ref sb, .int 0, .ref (em 1)]) ++ List.replicate (3 - (lg_sl ([.ref sb, .int 0, .ref (em 1)])).length) Slot.unset).toArray = ls at hl ⊢
  have hl : lv_has ls 3 [(0, .ref sb), (1, .int 0), (2, .ref (em 1))] := hl
  refine lv_aload_n hx hb dJ5_putStringAt_47b60_0 rfl (lv_at hl 0 rfl) ?_
  refine lv_aload_n hx hb dJ5_putStringAt_47b60_1 rfl (lv_at hl 2 rfl) ?_
  have hPc := hP.sub (ws' := [(sb, .inr (1, [.ref bv, .int 0, ml, .int 0]))]) [0] rfl
  have hDc := hD.sub (ws' := [(sb, .inr (1, [.ref bv, .int 0, ml, .int 0]))]) [0] (by decide) rfl
  have hKc := hK.sub (tys' := []) [] rfl
  have hFc := va_free (wc := [(sb, .inr (1, [.ref bv, .int 0, ml, .int 0]))]) hD hS hA [0] rfl
  refine va_callv (va_runU (As := [.ref (em 1)]) (rest := []) ⟨hx, hb, hml, hown, hts⟩ (c_J5_inflateIfNeededFor_a7421 l em dC dI sb ml (.ref bv) s.heap.size) (va_cwU 1 hts gJ5_putStringAt_47b60_J5_inflateIfNeededFor_a7421_u397J4 rfl rfl rfl rfl (by decide +kernel) ⟨Nat.le_of_ble_eq_true rfl, Nat.le_of_ble_eq_true rfl⟩) ⟨Pw.blind _ _ _ _ _ _ _, va_recv hKc hPc (ci := 1) (q0 := 0) rfl rfl, fun U hU hW => ⟨rfl, Pw.go hPc hKc hDc hamb hS hFc hU hW⟩⟩ rfl rfl hl.1 rfl (lv_room (Nat.le_of_ble_eq_true rfl)) dJ5_putStringAt_47b60_2 ⟨Nat.le_of_ble_eq_true rfl, Nat.le_of_ble_eq_true rfl⟩) hS (fun q _ h => hFc q h) hFc (fun u t H1 locs1 ht hvm hw hB hz1 hk1 hS => ?_)
  obtain ⟨hP1, hK1, hD1⟩ := hB
  rw [ht] at hP1
  have hK1 := va_K.moved hvm.symm hK1
  obtain ⟨hP, hD⟩ := va_join (wr := [(bv, .inl (cV, 16, .inl fV))]) (w1 := [(sb, .inr (1, [.ref bv, .int 0, ml, .int 0]))]) hP hD [0] [1] rfl rfl (by decide) (by decide) hk1 hFc hP1 hD1
  have hK := (hK.sub (tys' := [(cV, .byte)]) [0] rfl).app hK1
  generalize H1 = H at hP hS ⊢
  have hP : va_P (dC, dI) vwCl [(bv, .inl (cV, 16, .inl fV)), (sb, .inr (1, [.ref bv, .int 0, ml, .int 0]))] H := hP
  have hD : va_D A [(bv, .inl (cV, 16, .inl fV)), (sb, .inr (1, [.ref bv, .int 0, ml, .int 0]))] := hD
  have hK : va_K (dC, dI) vwCl [(cV, .byte)] s := hK
  refine W.widen (k := 0) (n := 0) (Nat.le_of_ble_eq_true rfl) (Nat.le_of_ble_eq_true rfl) ?_
  refine lv_aload_n hx hb dJ5_putStringAt_47b60_5 rfl (lv_at hl 2 rfl) ?_
  refine lv_aload_n hx hb dJ5_putStringAt_47b60_6 rfl (lv_at hl 0 rfl) ?_
  refine va_get (D := (dC, dI)) (ci := 1) (v := .ref bv) (C := RJ4) (T := TJ4) (N := 4) hx hb hts (by decide +kernel) hown hK hP 1 rfl rfl 0 (by decide) (hts (.fieldLink RJ5 15 "java/lang/AbstractStringBuilder" "value" "[B") (by decide +kernel)) (fun _ h9 => h9) rfl dJ5_putStringAt_47b60_7 ?_
  refine lv_iload_n hx hb dJ5_putStringAt_47b60_10 rfl (lv_at hl 1 rfl) ?_
  refine lv_aload_n hx hb dJ5_putStringAt_47b60_11 rfl (lv_at hl 0 rfl) ?_
  refine va_get (D := (dC, dI)) (ci := 1) (v := .int 0) (C := RJ4) (T := TJ4) (N := 4) hx hb hts (by decide +kernel) hown hK hP 1 rfl rfl 1 (by decide) (hts (.fieldLink RJ5 22 "java/lang/AbstractStringBuilder" "coder" "B") (by decide +kernel)) (fun _ h9 => h9) rfl dJ5_putStringAt_47b60_12 ?_
  have hPc := hP.sub (ws' := [(bv, .inl (cV, 16, .inl fV))]) [0] rfl
  have hDc := hD.sub (ws' := [(bv, .inl (cV, 16, .inl fV))]) [0] (by decide) rfl
  have hKc := hK.sub (tys' := [(cV, .byte)]) [0] rfl
  have hFc := va_free (wc := [(bv, .inl (cV, 16, .inl fV))]) hD hS hA [0] rfl
  refine va_callv (va_runV (As := [.ref bv, .int 0, .int 0]) (rest := []) ⟨hx, hb, hml, hown, hts⟩ (c_J0_getBytes_840e7 l em dC dI bv cV fV hF H.size) (cwV 3 hts gJ5_putStringAt_47b60_J0_getBytes_840e7 rfl rfl rfl (by decide +kernel) ⟨Nat.le_of_ble_eq_true rfl, Nat.le_of_ble_eq_true rfl⟩) ⟨Pw.blind _ _ _ _ _ _ _, (vk_recv hamb.s1 (i := 0) (by decide) hS), fun U hU hW => ⟨rfl, Pw.go hPc hKc hDc hamb hS hFc hU hW⟩⟩ rfl rfl hl.1 rfl (lv_room (Nat.le_of_ble_eq_true rfl)) dJ5_putStringAt_47b60_15 ⟨Nat.le_of_ble_eq_true rfl, Nat.le_of_ble_eq_true rfl⟩) hS (fun q _ h => hFc q h) hFc (fun u t H1 locs1 ht hvm hw hB hz1 hk1 hS => ?_)
  obtain ⟨gVx_3, ⟨hP1, hK1, hD1⟩, f_4⟩ := hB
  rw [ht] at hP1
  have hK1 := va_K.moved hvm.symm hK1
  obtain ⟨hP, hD⟩ := va_join (wr := [(sb, .inr (1, [.ref bv, .int 0, ml, .int 0]))]) (w1 := [(bv, .inl (cV, 16, .inl gVx_3))]) hP hD [0] [1] rfl rfl (by decide) (by decide) hk1 hFc hP1 hD1
  have hK := (hK.sub (tys' := []) [] rfl).app hK1
  generalize H1 = H at hP hS ⊢
  have hP : va_P (dC, dI) vwCl [(sb, .inr (1, [.ref bv, .int 0, ml, .int 0])), (bv, .inl (cV, 16, .inl gVx_3))] H := hP
  have hD : va_D A [(sb, .inr (1, [.ref bv, .int 0, ml, .int 0])), (bv, .inl (cV, 16, .inl gVx_3))] := hD
  have hK : va_K (dC, dI) vwCl [(cV, .byte)] s := hK
  refine W.widen (k := 0) (n := 0) (Nat.le_of_ble_eq_true rfl) (Nat.le_of_ble_eq_true rfl) ?_
  refine W.widen (k := 0) (n := 0) (Nat.le_of_ble_eq_true rfl) (Nat.le_of_ble_eq_true rfl) ?_
  have hP9 := hP.sub (ws' := [(sb, .inr (1, [.ref bv, .int 0, ml, .int 0])), (bv, .inl (cV, 16, .inl gVx_3))]) [0, 1] rfl
  have hD9 := hD.sub (ws' := [(sb, .inr (1, [.ref bv, .int 0, ml, .int 0])), (bv, .inl (cV, 16, .inl gVx_3))]) [0, 1] (by decide) rfl
  have hK9 := hK.sub (tys' := [(cV, .byte)]) [0] rfl
  exact W.vret hx hb hr (fun t ht hW => ⟨⟨(), rfl, trivial, ⟨(gVx_3), ⟨by rw [ht]; exact hP9, va_K.moved hW.alike hK9, hD9⟩, (by first | assumption | exact sb_fit0)⟩⟩, hS.F ht⟩) hS.2.2 dJ5_putStringAt_47b60_18

set_option maxHeartbeats 4000000 in
set_option maxRecDepth 100000 in
theorem c_J5_append_cf1ce (l : Launch) (em : Nat → Nat) (dC : Nat → ClassId) (dI : Nat → Nat → Nat) (sb : Nat) (ml : Value) (bv : Nat) (cV : ClassId) (fV : Nat → Int32) (hF : sb_Fit fV) (sz : Nat) : Met l yJ5_append_cf1ce wsJ5_append_cf1ce ({ frames := 3, cells := 0, slots := 0, locals := 85 }) (va_Pc [.ref sb, .ref (em 1)] (Pw em dC dI sz [(sb, .inr (1, [.ref bv, .int 0, ml, .int 0])), (bv, .inl (cV, 16, .inl fV))] [(cV, .byte)])) (va_Qr (fun _ : Unit => True) (fun _ ra t => ra = sb ∧ (∃ (gV : Nat → Int32), Qw dC dI (va_A [(sb, .inr (1, [.ref bv, .int 0, ml, .int 0])), (bv, .inl (cV, 16, .inl fV))] sz) [(sb, .inr (1, [.ref bv, .int 0, ml, .int 0])), (bv, .inl (cV, 16, .inl gV))] [(cV, .byte)] t ∧ sb_Fit gV)) (va_A [(sb, .inr (1, [.ref bv, .int 0, ml, .int 0])), (bv, .inl (cV, 16, .inl fV))] sz)) 0 0 (va_A [(sb, .inr (1, [.ref bv, .int 0, ml, .int 0])), (bv, .inl (cV, 16, .inl fV))] sz) := by
  refine Met.ofW (cc := cJ5_append_cf1ce) (maxL := 3) (ret := (some (.object "java/lang/AbstractStringBuilder"))) (by decide) rfl ?_
  intro p e s m args below meth c s₁ B hml hv
  obtain ⟨rfl, hsz, hP, hK, hD0, hamb⟩ := hv
  have hx := B.exec
  have hb := B.bytes
  have hr := B.returns
  have hts := atoms_spec (ws := wsJ5_append_cf1ce) B.pre
  have hown : s.vm.findClass RJ5 = some m.cls := findClass_of_methodNamed B.named
  have hlocks := B.notSynchronized
  subst hsz
  have hD := hD0.self (sz := s.heap.size)
  generalize hAe : va_A [(sb, .inr (1, [.ref bv, .int 0, ml, .int 0])), (bv, .inl (cV, 16, .inl fV))] s.heap.size = A at hD hamb ⊢
  have hA : ∀ q : Nat, s.heap.size ≤ q → A q := fun q h => by rw [← hAe]; exact Or.inr h
  have hS : va_S A s.heap s.heap [] := va_S.rf
  have hP : va_P (dC, dI) vwCl [(sb, .inr (1, [.ref bv, .int 0, ml, .int 0])), (bv, .inl (cV, 16, .inl fV))] s.heap := hP
  have hl := lv_entry ([.ref sb, .ref (em 1)]) (n := 3) (Nat.le_of_ble_eq_true rfl)
  rw [lg_entry_eq]
  generalize (lg_sl ([.ref sb, .ref (em 1)]) ++ List.replicate (3 - (lg_sl ([.ref sb, .ref (em 1)])).length) Slot.unset).toArray = ls at hl ⊢
  have hl : lv_has ls 3 [(0, .ref sb), (1, .ref (em 1))] := hl
  refine lv_aload_n hx hb dJ5_append_cf1ce_0 rfl (lv_at hl 1 rfl) ?_
  refine lv_ifnonnull (tgt := 9) hx hb dJ5_append_cf1ce_1 (by decide) ?_
  refine lv_aload_n hx hb dJ5_append_cf1ce_9 rfl (lv_at hl 1 rfl) ?_
  have hPc := hP.sub (ws' := []) [] rfl
  have hDc := hD.sub (ws' := []) [] (by decide) rfl
  have hKc := hK.sub (tys' := []) [] rfl
  have hFc := va_free (wc := []) hD hS hA [] rfl
  refine va_calli (va_runV (As := []) (rest := []) ⟨hx, hb, hml, hown, hts⟩ (c_J0_length_8abf5 l em dC dI s.heap.size) (cwV 0 hts gJ5_append_cf1ce_J0_length_8abf5 rfl rfl rfl (by decide +kernel) ⟨Nat.le_of_ble_eq_true rfl, Nat.le_of_ble_eq_true rfl⟩) ⟨Pw.blind _ _ _ _ _ _ _, (vk_recv hamb.s1 (i := 0) (by decide) hS), fun U hU hW => ⟨rfl, Pw.go hPc hKc hDc hamb hS hFc hU hW⟩⟩ rfl rfl hl.1 rfl (lv_room (Nat.le_of_ble_eq_true rfl)) dJ5_append_cf1ce_10 ⟨Nat.le_of_ble_eq_true rfl, Nat.le_of_ble_eq_true rfl⟩) hS (fun q _ h => hFc q h) hFc (fun r_1 u t H1 locs1 ht hvm hw hB hz1 hk1 hS => ?_)
  obtain ⟨hP, hD⟩ := va_rest (wr := [(sb, .inr (1, [.ref bv, .int 0, ml, .int 0])), (bv, .inl (cV, 16, .inl fV))]) hP hD [] [0, 1] rfl rfl (by decide) (by decide) hk1 hFc
  generalize H1 = H at hP hS ⊢
  refine W.widen (k := 0) (n := 0) (Nat.le_of_ble_eq_true rfl) (Nat.le_of_ble_eq_true rfl) ?_
  have hw : r_1 = 0 := hw
  rw [hw]
  refine lv_istore_n (lv' := [(2, .int 0), (0, .ref sb), (1, .ref (em 1))]) hx hb dJ5_append_cf1ce_13 rfl hl (by decide) rfl (fun ls hl => ?_)
  refine lv_aload_n hx hb dJ5_append_cf1ce_14 rfl (lv_at hl 1 rfl) ?_
  refine lv_aload_n hx hb dJ5_append_cf1ce_15 rfl (lv_at hl 1 rfl) ?_
  refine va_get (D := (dC, dI)) (ci := 1) (v := .int 0) (C := RJ4) (T := TJ4) (N := 4) hx hb hts (by decide +kernel) hown hK hP 0 rfl rfl 3 (by decide) (hts (.fieldLink RJ5 79 "java/lang/AbstractStringBuilder" "count" "I") (by decide +kernel)) (fun _ h9 => h9) rfl dJ5_append_cf1ce_16 ?_
  refine lv_iload_n hx hb dJ5_append_cf1ce_19 rfl (lv_at hl 0 rfl) ?_
  refine lv_iadd hx hb dJ5_append_cf1ce_20 ?_
  refine lv_topi (fun k_2 ek_2 => ?_)
  obtain rfl : k_2 = 0 := ek_2.trans (by decide)
  have hPc := hP.sub (ws' := [(sb, .inr (1, [.ref bv, .int 0, ml, .int 0])), (bv, .inl (cV, 16, .inl fV))]) [0, 1] rfl
  have hDc := hD.sub (ws' := [(sb, .inr (1, [.ref bv, .int 0, ml, .int 0])), (bv, .inl (cV, 16, .inl fV))]) [0, 1] (by decide) rfl
  have hKc := hK.sub (tys' := [(cV, .byte)]) [0] rfl
  have hFc := va_free (wc := [(sb, .inr (1, [.ref bv, .int 0, ml, .int 0])), (bv, .inl (cV, 16, .inl fV))]) hD hS hA [0, 1] rfl
  refine va_callv (va_runU (As := [.int 0]) (rest := []) ⟨hx, hb, hml, hown, hts⟩ (c_J5_ensureCapacityInternal_d00df_0 l em dC dI sb ml bv cV fV H.size) (va_cwU 1 hts gJ5_append_cf1ce_J5_ensureCapacityInternal_d00df_u100J4 rfl rfl rfl rfl (by decide +kernel) ⟨Nat.le_of_ble_eq_true rfl, Nat.le_of_ble_eq_true rfl⟩) ⟨Pw.blind _ _ _ _ _ _ _, va_recv hKc hPc (ci := 1) (q0 := 0) rfl rfl, fun U hU hW => ⟨rfl, Pw.go hPc hKc hDc hamb hS hFc hU hW⟩⟩ rfl rfl hl.1 rfl (lv_room (Nat.le_of_ble_eq_true rfl)) dJ5_append_cf1ce_21 ⟨Nat.le_of_ble_eq_true rfl, Nat.le_of_ble_eq_true rfl⟩) hS (fun q _ h => hFc q h) hFc (fun u t H1 locs1 ht hvm hw hB hz1 hk1 hS => ?_)
  obtain ⟨hP1, hK1, hD1⟩ := hB
  rw [ht] at hP1
  have hK1 := va_K.moved hvm.symm hK1
  obtain ⟨hP, hD⟩ := va_join (wr := []) (w1 := [(sb, .inr (1, [.ref bv, .int 0, ml, .int 0])), (bv, .inl (cV, 16, .inl fV))]) hP hD [0, 1] [] rfl rfl (by decide) (by decide) hk1 hFc hP1 hD1
  have hK := (hK.sub (tys' := []) [] rfl).app hK1
  generalize H1 = H at hP hS ⊢
  have hP : va_P (dC, dI) vwCl [(sb, .inr (1, [.ref bv, .int 0, ml, .int 0])), (bv, .inl (cV, 16, .inl fV))] H := hP
  have hD : va_D A [(sb, .inr (1, [.ref bv, .int 0, ml, .int 0])), (bv, .inl (cV, 16, .inl fV))] := hD
  have hK : va_K (dC, dI) vwCl [(cV, .byte)] s := hK
  refine W.widen (k := 0) (n := 0) (Nat.le_of_ble_eq_true rfl) (Nat.le_of_ble_eq_true rfl) ?_
  refine lv_aload_n hx hb dJ5_append_cf1ce_24 rfl (lv_at hl 1 rfl) ?_
  refine lv_aload_n hx hb dJ5_append_cf1ce_25 rfl (lv_at hl 1 rfl) ?_
  refine va_get (D := (dC, dI)) (ci := 1) (v := .int 0) (C := RJ4) (T := TJ4) (N := 4) hx hb hts (by decide +kernel) hown hK hP 0 rfl rfl 3 (by decide) (hts (.fieldLink RJ5 79 "java/lang/AbstractStringBuilder" "count" "I") (by decide +kernel)) (fun _ h9 => h9) rfl dJ5_append_cf1ce_26 ?_
  refine lv_aload_n hx hb dJ5_append_cf1ce_29 rfl (lv_at hl 2 rfl) ?_
  have hPc := hP.sub (ws' := [(sb, .inr (1, [.ref bv, .int 0, ml, .int 0])), (bv, .inl (cV, 16, .inl fV))]) [0, 1] rfl
  have hDc := hD.sub (ws' := [(sb, .inr (1, [.ref bv, .int 0, ml, .int 0])), (bv, .inl (cV, 16, .inl fV))]) [0, 1] (by decide) rfl
  have hKc := hK.sub (tys' := [(cV, .byte)]) [0] rfl
  have hFc := va_free (wc := [(sb, .inr (1, [.ref bv, .int 0, ml, .int 0])), (bv, .inl (cV, 16, .inl fV))]) hD hS hA [0, 1] rfl
  refine va_callv (va_runU (As := [.int 0, .ref (em 1)]) (rest := []) ⟨hx, hb, hml, hown, hts⟩ (c_J5_putStringAt_47b60 l em dC dI sb ml bv cV fV hF H.size) (va_cwU 2 hts gJ5_append_cf1ce_J5_putStringAt_47b60_u208J4 rfl rfl rfl rfl (by decide +kernel) ⟨Nat.le_of_ble_eq_true rfl, Nat.le_of_ble_eq_true rfl⟩) ⟨Pw.blind _ _ _ _ _ _ _, va_recv hKc hPc (ci := 1) (q0 := 0) rfl rfl, fun U hU hW => ⟨rfl, Pw.go hPc hKc hDc hamb hS hFc hU hW⟩⟩ rfl rfl hl.1 rfl (lv_room (Nat.le_of_ble_eq_true rfl)) dJ5_append_cf1ce_30 ⟨Nat.le_of_ble_eq_true rfl, Nat.le_of_ble_eq_true rfl⟩) hS (fun q _ h => hFc q h) hFc (fun u t H1 locs1 ht hvm hw hB hz1 hk1 hS => ?_)
  obtain ⟨gVx_5, ⟨hP1, hK1, hD1⟩, f_6⟩ := hB
  rw [ht] at hP1
  have hK1 := va_K.moved hvm.symm hK1
  obtain ⟨hP, hD⟩ := va_join (wr := []) (w1 := [(sb, .inr (1, [.ref bv, .int 0, ml, .int 0])), (bv, .inl (cV, 16, .inl gVx_5))]) hP hD [0, 1] [] rfl rfl (by decide) (by decide) hk1 hFc hP1 hD1
  have hK := (hK.sub (tys' := []) [] rfl).app hK1
  generalize H1 = H at hP hS ⊢
  have hP : va_P (dC, dI) vwCl [(sb, .inr (1, [.ref bv, .int 0, ml, .int 0])), (bv, .inl (cV, 16, .inl gVx_5))] H := hP
  have hD : va_D A [(sb, .inr (1, [.ref bv, .int 0, ml, .int 0])), (bv, .inl (cV, 16, .inl gVx_5))] := hD
  have hK : va_K (dC, dI) vwCl [(cV, .byte)] s := hK
  refine W.widen (k := 0) (n := 0) (Nat.le_of_ble_eq_true rfl) (Nat.le_of_ble_eq_true rfl) ?_
  refine lv_aload_n hx hb dJ5_append_cf1ce_33 rfl (lv_at hl 1 rfl) ?_
  refine lv_dup hx hb dJ5_append_cf1ce_34 rfl ?_
  refine va_get (D := (dC, dI)) (ci := 1) (v := .int 0) (C := RJ4) (T := TJ4) (N := 4) hx hb hts (by decide +kernel) hown hK hP 0 rfl rfl 3 (by decide) (hts (.fieldLink RJ5 79 "java/lang/AbstractStringBuilder" "count" "I") (by decide +kernel)) (fun _ h9 => h9) rfl dJ5_append_cf1ce_35 ?_
  refine lv_iload_n hx hb dJ5_append_cf1ce_38 rfl (lv_at hl 0 rfl) ?_
  refine lv_iadd hx hb dJ5_append_cf1ce_39 ?_
  refine lv_topi (fun k_7 ek_7 => ?_)
  obtain rfl : k_7 = 0 := ek_7.trans (by decide)
  refine va_put (D := (dC, dI)) (ci := 1) (v := .int 0) (ty := .int) (C := RJ4) (T := TJ4) (N := 4) hx hb hts (by decide +kernel) tyJ4 tyJ4_ok nmJ4 hown hK hP hD hS 0 rfl rfl 3 (by decide) (hts (.fieldLink RJ5 79 "java/lang/AbstractStringBuilder" "count" "I") (by decide +kernel)) (fun _ h9 => h9) rfl (by decide +kernel) rfl rfl (Nat.le_of_ble_eq_true rfl) dJ5_append_cf1ce_40 (fun H locs hP hD hS => ?_)
  have hP : va_P (dC, dI) vwCl [(sb, .inr (1, [.ref bv, .int 0, ml, .int 0])), (bv, .inl (cV, 16, .inl gVx_5))] H := hP
  have hD : va_D A [(sb, .inr (1, [.ref bv, .int 0, ml, .int 0])), (bv, .inl (cV, 16, .inl gVx_5))] := hD
  refine lv_aload_n hx hb dJ5_append_cf1ce_43 rfl (lv_at hl 1 rfl) ?_
  refine W.widen (k := 0) (n := 0) (Nat.le_of_ble_eq_true rfl) (Nat.le_of_ble_eq_true rfl) ?_
  have hP9 := hP.sub (ws' := [(sb, .inr (1, [.ref bv, .int 0, ml, .int 0])), (bv, .inl (cV, 16, .inl gVx_5))]) [0, 1] rfl
  have hD9 := hD.sub (ws' := [(sb, .inr (1, [.ref bv, .int 0, ml, .int 0])), (bv, .inl (cV, 16, .inl gVx_5))]) [0, 1] (by decide) rfl
  have hK9 := hK.sub (tys' := [(cV, .byte)]) [0] rfl
  exact W.aret (v := .ref sb) hx hb hr (Or.inl ⟨_, rfl⟩) (Or.inr ⟨_, rfl⟩) (fun t ht hW => ⟨⟨(), sb, rfl, trivial, ⟨rfl, ⟨(gVx_5), ⟨by rw [ht]; exact hP9, va_K.moved hW.alike hK9, hD9⟩, (by first | assumption | exact sb_fit0)⟩⟩⟩, hS.F ht⟩) hS.2.2 dJ5_append_cf1ce_44

set_option maxHeartbeats 4000000 in
set_option maxRecDepth 100000 in
theorem c_J4_append_15ec4 (l : Launch) (em : Nat → Nat) (dC : Nat → ClassId) (dI : Nat → Nat → Nat) (sb : Nat) (ml : Value) (bv : Nat) (cV : ClassId) (fV : Nat → Int32) (hF : sb_Fit fV) (sz : Nat) : Met l yJ4_append_15ec4 wsJ4_append_15ec4 ({ frames := 4, cells := 0, slots := 0, locals := 107 }) (va_Pc [.ref sb, .ref (em 1)] (Pw em dC dI sz [(sb, .inr (1, [.ref bv, .int 0, ml, .int 0])), (bv, .inl (cV, 16, .inl fV))] [(cV, .byte)])) (va_Qr (fun _ : Unit => True) (fun _ ra t => ra = sb ∧ (∃ (gV : Nat → Int32), Qw dC dI (va_A [(sb, .inr (1, [.ref bv, .int 0, ml, .int 0])), (bv, .inl (cV, 16, .inl fV))] sz) [(sb, .inr (1, [.ref bv, .int 0, ml, .int 0])), (bv, .inl (cV, 16, .inl gV))] [(cV, .byte)] t ∧ sb_Fit gV)) (va_A [(sb, .inr (1, [.ref bv, .int 0, ml, .int 0])), (bv, .inl (cV, 16, .inl fV))] sz)) 0 0 (va_A [(sb, .inr (1, [.ref bv, .int 0, ml, .int 0])), (bv, .inl (cV, 16, .inl fV))] sz) := by
  refine Met.ofW (cc := cJ4_append_15ec4) (maxL := 2) (ret := (some (.object "java/lang/StringBuilder"))) (by decide) rfl ?_
  intro p e s m args below meth c s₁ B hml hv
  obtain ⟨rfl, hsz, hP, hK, hD0, hamb⟩ := hv
  have hx := B.exec
  have hb := B.bytes
  have hr := B.returns
  have hts := atoms_spec (ws := wsJ4_append_15ec4) B.pre
  have hown : s.vm.findClass RJ4 = some m.cls := findClass_of_methodNamed B.named
  have hlocks := B.notSynchronized
  subst hsz
  have hD := hD0.self (sz := s.heap.size)
  generalize hAe : va_A [(sb, .inr (1, [.ref bv, .int 0, ml, .int 0])), (bv, .inl (cV, 16, .inl fV))] s.heap.size = A at hD hamb ⊢
  have hA : ∀ q : Nat, s.heap.size ≤ q → A q := fun q h => by rw [← hAe]; exact Or.inr h
  have hS : va_S A s.heap s.heap [] := va_S.rf
  have hP : va_P (dC, dI) vwCl [(sb, .inr (1, [.ref bv, .int 0, ml, .int 0])), (bv, .inl (cV, 16, .inl fV))] s.heap := hP
  have hl := lv_entry ([.ref sb, .ref (em 1)]) (n := 2) (Nat.le_of_ble_eq_true rfl)
  rw [lg_entry_eq]
  generalize (lg_sl ([.ref sb, .ref (em 1)]) ++ List.replicate (2 - (lg_sl ([.ref sb, .ref (em 1)])).length) Slot.unset).toArray = ls at hl ⊢
  have hl : lv_has ls 2 [(0, .ref sb), (1, .ref (em 1))] := hl
  refine lv_aload_n hx hb dJ4_append_15ec4_0 rfl (lv_at hl 0 rfl) ?_
  refine lv_aload_n hx hb dJ4_append_15ec4_1 rfl (lv_at hl 1 rfl) ?_
  have hPc := hP.sub (ws' := [(sb, .inr (1, [.ref bv, .int 0, ml, .int 0])), (bv, .inl (cV, 16, .inl fV))]) [0, 1] rfl
  have hDc := hD.sub (ws' := [(sb, .inr (1, [.ref bv, .int 0, ml, .int 0])), (bv, .inl (cV, 16, .inl fV))]) [0, 1] (by decide) rfl
  have hKc := hK.sub (tys' := [(cV, .byte)]) [0] rfl
  have hFc := va_free (wc := [(sb, .inr (1, [.ref bv, .int 0, ml, .int 0])), (bv, .inl (cV, 16, .inl fV))]) hD hS hA [0, 1] rfl
  refine va_callr (va_runSU (hKc.1 1 _ rfl).2 (As := [.ref (em 1)]) (rest := []) ⟨hx, hb, hml, hown, hts⟩ (c_J5_append_cf1ce l em dC dI sb ml bv cV fV hF s.heap.size) (va_cwSU 1 hts gJ4_append_15ec4_J5_append_cf1ce_s29 rfl rfl rfl (by decide +kernel) ⟨Nat.le_of_ble_eq_true rfl, Nat.le_of_ble_eq_true rfl⟩) ⟨Pw.blind _ _ _ _ _ _ _, va_recv hKc hPc (ci := 1) (q0 := 0) rfl rfl, fun U hU hW => ⟨rfl, Pw.go hPc hKc hDc hamb hS hFc hU hW⟩⟩ rfl rfl hl.1 rfl (lv_room (Nat.le_of_ble_eq_true rfl)) dJ4_append_15ec4_2 ⟨Nat.le_of_ble_eq_true rfl, Nat.le_of_ble_eq_true rfl⟩) hS (fun q _ h => hFc q h) hFc (fun u ra t H1 locs1 ht hvm hw hB hz1 hk1 hS => ?_)
  obtain ⟨hra, hB⟩ := hB
  rw [hra]
  obtain ⟨gVx_2, ⟨hP1, hK1, hD1⟩, f_3⟩ := hB
  rw [ht] at hP1
  have hK1 := va_K.moved hvm.symm hK1
  obtain ⟨hP, hD⟩ := va_join (wr := []) (w1 := [(sb, .inr (1, [.ref bv, .int 0, ml, .int 0])), (bv, .inl (cV, 16, .inl gVx_2))]) hP hD [0, 1] [] rfl rfl (by decide) (by decide) hk1 hFc hP1 hD1
  have hK := (hK.sub (tys' := []) [] rfl).app hK1
  generalize H1 = H at hP hS ⊢
  have hP : va_P (dC, dI) vwCl [(sb, .inr (1, [.ref bv, .int 0, ml, .int 0])), (bv, .inl (cV, 16, .inl gVx_2))] H := hP
  have hD : va_D A [(sb, .inr (1, [.ref bv, .int 0, ml, .int 0])), (bv, .inl (cV, 16, .inl gVx_2))] := hD
  have hK : va_K (dC, dI) vwCl [(cV, .byte)] s := hK
  refine W.widen (k := 0) (n := 0) (Nat.le_of_ble_eq_true rfl) (Nat.le_of_ble_eq_true rfl) ?_
  refine lv_pop hx hb dJ4_append_15ec4_5 rfl ?_
  refine lv_aload_n hx hb dJ4_append_15ec4_6 rfl (lv_at hl 0 rfl) ?_
  refine W.widen (k := 0) (n := 0) (Nat.le_of_ble_eq_true rfl) (Nat.le_of_ble_eq_true rfl) ?_
  have hP9 := hP.sub (ws' := [(sb, .inr (1, [.ref bv, .int 0, ml, .int 0])), (bv, .inl (cV, 16, .inl gVx_2))]) [0, 1] rfl
  have hD9 := hD.sub (ws' := [(sb, .inr (1, [.ref bv, .int 0, ml, .int 0])), (bv, .inl (cV, 16, .inl gVx_2))]) [0, 1] (by decide) rfl
  have hK9 := hK.sub (tys' := [(cV, .byte)]) [0] rfl
  exact W.aret (v := .ref sb) hx hb hr (Or.inl ⟨_, rfl⟩) (Or.inr ⟨_, rfl⟩) (fun t ht hW => ⟨⟨(), sb, rfl, trivial, ⟨rfl, ⟨(gVx_2), ⟨by rw [ht]; exact hP9, va_K.moved hW.alike hK9, hD9⟩, (by first | assumption | exact sb_fit0)⟩⟩⟩, hS.F ht⟩) hS.2.2 dJ4_append_15ec4_7

set_option maxHeartbeats 4000000 in
set_option maxRecDepth 100000 in
theorem c_J5_append_3fe6f (l : Launch) (em : Nat → Nat) (dC : Nat → ClassId) (dI : Nat → Nat → Nat) (sb : Nat) (ml : Value) (bv : Nat) (cV : ClassId) (fV : Nat → Int32) (p0 : Int32) (hF : sb_Fit fV) (hb9 : 97 ≤ p0.toInt ∧ p0.toInt ≤ 122) (sz : Nat) : Met l yJ5_append_3fe6f wsJ5_append_3fe6f ({ frames := 1, cells := 0, slots := 0, locals := 22 }) (va_Pc [.ref sb, .int p0] (Pw em dC dI sz [(sb, .inr (1, [.ref bv, .int 0, ml, .int 0])), (bv, .inl (cV, 16, .inl fV))] [(cV, .byte)])) (va_Qr (fun _ : Unit => True) (fun _ ra t => ra = sb ∧ (∃ (gV : Nat → Int32), Qw dC dI (va_A [(sb, .inr (1, [.ref bv, .int 0, ml, .int 0])), (bv, .inl (cV, 16, .inl fV))] sz) [(sb, .inr (1, [.ref bv, .int 0, ml, .int 1])), (bv, .inl (cV, 16, .inl gV))] [(cV, .byte)] t ∧ sb_Fit gV)) (va_A [(sb, .inr (1, [.ref bv, .int 0, ml, .int 0])), (bv, .inl (cV, 16, .inl fV))] sz)) 0 0 (va_A [(sb, .inr (1, [.ref bv, .int 0, ml, .int 0])), (bv, .inl (cV, 16, .inl fV))] sz) := by
  refine Met.ofW (cc := cJ5_append_3fe6f) (maxL := 2) (ret := (some (.object "java/lang/AbstractStringBuilder"))) (by decide) rfl ?_
  intro p e s m args below meth c s₁ B hml hv
  obtain ⟨rfl, hsz, hP, hK, hD0, hamb⟩ := hv
  have hx := B.exec
  have hb := B.bytes
  have hr := B.returns
  have hts := atoms_spec (ws := wsJ5_append_3fe6f) B.pre
  have hown : s.vm.findClass RJ5 = some m.cls := findClass_of_methodNamed B.named
  have hlocks := B.notSynchronized
  subst hsz
  have hD := hD0.self (sz := s.heap.size)
  generalize hAe : va_A [(sb, .inr (1, [.ref bv, .int 0, ml, .int 0])), (bv, .inl (cV, 16, .inl fV))] s.heap.size = A at hD hamb ⊢
  have hA : ∀ q : Nat, s.heap.size ≤ q → A q := fun q h => by rw [← hAe]; exact Or.inr h
  have hS : va_S A s.heap s.heap [] := va_S.rf
  have hP : va_P (dC, dI) vwCl [(sb, .inr (1, [.ref bv, .int 0, ml, .int 0])), (bv, .inl (cV, 16, .inl fV))] s.heap := hP
  have hl := lv_entry ([.ref sb, .int p0]) (n := 2) (Nat.le_of_ble_eq_true rfl)
  rw [lg_entry_eq]
  generalize (lg_sl ([.ref sb, .int p0]) ++ List.replicate (2 - (lg_sl ([.ref sb, .int p0])).length) Slot.unset).toArray = ls at hl ⊢
  have hl : lv_has ls 2 [(0, .ref sb), (1, .int p0)] := hl
  refine lv_aload_n hx hb dJ5_append_3fe6f_0 rfl (lv_at hl 0 rfl) ?_
  refine lv_aload_n hx hb dJ5_append_3fe6f_1 rfl (lv_at hl 0 rfl) ?_
  refine va_get (D := (dC, dI)) (ci := 1) (v := .int 0) (C := RJ4) (T := TJ4) (N := 4) hx hb hts (by decide +kernel) hown hK hP 0 rfl rfl 3 (by decide) (hts (.fieldLink RJ5 79 "java/lang/AbstractStringBuilder" "count" "I") (by decide +kernel)) (fun _ h9 => h9) rfl dJ5_append_3fe6f_2 ?_
  refine lv_iconst (v := 1) hx hb dJ5_append_3fe6f_5 (by decide) ?_
  refine lv_iadd hx hb dJ5_append_3fe6f_6 ?_
  refine lv_topi (fun k_1 ek_1 => ?_)
  obtain rfl : k_1 = 1 := ek_1.trans (by decide)
  have hPc := hP.sub (ws' := [(sb, .inr (1, [.ref bv, .int 0, ml, .int 0])), (bv, .inl (cV, 16, .inl fV))]) [0, 1] rfl
  have hDc := hD.sub (ws' := [(sb, .inr (1, [.ref bv, .int 0, ml, .int 0])), (bv, .inl (cV, 16, .inl fV))]) [0, 1] (by decide) rfl
  have hKc := hK.sub (tys' := [(cV, .byte)]) [0] rfl
  have hFc := va_free (wc := [(sb, .inr (1, [.ref bv, .int 0, ml, .int 0])), (bv, .inl (cV, 16, .inl fV))]) hD hS hA [0, 1] rfl
  refine va_callv (va_runU (As := [.int 1]) (rest := []) ⟨hx, hb, hml, hown, hts⟩ (c_J5_ensureCapacityInternal_d00df_1 l em dC dI sb ml bv cV fV s.heap.size) (va_cwU 1 hts gJ5_append_3fe6f_J5_ensureCapacityInternal_d00df_u100J4 rfl rfl rfl rfl (by decide +kernel) ⟨Nat.le_of_ble_eq_true rfl, Nat.le_of_ble_eq_true rfl⟩) ⟨Pw.blind _ _ _ _ _ _ _, va_recv hKc hPc (ci := 1) (q0 := 0) rfl rfl, fun U hU hW => ⟨rfl, Pw.go hPc hKc hDc hamb hS hFc hU hW⟩⟩ rfl rfl hl.1 rfl (lv_room (Nat.le_of_ble_eq_true rfl)) dJ5_append_3fe6f_7 ⟨Nat.le_of_ble_eq_true rfl, Nat.le_of_ble_eq_true rfl⟩) hS (fun q _ h => hFc q h) hFc (fun u t H1 locs1 ht hvm hw hB hz1 hk1 hS => ?_)
  obtain ⟨hP1, hK1, hD1⟩ := hB
  rw [ht] at hP1
  have hK1 := va_K.moved hvm.symm hK1
  obtain ⟨hP, hD⟩ := va_join (wr := []) (w1 := [(sb, .inr (1, [.ref bv, .int 0, ml, .int 0])), (bv, .inl (cV, 16, .inl fV))]) hP hD [0, 1] [] rfl rfl (by decide) (by decide) hk1 hFc hP1 hD1
  have hK := (hK.sub (tys' := []) [] rfl).app hK1
  generalize H1 = H at hP hS ⊢
  have hP : va_P (dC, dI) vwCl [(sb, .inr (1, [.ref bv, .int 0, ml, .int 0])), (bv, .inl (cV, 16, .inl fV))] H := hP
  have hD : va_D A [(sb, .inr (1, [.ref bv, .int 0, ml, .int 0])), (bv, .inl (cV, 16, .inl fV))] := hD
  have hK : va_K (dC, dI) vwCl [(cV, .byte)] s := hK
  refine W.widen (k := 0) (n := 0) (Nat.le_of_ble_eq_true rfl) (Nat.le_of_ble_eq_true rfl) ?_
  refine lv_aload_n hx hb dJ5_append_3fe6f_10 rfl (lv_at hl 0 rfl) ?_
  have hPc := hP.sub (ws' := [(sb, .inr (1, [.ref bv, .int 0, ml, .int 0]))]) [0] rfl
  have hDc := hD.sub (ws' := [(sb, .inr (1, [.ref bv, .int 0, ml, .int 0]))]) [0] (by decide) rfl
  have hKc := hK.sub (tys' := []) [] rfl
  have hFc := va_free (wc := [(sb, .inr (1, [.ref bv, .int 0, ml, .int 0]))]) hD hS hA [0] rfl
  refine va_calli (va_runU (As := []) (rest := []) ⟨hx, hb, hml, hown, hts⟩ (c_J5_isLatin1_aae02 l em dC dI sb ml (.ref bv) (.int 0) H.size) (va_cwU 0 hts gJ5_append_3fe6f_J5_isLatin1_aae02_u83J4 rfl rfl rfl rfl (by decide +kernel) ⟨Nat.le_of_ble_eq_true rfl, Nat.le_of_ble_eq_true rfl⟩) ⟨Pw.blind _ _ _ _ _ _ _, va_recv hKc hPc (ci := 1) (q0 := 0) rfl rfl, fun U hU hW => ⟨rfl, Pw.go hPc hKc hDc hamb hS hFc hU hW⟩⟩ rfl rfl hl.1 rfl (lv_room (Nat.le_of_ble_eq_true rfl)) dJ5_append_3fe6f_11 ⟨Nat.le_of_ble_eq_true rfl, Nat.le_of_ble_eq_true rfl⟩) hS (fun q _ h => hFc q h) hFc (fun r_3 u t H1 locs1 ht hvm hw hB hz1 hk1 hS => ?_)
  obtain ⟨hP1, hK1, hD1⟩ := hB
  rw [ht] at hP1
  have hK1 := va_K.moved hvm.symm hK1
  obtain ⟨hP, hD⟩ := va_join (wr := [(bv, .inl (cV, 16, .inl fV))]) (w1 := [(sb, .inr (1, [.ref bv, .int 0, ml, .int 0]))]) hP hD [0] [1] rfl rfl (by decide) (by decide) hk1 hFc hP1 hD1
  have hK := (hK.sub (tys' := [(cV, .byte)]) [0] rfl).app hK1
  generalize H1 = H at hP hS ⊢
  have hP : va_P (dC, dI) vwCl [(bv, .inl (cV, 16, .inl fV)), (sb, .inr (1, [.ref bv, .int 0, ml, .int 0]))] H := hP
  have hD : va_D A [(bv, .inl (cV, 16, .inl fV)), (sb, .inr (1, [.ref bv, .int 0, ml, .int 0]))] := hD
  have hK : va_K (dC, dI) vwCl [(cV, .byte)] s := hK
  refine W.widen (k := 0) (n := 0) (Nat.le_of_ble_eq_true rfl) (Nat.le_of_ble_eq_true rfl) ?_
  have hw : r_3 = 1 := hw
  rw [hw]
  refine lv_if_eq (tgt := 45) hx hb dJ5_append_3fe6f_14 (by decide) (fun c_4 => ?_) (fun c_4 => ?_)
  · exact absurd c_4 (by decide)
  · refine lv_iload_n hx hb dJ5_append_3fe6f_17 rfl (lv_at hl 1 rfl) ?_
    have hPc := hP.sub (ws' := []) [] rfl
    have hDc := hD.sub (ws' := []) [] (by decide) rfl
    have hKc := hK.sub (tys' := []) [] rfl
    have hFc := va_free (wc := []) hD hS hA [] rfl
    refine va_calli (va_runS (As := [.int p0]) (rest := []) ⟨hx, hb, hml, hown, hts⟩ (c_J1_canEncode_fc78d l em dC dI p0 hb9 H.size) (va_cwS 1 hts gJ5_append_3fe6f_J1_canEncode_fc78d rfl rfl rfl (by decide +kernel) ⟨Nat.le_of_ble_eq_true rfl, Nat.le_of_ble_eq_true rfl⟩) ⟨Pw.blind _ _ _ _ _ _ _, fun U hU hW => ⟨rfl, Pw.go hPc hKc hDc hamb hS hFc hU hW⟩⟩ rfl rfl hl.1 rfl (lv_room (Nat.le_of_ble_eq_true rfl)) dJ5_append_3fe6f_18 ⟨Nat.le_of_ble_eq_true rfl, Nat.le_of_ble_eq_true rfl⟩) hS (fun q _ h => hFc q h) hFc (fun r_5 u t H1 locs1 ht hvm hw hB hz1 hk1 hS => ?_)
    obtain ⟨hP, hD⟩ := va_rest (wr := [(bv, .inl (cV, 16, .inl fV)), (sb, .inr (1, [.ref bv, .int 0, ml, .int 0]))]) hP hD [] [0, 1] rfl rfl (by decide) (by decide) hk1 hFc
    generalize H1 = H at hP hS ⊢
    refine W.widen (k := 0) (n := 0) (Nat.le_of_ble_eq_true rfl) (Nat.le_of_ble_eq_true rfl) ?_
    have hw : r_5 = 1 := hw
    rw [hw]
    refine lv_if_eq (tgt := 45) hx hb dJ5_append_3fe6f_21 (by decide) (fun c_6 => ?_) (fun c_6 => ?_)
    · exact absurd c_6 (by decide)
    · refine lv_aload_n hx hb dJ5_append_3fe6f_24 rfl (lv_at hl 0 rfl) ?_
      refine va_get (D := (dC, dI)) (ci := 1) (v := .ref bv) (C := RJ4) (T := TJ4) (N := 4) hx hb hts (by decide +kernel) hown hK hP 1 rfl rfl 0 (by decide) (hts (.fieldLink RJ5 15 "java/lang/AbstractStringBuilder" "value" "[B") (by decide +kernel)) (fun _ h9 => h9) rfl dJ5_append_3fe6f_25 ?_
      refine lv_aload_n hx hb dJ5_append_3fe6f_28 rfl (lv_at hl 0 rfl) ?_
      refine lv_dup hx hb dJ5_append_3fe6f_29 rfl ?_
      refine va_get (D := (dC, dI)) (ci := 1) (v := .int 0) (C := RJ4) (T := TJ4) (N := 4) hx hb hts (by decide +kernel) hown hK hP 1 rfl rfl 3 (by decide) (hts (.fieldLink RJ5 79 "java/lang/AbstractStringBuilder" "count" "I") (by decide +kernel)) (fun _ h9 => h9) rfl dJ5_append_3fe6f_30 ?_
      refine lv_dup_x1 hx hb dJ5_append_3fe6f_33 rfl rfl ?_
      refine lv_iconst (v := 1) hx hb dJ5_append_3fe6f_34 (by decide) ?_
      refine lv_iadd hx hb dJ5_append_3fe6f_35 ?_
      refine lv_topi (fun k_7 ek_7 => ?_)
      obtain rfl : k_7 = 1 := ek_7.trans (by decide)
      refine va_put (D := (dC, dI)) (ci := 1) (v := .int 1) (ty := .int) (C := RJ4) (T := TJ4) (N := 4) hx hb hts (by decide +kernel) tyJ4 tyJ4_ok nmJ4 hown hK hP hD hS 1 rfl rfl 3 (by decide) (hts (.fieldLink RJ5 79 "java/lang/AbstractStringBuilder" "count" "I") (by decide +kernel)) (fun _ h9 => h9) rfl (by decide +kernel) rfl rfl (Nat.le_of_ble_eq_true rfl) dJ5_append_3fe6f_36 (fun H locs hP hD hS => ?_)
      have hP : va_P (dC, dI) vwCl [(bv, .inl (cV, 16, .inl fV)), (sb, .inr (1, [.ref bv, .int 0, ml, .int 1]))] H := hP
      have hD : va_D A [(bv, .inl (cV, 16, .inl fV)), (sb, .inr (1, [.ref bv, .int 0, ml, .int 1]))] := hD
      refine lv_iload_n hx hb dJ5_append_3fe6f_39 rfl (lv_at hl 1 rfl) ?_
      refine lv_i2b hx hb dJ5_append_3fe6f_40 rfl ?_
      refine va_bast hx hb hK hP hD hS 0 0 rfl rfl (vp_in_iff.mpr ⟨by decide, by decide⟩) dJ5_append_3fe6f_41 (fun H locs hP hD hS => ?_)
      have hP : va_P (dC, dI) vwCl [(bv, .inl (cV, 16, .inl (upd fV 0 (vp_nar .byte (Int8.toInt32 (Int32.toInt8 p0)))))), (sb, .inr (1, [.ref bv, .int 0, ml, .int 1]))] H := hP
      have hD : va_D A [(bv, .inl (cV, 16, .inl (upd fV 0 (vp_nar .byte (Int8.toInt32 (Int32.toInt8 p0)))))), (sb, .inr (1, [.ref bv, .int 0, ml, .int 1]))] := hD
      have f_8 : sb_Fit (upd fV 0 (vp_nar .byte (Int8.toInt32 (Int32.toInt8 p0)))) := sb_fitU hF (ow_fitb (Int8.toInt32 (Int32.toInt8 p0)))
      refine lv_goto (tgt := 75) hx hb dJ5_append_3fe6f_42 (by decide) ?_
      refine lv_aload_n hx hb dJ5_append_3fe6f_75 rfl (lv_at hl 0 rfl) ?_
      refine W.widen (k := 0) (n := 0) (Nat.le_of_ble_eq_true rfl) (Nat.le_of_ble_eq_true rfl) ?_
      have hP9 := hP.sub (ws' := [(sb, .inr (1, [.ref bv, .int 0, ml, .int 1])), (bv, .inl (cV, 16, .inl (upd fV 0 (vp_nar .byte (Int8.toInt32 (Int32.toInt8 p0))))))]) [1, 0] rfl
      have hD9 := hD.sub (ws' := [(sb, .inr (1, [.ref bv, .int 0, ml, .int 1])), (bv, .inl (cV, 16, .inl (upd fV 0 (vp_nar .byte (Int8.toInt32 (Int32.toInt8 p0))))))]) [1, 0] (by decide) rfl
      have hK9 := hK.sub (tys' := [(cV, .byte)]) [0] rfl
      exact W.aret (v := .ref sb) hx hb hr (Or.inl ⟨_, rfl⟩) (Or.inr ⟨_, rfl⟩) (fun t ht hW => ⟨⟨(), sb, rfl, trivial, ⟨rfl, ⟨((upd fV 0 (vp_nar .byte (Int8.toInt32 (Int32.toInt8 p0))))), ⟨by rw [ht]; exact hP9, va_K.moved hW.alike hK9, hD9⟩, (by first | assumption | exact sb_fit0)⟩⟩⟩, hS.F ht⟩) hS.2.2 dJ5_append_3fe6f_76

set_option maxHeartbeats 4000000 in
set_option maxRecDepth 100000 in
theorem c_J4_append_cf468 (l : Launch) (em : Nat → Nat) (dC : Nat → ClassId) (dI : Nat → Nat → Nat) (sb : Nat) (ml : Value) (bv : Nat) (cV : ClassId) (fV : Nat → Int32) (p0 : Int32) (hF : sb_Fit fV) (hb9 : 97 ≤ p0.toInt ∧ p0.toInt ≤ 122) (sz : Nat) : Met l yJ4_append_cf468 wsJ4_append_cf468 ({ frames := 2, cells := 0, slots := 0, locals := 43 }) (va_Pc [.ref sb, .int p0] (Pw em dC dI sz [(sb, .inr (1, [.ref bv, .int 0, ml, .int 0])), (bv, .inl (cV, 16, .inl fV))] [(cV, .byte)])) (va_Qr (fun _ : Unit => True) (fun _ ra t => ra = sb ∧ (∃ (gV : Nat → Int32), Qw dC dI (va_A [(sb, .inr (1, [.ref bv, .int 0, ml, .int 0])), (bv, .inl (cV, 16, .inl fV))] sz) [(sb, .inr (1, [.ref bv, .int 0, ml, .int 1])), (bv, .inl (cV, 16, .inl gV))] [(cV, .byte)] t ∧ sb_Fit gV)) (va_A [(sb, .inr (1, [.ref bv, .int 0, ml, .int 0])), (bv, .inl (cV, 16, .inl fV))] sz)) 0 0 (va_A [(sb, .inr (1, [.ref bv, .int 0, ml, .int 0])), (bv, .inl (cV, 16, .inl fV))] sz) := by
  refine Met.ofW (cc := cJ4_append_cf468) (maxL := 2) (ret := (some (.object "java/lang/StringBuilder"))) (by decide) rfl ?_
  intro p e s m args below meth c s₁ B hml hv
  obtain ⟨rfl, hsz, hP, hK, hD0, hamb⟩ := hv
  have hx := B.exec
  have hb := B.bytes
  have hr := B.returns
  have hts := atoms_spec (ws := wsJ4_append_cf468) B.pre
  have hown : s.vm.findClass RJ4 = some m.cls := findClass_of_methodNamed B.named
  have hlocks := B.notSynchronized
  subst hsz
  have hD := hD0.self (sz := s.heap.size)
  generalize hAe : va_A [(sb, .inr (1, [.ref bv, .int 0, ml, .int 0])), (bv, .inl (cV, 16, .inl fV))] s.heap.size = A at hD hamb ⊢
  have hA : ∀ q : Nat, s.heap.size ≤ q → A q := fun q h => by rw [← hAe]; exact Or.inr h
  have hS : va_S A s.heap s.heap [] := va_S.rf
  have hP : va_P (dC, dI) vwCl [(sb, .inr (1, [.ref bv, .int 0, ml, .int 0])), (bv, .inl (cV, 16, .inl fV))] s.heap := hP
  have hl := lv_entry ([.ref sb, .int p0]) (n := 2) (Nat.le_of_ble_eq_true rfl)
  rw [lg_entry_eq]
  generalize (lg_sl ([.ref sb, .int p0]) ++ List.replicate (2 - (lg_sl ([.ref sb, .int p0])).length) Slot.unset).toArray = ls at hl ⊢
  have hl : lv_has ls 2 [(0, .ref sb), (1, .int p0)] := hl
  refine lv_aload_n hx hb dJ4_append_cf468_0 rfl (lv_at hl 0 rfl) ?_
  refine lv_iload_n hx hb dJ4_append_cf468_1 rfl (lv_at hl 1 rfl) ?_
  have hPc := hP.sub (ws' := [(sb, .inr (1, [.ref bv, .int 0, ml, .int 0])), (bv, .inl (cV, 16, .inl fV))]) [0, 1] rfl
  have hDc := hD.sub (ws' := [(sb, .inr (1, [.ref bv, .int 0, ml, .int 0])), (bv, .inl (cV, 16, .inl fV))]) [0, 1] (by decide) rfl
  have hKc := hK.sub (tys' := [(cV, .byte)]) [0] rfl
  have hFc := va_free (wc := [(sb, .inr (1, [.ref bv, .int 0, ml, .int 0])), (bv, .inl (cV, 16, .inl fV))]) hD hS hA [0, 1] rfl
  refine va_callr (va_runSU (hKc.1 1 _ rfl).2 (As := [.int p0]) (rest := []) ⟨hx, hb, hml, hown, hts⟩ (c_J5_append_3fe6f l em dC dI sb ml bv cV fV p0 hF hb9 s.heap.size) (va_cwSU 1 hts gJ4_append_cf468_J5_append_3fe6f_s50 rfl rfl rfl (by decide +kernel) ⟨Nat.le_of_ble_eq_true rfl, Nat.le_of_ble_eq_true rfl⟩) ⟨Pw.blind _ _ _ _ _ _ _, va_recv hKc hPc (ci := 1) (q0 := 0) rfl rfl, fun U hU hW => ⟨rfl, Pw.go hPc hKc hDc hamb hS hFc hU hW⟩⟩ rfl rfl hl.1 rfl (lv_room (Nat.le_of_ble_eq_true rfl)) dJ4_append_cf468_2 ⟨Nat.le_of_ble_eq_true rfl, Nat.le_of_ble_eq_true rfl⟩) hS (fun q _ h => hFc q h) hFc (fun u ra t H1 locs1 ht hvm hw hB hz1 hk1 hS => ?_)
  obtain ⟨hra, hB⟩ := hB
  rw [hra]
  obtain ⟨gVx_2, ⟨hP1, hK1, hD1⟩, f_3⟩ := hB
  rw [ht] at hP1
  have hK1 := va_K.moved hvm.symm hK1
  obtain ⟨hP, hD⟩ := va_join (wr := []) (w1 := [(sb, .inr (1, [.ref bv, .int 0, ml, .int 1])), (bv, .inl (cV, 16, .inl gVx_2))]) hP hD [0, 1] [] rfl rfl (by decide) (by decide) hk1 hFc hP1 hD1
  have hK := (hK.sub (tys' := []) [] rfl).app hK1
  generalize H1 = H at hP hS ⊢
  have hP : va_P (dC, dI) vwCl [(sb, .inr (1, [.ref bv, .int 0, ml, .int 1])), (bv, .inl (cV, 16, .inl gVx_2))] H := hP
  have hD : va_D A [(sb, .inr (1, [.ref bv, .int 0, ml, .int 1])), (bv, .inl (cV, 16, .inl gVx_2))] := hD
  have hK : va_K (dC, dI) vwCl [(cV, .byte)] s := hK
  refine W.widen (k := 0) (n := 0) (Nat.le_of_ble_eq_true rfl) (Nat.le_of_ble_eq_true rfl) ?_
  refine lv_pop hx hb dJ4_append_cf468_5 rfl ?_
  refine lv_aload_n hx hb dJ4_append_cf468_6 rfl (lv_at hl 0 rfl) ?_
  refine W.widen (k := 0) (n := 0) (Nat.le_of_ble_eq_true rfl) (Nat.le_of_ble_eq_true rfl) ?_
  have hP9 := hP.sub (ws' := [(sb, .inr (1, [.ref bv, .int 0, ml, .int 1])), (bv, .inl (cV, 16, .inl gVx_2))]) [0, 1] rfl
  have hD9 := hD.sub (ws' := [(sb, .inr (1, [.ref bv, .int 0, ml, .int 1])), (bv, .inl (cV, 16, .inl gVx_2))]) [0, 1] (by decide) rfl
  have hK9 := hK.sub (tys' := [(cV, .byte)]) [0] rfl
  exact W.aret (v := .ref sb) hx hb hr (Or.inl ⟨_, rfl⟩) (Or.inr ⟨_, rfl⟩) (fun t ht hW => ⟨⟨(), sb, rfl, trivial, ⟨rfl, ⟨(gVx_2), ⟨by rw [ht]; exact hP9, va_K.moved hW.alike hK9, hD9⟩, (by first | assumption | exact sb_fit0)⟩⟩⟩, hS.F ht⟩) hS.2.2 dJ4_append_cf468_7

set_option maxHeartbeats 4000000 in
set_option maxRecDepth 100000 in
theorem c_J5_getValue_6d5f1 (l : Launch) (em : Nat → Nat) (dC : Nat → ClassId) (dI : Nat → Nat → Nat) (sb : Nat) (ml : Value) (bv : Nat) (sz : Nat) : Met l yJ5_getValue_6d5f1 wsJ5_getValue_6d5f1 ({ frames := 0, cells := 0, slots := 0, locals := 0 }) (va_Pc [.ref sb] (Pw em dC dI sz [(sb, .inr (1, [.ref bv, .int 0, ml, .int 1]))] [])) (va_Qr (fun _ : Unit => True) (fun _ ra t => ra = bv ∧ (Qw dC dI (va_A [(sb, .inr (1, [.ref bv, .int 0, ml, .int 1]))] sz) [(sb, .inr (1, [.ref bv, .int 0, ml, .int 1]))] [] t)) (va_A [(sb, .inr (1, [.ref bv, .int 0, ml, .int 1]))] sz)) 0 0 (va_A [(sb, .inr (1, [.ref bv, .int 0, ml, .int 1]))] sz) := by
  refine Met.ofW (cc := cJ5_getValue_6d5f1) (maxL := 1) (ret := (some (.array .byte))) (by decide) rfl ?_
  intro p e s m args below meth c s₁ B hml hv
  obtain ⟨rfl, hsz, hP, hK, hD0, hamb⟩ := hv
  have hx := B.exec
  have hb := B.bytes
  have hr := B.returns
  have hts := atoms_spec (ws := wsJ5_getValue_6d5f1) B.pre
  have hown : s.vm.findClass RJ5 = some m.cls := findClass_of_methodNamed B.named
  have hlocks := B.notSynchronized
  subst hsz
  have hD := hD0.self (sz := s.heap.size)
  generalize hAe : va_A [(sb, .inr (1, [.ref bv, .int 0, ml, .int 1]))] s.heap.size = A at hD hamb ⊢
  have hA : ∀ q : Nat, s.heap.size ≤ q → A q := fun q h => by rw [← hAe]; exact Or.inr h
  have hS : va_S A s.heap s.heap [] := va_S.rf
  have hP : va_P (dC, dI) vwCl [(sb, .inr (1, [.ref bv, .int 0, ml, .int 1]))] s.heap := hP
  have hl := lv_entry ([.ref sb]) (n := 1) (Nat.le_of_ble_eq_true rfl)
  rw [lg_entry_eq]
  generalize (lg_sl ([.ref sb]) ++ List.replicate (1 - (lg_sl ([.ref sb])).length) Slot.unset).toArray = ls at hl ⊢
  have hl : lv_has ls 1 [(0, .ref sb)] := hl
  refine lv_aload_n hx hb dJ5_getValue_6d5f1_0 rfl (lv_at hl 0 rfl) ?_
  refine va_get (D := (dC, dI)) (ci := 1) (v := .ref bv) (C := RJ4) (T := TJ4) (N := 4) hx hb hts (by decide +kernel) hown hK hP 0 rfl rfl 0 (by decide) (hts (.fieldLink RJ5 15 "java/lang/AbstractStringBuilder" "value" "[B") (by decide +kernel)) (fun _ h9 => h9) rfl dJ5_getValue_6d5f1_1 ?_
  refine W.widen (k := 0) (n := 0) (Nat.le_of_ble_eq_true rfl) (Nat.le_of_ble_eq_true rfl) ?_
  have hP9 := hP.sub (ws' := [(sb, .inr (1, [.ref bv, .int 0, ml, .int 1]))]) [0] rfl
  have hD9 := hD.sub (ws' := [(sb, .inr (1, [.ref bv, .int 0, ml, .int 1]))]) [0] (by decide) rfl
  have hK9 := hK.sub (tys' := []) [] rfl
  exact W.aret (v := .ref bv) hx hb hr (Or.inr ⟨_, rfl⟩) (Or.inr ⟨_, rfl⟩) (fun t ht hW => ⟨⟨(), bv, rfl, trivial, ⟨rfl, ⟨by rw [ht]; exact hP9, va_K.moved hW.alike hK9, hD9⟩⟩⟩, hS.F ht⟩) hS.2.2 dJ5_getValue_6d5f1_4

set_option maxHeartbeats 4000000 in
set_option maxRecDepth 100000 in
theorem c_J5_length_8abf5 (l : Launch) (em : Nat → Nat) (dC : Nat → ClassId) (dI : Nat → Nat → Nat) (sb : Nat) (ml : Value) (bvv : Value) (sz : Nat) : Met l yJ5_length_8abf5 wsJ5_length_8abf5 ({ frames := 0, cells := 0, slots := 0, locals := 0 }) (va_Pc [.ref sb] (Pw em dC dI sz [(sb, .inr (1, [bvv, .int 0, ml, .int 1]))] [])) (va_Qi (fun (r : Int32) (_ : Unit) => r = 1) (fun _ t => Qw dC dI (va_A [(sb, .inr (1, [bvv, .int 0, ml, .int 1]))] sz) [(sb, .inr (1, [bvv, .int 0, ml, .int 1]))] [] t) (va_A [(sb, .inr (1, [bvv, .int 0, ml, .int 1]))] sz)) 0 0 (va_A [(sb, .inr (1, [bvv, .int 0, ml, .int 1]))] sz) := by
  refine Met.ofW (cc := cJ5_length_8abf5) (maxL := 1) (ret := (some .int)) (by decide) rfl ?_
  intro p e s m args below meth c s₁ B hml hv
  obtain ⟨rfl, hsz, hP, hK, hD0, hamb⟩ := hv
  have hx := B.exec
  have hb := B.bytes
  have hr := B.returns
  have hts := atoms_spec (ws := wsJ5_length_8abf5) B.pre
  have hown : s.vm.findClass RJ5 = some m.cls := findClass_of_methodNamed B.named
  have hlocks := B.notSynchronized
  subst hsz
  have hD := hD0.self (sz := s.heap.size)
  generalize hAe : va_A [(sb, .inr (1, [bvv, .int 0, ml, .int 1]))] s.heap.size = A at hD hamb ⊢
  have hA : ∀ q : Nat, s.heap.size ≤ q → A q := fun q h => by rw [← hAe]; exact Or.inr h
  have hS : va_S A s.heap s.heap [] := va_S.rf
  have hP : va_P (dC, dI) vwCl [(sb, .inr (1, [bvv, .int 0, ml, .int 1]))] s.heap := hP
  have hl := lv_entry ([.ref sb]) (n := 1) (Nat.le_of_ble_eq_true rfl)
  rw [lg_entry_eq]
  generalize (lg_sl ([.ref sb]) ++ List.replicate (1 - (lg_sl ([.ref sb])).length) Slot.unset).toArray = ls at hl ⊢
  have hl : lv_has ls 1 [(0, .ref sb)] := hl
  refine lv_aload_n hx hb dJ5_length_8abf5_0 rfl (lv_at hl 0 rfl) ?_
  refine va_get (D := (dC, dI)) (ci := 1) (v := .int 1) (C := RJ4) (T := TJ4) (N := 4) hx hb hts (by decide +kernel) hown hK hP 0 rfl rfl 3 (by decide) (hts (.fieldLink RJ5 79 "java/lang/AbstractStringBuilder" "count" "I") (by decide +kernel)) (fun _ h9 => h9) rfl dJ5_length_8abf5_1 ?_
  refine W.widen (k := 0) (n := 0) (Nat.le_of_ble_eq_true rfl) (Nat.le_of_ble_eq_true rfl) ?_
  have hP9 := hP.sub (ws' := [(sb, .inr (1, [bvv, .int 0, ml, .int 1]))]) [0] rfl
  have hD9 := hD.sub (ws' := [(sb, .inr (1, [bvv, .int 0, ml, .int 1]))]) [0] (by decide) rfl
  have hK9 := hK.sub (tys' := []) [] rfl
  exact W.iret (v := 1) hx hb hr (fun t ht hW => ⟨⟨1, (), rfl, rfl, ⟨by rw [ht]; exact hP9, va_K.moved hW.alike hK9, hD9⟩⟩, hS.F ht⟩) hS.2.2 dJ5_length_8abf5_4

set_option maxHeartbeats 4000000 in
set_option maxRecDepth 100000 in
theorem c_J4_length_8abf5 (l : Launch) (em : Nat → Nat) (dC : Nat → ClassId) (dI : Nat → Nat → Nat) (sb : Nat) (ml : Value) (bvv : Value) (sz : Nat) : Met l yJ4_length_8abf5 wsJ4_length_8abf5 ({ frames := 1, cells := 0, slots := 0, locals := 20 }) (va_Pc [.ref sb] (Pw em dC dI sz [(sb, .inr (1, [bvv, .int 0, ml, .int 1]))] [])) (va_Qi (fun (r : Int32) (_ : Unit) => r = 1) (fun _ t => Qw dC dI (va_A [(sb, .inr (1, [bvv, .int 0, ml, .int 1]))] sz) [(sb, .inr (1, [bvv, .int 0, ml, .int 1]))] [] t) (va_A [(sb, .inr (1, [bvv, .int 0, ml, .int 1]))] sz)) 0 0 (va_A [(sb, .inr (1, [bvv, .int 0, ml, .int 1]))] sz) := by
  refine Met.ofW (cc := cJ4_length_8abf5) (maxL := 1) (ret := (some .int)) (by decide) rfl ?_
  intro p e s m args below meth c s₁ B hml hv
  obtain ⟨rfl, hsz, hP, hK, hD0, hamb⟩ := hv
  have hx := B.exec
  have hb := B.bytes
  have hr := B.returns
  have hts := atoms_spec (ws := wsJ4_length_8abf5) B.pre
  have hown : s.vm.findClass RJ4 = some m.cls := findClass_of_methodNamed B.named
  have hlocks := B.notSynchronized
  subst hsz
  have hD := hD0.self (sz := s.heap.size)
  generalize hAe : va_A [(sb, .inr (1, [bvv, .int 0, ml, .int 1]))] s.heap.size = A at hD hamb ⊢
  have hA : ∀ q : Nat, s.heap.size ≤ q → A q := fun q h => by rw [← hAe]; exact Or.inr h
  have hS : va_S A s.heap s.heap [] := va_S.rf
  have hP : va_P (dC, dI) vwCl [(sb, .inr (1, [bvv, .int 0, ml, .int 1]))] s.heap := hP
  have hl := lv_entry ([.ref sb]) (n := 1) (Nat.le_of_ble_eq_true rfl)
  rw [lg_entry_eq]
  generalize (lg_sl ([.ref sb]) ++ List.replicate (1 - (lg_sl ([.ref sb])).length) Slot.unset).toArray = ls at hl ⊢
  have hl : lv_has ls 1 [(0, .ref sb)] := hl
  refine lv_aload_n hx hb dJ4_length_8abf5_0 rfl (lv_at hl 0 rfl) ?_
  have hPc := hP.sub (ws' := [(sb, .inr (1, [bvv, .int 0, ml, .int 1]))]) [0] rfl
  have hDc := hD.sub (ws' := [(sb, .inr (1, [bvv, .int 0, ml, .int 1]))]) [0] (by decide) rfl
  have hKc := hK.sub (tys' := []) [] rfl
  have hFc := va_free (wc := [(sb, .inr (1, [bvv, .int 0, ml, .int 1]))]) hD hS hA [0] rfl
  refine va_calli (va_runSU (hKc.1 1 _ rfl).2 (As := []) (rest := []) ⟨hx, hb, hml, hown, hts⟩ (c_J5_length_8abf5 l em dC dI sb ml bvv s.heap.size) (va_cwSU 0 hts gJ4_length_8abf5_J5_length_8abf5_s343 rfl rfl rfl (by decide +kernel) ⟨Nat.le_of_ble_eq_true rfl, Nat.le_of_ble_eq_true rfl⟩) ⟨Pw.blind _ _ _ _ _ _ _, va_recv hKc hPc (ci := 1) (q0 := 0) rfl rfl, fun U hU hW => ⟨rfl, Pw.go hPc hKc hDc hamb hS hFc hU hW⟩⟩ rfl rfl hl.1 rfl (lv_room (Nat.le_of_ble_eq_true rfl)) dJ4_length_8abf5_1 ⟨Nat.le_of_ble_eq_true rfl, Nat.le_of_ble_eq_true rfl⟩) hS (fun q _ h => hFc q h) hFc (fun r_1 u t H1 locs1 ht hvm hw hB hz1 hk1 hS => ?_)
  obtain ⟨hP1, hK1, hD1⟩ := hB
  rw [ht] at hP1
  have hK1 := va_K.moved hvm.symm hK1
  obtain ⟨hP, hD⟩ := va_join (wr := []) (w1 := [(sb, .inr (1, [bvv, .int 0, ml, .int 1]))]) hP hD [0] [] rfl rfl (by decide) (by decide) hk1 hFc hP1 hD1
  have hK := (hK.sub (tys' := []) [] rfl).app hK1
  generalize H1 = H at hP hS ⊢
  have hP : va_P (dC, dI) vwCl [(sb, .inr (1, [bvv, .int 0, ml, .int 1]))] H := hP
  have hD : va_D A [(sb, .inr (1, [bvv, .int 0, ml, .int 1]))] := hD
  have hK : va_K (dC, dI) vwCl [] s := hK
  refine W.widen (k := 0) (n := 0) (Nat.le_of_ble_eq_true rfl) (Nat.le_of_ble_eq_true rfl) ?_
  have hw : r_1 = 1 := hw
  rw [hw]
  refine W.widen (k := 0) (n := 0) (Nat.le_of_ble_eq_true rfl) (Nat.le_of_ble_eq_true rfl) ?_
  have hP9 := hP.sub (ws' := [(sb, .inr (1, [bvv, .int 0, ml, .int 1]))]) [0] rfl
  have hD9 := hD.sub (ws' := [(sb, .inr (1, [bvv, .int 0, ml, .int 1]))]) [0] (by decide) rfl
  have hK9 := hK.sub (tys' := []) [] rfl
  exact W.iret (v := 1) hx hb hr (fun t ht hW => ⟨⟨1, (), rfl, rfl, ⟨by rw [ht]; exact hP9, va_K.moved hW.alike hK9, hD9⟩⟩, hS.F ht⟩) hS.2.2 dJ4_length_8abf5_4

set_option maxHeartbeats 4000000 in
set_option maxRecDepth 100000 in
theorem c_J7_checkLength_df160 (l : Launch) (em : Nat → Nat) (dC : Nat → ClassId) (dI : Nat → Nat → Nat) (sz : Nat) : Met l yJ7_checkLength_df160 wsJ7_checkLength_df160 ({ frames := 0, cells := 0, slots := 0, locals := 0 }) (va_Pc [.int 0, .int 1] (Pw em dC dI sz [] [])) (va_Qv (fun _ : Unit => True) (fun _ t => True) (va_A [] sz)) 0 0 (va_A [] sz) := by
  refine Met.ofW (cc := cJ7_checkLength_df160) (maxL := 2) (ret := none) (by decide) rfl ?_
  intro p e s m args below meth c s₁ B hml hv
  obtain ⟨rfl, hsz, hP, hK, hD0, hamb⟩ := hv
  have hx := B.exec
  have hb := B.bytes
  have hr := B.returns
  have hts := atoms_spec (ws := wsJ7_checkLength_df160) B.pre
  have hown : s.vm.findClass RJ7 = some m.cls := findClass_of_methodNamed B.named
  have hlocks := B.notSynchronized
  subst hsz
  have hD := hD0.self (sz := s.heap.size)
  generalize hAe : va_A [] s.heap.size = A at hD hamb ⊢
  have hA : ∀ q : Nat, s.heap.size ≤ q → A q := fun q h => by rw [← hAe]; exact Or.inr h
  have hS : va_S A s.heap s.heap [] := va_S.rf
  have hP : va_P (dC, dI) vwCl [] s.heap := hP
  have hl := lv_entry ([.int 0, .int 1]) (n := 2) (Nat.le_of_ble_eq_true rfl)
  rw [lg_entry_eq]
  generalize (lg_sl ([.int 0, .int 1]) ++ List.replicate (2 - (lg_sl ([.int 0, .int 1])).length) Slot.unset).toArray = ls at hl ⊢
  have hl : lv_has ls 2 [(0, .int 0), (1, .int 1)] := hl
  refine lv_iload_n hx hb dJ7_checkLength_df160_0 rfl (lv_at hl 1 rfl) ?_
  refine lv_iload_n hx hb dJ7_checkLength_df160_1 rfl (lv_at hl 0 rfl) ?_
  refine lv_icmp_ge (tgt := 37) hx hb dJ7_checkLength_df160_2 (by decide) (fun c_1 => ?_) (fun c_1 => ?_)
  · refine W.widen (k := 0) (n := 0) (Nat.le_of_ble_eq_true rfl) (Nat.le_of_ble_eq_true rfl) ?_
    exact W.vret hx hb hr (fun t ht hW => ⟨⟨(), rfl, trivial, trivial⟩, hS.F ht⟩) hS.2.2 dJ7_checkLength_df160_37
  · exact absurd (by decide) c_1

set_option maxHeartbeats 4000000 in
set_option maxRecDepth 100000 in
theorem c_J7_copyOfRangeByte_39247 (l : Launch) (em : Nat → Nat) (dC : Nat → ClassId) (dI : Nat → Nat → Nat) (bv : Nat) (cV : ClassId) (fV : Nat → Int32) (hF : sb_Fit fV) (sz : Nat) : Met l yJ7_copyOfRangeByte_39247 wsJ7_copyOfRangeByte_39247 ({ frames := 1, cells := 1, slots := 1, locals := 40 }) (va_Pc [.ref bv, .int 0, .int 1] (Pw em dC dI sz [(bv, .inl (cV, 16, .inl fV))] [(cV, .byte)])) (va_Qr (fun _ : Unit => True) (fun _ ra t => ∃ (cNb : ClassId) (fN : Nat → Int32), Qw dC dI (va_A [(bv, .inl (cV, 16, .inl fV))] sz) [(ra, .inl (cNb, 1, .inl fN))] [(cNb, .byte)] t) (va_A [(bv, .inl (cV, 16, .inl fV))] sz)) 1 1 (va_A [(bv, .inl (cV, 16, .inl fV))] sz) := by
  refine Met.ofW (cc := cJ7_copyOfRangeByte_39247) (maxL := 5) (ret := (some (.array .byte))) (by decide) rfl ?_
  intro p e s m args below meth c s₁ B hml hv
  obtain ⟨rfl, hsz, hP, hK, hD0, hamb⟩ := hv
  have hx := B.exec
  have hb := B.bytes
  have hr := B.returns
  have hts := atoms_spec (ws := wsJ7_copyOfRangeByte_39247) B.pre
  have hown : s.vm.findClass RJ7 = some m.cls := findClass_of_methodNamed B.named
  have hlocks := B.notSynchronized
  subst hsz
  have hD := hD0.self (sz := s.heap.size)
  generalize hAe : va_A [(bv, .inl (cV, 16, .inl fV))] s.heap.size = A at hD hamb ⊢
  have hA : ∀ q : Nat, s.heap.size ≤ q → A q := fun q h => by rw [← hAe]; exact Or.inr h
  have hS : va_S A s.heap s.heap [] := va_S.rf
  have hP : va_P (dC, dI) vwCl [(bv, .inl (cV, 16, .inl fV))] s.heap := hP
  have hl := lv_entry ([.ref bv, .int 0, .int 1]) (n := 5) (Nat.le_of_ble_eq_true rfl)
  rw [lg_entry_eq]
  generalize (lg_sl ([.ref bv, .int 0, .int 1]) ++ List.replicate (5 - (lg_sl ([.ref bv, .int 0, .int 1])).length) Slot.unset).toArray = ls at hl ⊢
  have hl : lv_has ls 5 [(0, .ref bv), (1, .int 0), (2, .int 1)] := hl
  refine lv_iload_n hx hb dJ7_copyOfRangeByte_39247_0 rfl (lv_at hl 1 rfl) ?_
  refine lv_iload_n hx hb dJ7_copyOfRangeByte_39247_1 rfl (lv_at hl 2 rfl) ?_
  have hPc := hP.sub (ws' := []) [] rfl
  have hDc := hD.sub (ws' := []) [] (by decide) rfl
  have hKc := hK.sub (tys' := []) [] rfl
  have hFc := va_free (wc := []) hD hS hA [] rfl
  refine va_callv (va_runS (As := [.int 0, .int 1]) (rest := []) ⟨hx, hb, hml, hown, hts⟩ (c_J7_checkLength_df160 l em dC dI s.heap.size) (va_cwS 2 hts gJ7_copyOfRangeByte_39247_J7_checkLength_df160 rfl rfl rfl (by decide +kernel) ⟨Nat.le_of_ble_eq_true rfl, Nat.le_of_ble_eq_true rfl⟩) ⟨Pw.blind _ _ _ _ _ _ _, fun U hU hW => ⟨rfl, Pw.go hPc hKc hDc hamb hS hFc hU hW⟩⟩ rfl rfl hl.1 rfl (lv_room (Nat.le_of_ble_eq_true rfl)) dJ7_copyOfRangeByte_39247_2 ⟨Nat.le_of_ble_eq_true rfl, Nat.le_of_ble_eq_true rfl⟩) hS (fun q _ h => hFc q h) hFc (fun u t H1 locs1 ht hvm hw hB hz1 hk1 hS => ?_)
  obtain ⟨hP, hD⟩ := va_rest (wr := [(bv, .inl (cV, 16, .inl fV))]) hP hD [] [0] rfl rfl (by decide) (by decide) hk1 hFc
  generalize H1 = H at hP hS ⊢
  refine W.widen (k := 0) (n := 0) (Nat.le_of_ble_eq_true rfl) (Nat.le_of_ble_eq_true rfl) ?_
  refine lv_iload_n hx hb dJ7_copyOfRangeByte_39247_5 rfl (lv_at hl 2 rfl) ?_
  refine lv_iload_n hx hb dJ7_copyOfRangeByte_39247_6 rfl (lv_at hl 1 rfl) ?_
  refine lv_isub hx hb dJ7_copyOfRangeByte_39247_7 ?_
  refine lv_topi (fun k_2 ek_2 => ?_)
  obtain rfl : k_2 = 1 := ek_2.trans (by decide)
  refine lv_istore_n (lv' := [(3, .int 1), (0, .ref bv), (1, .int 0), (2, .int 1)]) hx hb dJ7_copyOfRangeByte_39247_8 rfl hl (by decide) rfl (fun ls hl => ?_)
  refine lv_iload_n hx hb dJ7_copyOfRangeByte_39247_9 rfl (lv_at hl 0 rfl) ?_
  refine va_newa (atype := .byte) (ty := .byte) (a0 := (1, .inl (fun _ => 0))) hx hb (hts (.arrayClass .byte) (by decide +kernel)) rfl hK hP hD hS hA (fun _ => rfl) (by decide) rfl (Nat.le_of_ble_eq_true rfl) (Nat.le_of_ble_eq_true rfl) (Nat.le_of_ble_eq_true rfl) dJ7_copyOfRangeByte_39247_10 (fun q_3 cA_4 H hK hP hD hS => ?_)
  have hP : va_P (dC, dI) vwCl [(bv, .inl (cV, 16, .inl fV)), (q_3, .inl (cA_4, 1, .inl (fun _ => 0)))] H := hP
  have hD : va_D A [(bv, .inl (cV, 16, .inl fV)), (q_3, .inl (cA_4, 1, .inl (fun _ => 0)))] := hD
  have hK : va_K (dC, dI) vwCl [(cV, .byte), (cA_4, .byte)] s := hK
  refine W.widen (k := 1) (n := 1) (Nat.le_of_ble_eq_true rfl) (Nat.le_of_ble_eq_true rfl) ?_
  refine lv_astore (lv' := [(4, .ref q_3), (3, .int 1), (0, .ref bv), (1, .int 0), (2, .int 1)]) hx hb dJ7_copyOfRangeByte_39247_12 hl (by decide) rfl (fun ls hl => ?_)
  refine lv_aload_n hx hb dJ7_copyOfRangeByte_39247_14 rfl (lv_at hl 2 rfl) ?_
  refine lv_iload_n hx hb dJ7_copyOfRangeByte_39247_15 rfl (lv_at hl 3 rfl) ?_
  refine lv_aload hx hb dJ7_copyOfRangeByte_39247_16 (lv_at hl 0 rfl) ?_
  refine lv_iconst (v := 0) hx hb dJ7_copyOfRangeByte_39247_18 (by decide) ?_
  refine lv_aload_n hx hb dJ7_copyOfRangeByte_39247_19 rfl (lv_at hl 2 rfl) ?_
  refine va_alen hx hb hK hP 0 0 rfl rfl (v := 16) rfl dJ7_copyOfRangeByte_39247_20 ?_
  refine lv_iload_n hx hb dJ7_copyOfRangeByte_39247_21 rfl (lv_at hl 3 rfl) ?_
  refine lv_isub hx hb dJ7_copyOfRangeByte_39247_22 ?_
  refine lv_topi (fun k_5 ek_5 => ?_)
  obtain rfl : k_5 = 16 := ek_5.trans (by decide)
  refine lv_iload_n hx hb dJ7_copyOfRangeByte_39247_23 rfl (lv_at hl 1 rfl) ?_
  refine va_mmin hx hb (by rw [hml]; exact hl.1.symm) hown (hts (.methodLink RJ7 304 Lib.Math.min.name) (by decide +kernel)) (hts (.static Lib.Math.min.name) (by decide +kernel)) (hts (.initialized "java/lang/Math") (by decide +kernel)) (hts (.code Lib.Math.min.name Lib.Math.min.code 2 (some .int)) (by decide +kernel)) (Nat.le_of_ble_eq_true rfl) (Nat.le_of_ble_eq_true rfl) (Nat.le_of_ble_eq_true rfl) (Nat.le_of_ble_eq_true rfl) dJ7_copyOfRangeByte_39247_24 ?_
  refine lv_topi (fun k_6 ek_6 => ?_)
  obtain rfl : k_6 = 1 := ek_6.trans (by decide)
  refine va_copyi hx hb (by rw [hml]; exact hl.1.symm) hown (hts (.methodLink RJ7 150 arraycopyName) (by decide +kernel)) (hts (.native arraycopyName) (by decide +kernel)) (hts (.static arraycopyName) (by decide +kernel)) (hts (.initialized "java/lang/System") (by decide +kernel)) hK hP hD hS 0 1 0 1 rfl rfl rfl rfl rfl (by decide) (by decide) (by decide) (by decide) (by decide) (fun i _ => hF _) (Nat.le_of_ble_eq_true rfl) (by decide) dJ7_copyOfRangeByte_39247_27 (fun H locs hP hD hS => ?_)
  have hP : va_P (dC, dI) vwCl [(bv, .inl (cV, 16, .inl fV)), (q_3, .inl (cA_4, 1, .inl (va_cpy fV (fun _ => 0) 0 0 1)))] H := hP
  have hD : va_D A [(bv, .inl (cV, 16, .inl fV)), (q_3, .inl (cA_4, 1, .inl (va_cpy fV (fun _ => 0) 0 0 1)))] := hD
  refine lv_aload hx hb dJ7_copyOfRangeByte_39247_30 (lv_at hl 0 rfl) ?_
  refine W.widen (k := 1) (n := 1) (Nat.le_of_ble_eq_true rfl) (Nat.le_of_ble_eq_true rfl) ?_
  have hP9 := hP.sub (ws' := [(q_3, .inl (cA_4, 1, .inl (va_cpy fV (fun _ => 0) 0 0 1)))]) [1] rfl
  have hD9 := hD.sub (ws' := [(q_3, .inl (cA_4, 1, .inl (va_cpy fV (fun _ => 0) 0 0 1)))]) [1] (by decide) rfl
  have hK9 := hK.sub (tys' := [(cA_4, .byte)]) [1] rfl
  exact W.aret (v := .ref q_3) hx hb hr (Or.inr ⟨_, rfl⟩) (Or.inr ⟨_, rfl⟩) (fun t ht hW => ⟨⟨(), q_3, rfl, trivial, ⟨(cA_4), ((va_cpy fV (fun _ => 0) 0 0 1)), by rw [ht]; exact hP9, va_K.moved hW.alike hK9, hD9⟩⟩, hS.F ht⟩) hS.2.2 dJ7_copyOfRangeByte_39247_32

set_option maxHeartbeats 4000000 in
set_option maxRecDepth 100000 in
theorem c_J7_copyOfRange_39247 (l : Launch) (em : Nat → Nat) (dC : Nat → ClassId) (dI : Nat → Nat → Nat) (bv : Nat) (cV : ClassId) (fV : Nat → Int32) (hF : sb_Fit fV) (sz : Nat) : Met l yJ7_copyOfRange_39247 wsJ7_copyOfRange_39247 ({ frames := 2, cells := 1, slots := 1, locals := 64 }) (va_Pc [.ref bv, .int 0, .int 1] (Pw em dC dI sz [(bv, .inl (cV, 16, .inl fV))] [(cV, .byte)])) (va_Qr (fun _ : Unit => True) (fun _ ra t => ∃ (cNb : ClassId) (fN : Nat → Int32), Qw dC dI (va_A [(bv, .inl (cV, 16, .inl fV))] sz) [(ra, .inl (cNb, 1, .inl fN))] [(cNb, .byte)] t) (va_A [(bv, .inl (cV, 16, .inl fV))] sz)) 1 1 (va_A [(bv, .inl (cV, 16, .inl fV))] sz) := by
  refine Met.ofW (cc := cJ7_copyOfRange_39247) (maxL := 3) (ret := (some (.array .byte))) (by decide) rfl ?_
  intro p e s m args below meth c s₁ B hml hv
  obtain ⟨rfl, hsz, hP, hK, hD0, hamb⟩ := hv
  have hx := B.exec
  have hb := B.bytes
  have hr := B.returns
  have hts := atoms_spec (ws := wsJ7_copyOfRange_39247) B.pre
  have hown : s.vm.findClass RJ7 = some m.cls := findClass_of_methodNamed B.named
  have hlocks := B.notSynchronized
  subst hsz
  have hD := hD0.self (sz := s.heap.size)
  generalize hAe : va_A [(bv, .inl (cV, 16, .inl fV))] s.heap.size = A at hD hamb ⊢
  have hA : ∀ q : Nat, s.heap.size ≤ q → A q := fun q h => by rw [← hAe]; exact Or.inr h
  have hS : va_S A s.heap s.heap [] := va_S.rf
  have hP : va_P (dC, dI) vwCl [(bv, .inl (cV, 16, .inl fV))] s.heap := hP
  have hl := lv_entry ([.ref bv, .int 0, .int 1]) (n := 3) (Nat.le_of_ble_eq_true rfl)
  rw [lg_entry_eq]
  generalize (lg_sl ([.ref bv, .int 0, .int 1]) ++ List.replicate (3 - (lg_sl ([.ref bv, .int 0, .int 1])).length) Slot.unset).toArray = ls at hl ⊢
  have hl : lv_has ls 3 [(0, .ref bv), (1, .int 0), (2, .int 1)] := hl
  refine lv_iload_n hx hb dJ7_copyOfRange_39247_0 rfl (lv_at hl 1 rfl) ?_
  refine lv_if_ne (tgt := 10) hx hb dJ7_copyOfRange_39247_1 (by decide) (fun c_1 => ?_) (fun c_1 => ?_)
  · exact absurd (by decide) c_1
  · refine lv_iload_n hx hb dJ7_copyOfRange_39247_4 rfl (lv_at hl 2 rfl) ?_
    refine lv_aload_n hx hb dJ7_copyOfRange_39247_5 rfl (lv_at hl 0 rfl) ?_
    refine va_alen hx hb hK hP 0 0 rfl rfl (v := 16) rfl dJ7_copyOfRange_39247_6 ?_
    refine lv_icmp_eq (tgt := 17) hx hb dJ7_copyOfRange_39247_7 (by decide) (fun c_2 => ?_) (fun c_2 => ?_)
    · exact absurd c_2 (by decide)
    · refine lv_aload_n hx hb dJ7_copyOfRange_39247_10 rfl (lv_at hl 0 rfl) ?_
      refine lv_iload_n hx hb dJ7_copyOfRange_39247_11 rfl (lv_at hl 1 rfl) ?_
      refine lv_iload_n hx hb dJ7_copyOfRange_39247_12 rfl (lv_at hl 2 rfl) ?_
      have hPc := hP.sub (ws' := [(bv, .inl (cV, 16, .inl fV))]) [0] rfl
      have hDc := hD.sub (ws' := [(bv, .inl (cV, 16, .inl fV))]) [0] (by decide) rfl
      have hKc := hK.sub (tys' := [(cV, .byte)]) [0] rfl
      have hFc := va_free (wc := [(bv, .inl (cV, 16, .inl fV))]) hD hS hA [0] rfl
      refine va_callr (va_runS (As := [.ref bv, .int 0, .int 1]) (rest := []) ⟨hx, hb, hml, hown, hts⟩ (c_J7_copyOfRangeByte_39247 l em dC dI bv cV fV hF s.heap.size) (va_cwS 3 hts gJ7_copyOfRange_39247_J7_copyOfRangeByte_39247 rfl rfl rfl (by decide +kernel) ⟨Nat.le_of_ble_eq_true rfl, Nat.le_of_ble_eq_true rfl⟩) ⟨Pw.blind _ _ _ _ _ _ _, fun U hU hW => ⟨rfl, Pw.go hPc hKc hDc hamb hS hFc hU hW⟩⟩ rfl rfl hl.1 rfl (lv_room (Nat.le_of_ble_eq_true rfl)) dJ7_copyOfRange_39247_13 ⟨Nat.le_of_ble_eq_true rfl, Nat.le_of_ble_eq_true rfl⟩) hS (fun q _ h => hFc q h) hFc (fun u ra t H1 locs1 ht hvm hw hB hz1 hk1 hS => ?_)
      generalize ra = nbx_4 at hB ⊢
      obtain ⟨cNbx_5, fNx_6, hP1, hK1, hD1⟩ := hB
      rw [ht] at hP1
      have hK1 := va_K.moved hvm.symm hK1
      obtain ⟨hP, hD⟩ := va_join (wr := []) (w1 := [(nbx_4, .inl (cNbx_5, 1, .inl fNx_6))]) hP hD [0] [] rfl rfl (by decide) (by decide) hk1 hFc hP1 hD1
      have hK := (hK.sub (tys' := [(cV, .byte)]) [0] rfl).app hK1
      generalize H1 = H at hP hS ⊢
      have hP : va_P (dC, dI) vwCl [(nbx_4, .inl (cNbx_5, 1, .inl fNx_6))] H := hP
      have hD : va_D A [(nbx_4, .inl (cNbx_5, 1, .inl fNx_6))] := hD
      have hK : va_K (dC, dI) vwCl [(cV, .byte), (cNbx_5, .byte)] s := hK
      refine W.widen (k := 1) (n := 1) (Nat.le_of_ble_eq_true rfl) (Nat.le_of_ble_eq_true rfl) ?_
      refine W.widen (k := 1) (n := 1) (Nat.le_of_ble_eq_true rfl) (Nat.le_of_ble_eq_true rfl) ?_
      have hP9 := hP.sub (ws' := [(nbx_4, .inl (cNbx_5, 1, .inl fNx_6))]) [0] rfl
      have hD9 := hD.sub (ws' := [(nbx_4, .inl (cNbx_5, 1, .inl fNx_6))]) [0] (by decide) rfl
      have hK9 := hK.sub (tys' := [(cNbx_5, .byte)]) [1] rfl
      exact W.aret (v := .ref nbx_4) hx hb hr (Or.inr ⟨_, rfl⟩) (Or.inr ⟨_, rfl⟩) (fun t ht hW => ⟨⟨(), nbx_4, rfl, trivial, ⟨(cNbx_5), (fNx_6), by rw [ht]; exact hP9, va_K.moved hW.alike hK9, hD9⟩⟩, hS.F ht⟩) hS.2.2 dJ7_copyOfRange_39247_16

set_option maxHeartbeats 4000000 in
set_option maxRecDepth 100000 in
theorem c_J0_init_db425 (l : Launch) (em : Nat → Nat) (dC : Nat → ClassId) (dI : Nat → Nat → Nat) (st : Nat) (sb : Nat) (ml : Value) (bv : Nat) (cV : ClassId) (fV : Nat → Int32) (hF : sb_Fit fV) (sz : Nat) : Met l yJ0_init_db425 wsJ0_init_db425 ({ frames := 3, cells := 1, slots := 1, locals := 86 }) (va_Pc [.ref st, .ref sb, .null] (Pw em dC dI sz [(st, .inr (0, [.null, .int 0, .int 0, .int 0])), (sb, .inr (1, [.ref bv, .int 0, ml, .int 1])), (bv, .inl (cV, 16, .inl fV))] [(cV, .byte)])) (va_Qv (fun _ : Unit => True) (fun _ t => ∃ (nb : Nat) (cNb : ClassId) (fN : Nat → Int32), Qw dC dI (va_A [(st, .inr (0, [.null, .int 0, .int 0, .int 0])), (sb, .inr (1, [.ref bv, .int 0, ml, .int 1])), (bv, .inl (cV, 16, .inl fV))] sz) [(st, .inr (0, [.ref nb, .int 0, .int 0, .int 0])), (nb, .inl (cNb, 1, .inl fN))] [(cNb, .byte)] t) (va_A [(st, .inr (0, [.null, .int 0, .int 0, .int 0])), (sb, .inr (1, [.ref bv, .int 0, ml, .int 1])), (bv, .inl (cV, 16, .inl fV))] sz)) 1 1 (va_A [(st, .inr (0, [.null, .int 0, .int 0, .int 0])), (sb, .inr (1, [.ref bv, .int 0, ml, .int 1])), (bv, .inl (cV, 16, .inl fV))] sz) := by
  refine Met.ofW (cc := cJ0_init_db425) (maxL := 5) (ret := none) (by decide) rfl ?_
  intro p e s m args below meth c s₁ B hml hv
  obtain ⟨rfl, hsz, hP, hK, hD0, hamb⟩ := hv
  have hx := B.exec
  have hb := B.bytes
  have hr := B.returns
  have hts := atoms_spec (ws := wsJ0_init_db425) B.pre
  have hown : s.vm.findClass RJ0 = some m.cls := findClass_of_methodNamed B.named
  have hlocks := B.notSynchronized
  have hin : meth.name = "<init>" := (name_of_methodNamed B.named B.method).1
  subst hsz
  have hD := hD0.self (sz := s.heap.size)
  generalize hAe : va_A [(st, .inr (0, [.null, .int 0, .int 0, .int 0])), (sb, .inr (1, [.ref bv, .int 0, ml, .int 1])), (bv, .inl (cV, 16, .inl fV))] s.heap.size = A at hD hamb ⊢
  have hA : ∀ q : Nat, s.heap.size ≤ q → A q := fun q h => by rw [← hAe]; exact Or.inr h
  have hS : va_S A s.heap s.heap [] := va_S.rf
  have hP : va_P (dC, dI) vwCl [(st, .inr (0, [.null, .int 0, .int 0, .int 0])), (sb, .inr (1, [.ref bv, .int 0, ml, .int 1])), (bv, .inl (cV, 16, .inl fV))] s.heap := hP
  have hl := lv_entry ([.ref st, .ref sb, .null]) (n := 5) (Nat.le_of_ble_eq_true rfl)
  rw [lg_entry_eq]
  generalize (lg_sl ([.ref st, .ref sb, .null]) ++ List.replicate (5 - (lg_sl ([.ref st, .ref sb, .null])).length) Slot.unset).toArray = ls at hl ⊢
  have hl : lv_has ls 5 [(0, .ref st), (1, .ref sb), (2, .null)] := hl
  refine lv_aload_n hx hb dJ0_init_db425_0 rfl (lv_at hl 0 rfl) ?_
  refine W.objInit hx hb hown (hts (.methodLink RJ0 1 objectInit) (by decide +kernel)) (hts (.instanceMethod objectInit) (by decide +kernel)) (hts (.code objectInit ⟨#[0xb1]⟩ 1 none) (by decide +kernel)) rfl (by rw [hml]; exact hl.1) rfl dJ0_init_db425_1 (Nat.le_of_ble_eq_true rfl) (Nat.le_of_ble_eq_true rfl) ?_
  refine W.eq (g2 := F0 m 4 ls []) rfl ?_
  refine lv_aload_n hx hb dJ0_init_db425_4 rfl (lv_at hl 1 rfl) ?_
  have hPc := hP.sub (ws' := [(sb, .inr (1, [.ref bv, .int 0, ml, .int 1]))]) [1] rfl
  have hDc := hD.sub (ws' := [(sb, .inr (1, [.ref bv, .int 0, ml, .int 1]))]) [1] (by decide) rfl
  have hKc := hK.sub (tys' := []) [] rfl
  have hFc := va_free (wc := [(sb, .inr (1, [.ref bv, .int 0, ml, .int 1]))]) hD hS hA [1] rfl
  refine va_callr (va_runU (As := []) (rest := []) ⟨hx, hb, hml, hown, hts⟩ (c_J5_getValue_6d5f1 l em dC dI sb ml bv s.heap.size) (va_cwU 0 hts gJ0_init_db425_J5_getValue_6d5f1_u552J4 rfl rfl rfl rfl (by decide +kernel) ⟨Nat.le_of_ble_eq_true rfl, Nat.le_of_ble_eq_true rfl⟩) ⟨Pw.blind _ _ _ _ _ _ _, va_recv hKc hPc (ci := 1) (q0 := 0) rfl rfl, fun U hU hW => ⟨rfl, Pw.go hPc hKc hDc hamb hS hFc hU hW⟩⟩ rfl rfl hl.1 rfl (lv_room (Nat.le_of_ble_eq_true rfl)) dJ0_init_db425_5 ⟨Nat.le_of_ble_eq_true rfl, Nat.le_of_ble_eq_true rfl⟩) hS (fun q _ h => hFc q h) hFc (fun u ra t H1 locs1 ht hvm hw hB hz1 hk1 hS => ?_)
  obtain ⟨hra, hB⟩ := hB
  rw [hra]
  obtain ⟨hP1, hK1, hD1⟩ := hB
  rw [ht] at hP1
  have hK1 := va_K.moved hvm.symm hK1
  obtain ⟨hP, hD⟩ := va_join (wr := [(st, .inr (0, [.null, .int 0, .int 0, .int 0])), (bv, .inl (cV, 16, .inl fV))]) (w1 := [(sb, .inr (1, [.ref bv, .int 0, ml, .int 1]))]) hP hD [1] [0, 2] rfl rfl (by decide) (by decide) hk1 hFc hP1 hD1
  have hK := (hK.sub (tys' := [(cV, .byte)]) [0] rfl).app hK1
  generalize H1 = H at hP hS ⊢
  have hP : va_P (dC, dI) vwCl [(st, .inr (0, [.null, .int 0, .int 0, .int 0])), (bv, .inl (cV, 16, .inl fV)), (sb, .inr (1, [.ref bv, .int 0, ml, .int 1]))] H := hP
  have hD : va_D A [(st, .inr (0, [.null, .int 0, .int 0, .int 0])), (bv, .inl (cV, 16, .inl fV)), (sb, .inr (1, [.ref bv, .int 0, ml, .int 1]))] := hD
  have hK : va_K (dC, dI) vwCl [(cV, .byte)] s := hK
  refine W.widen (k := 0) (n := 0) (Nat.le_of_ble_eq_true rfl) (Nat.le_of_ble_eq_true rfl) ?_
  refine lv_astore_n (lv' := [(3, .ref bv), (0, .ref st), (1, .ref sb), (2, .null)]) hx hb dJ0_init_db425_8 rfl hl (by decide) rfl (fun ls hl => ?_)
  refine lv_aload_n hx hb dJ0_init_db425_9 rfl (lv_at hl 2 rfl) ?_
  have hPc := hP.sub (ws' := [(sb, .inr (1, [.ref bv, .int 0, ml, .int 1]))]) [2] rfl
  have hDc := hD.sub (ws' := [(sb, .inr (1, [.ref bv, .int 0, ml, .int 1]))]) [2] (by decide) rfl
  have hKc := hK.sub (tys' := []) [] rfl
  have hFc := va_free (wc := [(sb, .inr (1, [.ref bv, .int 0, ml, .int 1]))]) hD hS hA [2] rfl
  refine va_calli (va_runU (As := []) (rest := []) ⟨hx, hb, hml, hown, hts⟩ (c_J4_length_8abf5 l em dC dI sb ml (.ref bv) H.size) (va_cwO 0 hts gJ0_init_db425_J4_length_8abf5_u549J4 rfl rfl rfl (b0 := cJ5_length_8abf5) (m0 := 1) (r0 := (some .int)) (by decide +kernel) (by decide +kernel) ⟨Nat.le_of_ble_eq_true rfl, Nat.le_of_ble_eq_true rfl⟩) ⟨Pw.blind _ _ _ _ _ _ _, va_recv hKc hPc (ci := 1) (q0 := 0) rfl rfl, fun U hU hW => ⟨rfl, Pw.go hPc hKc hDc hamb hS hFc hU hW⟩⟩ rfl rfl hl.1 rfl (lv_room (Nat.le_of_ble_eq_true rfl)) dJ0_init_db425_10 ⟨Nat.le_of_ble_eq_true rfl, Nat.le_of_ble_eq_true rfl⟩) hS (fun q _ h => hFc q h) hFc (fun r_2 u t H1 locs1 ht hvm hw hB hz1 hk1 hS => ?_)
  obtain ⟨hP1, hK1, hD1⟩ := hB
  rw [ht] at hP1
  have hK1 := va_K.moved hvm.symm hK1
  obtain ⟨hP, hD⟩ := va_join (wr := [(st, .inr (0, [.null, .int 0, .int 0, .int 0])), (bv, .inl (cV, 16, .inl fV))]) (w1 := [(sb, .inr (1, [.ref bv, .int 0, ml, .int 1]))]) hP hD [2] [0, 1] rfl rfl (by decide) (by decide) hk1 hFc hP1 hD1
  have hK := (hK.sub (tys' := [(cV, .byte)]) [0] rfl).app hK1
  generalize H1 = H at hP hS ⊢
  have hP : va_P (dC, dI) vwCl [(st, .inr (0, [.null, .int 0, .int 0, .int 0])), (bv, .inl (cV, 16, .inl fV)), (sb, .inr (1, [.ref bv, .int 0, ml, .int 1]))] H := hP
  have hD : va_D A [(st, .inr (0, [.null, .int 0, .int 0, .int 0])), (bv, .inl (cV, 16, .inl fV)), (sb, .inr (1, [.ref bv, .int 0, ml, .int 1]))] := hD
  have hK : va_K (dC, dI) vwCl [(cV, .byte)] s := hK
  refine W.widen (k := 0) (n := 0) (Nat.le_of_ble_eq_true rfl) (Nat.le_of_ble_eq_true rfl) ?_
  have hw : r_2 = 1 := hw
  rw [hw]
  refine lv_istore (lv' := [(4, .int 1), (3, .ref bv), (0, .ref st), (1, .ref sb), (2, .null)]) hx hb dJ0_init_db425_13 hl (by decide) rfl (fun ls hl => ?_)
  refine lv_aload_n hx hb dJ0_init_db425_15 rfl (lv_at hl 3 rfl) ?_
  have hPc := hP.sub (ws' := [(sb, .inr (1, [.ref bv, .int 0, ml, .int 1]))]) [2] rfl
  have hDc := hD.sub (ws' := [(sb, .inr (1, [.ref bv, .int 0, ml, .int 1]))]) [2] (by decide) rfl
  have hKc := hK.sub (tys' := []) [] rfl
  have hFc := va_free (wc := [(sb, .inr (1, [.ref bv, .int 0, ml, .int 1]))]) hD hS hA [2] rfl
  refine va_calli (va_runU (As := []) (rest := []) ⟨hx, hb, hml, hown, hts⟩ (c_J5_isLatin1_aae02 l em dC dI sb ml (.ref bv) (.int 1) H.size) (va_cwU 0 hts gJ0_init_db425_J5_isLatin1_aae02_u1047J4 rfl rfl rfl rfl (by decide +kernel) ⟨Nat.le_of_ble_eq_true rfl, Nat.le_of_ble_eq_true rfl⟩) ⟨Pw.blind _ _ _ _ _ _ _, va_recv hKc hPc (ci := 1) (q0 := 0) rfl rfl, fun U hU hW => ⟨rfl, Pw.go hPc hKc hDc hamb hS hFc hU hW⟩⟩ rfl rfl hl.1 rfl (lv_room (Nat.le_of_ble_eq_true rfl)) dJ0_init_db425_16 ⟨Nat.le_of_ble_eq_true rfl, Nat.le_of_ble_eq_true rfl⟩) hS (fun q _ h => hFc q h) hFc (fun r_3 u t H1 locs1 ht hvm hw hB hz1 hk1 hS => ?_)
  obtain ⟨hP1, hK1, hD1⟩ := hB
  rw [ht] at hP1
  have hK1 := va_K.moved hvm.symm hK1
  obtain ⟨hP, hD⟩ := va_join (wr := [(st, .inr (0, [.null, .int 0, .int 0, .int 0])), (bv, .inl (cV, 16, .inl fV))]) (w1 := [(sb, .inr (1, [.ref bv, .int 0, ml, .int 1]))]) hP hD [2] [0, 1] rfl rfl (by decide) (by decide) hk1 hFc hP1 hD1
  have hK := (hK.sub (tys' := [(cV, .byte)]) [0] rfl).app hK1
  generalize H1 = H at hP hS ⊢
  have hP : va_P (dC, dI) vwCl [(st, .inr (0, [.null, .int 0, .int 0, .int 0])), (bv, .inl (cV, 16, .inl fV)), (sb, .inr (1, [.ref bv, .int 0, ml, .int 1]))] H := hP
  have hD : va_D A [(st, .inr (0, [.null, .int 0, .int 0, .int 0])), (bv, .inl (cV, 16, .inl fV)), (sb, .inr (1, [.ref bv, .int 0, ml, .int 1]))] := hD
  have hK : va_K (dC, dI) vwCl [(cV, .byte)] s := hK
  refine W.widen (k := 0) (n := 0) (Nat.le_of_ble_eq_true rfl) (Nat.le_of_ble_eq_true rfl) ?_
  have hw : r_3 = 1 := hw
  rw [hw]
  refine lv_if_eq (tgt := 41) hx hb dJ0_init_db425_19 (by decide) (fun c_4 => ?_) (fun c_4 => ?_)
  · exact absurd c_4 (by decide)
  · refine lv_aload_n hx hb dJ0_init_db425_22 rfl (lv_at hl 2 rfl) ?_
    refine lv_iconst (v := 0) hx hb dJ0_init_db425_23 (by decide) ?_
    refine va_putF (D := (dC, dI)) (ci := 0) (v := .int 0) (ty := .byte) (C := RJ0) (T := TJ0) (N := 4) hx hb hts (by decide +kernel) tyJ0 tyJ0_ok nmJ0 hown hK hP hD hS 0 rfl rfl 1 (by decide) (hts (.fieldLink RJ0 15 "java/lang/String" "coder" "B") (by decide +kernel)) (fun _ h9 => h9) rfl hin rfl (by decide +kernel) rfl rfl (Nat.le_of_ble_eq_true rfl) dJ0_init_db425_24 (fun H locs hP hD hS => ?_)
    have hP : va_P (dC, dI) vwCl [(st, .inr (0, [.null, .int 0, .int 0, .int 0])), (bv, .inl (cV, 16, .inl fV)), (sb, .inr (1, [.ref bv, .int 0, ml, .int 1]))] H := hP
    have hD : va_D A [(st, .inr (0, [.null, .int 0, .int 0, .int 0])), (bv, .inl (cV, 16, .inl fV)), (sb, .inr (1, [.ref bv, .int 0, ml, .int 1]))] := hD
    refine lv_aload_n hx hb dJ0_init_db425_27 rfl (lv_at hl 2 rfl) ?_
    refine lv_aload_n hx hb dJ0_init_db425_28 rfl (lv_at hl 1 rfl) ?_
    refine lv_iconst (v := 0) hx hb dJ0_init_db425_29 (by decide) ?_
    refine lv_iload hx hb dJ0_init_db425_30 (lv_at hl 0 rfl) ?_
    have hPc := hP.sub (ws' := [(bv, .inl (cV, 16, .inl fV))]) [1] rfl
    have hDc := hD.sub (ws' := [(bv, .inl (cV, 16, .inl fV))]) [1] (by decide) rfl
    have hKc := hK.sub (tys' := [(cV, .byte)]) [0] rfl
    have hFc := va_free (wc := [(bv, .inl (cV, 16, .inl fV))]) hD hS hA [1] rfl
    refine va_callr (va_runS (As := [.ref bv, .int 0, .int 1]) (rest := [.ref st]) ⟨hx, hb, hml, hown, hts⟩ (c_J7_copyOfRange_39247 l em dC dI bv cV fV hF H.size) (va_cwS 3 hts gJ0_init_db425_J7_copyOfRange_39247 rfl rfl rfl (by decide +kernel) ⟨Nat.le_of_ble_eq_true rfl, Nat.le_of_ble_eq_true rfl⟩) ⟨Pw.blind _ _ _ _ _ _ _, fun U hU hW => ⟨rfl, Pw.go hPc hKc hDc hamb hS hFc hU hW⟩⟩ rfl rfl hl.1 rfl (lv_room (Nat.le_of_ble_eq_true rfl)) dJ0_init_db425_32 ⟨Nat.le_of_ble_eq_true rfl, Nat.le_of_ble_eq_true rfl⟩) hS (fun q _ h => hFc q h) hFc (fun u ra t H1 locs1 ht hvm hw hB hz1 hk1 hS => ?_)
    generalize ra = nbx_6 at hB ⊢
    obtain ⟨cNbx_7, fNx_8, hP1, hK1, hD1⟩ := hB
    rw [ht] at hP1
    have hK1 := va_K.moved hvm.symm hK1
    obtain ⟨hP, hD⟩ := va_join (wr := [(st, .inr (0, [.null, .int 0, .int 0, .int 0])), (sb, .inr (1, [.ref bv, .int 0, ml, .int 1]))]) (w1 := [(nbx_6, .inl (cNbx_7, 1, .inl fNx_8))]) hP hD [1] [0, 2] rfl rfl (by decide) (by decide) hk1 hFc hP1 hD1
    have hK := (hK.sub (tys' := [(cV, .byte)]) [0] rfl).app hK1
    generalize H1 = H at hP hS ⊢
    have hP : va_P (dC, dI) vwCl [(st, .inr (0, [.null, .int 0, .int 0, .int 0])), (sb, .inr (1, [.ref bv, .int 0, ml, .int 1])), (nbx_6, .inl (cNbx_7, 1, .inl fNx_8))] H := hP
    have hD : va_D A [(st, .inr (0, [.null, .int 0, .int 0, .int 0])), (sb, .inr (1, [.ref bv, .int 0, ml, .int 1])), (nbx_6, .inl (cNbx_7, 1, .inl fNx_8))] := hD
    have hK : va_K (dC, dI) vwCl [(cV, .byte), (cNbx_7, .byte)] s := hK
    refine W.widen (k := 1) (n := 1) (Nat.le_of_ble_eq_true rfl) (Nat.le_of_ble_eq_true rfl) ?_
    refine va_putF (D := (dC, dI)) (ci := 0) (v := .ref nbx_6) (ty := (.array .byte)) (C := RJ0) (T := TJ0) (N := 4) hx hb hts (by decide +kernel) tyJ0 tyJ0_ok nmJ0 hown hK hP hD hS 0 rfl rfl 0 (by decide) (hts (.fieldLink RJ0 9 "java/lang/String" "value" "[B") (by decide +kernel)) (fun _ h9 => h9) rfl hin rfl (by decide +kernel) rfl rfl (Nat.le_of_ble_eq_true rfl) dJ0_init_db425_35 (fun H locs hP hD hS => ?_)
    have hP : va_P (dC, dI) vwCl [(st, .inr (0, [.ref nbx_6, .int 0, .int 0, .int 0])), (sb, .inr (1, [.ref bv, .int 0, ml, .int 1])), (nbx_6, .inl (cNbx_7, 1, .inl fNx_8))] H := hP
    have hD : va_D A [(st, .inr (0, [.ref nbx_6, .int 0, .int 0, .int 0])), (sb, .inr (1, [.ref bv, .int 0, ml, .int 1])), (nbx_6, .inl (cNbx_7, 1, .inl fNx_8))] := hD
    refine lv_goto (tgt := 97) hx hb dJ0_init_db425_38 (by decide) ?_
    refine W.widen (k := 1) (n := 1) (Nat.le_of_ble_eq_true rfl) (Nat.le_of_ble_eq_true rfl) ?_
    have hP9 := hP.sub (ws' := [(st, .inr (0, [.ref nbx_6, .int 0, .int 0, .int 0])), (nbx_6, .inl (cNbx_7, 1, .inl fNx_8))]) [0, 2] rfl
    have hD9 := hD.sub (ws' := [(st, .inr (0, [.ref nbx_6, .int 0, .int 0, .int 0])), (nbx_6, .inl (cNbx_7, 1, .inl fNx_8))]) [0, 2] (by decide) rfl
    have hK9 := hK.sub (tys' := [(cNbx_7, .byte)]) [1] rfl
    exact W.vret hx hb hr (fun t ht hW => ⟨⟨(), rfl, trivial, ⟨(nbx_6), (cNbx_7), (fNx_8), by rw [ht]; exact hP9, va_K.moved hW.alike hK9, hD9⟩⟩, hS.F ht⟩) hS.2.2 dJ0_init_db425_97

set_option maxHeartbeats 4000000 in
set_option maxRecDepth 100000 in
theorem c_J0_init_81219 (l : Launch) (em : Nat → Nat) (dC : Nat → ClassId) (dI : Nat → Nat → Nat) (st : Nat) (sb : Nat) (ml : Value) (bv : Nat) (cV : ClassId) (fV : Nat → Int32) (hF : sb_Fit fV) (sz : Nat) : Met l yJ0_init_81219 wsJ0_init_81219 ({ frames := 4, cells := 1, slots := 1, locals := 110 }) (va_Pc [.ref st, .ref sb] (Pw em dC dI sz [(st, .inr (0, [.null, .int 0, .int 0, .int 0])), (sb, .inr (1, [.ref bv, .int 0, ml, .int 1])), (bv, .inl (cV, 16, .inl fV))] [(cV, .byte)])) (va_Qv (fun _ : Unit => True) (fun _ t => ∃ (nb : Nat) (cNb : ClassId) (fN : Nat → Int32), Qw dC dI (va_A [(st, .inr (0, [.null, .int 0, .int 0, .int 0])), (sb, .inr (1, [.ref bv, .int 0, ml, .int 1])), (bv, .inl (cV, 16, .inl fV))] sz) [(st, .inr (0, [.ref nb, .int 0, .int 0, .int 0])), (nb, .inl (cNb, 1, .inl fN))] [(cNb, .byte)] t) (va_A [(st, .inr (0, [.null, .int 0, .int 0, .int 0])), (sb, .inr (1, [.ref bv, .int 0, ml, .int 1])), (bv, .inl (cV, 16, .inl fV))] sz)) 1 1 (va_A [(st, .inr (0, [.null, .int 0, .int 0, .int 0])), (sb, .inr (1, [.ref bv, .int 0, ml, .int 1])), (bv, .inl (cV, 16, .inl fV))] sz) := by
  refine Met.ofW (cc := cJ0_init_81219) (maxL := 2) (ret := none) (by decide) rfl ?_
  intro p e s m args below meth c s₁ B hml hv
  obtain ⟨rfl, hsz, hP, hK, hD0, hamb⟩ := hv
  have hx := B.exec
  have hb := B.bytes
  have hr := B.returns
  have hts := atoms_spec (ws := wsJ0_init_81219) B.pre
  have hown : s.vm.findClass RJ0 = some m.cls := findClass_of_methodNamed B.named
  have hlocks := B.notSynchronized
  have hin : meth.name = "<init>" := (name_of_methodNamed B.named B.method).1
  subst hsz
  have hD := hD0.self (sz := s.heap.size)
  generalize hAe : va_A [(st, .inr (0, [.null, .int 0, .int 0, .int 0])), (sb, .inr (1, [.ref bv, .int 0, ml, .int 1])), (bv, .inl (cV, 16, .inl fV))] s.heap.size = A at hD hamb ⊢
  have hA : ∀ q : Nat, s.heap.size ≤ q → A q := fun q h => by rw [← hAe]; exact Or.inr h
  have hS : va_S A s.heap s.heap [] := va_S.rf
  have hP : va_P (dC, dI) vwCl [(st, .inr (0, [.null, .int 0, .int 0, .int 0])), (sb, .inr (1, [.ref bv, .int 0, ml, .int 1])), (bv, .inl (cV, 16, .inl fV))] s.heap := hP
  have hl := lv_entry ([.ref st, .ref sb]) (n := 2) (Nat.le_of_ble_eq_true rfl)
  rw [lg_entry_eq]
  generalize (lg_sl ([.ref st, .ref sb]) ++ List.replicate (2 - (lg_sl ([.ref st, .ref sb])).length) Slot.unset).toArray = ls at hl ⊢
  have hl : lv_has ls 2 [(0, .ref st), (1, .ref sb)] := hl
  refine lv_aload_n hx hb dJ0_init_81219_0 rfl (lv_at hl 0 rfl) ?_
  refine lv_aload_n hx hb dJ0_init_81219_1 rfl (lv_at hl 1 rfl) ?_
  refine lv_null hx hb dJ0_init_81219_2 ?_
  have hPc := hP.sub (ws' := [(st, .inr (0, [.null, .int 0, .int 0, .int 0])), (sb, .inr (1, [.ref bv, .int 0, ml, .int 1])), (bv, .inl (cV, 16, .inl fV))]) [0, 1, 2] rfl
  have hDc := hD.sub (ws' := [(st, .inr (0, [.null, .int 0, .int 0, .int 0])), (sb, .inr (1, [.ref bv, .int 0, ml, .int 1])), (bv, .inl (cV, 16, .inl fV))]) [0, 1, 2] (by decide) rfl
  have hKc := hK.sub (tys' := [(cV, .byte)]) [0] rfl
  have hFc := va_free (wc := [(st, .inr (0, [.null, .int 0, .int 0, .int 0])), (sb, .inr (1, [.ref bv, .int 0, ml, .int 1])), (bv, .inl (cV, 16, .inl fV))]) hD hS hA [0, 1, 2] rfl
  refine va_callv (va_runI (As := [.ref sb, .null]) (rest := []) ⟨hx, hb, hml, hown, hts⟩ (c_J0_init_db425 l em dC dI st sb ml bv cV fV hF s.heap.size) (cwI 2 hts gJ0_init_81219_J0_init_db425 rfl rfl rfl (hts (.initialized RJ0) (by decide +kernel)) (hts (.methodLink RJ0 489 yJ0_init_db425) (by decide +kernel)) (hts (.instanceMethod yJ0_init_db425) (by decide +kernel)) rfl (by decide +kernel) ⟨Nat.le_of_ble_eq_true rfl, Nat.le_of_ble_eq_true rfl⟩) ⟨Pw.blind _ _ _ _ _ _ _, fun U hU hW => ⟨rfl, Pw.go hPc hKc hDc hamb hS hFc hU hW⟩⟩ rfl rfl hl.1 rfl (lv_room (Nat.le_of_ble_eq_true rfl)) dJ0_init_81219_3 ⟨Nat.le_of_ble_eq_true rfl, Nat.le_of_ble_eq_true rfl⟩) hS (fun q _ h => hFc q h) hFc (fun u t H1 locs1 ht hvm hw hB hz1 hk1 hS => ?_)
  obtain ⟨nbx_2, cNbx_3, fNx_4, hP1, hK1, hD1⟩ := hB
  rw [ht] at hP1
  have hK1 := va_K.moved hvm.symm hK1
  obtain ⟨hP, hD⟩ := va_join (wr := []) (w1 := [(st, .inr (0, [.ref nbx_2, .int 0, .int 0, .int 0])), (nbx_2, .inl (cNbx_3, 1, .inl fNx_4))]) hP hD [0, 1, 2] [] rfl rfl (by decide) (by decide) hk1 hFc hP1 hD1
  have hK := (hK.sub (tys' := [(cV, .byte)]) [0] rfl).app hK1
  generalize H1 = H at hP hS ⊢
  have hP : va_P (dC, dI) vwCl [(st, .inr (0, [.ref nbx_2, .int 0, .int 0, .int 0])), (nbx_2, .inl (cNbx_3, 1, .inl fNx_4))] H := hP
  have hD : va_D A [(st, .inr (0, [.ref nbx_2, .int 0, .int 0, .int 0])), (nbx_2, .inl (cNbx_3, 1, .inl fNx_4))] := hD
  have hK : va_K (dC, dI) vwCl [(cV, .byte), (cNbx_3, .byte)] s := hK
  refine W.widen (k := 1) (n := 1) (Nat.le_of_ble_eq_true rfl) (Nat.le_of_ble_eq_true rfl) ?_
  refine W.widen (k := 1) (n := 1) (Nat.le_of_ble_eq_true rfl) (Nat.le_of_ble_eq_true rfl) ?_
  have hP9 := hP.sub (ws' := [(st, .inr (0, [.ref nbx_2, .int 0, .int 0, .int 0])), (nbx_2, .inl (cNbx_3, 1, .inl fNx_4))]) [0, 1] rfl
  have hD9 := hD.sub (ws' := [(st, .inr (0, [.ref nbx_2, .int 0, .int 0, .int 0])), (nbx_2, .inl (cNbx_3, 1, .inl fNx_4))]) [0, 1] (by decide) rfl
  have hK9 := hK.sub (tys' := [(cNbx_3, .byte)]) [1] rfl
  exact W.vret hx hb hr (fun t ht hW => ⟨⟨(), rfl, trivial, ⟨(nbx_2), (cNbx_3), (fNx_4), by rw [ht]; exact hP9, va_K.moved hW.alike hK9, hD9⟩⟩, hS.F ht⟩) hS.2.2 dJ0_init_81219_6

set_option maxHeartbeats 4000000 in
set_option maxRecDepth 100000 in
theorem c_J4_toString_0e30d (l : Launch) (em : Nat → Nat) (dC : Nat → ClassId) (dI : Nat → Nat → Nat) (sb : Nat) (ml : Value) (bv : Nat) (cV : ClassId) (fV : Nat → Int32) (hF : sb_Fit fV) (sz : Nat) : Met l yJ4_toString_0e30d wsJ4_toString_0e30d ({ frames := 5, cells := 2, slots := 5, locals := 131 }) (va_Pc [.ref sb] (Pw em dC dI sz [(sb, .inr (1, [.ref bv, .int 0, ml, .int 1])), (bv, .inl (cV, 16, .inl fV))] [(cV, .byte)])) (va_Qr (fun _ : Unit => True) (fun _ ra t => ∃ (nb : Nat) (cNb : ClassId) (fN : Nat → Int32), Qw dC dI (va_A [(sb, .inr (1, [.ref bv, .int 0, ml, .int 1])), (bv, .inl (cV, 16, .inl fV))] sz) [(ra, .inr (0, [.ref nb, .int 0, .int 0, .int 0])), (nb, .inl (cNb, 1, .inl fN))] [(cNb, .byte)] t) (va_A [(sb, .inr (1, [.ref bv, .int 0, ml, .int 1])), (bv, .inl (cV, 16, .inl fV))] sz)) 2 5 (va_A [(sb, .inr (1, [.ref bv, .int 0, ml, .int 1])), (bv, .inl (cV, 16, .inl fV))] sz) := by
  refine Met.ofW (cc := cJ4_toString_0e30d) (maxL := 1) (ret := (some (.object "java/lang/String"))) (by decide) rfl ?_
  intro p e s m args below meth c s₁ B hml hv
  obtain ⟨rfl, hsz, hP, hK, hD0, hamb⟩ := hv
  have hx := B.exec
  have hb := B.bytes
  have hr := B.returns
  have hts := atoms_spec (ws := wsJ4_toString_0e30d) B.pre
  have hown : s.vm.findClass RJ4 = some m.cls := findClass_of_methodNamed B.named
  have hlocks := B.notSynchronized
  subst hsz
  have hD := hD0.self (sz := s.heap.size)
  generalize hAe : va_A [(sb, .inr (1, [.ref bv, .int 0, ml, .int 1])), (bv, .inl (cV, 16, .inl fV))] s.heap.size = A at hD hamb ⊢
  have hA : ∀ q : Nat, s.heap.size ≤ q → A q := fun q h => by rw [← hAe]; exact Or.inr h
  have hS : va_S A s.heap s.heap [] := va_S.rf
  have hP : va_P (dC, dI) vwCl [(sb, .inr (1, [.ref bv, .int 0, ml, .int 1])), (bv, .inl (cV, 16, .inl fV))] s.heap := hP
  have hl := lv_entry ([.ref sb]) (n := 1) (Nat.le_of_ble_eq_true rfl)
  rw [lg_entry_eq]
  generalize (lg_sl ([.ref sb]) ++ List.replicate (1 - (lg_sl ([.ref sb])).length) Slot.unset).toArray = ls at hl ⊢
  have hl : lv_has ls 1 [(0, .ref sb)] := hl
  refine va_new (ci := 0) (fs := [.null, .int 0, .int 0, .int 0]) (C := RJ0) (T := TJ0) (N := 4) hx hb hts (by decide +kernel) tyJ0 tyJ0_ok hown (hts (.classLink RJ4 18 RJ0) (by decide +kernel)) (hts (.instantiable RJ0 4) (by decide +kernel)) (hts (.initialized RJ0) (by decide +kernel)) hK hP hD hS hA rfl (fun j hj => by rcases (show j = 0 ∨ j = 1 ∨ j = 2 ∨ j = 3 by omega) with rfl | rfl | rfl | rfl <;> rfl) (Nat.le_of_ble_eq_true rfl) (Nat.le_of_ble_eq_true rfl) dJ4_toString_0e30d_0 (fun q_1 H hP hD hS => ?_)
  have hP : va_P (dC, dI) vwCl [(sb, .inr (1, [.ref bv, .int 0, ml, .int 1])), (bv, .inl (cV, 16, .inl fV)), (q_1, .inr (0, [.null, .int 0, .int 0, .int 0]))] H := hP
  have hD : va_D A [(sb, .inr (1, [.ref bv, .int 0, ml, .int 1])), (bv, .inl (cV, 16, .inl fV)), (q_1, .inr (0, [.null, .int 0, .int 0, .int 0]))] := hD
  refine W.widen (k := 1) (n := 4) (Nat.le_of_ble_eq_true rfl) (Nat.le_of_ble_eq_true rfl) ?_
  refine lv_dup hx hb dJ4_toString_0e30d_3 rfl ?_
  refine lv_aload_n hx hb dJ4_toString_0e30d_4 rfl (lv_at hl 0 rfl) ?_
  have hPc := hP.sub (ws' := [(q_1, .inr (0, [.null, .int 0, .int 0, .int 0])), (sb, .inr (1, [.ref bv, .int 0, ml, .int 1])), (bv, .inl (cV, 16, .inl fV))]) [2, 0, 1] rfl
  have hDc := hD.sub (ws' := [(q_1, .inr (0, [.null, .int 0, .int 0, .int 0])), (sb, .inr (1, [.ref bv, .int 0, ml, .int 1])), (bv, .inl (cV, 16, .inl fV))]) [2, 0, 1] (by decide) rfl
  have hKc := hK.sub (tys' := [(cV, .byte)]) [0] rfl
  have hFc := va_free (wc := [(q_1, .inr (0, [.null, .int 0, .int 0, .int 0])), (sb, .inr (1, [.ref bv, .int 0, ml, .int 1])), (bv, .inl (cV, 16, .inl fV))]) hD hS hA [2, 0, 1] rfl
  refine va_callv (va_runI (As := [.ref sb]) (rest := [.ref q_1]) ⟨hx, hb, hml, hown, hts⟩ (c_J0_init_81219 l em dC dI q_1 sb ml bv cV fV hF H.size) (cwI 1 hts gJ4_toString_0e30d_J0_init_81219 rfl rfl rfl (hts (.initialized RJ0) (by decide +kernel)) (hts (.methodLink RJ4 137 yJ0_init_81219) (by decide +kernel)) (hts (.instanceMethod yJ0_init_81219) (by decide +kernel)) rfl (by decide +kernel) ⟨Nat.le_of_ble_eq_true rfl, Nat.le_of_ble_eq_true rfl⟩) ⟨Pw.blind _ _ _ _ _ _ _, fun U hU hW => ⟨rfl, Pw.go hPc hKc hDc hamb hS hFc hU hW⟩⟩ rfl rfl hl.1 rfl (lv_room (Nat.le_of_ble_eq_true rfl)) dJ4_toString_0e30d_5 ⟨Nat.le_of_ble_eq_true rfl, Nat.le_of_ble_eq_true rfl⟩) hS (fun q _ h => hFc q h) hFc (fun u t H1 locs1 ht hvm hw hB hz1 hk1 hS => ?_)
  obtain ⟨nbx_3, cNbx_4, fNx_5, hP1, hK1, hD1⟩ := hB
  rw [ht] at hP1
  have hK1 := va_K.moved hvm.symm hK1
  obtain ⟨hP, hD⟩ := va_join (wr := []) (w1 := [(q_1, .inr (0, [.ref nbx_3, .int 0, .int 0, .int 0])), (nbx_3, .inl (cNbx_4, 1, .inl fNx_5))]) hP hD [2, 0, 1] [] rfl rfl (by decide) (by decide) hk1 hFc hP1 hD1
  have hK := (hK.sub (tys' := [(cV, .byte)]) [0] rfl).app hK1
  generalize H1 = H at hP hS ⊢
  have hP : va_P (dC, dI) vwCl [(q_1, .inr (0, [.ref nbx_3, .int 0, .int 0, .int 0])), (nbx_3, .inl (cNbx_4, 1, .inl fNx_5))] H := hP
  have hD : va_D A [(q_1, .inr (0, [.ref nbx_3, .int 0, .int 0, .int 0])), (nbx_3, .inl (cNbx_4, 1, .inl fNx_5))] := hD
  have hK : va_K (dC, dI) vwCl [(cV, .byte), (cNbx_4, .byte)] s := hK
  refine W.widen (k := 2) (n := 5) (Nat.le_of_ble_eq_true rfl) (Nat.le_of_ble_eq_true rfl) ?_
  refine W.widen (k := 2) (n := 5) (Nat.le_of_ble_eq_true rfl) (Nat.le_of_ble_eq_true rfl) ?_
  have hP9 := hP.sub (ws' := [(q_1, .inr (0, [.ref nbx_3, .int 0, .int 0, .int 0])), (nbx_3, .inl (cNbx_4, 1, .inl fNx_5))]) [0, 1] rfl
  have hD9 := hD.sub (ws' := [(q_1, .inr (0, [.ref nbx_3, .int 0, .int 0, .int 0])), (nbx_3, .inl (cNbx_4, 1, .inl fNx_5))]) [0, 1] (by decide) rfl
  have hK9 := hK.sub (tys' := [(cNbx_4, .byte)]) [1] rfl
  exact W.aret (v := .ref q_1) hx hb hr (Or.inl ⟨_, rfl⟩) (Or.inr ⟨_, rfl⟩) (fun t ht hW => ⟨⟨(), q_1, rfl, trivial, ⟨(nbx_3), (cNbx_4), (fNx_5), by rw [ht]; exact hP9, va_K.moved hW.alike hK9, hD9⟩⟩, hS.F ht⟩) hS.2.2 dJ4_toString_0e30d_8

set_option maxHeartbeats 4000000 in
set_option maxRecDepth 100000 in
theorem c_J0_coder_7d493_1 (l : Launch) (em : Nat → Nat) (dC : Nat → ClassId) (dI : Nat → Nat → Nat) (st : Nat) (nv : Value) (sz : Nat) : Met l yJ0_coder_7d493 wsJ0_coder_7d493 ({ frames := 0, cells := 0, slots := 0, locals := 0 }) (va_Pc [.ref st] (Pw em dC dI sz [(st, .inr (0, [nv, .int 0, .int 0, .int 0]))] [])) (va_Qi (fun (r : Int32) (_ : Unit) => r = 0) (fun _ t => Qw dC dI (va_A [(st, .inr (0, [nv, .int 0, .int 0, .int 0]))] sz) [(st, .inr (0, [nv, .int 0, .int 0, .int 0]))] [] t) (va_A [(st, .inr (0, [nv, .int 0, .int 0, .int 0]))] sz)) 0 0 (va_A [(st, .inr (0, [nv, .int 0, .int 0, .int 0]))] sz) := by
  refine Met.ofW (cc := cJ0_coder_7d493) (maxL := 1) (ret := (some .byte)) (by decide) rfl ?_
  intro p e s m args below meth c s₁ B hml hv
  obtain ⟨rfl, hsz, hP, hK, hD0, hamb⟩ := hv
  have hx := B.exec
  have hb := B.bytes
  have hr := B.returns
  have hts := atoms_spec (ws := wsJ0_coder_7d493) B.pre
  have hown : s.vm.findClass RJ0 = some m.cls := findClass_of_methodNamed B.named
  have hlocks := B.notSynchronized
  subst hsz
  have hD := hD0.self (sz := s.heap.size)
  generalize hAe : va_A [(st, .inr (0, [nv, .int 0, .int 0, .int 0]))] s.heap.size = A at hD hamb ⊢
  have hA : ∀ q : Nat, s.heap.size ≤ q → A q := fun q h => by rw [← hAe]; exact Or.inr h
  have hS : va_S A s.heap s.heap [] := va_S.rf
  have hP : va_P (dC, dI) vwCl [(st, .inr (0, [nv, .int 0, .int 0, .int 0]))] s.heap := hP
  have hl := lv_entry ([.ref st]) (n := 1) (Nat.le_of_ble_eq_true rfl)
  rw [lg_entry_eq]
  generalize (lg_sl ([.ref st]) ++ List.replicate (1 - (lg_sl ([.ref st])).length) Slot.unset).toArray = ls at hl ⊢
  have hl : lv_has ls 1 [(0, .ref st)] := hl
  refine va_gets hx hb hamb.zc hS hown (hts (.fieldLink RJ0 38 "java/lang/String" "COMPACT_STRINGS" "Z") (by decide +kernel)) (fun _ h9 => h9) dJ0_coder_7d493_0 ?_
  refine lv_if_eq (tgt := 13) hx hb dJ0_coder_7d493_3 (by decide) (fun c_1 => ?_) (fun c_1 => ?_)
  · exact absurd c_1 (by decide)
  · refine lv_aload_n hx hb dJ0_coder_7d493_6 rfl (lv_at hl 0 rfl) ?_
    refine va_get (D := (dC, dI)) (ci := 0) (v := .int 0) (C := RJ0) (T := TJ0) (N := 4) hx hb hts (by decide +kernel) hown hK hP 0 rfl rfl 1 (by decide) (hts (.fieldLink RJ0 15 "java/lang/String" "coder" "B") (by decide +kernel)) (fun _ h9 => h9) rfl dJ0_coder_7d493_7 ?_
    refine lv_goto (tgt := 14) hx hb dJ0_coder_7d493_10 (by decide) ?_
    refine W.widen (k := 0) (n := 0) (Nat.le_of_ble_eq_true rfl) (Nat.le_of_ble_eq_true rfl) ?_
    have hP9 := hP.sub (ws' := [(st, .inr (0, [nv, .int 0, .int 0, .int 0]))]) [0] rfl
    have hD9 := hD.sub (ws' := [(st, .inr (0, [nv, .int 0, .int 0, .int 0]))]) [0] (by decide) rfl
    have hK9 := hK.sub (tys' := []) [] rfl
    exact W.zret (v := 0) hx hb hr rfl (fun t ht hW => ⟨⟨0, (), rfl, rfl, ⟨by rw [ht]; exact hP9, va_K.moved hW.alike hK9, hD9⟩⟩, hS.F ht⟩) hS.2.2 dJ0_coder_7d493_14

set_option maxHeartbeats 4000000 in
set_option maxRecDepth 100000 in
theorem c_J0_length_8abf5_1 (l : Launch) (em : Nat → Nat) (dC : Nat → ClassId) (dI : Nat → Nat → Nat) (st : Nat) (nb : Nat) (cNb : ClassId) (fN : Nat → Int32) (sz : Nat) : Met l yJ0_length_8abf5 wsJ0_length_8abf5 ({ frames := 1, cells := 0, slots := 0, locals := 20 }) (va_Pc [.ref st] (Pw em dC dI sz [(st, .inr (0, [.ref nb, .int 0, .int 0, .int 0])), (nb, .inl (cNb, 1, .inl fN))] [(cNb, .byte)])) (va_Qi (fun (r : Int32) (_ : Unit) => r = 1) (fun _ t => True) (va_A [(st, .inr (0, [.ref nb, .int 0, .int 0, .int 0])), (nb, .inl (cNb, 1, .inl fN))] sz)) 0 0 (va_A [(st, .inr (0, [.ref nb, .int 0, .int 0, .int 0])), (nb, .inl (cNb, 1, .inl fN))] sz) := by
  refine Met.ofW (cc := cJ0_length_8abf5) (maxL := 1) (ret := (some .int)) (by decide) rfl ?_
  intro p e s m args below meth c s₁ B hml hv
  obtain ⟨rfl, hsz, hP, hK, hD0, hamb⟩ := hv
  have hx := B.exec
  have hb := B.bytes
  have hr := B.returns
  have hts := atoms_spec (ws := wsJ0_length_8abf5) B.pre
  have hown : s.vm.findClass RJ0 = some m.cls := findClass_of_methodNamed B.named
  have hlocks := B.notSynchronized
  subst hsz
  have hD := hD0.self (sz := s.heap.size)
  generalize hAe : va_A [(st, .inr (0, [.ref nb, .int 0, .int 0, .int 0])), (nb, .inl (cNb, 1, .inl fN))] s.heap.size = A at hD hamb ⊢
  have hA : ∀ q : Nat, s.heap.size ≤ q → A q := fun q h => by rw [← hAe]; exact Or.inr h
  have hS : va_S A s.heap s.heap [] := va_S.rf
  have hP : va_P (dC, dI) vwCl [(st, .inr (0, [.ref nb, .int 0, .int 0, .int 0])), (nb, .inl (cNb, 1, .inl fN))] s.heap := hP
  have hl := lv_entry ([.ref st]) (n := 1) (Nat.le_of_ble_eq_true rfl)
  rw [lg_entry_eq]
  generalize (lg_sl ([.ref st]) ++ List.replicate (1 - (lg_sl ([.ref st])).length) Slot.unset).toArray = ls at hl ⊢
  have hl : lv_has ls 1 [(0, .ref st)] := hl
  refine lv_aload_n hx hb dJ0_length_8abf5_0 rfl (lv_at hl 0 rfl) ?_
  refine va_get (D := (dC, dI)) (ci := 0) (v := .ref nb) (C := RJ0) (T := TJ0) (N := 4) hx hb hts (by decide +kernel) hown hK hP 0 rfl rfl 0 (by decide) (hts (.fieldLink RJ0 9 "java/lang/String" "value" "[B") (by decide +kernel)) (fun _ h9 => h9) rfl dJ0_length_8abf5_1 ?_
  refine va_alen hx hb hK hP 1 0 rfl rfl (v := 1) rfl dJ0_length_8abf5_4 ?_
  refine lv_aload_n hx hb dJ0_length_8abf5_5 rfl (lv_at hl 0 rfl) ?_
  have hPc := hP.sub (ws' := [(st, .inr (0, [.ref nb, .int 0, .int 0, .int 0]))]) [0] rfl
  have hDc := hD.sub (ws' := [(st, .inr (0, [.ref nb, .int 0, .int 0, .int 0]))]) [0] (by decide) rfl
  have hKc := hK.sub (tys' := []) [] rfl
  have hFc := va_free (wc := [(st, .inr (0, [.ref nb, .int 0, .int 0, .int 0]))]) hD hS hA [0] rfl
  refine va_calli (va_runV (As := []) (rest := [.int 1]) ⟨hx, hb, hml, hown, hts⟩ (c_J0_coder_7d493_1 l em dC dI st (.ref nb) s.heap.size) (cwV 0 hts gJ0_length_8abf5_J0_coder_7d493 rfl rfl rfl (by decide +kernel) ⟨Nat.le_of_ble_eq_true rfl, Nat.le_of_ble_eq_true rfl⟩) ⟨Pw.blind _ _ _ _ _ _ _, va_recv hKc hPc (ci := 0) (q0 := 0) rfl rfl, fun U hU hW => ⟨rfl, Pw.go hPc hKc hDc hamb hS hFc hU hW⟩⟩ rfl rfl hl.1 rfl (lv_room (Nat.le_of_ble_eq_true rfl)) dJ0_length_8abf5_6 ⟨Nat.le_of_ble_eq_true rfl, Nat.le_of_ble_eq_true rfl⟩) hS (fun q _ h => hFc q h) hFc (fun r_1 u t H1 locs1 ht hvm hw hB hz1 hk1 hS => ?_)
  obtain ⟨hP1, hK1, hD1⟩ := hB
  rw [ht] at hP1
  have hK1 := va_K.moved hvm.symm hK1
  obtain ⟨hP, hD⟩ := va_join (wr := [(nb, .inl (cNb, 1, .inl fN))]) (w1 := [(st, .inr (0, [.ref nb, .int 0, .int 0, .int 0]))]) hP hD [0] [1] rfl rfl (by decide) (by decide) hk1 hFc hP1 hD1
  have hK := (hK.sub (tys' := [(cNb, .byte)]) [0] rfl).app hK1
  generalize H1 = H at hP hS ⊢
  have hP : va_P (dC, dI) vwCl [(nb, .inl (cNb, 1, .inl fN)), (st, .inr (0, [.ref nb, .int 0, .int 0, .int 0]))] H := hP
  have hD : va_D A [(nb, .inl (cNb, 1, .inl fN)), (st, .inr (0, [.ref nb, .int 0, .int 0, .int 0]))] := hD
  have hK : va_K (dC, dI) vwCl [(cNb, .byte)] s := hK
  refine W.widen (k := 0) (n := 0) (Nat.le_of_ble_eq_true rfl) (Nat.le_of_ble_eq_true rfl) ?_
  have hw : r_1 = 0 := hw
  rw [hw]
  refine lv_ishr hx hb dJ0_length_8abf5_9 ?_
  refine lv_topi (fun k_2 ek_2 => ?_)
  obtain rfl : k_2 = 1 := ek_2.trans (by decide)
  refine W.widen (k := 0) (n := 0) (Nat.le_of_ble_eq_true rfl) (Nat.le_of_ble_eq_true rfl) ?_
  exact W.iret (v := 1) hx hb hr (fun t ht hW => ⟨⟨1, (), rfl, rfl, trivial⟩, hS.F ht⟩) hS.2.2 dJ0_length_8abf5_10

set_option maxHeartbeats 4000000 in
set_option maxRecDepth 100000 in
theorem c_X8_type (l : Launch) (em : Nat → Nat) (dC : Nat → ClassId) (dI : Nat → Nat → Nat) (m0 : Nat) (p0 : Int32) (g0 : Value) (g1 : Value) (g2 : Value) (g3 : Value) (g4 : Value) (g5 : Value) (g6 : Value) (g8 : Value) (sz : Nat) : Met l yX8_type wsX8_type ({ frames := 6, cells := 4, slots := 25, locals := 151 }) (va_Pc [.ref m0, .int p0] (Pw em dC dI sz [(m0, .inr (14, [g0, g1, g2, g3, g4, g5, g6, .ref (em 1), g8]))] [])) (va_Qi (fun (r : Int32) (_ : Unit) => ((p0.toInt < 97 ∨ 122 < p0.toInt) → r = 0) ∧ (¬ (p0.toInt < 97 ∨ 122 < p0.toInt) → r = 1)) (fun _ t => ∃ (tv : Int32) (tyv : Value), Qw dC dI (va_A [(m0, .inr (14, [g0, g1, g2, g3, g4, g5, g6, .ref (em 1), g8]))] sz) [(m0, .inr (14, [g0, g1, g2, g3, g4, g5, g6, tyv, .int tv]))] [] t ∧ ((p0.toInt < 97 ∨ 122 < p0.toInt) → tv = 1) ∧ (¬ (p0.toInt < 97 ∨ 122 < p0.toInt) → tv = 0)) (va_A [(m0, .inr (14, [g0, g1, g2, g3, g4, g5, g6, .ref (em 1), g8]))] sz)) 4 25 (va_A [(m0, .inr (14, [g0, g1, g2, g3, g4, g5, g6, .ref (em 1), g8]))] sz) := by
  refine Met.ofW (cc := cX8_type) (maxL := 2) (ret := (some .int)) (by decide) rfl ?_
  intro p e s m args below meth c s₁ B hml hv
  obtain ⟨rfl, hsz, hP, hK, hD0, hamb⟩ := hv
  have hx := B.exec
  have hb := B.bytes
  have hr := B.returns
  have hts := atoms_spec (ws := wsX8_type) B.pre
  have hown : s.vm.findClass RX8 = some m.cls := findClass_of_methodNamed B.named
  have hlocks := B.notSynchronized
  subst hsz
  have hD := hD0.self (sz := s.heap.size)
  generalize hAe : va_A [(m0, .inr (14, [g0, g1, g2, g3, g4, g5, g6, .ref (em 1), g8]))] s.heap.size = A at hD hamb ⊢
  have hA : ∀ q : Nat, s.heap.size ≤ q → A q := fun q h => by rw [← hAe]; exact Or.inr h
  have hS : va_S A s.heap s.heap [] := va_S.rf
  have hP : va_P (dC, dI) vwCl [(m0, .inr (14, [g0, g1, g2, g3, g4, g5, g6, .ref (em 1), g8]))] s.heap := hP
  have hl := lv_entry ([.ref m0, .int p0]) (n := 2) (Nat.le_of_ble_eq_true rfl)
  rw [lg_entry_eq]
  generalize (lg_sl ([.ref m0, .int p0]) ++ List.replicate (2 - (lg_sl ([.ref m0, .int p0])).length) Slot.unset).toArray = ls at hl ⊢
  have hl : lv_has ls 2 [(0, .ref m0), (1, .int p0)] := hl
  refine lv_aload_n hx hb dX8_type_0 rfl (lv_at hl 0 rfl) ?_
  refine lv_iload_n hx hb dX8_type_1 rfl (lv_at hl 1 rfl) ?_
  refine lv_bipush (v := 97) hx hb dX8_type_2 (by decide) ?_
  refine lv_bipush (v := 122) hx hb dX8_type_4 (by decide) ?_
  have hPc := hP.sub (ws' := []) [] rfl
  have hDc := hD.sub (ws' := []) [] (by decide) rfl
  have hKc := hK.sub (tys' := []) [] rfl
  have hFc := va_free (wc := []) hD hS hA [] rfl
  refine va_calli (va_runS (As := [.int p0, .int 97, .int 122]) (rest := [.ref m0]) ⟨hx, hb, hml, hown, hts⟩ (c_X8_isIn_97_122 l em dC dI p0 s.heap.size) (va_cwS 3 hts gX8_type_X8_isIn rfl rfl rfl (by decide +kernel) ⟨Nat.le_of_ble_eq_true rfl, Nat.le_of_ble_eq_true rfl⟩) ⟨Pw.blind _ _ _ _ _ _ _, fun U hU hW => ⟨rfl, Pw.go hPc hKc hDc hamb hS hFc hU hW⟩⟩ rfl rfl hl.1 rfl (lv_room (Nat.le_of_ble_eq_true rfl)) dX8_type_6 ⟨Nat.le_of_ble_eq_true rfl, Nat.le_of_ble_eq_true rfl⟩) hS (fun q _ h => hFc q h) hFc (fun r_1 u t H1 locs1 ht hvm hw hB hz1 hk1 hS => ?_)
  obtain ⟨hP, hD⟩ := va_rest (wr := [(m0, .inr (14, [g0, g1, g2, g3, g4, g5, g6, .ref (em 1), g8]))]) hP hD [] [0] rfl rfl (by decide) (by decide) hk1 hFc
  generalize H1 = H at hP hS ⊢
  refine W.widen (k := 0) (n := 0) (Nat.le_of_ble_eq_true rfl) (Nat.le_of_ble_eq_true rfl) ?_
  have hw : ((97 ≤ p0.toInt ∧ p0.toInt ≤ 122) → r_1 = 1) ∧ (¬ (97 ≤ p0.toInt ∧ p0.toInt ≤ 122) → r_1 = 0) := hw
  rcases Classical.em (97 ≤ p0.toInt ∧ p0.toInt ≤ 122) with t_2 | t_2
  · have hw := hw.1 t_2
    rw [hw]
    refine lv_if_ne (tgt := 16) hx hb dX8_type_9 (by decide) (fun c_3 => ?_) (fun c_3 => ?_)
    · refine lv_iconst (v := 0) hx hb dX8_type_16 (by decide) ?_
      refine lv_iconst (v := 1) hx hb dX8_type_17 (by decide) ?_
      have hPc := hP.sub (ws' := [(m0, .inr (14, [g0, g1, g2, g3, g4, g5, g6, .ref (em 1), g8]))]) [0] rfl
      have hDc := hD.sub (ws' := [(m0, .inr (14, [g0, g1, g2, g3, g4, g5, g6, .ref (em 1), g8]))]) [0] (by decide) rfl
      have hKc := hK.sub (tys' := []) [] rfl
      have hFc := va_free (wc := [(m0, .inr (14, [g0, g1, g2, g3, g4, g5, g6, .ref (em 1), g8]))]) hD hS hA [0] rfl
      refine va_calli (va_runV (As := [.int 0, .int 1]) (rest := []) ⟨hx, hb, hml, hown, hts⟩ (c_X8_isThrown_0 l em dC dI m0 1 g0 g1 g2 g3 g4 g5 g6 (.ref (em 1)) g8 H.size) (cwV 2 hts gX8_type_X8_isThrown rfl rfl rfl (by decide +kernel) ⟨Nat.le_of_ble_eq_true rfl, Nat.le_of_ble_eq_true rfl⟩) ⟨Pw.blind _ _ _ _ _ _ _, va_recv hKc hPc (ci := 14) (q0 := 0) rfl rfl, fun U hU hW => ⟨rfl, Pw.go hPc hKc hDc hamb hS hFc hU hW⟩⟩ rfl rfl hl.1 rfl (lv_room (Nat.le_of_ble_eq_true rfl)) dX8_type_18 ⟨Nat.le_of_ble_eq_true rfl, Nat.le_of_ble_eq_true rfl⟩) hS (fun q _ h => hFc q h) hFc (fun r_4 u t H1 locs1 ht hvm hw hB hz1 hk1 hS => ?_)
      obtain ⟨hP1, hK1, hD1⟩ := hB
      rw [ht] at hP1
      have hK1 := va_K.moved hvm.symm hK1
      obtain ⟨hP, hD⟩ := va_join (wr := []) (w1 := [(m0, .inr (14, [g0, g1, g2, g3, g4, g5, g6, .ref (em 1), .int 0]))]) hP hD [0] [] rfl rfl (by decide) (by decide) hk1 hFc hP1 hD1
      have hK := (hK.sub (tys' := []) [] rfl).app hK1
      generalize H1 = H at hP hS ⊢
      have hP : va_P (dC, dI) vwCl [(m0, .inr (14, [g0, g1, g2, g3, g4, g5, g6, .ref (em 1), .int 0]))] H := hP
      have hD : va_D A [(m0, .inr (14, [g0, g1, g2, g3, g4, g5, g6, .ref (em 1), .int 0]))] := hD
      have hK : va_K (dC, dI) vwCl [] s := hK
      refine W.widen (k := 0) (n := 0) (Nat.le_of_ble_eq_true rfl) (Nat.le_of_ble_eq_true rfl) ?_
      have hw : r_4 = 0 := hw
      rw [hw]
      refine lv_if_ne (tgt := 49) hx hb dX8_type_21 (by decide) (fun c_5 => ?_) (fun c_5 => ?_)
      · exact absurd (by decide) c_5
      · refine lv_aload_n hx hb dX8_type_24 rfl (lv_at hl 0 rfl) ?_
        refine lv_aload_n hx hb dX8_type_25 rfl (lv_at hl 0 rfl) ?_
        refine va_get (D := (dC, dI)) (ci := 14) (v := .ref (em 1)) (C := RX8) (T := TX8) (N := 9) hx hb hts (by decide +kernel) hown hK hP 0 rfl rfl 7 (by decide) (hts (.fieldLink RX8 42 "BothfacesModel" "typed" "Ljava/lang/String;") (by decide +kernel)) (fun _ h9 => h9) rfl dX8_type_26 ?_
        have hPc := hP.sub (ws' := []) [] rfl
        have hDc := hD.sub (ws' := []) [] (by decide) rfl
        have hKc := hK.sub (tys' := []) [] rfl
        have hFc := va_free (wc := []) hD hS hA [] rfl
        refine va_calli (va_runV (As := []) (rest := [.ref m0]) ⟨hx, hb, hml, hown, hts⟩ (c_J0_length_8abf5 l em dC dI H.size) (cwV 0 hts gX8_type_J0_length_8abf5 rfl rfl rfl (by decide +kernel) ⟨Nat.le_of_ble_eq_true rfl, Nat.le_of_ble_eq_true rfl⟩) ⟨Pw.blind _ _ _ _ _ _ _, (vk_recv hamb.s1 (i := 0) (by decide) hS), fun U hU hW => ⟨rfl, Pw.go hPc hKc hDc hamb hS hFc hU hW⟩⟩ rfl rfl hl.1 rfl (lv_room (Nat.le_of_ble_eq_true rfl)) dX8_type_29 ⟨Nat.le_of_ble_eq_true rfl, Nat.le_of_ble_eq_true rfl⟩) hS (fun q _ h => hFc q h) hFc (fun r_6 u t H1 locs1 ht hvm hw hB hz1 hk1 hS => ?_)
        obtain ⟨hP, hD⟩ := va_rest (wr := [(m0, .inr (14, [g0, g1, g2, g3, g4, g5, g6, .ref (em 1), .int 0]))]) hP hD [] [0] rfl rfl (by decide) (by decide) hk1 hFc
        generalize H1 = H at hP hS ⊢
        refine W.widen (k := 0) (n := 0) (Nat.le_of_ble_eq_true rfl) (Nat.le_of_ble_eq_true rfl) ?_
        have hw : r_6 = 0 := hw
        rw [hw]
        refine lv_bipush (v := 8) hx hb dX8_type_32 (by decide) ?_
        refine lv_icmp_ne (tgt := 41) hx hb dX8_type_34 (by decide) (fun c_7 => ?_) (fun c_7 => ?_)
        · refine lv_iconst (v := 0) hx hb dX8_type_41 (by decide) ?_
          refine lv_iconst (v := 2) hx hb dX8_type_42 (by decide) ?_
          have hPc := hP.sub (ws' := [(m0, .inr (14, [g0, g1, g2, g3, g4, g5, g6, .ref (em 1), .int 0]))]) [0] rfl
          have hDc := hD.sub (ws' := [(m0, .inr (14, [g0, g1, g2, g3, g4, g5, g6, .ref (em 1), .int 0]))]) [0] (by decide) rfl
          have hKc := hK.sub (tys' := []) [] rfl
          have hFc := va_free (wc := [(m0, .inr (14, [g0, g1, g2, g3, g4, g5, g6, .ref (em 1), .int 0]))]) hD hS hA [0] rfl
          refine va_calli (va_runV (As := [.int 0, .int 2]) (rest := []) ⟨hx, hb, hml, hown, hts⟩ (c_X8_isThrown_0 l em dC dI m0 2 g0 g1 g2 g3 g4 g5 g6 (.ref (em 1)) (.int 0) H.size) (cwV 2 hts gX8_type_X8_isThrown rfl rfl rfl (by decide +kernel) ⟨Nat.le_of_ble_eq_true rfl, Nat.le_of_ble_eq_true rfl⟩) ⟨Pw.blind _ _ _ _ _ _ _, va_recv hKc hPc (ci := 14) (q0 := 0) rfl rfl, fun U hU hW => ⟨rfl, Pw.go hPc hKc hDc hamb hS hFc hU hW⟩⟩ rfl rfl hl.1 rfl (lv_room (Nat.le_of_ble_eq_true rfl)) dX8_type_43 ⟨Nat.le_of_ble_eq_true rfl, Nat.le_of_ble_eq_true rfl⟩) hS (fun q _ h => hFc q h) hFc (fun r_8 u t H1 locs1 ht hvm hw hB hz1 hk1 hS => ?_)
          obtain ⟨hP1, hK1, hD1⟩ := hB
          rw [ht] at hP1
          have hK1 := va_K.moved hvm.symm hK1
          obtain ⟨hP, hD⟩ := va_join (wr := []) (w1 := [(m0, .inr (14, [g0, g1, g2, g3, g4, g5, g6, .ref (em 1), .int 0]))]) hP hD [0] [] rfl rfl (by decide) (by decide) hk1 hFc hP1 hD1
          have hK := (hK.sub (tys' := []) [] rfl).app hK1
          generalize H1 = H at hP hS ⊢
          have hP : va_P (dC, dI) vwCl [(m0, .inr (14, [g0, g1, g2, g3, g4, g5, g6, .ref (em 1), .int 0]))] H := hP
          have hD : va_D A [(m0, .inr (14, [g0, g1, g2, g3, g4, g5, g6, .ref (em 1), .int 0]))] := hD
          have hK : va_K (dC, dI) vwCl [] s := hK
          refine W.widen (k := 0) (n := 0) (Nat.le_of_ble_eq_true rfl) (Nat.le_of_ble_eq_true rfl) ?_
          have hw : r_8 = 0 := hw
          rw [hw]
          refine lv_if_eq (tgt := 51) hx hb dX8_type_46 (by decide) (fun c_9 => ?_) (fun c_9 => ?_)
          · refine va_new (ci := 1) (fs := [.null, .int 0, .int 0, .int 0]) (C := RJ4) (T := TJ4) (N := 4) hx hb hts (by decide +kernel) tyJ4 tyJ4_ok hown (hts (.classLink RX8 149 RJ4) (by decide +kernel)) (hts (.instantiable RJ4 4) (by decide +kernel)) (hts (.initialized RJ4) (by decide +kernel)) hK hP hD hS hA rfl (fun j hj => by rcases (show j = 0 ∨ j = 1 ∨ j = 2 ∨ j = 3 by omega) with rfl | rfl | rfl | rfl <;> rfl) (Nat.le_of_ble_eq_true rfl) (Nat.le_of_ble_eq_true rfl) dX8_type_51 (fun q_10 H hP hD hS => ?_)
            have hP : va_P (dC, dI) vwCl [(m0, .inr (14, [g0, g1, g2, g3, g4, g5, g6, .ref (em 1), .int 0])), (q_10, .inr (1, [.null, .int 0, .int 0, .int 0]))] H := hP
            have hD : va_D A [(m0, .inr (14, [g0, g1, g2, g3, g4, g5, g6, .ref (em 1), .int 0])), (q_10, .inr (1, [.null, .int 0, .int 0, .int 0]))] := hD
            refine W.widen (k := 1) (n := 4) (Nat.le_of_ble_eq_true rfl) (Nat.le_of_ble_eq_true rfl) ?_
            refine lv_dup hx hb dX8_type_54 rfl ?_
            have hPc := hP.sub (ws' := [(q_10, .inr (1, [.null, .int 0, .int 0, .int 0]))]) [1] rfl
            have hDc := hD.sub (ws' := [(q_10, .inr (1, [.null, .int 0, .int 0, .int 0]))]) [1] (by decide) rfl
            have hKc := hK.sub (tys' := []) [] rfl
            have hFc := va_free (wc := [(q_10, .inr (1, [.null, .int 0, .int 0, .int 0]))]) hD hS hA [1] rfl
            refine va_callv (va_runI (As := []) (rest := [.ref q_10]) ⟨hx, hb, hml, hown, hts⟩ (c_J4_init_da8c8 l em dC dI q_10 H.size) (cwI 0 hts gX8_type_J4_init_da8c8 rfl rfl rfl (hts (.initialized RJ4) (by decide +kernel)) (hts (.methodLink RX8 151 yJ4_init_da8c8) (by decide +kernel)) (hts (.instanceMethod yJ4_init_da8c8) (by decide +kernel)) rfl (by decide +kernel) ⟨Nat.le_of_ble_eq_true rfl, Nat.le_of_ble_eq_true rfl⟩) ⟨Pw.blind _ _ _ _ _ _ _, fun U hU hW => ⟨rfl, Pw.go hPc hKc hDc hamb hS hFc hU hW⟩⟩ rfl rfl hl.1 rfl (lv_room (Nat.le_of_ble_eq_true rfl)) dX8_type_55 ⟨Nat.le_of_ble_eq_true rfl, Nat.le_of_ble_eq_true rfl⟩) hS (fun q _ h => hFc q h) hFc (fun u t H1 locs1 ht hvm hw hB hz1 hk1 hS => ?_)
            obtain ⟨bvx_12, cVx_13, ⟨hP1, hK1, hD1⟩, f_14⟩ := hB
            rw [ht] at hP1
            have hK1 := va_K.moved hvm.symm hK1
            obtain ⟨hP, hD⟩ := va_join (wr := [(m0, .inr (14, [g0, g1, g2, g3, g4, g5, g6, .ref (em 1), .int 0]))]) (w1 := [(q_10, .inr (1, [.ref bvx_12, .int 0, .int 0, .int 0])), (bvx_12, .inl (cVx_13, 16, .inl (fun _ => 0)))]) hP hD [1] [0] rfl rfl (by decide) (by decide) hk1 hFc hP1 hD1
            have hK := (hK.sub (tys' := []) [] rfl).app hK1
            generalize H1 = H at hP hS ⊢
            have hP : va_P (dC, dI) vwCl [(m0, .inr (14, [g0, g1, g2, g3, g4, g5, g6, .ref (em 1), .int 0])), (q_10, .inr (1, [.ref bvx_12, .int 0, .int 0, .int 0])), (bvx_12, .inl (cVx_13, 16, .inl (fun _ => 0)))] H := hP
            have hD : va_D A [(m0, .inr (14, [g0, g1, g2, g3, g4, g5, g6, .ref (em 1), .int 0])), (q_10, .inr (1, [.ref bvx_12, .int 0, .int 0, .int 0])), (bvx_12, .inl (cVx_13, 16, .inl (fun _ => 0)))] := hD
            have hK : va_K (dC, dI) vwCl [(cVx_13, .byte)] s := hK
            refine W.widen (k := 2) (n := 20) (Nat.le_of_ble_eq_true rfl) (Nat.le_of_ble_eq_true rfl) ?_
            refine lv_aload_n hx hb dX8_type_58 rfl (lv_at hl 0 rfl) ?_
            refine lv_dup_x1 hx hb dX8_type_59 rfl rfl ?_
            refine va_get (D := (dC, dI)) (ci := 14) (v := .ref (em 1)) (C := RX8) (T := TX8) (N := 9) hx hb hts (by decide +kernel) hown hK hP 0 rfl rfl 7 (by decide) (hts (.fieldLink RX8 42 "BothfacesModel" "typed" "Ljava/lang/String;") (by decide +kernel)) (fun _ h9 => h9) rfl dX8_type_60 ?_
            have hPc := hP.sub (ws' := [(q_10, .inr (1, [.ref bvx_12, .int 0, .int 0, .int 0])), (bvx_12, .inl (cVx_13, 16, .inl (fun _ => 0)))]) [1, 2] rfl
            have hDc := hD.sub (ws' := [(q_10, .inr (1, [.ref bvx_12, .int 0, .int 0, .int 0])), (bvx_12, .inl (cVx_13, 16, .inl (fun _ => 0)))]) [1, 2] (by decide) rfl
            have hKc := hK.sub (tys' := [(cVx_13, .byte)]) [0] rfl
            have hFc := va_free (wc := [(q_10, .inr (1, [.ref bvx_12, .int 0, .int 0, .int 0])), (bvx_12, .inl (cVx_13, 16, .inl (fun _ => 0)))]) hD hS hA [1, 2] rfl
            refine va_callr (va_runV (As := [.ref (em 1)]) (rest := [.ref m0]) ⟨hx, hb, hml, hown, hts⟩ (c_J4_append_15ec4 l em dC dI q_10 (.int 0) bvx_12 cVx_13 (fun _ => 0) f_14 H.size) (cwV 1 hts gX8_type_J4_append_15ec4 rfl rfl rfl (by decide +kernel) ⟨Nat.le_of_ble_eq_true rfl, Nat.le_of_ble_eq_true rfl⟩) ⟨Pw.blind _ _ _ _ _ _ _, va_recv hKc hPc (ci := 1) (q0 := 0) rfl rfl, fun U hU hW => ⟨rfl, Pw.go hPc hKc hDc hamb hS hFc hU hW⟩⟩ rfl rfl hl.1 rfl (lv_room (Nat.le_of_ble_eq_true rfl)) dX8_type_63 ⟨Nat.le_of_ble_eq_true rfl, Nat.le_of_ble_eq_true rfl⟩) hS (fun q _ h => hFc q h) hFc (fun u ra t H1 locs1 ht hvm hw hB hz1 hk1 hS => ?_)
            obtain ⟨hra, hB⟩ := hB
            rw [hra]
            obtain ⟨gVx_16, ⟨hP1, hK1, hD1⟩, f_17⟩ := hB
            rw [ht] at hP1
            have hK1 := va_K.moved hvm.symm hK1
            obtain ⟨hP, hD⟩ := va_join (wr := [(m0, .inr (14, [g0, g1, g2, g3, g4, g5, g6, .ref (em 1), .int 0]))]) (w1 := [(q_10, .inr (1, [.ref bvx_12, .int 0, .int 0, .int 0])), (bvx_12, .inl (cVx_13, 16, .inl gVx_16))]) hP hD [1, 2] [0] rfl rfl (by decide) (by decide) hk1 hFc hP1 hD1
            have hK := (hK.sub (tys' := []) [] rfl).app hK1
            generalize H1 = H at hP hS ⊢
            have hP : va_P (dC, dI) vwCl [(m0, .inr (14, [g0, g1, g2, g3, g4, g5, g6, .ref (em 1), .int 0])), (q_10, .inr (1, [.ref bvx_12, .int 0, .int 0, .int 0])), (bvx_12, .inl (cVx_13, 16, .inl gVx_16))] H := hP
            have hD : va_D A [(m0, .inr (14, [g0, g1, g2, g3, g4, g5, g6, .ref (em 1), .int 0])), (q_10, .inr (1, [.ref bvx_12, .int 0, .int 0, .int 0])), (bvx_12, .inl (cVx_13, 16, .inl gVx_16))] := hD
            have hK : va_K (dC, dI) vwCl [(cVx_13, .byte)] s := hK
            refine W.widen (k := 2) (n := 20) (Nat.le_of_ble_eq_true rfl) (Nat.le_of_ble_eq_true rfl) ?_
            refine lv_iload_n hx hb dX8_type_66 rfl (lv_at hl 1 rfl) ?_
            have hPc := hP.sub (ws' := [(q_10, .inr (1, [.ref bvx_12, .int 0, .int 0, .int 0])), (bvx_12, .inl (cVx_13, 16, .inl gVx_16))]) [1, 2] rfl
            have hDc := hD.sub (ws' := [(q_10, .inr (1, [.ref bvx_12, .int 0, .int 0, .int 0])), (bvx_12, .inl (cVx_13, 16, .inl gVx_16))]) [1, 2] (by decide) rfl
            have hKc := hK.sub (tys' := [(cVx_13, .byte)]) [0] rfl
            have hFc := va_free (wc := [(q_10, .inr (1, [.ref bvx_12, .int 0, .int 0, .int 0])), (bvx_12, .inl (cVx_13, 16, .inl gVx_16))]) hD hS hA [1, 2] rfl
            refine va_callr (va_runV (As := [.int p0]) (rest := [.ref m0]) ⟨hx, hb, hml, hown, hts⟩ (c_J4_append_cf468 l em dC dI q_10 (.int 0) bvx_12 cVx_13 gVx_16 p0 f_17 t_2 H.size) (cwV 1 hts gX8_type_J4_append_cf468 rfl rfl rfl (by decide +kernel) ⟨Nat.le_of_ble_eq_true rfl, Nat.le_of_ble_eq_true rfl⟩) ⟨Pw.blind _ _ _ _ _ _ _, va_recv hKc hPc (ci := 1) (q0 := 0) rfl rfl, fun U hU hW => ⟨rfl, Pw.go hPc hKc hDc hamb hS hFc hU hW⟩⟩ rfl rfl hl.1 rfl (lv_room (Nat.le_of_ble_eq_true rfl)) dX8_type_67 ⟨Nat.le_of_ble_eq_true rfl, Nat.le_of_ble_eq_true rfl⟩) hS (fun q _ h => hFc q h) hFc (fun u ra t H1 locs1 ht hvm hw hB hz1 hk1 hS => ?_)
            obtain ⟨hra, hB⟩ := hB
            rw [hra]
            obtain ⟨gVx_19, ⟨hP1, hK1, hD1⟩, f_20⟩ := hB
            rw [ht] at hP1
            have hK1 := va_K.moved hvm.symm hK1
            obtain ⟨hP, hD⟩ := va_join (wr := [(m0, .inr (14, [g0, g1, g2, g3, g4, g5, g6, .ref (em 1), .int 0]))]) (w1 := [(q_10, .inr (1, [.ref bvx_12, .int 0, .int 0, .int 1])), (bvx_12, .inl (cVx_13, 16, .inl gVx_19))]) hP hD [1, 2] [0] rfl rfl (by decide) (by decide) hk1 hFc hP1 hD1
            have hK := (hK.sub (tys' := []) [] rfl).app hK1
            generalize H1 = H at hP hS ⊢
            have hP : va_P (dC, dI) vwCl [(m0, .inr (14, [g0, g1, g2, g3, g4, g5, g6, .ref (em 1), .int 0])), (q_10, .inr (1, [.ref bvx_12, .int 0, .int 0, .int 1])), (bvx_12, .inl (cVx_13, 16, .inl gVx_19))] H := hP
            have hD : va_D A [(m0, .inr (14, [g0, g1, g2, g3, g4, g5, g6, .ref (em 1), .int 0])), (q_10, .inr (1, [.ref bvx_12, .int 0, .int 0, .int 1])), (bvx_12, .inl (cVx_13, 16, .inl gVx_19))] := hD
            have hK : va_K (dC, dI) vwCl [(cVx_13, .byte)] s := hK
            refine W.widen (k := 2) (n := 20) (Nat.le_of_ble_eq_true rfl) (Nat.le_of_ble_eq_true rfl) ?_
            have hPc := hP.sub (ws' := [(q_10, .inr (1, [.ref bvx_12, .int 0, .int 0, .int 1])), (bvx_12, .inl (cVx_13, 16, .inl gVx_19))]) [1, 2] rfl
            have hDc := hD.sub (ws' := [(q_10, .inr (1, [.ref bvx_12, .int 0, .int 0, .int 1])), (bvx_12, .inl (cVx_13, 16, .inl gVx_19))]) [1, 2] (by decide) rfl
            have hKc := hK.sub (tys' := [(cVx_13, .byte)]) [0] rfl
            have hFc := va_free (wc := [(q_10, .inr (1, [.ref bvx_12, .int 0, .int 0, .int 1])), (bvx_12, .inl (cVx_13, 16, .inl gVx_19))]) hD hS hA [1, 2] rfl
            refine va_callr (va_runV (As := []) (rest := [.ref m0]) ⟨hx, hb, hml, hown, hts⟩ (c_J4_toString_0e30d l em dC dI q_10 (.int 0) bvx_12 cVx_13 gVx_19 f_20 H.size) (cwV 0 hts gX8_type_J4_toString_0e30d rfl rfl rfl (by decide +kernel) ⟨Nat.le_of_ble_eq_true rfl, Nat.le_of_ble_eq_true rfl⟩) ⟨Pw.blind _ _ _ _ _ _ _, va_recv hKc hPc (ci := 1) (q0 := 0) rfl rfl, fun U hU hW => ⟨rfl, Pw.go hPc hKc hDc hamb hS hFc hU hW⟩⟩ rfl rfl hl.1 rfl (lv_room (Nat.le_of_ble_eq_true rfl)) dX8_type_70 ⟨Nat.le_of_ble_eq_true rfl, Nat.le_of_ble_eq_true rfl⟩) hS (fun q _ h => hFc q h) hFc (fun u ra t H1 locs1 ht hvm hw hB hz1 hk1 hS => ?_)
            generalize ra = stx_22 at hB ⊢
            obtain ⟨nbx_23, cNbx_24, fNx_25, hP1, hK1, hD1⟩ := hB
            rw [ht] at hP1
            have hK1 := va_K.moved hvm.symm hK1
            obtain ⟨hP, hD⟩ := va_join (wr := [(m0, .inr (14, [g0, g1, g2, g3, g4, g5, g6, .ref (em 1), .int 0]))]) (w1 := [(stx_22, .inr (0, [.ref nbx_23, .int 0, .int 0, .int 0])), (nbx_23, .inl (cNbx_24, 1, .inl fNx_25))]) hP hD [1, 2] [0] rfl rfl (by decide) (by decide) hk1 hFc hP1 hD1
            have hK := (hK.sub (tys' := [(cVx_13, .byte)]) [0] rfl).app hK1
            generalize H1 = H at hP hS ⊢
            have hP : va_P (dC, dI) vwCl [(m0, .inr (14, [g0, g1, g2, g3, g4, g5, g6, .ref (em 1), .int 0])), (stx_22, .inr (0, [.ref nbx_23, .int 0, .int 0, .int 0])), (nbx_23, .inl (cNbx_24, 1, .inl fNx_25))] H := hP
            have hD : va_D A [(m0, .inr (14, [g0, g1, g2, g3, g4, g5, g6, .ref (em 1), .int 0])), (stx_22, .inr (0, [.ref nbx_23, .int 0, .int 0, .int 0])), (nbx_23, .inl (cNbx_24, 1, .inl fNx_25))] := hD
            have hK : va_K (dC, dI) vwCl [(cVx_13, .byte), (cNbx_24, .byte)] s := hK
            refine W.widen (k := 4) (n := 25) (Nat.le_of_ble_eq_true rfl) (Nat.le_of_ble_eq_true rfl) ?_
            refine va_put (D := (dC, dI)) (ci := 14) (v := .ref stx_22) (ty := (.object "java/lang/String")) (C := RX8) (T := TX8) (N := 9) hx hb hts (by decide +kernel) tyX8 tyX8_ok nmX8 hown hK hP hD hS 0 rfl rfl 7 (by decide) (hts (.fieldLink RX8 42 "BothfacesModel" "typed" "Ljava/lang/String;") (by decide +kernel)) (fun _ h9 => h9) rfl (by decide +kernel) rfl rfl (Nat.le_of_ble_eq_true rfl) dX8_type_73 (fun H locs hP hD hS => ?_)
            have hP : va_P (dC, dI) vwCl [(m0, .inr (14, [g0, g1, g2, g3, g4, g5, g6, .ref stx_22, .int 0])), (stx_22, .inr (0, [.ref nbx_23, .int 0, .int 0, .int 0])), (nbx_23, .inl (cNbx_24, 1, .inl fNx_25))] H := hP
            have hD : va_D A [(m0, .inr (14, [g0, g1, g2, g3, g4, g5, g6, .ref stx_22, .int 0])), (stx_22, .inr (0, [.ref nbx_23, .int 0, .int 0, .int 0])), (nbx_23, .inl (cNbx_24, 1, .inl fNx_25))] := hD
            refine lv_aload_n hx hb dX8_type_76 rfl (lv_at hl 0 rfl) ?_
            refine va_get (D := (dC, dI)) (ci := 14) (v := .ref stx_22) (C := RX8) (T := TX8) (N := 9) hx hb hts (by decide +kernel) hown hK hP 0 rfl rfl 7 (by decide) (hts (.fieldLink RX8 42 "BothfacesModel" "typed" "Ljava/lang/String;") (by decide +kernel)) (fun _ h9 => h9) rfl dX8_type_77 ?_
            have hPc := hP.sub (ws' := [(stx_22, .inr (0, [.ref nbx_23, .int 0, .int 0, .int 0])), (nbx_23, .inl (cNbx_24, 1, .inl fNx_25))]) [1, 2] rfl
            have hDc := hD.sub (ws' := [(stx_22, .inr (0, [.ref nbx_23, .int 0, .int 0, .int 0])), (nbx_23, .inl (cNbx_24, 1, .inl fNx_25))]) [1, 2] (by decide) rfl
            have hKc := hK.sub (tys' := [(cNbx_24, .byte)]) [1] rfl
            have hFc := va_free (wc := [(stx_22, .inr (0, [.ref nbx_23, .int 0, .int 0, .int 0])), (nbx_23, .inl (cNbx_24, 1, .inl fNx_25))]) hD hS hA [1, 2] rfl
            refine va_calli (va_runV (As := []) (rest := []) ⟨hx, hb, hml, hown, hts⟩ (c_J0_length_8abf5_1 l em dC dI stx_22 nbx_23 cNbx_24 fNx_25 H.size) (cwV 0 hts gX8_type_J0_length_8abf5 rfl rfl rfl (by decide +kernel) ⟨Nat.le_of_ble_eq_true rfl, Nat.le_of_ble_eq_true rfl⟩) ⟨Pw.blind _ _ _ _ _ _ _, va_recv hKc hPc (ci := 0) (q0 := 0) rfl rfl, fun U hU hW => ⟨rfl, Pw.go hPc hKc hDc hamb hS hFc hU hW⟩⟩ rfl rfl hl.1 rfl (lv_room (Nat.le_of_ble_eq_true rfl)) dX8_type_80 ⟨Nat.le_of_ble_eq_true rfl, Nat.le_of_ble_eq_true rfl⟩) hS (fun q _ h => hFc q h) hFc (fun r_26 u t H1 locs1 ht hvm hw hB hz1 hk1 hS => ?_)
            obtain ⟨hP, hD⟩ := va_rest (wr := [(m0, .inr (14, [g0, g1, g2, g3, g4, g5, g6, .ref stx_22, .int 0]))]) hP hD [1, 2] [0] rfl rfl (by decide) (by decide) hk1 hFc
            generalize H1 = H at hP hS ⊢
            refine W.widen (k := 4) (n := 25) (Nat.le_of_ble_eq_true rfl) (Nat.le_of_ble_eq_true rfl) ?_
            have hw : r_26 = 1 := hw
            rw [hw]
            refine W.widen (k := 4) (n := 25) (Nat.le_of_ble_eq_true rfl) (Nat.le_of_ble_eq_true rfl) ?_
            have hP9 := hP.sub (ws' := [(m0, .inr (14, [g0, g1, g2, g3, g4, g5, g6, .ref stx_22, .int 0]))]) [0] rfl
            have hD9 := hD.sub (ws' := [(m0, .inr (14, [g0, g1, g2, g3, g4, g5, g6, .ref stx_22, .int 0]))]) [0] (by decide) rfl
            have hK9 := hK.sub (tys' := []) [] rfl
            exact W.iret (v := 1) hx hb hr (fun t ht hW => ⟨⟨1, (), rfl, ⟨fun h9 => (by first | rfl | (exfalso; omega)), fun h9 => (by first | rfl | (exfalso; omega))⟩, ⟨(0), (.ref stx_22), ⟨by rw [ht]; exact hP9, va_K.moved hW.alike hK9, hD9⟩, (by first | rfl | assumption | omega | exact fun _ => rfl | exact fun h9 => absurd (by omega) h9 | exact fun h9 => absurd h9 (by omega)), (by first | rfl | assumption | omega | exact fun _ => rfl | exact fun h9 => absurd (by omega) h9 | exact fun h9 => absurd h9 (by omega))⟩⟩, hS.F ht⟩) hS.2.2 dX8_type_83
          · exact absurd (by decide) c_9
        · exact absurd c_7 (by decide)
    · exact absurd c_3 (by decide)
  · have hw := hw.2 t_2
    rw [hw]
    refine lv_if_ne (tgt := 16) hx hb dX8_type_9 (by decide) (fun c_27 => ?_) (fun c_27 => ?_)
    · exact absurd (by decide) c_27
    · refine lv_iconst (v := 1) hx hb dX8_type_12 (by decide) ?_
      refine lv_goto (tgt := 17) hx hb dX8_type_13 (by decide) ?_
      refine lv_iconst (v := 1) hx hb dX8_type_17 (by decide) ?_
      have hPc := hP.sub (ws' := [(m0, .inr (14, [g0, g1, g2, g3, g4, g5, g6, .ref (em 1), g8]))]) [0] rfl
      have hDc := hD.sub (ws' := [(m0, .inr (14, [g0, g1, g2, g3, g4, g5, g6, .ref (em 1), g8]))]) [0] (by decide) rfl
      have hKc := hK.sub (tys' := []) [] rfl
      have hFc := va_free (wc := [(m0, .inr (14, [g0, g1, g2, g3, g4, g5, g6, .ref (em 1), g8]))]) hD hS hA [0] rfl
      refine va_calli (va_runV (As := [.int 1, .int 1]) (rest := []) ⟨hx, hb, hml, hown, hts⟩ (c_X8_isThrown_1 l em dC dI m0 1 g0 g1 g2 g3 g4 g5 g6 (.ref (em 1)) g8 H.size) (cwV 2 hts gX8_type_X8_isThrown rfl rfl rfl (by decide +kernel) ⟨Nat.le_of_ble_eq_true rfl, Nat.le_of_ble_eq_true rfl⟩) ⟨Pw.blind _ _ _ _ _ _ _, va_recv hKc hPc (ci := 14) (q0 := 0) rfl rfl, fun U hU hW => ⟨rfl, Pw.go hPc hKc hDc hamb hS hFc hU hW⟩⟩ rfl rfl hl.1 rfl (lv_room (Nat.le_of_ble_eq_true rfl)) dX8_type_18 ⟨Nat.le_of_ble_eq_true rfl, Nat.le_of_ble_eq_true rfl⟩) hS (fun q _ h => hFc q h) hFc (fun r_28 u t H1 locs1 ht hvm hw hB hz1 hk1 hS => ?_)
      obtain ⟨hP1, hK1, hD1⟩ := hB
      rw [ht] at hP1
      have hK1 := va_K.moved hvm.symm hK1
      obtain ⟨hP, hD⟩ := va_join (wr := []) (w1 := [(m0, .inr (14, [g0, g1, g2, g3, g4, g5, g6, .ref (em 1), .int 1]))]) hP hD [0] [] rfl rfl (by decide) (by decide) hk1 hFc hP1 hD1
      have hK := (hK.sub (tys' := []) [] rfl).app hK1
      generalize H1 = H at hP hS ⊢
      have hP : va_P (dC, dI) vwCl [(m0, .inr (14, [g0, g1, g2, g3, g4, g5, g6, .ref (em 1), .int 1]))] H := hP
      have hD : va_D A [(m0, .inr (14, [g0, g1, g2, g3, g4, g5, g6, .ref (em 1), .int 1]))] := hD
      have hK : va_K (dC, dI) vwCl [] s := hK
      refine W.widen (k := 0) (n := 0) (Nat.le_of_ble_eq_true rfl) (Nat.le_of_ble_eq_true rfl) ?_
      have hw : r_28 = 1 := hw
      rw [hw]
      refine lv_if_ne (tgt := 49) hx hb dX8_type_21 (by decide) (fun c_29 => ?_) (fun c_29 => ?_)
      · refine lv_iconst (v := 0) hx hb dX8_type_49 (by decide) ?_
        refine W.widen (k := 4) (n := 25) (Nat.le_of_ble_eq_true rfl) (Nat.le_of_ble_eq_true rfl) ?_
        have hP9 := hP.sub (ws' := [(m0, .inr (14, [g0, g1, g2, g3, g4, g5, g6, .ref (em 1), .int 1]))]) [0] rfl
        have hD9 := hD.sub (ws' := [(m0, .inr (14, [g0, g1, g2, g3, g4, g5, g6, .ref (em 1), .int 1]))]) [0] (by decide) rfl
        have hK9 := hK.sub (tys' := []) [] rfl
        exact W.iret (v := 0) hx hb hr (fun t ht hW => ⟨⟨0, (), rfl, ⟨fun h9 => (by first | rfl | (exfalso; omega)), fun h9 => (by first | rfl | (exfalso; omega))⟩, ⟨(1), (.ref (em 1)), ⟨by rw [ht]; exact hP9, va_K.moved hW.alike hK9, hD9⟩, (by first | rfl | assumption | omega | exact fun _ => rfl | exact fun h9 => absurd (by omega) h9 | exact fun h9 => absurd h9 (by omega)), (by first | rfl | assumption | omega | exact fun _ => rfl | exact fun h9 => absurd (by omega) h9 | exact fun h9 => absurd h9 (by omega))⟩⟩, hS.F ht⟩) hS.2.2 dX8_type_50
      · exact absurd c_29 (by decide)
