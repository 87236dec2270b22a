set_option maxHeartbeats 4000000 in
set_option maxRecDepth 100000 in
theorem c_Jx4a65c_size_8abf5 (l : Launch) (em : Nat → Nat) (dC : Nat → ClassId) (dI : Nat → Nat → Nat) (lc : Nat) (w0 : Value) (w1 : Value) (sz : Nat) : Met l yJx4a65c_size_8abf5 wsJx4a65c_size_8abf5 ({ frames := 0, cells := 0, slots := 0, locals := 0 }) (va_Pc [.ref lc] (Pw em dC dI sz [(lc, .inr (5, [w0, w1, .int 0]))] [])) (va_Qi (fun (r : Int32) (_ : Unit) => r = 0) (fun _ t => Qw dC dI (va_A [(lc, .inr (5, [w0, w1, .int 0]))] sz) [(lc, .inr (5, [w0, w1, .int 0]))] [] t) (va_A [(lc, .inr (5, [w0, w1, .int 0]))] sz)) 0 0 (va_A [(lc, .inr (5, [w0, w1, .int 0]))] sz) := by
  refine Met.ofW (cc := cJx4a65c_size_8abf5) (maxL := 1) (ret := (some .int)) (by decide) rfl ?_
  intro p e s m args below meth c s₁ B hml hv
  obtain ⟨rfl, hsz, hP, hK, hD0, hamb⟩ := hv
  have hx := B.exec
  have hb := B.bytes
  have hr := B.returns
  have hts := atoms_spec (ws := wsJx4a65c_size_8abf5) B.pre
  have hown : s.vm.findClass RJx4a65c = some m.cls := findClass_of_methodNamed B.named
  have hlocks := B.notSynchronized
  subst hsz
  have hD := hD0.self (sz := s.heap.size)
  generalize hAe : va_A [(lc, .inr (5, [w0, w1, .int 0]))] s.heap.size = A at hD hamb ⊢
  have hA : ∀ q : Nat, s.heap.size ≤ q → A q := fun q h => by rw [← hAe]; exact Or.inr h
  have hS : va_S A s.heap s.heap [] := va_S.rf
  have hP : va_P (dC, dI) vwCl [(lc, .inr (5, [w0, w1, .int 0]))] s.heap := hP
  have hl := lv_entry ([.ref lc]) (n := 1) (Nat.le_of_ble_eq_true rfl)
  rw [lg_entry_eq]
  generalize (lg_sl ([.ref lc]) ++ List.replicate (1 - (lg_sl ([.ref lc])).length) Slot.unset).toArray = ls at hl ⊢
  have hl : lv_has ls 1 [(0, .ref lc)] := hl
  refine lv_aload_n hx hb dJx4a65c_size_8abf5_0 rfl (lv_at hl 0 rfl) ?_
  refine va_get (D := (dC, dI)) (ci := 5) (v := .int 0) (C := RJx4a65c) (T := TJx4a65c) (N := 3) hx hb hts (by decide +kernel) hown hK hP 0 rfl rfl 2 (by decide) (hts (.fieldLink RJx4a65c 48 "java/util/ArrayList" "size" "I") (by decide +kernel)) (fun _ h9 => h9) rfl dJx4a65c_size_8abf5_1 ?_
  refine W.widen (k := 0) (n := 0) (Nat.le_of_ble_eq_true rfl) (Nat.le_of_ble_eq_true rfl) ?_
  have hP9 := hP.sub (ws' := [(lc, .inr (5, [w0, w1, .int 0]))]) [0] rfl
  have hD9 := hD.sub (ws' := [(lc, .inr (5, [w0, w1, .int 0]))]) [0] (by decide) rfl
  have hK9 := hK.sub (tys' := []) [] rfl
  exact W.iret (v := 0) hx hb hr (fun t ht hW => ⟨⟨0, (), rfl, rfl, ⟨by rw [ht]; exact hP9, va_K.moved hW.alike hK9, hD9⟩⟩, hS.F ht⟩) hS.2.2 dJx4a65c_size_8abf5_4

set_option maxHeartbeats 4000000 in
set_option maxRecDepth 100000 in
theorem c_Jx4a65c_isEmpty_aae02 (l : Launch) (em : Nat → Nat) (dC : Nat → ClassId) (dI : Nat → Nat → Nat) (lc : Nat) (w0 : Value) (w1 : Value) (sz : Nat) : Met l yJx4a65c_isEmpty_aae02 wsJx4a65c_isEmpty_aae02 ({ frames := 0, cells := 0, slots := 0, locals := 0 }) (va_Pc [.ref lc] (Pw em dC dI sz [(lc, .inr (5, [w0, w1, .int 0]))] [])) (va_Qi (fun (r : Int32) (_ : Unit) => r = 1) (fun _ t => Qw dC dI (va_A [(lc, .inr (5, [w0, w1, .int 0]))] sz) [(lc, .inr (5, [w0, w1, .int 0]))] [] t) (va_A [(lc, .inr (5, [w0, w1, .int 0]))] sz)) 0 0 (va_A [(lc, .inr (5, [w0, w1, .int 0]))] sz) := by
  refine Met.ofW (cc := cJx4a65c_isEmpty_aae02) (maxL := 1) (ret := (some .boolean)) (by decide) rfl ?_
  intro p e s m args below meth c s₁ B hml hv
  obtain ⟨rfl, hsz, hP, hK, hD0, hamb⟩ := hv
  have hx := B.exec
  have hb := B.bytes
  have hr := B.returns
  have hts := atoms_spec (ws := wsJx4a65c_isEmpty_aae02) B.pre
  have hown : s.vm.findClass RJx4a65c = some m.cls := findClass_of_methodNamed B.named
  have hlocks := B.notSynchronized
  subst hsz
  have hD := hD0.self (sz := s.heap.size)
  generalize hAe : va_A [(lc, .inr (5, [w0, w1, .int 0]))] s.heap.size = A at hD hamb ⊢
  have hA : ∀ q : Nat, s.heap.size ≤ q → A q := fun q h => by rw [← hAe]; exact Or.inr h
  have hS : va_S A s.heap s.heap [] := va_S.rf
  have hP : va_P (dC, dI) vwCl [(lc, .inr (5, [w0, w1, .int 0]))] s.heap := hP
  have hl := lv_entry ([.ref lc]) (n := 1) (Nat.le_of_ble_eq_true rfl)
  rw [lg_entry_eq]
  generalize (lg_sl ([.ref lc]) ++ List.replicate (1 - (lg_sl ([.ref lc])).length) Slot.unset).toArray = ls at hl ⊢
  have hl : lv_has ls 1 [(0, .ref lc)] := hl
  refine lv_aload_n hx hb dJx4a65c_isEmpty_aae02_0 rfl (lv_at hl 0 rfl) ?_
  refine va_get (D := (dC, dI)) (ci := 5) (v := .int 0) (C := RJx4a65c) (T := TJx4a65c) (N := 3) hx hb hts (by decide +kernel) hown hK hP 0 rfl rfl 2 (by decide) (hts (.fieldLink RJx4a65c 48 "java/util/ArrayList" "size" "I") (by decide +kernel)) (fun _ h9 => h9) rfl dJx4a65c_isEmpty_aae02_1 ?_
  refine lv_if_ne (tgt := 11) hx hb dJx4a65c_isEmpty_aae02_4 (by decide) (fun c_1 => ?_) (fun c_1 => ?_)
  · exact absurd (by decide) c_1
  · refine lv_iconst (v := 1) hx hb dJx4a65c_isEmpty_aae02_7 (by decide) ?_
    refine lv_goto (tgt := 12) hx hb dJx4a65c_isEmpty_aae02_8 (by decide) ?_
    refine W.widen (k := 0) (n := 0) (Nat.le_of_ble_eq_true rfl) (Nat.le_of_ble_eq_true rfl) ?_
    have hP9 := hP.sub (ws' := [(lc, .inr (5, [w0, w1, .int 0]))]) [0] rfl
    have hD9 := hD.sub (ws' := [(lc, .inr (5, [w0, w1, .int 0]))]) [0] (by decide) rfl
    have hK9 := hK.sub (tys' := []) [] rfl
    exact W.zret (v := 1) hx hb hr rfl (fun t ht hW => ⟨⟨1, (), rfl, rfl, ⟨by rw [ht]; exact hP9, va_K.moved hW.alike hK9, hD9⟩⟩, hS.F ht⟩) hS.2.2 dJx4a65c_isEmpty_aae02_12

set_option maxHeartbeats 4000000 in
set_option maxRecDepth 100000 in
theorem c_Jx35411_init_45d68 (l : Launch) (em : Nat → Nat) (dC : Nat → ClassId) (dI : Nat → Nat → Nat) (it : Nat) (lc : Nat) (w1 : Value) (sz : Nat) : Met l yJx35411_init_45d68 wsJx35411_init_45d68 ({ frames := 1, cells := 0, slots := 0, locals := 12 }) (va_Pc [.ref it, .ref lc] (Pw em dC dI sz [(it, .inr (4, [.int 0, .int 0, .int 0, .null])), (lc, .inr (5, [.int 0, w1, .int 0]))] [])) (va_Qv (fun _ : Unit => True) (fun _ t => Qw dC dI (va_A [(it, .inr (4, [.int 0, .int 0, .int 0, .null])), (lc, .inr (5, [.int 0, w1, .int 0]))] sz) [(it, .inr (4, [.int 0, .int (-1), .int 0, .ref lc])), (lc, .inr (5, [.int 0, w1, .int 0]))] [] t) (va_A [(it, .inr (4, [.int 0, .int 0, .int 0, .null])), (lc, .inr (5, [.int 0, w1, .int 0]))] sz)) 0 0 (va_A [(it, .inr (4, [.int 0, .int 0, .int 0, .null])), (lc, .inr (5, [.int 0, w1, .int 0]))] sz) := by
  refine Met.ofW (cc := cJx35411_init_45d68) (maxL := 2) (ret := none) (by decide) rfl ?_
  intro p e s m args below meth c s₁ B hml hv
  obtain ⟨rfl, hsz, hP, hK, hD0, hamb⟩ := hv
  have hx := B.exec
  have hb := B.bytes
  have hr := B.returns
  have hts := atoms_spec (ws := wsJx35411_init_45d68) B.pre
  have hown : s.vm.findClass RJx35411 = some m.cls := findClass_of_methodNamed B.named
  have hlocks := B.notSynchronized
  have hin : meth.name = "<init>" := (name_of_methodNamed B.named B.method).1
  subst hsz
  have hD := hD0.self (sz := s.heap.size)
  generalize hAe : va_A [(it, .inr (4, [.int 0, .int 0, .int 0, .null])), (lc, .inr (5, [.int 0, w1, .int 0]))] s.heap.size = A at hD hamb ⊢
  have hA : ∀ q : Nat, s.heap.size ≤ q → A q := fun q h => by rw [← hAe]; exact Or.inr h
  have hS : va_S A s.heap s.heap [] := va_S.rf
  have hP : va_P (dC, dI) vwCl [(it, .inr (4, [.int 0, .int 0, .int 0, .null])), (lc, .inr (5, [.int 0, w1, .int 0]))] s.heap := hP
  have hl := lv_entry ([.ref it, .ref lc]) (n := 2) (Nat.le_of_ble_eq_true rfl)
  rw [lg_entry_eq]
  generalize (lg_sl ([.ref it, .ref lc]) ++ List.replicate (2 - (lg_sl ([.ref it, .ref lc])).length) Slot.unset).toArray = ls at hl ⊢
  have hl : lv_has ls 2 [(0, .ref it), (1, .ref lc)] := hl
  refine lv_aload_n hx hb dJx35411_init_45d68_0 rfl (lv_at hl 0 rfl) ?_
  refine lv_aload_n hx hb dJx35411_init_45d68_1 rfl (lv_at hl 1 rfl) ?_
  refine va_putF (D := (dC, dI)) (ci := 4) (v := .ref lc) (ty := (.object "java/util/ArrayList")) (C := RJx35411) (T := TJx35411) (N := 4) hx hb hts (by decide +kernel) tyJx35411 tyJx35411_ok nmJx35411 hown hK hP hD hS 0 rfl rfl 3 (by decide) (hts (.fieldLink RJx35411 1 "java/util/ArrayList$Itr" "this$0" "Ljava/util/ArrayList;") (by decide +kernel)) (fun _ h9 => h9) rfl hin rfl (by decide +kernel) rfl rfl (Nat.le_of_ble_eq_true rfl) dJx35411_init_45d68_2 (fun H locs hP hD hS => ?_)
  have hP : va_P (dC, dI) vwCl [(it, .inr (4, [.int 0, .int 0, .int 0, .ref lc])), (lc, .inr (5, [.int 0, w1, .int 0]))] H := hP
  have hD : va_D A [(it, .inr (4, [.int 0, .int 0, .int 0, .ref lc])), (lc, .inr (5, [.int 0, w1, .int 0]))] := hD
  refine lv_aload_n hx hb dJx35411_init_45d68_5 rfl (lv_at hl 0 rfl) ?_
  refine W.objInit hx hb hown (hts (.methodLink RJx35411 7 objectInit) (by decide +kernel)) (hts (.instanceMethod objectInit) (by decide +kernel)) (hts (.code objectInit ⟨#[0xb1]⟩ 1 none) (by decide +kernel)) rfl (by rw [hml]; exact hl.1) rfl dJx35411_init_45d68_6 (Nat.le_of_ble_eq_true rfl) (Nat.le_of_ble_eq_true rfl) ?_
  refine W.eq (g2 := F0 m 9 ls []) rfl ?_
  refine lv_aload_n hx hb dJx35411_init_45d68_9 rfl (lv_at hl 0 rfl) ?_
  refine lv_iconst (v := (-1)) hx hb dJx35411_init_45d68_10 (by decide) ?_
  refine va_put (D := (dC, dI)) (ci := 4) (v := .int (-1)) (ty := .int) (C := RJx35411) (T := TJx35411) (N := 4) hx hb hts (by decide +kernel) tyJx35411 tyJx35411_ok nmJx35411 hown hK hP hD hS 0 rfl rfl 1 (by decide) (hts (.fieldLink RJx35411 13 "java/util/ArrayList$Itr" "lastRet" "I") (by decide +kernel)) (fun _ h9 => h9) rfl (by decide +kernel) rfl rfl (Nat.le_of_ble_eq_true rfl) dJx35411_init_45d68_11 (fun H locs hP hD hS => ?_)
  have hP : va_P (dC, dI) vwCl [(it, .inr (4, [.int 0, .int (-1), .int 0, .ref lc])), (lc, .inr (5, [.int 0, w1, .int 0]))] H := hP
  have hD : va_D A [(it, .inr (4, [.int 0, .int (-1), .int 0, .ref lc])), (lc, .inr (5, [.int 0, w1, .int 0]))] := hD
  refine lv_aload_n hx hb dJx35411_init_45d68_14 rfl (lv_at hl 0 rfl) ?_
  refine lv_aload_n hx hb dJx35411_init_45d68_15 rfl (lv_at hl 0 rfl) ?_
  refine va_get (D := (dC, dI)) (ci := 4) (v := .ref lc) (C := RJx35411) (T := TJx35411) (N := 4) hx hb hts (by decide +kernel) hown hK hP 0 rfl rfl 3 (by decide) (hts (.fieldLink RJx35411 1 "java/util/ArrayList$Itr" "this$0" "Ljava/util/ArrayList;") (by decide +kernel)) (fun _ h9 => h9) rfl dJx35411_init_45d68_16 ?_
  refine va_get (D := (dC, dI)) (ci := 5) (v := .int 0) (C := RJx4a65c) (T := TJx4a65c) (N := 3) hx hb hts (by decide +kernel) hown hK hP 1 rfl rfl 0 (by decide) (hts (.fieldLink RJx35411 17 "java/util/ArrayList" "modCount" "I") (by decide +kernel)) (fun x h9 => u_same (hts (.sameField "java/util/ArrayList" "java/util/AbstractList" "modCount" "I") (by decide +kernel)) x h9) rfl dJx35411_init_45d68_19 ?_
  refine va_put (D := (dC, dI)) (ci := 4) (v := .int 0) (ty := .int) (C := RJx35411) (T := TJx35411) (N := 4) hx hb hts (by decide +kernel) tyJx35411 tyJx35411_ok nmJx35411 hown hK hP hD hS 0 rfl rfl 2 (by decide) (hts (.fieldLink RJx35411 22 "java/util/ArrayList$Itr" "expectedModCount" "I") (by decide +kernel)) (fun _ h9 => h9) rfl (by decide +kernel) rfl rfl (Nat.le_of_ble_eq_true rfl) dJx35411_init_45d68_22 (fun H locs hP hD hS => ?_)
  have hP : va_P (dC, dI) vwCl [(it, .inr (4, [.int 0, .int (-1), .int 0, .ref lc])), (lc, .inr (5, [.int 0, w1, .int 0]))] H := hP
  have hD : va_D A [(it, .inr (4, [.int 0, .int (-1), .int 0, .ref lc])), (lc, .inr (5, [.int 0, w1, .int 0]))] := hD
  refine W.widen (k := 0) (n := 0) (Nat.le_of_ble_eq_true rfl) (Nat.le_of_ble_eq_true rfl) ?_
  have hP9 := hP.sub (ws' := [(it, .inr (4, [.int 0, .int (-1), .int 0, .ref lc])), (lc, .inr (5, [.int 0, w1, .int 0]))]) [0, 1] rfl
  have hD9 := hD.sub (ws' := [(it, .inr (4, [.int 0, .int (-1), .int 0, .ref lc])), (lc, .inr (5, [.int 0, w1, .int 0]))]) [0, 1] (by decide) rfl
  have hK9 := hK.sub (tys' := []) [] rfl
  exact W.vret hx hb hr (fun t ht hW => ⟨⟨(), rfl, trivial, ⟨by rw [ht]; exact hP9, va_K.moved hW.alike hK9, hD9⟩⟩, hS.F ht⟩) hS.2.2 dJx35411_init_45d68_25

set_option maxHeartbeats 4000000 in
set_option maxRecDepth 100000 in
theorem c_Jx4a65c_iterator_32c93 (l : Launch) (em : Nat → Nat) (dC : Nat → ClassId) (dI : Nat → Nat → Nat) (lc : Nat) (w1 : Value) (sz : Nat) : Met l yJx4a65c_iterator_32c93 wsJx4a65c_iterator_32c93 ({ frames := 2, cells := 1, slots := 4, locals := 33 }) (va_Pc [.ref lc] (Pw em dC dI sz [(lc, .inr (5, [.int 0, w1, .int 0]))] [])) (va_Qr (fun _ : Unit => True) (fun _ ra t => Qw dC dI (va_A [(lc, .inr (5, [.int 0, w1, .int 0]))] sz) [(ra, .inr (4, [.int 0, .int (-1), .int 0, .ref lc])), (lc, .inr (5, [.int 0, w1, .int 0]))] [] t) (va_A [(lc, .inr (5, [.int 0, w1, .int 0]))] sz)) 1 4 (va_A [(lc, .inr (5, [.int 0, w1, .int 0]))] sz) := by
  refine Met.ofW (cc := cJx4a65c_iterator_32c93) (maxL := 1) (ret := (some (.object "java/util/Iterator"))) (by decide) rfl ?_
  intro p e s m args below meth c s₁ B hml hv
  obtain ⟨rfl, hsz, hP, hK, hD0, hamb⟩ := hv
  have hx := B.exec
  have hb := B.bytes
  have hr := B.returns
  have hts := atoms_spec (ws := wsJx4a65c_iterator_32c93) B.pre
  have hown : s.vm.findClass RJx4a65c = some m.cls := findClass_of_methodNamed B.named
  have hlocks := B.notSynchronized
  subst hsz
  have hD := hD0.self (sz := s.heap.size)
  generalize hAe : va_A [(lc, .inr (5, [.int 0, w1, .int 0]))] s.heap.size = A at hD hamb ⊢
  have hA : ∀ q : Nat, s.heap.size ≤ q → A q := fun q h => by rw [← hAe]; exact Or.inr h
  have hS : va_S A s.heap s.heap [] := va_S.rf
  have hP : va_P (dC, dI) vwCl [(lc, .inr (5, [.int 0, w1, .int 0]))] s.heap := hP
  have hl := lv_entry ([.ref lc]) (n := 1) (Nat.le_of_ble_eq_true rfl)
  rw [lg_entry_eq]
  generalize (lg_sl ([.ref lc]) ++ List.replicate (1 - (lg_sl ([.ref lc])).length) Slot.unset).toArray = ls at hl ⊢
  have hl : lv_has ls 1 [(0, .ref lc)] := hl
  refine va_new (ci := 4) (fs := [.int 0, .int 0, .int 0, .null]) (C := RJx35411) (T := TJx35411) (N := 4) hx hb hts (by decide +kernel) tyJx35411 tyJx35411_ok hown (hts (.classLink RJx4a65c 267 RJx35411) (by decide +kernel)) (hts (.instantiable RJx35411 4) (by decide +kernel)) (hts (.initialized RJx35411) (by decide +kernel)) hK hP hD hS hA rfl (fun j hj => by rcases (show j = 0 ∨ j = 1 ∨ j = 2 ∨ j = 3 by omega) with rfl | rfl | rfl | rfl <;> rfl) (Nat.le_of_ble_eq_true rfl) (Nat.le_of_ble_eq_true rfl) dJx4a65c_iterator_32c93_0 (fun q_1 H hP hD hS => ?_)
  have hP : va_P (dC, dI) vwCl [(lc, .inr (5, [.int 0, w1, .int 0])), (q_1, .inr (4, [.int 0, .int 0, .int 0, .null]))] H := hP
  have hD : va_D A [(lc, .inr (5, [.int 0, w1, .int 0])), (q_1, .inr (4, [.int 0, .int 0, .int 0, .null]))] := hD
  refine W.widen (k := 1) (n := 4) (Nat.le_of_ble_eq_true rfl) (Nat.le_of_ble_eq_true rfl) ?_
  refine lv_dup hx hb dJx4a65c_iterator_32c93_3 rfl ?_
  refine lv_aload_n hx hb dJx4a65c_iterator_32c93_4 rfl (lv_at hl 0 rfl) ?_
  have hPc := hP.sub (ws' := [(q_1, .inr (4, [.int 0, .int 0, .int 0, .null])), (lc, .inr (5, [.int 0, w1, .int 0]))]) [1, 0] rfl
  have hDc := hD.sub (ws' := [(q_1, .inr (4, [.int 0, .int 0, .int 0, .null])), (lc, .inr (5, [.int 0, w1, .int 0]))]) [1, 0] (by decide) rfl
  have hKc := hK.sub (tys' := []) [] rfl
  have hFc := va_free (wc := [(q_1, .inr (4, [.int 0, .int 0, .int 0, .null])), (lc, .inr (5, [.int 0, w1, .int 0]))]) hD hS hA [1, 0] rfl
  refine va_callv (va_runI (As := [.ref lc]) (rest := [.ref q_1]) ⟨hx, hb, hml, hown, hts⟩ (c_Jx35411_init_45d68 l em dC dI q_1 lc w1 H.size) (cwI 1 hts gJx4a65c_iterator_32c93_Jx35411_init_45d68 rfl rfl rfl (hts (.initialized RJx35411) (by decide +kernel)) (hts (.methodLink RJx4a65c 269 yJx35411_init_45d68) (by decide +kernel)) (hts (.instanceMethod yJx35411_init_45d68) (by decide +kernel)) rfl (by decide +kernel) ⟨Nat.le_of_ble_eq_true rfl, Nat.le_of_ble_eq_true rfl⟩) ⟨Pw.blind _ _ _ _ _ _ _, fun U hU hW => ⟨rfl, Pw.go hPc hKc hDc hamb hS hFc hU hW⟩⟩ rfl rfl hl.1 rfl (lv_room (Nat.le_of_ble_eq_true rfl)) dJx4a65c_iterator_32c93_5 ⟨Nat.le_of_ble_eq_true rfl, Nat.le_of_ble_eq_true rfl⟩) hS (fun q _ h => hFc q h) hFc (fun u t H1 locs1 ht hvm hw hB hz1 hk1 hS => ?_)
  obtain ⟨hP1, hK1, hD1⟩ := hB
  rw [ht] at hP1
  have hK1 := va_K.moved hvm.symm hK1
  obtain ⟨hP, hD⟩ := va_join (wr := []) (w1 := [(q_1, .inr (4, [.int 0, .int (-1), .int 0, .ref lc])), (lc, .inr (5, [.int 0, w1, .int 0]))]) hP hD [1, 0] [] rfl rfl (by decide) (by decide) hk1 hFc hP1 hD1
  have hK := (hK.sub (tys' := []) [] rfl).app hK1
  generalize H1 = H at hP hS ⊢
  have hP : va_P (dC, dI) vwCl [(q_1, .inr (4, [.int 0, .int (-1), .int 0, .ref lc])), (lc, .inr (5, [.int 0, w1, .int 0]))] H := hP
  have hD : va_D A [(q_1, .inr (4, [.int 0, .int (-1), .int 0, .ref lc])), (lc, .inr (5, [.int 0, w1, .int 0]))] := hD
  have hK : va_K (dC, dI) vwCl [] s := hK
  refine W.widen (k := 1) (n := 4) (Nat.le_of_ble_eq_true rfl) (Nat.le_of_ble_eq_true rfl) ?_
  refine W.widen (k := 1) (n := 4) (Nat.le_of_ble_eq_true rfl) (Nat.le_of_ble_eq_true rfl) ?_
  have hP9 := hP.sub (ws' := [(q_1, .inr (4, [.int 0, .int (-1), .int 0, .ref lc])), (lc, .inr (5, [.int 0, w1, .int 0]))]) [0, 1] rfl
  have hD9 := hD.sub (ws' := [(q_1, .inr (4, [.int 0, .int (-1), .int 0, .ref lc])), (lc, .inr (5, [.int 0, w1, .int 0]))]) [0, 1] (by decide) rfl
  have hK9 := hK.sub (tys' := []) [] rfl
  exact W.aret (v := .ref q_1) hx hb hr (Or.inl ⟨_, rfl⟩) (Or.inr ⟨_, rfl⟩) (fun t ht hW => ⟨⟨(), q_1, rfl, trivial, ⟨by rw [ht]; exact hP9, va_K.moved hW.alike hK9, hD9⟩⟩, hS.F ht⟩) hS.2.2 dJx4a65c_iterator_32c93_8

set_option maxHeartbeats 4000000 in
set_option maxRecDepth 100000 in
theorem c_Jx35411_hasNext_aae02 (l : Launch) (em : Nat → Nat) (dC : Nat → ClassId) (dI : Nat → Nat → Nat) (it : Nat) (lc : Nat) (w1 : Value) (sz : Nat) : Met l yJx35411_hasNext_aae02 wsJx35411_hasNext_aae02 ({ frames := 0, cells := 0, slots := 0, locals := 0 }) (va_Pc [.ref it] (Pw em dC dI sz [(it, .inr (4, [.int 0, .int (-1), .int 0, .ref lc])), (lc, .inr (5, [.int 0, w1, .int 0]))] [])) (va_Qi (fun (r : Int32) (_ : Unit) => r = 0) (fun _ t => Qw dC dI (va_A [(it, .inr (4, [.int 0, .int (-1), .int 0, .ref lc])), (lc, .inr (5, [.int 0, w1, .int 0]))] sz) [(it, .inr (4, [.int 0, .int (-1), .int 0, .ref lc])), (lc, .inr (5, [.int 0, w1, .int 0]))] [] t) (va_A [(it, .inr (4, [.int 0, .int (-1), .int 0, .ref lc])), (lc, .inr (5, [.int 0, w1, .int 0]))] sz)) 0 0 (va_A [(it, .inr (4, [.int 0, .int (-1), .int 0, .ref lc])), (lc, .inr (5, [.int 0, w1, .int 0]))] sz) := by
  refine Met.ofW (cc := cJx35411_hasNext_aae02) (maxL := 1) (ret := (some .boolean)) (by decide) rfl ?_
  intro p e s m args below meth c s₁ B hml hv
  obtain ⟨rfl, hsz, hP, hK, hD0, hamb⟩ := hv
  have hx := B.exec
  have hb := B.bytes
  have hr := B.returns
  have hts := atoms_spec (ws := wsJx35411_hasNext_aae02) B.pre
  have hown : s.vm.findClass RJx35411 = some m.cls := findClass_of_methodNamed B.named
  have hlocks := B.notSynchronized
  subst hsz
  have hD := hD0.self (sz := s.heap.size)
  generalize hAe : va_A [(it, .inr (4, [.int 0, .int (-1), .int 0, .ref lc])), (lc, .inr (5, [.int 0, w1, .int 0]))] s.heap.size = A at hD hamb ⊢
  have hA : ∀ q : Nat, s.heap.size ≤ q → A q := fun q h => by rw [← hAe]; exact Or.inr h
  have hS : va_S A s.heap s.heap [] := va_S.rf
  have hP : va_P (dC, dI) vwCl [(it, .inr (4, [.int 0, .int (-1), .int 0, .ref lc])), (lc, .inr (5, [.int 0, w1, .int 0]))] s.heap := hP
  have hl := lv_entry ([.ref it]) (n := 1) (Nat.le_of_ble_eq_true rfl)
  rw [lg_entry_eq]
  generalize (lg_sl ([.ref it]) ++ List.replicate (1 - (lg_sl ([.ref it])).length) Slot.unset).toArray = ls at hl ⊢
  have hl : lv_has ls 1 [(0, .ref it)] := hl
  refine lv_aload_n hx hb dJx35411_hasNext_aae02_0 rfl (lv_at hl 0 rfl) ?_
  refine va_get (D := (dC, dI)) (ci := 4) (v := .int 0) (C := RJx35411) (T := TJx35411) (N := 4) hx hb hts (by decide +kernel) hown hK hP 0 rfl rfl 0 (by decide) (hts (.fieldLink RJx35411 25 "java/util/ArrayList$Itr" "cursor" "I") (by decide +kernel)) (fun _ h9 => h9) rfl dJx35411_hasNext_aae02_1 ?_
  refine lv_aload_n hx hb dJx35411_hasNext_aae02_4 rfl (lv_at hl 0 rfl) ?_
  refine va_get (D := (dC, dI)) (ci := 4) (v := .ref lc) (C := RJx35411) (T := TJx35411) (N := 4) hx hb hts (by decide +kernel) hown hK hP 0 rfl rfl 3 (by decide) (hts (.fieldLink RJx35411 1 "java/util/ArrayList$Itr" "this$0" "Ljava/util/ArrayList;") (by decide +kernel)) (fun _ h9 => h9) rfl dJx35411_hasNext_aae02_5 ?_
  refine va_getN (D := (dC, dI)) (ci := 5) (v := .int 0) (C := RJx4a65c) (T := TJx4a65c) (N := 3) hx hb hts (by decide +kernel) hown hK hP 1 rfl rfl 2 (by decide) (hamb.use (w := .fieldLinkNest RJx35411 28 "java/util/ArrayList" "size" "I" RJx4a65c) (by decide +kernel)) (fun _ h9 => h9) rfl dJx35411_hasNext_aae02_8 ?_
  refine lv_icmp_eq (tgt := 18) hx hb dJx35411_hasNext_aae02_11 (by decide) (fun c_1 => ?_) (fun c_1 => ?_)
  · refine lv_iconst (v := 0) hx hb dJx35411_hasNext_aae02_18 (by decide) ?_
    refine W.widen (k := 0) (n := 0) (Nat.le_of_ble_eq_true rfl) (Nat.le_of_ble_eq_true rfl) ?_
    have hP9 := hP.sub (ws' := [(it, .inr (4, [.int 0, .int (-1), .int 0, .ref lc])), (lc, .inr (5, [.int 0, w1, .int 0]))]) [0, 1] rfl
    have hD9 := hD.sub (ws' := [(it, .inr (4, [.int 0, .int (-1), .int 0, .ref lc])), (lc, .inr (5, [.int 0, w1, .int 0]))]) [0, 1] (by decide) rfl
    have hK9 := hK.sub (tys' := []) [] rfl
    exact W.zret (v := 0) hx hb hr rfl (fun t ht hW => ⟨⟨0, (), rfl, rfl, ⟨by rw [ht]; exact hP9, va_K.moved hW.alike hK9, hD9⟩⟩, hS.F ht⟩) hS.2.2 dJx35411_hasNext_aae02_19
  · exact absurd (by decide) c_1

set_option maxHeartbeats 4000000 in
set_option maxRecDepth 100000 in
theorem c_J7_fill_53178 (l : Launch) (em : Nat → Nat) (dC : Nat → ClassId) (dI : Nat → Nat → Nat) (q0 : Nat) (cF : ClassId) (p0 : Int32) (sz : Nat) : Met l yJ7_fill_53178 wsJ7_fill_53178 ({ frames := 0, cells := 0, slots := 0, locals := 0 }) (va_Pc [.ref q0, .int p0] (Pw em dC dI sz [(q0, .inl (cF, 1, .inl (fun _ => 0)))] [(cF, .int)])) (va_Qv (fun _ : Unit => True) (fun _ t => Qw dC dI (va_A [(q0, .inl (cF, 1, .inl (fun _ => 0)))] sz) [(q0, .inl (cF, 1, .inl (upd (fun _ => 0) 0 p0)))] [(cF, .int)] t) (va_A [(q0, .inl (cF, 1, .inl (fun _ => 0)))] sz)) 0 0 (va_A [(q0, .inl (cF, 1, .inl (fun _ => 0)))] sz) := by
  refine Met.ofW (cc := cJ7_fill_53178) (maxL := 4) (ret := none) (by decide) rfl ?_
  intro p e s m args below meth c s₁ B hml hv
  obtain ⟨rfl, hsz, hP, hK, hD0, hamb⟩ := hv
  have hx := B.exec
  have hb := B.bytes
  have hr := B.returns
  have hts := atoms_spec (ws := wsJ7_fill_53178) B.pre
  have hown : s.vm.findClass RJ7 = some m.cls := findClass_of_methodNamed B.named
  have hlocks := B.notSynchronized
  subst hsz
  have hD := hD0.self (sz := s.heap.size)
  generalize hAe : va_A [(q0, .inl (cF, 1, .inl (fun _ => 0)))] s.heap.size = A at hD hamb ⊢
  have hA : ∀ q : Nat, s.heap.size ≤ q → A q := fun q h => by rw [← hAe]; exact Or.inr h
  have hS : va_S A s.heap s.heap [] := va_S.rf
  have hP : va_P (dC, dI) vwCl [(q0, .inl (cF, 1, .inl (fun _ => 0)))] s.heap := hP
  have hl := lv_entry ([.ref q0, .int p0]) (n := 4) (Nat.le_of_ble_eq_true rfl)
  rw [lg_entry_eq]
  generalize (lg_sl ([.ref q0, .int p0]) ++ List.replicate (4 - (lg_sl ([.ref q0, .int p0])).length) Slot.unset).toArray = ls at hl ⊢
  have hl : lv_has ls 4 [(0, .ref q0), (1, .int p0)] := hl
  refine lv_iconst (v := 0) hx hb dJ7_fill_53178_0 (by decide) ?_
  refine lv_istore_n (lv' := [(2, .int 0), (0, .ref q0), (1, .int p0)]) hx hb dJ7_fill_53178_1 rfl hl (by decide) rfl (fun ls hl => ?_)
  refine lv_aload_n hx hb dJ7_fill_53178_2 rfl (lv_at hl 1 rfl) ?_
  refine va_alen hx hb hK hP 0 0 rfl rfl (v := 1) rfl dJ7_fill_53178_3 ?_
  refine lv_istore_n (lv' := [(3, .int 1), (2, .int 0), (0, .ref q0), (1, .int p0)]) hx hb dJ7_fill_53178_4 rfl hl (by decide) rfl (fun ls hl => ?_)
  refine lv_iload_n hx hb dJ7_fill_53178_5 rfl (lv_at hl 1 rfl) ?_
  refine lv_iload_n hx hb dJ7_fill_53178_6 rfl (lv_at hl 0 rfl) ?_
  refine lv_icmp_ge (tgt := 20) hx hb dJ7_fill_53178_7 (by decide) (fun c_1 => ?_) (fun c_1 => ?_)
  · exact absurd c_1 (by decide)
  · refine lv_aload_n hx hb dJ7_fill_53178_10 rfl (lv_at hl 2 rfl) ?_
    refine lv_iload_n hx hb dJ7_fill_53178_11 rfl (lv_at hl 1 rfl) ?_
    refine lv_iload_n hx hb dJ7_fill_53178_12 rfl (lv_at hl 3 rfl) ?_
    refine va_iast hx hb hK hP hD hS 0 0 rfl rfl (vp_in_iff.mpr ⟨by decide, by decide⟩) dJ7_fill_53178_13 (fun H locs hP hD hS => ?_)
    have hP : va_P (dC, dI) vwCl [(q0, .inl (cF, 1, .inl (upd (fun _ => 0) 0 p0)))] H := hP
    have hD : va_D A [(q0, .inl (cF, 1, .inl (upd (fun _ => 0) 0 p0)))] := hD
    refine lv_iinc (v := 1) (lv' := [(2, .int 1), (3, .int 1), (0, .ref q0), (1, .int p0)]) hx hb dJ7_fill_53178_14 hl (k := 1) rfl (by decide) (by decide) rfl (fun ls hl => ?_)
    refine lv_goto (tgt := 5) hx hb dJ7_fill_53178_17 (by decide) ?_
    refine lv_iload_n hx hb dJ7_fill_53178_5 rfl (lv_at hl 0 rfl) ?_
    refine lv_iload_n hx hb dJ7_fill_53178_6 rfl (lv_at hl 1 rfl) ?_
    refine lv_icmp_ge (tgt := 20) hx hb dJ7_fill_53178_7 (by decide) (fun c_2 => ?_) (fun c_2 => ?_)
    · refine W.widen (k := 0) (n := 0) (Nat.le_of_ble_eq_true rfl) (Nat.le_of_ble_eq_true rfl) ?_
      have hP9 := hP.sub (ws' := [(q0, .inl (cF, 1, .inl (upd (fun _ => 0) 0 p0)))]) [0] rfl
      have hD9 := hD.sub (ws' := [(q0, .inl (cF, 1, .inl (upd (fun _ => 0) 0 p0)))]) [0] (by decide) rfl
      have hK9 := hK.sub (tys' := [(cF, .int)]) [0] rfl
      exact W.vret hx hb hr (fun t ht hW => ⟨⟨(), rfl, trivial, ⟨by rw [ht]; exact hP9, va_K.moved hW.alike hK9, hD9⟩⟩, hS.F ht⟩) hS.2.2 dJ7_fill_53178_20
    · exact absurd (by decide) c_2

set_option maxHeartbeats 4000000 in
set_option maxRecDepth 100000 in
theorem c_X8_isIn_0_7 (l : Launch) (em : Nat → Nat) (dC : Nat → ClassId) (dI : Nat → Nat → Nat) (p0 : Int32) (sz : Nat) : Met l yX8_isIn wsX8_isIn ({ frames := 0, cells := 0, slots := 0, locals := 0 }) (va_Pc [.int p0, .int 0, .int 7] (Pw em dC dI sz [] [])) (va_Qi (fun (r : Int32) (_ : Unit) => ((0 ≤ p0.toInt ∧ p0.toInt ≤ 7) → r = 1) ∧ (¬ (0 ≤ p0.toInt ∧ p0.toInt ≤ 7) → r = 0)) (fun _ t => True) (va_A [] sz)) 0 0 (va_A [] sz) := by
  refine Met.ofW (cc := cX8_isIn) (maxL := 3) (ret := (some .boolean)) (by decide) rfl ?_
  intro p e s m args below meth c s₁ B hml hv
  obtain ⟨rfl, hsz, hP, hK, hD0, hamb⟩ := hv
  have hx := B.exec
  have hb := B.bytes
  have hr := B.returns
  have hts := atoms_spec (ws := wsX8_isIn) B.pre
  have hown : s.vm.findClass RX8 = some m.cls := findClass_of_methodNamed B.named
  have hlocks := B.notSynchronized
  subst hsz
  have hD := hD0.self (sz := s.heap.size)
  generalize hAe : va_A [] s.heap.size = A at hD hamb ⊢
  have hA : ∀ q : Nat, s.heap.size ≤ q → A q := fun q h => by rw [← hAe]; exact Or.inr h
  have hS : va_S A s.heap s.heap [] := va_S.rf
  have hP : va_P (dC, dI) vwCl [] s.heap := hP
  have hl := lv_entry ([.int p0, .int 0, .int 7]) (n := 3) (Nat.le_of_ble_eq_true rfl)
  rw [lg_entry_eq]
  generalize (lg_sl ([.int p0, .int 0, .int 7]) ++ List.replicate (3 - (lg_sl ([.int p0, .int 0, .int 7])).length) Slot.unset).toArray = ls at hl ⊢
  have hl : lv_has ls 3 [(0, .int p0), (1, .int 0), (2, .int 7)] := hl
  refine lv_iload_n hx hb dX8_isIn_0 rfl (lv_at hl 0 rfl) ?_
  refine lv_iload_n hx hb dX8_isIn_1 rfl (lv_at hl 1 rfl) ?_
  refine lv_icmp_lt (tgt := 14) hx hb dX8_isIn_2 (by decide) (fun c_1 => ?_) (fun c_1 => ?_)
  · have t_2 := b_lt (k := 0) rfl c_1
    refine lv_iconst (v := 0) hx hb dX8_isIn_14 (by decide) ?_
    refine W.widen (k := 0) (n := 0) (Nat.le_of_ble_eq_true rfl) (Nat.le_of_ble_eq_true rfl) ?_
    exact W.zret (v := 0) hx hb hr rfl (fun t ht hW => ⟨⟨0, (), rfl, ⟨fun h9 => (by first | rfl | (exfalso; omega)), fun h9 => (by first | rfl | (exfalso; omega))⟩, trivial⟩, hS.F ht⟩) hS.2.2 dX8_isIn_15
  · have t_3 := b_nlt (k := 0) rfl c_1
    refine lv_iload_n hx hb dX8_isIn_5 rfl (lv_at hl 0 rfl) ?_
    refine lv_iload_n hx hb dX8_isIn_6 rfl (lv_at hl 2 rfl) ?_
    refine lv_icmp_gt (tgt := 14) hx hb dX8_isIn_7 (by decide) (fun c_4 => ?_) (fun c_4 => ?_)
    · have t_5 := b_lt rfl c_4
      rw [show (7 : Int32).toInt = 7 from rfl] at t_5
      refine lv_iconst (v := 0) hx hb dX8_isIn_14 (by decide) ?_
      refine W.widen (k := 0) (n := 0) (Nat.le_of_ble_eq_true rfl) (Nat.le_of_ble_eq_true rfl) ?_
      exact W.zret (v := 0) hx hb hr rfl (fun t ht hW => ⟨⟨0, (), rfl, ⟨fun h9 => (by first | rfl | (exfalso; omega)), fun h9 => (by first | rfl | (exfalso; omega))⟩, trivial⟩, hS.F ht⟩) hS.2.2 dX8_isIn_15
    · have t_6 := b_nlt rfl c_4
      rw [show (7 : Int32).toInt = 7 from rfl] at t_6
      refine lv_iconst (v := 1) hx hb dX8_isIn_10 (by decide) ?_
      refine lv_goto (tgt := 15) hx hb dX8_isIn_11 (by decide) ?_
      refine W.widen (k := 0) (n := 0) (Nat.le_of_ble_eq_true rfl) (Nat.le_of_ble_eq_true rfl) ?_
      exact W.zret (v := 1) hx hb hr rfl (fun t ht hW => ⟨⟨1, (), rfl, ⟨fun h9 => (by first | rfl | (exfalso; omega)), fun h9 => (by first | rfl | (exfalso; omega))⟩, trivial⟩, hS.F ht⟩) hS.2.2 dX8_isIn_15

set_option maxHeartbeats 4000000 in
set_option maxRecDepth 100000 in
theorem c_X8_isIn_0_3 (l : Launch) (em : Nat → Nat) (dC : Nat → ClassId) (dI : Nat → Nat → Nat) (p0 : Int32) (sz : Nat) : Met l yX8_isIn wsX8_isIn ({ frames := 0, cells := 0, slots := 0, locals := 0 }) (va_Pc [.int p0, .int 0, .int 3] (Pw em dC dI sz [] [])) (va_Qi (fun (r : Int32) (_ : Unit) => ((0 ≤ p0.toInt ∧ p0.toInt ≤ 3) → r = 1) ∧ (¬ (0 ≤ p0.toInt ∧ p0.toInt ≤ 3) → r = 0)) (fun _ t => True) (va_A [] sz)) 0 0 (va_A [] sz) := by
  refine Met.ofW (cc := cX8_isIn) (maxL := 3) (ret := (some .boolean)) (by decide) rfl ?_
  intro p e s m args below meth c s₁ B hml hv
  obtain ⟨rfl, hsz, hP, hK, hD0, hamb⟩ := hv
  have hx := B.exec
  have hb := B.bytes
  have hr := B.returns
  have hts := atoms_spec (ws := wsX8_isIn) B.pre
  have hown : s.vm.findClass RX8 = some m.cls := findClass_of_methodNamed B.named
  have hlocks := B.notSynchronized
  subst hsz
  have hD := hD0.self (sz := s.heap.size)
  generalize hAe : va_A [] s.heap.size = A at hD hamb ⊢
  have hA : ∀ q : Nat, s.heap.size ≤ q → A q := fun q h => by rw [← hAe]; exact Or.inr h
  have hS : va_S A s.heap s.heap [] := va_S.rf
  have hP : va_P (dC, dI) vwCl [] s.heap := hP
  have hl := lv_entry ([.int p0, .int 0, .int 3]) (n := 3) (Nat.le_of_ble_eq_true rfl)
  rw [lg_entry_eq]
  generalize (lg_sl ([.int p0, .int 0, .int 3]) ++ List.replicate (3 - (lg_sl ([.int p0, .int 0, .int 3])).length) Slot.unset).toArray = ls at hl ⊢
  have hl : lv_has ls 3 [(0, .int p0), (1, .int 0), (2, .int 3)] := hl
  refine lv_iload_n hx hb dX8_isIn_0 rfl (lv_at hl 0 rfl) ?_
  refine lv_iload_n hx hb dX8_isIn_1 rfl (lv_at hl 1 rfl) ?_
  refine lv_icmp_lt (tgt := 14) hx hb dX8_isIn_2 (by decide) (fun c_1 => ?_) (fun c_1 => ?_)
  · have t_2 := b_lt (k := 0) rfl c_1
    refine lv_iconst (v := 0) hx hb dX8_isIn_14 (by decide) ?_
    refine W.widen (k := 0) (n := 0) (Nat.le_of_ble_eq_true rfl) (Nat.le_of_ble_eq_true rfl) ?_
    exact W.zret (v := 0) hx hb hr rfl (fun t ht hW => ⟨⟨0, (), rfl, ⟨fun h9 => (by first | rfl | (exfalso; omega)), fun h9 => (by first | rfl | (exfalso; omega))⟩, trivial⟩, hS.F ht⟩) hS.2.2 dX8_isIn_15
  · have t_3 := b_nlt (k := 0) rfl c_1
    refine lv_iload_n hx hb dX8_isIn_5 rfl (lv_at hl 0 rfl) ?_
    refine lv_iload_n hx hb dX8_isIn_6 rfl (lv_at hl 2 rfl) ?_
    refine lv_icmp_gt (tgt := 14) hx hb dX8_isIn_7 (by decide) (fun c_4 => ?_) (fun c_4 => ?_)
    · have t_5 := b_lt rfl c_4
      rw [show (3 : Int32).toInt = 3 from rfl] at t_5
      refine lv_iconst (v := 0) hx hb dX8_isIn_14 (by decide) ?_
      refine W.widen (k := 0) (n := 0) (Nat.le_of_ble_eq_true rfl) (Nat.le_of_ble_eq_true rfl) ?_
      exact W.zret (v := 0) hx hb hr rfl (fun t ht hW => ⟨⟨0, (), rfl, ⟨fun h9 => (by first | rfl | (exfalso; omega)), fun h9 => (by first | rfl | (exfalso; omega))⟩, trivial⟩, hS.F ht⟩) hS.2.2 dX8_isIn_15
    · have t_6 := b_nlt rfl c_4
      rw [show (3 : Int32).toInt = 3 from rfl] at t_6
      refine lv_iconst (v := 1) hx hb dX8_isIn_10 (by decide) ?_
      refine lv_goto (tgt := 15) hx hb dX8_isIn_11 (by decide) ?_
      refine W.widen (k := 0) (n := 0) (Nat.le_of_ble_eq_true rfl) (Nat.le_of_ble_eq_true rfl) ?_
      exact W.zret (v := 1) hx hb hr rfl (fun t ht hW => ⟨⟨1, (), rfl, ⟨fun h9 => (by first | rfl | (exfalso; omega)), fun h9 => (by first | rfl | (exfalso; omega))⟩, trivial⟩, hS.F ht⟩) hS.2.2 dX8_isIn_15

set_option maxHeartbeats 4000000 in
set_option maxRecDepth 100000 in
theorem c_X8_isIn_97_122 (l : Launch) (em : Nat → Nat) (dC : Nat → ClassId) (dI : Nat → Nat → Nat) (p0 : Int32) (sz : Nat) : Met l yX8_isIn wsX8_isIn ({ frames := 0, cells := 0, slots := 0, locals := 0 }) (va_Pc [.int p0, .int 97, .int 122] (Pw em dC dI sz [] [])) (va_Qi (fun (r : Int32) (_ : Unit) => ((97 ≤ p0.toInt ∧ p0.toInt ≤ 122) → r = 1) ∧ (¬ (97 ≤ p0.toInt ∧ p0.toInt ≤ 122) → r = 0)) (fun _ t => True) (va_A [] sz)) 0 0 (va_A [] sz) := by
  refine Met.ofW (cc := cX8_isIn) (maxL := 3) (ret := (some .boolean)) (by decide) rfl ?_
  intro p e s m args below meth c s₁ B hml hv
  obtain ⟨rfl, hsz, hP, hK, hD0, hamb⟩ := hv
  have hx := B.exec
  have hb := B.bytes
  have hr := B.returns
  have hts := atoms_spec (ws := wsX8_isIn) B.pre
  have hown : s.vm.findClass RX8 = some m.cls := findClass_of_methodNamed B.named
  have hlocks := B.notSynchronized
  subst hsz
  have hD := hD0.self (sz := s.heap.size)
  generalize hAe : va_A [] s.heap.size = A at hD hamb ⊢
  have hA : ∀ q : Nat, s.heap.size ≤ q → A q := fun q h => by rw [← hAe]; exact Or.inr h
  have hS : va_S A s.heap s.heap [] := va_S.rf
  have hP : va_P (dC, dI) vwCl [] s.heap := hP
  have hl := lv_entry ([.int p0, .int 97, .int 122]) (n := 3) (Nat.le_of_ble_eq_true rfl)
  rw [lg_entry_eq]
  generalize (lg_sl ([.int p0, .int 97, .int 122]) ++ List.replicate (3 - (lg_sl ([.int p0, .int 97, .int 122])).length) Slot.unset).toArray = ls at hl ⊢
  have hl : lv_has ls 3 [(0, .int p0), (1, .int 97), (2, .int 122)] := hl
  refine lv_iload_n hx hb dX8_isIn_0 rfl (lv_at hl 0 rfl) ?_
  refine lv_iload_n hx hb dX8_isIn_1 rfl (lv_at hl 1 rfl) ?_
  refine lv_icmp_lt (tgt := 14) hx hb dX8_isIn_2 (by decide) (fun c_1 => ?_) (fun c_1 => ?_)
  · have t_2 := b_lt (k := 97) rfl c_1
    refine lv_iconst (v := 0) hx hb dX8_isIn_14 (by decide) ?_
    refine W.widen (k := 0) (n := 0) (Nat.le_of_ble_eq_true rfl) (Nat.le_of_ble_eq_true rfl) ?_
    exact W.zret (v := 0) hx hb hr rfl (fun t ht hW => ⟨⟨0, (), rfl, ⟨fun h9 => (by first | rfl | (exfalso; omega)), fun h9 => (by first | rfl | (exfalso; omega))⟩, trivial⟩, hS.F ht⟩) hS.2.2 dX8_isIn_15
  · have t_3 := b_nlt (k := 97) rfl c_1
    refine lv_iload_n hx hb dX8_isIn_5 rfl (lv_at hl 0 rfl) ?_
    refine lv_iload_n hx hb dX8_isIn_6 rfl (lv_at hl 2 rfl) ?_
    refine lv_icmp_gt (tgt := 14) hx hb dX8_isIn_7 (by decide) (fun c_4 => ?_) (fun c_4 => ?_)
    · have t_5 := b_lt rfl c_4
      rw [show (122 : Int32).toInt = 122 from rfl] at t_5
      refine lv_iconst (v := 0) hx hb dX8_isIn_14 (by decide) ?_
      refine W.widen (k := 0) (n := 0) (Nat.le_of_ble_eq_true rfl) (Nat.le_of_ble_eq_true rfl) ?_
      exact W.zret (v := 0) hx hb hr rfl (fun t ht hW => ⟨⟨0, (), rfl, ⟨fun h9 => (by first | rfl | (exfalso; omega)), fun h9 => (by first | rfl | (exfalso; omega))⟩, trivial⟩, hS.F ht⟩) hS.2.2 dX8_isIn_15
    · have t_6 := b_nlt rfl c_4
      rw [show (122 : Int32).toInt = 122 from rfl] at t_6
      refine lv_iconst (v := 1) hx hb dX8_isIn_10 (by decide) ?_
      refine lv_goto (tgt := 15) hx hb dX8_isIn_11 (by decide) ?_
      refine W.widen (k := 0) (n := 0) (Nat.le_of_ble_eq_true rfl) (Nat.le_of_ble_eq_true rfl) ?_
      exact W.zret (v := 1) hx hb hr rfl (fun t ht hW => ⟨⟨1, (), rfl, ⟨fun h9 => (by first | rfl | (exfalso; omega)), fun h9 => (by first | rfl | (exfalso; omega))⟩, trivial⟩, hS.F ht⟩) hS.2.2 dX8_isIn_15

set_option maxHeartbeats 4000000 in
set_option maxRecDepth 100000 in
theorem c_X8_isIn_0_4 (l : Launch) (em : Nat → Nat) (dC : Nat → ClassId) (dI : Nat → Nat → Nat) (p0 : Int32) (sz : Nat) : Met l yX8_isIn wsX8_isIn ({ frames := 0, cells := 0, slots := 0, locals := 0 }) (va_Pc [.int p0, .int 0, .int 4] (Pw em dC dI sz [] [])) (va_Qi (fun (r : Int32) (_ : Unit) => ((0 ≤ p0.toInt ∧ p0.toInt ≤ 4) → r = 1) ∧ (¬ (0 ≤ p0.toInt ∧ p0.toInt ≤ 4) → r = 0)) (fun _ t => True) (va_A [] sz)) 0 0 (va_A [] sz) := by
  refine Met.ofW (cc := cX8_isIn) (maxL := 3) (ret := (some .boolean)) (by decide) rfl ?_
  intro p e s m args below meth c s₁ B hml hv
  obtain ⟨rfl, hsz, hP, hK, hD0, hamb⟩ := hv
  have hx := B.exec
  have hb := B.bytes
  have hr := B.returns
  have hts := atoms_spec (ws := wsX8_isIn) B.pre
  have hown : s.vm.findClass RX8 = some m.cls := findClass_of_methodNamed B.named
  have hlocks := B.notSynchronized
  subst hsz
  have hD := hD0.self (sz := s.heap.size)
  generalize hAe : va_A [] s.heap.size = A at hD hamb ⊢
  have hA : ∀ q : Nat, s.heap.size ≤ q → A q := fun q h => by rw [← hAe]; exact Or.inr h
  have hS : va_S A s.heap s.heap [] := va_S.rf
  have hP : va_P (dC, dI) vwCl [] s.heap := hP
  have hl := lv_entry ([.int p0, .int 0, .int 4]) (n := 3) (Nat.le_of_ble_eq_true rfl)
  rw [lg_entry_eq]
  generalize (lg_sl ([.int p0, .int 0, .int 4]) ++ List.replicate (3 - (lg_sl ([.int p0, .int 0, .int 4])).length) Slot.unset).toArray = ls at hl ⊢
  have hl : lv_has ls 3 [(0, .int p0), (1, .int 0), (2, .int 4)] := hl
  refine lv_iload_n hx hb dX8_isIn_0 rfl (lv_at hl 0 rfl) ?_
  refine lv_iload_n hx hb dX8_isIn_1 rfl (lv_at hl 1 rfl) ?_
  refine lv_icmp_lt (tgt := 14) hx hb dX8_isIn_2 (by decide) (fun c_1 => ?_) (fun c_1 => ?_)
  · have t_2 := b_lt (k := 0) rfl c_1
    refine lv_iconst (v := 0) hx hb dX8_isIn_14 (by decide) ?_
    refine W.widen (k := 0) (n := 0) (Nat.le_of_ble_eq_true rfl) (Nat.le_of_ble_eq_true rfl) ?_
    exact W.zret (v := 0) hx hb hr rfl (fun t ht hW => ⟨⟨0, (), rfl, ⟨fun h9 => (by first | rfl | (exfalso; omega)), fun h9 => (by first | rfl | (exfalso; omega))⟩, trivial⟩, hS.F ht⟩) hS.2.2 dX8_isIn_15
  · have t_3 := b_nlt (k := 0) rfl c_1
    refine lv_iload_n hx hb dX8_isIn_5 rfl (lv_at hl 0 rfl) ?_
    refine lv_iload_n hx hb dX8_isIn_6 rfl (lv_at hl 2 rfl) ?_
    refine lv_icmp_gt (tgt := 14) hx hb dX8_isIn_7 (by decide) (fun c_4 => ?_) (fun c_4 => ?_)
    · have t_5 := b_lt rfl c_4
      rw [show (4 : Int32).toInt = 4 from rfl] at t_5
      refine lv_iconst (v := 0) hx hb dX8_isIn_14 (by decide) ?_
      refine W.widen (k := 0) (n := 0) (Nat.le_of_ble_eq_true rfl) (Nat.le_of_ble_eq_true rfl) ?_
      exact W.zret (v := 0) hx hb hr rfl (fun t ht hW => ⟨⟨0, (), rfl, ⟨fun h9 => (by first | rfl | (exfalso; omega)), fun h9 => (by first | rfl | (exfalso; omega))⟩, trivial⟩, hS.F ht⟩) hS.2.2 dX8_isIn_15
    · have t_6 := b_nlt rfl c_4
      rw [show (4 : Int32).toInt = 4 from rfl] at t_6
      refine lv_iconst (v := 1) hx hb dX8_isIn_10 (by decide) ?_
      refine lv_goto (tgt := 15) hx hb dX8_isIn_11 (by decide) ?_
      refine W.widen (k := 0) (n := 0) (Nat.le_of_ble_eq_true rfl) (Nat.le_of_ble_eq_true rfl) ?_
      exact W.zret (v := 1) hx hb hr rfl (fun t ht hW => ⟨⟨1, (), rfl, ⟨fun h9 => (by first | rfl | (exfalso; omega)), fun h9 => (by first | rfl | (exfalso; omega))⟩, trivial⟩, hS.F ht⟩) hS.2.2 dX8_isIn_15

set_option maxHeartbeats 4000000 in
set_option maxRecDepth 100000 in
theorem c_X8_isIn_0_39 (l : Launch) (em : Nat → Nat) (dC : Nat → ClassId) (dI : Nat → Nat → Nat) (p0 : Int32) (sz : Nat) : Met l yX8_isIn wsX8_isIn ({ frames := 0, cells := 0, slots := 0, locals := 0 }) (va_Pc [.int p0, .int 0, .int 39] (Pw em dC dI sz [] [])) (va_Qi (fun (r : Int32) (_ : Unit) => ((0 ≤ p0.toInt ∧ p0.toInt ≤ 39) → r = 1) ∧ (¬ (0 ≤ p0.toInt ∧ p0.toInt ≤ 39) → r = 0)) (fun _ t => True) (va_A [] sz)) 0 0 (va_A [] sz) := by
  refine Met.ofW (cc := cX8_isIn) (maxL := 3) (ret := (some .boolean)) (by decide) rfl ?_
  intro p e s m args below meth c s₁ B hml hv
  obtain ⟨rfl, hsz, hP, hK, hD0, hamb⟩ := hv
  have hx := B.exec
  have hb := B.bytes
  have hr := B.returns
  have hts := atoms_spec (ws := wsX8_isIn) B.pre
  have hown : s.vm.findClass RX8 = some m.cls := findClass_of_methodNamed B.named
  have hlocks := B.notSynchronized
  subst hsz
  have hD := hD0.self (sz := s.heap.size)
  generalize hAe : va_A [] s.heap.size = A at hD hamb ⊢
  have hA : ∀ q : Nat, s.heap.size ≤ q → A q := fun q h => by rw [← hAe]; exact Or.inr h
  have hS : va_S A s.heap s.heap [] := va_S.rf
  have hP : va_P (dC, dI) vwCl [] s.heap := hP
  have hl := lv_entry ([.int p0, .int 0, .int 39]) (n := 3) (Nat.le_of_ble_eq_true rfl)
  rw [lg_entry_eq]
  generalize (lg_sl ([.int p0, .int 0, .int 39]) ++ List.replicate (3 - (lg_sl ([.int p0, .int 0, .int 39])).length) Slot.unset).toArray = ls at hl ⊢
  have hl : lv_has ls 3 [(0, .int p0), (1, .int 0), (2, .int 39)] := hl
  refine lv_iload_n hx hb dX8_isIn_0 rfl (lv_at hl 0 rfl) ?_
  refine lv_iload_n hx hb dX8_isIn_1 rfl (lv_at hl 1 rfl) ?_
  refine lv_icmp_lt (tgt := 14) hx hb dX8_isIn_2 (by decide) (fun c_1 => ?_) (fun c_1 => ?_)
  · have t_2 := b_lt (k := 0) rfl c_1
    refine lv_iconst (v := 0) hx hb dX8_isIn_14 (by decide) ?_
    refine W.widen (k := 0) (n := 0) (Nat.le_of_ble_eq_true rfl) (Nat.le_of_ble_eq_true rfl) ?_
    exact W.zret (v := 0) hx hb hr rfl (fun t ht hW => ⟨⟨0, (), rfl, ⟨fun h9 => (by first | rfl | (exfalso; omega)), fun h9 => (by first | rfl | (exfalso; omega))⟩, trivial⟩, hS.F ht⟩) hS.2.2 dX8_isIn_15
  · have t_3 := b_nlt (k := 0) rfl c_1
    refine lv_iload_n hx hb dX8_isIn_5 rfl (lv_at hl 0 rfl) ?_
    refine lv_iload_n hx hb dX8_isIn_6 rfl (lv_at hl 2 rfl) ?_
    refine lv_icmp_gt (tgt := 14) hx hb dX8_isIn_7 (by decide) (fun c_4 => ?_) (fun c_4 => ?_)
    · have t_5 := b_lt rfl c_4
      rw [show (39 : Int32).toInt = 39 from rfl] at t_5
      refine lv_iconst (v := 0) hx hb dX8_isIn_14 (by decide) ?_
      refine W.widen (k := 0) (n := 0) (Nat.le_of_ble_eq_true rfl) (Nat.le_of_ble_eq_true rfl) ?_
      exact W.zret (v := 0) hx hb hr rfl (fun t ht hW => ⟨⟨0, (), rfl, ⟨fun h9 => (by first | rfl | (exfalso; omega)), fun h9 => (by first | rfl | (exfalso; omega))⟩, trivial⟩, hS.F ht⟩) hS.2.2 dX8_isIn_15
    · have t_6 := b_nlt rfl c_4
      rw [show (39 : Int32).toInt = 39 from rfl] at t_6
      refine lv_iconst (v := 1) hx hb dX8_isIn_10 (by decide) ?_
      refine lv_goto (tgt := 15) hx hb dX8_isIn_11 (by decide) ?_
      refine W.widen (k := 0) (n := 0) (Nat.le_of_ble_eq_true rfl) (Nat.le_of_ble_eq_true rfl) ?_
      exact W.zret (v := 1) hx hb hr rfl (fun t ht hW => ⟨⟨1, (), rfl, ⟨fun h9 => (by first | rfl | (exfalso; omega)), fun h9 => (by first | rfl | (exfalso; omega))⟩, trivial⟩, hS.F ht⟩) hS.2.2 dX8_isIn_15

set_option maxHeartbeats 4000000 in
set_option maxRecDepth 100000 in
theorem c_X8_isIn_1_200 (l : Launch) (em : Nat → Nat) (dC : Nat → ClassId) (dI : Nat → Nat → Nat) (p0 : Int32) (sz : Nat) : Met l yX8_isIn wsX8_isIn ({ frames := 0, cells := 0, slots := 0, locals := 0 }) (va_Pc [.int p0, .int 1, .int 200] (Pw em dC dI sz [] [])) (va_Qi (fun (r : Int32) (_ : Unit) => ((1 ≤ p0.toInt ∧ p0.toInt ≤ 200) → r = 1) ∧ (¬ (1 ≤ p0.toInt ∧ p0.toInt ≤ 200) → r = 0)) (fun _ t => True) (va_A [] sz)) 0 0 (va_A [] sz) := by
  refine Met.ofW (cc := cX8_isIn) (maxL := 3) (ret := (some .boolean)) (by decide) rfl ?_
  intro p e s m args below meth c s₁ B hml hv
  obtain ⟨rfl, hsz, hP, hK, hD0, hamb⟩ := hv
  have hx := B.exec
  have hb := B.bytes
  have hr := B.returns
  have hts := atoms_spec (ws := wsX8_isIn) B.pre
  have hown : s.vm.findClass RX8 = some m.cls := findClass_of_methodNamed B.named
  have hlocks := B.notSynchronized
  subst hsz
  have hD := hD0.self (sz := s.heap.size)
  generalize hAe : va_A [] s.heap.size = A at hD hamb ⊢
  have hA : ∀ q : Nat, s.heap.size ≤ q → A q := fun q h => by rw [← hAe]; exact Or.inr h
  have hS : va_S A s.heap s.heap [] := va_S.rf
  have hP : va_P (dC, dI) vwCl [] s.heap := hP
  have hl := lv_entry ([.int p0, .int 1, .int 200]) (n := 3) (Nat.le_of_ble_eq_true rfl)
  rw [lg_entry_eq]
  generalize (lg_sl ([.int p0, .int 1, .int 200]) ++ List.replicate (3 - (lg_sl ([.int p0, .int 1, .int 200])).length) Slot.unset).toArray = ls at hl ⊢
  have hl : lv_has ls 3 [(0, .int p0), (1, .int 1), (2, .int 200)] := hl
  refine lv_iload_n hx hb dX8_isIn_0 rfl (lv_at hl 0 rfl) ?_
  refine lv_iload_n hx hb dX8_isIn_1 rfl (lv_at hl 1 rfl) ?_
  refine lv_icmp_lt (tgt := 14) hx hb dX8_isIn_2 (by decide) (fun c_1 => ?_) (fun c_1 => ?_)
  · have t_2 := b_lt (k := 1) rfl c_1
    refine lv_iconst (v := 0) hx hb dX8_isIn_14 (by decide) ?_
    refine W.widen (k := 0) (n := 0) (Nat.le_of_ble_eq_true rfl) (Nat.le_of_ble_eq_true rfl) ?_
    exact W.zret (v := 0) hx hb hr rfl (fun t ht hW => ⟨⟨0, (), rfl, ⟨fun h9 => (by first | rfl | (exfalso; omega)), fun h9 => (by first | rfl | (exfalso; omega))⟩, trivial⟩, hS.F ht⟩) hS.2.2 dX8_isIn_15
  · have t_3 := b_nlt (k := 1) rfl c_1
    refine lv_iload_n hx hb dX8_isIn_5 rfl (lv_at hl 0 rfl) ?_
    refine lv_iload_n hx hb dX8_isIn_6 rfl (lv_at hl 2 rfl) ?_
    refine lv_icmp_gt (tgt := 14) hx hb dX8_isIn_7 (by decide) (fun c_4 => ?_) (fun c_4 => ?_)
    · have t_5 := b_lt rfl c_4
      rw [show (200 : Int32).toInt = 200 from rfl] at t_5
      refine lv_iconst (v := 0) hx hb dX8_isIn_14 (by decide) ?_
      refine W.widen (k := 0) (n := 0) (Nat.le_of_ble_eq_true rfl) (Nat.le_of_ble_eq_true rfl) ?_
      exact W.zret (v := 0) hx hb hr rfl (fun t ht hW => ⟨⟨0, (), rfl, ⟨fun h9 => (by first | rfl | (exfalso; omega)), fun h9 => (by first | rfl | (exfalso; omega))⟩, trivial⟩, hS.F ht⟩) hS.2.2 dX8_isIn_15
    · have t_6 := b_nlt rfl c_4
      rw [show (200 : Int32).toInt = 200 from rfl] at t_6
      refine lv_iconst (v := 1) hx hb dX8_isIn_10 (by decide) ?_
      refine lv_goto (tgt := 15) hx hb dX8_isIn_11 (by decide) ?_
      refine W.widen (k := 0) (n := 0) (Nat.le_of_ble_eq_true rfl) (Nat.le_of_ble_eq_true rfl) ?_
      exact W.zret (v := 1) hx hb hr rfl (fun t ht hW => ⟨⟨1, (), rfl, ⟨fun h9 => (by first | rfl | (exfalso; omega)), fun h9 => (by first | rfl | (exfalso; omega))⟩, trivial⟩, hS.F ht⟩) hS.2.2 dX8_isIn_15

set_option maxHeartbeats 4000000 in
set_option maxRecDepth 100000 in
theorem c_X8_isIn_1_999 (l : Launch) (em : Nat → Nat) (dC : Nat → ClassId) (dI : Nat → Nat → Nat) (p0 : Int32) (sz : Nat) : Met l yX8_isIn wsX8_isIn ({ frames := 0, cells := 0, slots := 0, locals := 0 }) (va_Pc [.int p0, .int 1, .int 999] (Pw em dC dI sz [] [])) (va_Qi (fun (r : Int32) (_ : Unit) => ((1 ≤ p0.toInt ∧ p0.toInt ≤ 999) → r = 1) ∧ (¬ (1 ≤ p0.toInt ∧ p0.toInt ≤ 999) → r = 0)) (fun _ t => True) (va_A [] sz)) 0 0 (va_A [] sz) := by
  refine Met.ofW (cc := cX8_isIn) (maxL := 3) (ret := (some .boolean)) (by decide) rfl ?_
  intro p e s m args below meth c s₁ B hml hv
  obtain ⟨rfl, hsz, hP, hK, hD0, hamb⟩ := hv
  have hx := B.exec
  have hb := B.bytes
  have hr := B.returns
  have hts := atoms_spec (ws := wsX8_isIn) B.pre
  have hown : s.vm.findClass RX8 = some m.cls := findClass_of_methodNamed B.named
  have hlocks := B.notSynchronized
  subst hsz
  have hD := hD0.self (sz := s.heap.size)
  generalize hAe : va_A [] s.heap.size = A at hD hamb ⊢
  have hA : ∀ q : Nat, s.heap.size ≤ q → A q := fun q h => by rw [← hAe]; exact Or.inr h
  have hS : va_S A s.heap s.heap [] := va_S.rf
  have hP : va_P (dC, dI) vwCl [] s.heap := hP
  have hl := lv_entry ([.int p0, .int 1, .int 999]) (n := 3) (Nat.le_of_ble_eq_true rfl)
  rw [lg_entry_eq]
  generalize (lg_sl ([.int p0, .int 1, .int 999]) ++ List.replicate (3 - (lg_sl ([.int p0, .int 1, .int 999])).length) Slot.unset).toArray = ls at hl ⊢
  have hl : lv_has ls 3 [(0, .int p0), (1, .int 1), (2, .int 999)] := hl
  refine lv_iload_n hx hb dX8_isIn_0 rfl (lv_at hl 0 rfl) ?_
  refine lv_iload_n hx hb dX8_isIn_1 rfl (lv_at hl 1 rfl) ?_
  refine lv_icmp_lt (tgt := 14) hx hb dX8_isIn_2 (by decide) (fun c_1 => ?_) (fun c_1 => ?_)
  · have t_2 := b_lt (k := 1) rfl c_1
    refine lv_iconst (v := 0) hx hb dX8_isIn_14 (by decide) ?_
    refine W.widen (k := 0) (n := 0) (Nat.le_of_ble_eq_true rfl) (Nat.le_of_ble_eq_true rfl) ?_
    exact W.zret (v := 0) hx hb hr rfl (fun t ht hW => ⟨⟨0, (), rfl, ⟨fun h9 => (by first | rfl | (exfalso; omega)), fun h9 => (by first | rfl | (exfalso; omega))⟩, trivial⟩, hS.F ht⟩) hS.2.2 dX8_isIn_15
  · have t_3 := b_nlt (k := 1) rfl c_1
    refine lv_iload_n hx hb dX8_isIn_5 rfl (lv_at hl 0 rfl) ?_
    refine lv_iload_n hx hb dX8_isIn_6 rfl (lv_at hl 2 rfl) ?_
    refine lv_icmp_gt (tgt := 14) hx hb dX8_isIn_7 (by decide) (fun c_4 => ?_) (fun c_4 => ?_)
    · have t_5 := b_lt rfl c_4
      rw [show (999 : Int32).toInt = 999 from rfl] at t_5
      refine lv_iconst (v := 0) hx hb dX8_isIn_14 (by decide) ?_
      refine W.widen (k := 0) (n := 0) (Nat.le_of_ble_eq_true rfl) (Nat.le_of_ble_eq_true rfl) ?_
      exact W.zret (v := 0) hx hb hr rfl (fun t ht hW => ⟨⟨0, (), rfl, ⟨fun h9 => (by first | rfl | (exfalso; omega)), fun h9 => (by first | rfl | (exfalso; omega))⟩, trivial⟩, hS.F ht⟩) hS.2.2 dX8_isIn_15
    · have t_6 := b_nlt rfl c_4
      rw [show (999 : Int32).toInt = 999 from rfl] at t_6
      refine lv_iconst (v := 1) hx hb dX8_isIn_10 (by decide) ?_
      refine lv_goto (tgt := 15) hx hb dX8_isIn_11 (by decide) ?_
      refine W.widen (k := 0) (n := 0) (Nat.le_of_ble_eq_true rfl) (Nat.le_of_ble_eq_true rfl) ?_
      exact W.zret (v := 1) hx hb hr rfl (fun t ht hW => ⟨⟨1, (), rfl, ⟨fun h9 => (by first | rfl | (exfalso; omega)), fun h9 => (by first | rfl | (exfalso; omega))⟩, trivial⟩, hS.F ht⟩) hS.2.2 dX8_isIn_15

set_option maxHeartbeats 4000000 in
set_option maxRecDepth 100000 in
theorem c_X8_isIn_1_99 (l : Launch) (em : Nat → Nat) (dC : Nat → ClassId) (dI : Nat → Nat → Nat) (p0 : Int32) (sz : Nat) : Met l yX8_isIn wsX8_isIn ({ frames := 0, cells := 0, slots := 0, locals := 0 }) (va_Pc [.int p0, .int 1, .int 99] (Pw em dC dI sz [] [])) (va_Qi (fun (r : Int32) (_ : Unit) => ((1 ≤ p0.toInt ∧ p0.toInt ≤ 99) → r = 1) ∧ (¬ (1 ≤ p0.toInt ∧ p0.toInt ≤ 99) → r = 0)) (fun _ t => True) (va_A [] sz)) 0 0 (va_A [] sz) := by
  refine Met.ofW (cc := cX8_isIn) (maxL := 3) (ret := (some .boolean)) (by decide) rfl ?_
  intro p e s m args below meth c s₁ B hml hv
  obtain ⟨rfl, hsz, hP, hK, hD0, hamb⟩ := hv
  have hx := B.exec
  have hb := B.bytes
  have hr := B.returns
  have hts := atoms_spec (ws := wsX8_isIn) B.pre
  have hown : s.vm.findClass RX8 = some m.cls := findClass_of_methodNamed B.named
  have hlocks := B.notSynchronized
  subst hsz
  have hD := hD0.self (sz := s.heap.size)
  generalize hAe : va_A [] s.heap.size = A at hD hamb ⊢
  have hA : ∀ q : Nat, s.heap.size ≤ q → A q := fun q h => by rw [← hAe]; exact Or.inr h
  have hS : va_S A s.heap s.heap [] := va_S.rf
  have hP : va_P (dC, dI) vwCl [] s.heap := hP
  have hl := lv_entry ([.int p0, .int 1, .int 99]) (n := 3) (Nat.le_of_ble_eq_true rfl)
  rw [lg_entry_eq]
  generalize (lg_sl ([.int p0, .int 1, .int 99]) ++ List.replicate (3 - (lg_sl ([.int p0, .int 1, .int 99])).length) Slot.unset).toArray = ls at hl ⊢
  have hl : lv_has ls 3 [(0, .int p0), (1, .int 1), (2, .int 99)] := hl
  refine lv_iload_n hx hb dX8_isIn_0 rfl (lv_at hl 0 rfl) ?_
  refine lv_iload_n hx hb dX8_isIn_1 rfl (lv_at hl 1 rfl) ?_
  refine lv_icmp_lt (tgt := 14) hx hb dX8_isIn_2 (by decide) (fun c_1 => ?_) (fun c_1 => ?_)
  · have t_2 := b_lt (k := 1) rfl c_1
    refine lv_iconst (v := 0) hx hb dX8_isIn_14 (by decide) ?_
    refine W.widen (k := 0) (n := 0) (Nat.le_of_ble_eq_true rfl) (Nat.le_of_ble_eq_true rfl) ?_
    exact W.zret (v := 0) hx hb hr rfl (fun t ht hW => ⟨⟨0, (), rfl, ⟨fun h9 => (by first | rfl | (exfalso; omega)), fun h9 => (by first | rfl | (exfalso; omega))⟩, trivial⟩, hS.F ht⟩) hS.2.2 dX8_isIn_15
  · have t_3 := b_nlt (k := 1) rfl c_1
    refine lv_iload_n hx hb dX8_isIn_5 rfl (lv_at hl 0 rfl) ?_
    refine lv_iload_n hx hb dX8_isIn_6 rfl (lv_at hl 2 rfl) ?_
    refine lv_icmp_gt (tgt := 14) hx hb dX8_isIn_7 (by decide) (fun c_4 => ?_) (fun c_4 => ?_)
    · have t_5 := b_lt rfl c_4
      rw [show (99 : Int32).toInt = 99 from rfl] at t_5
      refine lv_iconst (v := 0) hx hb dX8_isIn_14 (by decide) ?_
      refine W.widen (k := 0) (n := 0) (Nat.le_of_ble_eq_true rfl) (Nat.le_of_ble_eq_true rfl) ?_
      exact W.zret (v := 0) hx hb hr rfl (fun t ht hW => ⟨⟨0, (), rfl, ⟨fun h9 => (by first | rfl | (exfalso; omega)), fun h9 => (by first | rfl | (exfalso; omega))⟩, trivial⟩, hS.F ht⟩) hS.2.2 dX8_isIn_15
    · have t_6 := b_nlt rfl c_4
      rw [show (99 : Int32).toInt = 99 from rfl] at t_6
      refine lv_iconst (v := 1) hx hb dX8_isIn_10 (by decide) ?_
      refine lv_goto (tgt := 15) hx hb dX8_isIn_11 (by decide) ?_
      refine W.widen (k := 0) (n := 0) (Nat.le_of_ble_eq_true rfl) (Nat.le_of_ble_eq_true rfl) ?_
      exact W.zret (v := 1) hx hb hr rfl (fun t ht hW => ⟨⟨1, (), rfl, ⟨fun h9 => (by first | rfl | (exfalso; omega)), fun h9 => (by first | rfl | (exfalso; omega))⟩, trivial⟩, hS.F ht⟩) hS.2.2 dX8_isIn_15

set_option maxHeartbeats 4000000 in
set_option maxRecDepth 100000 in
theorem c_X8_isIn_0_99 (l : Launch) (em : Nat → Nat) (dC : Nat → ClassId) (dI : Nat → Nat → Nat) (p0 : Int32) (sz : Nat) : Met l yX8_isIn wsX8_isIn ({ frames := 0, cells := 0, slots := 0, locals := 0 }) (va_Pc [.int p0, .int 0, .int 99] (Pw em dC dI sz [] [])) (va_Qi (fun (r : Int32) (_ : Unit) => ((0 ≤ p0.toInt ∧ p0.toInt ≤ 99) → r = 1) ∧ (¬ (0 ≤ p0.toInt ∧ p0.toInt ≤ 99) → r = 0)) (fun _ t => True) (va_A [] sz)) 0 0 (va_A [] sz) := by
  refine Met.ofW (cc := cX8_isIn) (maxL := 3) (ret := (some .boolean)) (by decide) rfl ?_
  intro p e s m args below meth c s₁ B hml hv
  obtain ⟨rfl, hsz, hP, hK, hD0, hamb⟩ := hv
  have hx := B.exec
  have hb := B.bytes
  have hr := B.returns
  have hts := atoms_spec (ws := wsX8_isIn) B.pre
  have hown : s.vm.findClass RX8 = some m.cls := findClass_of_methodNamed B.named
  have hlocks := B.notSynchronized
  subst hsz
  have hD := hD0.self (sz := s.heap.size)
  generalize hAe : va_A [] s.heap.size = A at hD hamb ⊢
  have hA : ∀ q : Nat, s.heap.size ≤ q → A q := fun q h => by rw [← hAe]; exact Or.inr h
  have hS : va_S A s.heap s.heap [] := va_S.rf
  have hP : va_P (dC, dI) vwCl [] s.heap := hP
  have hl := lv_entry ([.int p0, .int 0, .int 99]) (n := 3) (Nat.le_of_ble_eq_true rfl)
  rw [lg_entry_eq]
  generalize (lg_sl ([.int p0, .int 0, .int 99]) ++ List.replicate (3 - (lg_sl ([.int p0, .int 0, .int 99])).length) Slot.unset).toArray = ls at hl ⊢
  have hl : lv_has ls 3 [(0, .int p0), (1, .int 0), (2, .int 99)] := hl
  refine lv_iload_n hx hb dX8_isIn_0 rfl (lv_at hl 0 rfl) ?_
  refine lv_iload_n hx hb dX8_isIn_1 rfl (lv_at hl 1 rfl) ?_
  refine lv_icmp_lt (tgt := 14) hx hb dX8_isIn_2 (by decide) (fun c_1 => ?_) (fun c_1 => ?_)
  · have t_2 := b_lt (k := 0) rfl c_1
    refine lv_iconst (v := 0) hx hb dX8_isIn_14 (by decide) ?_
    refine W.widen (k := 0) (n := 0) (Nat.le_of_ble_eq_true rfl) (Nat.le_of_ble_eq_true rfl) ?_
    exact W.zret (v := 0) hx hb hr rfl (fun t ht hW => ⟨⟨0, (), rfl, ⟨fun h9 => (by first | rfl | (exfalso; omega)), fun h9 => (by first | rfl | (exfalso; omega))⟩, trivial⟩, hS.F ht⟩) hS.2.2 dX8_isIn_15
  · have t_3 := b_nlt (k := 0) rfl c_1
    refine lv_iload_n hx hb dX8_isIn_5 rfl (lv_at hl 0 rfl) ?_
    refine lv_iload_n hx hb dX8_isIn_6 rfl (lv_at hl 2 rfl) ?_
    refine lv_icmp_gt (tgt := 14) hx hb dX8_isIn_7 (by decide) (fun c_4 => ?_) (fun c_4 => ?_)
    · have t_5 := b_lt rfl c_4
      rw [show (99 : Int32).toInt = 99 from rfl] at t_5
      refine lv_iconst (v := 0) hx hb dX8_isIn_14 (by decide) ?_
      refine W.widen (k := 0) (n := 0) (Nat.le_of_ble_eq_true rfl) (Nat.le_of_ble_eq_true rfl) ?_
      exact W.zret (v := 0) hx hb hr rfl (fun t ht hW => ⟨⟨0, (), rfl, ⟨fun h9 => (by first | rfl | (exfalso; omega)), fun h9 => (by first | rfl | (exfalso; omega))⟩, trivial⟩, hS.F ht⟩) hS.2.2 dX8_isIn_15
    · have t_6 := b_nlt rfl c_4
      rw [show (99 : Int32).toInt = 99 from rfl] at t_6
      refine lv_iconst (v := 1) hx hb dX8_isIn_10 (by decide) ?_
      refine lv_goto (tgt := 15) hx hb dX8_isIn_11 (by decide) ?_
      refine W.widen (k := 0) (n := 0) (Nat.le_of_ble_eq_true rfl) (Nat.le_of_ble_eq_true rfl) ?_
      exact W.zret (v := 1) hx hb hr rfl (fun t ht hW => ⟨⟨1, (), rfl, ⟨fun h9 => (by first | rfl | (exfalso; omega)), fun h9 => (by first | rfl | (exfalso; omega))⟩, trivial⟩, hS.F ht⟩) hS.2.2 dX8_isIn_15

set_option maxHeartbeats 4000000 in
set_option maxRecDepth 100000 in
theorem c_X8_isIn_none (l : Launch) (em : Nat → Nat) (dC : Nat → ClassId) (dI : Nat → Nat → Nat) (p0 : Int32) (sz : Nat) : Met l yX8_isIn wsX8_isIn ({ frames := 0, cells := 0, slots := 0, locals := 0 }) (va_Pc [.int p0, .int 0, .int (-1)] (Pw em dC dI sz [] [])) (va_Qi (fun (r : Int32) (_ : Unit) => r = 0) (fun _ t => True) (va_A [] sz)) 0 0 (va_A [] sz) := by
  refine Met.ofW (cc := cX8_isIn) (maxL := 3) (ret := (some .boolean)) (by decide) rfl ?_
  intro p e s m args below meth c s₁ B hml hv
  obtain ⟨rfl, hsz, hP, hK, hD0, hamb⟩ := hv
  have hx := B.exec
  have hb := B.bytes
  have hr := B.returns
  have hts := atoms_spec (ws := wsX8_isIn) B.pre
  have hown : s.vm.findClass RX8 = some m.cls := findClass_of_methodNamed B.named
  have hlocks := B.notSynchronized
  subst hsz
  have hD := hD0.self (sz := s.heap.size)
  generalize hAe : va_A [] s.heap.size = A at hD hamb ⊢
  have hA : ∀ q : Nat, s.heap.size ≤ q → A q := fun q h => by rw [← hAe]; exact Or.inr h
  have hS : va_S A s.heap s.heap [] := va_S.rf
  have hP : va_P (dC, dI) vwCl [] s.heap := hP
  have hl := lv_entry ([.int p0, .int 0, .int (-1)]) (n := 3) (Nat.le_of_ble_eq_true rfl)
  rw [lg_entry_eq]
  generalize (lg_sl ([.int p0, .int 0, .int (-1)]) ++ List.replicate (3 - (lg_sl ([.int p0, .int 0, .int (-1)])).length) Slot.unset).toArray = ls at hl ⊢
  have hl : lv_has ls 3 [(0, .int p0), (1, .int 0), (2, .int (-1))] := hl
  refine lv_iload_n hx hb dX8_isIn_0 rfl (lv_at hl 0 rfl) ?_
  refine lv_iload_n hx hb dX8_isIn_1 rfl (lv_at hl 1 rfl) ?_
  refine lv_icmp_lt (tgt := 14) hx hb dX8_isIn_2 (by decide) (fun c_1 => ?_) (fun c_1 => ?_)
  · have t_2 := b_lt (k := 0) rfl c_1
    refine lv_iconst (v := 0) hx hb dX8_isIn_14 (by decide) ?_
    refine W.widen (k := 0) (n := 0) (Nat.le_of_ble_eq_true rfl) (Nat.le_of_ble_eq_true rfl) ?_
    exact W.zret (v := 0) hx hb hr rfl (fun t ht hW => ⟨⟨0, (), rfl, rfl, trivial⟩, hS.F ht⟩) hS.2.2 dX8_isIn_15
  · have t_3 := b_nlt (k := 0) rfl c_1
    refine lv_iload_n hx hb dX8_isIn_5 rfl (lv_at hl 0 rfl) ?_
    refine lv_iload_n hx hb dX8_isIn_6 rfl (lv_at hl 2 rfl) ?_
    refine lv_icmp_gt (tgt := 14) hx hb dX8_isIn_7 (by decide) (fun c_4 => ?_) (fun c_4 => ?_)
    · have t_5 := b_lt rfl c_4
      rw [show ((-1) : Int32).toInt = -1 from rfl] at t_5
      refine lv_iconst (v := 0) hx hb dX8_isIn_14 (by decide) ?_
      refine W.widen (k := 0) (n := 0) (Nat.le_of_ble_eq_true rfl) (Nat.le_of_ble_eq_true rfl) ?_
      exact W.zret (v := 0) hx hb hr rfl (fun t ht hW => ⟨⟨0, (), rfl, rfl, trivial⟩, hS.F ht⟩) hS.2.2 dX8_isIn_15
    · have t_6 := b_nlt rfl c_4
      rw [show ((-1) : Int32).toInt = -1 from rfl] at t_6
      exfalso; omega

set_option maxHeartbeats 4000000 in
set_option maxRecDepth 100000 in
theorem c_X8_isNoColour (l : Launch) (em : Nat → Nat) (dC : Nat → ClassId) (dI : Nat → Nat → Nat) (p0 : Int32) (sz : Nat) : Met l yX8_isNoColour wsX8_isNoColour ({ frames := 1, cells := 0, slots := 0, locals := 22 }) (va_Pc [.int p0] (Pw em dC dI sz [] [])) (va_Qi (fun (r : Int32) (_ : Unit) => ((p0.toInt < 0 ∨ 7 < p0.toInt) → r = 1) ∧ (¬ (p0.toInt < 0 ∨ 7 < p0.toInt) → r = 0)) (fun _ t => True) (va_A [] sz)) 0 0 (va_A [] sz) := by
  refine Met.ofW (cc := cX8_isNoColour) (maxL := 1) (ret := (some .boolean)) (by decide) rfl ?_
  intro p e s m args below meth c s₁ B hml hv
  obtain ⟨rfl, hsz, hP, hK, hD0, hamb⟩ := hv
  have hx := B.exec
  have hb := B.bytes
  have hr := B.returns
  have hts := atoms_spec (ws := wsX8_isNoColour) B.pre
  have hown : s.vm.findClass RX8 = some m.cls := findClass_of_methodNamed B.named
  have hlocks := B.notSynchronized
  subst hsz
  have hD := hD0.self (sz := s.heap.size)
  generalize hAe : va_A [] s.heap.size = A at hD hamb ⊢
  have hA : ∀ q : Nat, s.heap.size ≤ q → A q := fun q h => by rw [← hAe]; exact Or.inr h
  have hS : va_S A s.heap s.heap [] := va_S.rf
  have hP : va_P (dC, dI) vwCl [] s.heap := hP
  have hl := lv_entry ([.int p0]) (n := 1) (Nat.le_of_ble_eq_true rfl)
  rw [lg_entry_eq]
  generalize (lg_sl ([.int p0]) ++ List.replicate (1 - (lg_sl ([.int p0])).length) Slot.unset).toArray = ls at hl ⊢
  have hl : lv_has ls 1 [(0, .int p0)] := hl
  refine lv_iload_n hx hb dX8_isNoColour_0 rfl (lv_at hl 0 rfl) ?_
  refine lv_iconst (v := 0) hx hb dX8_isNoColour_1 (by decide) ?_
  refine lv_bipush (v := 7) hx hb dX8_isNoColour_2 (by decide) ?_
  have hPc := hP.sub (ws' := []) [] rfl
  have hDc := hD.sub (ws' := []) [] (by decide) rfl
  have hKc := hK.sub (tys' := []) [] rfl
  have hFc := va_free (wc := []) hD hS hA [] rfl
  refine va_calli (va_runS (As := [.int p0, .int 0, .int 7]) (rest := []) ⟨hx, hb, hml, hown, hts⟩ (c_X8_isIn_0_7 l em dC dI p0 s.heap.size) (va_cwS 3 hts gX8_isNoColour_X8_isIn rfl rfl rfl (by decide +kernel) ⟨Nat.le_of_ble_eq_true rfl, Nat.le_of_ble_eq_true rfl⟩) ⟨Pw.blind _ _ _ _ _ _ _, fun U hU hW => ⟨rfl, Pw.go hPc hKc hDc hamb hS hFc hU hW⟩⟩ rfl rfl hl.1 rfl (lv_room (Nat.le_of_ble_eq_true rfl)) dX8_isNoColour_4 ⟨Nat.le_of_ble_eq_true rfl, Nat.le_of_ble_eq_true rfl⟩) hS (fun q _ h => hFc q h) hFc (fun r_1 u t H1 locs1 ht hvm hw hB hz1 hk1 hS => ?_)
  obtain ⟨hP, hD⟩ := va_rest (wr := []) hP hD [] [] rfl rfl (by decide) (by decide) hk1 hFc
  generalize H1 = H at hP hS ⊢
  refine W.widen (k := 0) (n := 0) (Nat.le_of_ble_eq_true rfl) (Nat.le_of_ble_eq_true rfl) ?_
  have hw : ((0 ≤ p0.toInt ∧ p0.toInt ≤ 7) → r_1 = 1) ∧ (¬ (0 ≤ p0.toInt ∧ p0.toInt ≤ 7) → r_1 = 0) := hw
  rcases Classical.em (0 ≤ p0.toInt ∧ p0.toInt ≤ 7) with t_2 | t_2
  · have hw := hw.1 t_2
    rw [hw]
    refine lv_if_ne (tgt := 14) hx hb dX8_isNoColour_7 (by decide) (fun c_3 => ?_) (fun c_3 => ?_)
    · refine lv_iconst (v := 0) hx hb dX8_isNoColour_14 (by decide) ?_
      refine W.widen (k := 0) (n := 0) (Nat.le_of_ble_eq_true rfl) (Nat.le_of_ble_eq_true rfl) ?_
      exact W.zret (v := 0) hx hb hr rfl (fun t ht hW => ⟨⟨0, (), rfl, ⟨fun h9 => (by first | rfl | (exfalso; omega)), fun h9 => (by first | rfl | (exfalso; omega))⟩, trivial⟩, hS.F ht⟩) hS.2.2 dX8_isNoColour_15
    · exact absurd c_3 (by decide)
  · have hw := hw.2 t_2
    rw [hw]
    refine lv_if_ne (tgt := 14) hx hb dX8_isNoColour_7 (by decide) (fun c_4 => ?_) (fun c_4 => ?_)
    · exact absurd (by decide) c_4
    · refine lv_iconst (v := 1) hx hb dX8_isNoColour_10 (by decide) ?_
      refine lv_goto (tgt := 15) hx hb dX8_isNoColour_11 (by decide) ?_
      refine W.widen (k := 0) (n := 0) (Nat.le_of_ble_eq_true rfl) (Nat.le_of_ble_eq_true rfl) ?_
      exact W.zret (v := 1) hx hb hr rfl (fun t ht hW => ⟨⟨1, (), rfl, ⟨fun h9 => (by first | rfl | (exfalso; omega)), fun h9 => (by first | rfl | (exfalso; omega))⟩, trivial⟩, hS.F ht⟩) hS.2.2 dX8_isNoColour_15

set_option maxHeartbeats 4000000 in
set_option maxRecDepth 100000 in
theorem c_X8_isThrown_0 (l : Launch) (em : Nat → Nat) (dC : Nat → ClassId) (dI : Nat → Nat → Nat) (m0 : Nat) (p2 : Int32) (g0 : Value) (g1 : Value) (g2 : Value) (g3 : Value) (g4 : Value) (g5 : Value) (g6 : Value) (g7 : Value) (g8 : Value) (sz : Nat) : Met l yX8_isThrown wsX8_isThrown ({ frames := 0, cells := 0, slots := 0, locals := 0 }) (va_Pc [.ref m0, .int 0, .int p2] (Pw em dC dI sz [(m0, .inr (14, [g0, g1, g2, g3, g4, g5, g6, g7, g8]))] [])) (va_Qi (fun (r : Int32) (_ : Unit) => r = 0) (fun _ t => Qw dC dI (va_A [(m0, .inr (14, [g0, g1, g2, g3, g4, g5, g6, g7, g8]))] sz) [(m0, .inr (14, [g0, g1, g2, g3, g4, g5, g6, g7, .int 0]))] [] t) (va_A [(m0, .inr (14, [g0, g1, g2, g3, g4, g5, g6, g7, g8]))] sz)) 0 0 (va_A [(m0, .inr (14, [g0, g1, g2, g3, g4, g5, g6, g7, g8]))] sz) := by
  refine Met.ofW (cc := cX8_isThrown) (maxL := 3) (ret := (some .boolean)) (by decide) rfl ?_
  intro p e s m args below meth c s₁ B hml hv
  obtain ⟨rfl, hsz, hP, hK, hD0, hamb⟩ := hv
  have hx := B.exec
  have hb := B.bytes
  have hr := B.returns
  have hts := atoms_spec (ws := wsX8_isThrown) B.pre
  have hown : s.vm.findClass RX8 = some m.cls := findClass_of_methodNamed B.named
  have hlocks := B.notSynchronized
  subst hsz
  have hD := hD0.self (sz := s.heap.size)
  generalize hAe : va_A [(m0, .inr (14, [g0, g1, g2, g3, g4, g5, g6, g7, g8]))] s.heap.size = A at hD hamb ⊢
  have hA : ∀ q : Nat, s.heap.size ≤ q → A q := fun q h => by rw [← hAe]; exact Or.inr h
  have hS : va_S A s.heap s.heap [] := va_S.rf
  have hP : va_P (dC, dI) vwCl [(m0, .inr (14, [g0, g1, g2, g3, g4, g5, g6, g7, g8]))] s.heap := hP
  have hl := lv_entry ([.ref m0, .int 0, .int p2]) (n := 3) (Nat.le_of_ble_eq_true rfl)
  rw [lg_entry_eq]
  generalize (lg_sl ([.ref m0, .int 0, .int p2]) ++ List.replicate (3 - (lg_sl ([.ref m0, .int 0, .int p2])).length) Slot.unset).toArray = ls at hl ⊢
  have hl : lv_has ls 3 [(0, .ref m0), (1, .int 0), (2, .int p2)] := hl
  refine lv_aload_n hx hb dX8_isThrown_0 rfl (lv_at hl 0 rfl) ?_
  refine lv_iload_n hx hb dX8_isThrown_1 rfl (lv_at hl 1 rfl) ?_
  refine lv_if_eq (tgt := 9) hx hb dX8_isThrown_2 (by decide) (fun c_1 => ?_) (fun c_1 => ?_)
  · refine lv_iconst (v := 0) hx hb dX8_isThrown_9 (by decide) ?_
    refine va_put (D := (dC, dI)) (ci := 14) (v := .int 0) (ty := .int) (C := RX8) (T := TX8) (N := 9) hx hb hts (by decide +kernel) tyX8 tyX8_ok nmX8 hown hK hP hD hS 0 rfl rfl 8 (by decide) (hts (.fieldLink RX8 46 "BothfacesModel" "thrown" "I") (by decide +kernel)) (fun _ h9 => h9) rfl (by decide +kernel) rfl rfl (Nat.le_of_ble_eq_true rfl) dX8_isThrown_10 (fun H locs hP hD hS => ?_)
    have hP : va_P (dC, dI) vwCl [(m0, .inr (14, [g0, g1, g2, g3, g4, g5, g6, g7, .int 0]))] H := hP
    have hD : va_D A [(m0, .inr (14, [g0, g1, g2, g3, g4, g5, g6, g7, .int 0]))] := hD
    refine lv_iload_n hx hb dX8_isThrown_13 rfl (lv_at hl 1 rfl) ?_
    refine W.widen (k := 0) (n := 0) (Nat.le_of_ble_eq_true rfl) (Nat.le_of_ble_eq_true rfl) ?_
    have hP9 := hP.sub (ws' := [(m0, .inr (14, [g0, g1, g2, g3, g4, g5, g6, g7, .int 0]))]) [0] rfl
    have hD9 := hD.sub (ws' := [(m0, .inr (14, [g0, g1, g2, g3, g4, g5, g6, g7, .int 0]))]) [0] (by decide) rfl
    have hK9 := hK.sub (tys' := []) [] rfl
    exact W.zret (v := 0) hx hb hr rfl (fun t ht hW => ⟨⟨0, (), rfl, rfl, ⟨by rw [ht]; exact hP9, va_K.moved hW.alike hK9, hD9⟩⟩, hS.F ht⟩) hS.2.2 dX8_isThrown_14
  · exact absurd (by decide) c_1

set_option maxHeartbeats 4000000 in
set_option maxRecDepth 100000 in
theorem c_X8_isThrown_1 (l : Launch) (em : Nat → Nat) (dC : Nat → ClassId) (dI : Nat → Nat → Nat) (m0 : Nat) (p2 : Int32) (g0 : Value) (g1 : Value) (g2 : Value) (g3 : Value) (g4 : Value) (g5 : Value) (g6 : Value) (g7 : Value) (g8 : Value) (sz : Nat) : Met l yX8_isThrown wsX8_isThrown ({ frames := 0, cells := 0, slots := 0, locals := 0 }) (va_Pc [.ref m0, .int 1, .int p2] (Pw em dC dI sz [(m0, .inr (14, [g0, g1, g2, g3, g4, g5, g6, g7, g8]))] [])) (va_Qi (fun (r : Int32) (_ : Unit) => r = 1) (fun _ t => Qw dC dI (va_A [(m0, .inr (14, [g0, g1, g2, g3, g4, g5, g6, g7, g8]))] sz) [(m0, .inr (14, [g0, g1, g2, g3, g4, g5, g6, g7, .int p2]))] [] t) (va_A [(m0, .inr (14, [g0, g1, g2, g3, g4, g5, g6, g7, g8]))] sz)) 0 0 (va_A [(m0, .inr (14, [g0, g1, g2, g3, g4, g5, g6, g7, g8]))] sz) := by
  refine Met.ofW (cc := cX8_isThrown) (maxL := 3) (ret := (some .boolean)) (by decide) rfl ?_
  intro p e s m args below meth c s₁ B hml hv
  obtain ⟨rfl, hsz, hP, hK, hD0, hamb⟩ := hv
  have hx := B.exec
  have hb := B.bytes
  have hr := B.returns
  have hts := atoms_spec (ws := wsX8_isThrown) B.pre
  have hown : s.vm.findClass RX8 = some m.cls := findClass_of_methodNamed B.named
  have hlocks := B.notSynchronized
  subst hsz
  have hD := hD0.self (sz := s.heap.size)
  generalize hAe : va_A [(m0, .inr (14, [g0, g1, g2, g3, g4, g5, g6, g7, g8]))] s.heap.size = A at hD hamb ⊢
  have hA : ∀ q : Nat, s.heap.size ≤ q → A q := fun q h => by rw [← hAe]; exact Or.inr h
  have hS : va_S A s.heap s.heap [] := va_S.rf
  have hP : va_P (dC, dI) vwCl [(m0, .inr (14, [g0, g1, g2, g3, g4, g5, g6, g7, g8]))] s.heap := hP
  have hl := lv_entry ([.ref m0, .int 1, .int p2]) (n := 3) (Nat.le_of_ble_eq_true rfl)
  rw [lg_entry_eq]
  generalize (lg_sl ([.ref m0, .int 1, .int p2]) ++ List.replicate (3 - (lg_sl ([.ref m0, .int 1, .int p2])).length) Slot.unset).toArray = ls at hl ⊢
  have hl : lv_has ls 3 [(0, .ref m0), (1, .int 1), (2, .int p2)] := hl
  refine lv_aload_n hx hb dX8_isThrown_0 rfl (lv_at hl 0 rfl) ?_
  refine lv_iload_n hx hb dX8_isThrown_1 rfl (lv_at hl 1 rfl) ?_
  refine lv_if_eq (tgt := 9) hx hb dX8_isThrown_2 (by decide) (fun c_1 => ?_) (fun c_1 => ?_)
  · exact absurd c_1 (by decide)
  · refine lv_iload_n hx hb dX8_isThrown_5 rfl (lv_at hl 2 rfl) ?_
    refine lv_goto (tgt := 10) hx hb dX8_isThrown_6 (by decide) ?_
    refine va_put (D := (dC, dI)) (ci := 14) (v := .int p2) (ty := .int) (C := RX8) (T := TX8) (N := 9) hx hb hts (by decide +kernel) tyX8 tyX8_ok nmX8 hown hK hP hD hS 0 rfl rfl 8 (by decide) (hts (.fieldLink RX8 46 "BothfacesModel" "thrown" "I") (by decide +kernel)) (fun _ h9 => h9) rfl (by decide +kernel) rfl rfl (Nat.le_of_ble_eq_true rfl) dX8_isThrown_10 (fun H locs hP hD hS => ?_)
    have hP : va_P (dC, dI) vwCl [(m0, .inr (14, [g0, g1, g2, g3, g4, g5, g6, g7, .int p2]))] H := hP
    have hD : va_D A [(m0, .inr (14, [g0, g1, g2, g3, g4, g5, g6, g7, .int p2]))] := hD
    refine lv_iload_n hx hb dX8_isThrown_13 rfl (lv_at hl 1 rfl) ?_
    refine W.widen (k := 0) (n := 0) (Nat.le_of_ble_eq_true rfl) (Nat.le_of_ble_eq_true rfl) ?_
    have hP9 := hP.sub (ws' := [(m0, .inr (14, [g0, g1, g2, g3, g4, g5, g6, g7, .int p2]))]) [0] rfl
    have hD9 := hD.sub (ws' := [(m0, .inr (14, [g0, g1, g2, g3, g4, g5, g6, g7, .int p2]))]) [0] (by decide) rfl
    have hK9 := hK.sub (tys' := []) [] rfl
    exact W.zret (v := 1) hx hb hr rfl (fun t ht hW => ⟨⟨1, (), rfl, rfl, ⟨by rw [ht]; exact hP9, va_K.moved hW.alike hK9, hD9⟩⟩, hS.F ht⟩) hS.2.2 dX8_isThrown_14

set_option maxHeartbeats 4000000 in
set_option maxRecDepth 100000 in
theorem c_X8_thrown (l : Launch) (em : Nat → Nat) (dC : Nat → ClassId) (dI : Nat → Nat → Nat) (m0 : Nat) (tv : Int32) (g0 : Value) (g1 : Value) (g2 : Value) (g3 : Value) (g4 : Value) (g5 : Value) (g6 : Value) (g7 : Value) (sz : Nat) : Met l yX8_thrown wsX8_thrown ({ frames := 0, cells := 0, slots := 0, locals := 0 }) (va_Pc [.ref m0] (Pw em dC dI sz [(m0, .inr (14, [g0, g1, g2, g3, g4, g5, g6, g7, .int tv]))] [])) (va_Qi (fun (r : Int32) (_ : Unit) => r = tv) (fun _ t => True) (va_A [(m0, .inr (14, [g0, g1, g2, g3, g4, g5, g6, g7, .int tv]))] sz)) 0 0 (va_A [(m0, .inr (14, [g0, g1, g2, g3, g4, g5, g6, g7, .int tv]))] sz) := by
  refine Met.ofW (cc := cX8_thrown) (maxL := 1) (ret := (some .int)) (by decide) rfl ?_
  intro p e s m args below meth c s₁ B hml hv
  obtain ⟨rfl, hsz, hP, hK, hD0, hamb⟩ := hv
  have hx := B.exec
  have hb := B.bytes
  have hr := B.returns
  have hts := atoms_spec (ws := wsX8_thrown) B.pre
  have hown : s.vm.findClass RX8 = some m.cls := findClass_of_methodNamed B.named
  have hlocks := B.notSynchronized
  subst hsz
  have hD := hD0.self (sz := s.heap.size)
  generalize hAe : va_A [(m0, .inr (14, [g0, g1, g2, g3, g4, g5, g6, g7, .int tv]))] s.heap.size = A at hD hamb ⊢
  have hA : ∀ q : Nat, s.heap.size ≤ q → A q := fun q h => by rw [← hAe]; exact Or.inr h
  have hS : va_S A s.heap s.heap [] := va_S.rf
  have hP : va_P (dC, dI) vwCl [(m0, .inr (14, [g0, g1, g2, g3, g4, g5, g6, g7, .int tv]))] s.heap := hP
  have hl := lv_entry ([.ref m0]) (n := 1) (Nat.le_of_ble_eq_true rfl)
  rw [lg_entry_eq]
  generalize (lg_sl ([.ref m0]) ++ List.replicate (1 - (lg_sl ([.ref m0])).length) Slot.unset).toArray = ls at hl ⊢
  have hl : lv_has ls 1 [(0, .ref m0)] := hl
  refine lv_aload_n hx hb dX8_thrown_0 rfl (lv_at hl 0 rfl) ?_
  refine va_get (D := (dC, dI)) (ci := 14) (v := .int tv) (C := RX8) (T := TX8) (N := 9) hx hb hts (by decide +kernel) hown hK hP 0 rfl rfl 8 (by decide) (hts (.fieldLink RX8 46 "BothfacesModel" "thrown" "I") (by decide +kernel)) (fun _ h9 => h9) rfl dX8_thrown_1 ?_
  refine W.widen (k := 0) (n := 0) (Nat.le_of_ble_eq_true rfl) (Nat.le_of_ble_eq_true rfl) ?_
  exact W.iret (v := tv) hx hb hr (fun t ht hW => ⟨⟨tv, (), rfl, rfl, trivial⟩, hS.F ht⟩) hS.2.2 dX8_thrown_4

set_option maxHeartbeats 4000000 in
set_option maxRecDepth 100000 in
theorem c_X8_isNoCard (l : Launch) (em : Nat → Nat) (dC : Nat → ClassId) (dI : Nat → Nat → Nat) (m0 : Nat) (p0 : Int32) (g1 : Value) (g2 : Value) (g3 : Value) (g4 : Value) (g5 : Value) (g6 : Value) (g7 : Value) (g8 : Value) (lc : Nat) (vlc : Value) (sz : Nat) : Met l yX8_isNoCard wsX8_isNoCard ({ frames := 1, cells := 0, slots := 0, locals := 22 }) (va_Pc [.ref m0, .int p0] (Pw em dC dI sz [(m0, .inr (14, [.ref lc, g1, g2, g3, g4, g5, g6, g7, g8])), (lc, .inr (5, [.int 0, vlc, .int 0]))] [])) (va_Qi (fun (r : Int32) (_ : Unit) => r = 1) (fun _ t => Qw dC dI (va_A [(m0, .inr (14, [.ref lc, g1, g2, g3, g4, g5, g6, g7, g8])), (lc, .inr (5, [.int 0, vlc, .int 0]))] sz) [(m0, .inr (14, [.ref lc, g1, g2, g3, g4, g5, g6, g7, g8])), (lc, .inr (5, [.int 0, vlc, .int 0]))] [] t) (va_A [(m0, .inr (14, [.ref lc, g1, g2, g3, g4, g5, g6, g7, g8])), (lc, .inr (5, [.int 0, vlc, .int 0]))] sz)) 0 0 (va_A [(m0, .inr (14, [.ref lc, g1, g2, g3, g4, g5, g6, g7, g8])), (lc, .inr (5, [.int 0, vlc, .int 0]))] sz) := by
  refine Met.ofW (cc := cX8_isNoCard) (maxL := 2) (ret := (some .boolean)) (by decide) rfl ?_
  intro p e s m args below meth c s₁ B hml hv
  obtain ⟨rfl, hsz, hP, hK, hD0, hamb⟩ := hv
  have hx := B.exec
  have hb := B.bytes
  have hr := B.returns
  have hts := atoms_spec (ws := wsX8_isNoCard) B.pre
  have hown : s.vm.findClass RX8 = some m.cls := findClass_of_methodNamed B.named
  have hlocks := B.notSynchronized
  subst hsz
  have hD := hD0.self (sz := s.heap.size)
  generalize hAe : va_A [(m0, .inr (14, [.ref lc, g1, g2, g3, g4, g5, g6, g7, g8])), (lc, .inr (5, [.int 0, vlc, .int 0]))] s.heap.size = A at hD hamb ⊢
  have hA : ∀ q : Nat, s.heap.size ≤ q → A q := fun q h => by rw [← hAe]; exact Or.inr h
  have hS : va_S A s.heap s.heap [] := va_S.rf
  have hP : va_P (dC, dI) vwCl [(m0, .inr (14, [.ref lc, g1, g2, g3, g4, g5, g6, g7, g8])), (lc, .inr (5, [.int 0, vlc, .int 0]))] s.heap := hP
  have hl := lv_entry ([.ref m0, .int p0]) (n := 2) (Nat.le_of_ble_eq_true rfl)
  rw [lg_entry_eq]
  generalize (lg_sl ([.ref m0, .int p0]) ++ List.replicate (2 - (lg_sl ([.ref m0, .int p0])).length) Slot.unset).toArray = ls at hl ⊢
  have hl : lv_has ls 2 [(0, .ref m0), (1, .int p0)] := hl
  refine lv_iload_n hx hb dX8_isNoCard_0 rfl (lv_at hl 1 rfl) ?_
  refine lv_iconst (v := 0) hx hb dX8_isNoCard_1 (by decide) ?_
  refine lv_aload_n hx hb dX8_isNoCard_2 rfl (lv_at hl 0 rfl) ?_
  refine va_get (D := (dC, dI)) (ci := 14) (v := .ref lc) (C := RX8) (T := TX8) (N := 9) hx hb hts (by decide +kernel) hown hK hP 0 rfl rfl 0 (by decide) (hts (.fieldLink RX8 10 "BothfacesModel" "cards" "Ljava/util/ArrayList;") (by decide +kernel)) (fun _ h9 => h9) rfl dX8_isNoCard_3 ?_
  have hPc := hP.sub (ws' := [(lc, .inr (5, [.int 0, vlc, .int 0]))]) [1] rfl
  have hDc := hD.sub (ws' := [(lc, .inr (5, [.int 0, vlc, .int 0]))]) [1] (by decide) rfl
  have hKc := hK.sub (tys' := []) [] rfl
  have hFc := va_free (wc := [(lc, .inr (5, [.int 0, vlc, .int 0]))]) hD hS hA [1] rfl
  refine va_calli (va_runV (As := []) (rest := [.int 0, .int p0]) ⟨hx, hb, hml, hown, hts⟩ (c_Jx4a65c_size_8abf5 l em dC dI lc (.int 0) vlc s.heap.size) (cwV 0 hts gX8_isNoCard_Jx4a65c_size_8abf5 rfl rfl rfl (by decide +kernel) ⟨Nat.le_of_ble_eq_true rfl, Nat.le_of_ble_eq_true rfl⟩) ⟨Pw.blind _ _ _ _ _ _ _, va_recv hKc hPc (ci := 5) (q0 := 0) rfl rfl, fun U hU hW => ⟨rfl, Pw.go hPc hKc hDc hamb hS hFc hU hW⟩⟩ rfl rfl hl.1 rfl (lv_room (Nat.le_of_ble_eq_true rfl)) dX8_isNoCard_6 ⟨Nat.le_of_ble_eq_true rfl, Nat.le_of_ble_eq_true rfl⟩) hS (fun q _ h => hFc q h) hFc (fun r_1 u t H1 locs1 ht hvm hw hB hz1 hk1 hS => ?_)
  obtain ⟨hP1, hK1, hD1⟩ := hB
  rw [ht] at hP1
  have hK1 := va_K.moved hvm.symm hK1
  obtain ⟨hP, hD⟩ := va_join (wr := [(m0, .inr (14, [.ref lc, g1, g2, g3, g4, g5, g6, g7, g8]))]) (w1 := [(lc, .inr (5, [.int 0, vlc, .int 0]))]) hP hD [1] [0] rfl rfl (by decide) (by decide) hk1 hFc hP1 hD1
  have hK := (hK.sub (tys' := []) [] rfl).app hK1
  generalize H1 = H at hP hS ⊢
  have hP : va_P (dC, dI) vwCl [(m0, .inr (14, [.ref lc, g1, g2, g3, g4, g5, g6, g7, g8])), (lc, .inr (5, [.int 0, vlc, .int 0]))] H := hP
  have hD : va_D A [(m0, .inr (14, [.ref lc, g1, g2, g3, g4, g5, g6, g7, g8])), (lc, .inr (5, [.int 0, vlc, .int 0]))] := hD
  have hK : va_K (dC, dI) vwCl [] s := hK
  refine W.widen (k := 0) (n := 0) (Nat.le_of_ble_eq_true rfl) (Nat.le_of_ble_eq_true rfl) ?_
  have hw : r_1 = 0 := hw
  rw [hw]
  refine lv_iconst (v := 1) hx hb dX8_isNoCard_9 (by decide) ?_
  refine lv_isub hx hb dX8_isNoCard_10 ?_
  refine lv_topi (fun k_2 ek_2 => ?_)
  obtain rfl : k_2 = (-1) := ek_2.trans (by decide)
  have hPc := hP.sub (ws' := []) [] rfl
  have hDc := hD.sub (ws' := []) [] (by decide) rfl
  have hKc := hK.sub (tys' := []) [] rfl
  have hFc := va_free (wc := []) hD hS hA [] rfl
  refine va_calli (va_runS (As := [.int p0, .int 0, .int (-1)]) (rest := []) ⟨hx, hb, hml, hown, hts⟩ (c_X8_isIn_none l em dC dI p0 H.size) (va_cwS 3 hts gX8_isNoCard_X8_isIn rfl rfl rfl (by decide +kernel) ⟨Nat.le_of_ble_eq_true rfl, Nat.le_of_ble_eq_true rfl⟩) ⟨Pw.blind _ _ _ _ _ _ _, fun U hU hW => ⟨rfl, Pw.go hPc hKc hDc hamb hS hFc hU hW⟩⟩ rfl rfl hl.1 rfl (lv_room (Nat.le_of_ble_eq_true rfl)) dX8_isNoCard_11 ⟨Nat.le_of_ble_eq_true rfl, Nat.le_of_ble_eq_true rfl⟩) hS (fun q _ h => hFc q h) hFc (fun r_3 u t H1 locs1 ht hvm hw hB hz1 hk1 hS => ?_)
  obtain ⟨hP, hD⟩ := va_rest (wr := [(m0, .inr (14, [.ref lc, g1, g2, g3, g4, g5, g6, g7, g8])), (lc, .inr (5, [.int 0, vlc, .int 0]))]) hP hD [] [0, 1] rfl rfl (by decide) (by decide) hk1 hFc
  generalize H1 = H at hP hS ⊢
  refine W.widen (k := 0) (n := 0) (Nat.le_of_ble_eq_true rfl) (Nat.le_of_ble_eq_true rfl) ?_
  have hw : r_3 = 0 := hw
  rw [hw]
  refine lv_if_ne (tgt := 21) hx hb dX8_isNoCard_14 (by decide) (fun c_4 => ?_) (fun c_4 => ?_)
  · exact absurd (by decide) c_4
  · refine lv_iconst (v := 1) hx hb dX8_isNoCard_17 (by decide) ?_
    refine lv_goto (tgt := 22) hx hb dX8_isNoCard_18 (by decide) ?_
    refine W.widen (k := 0) (n := 0) (Nat.le_of_ble_eq_true rfl) (Nat.le_of_ble_eq_true rfl) ?_
    have hP9 := hP.sub (ws' := [(m0, .inr (14, [.ref lc, g1, g2, g3, g4, g5, g6, g7, g8])), (lc, .inr (5, [.int 0, vlc, .int 0]))]) [0, 1] rfl
    have hD9 := hD.sub (ws' := [(m0, .inr (14, [.ref lc, g1, g2, g3, g4, g5, g6, g7, g8])), (lc, .inr (5, [.int 0, vlc, .int 0]))]) [0, 1] (by decide) rfl
    have hK9 := hK.sub (tys' := []) [] rfl
    exact W.zret (v := 1) hx hb hr rfl (fun t ht hW => ⟨⟨1, (), rfl, rfl, ⟨by rw [ht]; exact hP9, va_K.moved hW.alike hK9, hD9⟩⟩, hS.F ht⟩) hS.2.2 dX8_isNoCard_22

set_option maxHeartbeats 4000000 in
set_option maxRecDepth 100000 in
theorem c_X8_isNoPick (l : Launch) (em : Nat → Nat) (dC : Nat → ClassId) (dI : Nat → Nat → Nat) (m0 : Nat) (p0 : Int32) (g0 : Value) (g2 : Value) (g3 : Value) (g4 : Value) (g5 : Value) (g6 : Value) (g7 : Value) (g8 : Value) (lp : Nat) (vlp : Value) (sz : Nat) : Met l yX8_isNoPick wsX8_isNoPick ({ frames := 1, cells := 0, slots := 0, locals := 22 }) (va_Pc [.ref m0, .int p0] (Pw em dC dI sz [(m0, .inr (14, [g0, .ref lp, g2, g3, g4, g5, g6, g7, g8])), (lp, .inr (5, [.int 0, vlp, .int 0]))] [])) (va_Qi (fun (r : Int32) (_ : Unit) => r = 1) (fun _ t => Qw dC dI (va_A [(m0, .inr (14, [g0, .ref lp, g2, g3, g4, g5, g6, g7, g8])), (lp, .inr (5, [.int 0, vlp, .int 0]))] sz) [(m0, .inr (14, [g0, .ref lp, g2, g3, g4, g5, g6, g7, g8])), (lp, .inr (5, [.int 0, vlp, .int 0]))] [] t) (va_A [(m0, .inr (14, [g0, .ref lp, g2, g3, g4, g5, g6, g7, g8])), (lp, .inr (5, [.int 0, vlp, .int 0]))] sz)) 0 0 (va_A [(m0, .inr (14, [g0, .ref lp, g2, g3, g4, g5, g6, g7, g8])), (lp, .inr (5, [.int 0, vlp, .int 0]))] sz) := by
  refine Met.ofW (cc := cX8_isNoPick) (maxL := 2) (ret := (some .boolean)) (by decide) rfl ?_
  intro p e s m args below meth c s₁ B hml hv
  obtain ⟨rfl, hsz, hP, hK, hD0, hamb⟩ := hv
  have hx := B.exec
  have hb := B.bytes
  have hr := B.returns
  have hts := atoms_spec (ws := wsX8_isNoPick) B.pre
  have hown : s.vm.findClass RX8 = some m.cls := findClass_of_methodNamed B.named
  have hlocks := B.notSynchronized
  subst hsz
  have hD := hD0.self (sz := s.heap.size)
  generalize hAe : va_A [(m0, .inr (14, [g0, .ref lp, g2, g3, g4, g5, g6, g7, g8])), (lp, .inr (5, [.int 0, vlp, .int 0]))] s.heap.size = A at hD hamb ⊢
  have hA : ∀ q : Nat, s.heap.size ≤ q → A q := fun q h => by rw [← hAe]; exact Or.inr h
  have hS : va_S A s.heap s.heap [] := va_S.rf
  have hP : va_P (dC, dI) vwCl [(m0, .inr (14, [g0, .ref lp, g2, g3, g4, g5, g6, g7, g8])), (lp, .inr (5, [.int 0, vlp, .int 0]))] s.heap := hP
  have hl := lv_entry ([.ref m0, .int p0]) (n := 2) (Nat.le_of_ble_eq_true rfl)
  rw [lg_entry_eq]
  generalize (lg_sl ([.ref m0, .int p0]) ++ List.replicate (2 - (lg_sl ([.ref m0, .int p0])).length) Slot.unset).toArray = ls at hl ⊢
  have hl : lv_has ls 2 [(0, .ref m0), (1, .int p0)] := hl
  refine lv_iload_n hx hb dX8_isNoPick_0 rfl (lv_at hl 1 rfl) ?_
  refine lv_iconst (v := 0) hx hb dX8_isNoPick_1 (by decide) ?_
  refine lv_aload_n hx hb dX8_isNoPick_2 rfl (lv_at hl 0 rfl) ?_
  refine va_get (D := (dC, dI)) (ci := 14) (v := .ref lp) (C := RX8) (T := TX8) (N := 9) hx hb hts (by decide +kernel) hown hK hP 0 rfl rfl 1 (by decide) (hts (.fieldLink RX8 16 "BothfacesModel" "picks" "Ljava/util/ArrayList;") (by decide +kernel)) (fun _ h9 => h9) rfl dX8_isNoPick_3 ?_
  have hPc := hP.sub (ws' := [(lp, .inr (5, [.int 0, vlp, .int 0]))]) [1] rfl
  have hDc := hD.sub (ws' := [(lp, .inr (5, [.int 0, vlp, .int 0]))]) [1] (by decide) rfl
  have hKc := hK.sub (tys' := []) [] rfl
  have hFc := va_free (wc := [(lp, .inr (5, [.int 0, vlp, .int 0]))]) hD hS hA [1] rfl
  refine va_calli (va_runV (As := []) (rest := [.int 0, .int p0]) ⟨hx, hb, hml, hown, hts⟩ (c_Jx4a65c_size_8abf5 l em dC dI lp (.int 0) vlp s.heap.size) (cwV 0 hts gX8_isNoPick_Jx4a65c_size_8abf5 rfl rfl rfl (by decide +kernel) ⟨Nat.le_of_ble_eq_true rfl, Nat.le_of_ble_eq_true rfl⟩) ⟨Pw.blind _ _ _ _ _ _ _, va_recv hKc hPc (ci := 5) (q0 := 0) rfl rfl, fun U hU hW => ⟨rfl, Pw.go hPc hKc hDc hamb hS hFc hU hW⟩⟩ rfl rfl hl.1 rfl (lv_room (Nat.le_of_ble_eq_true rfl)) dX8_isNoPick_6 ⟨Nat.le_of_ble_eq_true rfl, Nat.le_of_ble_eq_true rfl⟩) hS (fun q _ h => hFc q h) hFc (fun r_1 u t H1 locs1 ht hvm hw hB hz1 hk1 hS => ?_)
  obtain ⟨hP1, hK1, hD1⟩ := hB
  rw [ht] at hP1
  have hK1 := va_K.moved hvm.symm hK1
  obtain ⟨hP, hD⟩ := va_join (wr := [(m0, .inr (14, [g0, .ref lp, g2, g3, g4, g5, g6, g7, g8]))]) (w1 := [(lp, .inr (5, [.int 0, vlp, .int 0]))]) hP hD [1] [0] rfl rfl (by decide) (by decide) hk1 hFc hP1 hD1
  have hK := (hK.sub (tys' := []) [] rfl).app hK1
  generalize H1 = H at hP hS ⊢
  have hP : va_P (dC, dI) vwCl [(m0, .inr (14, [g0, .ref lp, g2, g3, g4, g5, g6, g7, g8])), (lp, .inr (5, [.int 0, vlp, .int 0]))] H := hP
  have hD : va_D A [(m0, .inr (14, [g0, .ref lp, g2, g3, g4, g5, g6, g7, g8])), (lp, .inr (5, [.int 0, vlp, .int 0]))] := hD
  have hK : va_K (dC, dI) vwCl [] s := hK
  refine W.widen (k := 0) (n := 0) (Nat.le_of_ble_eq_true rfl) (Nat.le_of_ble_eq_true rfl) ?_
  have hw : r_1 = 0 := hw
  rw [hw]
  refine lv_iconst (v := 1) hx hb dX8_isNoPick_9 (by decide) ?_
  refine lv_isub hx hb dX8_isNoPick_10 ?_
  refine lv_topi (fun k_2 ek_2 => ?_)
  obtain rfl : k_2 = (-1) := ek_2.trans (by decide)
  have hPc := hP.sub (ws' := []) [] rfl
  have hDc := hD.sub (ws' := []) [] (by decide) rfl
  have hKc := hK.sub (tys' := []) [] rfl
  have hFc := va_free (wc := []) hD hS hA [] rfl
  refine va_calli (va_runS (As := [.int p0, .int 0, .int (-1)]) (rest := []) ⟨hx, hb, hml, hown, hts⟩ (c_X8_isIn_none l em dC dI p0 H.size) (va_cwS 3 hts gX8_isNoPick_X8_isIn rfl rfl rfl (by decide +kernel) ⟨Nat.le_of_ble_eq_true rfl, Nat.le_of_ble_eq_true rfl⟩) ⟨Pw.blind _ _ _ _ _ _ _, fun U hU hW => ⟨rfl, Pw.go hPc hKc hDc hamb hS hFc hU hW⟩⟩ rfl rfl hl.1 rfl (lv_room (Nat.le_of_ble_eq_true rfl)) dX8_isNoPick_11 ⟨Nat.le_of_ble_eq_true rfl, Nat.le_of_ble_eq_true rfl⟩) hS (fun q _ h => hFc q h) hFc (fun r_3 u t H1 locs1 ht hvm hw hB hz1 hk1 hS => ?_)
  obtain ⟨hP, hD⟩ := va_rest (wr := [(m0, .inr (14, [g0, .ref lp, g2, g3, g4, g5, g6, g7, g8])), (lp, .inr (5, [.int 0, vlp, .int 0]))]) hP hD [] [0, 1] rfl rfl (by decide) (by decide) hk1 hFc
  generalize H1 = H at hP hS ⊢
  refine W.widen (k := 0) (n := 0) (Nat.le_of_ble_eq_true rfl) (Nat.le_of_ble_eq_true rfl) ?_
  have hw : r_3 = 0 := hw
  rw [hw]
  refine lv_if_ne (tgt := 21) hx hb dX8_isNoPick_14 (by decide) (fun c_4 => ?_) (fun c_4 => ?_)
  · exact absurd (by decide) c_4
  · refine lv_iconst (v := 1) hx hb dX8_isNoPick_17 (by decide) ?_
    refine lv_goto (tgt := 22) hx hb dX8_isNoPick_18 (by decide) ?_
    refine W.widen (k := 0) (n := 0) (Nat.le_of_ble_eq_true rfl) (Nat.le_of_ble_eq_true rfl) ?_
    have hP9 := hP.sub (ws' := [(m0, .inr (14, [g0, .ref lp, g2, g3, g4, g5, g6, g7, g8])), (lp, .inr (5, [.int 0, vlp, .int 0]))]) [0, 1] rfl
    have hD9 := hD.sub (ws' := [(m0, .inr (14, [g0, .ref lp, g2, g3, g4, g5, g6, g7, g8])), (lp, .inr (5, [.int 0, vlp, .int 0]))]) [0, 1] (by decide) rfl
    have hK9 := hK.sub (tys' := []) [] rfl
    exact W.zret (v := 1) hx hb hr rfl (fun t ht hW => ⟨⟨1, (), rfl, rfl, ⟨by rw [ht]; exact hP9, va_K.moved hW.alike hK9, hD9⟩⟩, hS.F ht⟩) hS.2.2 dX8_isNoPick_22

set_option maxHeartbeats 4000000 in
set_option maxRecDepth 100000 in
theorem c_X8_isNoLast (l : Launch) (em : Nat → Nat) (dC : Nat → ClassId) (dI : Nat → Nat → Nat) (m0 : Nat) (p0 : Int32) (g0 : Value) (g2 : Value) (g3 : Value) (g4 : Value) (g5 : Value) (g6 : Value) (g7 : Value) (g8 : Value) (lp : Nat) (vlp : Value) (sz : Nat) : Met l yX8_isNoLast wsX8_isNoLast ({ frames := 1, cells := 0, slots := 0, locals := 22 }) (va_Pc [.ref m0, .int p0] (Pw em dC dI sz [(m0, .inr (14, [g0, .ref lp, g2, g3, g4, g5, g6, g7, g8])), (lp, .inr (5, [.int 0, vlp, .int 0]))] [])) (va_Qi (fun (r : Int32) (_ : Unit) => ((p0.toInt < 0 ∨ 39 < p0.toInt) → r = 1) ∧ (¬ (p0.toInt < 0 ∨ 39 < p0.toInt) → r = 0)) (fun _ t => Qw dC dI (va_A [(m0, .inr (14, [g0, .ref lp, g2, g3, g4, g5, g6, g7, g8])), (lp, .inr (5, [.int 0, vlp, .int 0]))] sz) [(m0, .inr (14, [g0, .ref lp, g2, g3, g4, g5, g6, g7, g8])), (lp, .inr (5, [.int 0, vlp, .int 0]))] [] t) (va_A [(m0, .inr (14, [g0, .ref lp, g2, g3, g4, g5, g6, g7, g8])), (lp, .inr (5, [.int 0, vlp, .int 0]))] sz)) 0 0 (va_A [(m0, .inr (14, [g0, .ref lp, g2, g3, g4, g5, g6, g7, g8])), (lp, .inr (5, [.int 0, vlp, .int 0]))] sz) := by
  refine Met.ofW (cc := cX8_isNoLast) (maxL := 2) (ret := (some .boolean)) (by decide) rfl ?_
  intro p e s m args below meth c s₁ B hml hv
  obtain ⟨rfl, hsz, hP, hK, hD0, hamb⟩ := hv
  have hx := B.exec
  have hb := B.bytes
  have hr := B.returns
  have hts := atoms_spec (ws := wsX8_isNoLast) B.pre
  have hown : s.vm.findClass RX8 = some m.cls := findClass_of_methodNamed B.named
  have hlocks := B.notSynchronized
  subst hsz
  have hD := hD0.self (sz := s.heap.size)
  generalize hAe : va_A [(m0, .inr (14, [g0, .ref lp, g2, g3, g4, g5, g6, g7, g8])), (lp, .inr (5, [.int 0, vlp, .int 0]))] s.heap.size = A at hD hamb ⊢
  have hA : ∀ q : Nat, s.heap.size ≤ q → A q := fun q h => by rw [← hAe]; exact Or.inr h
  have hS : va_S A s.heap s.heap [] := va_S.rf
  have hP : va_P (dC, dI) vwCl [(m0, .inr (14, [g0, .ref lp, g2, g3, g4, g5, g6, g7, g8])), (lp, .inr (5, [.int 0, vlp, .int 0]))] s.heap := hP
  have hl := lv_entry ([.ref m0, .int p0]) (n := 2) (Nat.le_of_ble_eq_true rfl)
  rw [lg_entry_eq]
  generalize (lg_sl ([.ref m0, .int p0]) ++ List.replicate (2 - (lg_sl ([.ref m0, .int p0])).length) Slot.unset).toArray = ls at hl ⊢
  have hl : lv_has ls 2 [(0, .ref m0), (1, .int p0)] := hl
  refine lv_iload_n hx hb dX8_isNoLast_0 rfl (lv_at hl 1 rfl) ?_
  refine lv_aload_n hx hb dX8_isNoLast_1 rfl (lv_at hl 0 rfl) ?_
  refine va_get (D := (dC, dI)) (ci := 14) (v := .ref lp) (C := RX8) (T := TX8) (N := 9) hx hb hts (by decide +kernel) hown hK hP 0 rfl rfl 1 (by decide) (hts (.fieldLink RX8 16 "BothfacesModel" "picks" "Ljava/util/ArrayList;") (by decide +kernel)) (fun _ h9 => h9) rfl dX8_isNoLast_2 ?_
  have hPc := hP.sub (ws' := [(lp, .inr (5, [.int 0, vlp, .int 0]))]) [1] rfl
  have hDc := hD.sub (ws' := [(lp, .inr (5, [.int 0, vlp, .int 0]))]) [1] (by decide) rfl
  have hKc := hK.sub (tys' := []) [] rfl
  have hFc := va_free (wc := [(lp, .inr (5, [.int 0, vlp, .int 0]))]) hD hS hA [1] rfl
  refine va_calli (va_runV (As := []) (rest := [.int p0]) ⟨hx, hb, hml, hown, hts⟩ (c_Jx4a65c_size_8abf5 l em dC dI lp (.int 0) vlp s.heap.size) (cwV 0 hts gX8_isNoLast_Jx4a65c_size_8abf5 rfl rfl rfl (by decide +kernel) ⟨Nat.le_of_ble_eq_true rfl, Nat.le_of_ble_eq_true rfl⟩) ⟨Pw.blind _ _ _ _ _ _ _, va_recv hKc hPc (ci := 5) (q0 := 0) rfl rfl, fun U hU hW => ⟨rfl, Pw.go hPc hKc hDc hamb hS hFc hU hW⟩⟩ rfl rfl hl.1 rfl (lv_room (Nat.le_of_ble_eq_true rfl)) dX8_isNoLast_5 ⟨Nat.le_of_ble_eq_true rfl, Nat.le_of_ble_eq_true rfl⟩) hS (fun q _ h => hFc q h) hFc (fun r_1 u t H1 locs1 ht hvm hw hB hz1 hk1 hS => ?_)
  obtain ⟨hP1, hK1, hD1⟩ := hB
  rw [ht] at hP1
  have hK1 := va_K.moved hvm.symm hK1
  obtain ⟨hP, hD⟩ := va_join (wr := [(m0, .inr (14, [g0, .ref lp, g2, g3, g4, g5, g6, g7, g8]))]) (w1 := [(lp, .inr (5, [.int 0, vlp, .int 0]))]) hP hD [1] [0] rfl rfl (by decide) (by decide) hk1 hFc hP1 hD1
  have hK := (hK.sub (tys' := []) [] rfl).app hK1
  generalize H1 = H at hP hS ⊢
  have hP : va_P (dC, dI) vwCl [(m0, .inr (14, [g0, .ref lp, g2, g3, g4, g5, g6, g7, g8])), (lp, .inr (5, [.int 0, vlp, .int 0]))] H := hP
  have hD : va_D A [(m0, .inr (14, [g0, .ref lp, g2, g3, g4, g5, g6, g7, g8])), (lp, .inr (5, [.int 0, vlp, .int 0]))] := hD
  have hK : va_K (dC, dI) vwCl [] s := hK
  refine W.widen (k := 0) (n := 0) (Nat.le_of_ble_eq_true rfl) (Nat.le_of_ble_eq_true rfl) ?_
  have hw : r_1 = 0 := hw
  rw [hw]
  refine lv_bipush (v := 39) hx hb dX8_isNoLast_8 (by decide) ?_
  have hPc := hP.sub (ws' := []) [] rfl
  have hDc := hD.sub (ws' := []) [] (by decide) rfl
  have hKc := hK.sub (tys' := []) [] rfl
  have hFc := va_free (wc := []) hD hS hA [] rfl
  refine va_calli (va_runS (As := [.int p0, .int 0, .int 39]) (rest := []) ⟨hx, hb, hml, hown, hts⟩ (c_X8_isIn_0_39 l em dC dI p0 H.size) (va_cwS 3 hts gX8_isNoLast_X8_isIn rfl rfl rfl (by decide +kernel) ⟨Nat.le_of_ble_eq_true rfl, Nat.le_of_ble_eq_true rfl⟩) ⟨Pw.blind _ _ _ _ _ _ _, fun U hU hW => ⟨rfl, Pw.go hPc hKc hDc hamb hS hFc hU hW⟩⟩ rfl rfl hl.1 rfl (lv_room (Nat.le_of_ble_eq_true rfl)) dX8_isNoLast_10 ⟨Nat.le_of_ble_eq_true rfl, Nat.le_of_ble_eq_true rfl⟩) hS (fun q _ h => hFc q h) hFc (fun r_2 u t H1 locs1 ht hvm hw hB hz1 hk1 hS => ?_)
  obtain ⟨hP, hD⟩ := va_rest (wr := [(m0, .inr (14, [g0, .ref lp, g2, g3, g4, g5, g6, g7, g8])), (lp, .inr (5, [.int 0, vlp, .int 0]))]) hP hD [] [0, 1] rfl rfl (by decide) (by decide) hk1 hFc
  generalize H1 = H at hP hS ⊢
  refine W.widen (k := 0) (n := 0) (Nat.le_of_ble_eq_true rfl) (Nat.le_of_ble_eq_true rfl) ?_
  have hw : ((0 ≤ p0.toInt ∧ p0.toInt ≤ 39) → r_2 = 1) ∧ (¬ (0 ≤ p0.toInt ∧ p0.toInt ≤ 39) → r_2 = 0) := hw
  rcases Classical.em (0 ≤ p0.toInt ∧ p0.toInt ≤ 39) with t_3 | t_3
  · have hw := hw.1 t_3
    rw [hw]
    refine lv_if_ne (tgt := 20) hx hb dX8_isNoLast_13 (by decide) (fun c_4 => ?_) (fun c_4 => ?_)
    · refine lv_iconst (v := 0) hx hb dX8_isNoLast_20 (by decide) ?_
      refine W.widen (k := 0) (n := 0) (Nat.le_of_ble_eq_true rfl) (Nat.le_of_ble_eq_true rfl) ?_
      have hP9 := hP.sub (ws' := [(m0, .inr (14, [g0, .ref lp, g2, g3, g4, g5, g6, g7, g8])), (lp, .inr (5, [.int 0, vlp, .int 0]))]) [0, 1] rfl
      have hD9 := hD.sub (ws' := [(m0, .inr (14, [g0, .ref lp, g2, g3, g4, g5, g6, g7, g8])), (lp, .inr (5, [.int 0, vlp, .int 0]))]) [0, 1] (by decide) rfl
      have hK9 := hK.sub (tys' := []) [] rfl
      exact W.zret (v := 0) hx hb hr rfl (fun t ht hW => ⟨⟨0, (), rfl, ⟨fun h9 => (by first | rfl | (exfalso; omega)), fun h9 => (by first | rfl | (exfalso; omega))⟩, ⟨by rw [ht]; exact hP9, va_K.moved hW.alike hK9, hD9⟩⟩, hS.F ht⟩) hS.2.2 dX8_isNoLast_21
    · exact absurd c_4 (by decide)
  · have hw := hw.2 t_3
    rw [hw]
    refine lv_if_ne (tgt := 20) hx hb dX8_isNoLast_13 (by decide) (fun c_5 => ?_) (fun c_5 => ?_)
    · exact absurd (by decide) c_5
    · refine lv_iconst (v := 1) hx hb dX8_isNoLast_16 (by decide) ?_
      refine lv_goto (tgt := 21) hx hb dX8_isNoLast_17 (by decide) ?_
      refine W.widen (k := 0) (n := 0) (Nat.le_of_ble_eq_true rfl) (Nat.le_of_ble_eq_true rfl) ?_
      have hP9 := hP.sub (ws' := [(m0, .inr (14, [g0, .ref lp, g2, g3, g4, g5, g6, g7, g8])), (lp, .inr (5, [.int 0, vlp, .int 0]))]) [0, 1] rfl
      have hD9 := hD.sub (ws' := [(m0, .inr (14, [g0, .ref lp, g2, g3, g4, g5, g6, g7, g8])), (lp, .inr (5, [.int 0, vlp, .int 0]))]) [0, 1] (by decide) rfl
      have hK9 := hK.sub (tys' := []) [] rfl
      exact W.zret (v := 1) hx hb hr rfl (fun t ht hW => ⟨⟨1, (), rfl, ⟨fun h9 => (by first | rfl | (exfalso; omega)), fun h9 => (by first | rfl | (exfalso; omega))⟩, ⟨by rw [ht]; exact hP9, va_K.moved hW.alike hK9, hD9⟩⟩, hS.F ht⟩) hS.2.2 dX8_isNoLast_21

set_option maxHeartbeats 4000000 in
set_option maxRecDepth 100000 in
theorem c_X8_faultsOn (l : Launch) (em : Nat → Nat) (dC : Nat → ClassId) (dI : Nat → Nat → Nat) (m0 : Nat) (p0 : Int32) (g2 : Value) (g3 : Value) (g4 : Value) (g5 : Value) (g6 : Value) (g7 : Value) (g8 : Value) (lc : Nat) (vlc : Value) (lp : Nat) (vlp : Value) (sz : Nat) : Met l yX8_faultsOn wsX8_faultsOn ({ frames := 1, cells := 0, slots := 0, locals := 20 }) (va_Pc [.ref m0, .int p0] (Pw em dC dI sz [(m0, .inr (14, [.ref lc, .ref lp, g2, g3, g4, g5, g6, g7, g8])), (lc, .inr (5, [.int 0, vlc, .int 0])), (lp, .inr (5, [.int 0, vlp, .int 0]))] [])) (va_Qi (fun (r : Int32) (_ : Unit) => r = 0) (fun _ t => Qw dC dI (va_A [(m0, .inr (14, [.ref lc, .ref lp, g2, g3, g4, g5, g6, g7, g8])), (lc, .inr (5, [.int 0, vlc, .int 0])), (lp, .inr (5, [.int 0, vlp, .int 0]))] sz) [(m0, .inr (14, [.ref lc, .ref lp, g2, g3, g4, g5, g6, g7, g8])), (lc, .inr (5, [.int 0, vlc, .int 0])), (lp, .inr (5, [.int 0, vlp, .int 0]))] [] t) (va_A [(m0, .inr (14, [.ref lc, .ref lp, g2, g3, g4, g5, g6, g7, g8])), (lc, .inr (5, [.int 0, vlc, .int 0])), (lp, .inr (5, [.int 0, vlp, .int 0]))] sz)) 0 0 (va_A [(m0, .inr (14, [.ref lc, .ref lp, g2, g3, g4, g5, g6, g7, g8])), (lc, .inr (5, [.int 0, vlc, .int 0])), (lp, .inr (5, [.int 0, vlp, .int 0]))] sz) := by
  refine Met.ofW (cc := cX8_faultsOn) (maxL := 5) (ret := (some .int)) (by decide) rfl ?_
  intro p e s m args below meth c s₁ B hml hv
  obtain ⟨rfl, hsz, hP, hK, hD0, hamb⟩ := hv
  have hx := B.exec
  have hb := B.bytes
  have hr := B.returns
  have hts := atoms_spec (ws := wsX8_faultsOn) B.pre
  have hown : s.vm.findClass RX8 = some m.cls := findClass_of_methodNamed B.named
  have hlocks := B.notSynchronized
  subst hsz
  have hD := hD0.self (sz := s.heap.size)
  generalize hAe : va_A [(m0, .inr (14, [.ref lc, .ref lp, g2, g3, g4, g5, g6, g7, g8])), (lc, .inr (5, [.int 0, vlc, .int 0])), (lp, .inr (5, [.int 0, vlp, .int 0]))] s.heap.size = A at hD hamb ⊢
  have hA : ∀ q : Nat, s.heap.size ≤ q → A q := fun q h => by rw [← hAe]; exact Or.inr h
  have hS : va_S A s.heap s.heap [] := va_S.rf
  have hP : va_P (dC, dI) vwCl [(m0, .inr (14, [.ref lc, .ref lp, g2, g3, g4, g5, g6, g7, g8])), (lc, .inr (5, [.int 0, vlc, .int 0])), (lp, .inr (5, [.int 0, vlp, .int 0]))] s.heap := hP
  have hl := lv_entry ([.ref m0, .int p0]) (n := 5) (Nat.le_of_ble_eq_true rfl)
  rw [lg_entry_eq]
  generalize (lg_sl ([.ref m0, .int p0]) ++ List.replicate (5 - (lg_sl ([.ref m0, .int p0])).length) Slot.unset).toArray = ls at hl ⊢
  have hl : lv_has ls 5 [(0, .ref m0), (1, .int p0)] := hl
  refine lv_iconst (v := 0) hx hb dX8_faultsOn_0 (by decide) ?_
  refine lv_istore_n (lv' := [(2, .int 0), (0, .ref m0), (1, .int p0)]) hx hb dX8_faultsOn_1 rfl hl (by decide) rfl (fun ls hl => ?_)
  refine lv_iconst (v := 0) hx hb dX8_faultsOn_2 (by decide) ?_
  refine lv_istore_n (lv' := [(3, .int 0), (2, .int 0), (0, .ref m0), (1, .int p0)]) hx hb dX8_faultsOn_3 rfl hl (by decide) rfl (fun ls hl => ?_)
  refine lv_iload_n hx hb dX8_faultsOn_4 rfl (lv_at hl 0 rfl) ?_
  refine lv_aload_n hx hb dX8_faultsOn_5 rfl (lv_at hl 2 rfl) ?_
  refine va_get (D := (dC, dI)) (ci := 14) (v := .ref lp) (C := RX8) (T := TX8) (N := 9) hx hb hts (by decide +kernel) hown hK hP 0 rfl rfl 1 (by decide) (hts (.fieldLink RX8 16 "BothfacesModel" "picks" "Ljava/util/ArrayList;") (by decide +kernel)) (fun _ h9 => h9) rfl dX8_faultsOn_6 ?_
  have hPc := hP.sub (ws' := [(lp, .inr (5, [.int 0, vlp, .int 0]))]) [2] rfl
  have hDc := hD.sub (ws' := [(lp, .inr (5, [.int 0, vlp, .int 0]))]) [2] (by decide) rfl
  have hKc := hK.sub (tys' := []) [] rfl
  have hFc := va_free (wc := [(lp, .inr (5, [.int 0, vlp, .int 0]))]) hD hS hA [2] rfl
  refine va_calli (va_runV (As := []) (rest := [.int 0]) ⟨hx, hb, hml, hown, hts⟩ (c_Jx4a65c_size_8abf5 l em dC dI lp (.int 0) vlp s.heap.size) (cwV 0 hts gX8_faultsOn_Jx4a65c_size_8abf5 rfl rfl rfl (by decide +kernel) ⟨Nat.le_of_ble_eq_true rfl, Nat.le_of_ble_eq_true rfl⟩) ⟨Pw.blind _ _ _ _ _ _ _, va_recv hKc hPc (ci := 5) (q0 := 0) rfl rfl, fun U hU hW => ⟨rfl, Pw.go hPc hKc hDc hamb hS hFc hU hW⟩⟩ rfl rfl hl.1 rfl (lv_room (Nat.le_of_ble_eq_true rfl)) dX8_faultsOn_9 ⟨Nat.le_of_ble_eq_true rfl, Nat.le_of_ble_eq_true rfl⟩) hS (fun q _ h => hFc q h) hFc (fun r_1 u t H1 locs1 ht hvm hw hB hz1 hk1 hS => ?_)
  obtain ⟨hP1, hK1, hD1⟩ := hB
  rw [ht] at hP1
  have hK1 := va_K.moved hvm.symm hK1
  obtain ⟨hP, hD⟩ := va_join (wr := [(m0, .inr (14, [.ref lc, .ref lp, g2, g3, g4, g5, g6, g7, g8])), (lc, .inr (5, [.int 0, vlc, .int 0]))]) (w1 := [(lp, .inr (5, [.int 0, vlp, .int 0]))]) hP hD [2] [0, 1] rfl rfl (by decide) (by decide) hk1 hFc hP1 hD1
  have hK := (hK.sub (tys' := []) [] rfl).app hK1
  generalize H1 = H at hP hS ⊢
  have hP : va_P (dC, dI) vwCl [(m0, .inr (14, [.ref lc, .ref lp, g2, g3, g4, g5, g6, g7, g8])), (lc, .inr (5, [.int 0, vlc, .int 0])), (lp, .inr (5, [.int 0, vlp, .int 0]))] H := hP
  have hD : va_D A [(m0, .inr (14, [.ref lc, .ref lp, g2, g3, g4, g5, g6, g7, g8])), (lc, .inr (5, [.int 0, vlc, .int 0])), (lp, .inr (5, [.int 0, vlp, .int 0]))] := hD
  have hK : va_K (dC, dI) vwCl [] s := hK
  refine W.widen (k := 0) (n := 0) (Nat.le_of_ble_eq_true rfl) (Nat.le_of_ble_eq_true rfl) ?_
  have hw : r_1 = 0 := hw
  rw [hw]
  refine lv_icmp_ge (tgt := 53) hx hb dX8_faultsOn_12 (by decide) (fun c_2 => ?_) (fun c_2 => ?_)
  · refine lv_iload_n hx hb dX8_faultsOn_53 rfl (lv_at hl 1 rfl) ?_
    refine W.widen (k := 0) (n := 0) (Nat.le_of_ble_eq_true rfl) (Nat.le_of_ble_eq_true rfl) ?_
    have hP9 := hP.sub (ws' := [(m0, .inr (14, [.ref lc, .ref lp, g2, g3, g4, g5, g6, g7, g8])), (lc, .inr (5, [.int 0, vlc, .int 0])), (lp, .inr (5, [.int 0, vlp, .int 0]))]) [0, 1, 2] rfl
    have hD9 := hD.sub (ws' := [(m0, .inr (14, [.ref lc, .ref lp, g2, g3, g4, g5, g6, g7, g8])), (lc, .inr (5, [.int 0, vlc, .int 0])), (lp, .inr (5, [.int 0, vlp, .int 0]))]) [0, 1, 2] (by decide) rfl
    have hK9 := hK.sub (tys' := []) [] rfl
    exact W.iret (v := 0) hx hb hr (fun t ht hW => ⟨⟨0, (), rfl, rfl, ⟨by rw [ht]; exact hP9, va_K.moved hW.alike hK9, hD9⟩⟩, hS.F ht⟩) hS.2.2 dX8_faultsOn_54
  · exact absurd (by decide) c_2

set_option maxHeartbeats 4000000 in
set_option maxRecDepth 100000 in
theorem c_X8_setPack (l : Launch) (em : Nat → Nat) (dC : Nat → ClassId) (dI : Nat → Nat → Nat) (m0 : Nat) (p0 : Int32) (p1 : Int32) (g1 : Value) (g2 : Value) (g3 : Value) (g4 : Value) (g5 : Value) (g6 : Value) (g7 : Value) (g8 : Value) (lc : Nat) (vlc : Value) (sz : Nat) : Met l yX8_setPack wsX8_setPack ({ frames := 2, cells := 0, slots := 0, locals := 43 }) (va_Pc [.ref m0, .int p0, .int p1] (Pw em dC dI sz [(m0, .inr (14, [.ref lc, g1, g2, g3, g4, g5, g6, g7, g8])), (lc, .inr (5, [.int 0, vlc, .int 0]))] [])) (va_Qi (fun (r : Int32) (_ : Unit) => r = 0) (fun _ t => Qw dC dI (va_A [(m0, .inr (14, [.ref lc, g1, g2, g3, g4, g5, g6, g7, g8])), (lc, .inr (5, [.int 0, vlc, .int 0]))] sz) [(m0, .inr (14, [.ref lc, g1, g2, g3, g4, g5, g6, g7, .int 1]))] [] t) (va_A [(m0, .inr (14, [.ref lc, g1, g2, g3, g4, g5, g6, g7, g8])), (lc, .inr (5, [.int 0, vlc, .int 0]))] sz)) 0 0 (va_A [(m0, .inr (14, [.ref lc, g1, g2, g3, g4, g5, g6, g7, g8])), (lc, .inr (5, [.int 0, vlc, .int 0]))] sz) := by
  refine Met.ofW (cc := cX8_setPack) (maxL := 4) (ret := (some .int)) (by decide) rfl ?_
  intro p e s m args below meth c s₁ B hml hv
  obtain ⟨rfl, hsz, hP, hK, hD0, hamb⟩ := hv
  have hx := B.exec
  have hb := B.bytes
  have hr := B.returns
  have hts := atoms_spec (ws := wsX8_setPack) B.pre
  have hown : s.vm.findClass RX8 = some m.cls := findClass_of_methodNamed B.named
  have hlocks := B.notSynchronized
  subst hsz
  have hD := hD0.self (sz := s.heap.size)
  generalize hAe : va_A [(m0, .inr (14, [.ref lc, g1, g2, g3, g4, g5, g6, g7, g8])), (lc, .inr (5, [.int 0, vlc, .int 0]))] s.heap.size = A at hD hamb ⊢
  have hA : ∀ q : Nat, s.heap.size ≤ q → A q := fun q h => by rw [← hAe]; exact Or.inr h
  have hS : va_S A s.heap s.heap [] := va_S.rf
  have hP : va_P (dC, dI) vwCl [(m0, .inr (14, [.ref lc, g1, g2, g3, g4, g5, g6, g7, g8])), (lc, .inr (5, [.int 0, vlc, .int 0]))] s.heap := hP
  have hl := lv_entry ([.ref m0, .int p0, .int p1]) (n := 4) (Nat.le_of_ble_eq_true rfl)
  rw [lg_entry_eq]
  generalize (lg_sl ([.ref m0, .int p0, .int p1]) ++ List.replicate (4 - (lg_sl ([.ref m0, .int p0, .int p1])).length) Slot.unset).toArray = ls at hl ⊢
  have hl : lv_has ls 4 [(0, .ref m0), (1, .int p0), (2, .int p1)] := hl
  refine lv_aload_n hx hb dX8_setPack_0 rfl (lv_at hl 0 rfl) ?_
  refine lv_aload_n hx hb dX8_setPack_1 rfl (lv_at hl 0 rfl) ?_
  refine lv_iload_n hx hb dX8_setPack_2 rfl (lv_at hl 1 rfl) ?_
  have hPc := hP.sub (ws' := [(m0, .inr (14, [.ref lc, g1, g2, g3, g4, g5, g6, g7, g8])), (lc, .inr (5, [.int 0, vlc, .int 0]))]) [0, 1] rfl
  have hDc := hD.sub (ws' := [(m0, .inr (14, [.ref lc, g1, g2, g3, g4, g5, g6, g7, g8])), (lc, .inr (5, [.int 0, vlc, .int 0]))]) [0, 1] (by decide) rfl
  have hKc := hK.sub (tys' := []) [] rfl
  have hFc := va_free (wc := [(m0, .inr (14, [.ref lc, g1, g2, g3, g4, g5, g6, g7, g8])), (lc, .inr (5, [.int 0, vlc, .int 0]))]) hD hS hA [0, 1] rfl
  refine va_calli (va_runV (As := [.int p0]) (rest := [.ref m0]) ⟨hx, hb, hml, hown, hts⟩ (c_X8_isNoCard l em dC dI m0 p0 g1 g2 g3 g4 g5 g6 g7 g8 lc vlc s.heap.size) (cwV 1 hts gX8_setPack_X8_isNoCard rfl rfl rfl (by decide +kernel) ⟨Nat.le_of_ble_eq_true rfl, Nat.le_of_ble_eq_true rfl⟩) ⟨Pw.blind _ _ _ _ _ _ _, va_recv hKc hPc (ci := 14) (q0 := 0) rfl rfl, fun U hU hW => ⟨rfl, Pw.go hPc hKc hDc hamb hS hFc hU hW⟩⟩ rfl rfl hl.1 rfl (lv_room (Nat.le_of_ble_eq_true rfl)) dX8_setPack_3 ⟨Nat.le_of_ble_eq_true rfl, Nat.le_of_ble_eq_true rfl⟩) hS (fun q _ h => hFc q h) hFc (fun r_1 u t H1 locs1 ht hvm hw hB hz1 hk1 hS => ?_)
  obtain ⟨hP1, hK1, hD1⟩ := hB
  rw [ht] at hP1
  have hK1 := va_K.moved hvm.symm hK1
  obtain ⟨hP, hD⟩ := va_join (wr := []) (w1 := [(m0, .inr (14, [.ref lc, g1, g2, g3, g4, g5, g6, g7, g8])), (lc, .inr (5, [.int 0, vlc, .int 0]))]) hP hD [0, 1] [] rfl rfl (by decide) (by decide) hk1 hFc hP1 hD1
  have hK := (hK.sub (tys' := []) [] rfl).app hK1
  generalize H1 = H at hP hS ⊢
  have hP : va_P (dC, dI) vwCl [(m0, .inr (14, [.ref lc, g1, g2, g3, g4, g5, g6, g7, g8])), (lc, .inr (5, [.int 0, vlc, .int 0]))] H := hP
  have hD : va_D A [(m0, .inr (14, [.ref lc, g1, g2, g3, g4, g5, g6, g7, g8])), (lc, .inr (5, [.int 0, vlc, .int 0]))] := hD
  have hK : va_K (dC, dI) vwCl [] s := hK
  refine W.widen (k := 0) (n := 0) (Nat.le_of_ble_eq_true rfl) (Nat.le_of_ble_eq_true rfl) ?_
  have hw : r_1 = 1 := hw
  rw [hw]
  refine lv_iconst (v := 1) hx hb dX8_setPack_6 (by decide) ?_
  have hPc := hP.sub (ws' := [(m0, .inr (14, [.ref lc, g1, g2, g3, g4, g5, g6, g7, g8]))]) [0] rfl
  have hDc := hD.sub (ws' := [(m0, .inr (14, [.ref lc, g1, g2, g3, g4, g5, g6, g7, g8]))]) [0] (by decide) rfl
  have hKc := hK.sub (tys' := []) [] rfl
  have hFc := va_free (wc := [(m0, .inr (14, [.ref lc, g1, g2, g3, g4, g5, g6, g7, g8]))]) hD hS hA [0] rfl
  refine va_calli (va_runV (As := [.int 1, .int 1]) (rest := []) ⟨hx, hb, hml, hown, hts⟩ (c_X8_isThrown_1 l em dC dI m0 1 (.ref lc) g1 g2 g3 g4 g5 g6 g7 g8 H.size) (cwV 2 hts gX8_setPack_X8_isThrown rfl rfl rfl (by decide +kernel) ⟨Nat.le_of_ble_eq_true rfl, Nat.le_of_ble_eq_true rfl⟩) ⟨Pw.blind _ _ _ _ _ _ _, va_recv hKc hPc (ci := 14) (q0 := 0) rfl rfl, fun U hU hW => ⟨rfl, Pw.go hPc hKc hDc hamb hS hFc hU hW⟩⟩ rfl rfl hl.1 rfl (lv_room (Nat.le_of_ble_eq_true rfl)) dX8_setPack_7 ⟨Nat.le_of_ble_eq_true rfl, Nat.le_of_ble_eq_true rfl⟩) hS (fun q _ h => hFc q h) hFc (fun r_2 u t H1 locs1 ht hvm hw hB hz1 hk1 hS => ?_)
  obtain ⟨hP1, hK1, hD1⟩ := hB
  rw [ht] at hP1
  have hK1 := va_K.moved hvm.symm hK1
  obtain ⟨hP, hD⟩ := va_join (wr := [(lc, .inr (5, [.int 0, vlc, .int 0]))]) (w1 := [(m0, .inr (14, [.ref lc, g1, g2, g3, g4, g5, g6, g7, .int 1]))]) hP hD [0] [1] rfl rfl (by decide) (by decide) hk1 hFc hP1 hD1
  have hK := (hK.sub (tys' := []) [] rfl).app hK1
  generalize H1 = H at hP hS ⊢
  have hP : va_P (dC, dI) vwCl [(lc, .inr (5, [.int 0, vlc, .int 0])), (m0, .inr (14, [.ref lc, g1, g2, g3, g4, g5, g6, g7, .int 1]))] H := hP
  have hD : va_D A [(lc, .inr (5, [.int 0, vlc, .int 0])), (m0, .inr (14, [.ref lc, g1, g2, g3, g4, g5, g6, g7, .int 1]))] := hD
  have hK : va_K (dC, dI) vwCl [] s := hK
  refine W.widen (k := 0) (n := 0) (Nat.le_of_ble_eq_true rfl) (Nat.le_of_ble_eq_true rfl) ?_
  have hw : r_2 = 1 := hw
  rw [hw]
  refine lv_if_ne (tgt := 35) hx hb dX8_setPack_10 (by decide) (fun c_3 => ?_) (fun c_3 => ?_)
  · refine lv_iconst (v := 0) hx hb dX8_setPack_35 (by decide) ?_
    refine W.widen (k := 0) (n := 0) (Nat.le_of_ble_eq_true rfl) (Nat.le_of_ble_eq_true rfl) ?_
    have hP9 := hP.sub (ws' := [(m0, .inr (14, [.ref lc, g1, g2, g3, g4, g5, g6, g7, .int 1]))]) [1] rfl
    have hD9 := hD.sub (ws' := [(m0, .inr (14, [.ref lc, g1, g2, g3, g4, g5, g6, g7, .int 1]))]) [1] (by decide) rfl
    have hK9 := hK.sub (tys' := []) [] rfl
    exact W.iret (v := 0) hx hb hr (fun t ht hW => ⟨⟨0, (), rfl, rfl, ⟨by rw [ht]; exact hP9, va_K.moved hW.alike hK9, hD9⟩⟩, hS.F ht⟩) hS.2.2 dX8_setPack_36
  · exact absurd c_3 (by decide)

set_option maxHeartbeats 4000000 in
set_option maxRecDepth 100000 in
theorem c_X8_at (l : Launch) (em : Nat → Nat) (dC : Nat → ClassId) (dI : Nat → Nat → Nat) (m0 : Nat) (p0 : Int32) (g1 : Value) (g2 : Value) (g3 : Value) (g4 : Value) (g5 : Value) (g6 : Value) (g7 : Value) (g8 : Value) (lc : Nat) (vlc : Value) (sz : Nat) : Met l yX8_at wsX8_at ({ frames := 2, cells := 0, slots := 0, locals := 43 }) (va_Pc [.ref m0, .int p0] (Pw em dC dI sz [(m0, .inr (14, [.ref lc, g1, g2, g3, g4, g5, g6, g7, g8])), (lc, .inr (5, [.int 0, vlc, .int 0]))] [])) (va_Qi (fun (r : Int32) (_ : Unit) => r = 0) (fun _ t => Qw dC dI (va_A [(m0, .inr (14, [.ref lc, g1, g2, g3, g4, g5, g6, g7, g8])), (lc, .inr (5, [.int 0, vlc, .int 0]))] sz) [(m0, .inr (14, [.ref lc, g1, g2, g3, g4, g5, g6, g7, .int 1]))] [] t) (va_A [(m0, .inr (14, [.ref lc, g1, g2, g3, g4, g5, g6, g7, g8])), (lc, .inr (5, [.int 0, vlc, .int 0]))] sz)) 0 0 (va_A [(m0, .inr (14, [.ref lc, g1, g2, g3, g4, g5, g6, g7, g8])), (lc, .inr (5, [.int 0, vlc, .int 0]))] sz) := by
  refine Met.ofW (cc := cX8_at) (maxL := 2) (ret := (some .int)) (by decide) rfl ?_
  intro p e s m args below meth c s₁ B hml hv
  obtain ⟨rfl, hsz, hP, hK, hD0, hamb⟩ := hv
  have hx := B.exec
  have hb := B.bytes
  have hr := B.returns
  have hts := atoms_spec (ws := wsX8_at) B.pre
  have hown : s.vm.findClass RX8 = some m.cls := findClass_of_methodNamed B.named
  have hlocks := B.notSynchronized
  subst hsz
  have hD := hD0.self (sz := s.heap.size)
  generalize hAe : va_A [(m0, .inr (14, [.ref lc, g1, g2, g3, g4, g5, g6, g7, g8])), (lc, .inr (5, [.int 0, vlc, .int 0]))] s.heap.size = A at hD hamb ⊢
  have hA : ∀ q : Nat, s.heap.size ≤ q → A q := fun q h => by rw [← hAe]; exact Or.inr h
  have hS : va_S A s.heap s.heap [] := va_S.rf
  have hP : va_P (dC, dI) vwCl [(m0, .inr (14, [.ref lc, g1, g2, g3, g4, g5, g6, g7, g8])), (lc, .inr (5, [.int 0, vlc, .int 0]))] s.heap := hP
  have hl := lv_entry ([.ref m0, .int p0]) (n := 2) (Nat.le_of_ble_eq_true rfl)
  rw [lg_entry_eq]
  generalize (lg_sl ([.ref m0, .int p0]) ++ List.replicate (2 - (lg_sl ([.ref m0, .int p0])).length) Slot.unset).toArray = ls at hl ⊢
  have hl : lv_has ls 2 [(0, .ref m0), (1, .int p0)] := hl
  refine lv_aload_n hx hb dX8_at_0 rfl (lv_at hl 0 rfl) ?_
  refine lv_aload_n hx hb dX8_at_1 rfl (lv_at hl 0 rfl) ?_
  refine lv_iload_n hx hb dX8_at_2 rfl (lv_at hl 1 rfl) ?_
  have hPc := hP.sub (ws' := [(m0, .inr (14, [.ref lc, g1, g2, g3, g4, g5, g6, g7, g8])), (lc, .inr (5, [.int 0, vlc, .int 0]))]) [0, 1] rfl
  have hDc := hD.sub (ws' := [(m0, .inr (14, [.ref lc, g1, g2, g3, g4, g5, g6, g7, g8])), (lc, .inr (5, [.int 0, vlc, .int 0]))]) [0, 1] (by decide) rfl
  have hKc := hK.sub (tys' := []) [] rfl
  have hFc := va_free (wc := [(m0, .inr (14, [.ref lc, g1, g2, g3, g4, g5, g6, g7, g8])), (lc, .inr (5, [.int 0, vlc, .int 0]))]) hD hS hA [0, 1] rfl
  refine va_calli (va_runV (As := [.int p0]) (rest := [.ref m0]) ⟨hx, hb, hml, hown, hts⟩ (c_X8_isNoCard l em dC dI m0 p0 g1 g2 g3 g4 g5 g6 g7 g8 lc vlc s.heap.size) (cwV 1 hts gX8_at_X8_isNoCard rfl rfl rfl (by decide +kernel) ⟨Nat.le_of_ble_eq_true rfl, Nat.le_of_ble_eq_true rfl⟩) ⟨Pw.blind _ _ _ _ _ _ _, va_recv hKc hPc (ci := 14) (q0 := 0) rfl rfl, fun U hU hW => ⟨rfl, Pw.go hPc hKc hDc hamb hS hFc hU hW⟩⟩ rfl rfl hl.1 rfl (lv_room (Nat.le_of_ble_eq_true rfl)) dX8_at_3 ⟨Nat.le_of_ble_eq_true rfl, Nat.le_of_ble_eq_true rfl⟩) hS (fun q _ h => hFc q h) hFc (fun r_1 u t H1 locs1 ht hvm hw hB hz1 hk1 hS => ?_)
  obtain ⟨hP1, hK1, hD1⟩ := hB
  rw [ht] at hP1
  have hK1 := va_K.moved hvm.symm hK1
  obtain ⟨hP, hD⟩ := va_join (wr := []) (w1 := [(m0, .inr (14, [.ref lc, g1, g2, g3, g4, g5, g6, g7, g8])), (lc, .inr (5, [.int 0, vlc, .int 0]))]) hP hD [0, 1] [] rfl rfl (by decide) (by decide) hk1 hFc hP1 hD1
  have hK := (hK.sub (tys' := []) [] rfl).app hK1
  generalize H1 = H at hP hS ⊢
  have hP : va_P (dC, dI) vwCl [(m0, .inr (14, [.ref lc, g1, g2, g3, g4, g5, g6, g7, g8])), (lc, .inr (5, [.int 0, vlc, .int 0]))] H := hP
  have hD : va_D A [(m0, .inr (14, [.ref lc, g1, g2, g3, g4, g5, g6, g7, g8])), (lc, .inr (5, [.int 0, vlc, .int 0]))] := hD
  have hK : va_K (dC, dI) vwCl [] s := hK
  refine W.widen (k := 0) (n := 0) (Nat.le_of_ble_eq_true rfl) (Nat.le_of_ble_eq_true rfl) ?_
  have hw : r_1 = 1 := hw
  rw [hw]
  refine lv_iconst (v := 1) hx hb dX8_at_6 (by decide) ?_
  have hPc := hP.sub (ws' := [(m0, .inr (14, [.ref lc, g1, g2, g3, g4, g5, g6, g7, g8]))]) [0] rfl
  have hDc := hD.sub (ws' := [(m0, .inr (14, [.ref lc, g1, g2, g3, g4, g5, g6, g7, g8]))]) [0] (by decide) rfl
  have hKc := hK.sub (tys' := []) [] rfl
  have hFc := va_free (wc := [(m0, .inr (14, [.ref lc, g1, g2, g3, g4, g5, g6, g7, g8]))]) hD hS hA [0] rfl
  refine va_calli (va_runV (As := [.int 1, .int 1]) (rest := []) ⟨hx, hb, hml, hown, hts⟩ (c_X8_isThrown_1 l em dC dI m0 1 (.ref lc) g1 g2 g3 g4 g5 g6 g7 g8 H.size) (cwV 2 hts gX8_at_X8_isThrown rfl rfl rfl (by decide +kernel) ⟨Nat.le_of_ble_eq_true rfl, Nat.le_of_ble_eq_true rfl⟩) ⟨Pw.blind _ _ _ _ _ _ _, va_recv hKc hPc (ci := 14) (q0 := 0) rfl rfl, fun U hU hW => ⟨rfl, Pw.go hPc hKc hDc hamb hS hFc hU hW⟩⟩ rfl rfl hl.1 rfl (lv_room (Nat.le_of_ble_eq_true rfl)) dX8_at_7 ⟨Nat.le_of_ble_eq_true rfl, Nat.le_of_ble_eq_true rfl⟩) hS (fun q _ h => hFc q h) hFc (fun r_2 u t H1 locs1 ht hvm hw hB hz1 hk1 hS => ?_)
  obtain ⟨hP1, hK1, hD1⟩ := hB
  rw [ht] at hP1
  have hK1 := va_K.moved hvm.symm hK1
  obtain ⟨hP, hD⟩ := va_join (wr := [(lc, .inr (5, [.int 0, vlc, .int 0]))]) (w1 := [(m0, .inr (14, [.ref lc, g1, g2, g3, g4, g5, g6, g7, .int 1]))]) hP hD [0] [1] rfl rfl (by decide) (by decide) hk1 hFc hP1 hD1
  have hK := (hK.sub (tys' := []) [] rfl).app hK1
  generalize H1 = H at hP hS ⊢
  have hP : va_P (dC, dI) vwCl [(lc, .inr (5, [.int 0, vlc, .int 0])), (m0, .inr (14, [.ref lc, g1, g2, g3, g4, g5, g6, g7, .int 1]))] H := hP
  have hD : va_D A [(lc, .inr (5, [.int 0, vlc, .int 0])), (m0, .inr (14, [.ref lc, g1, g2, g3, g4, g5, g6, g7, .int 1]))] := hD
  have hK : va_K (dC, dI) vwCl [] s := hK
  refine W.widen (k := 0) (n := 0) (Nat.le_of_ble_eq_true rfl) (Nat.le_of_ble_eq_true rfl) ?_
  have hw : r_2 = 1 := hw
  rw [hw]
  refine lv_if_eq (tgt := 17) hx hb dX8_at_10 (by decide) (fun c_3 => ?_) (fun c_3 => ?_)
  · exact absurd c_3 (by decide)
  · refine lv_iconst (v := 0) hx hb dX8_at_13 (by decide) ?_
    refine lv_goto (tgt := 31) hx hb dX8_at_14 (by decide) ?_
    refine W.widen (k := 0) (n := 0) (Nat.le_of_ble_eq_true rfl) (Nat.le_of_ble_eq_true rfl) ?_
    have hP9 := hP.sub (ws' := [(m0, .inr (14, [.ref lc, g1, g2, g3, g4, g5, g6, g7, .int 1]))]) [1] rfl
    have hD9 := hD.sub (ws' := [(m0, .inr (14, [.ref lc, g1, g2, g3, g4, g5, g6, g7, .int 1]))]) [1] (by decide) rfl
    have hK9 := hK.sub (tys' := []) [] rfl
    exact W.iret (v := 0) hx hb hr (fun t ht hW => ⟨⟨0, (), rfl, rfl, ⟨by rw [ht]; exact hP9, va_K.moved hW.alike hK9, hD9⟩⟩, hS.F ht⟩) hS.2.2 dX8_at_31

set_option maxHeartbeats 4000000 in
set_option maxRecDepth 100000 in
theorem c_X8_twist (l : Launch) (em : Nat → Nat) (dC : Nat → ClassId) (dI : Nat → Nat → Nat) (m0 : Nat) (p0 : Int32) (g1 : Value) (g2 : Value) (g3 : Value) (g4 : Value) (g5 : Value) (g6 : Value) (g7 : Value) (g8 : Value) (lc : Nat) (vlc : Value) (sz : Nat) : Met l yX8_twist wsX8_twist ({ frames := 2, cells := 0, slots := 0, locals := 43 }) (va_Pc [.ref m0, .int p0] (Pw em dC dI sz [(m0, .inr (14, [.ref lc, g1, g2, g3, g4, g5, g6, g7, g8])), (lc, .inr (5, [.int 0, vlc, .int 0]))] [])) (va_Qi (fun (r : Int32) (_ : Unit) => r = 0) (fun _ t => Qw dC dI (va_A [(m0, .inr (14, [.ref lc, g1, g2, g3, g4, g5, g6, g7, g8])), (lc, .inr (5, [.int 0, vlc, .int 0]))] sz) [(m0, .inr (14, [.ref lc, g1, g2, g3, g4, g5, g6, g7, .int 1]))] [] t) (va_A [(m0, .inr (14, [.ref lc, g1, g2, g3, g4, g5, g6, g7, g8])), (lc, .inr (5, [.int 0, vlc, .int 0]))] sz)) 0 0 (va_A [(m0, .inr (14, [.ref lc, g1, g2, g3, g4, g5, g6, g7, g8])), (lc, .inr (5, [.int 0, vlc, .int 0]))] sz) := by
  refine Met.ofW (cc := cX8_twist) (maxL := 2) (ret := (some .int)) (by decide) rfl ?_
  intro p e s m args below meth c s₁ B hml hv
  obtain ⟨rfl, hsz, hP, hK, hD0, hamb⟩ := hv
  have hx := B.exec
  have hb := B.bytes
  have hr := B.returns
  have hts := atoms_spec (ws := wsX8_twist) B.pre
  have hown : s.vm.findClass RX8 = some m.cls := findClass_of_methodNamed B.named
  have hlocks := B.notSynchronized
  subst hsz
  have hD := hD0.self (sz := s.heap.size)
  generalize hAe : va_A [(m0, .inr (14, [.ref lc, g1, g2, g3, g4, g5, g6, g7, g8])), (lc, .inr (5, [.int 0, vlc, .int 0]))] s.heap.size = A at hD hamb ⊢
  have hA : ∀ q : Nat, s.heap.size ≤ q → A q := fun q h => by rw [← hAe]; exact Or.inr h
  have hS : va_S A s.heap s.heap [] := va_S.rf
  have hP : va_P (dC, dI) vwCl [(m0, .inr (14, [.ref lc, g1, g2, g3, g4, g5, g6, g7, g8])), (lc, .inr (5, [.int 0, vlc, .int 0]))] s.heap := hP
  have hl := lv_entry ([.ref m0, .int p0]) (n := 2) (Nat.le_of_ble_eq_true rfl)
  rw [lg_entry_eq]
  generalize (lg_sl ([.ref m0, .int p0]) ++ List.replicate (2 - (lg_sl ([.ref m0, .int p0])).length) Slot.unset).toArray = ls at hl ⊢
  have hl : lv_has ls 2 [(0, .ref m0), (1, .int p0)] := hl
  refine lv_aload_n hx hb dX8_twist_0 rfl (lv_at hl 0 rfl) ?_
  refine lv_aload_n hx hb dX8_twist_1 rfl (lv_at hl 0 rfl) ?_
  refine lv_iload_n hx hb dX8_twist_2 rfl (lv_at hl 1 rfl) ?_
  have hPc := hP.sub (ws' := [(m0, .inr (14, [.ref lc, g1, g2, g3, g4, g5, g6, g7, g8])), (lc, .inr (5, [.int 0, vlc, .int 0]))]) [0, 1] rfl
  have hDc := hD.sub (ws' := [(m0, .inr (14, [.ref lc, g1, g2, g3, g4, g5, g6, g7, g8])), (lc, .inr (5, [.int 0, vlc, .int 0]))]) [0, 1] (by decide) rfl
  have hKc := hK.sub (tys' := []) [] rfl
  have hFc := va_free (wc := [(m0, .inr (14, [.ref lc, g1, g2, g3, g4, g5, g6, g7, g8])), (lc, .inr (5, [.int 0, vlc, .int 0]))]) hD hS hA [0, 1] rfl
  refine va_calli (va_runV (As := [.int p0]) (rest := [.ref m0]) ⟨hx, hb, hml, hown, hts⟩ (c_X8_isNoCard l em dC dI m0 p0 g1 g2 g3 g4 g5 g6 g7 g8 lc vlc s.heap.size) (cwV 1 hts gX8_twist_X8_isNoCard rfl rfl rfl (by decide +kernel) ⟨Nat.le_of_ble_eq_true rfl, Nat.le_of_ble_eq_true rfl⟩) ⟨Pw.blind _ _ _ _ _ _ _, va_recv hKc hPc (ci := 14) (q0 := 0) rfl rfl, fun U hU hW => ⟨rfl, Pw.go hPc hKc hDc hamb hS hFc hU hW⟩⟩ rfl rfl hl.1 rfl (lv_room (Nat.le_of_ble_eq_true rfl)) dX8_twist_3 ⟨Nat.le_of_ble_eq_true rfl, Nat.le_of_ble_eq_true rfl⟩) hS (fun q _ h => hFc q h) hFc (fun r_1 u t H1 locs1 ht hvm hw hB hz1 hk1 hS => ?_)
  obtain ⟨hP1, hK1, hD1⟩ := hB
  rw [ht] at hP1
  have hK1 := va_K.moved hvm.symm hK1
  obtain ⟨hP, hD⟩ := va_join (wr := []) (w1 := [(m0, .inr (14, [.ref lc, g1, g2, g3, g4, g5, g6, g7, g8])), (lc, .inr (5, [.int 0, vlc, .int 0]))]) hP hD [0, 1] [] rfl rfl (by decide) (by decide) hk1 hFc hP1 hD1
  have hK := (hK.sub (tys' := []) [] rfl).app hK1
  generalize H1 = H at hP hS ⊢
  have hP : va_P (dC, dI) vwCl [(m0, .inr (14, [.ref lc, g1, g2, g3, g4, g5, g6, g7, g8])), (lc, .inr (5, [.int 0, vlc, .int 0]))] H := hP
  have hD : va_D A [(m0, .inr (14, [.ref lc, g1, g2, g3, g4, g5, g6, g7, g8])), (lc, .inr (5, [.int 0, vlc, .int 0]))] := hD
  have hK : va_K (dC, dI) vwCl [] s := hK
  refine W.widen (k := 0) (n := 0) (Nat.le_of_ble_eq_true rfl) (Nat.le_of_ble_eq_true rfl) ?_
  have hw : r_1 = 1 := hw
  rw [hw]
  refine lv_iconst (v := 1) hx hb dX8_twist_6 (by decide) ?_
  have hPc := hP.sub (ws' := [(m0, .inr (14, [.ref lc, g1, g2, g3, g4, g5, g6, g7, g8]))]) [0] rfl
  have hDc := hD.sub (ws' := [(m0, .inr (14, [.ref lc, g1, g2, g3, g4, g5, g6, g7, g8]))]) [0] (by decide) rfl
  have hKc := hK.sub (tys' := []) [] rfl
  have hFc := va_free (wc := [(m0, .inr (14, [.ref lc, g1, g2, g3, g4, g5, g6, g7, g8]))]) hD hS hA [0] rfl
  refine va_calli (va_runV (As := [.int 1, .int 1]) (rest := []) ⟨hx, hb, hml, hown, hts⟩ (c_X8_isThrown_1 l em dC dI m0 1 (.ref lc) g1 g2 g3 g4 g5 g6 g7 g8 H.size) (cwV 2 hts gX8_twist_X8_isThrown rfl rfl rfl (by decide +kernel) ⟨Nat.le_of_ble_eq_true rfl, Nat.le_of_ble_eq_true rfl⟩) ⟨Pw.blind _ _ _ _ _ _ _, va_recv hKc hPc (ci := 14) (q0 := 0) rfl rfl, fun U hU hW => ⟨rfl, Pw.go hPc hKc hDc hamb hS hFc hU hW⟩⟩ rfl rfl hl.1 rfl (lv_room (Nat.le_of_ble_eq_true rfl)) dX8_twist_7 ⟨Nat.le_of_ble_eq_true rfl, Nat.le_of_ble_eq_true rfl⟩) hS (fun q _ h => hFc q h) hFc (fun r_2 u t H1 locs1 ht hvm hw hB hz1 hk1 hS => ?_)
  obtain ⟨hP1, hK1, hD1⟩ := hB
  rw [ht] at hP1
  have hK1 := va_K.moved hvm.symm hK1
  obtain ⟨hP, hD⟩ := va_join (wr := [(lc, .inr (5, [.int 0, vlc, .int 0]))]) (w1 := [(m0, .inr (14, [.ref lc, g1, g2, g3, g4, g5, g6, g7, .int 1]))]) hP hD [0] [1] rfl rfl (by decide) (by decide) hk1 hFc hP1 hD1
  have hK := (hK.sub (tys' := []) [] rfl).app hK1
  generalize H1 = H at hP hS ⊢
  have hP : va_P (dC, dI) vwCl [(lc, .inr (5, [.int 0, vlc, .int 0])), (m0, .inr (14, [.ref lc, g1, g2, g3, g4, g5, g6, g7, .int 1]))] H := hP
  have hD : va_D A [(lc, .inr (5, [.int 0, vlc, .int 0])), (m0, .inr (14, [.ref lc, g1, g2, g3, g4, g5, g6, g7, .int 1]))] := hD
  have hK : va_K (dC, dI) vwCl [] s := hK
  refine W.widen (k := 0) (n := 0) (Nat.le_of_ble_eq_true rfl) (Nat.le_of_ble_eq_true rfl) ?_
  have hw : r_2 = 1 := hw
  rw [hw]
  refine lv_if_eq (tgt := 17) hx hb dX8_twist_10 (by decide) (fun c_3 => ?_) (fun c_3 => ?_)
  · exact absurd c_3 (by decide)
  · refine lv_iconst (v := 0) hx hb dX8_twist_13 (by decide) ?_
    refine lv_goto (tgt := 31) hx hb dX8_twist_14 (by decide) ?_
    refine W.widen (k := 0) (n := 0) (Nat.le_of_ble_eq_true rfl) (Nat.le_of_ble_eq_true rfl) ?_
    have hP9 := hP.sub (ws' := [(m0, .inr (14, [.ref lc, g1, g2, g3, g4, g5, g6, g7, .int 1]))]) [1] rfl
    have hD9 := hD.sub (ws' := [(m0, .inr (14, [.ref lc, g1, g2, g3, g4, g5, g6, g7, .int 1]))]) [1] (by decide) rfl
    have hK9 := hK.sub (tys' := []) [] rfl
    exact W.iret (v := 0) hx hb hr (fun t ht hW => ⟨⟨0, (), rfl, rfl, ⟨by rw [ht]; exact hP9, va_K.moved hW.alike hK9, hD9⟩⟩, hS.F ht⟩) hS.2.2 dX8_twist_31

set_option maxHeartbeats 4000000 in
set_option maxRecDepth 100000 in
theorem c_X8_slip (l : Launch) (em : Nat → Nat) (dC : Nat → ClassId) (dI : Nat → Nat → Nat) (m0 : Nat) (p0 : Int32) (p1 : Int32) (g1 : Value) (g2 : Value) (g3 : Value) (g4 : Value) (g5 : Value) (g6 : Value) (g7 : Value) (g8 : Value) (lc : Nat) (vlc : Value) (sz : Nat) : Met l yX8_slip wsX8_slip ({ frames := 2, cells := 0, slots := 0, locals := 43 }) (va_Pc [.ref m0, .int p0, .int p1] (Pw em dC dI sz [(m0, .inr (14, [.ref lc, g1, g2, g3, g4, g5, g6, g7, g8])), (lc, .inr (5, [.int 0, vlc, .int 0]))] [])) (va_Qi (fun (r : Int32) (_ : Unit) => r = 0) (fun _ t => Qw dC dI (va_A [(m0, .inr (14, [.ref lc, g1, g2, g3, g4, g5, g6, g7, g8])), (lc, .inr (5, [.int 0, vlc, .int 0]))] sz) [(m0, .inr (14, [.ref lc, g1, g2, g3, g4, g5, g6, g7, .int 1]))] [] t) (va_A [(m0, .inr (14, [.ref lc, g1, g2, g3, g4, g5, g6, g7, g8])), (lc, .inr (5, [.int 0, vlc, .int 0]))] sz)) 0 0 (va_A [(m0, .inr (14, [.ref lc, g1, g2, g3, g4, g5, g6, g7, g8])), (lc, .inr (5, [.int 0, vlc, .int 0]))] sz) := by
  refine Met.ofW (cc := cX8_slip) (maxL := 4) (ret := (some .int)) (by decide) rfl ?_
  intro p e s m args below meth c s₁ B hml hv
  obtain ⟨rfl, hsz, hP, hK, hD0, hamb⟩ := hv
  have hx := B.exec
  have hb := B.bytes
  have hr := B.returns
  have hts := atoms_spec (ws := wsX8_slip) B.pre
  have hown : s.vm.findClass RX8 = some m.cls := findClass_of_methodNamed B.named
  have hlocks := B.notSynchronized
  subst hsz
  have hD := hD0.self (sz := s.heap.size)
  generalize hAe : va_A [(m0, .inr (14, [.ref lc, g1, g2, g3, g4, g5, g6, g7, g8])), (lc, .inr (5, [.int 0, vlc, .int 0]))] s.heap.size = A at hD hamb ⊢
  have hA : ∀ q : Nat, s.heap.size ≤ q → A q := fun q h => by rw [← hAe]; exact Or.inr h
  have hS : va_S A s.heap s.heap [] := va_S.rf
  have hP : va_P (dC, dI) vwCl [(m0, .inr (14, [.ref lc, g1, g2, g3, g4, g5, g6, g7, g8])), (lc, .inr (5, [.int 0, vlc, .int 0]))] s.heap := hP
  have hl := lv_entry ([.ref m0, .int p0, .int p1]) (n := 4) (Nat.le_of_ble_eq_true rfl)
  rw [lg_entry_eq]
  generalize (lg_sl ([.ref m0, .int p0, .int p1]) ++ List.replicate (4 - (lg_sl ([.ref m0, .int p0, .int p1])).length) Slot.unset).toArray = ls at hl ⊢
  have hl : lv_has ls 4 [(0, .ref m0), (1, .int p0), (2, .int p1)] := hl
  refine lv_aload_n hx hb dX8_slip_0 rfl (lv_at hl 0 rfl) ?_
  refine lv_aload_n hx hb dX8_slip_1 rfl (lv_at hl 0 rfl) ?_
  refine lv_iload_n hx hb dX8_slip_2 rfl (lv_at hl 1 rfl) ?_
  have hPc := hP.sub (ws' := [(m0, .inr (14, [.ref lc, g1, g2, g3, g4, g5, g6, g7, g8])), (lc, .inr (5, [.int 0, vlc, .int 0]))]) [0, 1] rfl
  have hDc := hD.sub (ws' := [(m0, .inr (14, [.ref lc, g1, g2, g3, g4, g5, g6, g7, g8])), (lc, .inr (5, [.int 0, vlc, .int 0]))]) [0, 1] (by decide) rfl
  have hKc := hK.sub (tys' := []) [] rfl
  have hFc := va_free (wc := [(m0, .inr (14, [.ref lc, g1, g2, g3, g4, g5, g6, g7, g8])), (lc, .inr (5, [.int 0, vlc, .int 0]))]) hD hS hA [0, 1] rfl
  refine va_calli (va_runV (As := [.int p0]) (rest := [.ref m0]) ⟨hx, hb, hml, hown, hts⟩ (c_X8_isNoCard l em dC dI m0 p0 g1 g2 g3 g4 g5 g6 g7 g8 lc vlc s.heap.size) (cwV 1 hts gX8_slip_X8_isNoCard rfl rfl rfl (by decide +kernel) ⟨Nat.le_of_ble_eq_true rfl, Nat.le_of_ble_eq_true rfl⟩) ⟨Pw.blind _ _ _ _ _ _ _, va_recv hKc hPc (ci := 14) (q0 := 0) rfl rfl, fun U hU hW => ⟨rfl, Pw.go hPc hKc hDc hamb hS hFc hU hW⟩⟩ rfl rfl hl.1 rfl (lv_room (Nat.le_of_ble_eq_true rfl)) dX8_slip_3 ⟨Nat.le_of_ble_eq_true rfl, Nat.le_of_ble_eq_true rfl⟩) hS (fun q _ h => hFc q h) hFc (fun r_1 u t H1 locs1 ht hvm hw hB hz1 hk1 hS => ?_)
  obtain ⟨hP1, hK1, hD1⟩ := hB
  rw [ht] at hP1
  have hK1 := va_K.moved hvm.symm hK1
  obtain ⟨hP, hD⟩ := va_join (wr := []) (w1 := [(m0, .inr (14, [.ref lc, g1, g2, g3, g4, g5, g6, g7, g8])), (lc, .inr (5, [.int 0, vlc, .int 0]))]) hP hD [0, 1] [] rfl rfl (by decide) (by decide) hk1 hFc hP1 hD1
  have hK := (hK.sub (tys' := []) [] rfl).app hK1
  generalize H1 = H at hP hS ⊢
  have hP : va_P (dC, dI) vwCl [(m0, .inr (14, [.ref lc, g1, g2, g3, g4, g5, g6, g7, g8])), (lc, .inr (5, [.int 0, vlc, .int 0]))] H := hP
  have hD : va_D A [(m0, .inr (14, [.ref lc, g1, g2, g3, g4, g5, g6, g7, g8])), (lc, .inr (5, [.int 0, vlc, .int 0]))] := hD
  have hK : va_K (dC, dI) vwCl [] s := hK
  refine W.widen (k := 0) (n := 0) (Nat.le_of_ble_eq_true rfl) (Nat.le_of_ble_eq_true rfl) ?_
  have hw : r_1 = 1 := hw
  rw [hw]
  refine lv_iconst (v := 1) hx hb dX8_slip_6 (by decide) ?_
  have hPc := hP.sub (ws' := [(m0, .inr (14, [.ref lc, g1, g2, g3, g4, g5, g6, g7, g8]))]) [0] rfl
  have hDc := hD.sub (ws' := [(m0, .inr (14, [.ref lc, g1, g2, g3, g4, g5, g6, g7, g8]))]) [0] (by decide) rfl
  have hKc := hK.sub (tys' := []) [] rfl
  have hFc := va_free (wc := [(m0, .inr (14, [.ref lc, g1, g2, g3, g4, g5, g6, g7, g8]))]) hD hS hA [0] rfl
  refine va_calli (va_runV (As := [.int 1, .int 1]) (rest := []) ⟨hx, hb, hml, hown, hts⟩ (c_X8_isThrown_1 l em dC dI m0 1 (.ref lc) g1 g2 g3 g4 g5 g6 g7 g8 H.size) (cwV 2 hts gX8_slip_X8_isThrown rfl rfl rfl (by decide +kernel) ⟨Nat.le_of_ble_eq_true rfl, Nat.le_of_ble_eq_true rfl⟩) ⟨Pw.blind _ _ _ _ _ _ _, va_recv hKc hPc (ci := 14) (q0 := 0) rfl rfl, fun U hU hW => ⟨rfl, Pw.go hPc hKc hDc hamb hS hFc hU hW⟩⟩ rfl rfl hl.1 rfl (lv_room (Nat.le_of_ble_eq_true rfl)) dX8_slip_7 ⟨Nat.le_of_ble_eq_true rfl, Nat.le_of_ble_eq_true rfl⟩) hS (fun q _ h => hFc q h) hFc (fun r_2 u t H1 locs1 ht hvm hw hB hz1 hk1 hS => ?_)
  obtain ⟨hP1, hK1, hD1⟩ := hB
  rw [ht] at hP1
  have hK1 := va_K.moved hvm.symm hK1
  obtain ⟨hP, hD⟩ := va_join (wr := [(lc, .inr (5, [.int 0, vlc, .int 0]))]) (w1 := [(m0, .inr (14, [.ref lc, g1, g2, g3, g4, g5, g6, g7, .int 1]))]) hP hD [0] [1] rfl rfl (by decide) (by decide) hk1 hFc hP1 hD1
  have hK := (hK.sub (tys' := []) [] rfl).app hK1
  generalize H1 = H at hP hS ⊢
  have hP : va_P (dC, dI) vwCl [(lc, .inr (5, [.int 0, vlc, .int 0])), (m0, .inr (14, [.ref lc, g1, g2, g3, g4, g5, g6, g7, .int 1]))] H := hP
  have hD : va_D A [(lc, .inr (5, [.int 0, vlc, .int 0])), (m0, .inr (14, [.ref lc, g1, g2, g3, g4, g5, g6, g7, .int 1]))] := hD
  have hK : va_K (dC, dI) vwCl [] s := hK
  refine W.widen (k := 0) (n := 0) (Nat.le_of_ble_eq_true rfl) (Nat.le_of_ble_eq_true rfl) ?_
  have hw : r_2 = 1 := hw
  rw [hw]
  refine lv_if_ne (tgt := 41) hx hb dX8_slip_10 (by decide) (fun c_3 => ?_) (fun c_3 => ?_)
  · refine lv_iconst (v := 0) hx hb dX8_slip_41 (by decide) ?_
    refine W.widen (k := 0) (n := 0) (Nat.le_of_ble_eq_true rfl) (Nat.le_of_ble_eq_true rfl) ?_
    have hP9 := hP.sub (ws' := [(m0, .inr (14, [.ref lc, g1, g2, g3, g4, g5, g6, g7, .int 1]))]) [1] rfl
    have hD9 := hD.sub (ws' := [(m0, .inr (14, [.ref lc, g1, g2, g3, g4, g5, g6, g7, .int 1]))]) [1] (by decide) rfl
    have hK9 := hK.sub (tys' := []) [] rfl
    exact W.iret (v := 0) hx hb hr (fun t ht hW => ⟨⟨0, (), rfl, rfl, ⟨by rw [ht]; exact hP9, va_K.moved hW.alike hK9, hD9⟩⟩, hS.F ht⟩) hS.2.2 dX8_slip_42
  · exact absurd c_3 (by decide)

set_option maxHeartbeats 4000000 in
set_option maxRecDepth 100000 in
theorem c_X8_longestFloat (l : Launch) (em : Nat → Nat) (dC : Nat → ClassId) (dI : Nat → Nat → Nat) (m0 : Nat) (p0 : Int32) (g1 : Value) (g2 : Value) (g3 : Value) (g4 : Value) (g5 : Value) (g6 : Value) (g7 : Value) (g8 : Value) (lc : Nat) (vlc : Value) (sz : Nat) : Met l yX8_longestFloat wsX8_longestFloat ({ frames := 2, cells := 0, slots := 0, locals := 43 }) (va_Pc [.ref m0, .int p0] (Pw em dC dI sz [(m0, .inr (14, [.ref lc, g1, g2, g3, g4, g5, g6, g7, g8])), (lc, .inr (5, [.int 0, vlc, .int 0]))] [])) (va_Qi (fun (r : Int32) (_ : Unit) => r = 0) (fun _ t => Qw dC dI (va_A [(m0, .inr (14, [.ref lc, g1, g2, g3, g4, g5, g6, g7, g8])), (lc, .inr (5, [.int 0, vlc, .int 0]))] sz) [(m0, .inr (14, [.ref lc, g1, g2, g3, g4, g5, g6, g7, .int 1]))] [] t) (va_A [(m0, .inr (14, [.ref lc, g1, g2, g3, g4, g5, g6, g7, g8])), (lc, .inr (5, [.int 0, vlc, .int 0]))] sz)) 0 0 (va_A [(m0, .inr (14, [.ref lc, g1, g2, g3, g4, g5, g6, g7, g8])), (lc, .inr (5, [.int 0, vlc, .int 0]))] sz) := by
  refine Met.ofW (cc := cX8_longestFloat) (maxL := 5) (ret := (some .int)) (by decide) rfl ?_
  intro p e s m args below meth c s₁ B hml hv
  obtain ⟨rfl, hsz, hP, hK, hD0, hamb⟩ := hv
  have hx := B.exec
  have hb := B.bytes
  have hr := B.returns
  have hts := atoms_spec (ws := wsX8_longestFloat) B.pre
  have hown : s.vm.findClass RX8 = some m.cls := findClass_of_methodNamed B.named
  have hlocks := B.notSynchronized
  subst hsz
  have hD := hD0.self (sz := s.heap.size)
  generalize hAe : va_A [(m0, .inr (14, [.ref lc, g1, g2, g3, g4, g5, g6, g7, g8])), (lc, .inr (5, [.int 0, vlc, .int 0]))] s.heap.size = A at hD hamb ⊢
  have hA : ∀ q : Nat, s.heap.size ≤ q → A q := fun q h => by rw [← hAe]; exact Or.inr h
  have hS : va_S A s.heap s.heap [] := va_S.rf
  have hP : va_P (dC, dI) vwCl [(m0, .inr (14, [.ref lc, g1, g2, g3, g4, g5, g6, g7, g8])), (lc, .inr (5, [.int 0, vlc, .int 0]))] s.heap := hP
  have hl := lv_entry ([.ref m0, .int p0]) (n := 5) (Nat.le_of_ble_eq_true rfl)
  rw [lg_entry_eq]
  generalize (lg_sl ([.ref m0, .int p0]) ++ List.replicate (5 - (lg_sl ([.ref m0, .int p0])).length) Slot.unset).toArray = ls at hl ⊢
  have hl : lv_has ls 5 [(0, .ref m0), (1, .int p0)] := hl
  refine lv_aload_n hx hb dX8_longestFloat_0 rfl (lv_at hl 0 rfl) ?_
  refine lv_aload_n hx hb dX8_longestFloat_1 rfl (lv_at hl 0 rfl) ?_
  refine lv_iload_n hx hb dX8_longestFloat_2 rfl (lv_at hl 1 rfl) ?_
  have hPc := hP.sub (ws' := [(m0, .inr (14, [.ref lc, g1, g2, g3, g4, g5, g6, g7, g8])), (lc, .inr (5, [.int 0, vlc, .int 0]))]) [0, 1] rfl
  have hDc := hD.sub (ws' := [(m0, .inr (14, [.ref lc, g1, g2, g3, g4, g5, g6, g7, g8])), (lc, .inr (5, [.int 0, vlc, .int 0]))]) [0, 1] (by decide) rfl
  have hKc := hK.sub (tys' := []) [] rfl
  have hFc := va_free (wc := [(m0, .inr (14, [.ref lc, g1, g2, g3, g4, g5, g6, g7, g8])), (lc, .inr (5, [.int 0, vlc, .int 0]))]) hD hS hA [0, 1] rfl
  refine va_calli (va_runV (As := [.int p0]) (rest := [.ref m0]) ⟨hx, hb, hml, hown, hts⟩ (c_X8_isNoCard l em dC dI m0 p0 g1 g2 g3 g4 g5 g6 g7 g8 lc vlc s.heap.size) (cwV 1 hts gX8_longestFloat_X8_isNoCard rfl rfl rfl (by decide +kernel) ⟨Nat.le_of_ble_eq_true rfl, Nat.le_of_ble_eq_true rfl⟩) ⟨Pw.blind _ _ _ _ _ _ _, va_recv hKc hPc (ci := 14) (q0 := 0) rfl rfl, fun U hU hW => ⟨rfl, Pw.go hPc hKc hDc hamb hS hFc hU hW⟩⟩ rfl rfl hl.1 rfl (lv_room (Nat.le_of_ble_eq_true rfl)) dX8_longestFloat_3 ⟨Nat.le_of_ble_eq_true rfl, Nat.le_of_ble_eq_true rfl⟩) hS (fun q _ h => hFc q h) hFc (fun r_1 u t H1 locs1 ht hvm hw hB hz1 hk1 hS => ?_)
  obtain ⟨hP1, hK1, hD1⟩ := hB
  rw [ht] at hP1
  have hK1 := va_K.moved hvm.symm hK1
  obtain ⟨hP, hD⟩ := va_join (wr := []) (w1 := [(m0, .inr (14, [.ref lc, g1, g2, g3, g4, g5, g6, g7, g8])), (lc, .inr (5, [.int 0, vlc, .int 0]))]) hP hD [0, 1] [] rfl rfl (by decide) (by decide) hk1 hFc hP1 hD1
  have hK := (hK.sub (tys' := []) [] rfl).app hK1
  generalize H1 = H at hP hS ⊢
  have hP : va_P (dC, dI) vwCl [(m0, .inr (14, [.ref lc, g1, g2, g3, g4, g5, g6, g7, g8])), (lc, .inr (5, [.int 0, vlc, .int 0]))] H := hP
  have hD : va_D A [(m0, .inr (14, [.ref lc, g1, g2, g3, g4, g5, g6, g7, g8])), (lc, .inr (5, [.int 0, vlc, .int 0]))] := hD
  have hK : va_K (dC, dI) vwCl [] s := hK
  refine W.widen (k := 0) (n := 0) (Nat.le_of_ble_eq_true rfl) (Nat.le_of_ble_eq_true rfl) ?_
  have hw : r_1 = 1 := hw
  rw [hw]
  refine lv_iconst (v := 1) hx hb dX8_longestFloat_6 (by decide) ?_
  have hPc := hP.sub (ws' := [(m0, .inr (14, [.ref lc, g1, g2, g3, g4, g5, g6, g7, g8]))]) [0] rfl
  have hDc := hD.sub (ws' := [(m0, .inr (14, [.ref lc, g1, g2, g3, g4, g5, g6, g7, g8]))]) [0] (by decide) rfl
  have hKc := hK.sub (tys' := []) [] rfl
  have hFc := va_free (wc := [(m0, .inr (14, [.ref lc, g1, g2, g3, g4, g5, g6, g7, g8]))]) hD hS hA [0] rfl
  refine va_calli (va_runV (As := [.int 1, .int 1]) (rest := []) ⟨hx, hb, hml, hown, hts⟩ (c_X8_isThrown_1 l em dC dI m0 1 (.ref lc) g1 g2 g3 g4 g5 g6 g7 g8 H.size) (cwV 2 hts gX8_longestFloat_X8_isThrown rfl rfl rfl (by decide +kernel) ⟨Nat.le_of_ble_eq_true rfl, Nat.le_of_ble_eq_true rfl⟩) ⟨Pw.blind _ _ _ _ _ _ _, va_recv hKc hPc (ci := 14) (q0 := 0) rfl rfl, fun U hU hW => ⟨rfl, Pw.go hPc hKc hDc hamb hS hFc hU hW⟩⟩ rfl rfl hl.1 rfl (lv_room (Nat.le_of_ble_eq_true rfl)) dX8_longestFloat_7 ⟨Nat.le_of_ble_eq_true rfl, Nat.le_of_ble_eq_true rfl⟩) hS (fun q _ h => hFc q h) hFc (fun r_2 u t H1 locs1 ht hvm hw hB hz1 hk1 hS => ?_)
  obtain ⟨hP1, hK1, hD1⟩ := hB
  rw [ht] at hP1
  have hK1 := va_K.moved hvm.symm hK1
  obtain ⟨hP, hD⟩ := va_join (wr := [(lc, .inr (5, [.int 0, vlc, .int 0]))]) (w1 := [(m0, .inr (14, [.ref lc, g1, g2, g3, g4, g5, g6, g7, .int 1]))]) hP hD [0] [1] rfl rfl (by decide) (by decide) hk1 hFc hP1 hD1
  have hK := (hK.sub (tys' := []) [] rfl).app hK1
  generalize H1 = H at hP hS ⊢
  have hP : va_P (dC, dI) vwCl [(lc, .inr (5, [.int 0, vlc, .int 0])), (m0, .inr (14, [.ref lc, g1, g2, g3, g4, g5, g6, g7, .int 1]))] H := hP
  have hD : va_D A [(lc, .inr (5, [.int 0, vlc, .int 0])), (m0, .inr (14, [.ref lc, g1, g2, g3, g4, g5, g6, g7, .int 1]))] := hD
  have hK : va_K (dC, dI) vwCl [] s := hK
  refine W.widen (k := 0) (n := 0) (Nat.le_of_ble_eq_true rfl) (Nat.le_of_ble_eq_true rfl) ?_
  have hw : r_2 = 1 := hw
  rw [hw]
  refine lv_if_eq (tgt := 15) hx hb dX8_longestFloat_10 (by decide) (fun c_3 => ?_) (fun c_3 => ?_)
  · exact absurd c_3 (by decide)
  · refine lv_iconst (v := 0) hx hb dX8_longestFloat_13 (by decide) ?_
    refine W.widen (k := 0) (n := 0) (Nat.le_of_ble_eq_true rfl) (Nat.le_of_ble_eq_true rfl) ?_
    have hP9 := hP.sub (ws' := [(m0, .inr (14, [.ref lc, g1, g2, g3, g4, g5, g6, g7, .int 1]))]) [1] rfl
    have hD9 := hD.sub (ws' := [(m0, .inr (14, [.ref lc, g1, g2, g3, g4, g5, g6, g7, .int 1]))]) [1] (by decide) rfl
    have hK9 := hK.sub (tys' := []) [] rfl
    exact W.iret (v := 0) hx hb hr (fun t ht hW => ⟨⟨0, (), rfl, rfl, ⟨by rw [ht]; exact hP9, va_K.moved hW.alike hK9, hD9⟩⟩, hS.F ht⟩) hS.2.2 dX8_longestFloat_14

set_option maxHeartbeats 4000000 in
set_option maxRecDepth 100000 in
theorem c_X8_wanted (l : Launch) (em : Nat → Nat) (dC : Nat → ClassId) (dI : Nat → Nat → Nat) (m0 : Nat) (p0 : Int32) (p1 : Int32) (p2 : Int32) (g1 : Value) (g2 : Value) (g3 : Value) (g4 : Value) (g5 : Value) (g6 : Value) (g7 : Value) (g8 : Value) (lc : Nat) (vlc : Value) (sz : Nat) : Met l yX8_wanted wsX8_wanted ({ frames := 2, cells := 0, slots := 0, locals := 43 }) (va_Pc [.ref m0, .int p0, .int p1, .int p2] (Pw em dC dI sz [(m0, .inr (14, [.ref lc, g1, g2, g3, g4, g5, g6, g7, g8])), (lc, .inr (5, [.int 0, vlc, .int 0]))] [])) (va_Qi (fun (r : Int32) (_ : Unit) => r = 0) (fun _ t => Qw dC dI (va_A [(m0, .inr (14, [.ref lc, g1, g2, g3, g4, g5, g6, g7, g8])), (lc, .inr (5, [.int 0, vlc, .int 0]))] sz) [(m0, .inr (14, [.ref lc, g1, g2, g3, g4, g5, g6, g7, .int 1]))] [] t) (va_A [(m0, .inr (14, [.ref lc, g1, g2, g3, g4, g5, g6, g7, g8])), (lc, .inr (5, [.int 0, vlc, .int 0]))] sz)) 0 0 (va_A [(m0, .inr (14, [.ref lc, g1, g2, g3, g4, g5, g6, g7, g8])), (lc, .inr (5, [.int 0, vlc, .int 0]))] sz) := by
  refine Met.ofW (cc := cX8_wanted) (maxL := 4) (ret := (some .int)) (by decide) rfl ?_
  intro p e s m args below meth c s₁ B hml hv
  obtain ⟨rfl, hsz, hP, hK, hD0, hamb⟩ := hv
  have hx := B.exec
  have hb := B.bytes
  have hr := B.returns
  have hts := atoms_spec (ws := wsX8_wanted) B.pre
  have hown : s.vm.findClass RX8 = some m.cls := findClass_of_methodNamed B.named
  have hlocks := B.notSynchronized
  subst hsz
  have hD := hD0.self (sz := s.heap.size)
  generalize hAe : va_A [(m0, .inr (14, [.ref lc, g1, g2, g3, g4, g5, g6, g7, g8])), (lc, .inr (5, [.int 0, vlc, .int 0]))] s.heap.size = A at hD hamb ⊢
  have hA : ∀ q : Nat, s.heap.size ≤ q → A q := fun q h => by rw [← hAe]; exact Or.inr h
  have hS : va_S A s.heap s.heap [] := va_S.rf
  have hP : va_P (dC, dI) vwCl [(m0, .inr (14, [.ref lc, g1, g2, g3, g4, g5, g6, g7, g8])), (lc, .inr (5, [.int 0, vlc, .int 0]))] s.heap := hP
  have hl := lv_entry ([.ref m0, .int p0, .int p1, .int p2]) (n := 4) (Nat.le_of_ble_eq_true rfl)
  rw [lg_entry_eq]
  generalize (lg_sl ([.ref m0, .int p0, .int p1, .int p2]) ++ List.replicate (4 - (lg_sl ([.ref m0, .int p0, .int p1, .int p2])).length) Slot.unset).toArray = ls at hl ⊢
  have hl : lv_has ls 4 [(0, .ref m0), (1, .int p0), (2, .int p1), (3, .int p2)] := hl
  refine lv_aload_n hx hb dX8_wanted_0 rfl (lv_at hl 0 rfl) ?_
  refine lv_aload_n hx hb dX8_wanted_1 rfl (lv_at hl 0 rfl) ?_
  refine lv_iload_n hx hb dX8_wanted_2 rfl (lv_at hl 1 rfl) ?_
  have hPc := hP.sub (ws' := [(m0, .inr (14, [.ref lc, g1, g2, g3, g4, g5, g6, g7, g8])), (lc, .inr (5, [.int 0, vlc, .int 0]))]) [0, 1] rfl
  have hDc := hD.sub (ws' := [(m0, .inr (14, [.ref lc, g1, g2, g3, g4, g5, g6, g7, g8])), (lc, .inr (5, [.int 0, vlc, .int 0]))]) [0, 1] (by decide) rfl
  have hKc := hK.sub (tys' := []) [] rfl
  have hFc := va_free (wc := [(m0, .inr (14, [.ref lc, g1, g2, g3, g4, g5, g6, g7, g8])), (lc, .inr (5, [.int 0, vlc, .int 0]))]) hD hS hA [0, 1] rfl
  refine va_calli (va_runV (As := [.int p0]) (rest := [.ref m0]) ⟨hx, hb, hml, hown, hts⟩ (c_X8_isNoCard l em dC dI m0 p0 g1 g2 g3 g4 g5 g6 g7 g8 lc vlc s.heap.size) (cwV 1 hts gX8_wanted_X8_isNoCard rfl rfl rfl (by decide +kernel) ⟨Nat.le_of_ble_eq_true rfl, Nat.le_of_ble_eq_true rfl⟩) ⟨Pw.blind _ _ _ _ _ _ _, va_recv hKc hPc (ci := 14) (q0 := 0) rfl rfl, fun U hU hW => ⟨rfl, Pw.go hPc hKc hDc hamb hS hFc hU hW⟩⟩ rfl rfl hl.1 rfl (lv_room (Nat.le_of_ble_eq_true rfl)) dX8_wanted_3 ⟨Nat.le_of_ble_eq_true rfl, Nat.le_of_ble_eq_true rfl⟩) hS (fun q _ h => hFc q h) hFc (fun r_1 u t H1 locs1 ht hvm hw hB hz1 hk1 hS => ?_)
  obtain ⟨hP1, hK1, hD1⟩ := hB
  rw [ht] at hP1
  have hK1 := va_K.moved hvm.symm hK1
  obtain ⟨hP, hD⟩ := va_join (wr := []) (w1 := [(m0, .inr (14, [.ref lc, g1, g2, g3, g4, g5, g6, g7, g8])), (lc, .inr (5, [.int 0, vlc, .int 0]))]) hP hD [0, 1] [] rfl rfl (by decide) (by decide) hk1 hFc hP1 hD1
  have hK := (hK.sub (tys' := []) [] rfl).app hK1
  generalize H1 = H at hP hS ⊢
  have hP : va_P (dC, dI) vwCl [(m0, .inr (14, [.ref lc, g1, g2, g3, g4, g5, g6, g7, g8])), (lc, .inr (5, [.int 0, vlc, .int 0]))] H := hP
  have hD : va_D A [(m0, .inr (14, [.ref lc, g1, g2, g3, g4, g5, g6, g7, g8])), (lc, .inr (5, [.int 0, vlc, .int 0]))] := hD
  have hK : va_K (dC, dI) vwCl [] s := hK
  refine W.widen (k := 0) (n := 0) (Nat.le_of_ble_eq_true rfl) (Nat.le_of_ble_eq_true rfl) ?_
  have hw : r_1 = 1 := hw
  rw [hw]
  refine lv_iconst (v := 1) hx hb dX8_wanted_6 (by decide) ?_
  have hPc := hP.sub (ws' := [(m0, .inr (14, [.ref lc, g1, g2, g3, g4, g5, g6, g7, g8]))]) [0] rfl
  have hDc := hD.sub (ws' := [(m0, .inr (14, [.ref lc, g1, g2, g3, g4, g5, g6, g7, g8]))]) [0] (by decide) rfl
  have hKc := hK.sub (tys' := []) [] rfl
  have hFc := va_free (wc := [(m0, .inr (14, [.ref lc, g1, g2, g3, g4, g5, g6, g7, g8]))]) hD hS hA [0] rfl
  refine va_calli (va_runV (As := [.int 1, .int 1]) (rest := []) ⟨hx, hb, hml, hown, hts⟩ (c_X8_isThrown_1 l em dC dI m0 1 (.ref lc) g1 g2 g3 g4 g5 g6 g7 g8 H.size) (cwV 2 hts gX8_wanted_X8_isThrown rfl rfl rfl (by decide +kernel) ⟨Nat.le_of_ble_eq_true rfl, Nat.le_of_ble_eq_true rfl⟩) ⟨Pw.blind _ _ _ _ _ _ _, va_recv hKc hPc (ci := 14) (q0 := 0) rfl rfl, fun U hU hW => ⟨rfl, Pw.go hPc hKc hDc hamb hS hFc hU hW⟩⟩ rfl rfl hl.1 rfl (lv_room (Nat.le_of_ble_eq_true rfl)) dX8_wanted_7 ⟨Nat.le_of_ble_eq_true rfl, Nat.le_of_ble_eq_true rfl⟩) hS (fun q _ h => hFc q h) hFc (fun r_2 u t H1 locs1 ht hvm hw hB hz1 hk1 hS => ?_)
  obtain ⟨hP1, hK1, hD1⟩ := hB
  rw [ht] at hP1
  have hK1 := va_K.moved hvm.symm hK1
  obtain ⟨hP, hD⟩ := va_join (wr := [(lc, .inr (5, [.int 0, vlc, .int 0]))]) (w1 := [(m0, .inr (14, [.ref lc, g1, g2, g3, g4, g5, g6, g7, .int 1]))]) hP hD [0] [1] rfl rfl (by decide) (by decide) hk1 hFc hP1 hD1
  have hK := (hK.sub (tys' := []) [] rfl).app hK1
  generalize H1 = H at hP hS ⊢
  have hP : va_P (dC, dI) vwCl [(lc, .inr (5, [.int 0, vlc, .int 0])), (m0, .inr (14, [.ref lc, g1, g2, g3, g4, g5, g6, g7, .int 1]))] H := hP
  have hD : va_D A [(lc, .inr (5, [.int 0, vlc, .int 0])), (m0, .inr (14, [.ref lc, g1, g2, g3, g4, g5, g6, g7, .int 1]))] := hD
  have hK : va_K (dC, dI) vwCl [] s := hK
  refine W.widen (k := 0) (n := 0) (Nat.le_of_ble_eq_true rfl) (Nat.le_of_ble_eq_true rfl) ?_
  have hw : r_2 = 1 := hw
  rw [hw]
  refine lv_if_ne (tgt := 36) hx hb dX8_wanted_10 (by decide) (fun c_3 => ?_) (fun c_3 => ?_)
  · refine lv_iconst (v := 0) hx hb dX8_wanted_36 (by decide) ?_
    refine lv_goto (tgt := 47) hx hb dX8_wanted_37 (by decide) ?_
    refine W.widen (k := 0) (n := 0) (Nat.le_of_ble_eq_true rfl) (Nat.le_of_ble_eq_true rfl) ?_
    have hP9 := hP.sub (ws' := [(m0, .inr (14, [.ref lc, g1, g2, g3, g4, g5, g6, g7, .int 1]))]) [1] rfl
    have hD9 := hD.sub (ws' := [(m0, .inr (14, [.ref lc, g1, g2, g3, g4, g5, g6, g7, .int 1]))]) [1] (by decide) rfl
    have hK9 := hK.sub (tys' := []) [] rfl
    exact W.iret (v := 0) hx hb hr (fun t ht hW => ⟨⟨0, (), rfl, rfl, ⟨by rw [ht]; exact hP9, va_K.moved hW.alike hK9, hD9⟩⟩, hS.F ht⟩) hS.2.2 dX8_wanted_47
  · exact absurd c_3 (by decide)

set_option maxHeartbeats 4000000 in
set_option maxRecDepth 100000 in
theorem c_X8_pairs (l : Launch) (em : Nat → Nat) (dC : Nat → ClassId) (dI : Nat → Nat → Nat) (m0 : Nat) (p0 : Int32) (g1 : Value) (g2 : Value) (g3 : Value) (g4 : Value) (g5 : Value) (g6 : Value) (g7 : Value) (g8 : Value) (lc : Nat) (vlc : Value) (sz : Nat) : Met l yX8_pairs wsX8_pairs ({ frames := 2, cells := 0, slots := 0, locals := 43 }) (va_Pc [.ref m0, .int p0] (Pw em dC dI sz [(m0, .inr (14, [.ref lc, g1, g2, g3, g4, g5, g6, g7, g8])), (lc, .inr (5, [.int 0, vlc, .int 0]))] [])) (va_Qi (fun (r : Int32) (_ : Unit) => r = 0) (fun _ t => Qw dC dI (va_A [(m0, .inr (14, [.ref lc, g1, g2, g3, g4, g5, g6, g7, g8])), (lc, .inr (5, [.int 0, vlc, .int 0]))] sz) [(m0, .inr (14, [.ref lc, g1, g2, g3, g4, g5, g6, g7, .int 1]))] [] t) (va_A [(m0, .inr (14, [.ref lc, g1, g2, g3, g4, g5, g6, g7, g8])), (lc, .inr (5, [.int 0, vlc, .int 0]))] sz)) 0 0 (va_A [(m0, .inr (14, [.ref lc, g1, g2, g3, g4, g5, g6, g7, g8])), (lc, .inr (5, [.int 0, vlc, .int 0]))] sz) := by
  refine Met.ofW (cc := cX8_pairs) (maxL := 6) (ret := (some .int)) (by decide) rfl ?_
  intro p e s m args below meth c s₁ B hml hv
  obtain ⟨rfl, hsz, hP, hK, hD0, hamb⟩ := hv
  have hx := B.exec
  have hb := B.bytes
  have hr := B.returns
  have hts := atoms_spec (ws := wsX8_pairs) B.pre
  have hown : s.vm.findClass RX8 = some m.cls := findClass_of_methodNamed B.named
  have hlocks := B.notSynchronized
  subst hsz
  have hD := hD0.self (sz := s.heap.size)
  generalize hAe : va_A [(m0, .inr (14, [.ref lc, g1, g2, g3, g4, g5, g6, g7, g8])), (lc, .inr (5, [.int 0, vlc, .int 0]))] s.heap.size = A at hD hamb ⊢
  have hA : ∀ q : Nat, s.heap.size ≤ q → A q := fun q h => by rw [← hAe]; exact Or.inr h
  have hS : va_S A s.heap s.heap [] := va_S.rf
  have hP : va_P (dC, dI) vwCl [(m0, .inr (14, [.ref lc, g1, g2, g3, g4, g5, g6, g7, g8])), (lc, .inr (5, [.int 0, vlc, .int 0]))] s.heap := hP
  have hl := lv_entry ([.ref m0, .int p0]) (n := 6) (Nat.le_of_ble_eq_true rfl)
  rw [lg_entry_eq]
  generalize (lg_sl ([.ref m0, .int p0]) ++ List.replicate (6 - (lg_sl ([.ref m0, .int p0])).length) Slot.unset).toArray = ls at hl ⊢
  have hl : lv_has ls 6 [(0, .ref m0), (1, .int p0)] := hl
  refine lv_aload_n hx hb dX8_pairs_0 rfl (lv_at hl 0 rfl) ?_
  refine lv_aload_n hx hb dX8_pairs_1 rfl (lv_at hl 0 rfl) ?_
  refine lv_iload_n hx hb dX8_pairs_2 rfl (lv_at hl 1 rfl) ?_
  have hPc := hP.sub (ws' := [(m0, .inr (14, [.ref lc, g1, g2, g3, g4, g5, g6, g7, g8])), (lc, .inr (5, [.int 0, vlc, .int 0]))]) [0, 1] rfl
  have hDc := hD.sub (ws' := [(m0, .inr (14, [.ref lc, g1, g2, g3, g4, g5, g6, g7, g8])), (lc, .inr (5, [.int 0, vlc, .int 0]))]) [0, 1] (by decide) rfl
  have hKc := hK.sub (tys' := []) [] rfl
  have hFc := va_free (wc := [(m0, .inr (14, [.ref lc, g1, g2, g3, g4, g5, g6, g7, g8])), (lc, .inr (5, [.int 0, vlc, .int 0]))]) hD hS hA [0, 1] rfl
  refine va_calli (va_runV (As := [.int p0]) (rest := [.ref m0]) ⟨hx, hb, hml, hown, hts⟩ (c_X8_isNoCard l em dC dI m0 p0 g1 g2 g3 g4 g5 g6 g7 g8 lc vlc s.heap.size) (cwV 1 hts gX8_pairs_X8_isNoCard rfl rfl rfl (by decide +kernel) ⟨Nat.le_of_ble_eq_true rfl, Nat.le_of_ble_eq_true rfl⟩) ⟨Pw.blind _ _ _ _ _ _ _, va_recv hKc hPc (ci := 14) (q0 := 0) rfl rfl, fun U hU hW => ⟨rfl, Pw.go hPc hKc hDc hamb hS hFc hU hW⟩⟩ rfl rfl hl.1 rfl (lv_room (Nat.le_of_ble_eq_true rfl)) dX8_pairs_3 ⟨Nat.le_of_ble_eq_true rfl, Nat.le_of_ble_eq_true rfl⟩) hS (fun q _ h => hFc q h) hFc (fun r_1 u t H1 locs1 ht hvm hw hB hz1 hk1 hS => ?_)
  obtain ⟨hP1, hK1, hD1⟩ := hB
  rw [ht] at hP1
  have hK1 := va_K.moved hvm.symm hK1
  obtain ⟨hP, hD⟩ := va_join (wr := []) (w1 := [(m0, .inr (14, [.ref lc, g1, g2, g3, g4, g5, g6, g7, g8])), (lc, .inr (5, [.int 0, vlc, .int 0]))]) hP hD [0, 1] [] rfl rfl (by decide) (by decide) hk1 hFc hP1 hD1
  have hK := (hK.sub (tys' := []) [] rfl).app hK1
  generalize H1 = H at hP hS ⊢
  have hP : va_P (dC, dI) vwCl [(m0, .inr (14, [.ref lc, g1, g2, g3, g4, g5, g6, g7, g8])), (lc, .inr (5, [.int 0, vlc, .int 0]))] H := hP
  have hD : va_D A [(m0, .inr (14, [.ref lc, g1, g2, g3, g4, g5, g6, g7, g8])), (lc, .inr (5, [.int 0, vlc, .int 0]))] := hD
  have hK : va_K (dC, dI) vwCl [] s := hK
  refine W.widen (k := 0) (n := 0) (Nat.le_of_ble_eq_true rfl) (Nat.le_of_ble_eq_true rfl) ?_
  have hw : r_1 = 1 := hw
  rw [hw]
  refine lv_iconst (v := 1) hx hb dX8_pairs_6 (by decide) ?_
  have hPc := hP.sub (ws' := [(m0, .inr (14, [.ref lc, g1, g2, g3, g4, g5, g6, g7, g8]))]) [0] rfl
  have hDc := hD.sub (ws' := [(m0, .inr (14, [.ref lc, g1, g2, g3, g4, g5, g6, g7, g8]))]) [0] (by decide) rfl
  have hKc := hK.sub (tys' := []) [] rfl
  have hFc := va_free (wc := [(m0, .inr (14, [.ref lc, g1, g2, g3, g4, g5, g6, g7, g8]))]) hD hS hA [0] rfl
  refine va_calli (va_runV (As := [.int 1, .int 1]) (rest := []) ⟨hx, hb, hml, hown, hts⟩ (c_X8_isThrown_1 l em dC dI m0 1 (.ref lc) g1 g2 g3 g4 g5 g6 g7 g8 H.size) (cwV 2 hts gX8_pairs_X8_isThrown rfl rfl rfl (by decide +kernel) ⟨Nat.le_of_ble_eq_true rfl, Nat.le_of_ble_eq_true rfl⟩) ⟨Pw.blind _ _ _ _ _ _ _, va_recv hKc hPc (ci := 14) (q0 := 0) rfl rfl, fun U hU hW => ⟨rfl, Pw.go hPc hKc hDc hamb hS hFc hU hW⟩⟩ rfl rfl hl.1 rfl (lv_room (Nat.le_of_ble_eq_true rfl)) dX8_pairs_7 ⟨Nat.le_of_ble_eq_true rfl, Nat.le_of_ble_eq_true rfl⟩) hS (fun q _ h => hFc q h) hFc (fun r_2 u t H1 locs1 ht hvm hw hB hz1 hk1 hS => ?_)
  obtain ⟨hP1, hK1, hD1⟩ := hB
  rw [ht] at hP1
  have hK1 := va_K.moved hvm.symm hK1
  obtain ⟨hP, hD⟩ := va_join (wr := [(lc, .inr (5, [.int 0, vlc, .int 0]))]) (w1 := [(m0, .inr (14, [.ref lc, g1, g2, g3, g4, g5, g6, g7, .int 1]))]) hP hD [0] [1] rfl rfl (by decide) (by decide) hk1 hFc hP1 hD1
  have hK := (hK.sub (tys' := []) [] rfl).app hK1
  generalize H1 = H at hP hS ⊢
  have hP : va_P (dC, dI) vwCl [(lc, .inr (5, [.int 0, vlc, .int 0])), (m0, .inr (14, [.ref lc, g1, g2, g3, g4, g5, g6, g7, .int 1]))] H := hP
  have hD : va_D A [(lc, .inr (5, [.int 0, vlc, .int 0])), (m0, .inr (14, [.ref lc, g1, g2, g3, g4, g5, g6, g7, .int 1]))] := hD
  have hK : va_K (dC, dI) vwCl [] s := hK
  refine W.widen (k := 0) (n := 0) (Nat.le_of_ble_eq_true rfl) (Nat.le_of_ble_eq_true rfl) ?_
  have hw : r_2 = 1 := hw
  rw [hw]
  refine lv_if_eq (tgt := 15) hx hb dX8_pairs_10 (by decide) (fun c_3 => ?_) (fun c_3 => ?_)
  · exact absurd c_3 (by decide)
  · refine lv_iconst (v := 0) hx hb dX8_pairs_13 (by decide) ?_
    refine W.widen (k := 0) (n := 0) (Nat.le_of_ble_eq_true rfl) (Nat.le_of_ble_eq_true rfl) ?_
    have hP9 := hP.sub (ws' := [(m0, .inr (14, [.ref lc, g1, g2, g3, g4, g5, g6, g7, .int 1]))]) [1] rfl
    have hD9 := hD.sub (ws' := [(m0, .inr (14, [.ref lc, g1, g2, g3, g4, g5, g6, g7, .int 1]))]) [1] (by decide) rfl
    have hK9 := hK.sub (tys' := []) [] rfl
    exact W.iret (v := 0) hx hb hr (fun t ht hW => ⟨⟨0, (), rfl, rfl, ⟨by rw [ht]; exact hP9, va_K.moved hW.alike hK9, hD9⟩⟩, hS.F ht⟩) hS.2.2 dX8_pairs_14

set_option maxHeartbeats 4000000 in
set_option maxRecDepth 100000 in
theorem c_X8_canPlan (l : Launch) (em : Nat → Nat) (dC : Nat → ClassId) (dI : Nat → Nat → Nat) (m0 : Nat) (p0 : Int32) (p1 : Int32) (g1 : Value) (g2 : Value) (g3 : Value) (g4 : Value) (g5 : Value) (g6 : Value) (g7 : Value) (g8 : Value) (lc : Nat) (vlc : Value) (sz : Nat) : Met l yX8_canPlan wsX8_canPlan ({ frames := 2, cells := 0, slots := 0, locals := 43 }) (va_Pc [.ref m0, .int p0, .int p1] (Pw em dC dI sz [(m0, .inr (14, [.ref lc, g1, g2, g3, g4, g5, g6, g7, g8])), (lc, .inr (5, [.int 0, vlc, .int 0]))] [])) (va_Qi (fun (r : Int32) (_ : Unit) => r = 0) (fun _ t => Qw dC dI (va_A [(m0, .inr (14, [.ref lc, g1, g2, g3, g4, g5, g6, g7, g8])), (lc, .inr (5, [.int 0, vlc, .int 0]))] sz) [(m0, .inr (14, [.ref lc, g1, g2, g3, g4, g5, g6, g7, .int 1]))] [] t) (va_A [(m0, .inr (14, [.ref lc, g1, g2, g3, g4, g5, g6, g7, g8])), (lc, .inr (5, [.int 0, vlc, .int 0]))] sz)) 0 0 (va_A [(m0, .inr (14, [.ref lc, g1, g2, g3, g4, g5, g6, g7, g8])), (lc, .inr (5, [.int 0, vlc, .int 0]))] sz) := by
  refine Met.ofW (cc := cX8_canPlan) (maxL := 3) (ret := (some .boolean)) (by decide) rfl ?_
  intro p e s m args below meth c s₁ B hml hv
  obtain ⟨rfl, hsz, hP, hK, hD0, hamb⟩ := hv
  have hx := B.exec
  have hb := B.bytes
  have hr := B.returns
  have hts := atoms_spec (ws := wsX8_canPlan) B.pre
  have hown : s.vm.findClass RX8 = some m.cls := findClass_of_methodNamed B.named
  have hlocks := B.notSynchronized
  subst hsz
  have hD := hD0.self (sz := s.heap.size)
  generalize hAe : va_A [(m0, .inr (14, [.ref lc, g1, g2, g3, g4, g5, g6, g7, g8])), (lc, .inr (5, [.int 0, vlc, .int 0]))] s.heap.size = A at hD hamb ⊢
  have hA : ∀ q : Nat, s.heap.size ≤ q → A q := fun q h => by rw [← hAe]; exact Or.inr h
  have hS : va_S A s.heap s.heap [] := va_S.rf
  have hP : va_P (dC, dI) vwCl [(m0, .inr (14, [.ref lc, g1, g2, g3, g4, g5, g6, g7, g8])), (lc, .inr (5, [.int 0, vlc, .int 0]))] s.heap := hP
  have hl := lv_entry ([.ref m0, .int p0, .int p1]) (n := 3) (Nat.le_of_ble_eq_true rfl)
  rw [lg_entry_eq]
  generalize (lg_sl ([.ref m0, .int p0, .int p1]) ++ List.replicate (3 - (lg_sl ([.ref m0, .int p0, .int p1])).length) Slot.unset).toArray = ls at hl ⊢
  have hl : lv_has ls 3 [(0, .ref m0), (1, .int p0), (2, .int p1)] := hl
  refine lv_aload_n hx hb dX8_canPlan_0 rfl (lv_at hl 0 rfl) ?_
  refine lv_aload_n hx hb dX8_canPlan_1 rfl (lv_at hl 0 rfl) ?_
  refine lv_iload_n hx hb dX8_canPlan_2 rfl (lv_at hl 1 rfl) ?_
  have hPc := hP.sub (ws' := [(m0, .inr (14, [.ref lc, g1, g2, g3, g4, g5, g6, g7, g8])), (lc, .inr (5, [.int 0, vlc, .int 0]))]) [0, 1] rfl
  have hDc := hD.sub (ws' := [(m0, .inr (14, [.ref lc, g1, g2, g3, g4, g5, g6, g7, g8])), (lc, .inr (5, [.int 0, vlc, .int 0]))]) [0, 1] (by decide) rfl
  have hKc := hK.sub (tys' := []) [] rfl
  have hFc := va_free (wc := [(m0, .inr (14, [.ref lc, g1, g2, g3, g4, g5, g6, g7, g8])), (lc, .inr (5, [.int 0, vlc, .int 0]))]) hD hS hA [0, 1] rfl
  refine va_calli (va_runV (As := [.int p0]) (rest := [.ref m0]) ⟨hx, hb, hml, hown, hts⟩ (c_X8_isNoCard l em dC dI m0 p0 g1 g2 g3 g4 g5 g6 g7 g8 lc vlc s.heap.size) (cwV 1 hts gX8_canPlan_X8_isNoCard rfl rfl rfl (by decide +kernel) ⟨Nat.le_of_ble_eq_true rfl, Nat.le_of_ble_eq_true rfl⟩) ⟨Pw.blind _ _ _ _ _ _ _, va_recv hKc hPc (ci := 14) (q0 := 0) rfl rfl, fun U hU hW => ⟨rfl, Pw.go hPc hKc hDc hamb hS hFc hU hW⟩⟩ rfl rfl hl.1 rfl (lv_room (Nat.le_of_ble_eq_true rfl)) dX8_canPlan_3 ⟨Nat.le_of_ble_eq_true rfl, Nat.le_of_ble_eq_true rfl⟩) hS (fun q _ h => hFc q h) hFc (fun r_1 u t H1 locs1 ht hvm hw hB hz1 hk1 hS => ?_)
  obtain ⟨hP1, hK1, hD1⟩ := hB
  rw [ht] at hP1
  have hK1 := va_K.moved hvm.symm hK1
  obtain ⟨hP, hD⟩ := va_join (wr := []) (w1 := [(m0, .inr (14, [.ref lc, g1, g2, g3, g4, g5, g6, g7, g8])), (lc, .inr (5, [.int 0, vlc, .int 0]))]) hP hD [0, 1] [] rfl rfl (by decide) (by decide) hk1 hFc hP1 hD1
  have hK := (hK.sub (tys' := []) [] rfl).app hK1
  generalize H1 = H at hP hS ⊢
  have hP : va_P (dC, dI) vwCl [(m0, .inr (14, [.ref lc, g1, g2, g3, g4, g5, g6, g7, g8])), (lc, .inr (5, [.int 0, vlc, .int 0]))] H := hP
  have hD : va_D A [(m0, .inr (14, [.ref lc, g1, g2, g3, g4, g5, g6, g7, g8])), (lc, .inr (5, [.int 0, vlc, .int 0]))] := hD
  have hK : va_K (dC, dI) vwCl [] s := hK
  refine W.widen (k := 0) (n := 0) (Nat.le_of_ble_eq_true rfl) (Nat.le_of_ble_eq_true rfl) ?_
  have hw : r_1 = 1 := hw
  rw [hw]
  refine lv_iconst (v := 1) hx hb dX8_canPlan_6 (by decide) ?_
  have hPc := hP.sub (ws' := [(m0, .inr (14, [.ref lc, g1, g2, g3, g4, g5, g6, g7, g8]))]) [0] rfl
  have hDc := hD.sub (ws' := [(m0, .inr (14, [.ref lc, g1, g2, g3, g4, g5, g6, g7, g8]))]) [0] (by decide) rfl
  have hKc := hK.sub (tys' := []) [] rfl
  have hFc := va_free (wc := [(m0, .inr (14, [.ref lc, g1, g2, g3, g4, g5, g6, g7, g8]))]) hD hS hA [0] rfl
  refine va_calli (va_runV (As := [.int 1, .int 1]) (rest := []) ⟨hx, hb, hml, hown, hts⟩ (c_X8_isThrown_1 l em dC dI m0 1 (.ref lc) g1 g2 g3 g4 g5 g6 g7 g8 H.size) (cwV 2 hts gX8_canPlan_X8_isThrown rfl rfl rfl (by decide +kernel) ⟨Nat.le_of_ble_eq_true rfl, Nat.le_of_ble_eq_true rfl⟩) ⟨Pw.blind _ _ _ _ _ _ _, va_recv hKc hPc (ci := 14) (q0 := 0) rfl rfl, fun U hU hW => ⟨rfl, Pw.go hPc hKc hDc hamb hS hFc hU hW⟩⟩ rfl rfl hl.1 rfl (lv_room (Nat.le_of_ble_eq_true rfl)) dX8_canPlan_7 ⟨Nat.le_of_ble_eq_true rfl, Nat.le_of_ble_eq_true rfl⟩) hS (fun q _ h => hFc q h) hFc (fun r_2 u t H1 locs1 ht hvm hw hB hz1 hk1 hS => ?_)
  obtain ⟨hP1, hK1, hD1⟩ := hB
  rw [ht] at hP1
  have hK1 := va_K.moved hvm.symm hK1
  obtain ⟨hP, hD⟩ := va_join (wr := [(lc, .inr (5, [.int 0, vlc, .int 0]))]) (w1 := [(m0, .inr (14, [.ref lc, g1, g2, g3, g4, g5, g6, g7, .int 1]))]) hP hD [0] [1] rfl rfl (by decide) (by decide) hk1 hFc hP1 hD1
  have hK := (hK.sub (tys' := []) [] rfl).app hK1
  generalize H1 = H at hP hS ⊢
  have hP : va_P (dC, dI) vwCl [(lc, .inr (5, [.int 0, vlc, .int 0])), (m0, .inr (14, [.ref lc, g1, g2, g3, g4, g5, g6, g7, .int 1]))] H := hP
  have hD : va_D A [(lc, .inr (5, [.int 0, vlc, .int 0])), (m0, .inr (14, [.ref lc, g1, g2, g3, g4, g5, g6, g7, .int 1]))] := hD
  have hK : va_K (dC, dI) vwCl [] s := hK
  refine W.widen (k := 0) (n := 0) (Nat.le_of_ble_eq_true rfl) (Nat.le_of_ble_eq_true rfl) ?_
  have hw : r_2 = 1 := hw
  rw [hw]
  refine lv_if_ne (tgt := 42) hx hb dX8_canPlan_10 (by decide) (fun c_3 => ?_) (fun c_3 => ?_)
  · refine lv_iconst (v := 0) hx hb dX8_canPlan_42 (by decide) ?_
    refine W.widen (k := 0) (n := 0) (Nat.le_of_ble_eq_true rfl) (Nat.le_of_ble_eq_true rfl) ?_
    have hP9 := hP.sub (ws' := [(m0, .inr (14, [.ref lc, g1, g2, g3, g4, g5, g6, g7, .int 1]))]) [1] rfl
    have hD9 := hD.sub (ws' := [(m0, .inr (14, [.ref lc, g1, g2, g3, g4, g5, g6, g7, .int 1]))]) [1] (by decide) rfl
    have hK9 := hK.sub (tys' := []) [] rfl
    exact W.zret (v := 0) hx hb hr rfl (fun t ht hW => ⟨⟨0, (), rfl, rfl, ⟨by rw [ht]; exact hP9, va_K.moved hW.alike hK9, hD9⟩⟩, hS.F ht⟩) hS.2.2 dX8_canPlan_43
  · exact absurd c_3 (by decide)

set_option maxHeartbeats 4000000 in
set_option maxRecDepth 100000 in
theorem c_X8_reversals (l : Launch) (em : Nat → Nat) (dC : Nat → ClassId) (dI : Nat → Nat → Nat) (m0 : Nat) (p0 : Int32) (p1 : Int32) (g1 : Value) (g2 : Value) (g3 : Value) (g4 : Value) (g5 : Value) (g6 : Value) (g7 : Value) (g8 : Value) (lc : Nat) (vlc : Value) (sz : Nat) : Met l yX8_reversals wsX8_reversals ({ frames := 2, cells := 0, slots := 0, locals := 43 }) (va_Pc [.ref m0, .int p0, .int p1] (Pw em dC dI sz [(m0, .inr (14, [.ref lc, g1, g2, g3, g4, g5, g6, g7, g8])), (lc, .inr (5, [.int 0, vlc, .int 0]))] [])) (va_Qi (fun (r : Int32) (_ : Unit) => r = 0) (fun _ t => Qw dC dI (va_A [(m0, .inr (14, [.ref lc, g1, g2, g3, g4, g5, g6, g7, g8])), (lc, .inr (5, [.int 0, vlc, .int 0]))] sz) [(m0, .inr (14, [.ref lc, g1, g2, g3, g4, g5, g6, g7, .int 1]))] [] t) (va_A [(m0, .inr (14, [.ref lc, g1, g2, g3, g4, g5, g6, g7, g8])), (lc, .inr (5, [.int 0, vlc, .int 0]))] sz)) 0 0 (va_A [(m0, .inr (14, [.ref lc, g1, g2, g3, g4, g5, g6, g7, g8])), (lc, .inr (5, [.int 0, vlc, .int 0]))] sz) := by
  refine Met.ofW (cc := cX8_reversals) (maxL := 3) (ret := (some .int)) (by decide) rfl ?_
  intro p e s m args below meth c s₁ B hml hv
  obtain ⟨rfl, hsz, hP, hK, hD0, hamb⟩ := hv
  have hx := B.exec
  have hb := B.bytes
  have hr := B.returns
  have hts := atoms_spec (ws := wsX8_reversals) B.pre
  have hown : s.vm.findClass RX8 = some m.cls := findClass_of_methodNamed B.named
  have hlocks := B.notSynchronized
  subst hsz
  have hD := hD0.self (sz := s.heap.size)
  generalize hAe : va_A [(m0, .inr (14, [.ref lc, g1, g2, g3, g4, g5, g6, g7, g8])), (lc, .inr (5, [.int 0, vlc, .int 0]))] s.heap.size = A at hD hamb ⊢
  have hA : ∀ q : Nat, s.heap.size ≤ q → A q := fun q h => by rw [← hAe]; exact Or.inr h
  have hS : va_S A s.heap s.heap [] := va_S.rf
  have hP : va_P (dC, dI) vwCl [(m0, .inr (14, [.ref lc, g1, g2, g3, g4, g5, g6, g7, g8])), (lc, .inr (5, [.int 0, vlc, .int 0]))] s.heap := hP
  have hl := lv_entry ([.ref m0, .int p0, .int p1]) (n := 3) (Nat.le_of_ble_eq_true rfl)
  rw [lg_entry_eq]
  generalize (lg_sl ([.ref m0, .int p0, .int p1]) ++ List.replicate (3 - (lg_sl ([.ref m0, .int p0, .int p1])).length) Slot.unset).toArray = ls at hl ⊢
  have hl : lv_has ls 3 [(0, .ref m0), (1, .int p0), (2, .int p1)] := hl
  refine lv_aload_n hx hb dX8_reversals_0 rfl (lv_at hl 0 rfl) ?_
  refine lv_aload_n hx hb dX8_reversals_1 rfl (lv_at hl 0 rfl) ?_
  refine lv_iload_n hx hb dX8_reversals_2 rfl (lv_at hl 1 rfl) ?_
  have hPc := hP.sub (ws' := [(m0, .inr (14, [.ref lc, g1, g2, g3, g4, g5, g6, g7, g8])), (lc, .inr (5, [.int 0, vlc, .int 0]))]) [0, 1] rfl
  have hDc := hD.sub (ws' := [(m0, .inr (14, [.ref lc, g1, g2, g3, g4, g5, g6, g7, g8])), (lc, .inr (5, [.int 0, vlc, .int 0]))]) [0, 1] (by decide) rfl
  have hKc := hK.sub (tys' := []) [] rfl
  have hFc := va_free (wc := [(m0, .inr (14, [.ref lc, g1, g2, g3, g4, g5, g6, g7, g8])), (lc, .inr (5, [.int 0, vlc, .int 0]))]) hD hS hA [0, 1] rfl
  refine va_calli (va_runV (As := [.int p0]) (rest := [.ref m0]) ⟨hx, hb, hml, hown, hts⟩ (c_X8_isNoCard l em dC dI m0 p0 g1 g2 g3 g4 g5 g6 g7 g8 lc vlc s.heap.size) (cwV 1 hts gX8_reversals_X8_isNoCard rfl rfl rfl (by decide +kernel) ⟨Nat.le_of_ble_eq_true rfl, Nat.le_of_ble_eq_true rfl⟩) ⟨Pw.blind _ _ _ _ _ _ _, va_recv hKc hPc (ci := 14) (q0 := 0) rfl rfl, fun U hU hW => ⟨rfl, Pw.go hPc hKc hDc hamb hS hFc hU hW⟩⟩ rfl rfl hl.1 rfl (lv_room (Nat.le_of_ble_eq_true rfl)) dX8_reversals_3 ⟨Nat.le_of_ble_eq_true rfl, Nat.le_of_ble_eq_true rfl⟩) hS (fun q _ h => hFc q h) hFc (fun r_1 u t H1 locs1 ht hvm hw hB hz1 hk1 hS => ?_)
  obtain ⟨hP1, hK1, hD1⟩ := hB
  rw [ht] at hP1
  have hK1 := va_K.moved hvm.symm hK1
  obtain ⟨hP, hD⟩ := va_join (wr := []) (w1 := [(m0, .inr (14, [.ref lc, g1, g2, g3, g4, g5, g6, g7, g8])), (lc, .inr (5, [.int 0, vlc, .int 0]))]) hP hD [0, 1] [] rfl rfl (by decide) (by decide) hk1 hFc hP1 hD1
  have hK := (hK.sub (tys' := []) [] rfl).app hK1
  generalize H1 = H at hP hS ⊢
  have hP : va_P (dC, dI) vwCl [(m0, .inr (14, [.ref lc, g1, g2, g3, g4, g5, g6, g7, g8])), (lc, .inr (5, [.int 0, vlc, .int 0]))] H := hP
  have hD : va_D A [(m0, .inr (14, [.ref lc, g1, g2, g3, g4, g5, g6, g7, g8])), (lc, .inr (5, [.int 0, vlc, .int 0]))] := hD
  have hK : va_K (dC, dI) vwCl [] s := hK
  refine W.widen (k := 0) (n := 0) (Nat.le_of_ble_eq_true rfl) (Nat.le_of_ble_eq_true rfl) ?_
  have hw : r_1 = 1 := hw
  rw [hw]
  refine lv_iconst (v := 1) hx hb dX8_reversals_6 (by decide) ?_
  have hPc := hP.sub (ws' := [(m0, .inr (14, [.ref lc, g1, g2, g3, g4, g5, g6, g7, g8]))]) [0] rfl
  have hDc := hD.sub (ws' := [(m0, .inr (14, [.ref lc, g1, g2, g3, g4, g5, g6, g7, g8]))]) [0] (by decide) rfl
  have hKc := hK.sub (tys' := []) [] rfl
  have hFc := va_free (wc := [(m0, .inr (14, [.ref lc, g1, g2, g3, g4, g5, g6, g7, g8]))]) hD hS hA [0] rfl
  refine va_calli (va_runV (As := [.int 1, .int 1]) (rest := []) ⟨hx, hb, hml, hown, hts⟩ (c_X8_isThrown_1 l em dC dI m0 1 (.ref lc) g1 g2 g3 g4 g5 g6 g7 g8 H.size) (cwV 2 hts gX8_reversals_X8_isThrown rfl rfl rfl (by decide +kernel) ⟨Nat.le_of_ble_eq_true rfl, Nat.le_of_ble_eq_true rfl⟩) ⟨Pw.blind _ _ _ _ _ _ _, va_recv hKc hPc (ci := 14) (q0 := 0) rfl rfl, fun U hU hW => ⟨rfl, Pw.go hPc hKc hDc hamb hS hFc hU hW⟩⟩ rfl rfl hl.1 rfl (lv_room (Nat.le_of_ble_eq_true rfl)) dX8_reversals_7 ⟨Nat.le_of_ble_eq_true rfl, Nat.le_of_ble_eq_true rfl⟩) hS (fun q _ h => hFc q h) hFc (fun r_2 u t H1 locs1 ht hvm hw hB hz1 hk1 hS => ?_)
  obtain ⟨hP1, hK1, hD1⟩ := hB
  rw [ht] at hP1
  have hK1 := va_K.moved hvm.symm hK1
  obtain ⟨hP, hD⟩ := va_join (wr := [(lc, .inr (5, [.int 0, vlc, .int 0]))]) (w1 := [(m0, .inr (14, [.ref lc, g1, g2, g3, g4, g5, g6, g7, .int 1]))]) hP hD [0] [1] rfl rfl (by decide) (by decide) hk1 hFc hP1 hD1
  have hK := (hK.sub (tys' := []) [] rfl).app hK1
  generalize H1 = H at hP hS ⊢
  have hP : va_P (dC, dI) vwCl [(lc, .inr (5, [.int 0, vlc, .int 0])), (m0, .inr (14, [.ref lc, g1, g2, g3, g4, g5, g6, g7, .int 1]))] H := hP
  have hD : va_D A [(lc, .inr (5, [.int 0, vlc, .int 0])), (m0, .inr (14, [.ref lc, g1, g2, g3, g4, g5, g6, g7, .int 1]))] := hD
  have hK : va_K (dC, dI) vwCl [] s := hK
  refine W.widen (k := 0) (n := 0) (Nat.le_of_ble_eq_true rfl) (Nat.le_of_ble_eq_true rfl) ?_
  have hw : r_2 = 1 := hw
  rw [hw]
  refine lv_if_ne (tgt := 51) hx hb dX8_reversals_10 (by decide) (fun c_3 => ?_) (fun c_3 => ?_)
  · refine lv_iconst (v := 0) hx hb dX8_reversals_51 (by decide) ?_
    refine W.widen (k := 0) (n := 0) (Nat.le_of_ble_eq_true rfl) (Nat.le_of_ble_eq_true rfl) ?_
    have hP9 := hP.sub (ws' := [(m0, .inr (14, [.ref lc, g1, g2, g3, g4, g5, g6, g7, .int 1]))]) [1] rfl
    have hD9 := hD.sub (ws' := [(m0, .inr (14, [.ref lc, g1, g2, g3, g4, g5, g6, g7, .int 1]))]) [1] (by decide) rfl
    have hK9 := hK.sub (tys' := []) [] rfl
    exact W.iret (v := 0) hx hb hr (fun t ht hW => ⟨⟨0, (), rfl, rfl, ⟨by rw [ht]; exact hP9, va_K.moved hW.alike hK9, hD9⟩⟩, hS.F ht⟩) hS.2.2 dX8_reversals_52
  · exact absurd c_3 (by decide)

set_option maxHeartbeats 4000000 in
set_option maxRecDepth 100000 in
theorem c_X8_faultsOf (l : Launch) (em : Nat → Nat) (dC : Nat → ClassId) (dI : Nat → Nat → Nat) (m0 : Nat) (p0 : Int32) (g1 : Value) (g2 : Value) (g3 : Value) (g4 : Value) (g5 : Value) (g6 : Value) (g7 : Value) (g8 : Value) (lc : Nat) (vlc : Value) (sz : Nat) : Met l yX8_faultsOf wsX8_faultsOf ({ frames := 2, cells := 0, slots := 0, locals := 43 }) (va_Pc [.ref m0, .int p0] (Pw em dC dI sz [(m0, .inr (14, [.ref lc, g1, g2, g3, g4, g5, g6, g7, g8])), (lc, .inr (5, [.int 0, vlc, .int 0]))] [])) (va_Qi (fun (r : Int32) (_ : Unit) => r = 0) (fun _ t => Qw dC dI (va_A [(m0, .inr (14, [.ref lc, g1, g2, g3, g4, g5, g6, g7, g8])), (lc, .inr (5, [.int 0, vlc, .int 0]))] sz) [(m0, .inr (14, [.ref lc, g1, g2, g3, g4, g5, g6, g7, .int 1]))] [] t) (va_A [(m0, .inr (14, [.ref lc, g1, g2, g3, g4, g5, g6, g7, g8])), (lc, .inr (5, [.int 0, vlc, .int 0]))] sz)) 0 0 (va_A [(m0, .inr (14, [.ref lc, g1, g2, g3, g4, g5, g6, g7, g8])), (lc, .inr (5, [.int 0, vlc, .int 0]))] sz) := by
  refine Met.ofW (cc := cX8_faultsOf) (maxL := 2) (ret := (some .int)) (by decide) rfl ?_
  intro p e s m args below meth c s₁ B hml hv
  obtain ⟨rfl, hsz, hP, hK, hD0, hamb⟩ := hv
  have hx := B.exec
  have hb := B.bytes
  have hr := B.returns
  have hts := atoms_spec (ws := wsX8_faultsOf) B.pre
  have hown : s.vm.findClass RX8 = some m.cls := findClass_of_methodNamed B.named
  have hlocks := B.notSynchronized
  subst hsz
  have hD := hD0.self (sz := s.heap.size)
  generalize hAe : va_A [(m0, .inr (14, [.ref lc, g1, g2, g3, g4, g5, g6, g7, g8])), (lc, .inr (5, [.int 0, vlc, .int 0]))] s.heap.size = A at hD hamb ⊢
  have hA : ∀ q : Nat, s.heap.size ≤ q → A q := fun q h => by rw [← hAe]; exact Or.inr h
  have hS : va_S A s.heap s.heap [] := va_S.rf
  have hP : va_P (dC, dI) vwCl [(m0, .inr (14, [.ref lc, g1, g2, g3, g4, g5, g6, g7, g8])), (lc, .inr (5, [.int 0, vlc, .int 0]))] s.heap := hP
  have hl := lv_entry ([.ref m0, .int p0]) (n := 2) (Nat.le_of_ble_eq_true rfl)
  rw [lg_entry_eq]
  generalize (lg_sl ([.ref m0, .int p0]) ++ List.replicate (2 - (lg_sl ([.ref m0, .int p0])).length) Slot.unset).toArray = ls at hl ⊢
  have hl : lv_has ls 2 [(0, .ref m0), (1, .int p0)] := hl
  refine lv_aload_n hx hb dX8_faultsOf_0 rfl (lv_at hl 0 rfl) ?_
  refine lv_aload_n hx hb dX8_faultsOf_1 rfl (lv_at hl 0 rfl) ?_
  refine lv_iload_n hx hb dX8_faultsOf_2 rfl (lv_at hl 1 rfl) ?_
  have hPc := hP.sub (ws' := [(m0, .inr (14, [.ref lc, g1, g2, g3, g4, g5, g6, g7, g8])), (lc, .inr (5, [.int 0, vlc, .int 0]))]) [0, 1] rfl
  have hDc := hD.sub (ws' := [(m0, .inr (14, [.ref lc, g1, g2, g3, g4, g5, g6, g7, g8])), (lc, .inr (5, [.int 0, vlc, .int 0]))]) [0, 1] (by decide) rfl
  have hKc := hK.sub (tys' := []) [] rfl
  have hFc := va_free (wc := [(m0, .inr (14, [.ref lc, g1, g2, g3, g4, g5, g6, g7, g8])), (lc, .inr (5, [.int 0, vlc, .int 0]))]) hD hS hA [0, 1] rfl
  refine va_calli (va_runV (As := [.int p0]) (rest := [.ref m0]) ⟨hx, hb, hml, hown, hts⟩ (c_X8_isNoCard l em dC dI m0 p0 g1 g2 g3 g4 g5 g6 g7 g8 lc vlc s.heap.size) (cwV 1 hts gX8_faultsOf_X8_isNoCard rfl rfl rfl (by decide +kernel) ⟨Nat.le_of_ble_eq_true rfl, Nat.le_of_ble_eq_true rfl⟩) ⟨Pw.blind _ _ _ _ _ _ _, va_recv hKc hPc (ci := 14) (q0 := 0) rfl rfl, fun U hU hW => ⟨rfl, Pw.go hPc hKc hDc hamb hS hFc hU hW⟩⟩ rfl rfl hl.1 rfl (lv_room (Nat.le_of_ble_eq_true rfl)) dX8_faultsOf_3 ⟨Nat.le_of_ble_eq_true rfl, Nat.le_of_ble_eq_true rfl⟩) hS (fun q _ h => hFc q h) hFc (fun r_1 u t H1 locs1 ht hvm hw hB hz1 hk1 hS => ?_)
  obtain ⟨hP1, hK1, hD1⟩ := hB
  rw [ht] at hP1
  have hK1 := va_K.moved hvm.symm hK1
  obtain ⟨hP, hD⟩ := va_join (wr := []) (w1 := [(m0, .inr (14, [.ref lc, g1, g2, g3, g4, g5, g6, g7, g8])), (lc, .inr (5, [.int 0, vlc, .int 0]))]) hP hD [0, 1] [] rfl rfl (by decide) (by decide) hk1 hFc hP1 hD1
  have hK := (hK.sub (tys' := []) [] rfl).app hK1
  generalize H1 = H at hP hS ⊢
  have hP : va_P (dC, dI) vwCl [(m0, .inr (14, [.ref lc, g1, g2, g3, g4, g5, g6, g7, g8])), (lc, .inr (5, [.int 0, vlc, .int 0]))] H := hP
  have hD : va_D A [(m0, .inr (14, [.ref lc, g1, g2, g3, g4, g5, g6, g7, g8])), (lc, .inr (5, [.int 0, vlc, .int 0]))] := hD
  have hK : va_K (dC, dI) vwCl [] s := hK
  refine W.widen (k := 0) (n := 0) (Nat.le_of_ble_eq_true rfl) (Nat.le_of_ble_eq_true rfl) ?_
  have hw : r_1 = 1 := hw
  rw [hw]
  refine lv_iconst (v := 1) hx hb dX8_faultsOf_6 (by decide) ?_
  have hPc := hP.sub (ws' := [(m0, .inr (14, [.ref lc, g1, g2, g3, g4, g5, g6, g7, g8]))]) [0] rfl
  have hDc := hD.sub (ws' := [(m0, .inr (14, [.ref lc, g1, g2, g3, g4, g5, g6, g7, g8]))]) [0] (by decide) rfl
  have hKc := hK.sub (tys' := []) [] rfl
  have hFc := va_free (wc := [(m0, .inr (14, [.ref lc, g1, g2, g3, g4, g5, g6, g7, g8]))]) hD hS hA [0] rfl
  refine va_calli (va_runV (As := [.int 1, .int 1]) (rest := []) ⟨hx, hb, hml, hown, hts⟩ (c_X8_isThrown_1 l em dC dI m0 1 (.ref lc) g1 g2 g3 g4 g5 g6 g7 g8 H.size) (cwV 2 hts gX8_faultsOf_X8_isThrown rfl rfl rfl (by decide +kernel) ⟨Nat.le_of_ble_eq_true rfl, Nat.le_of_ble_eq_true rfl⟩) ⟨Pw.blind _ _ _ _ _ _ _, va_recv hKc hPc (ci := 14) (q0 := 0) rfl rfl, fun U hU hW => ⟨rfl, Pw.go hPc hKc hDc hamb hS hFc hU hW⟩⟩ rfl rfl hl.1 rfl (lv_room (Nat.le_of_ble_eq_true rfl)) dX8_faultsOf_7 ⟨Nat.le_of_ble_eq_true rfl, Nat.le_of_ble_eq_true rfl⟩) hS (fun q _ h => hFc q h) hFc (fun r_2 u t H1 locs1 ht hvm hw hB hz1 hk1 hS => ?_)
  obtain ⟨hP1, hK1, hD1⟩ := hB
  rw [ht] at hP1
  have hK1 := va_K.moved hvm.symm hK1
  obtain ⟨hP, hD⟩ := va_join (wr := [(lc, .inr (5, [.int 0, vlc, .int 0]))]) (w1 := [(m0, .inr (14, [.ref lc, g1, g2, g3, g4, g5, g6, g7, .int 1]))]) hP hD [0] [1] rfl rfl (by decide) (by decide) hk1 hFc hP1 hD1
  have hK := (hK.sub (tys' := []) [] rfl).app hK1
  generalize H1 = H at hP hS ⊢
  have hP : va_P (dC, dI) vwCl [(lc, .inr (5, [.int 0, vlc, .int 0])), (m0, .inr (14, [.ref lc, g1, g2, g3, g4, g5, g6, g7, .int 1]))] H := hP
  have hD : va_D A [(lc, .inr (5, [.int 0, vlc, .int 0])), (m0, .inr (14, [.ref lc, g1, g2, g3, g4, g5, g6, g7, .int 1]))] := hD
  have hK : va_K (dC, dI) vwCl [] s := hK
  refine W.widen (k := 0) (n := 0) (Nat.le_of_ble_eq_true rfl) (Nat.le_of_ble_eq_true rfl) ?_
  have hw : r_2 = 1 := hw
  rw [hw]
  refine lv_if_eq (tgt := 17) hx hb dX8_faultsOf_10 (by decide) (fun c_3 => ?_) (fun c_3 => ?_)
  · exact absurd c_3 (by decide)
  · refine lv_iconst (v := 0) hx hb dX8_faultsOf_13 (by decide) ?_
    refine lv_goto (tgt := 22) hx hb dX8_faultsOf_14 (by decide) ?_
    refine W.widen (k := 0) (n := 0) (Nat.le_of_ble_eq_true rfl) (Nat.le_of_ble_eq_true rfl) ?_
    have hP9 := hP.sub (ws' := [(m0, .inr (14, [.ref lc, g1, g2, g3, g4, g5, g6, g7, .int 1]))]) [1] rfl
    have hD9 := hD.sub (ws' := [(m0, .inr (14, [.ref lc, g1, g2, g3, g4, g5, g6, g7, .int 1]))]) [1] (by decide) rfl
    have hK9 := hK.sub (tys' := []) [] rfl
    exact W.iret (v := 0) hx hb hr (fun t ht hW => ⟨⟨0, (), rfl, rfl, ⟨by rw [ht]; exact hP9, va_K.moved hW.alike hK9, hD9⟩⟩, hS.F ht⟩) hS.2.2 dX8_faultsOf_22

set_option maxHeartbeats 4000000 in
set_option maxRecDepth 100000 in
theorem c_X8_planAt (l : Launch) (em : Nat → Nat) (dC : Nat → ClassId) (dI : Nat → Nat → Nat) (m0 : Nat) (p0 : Int32) (p1 : Int32) (p2 : Int32) (g1 : Value) (g2 : Value) (g3 : Value) (g4 : Value) (g5 : Value) (g6 : Value) (g7 : Value) (g8 : Value) (lc : Nat) (vlc : Value) (sz : Nat) : Met l yX8_planAt wsX8_planAt ({ frames := 2, cells := 0, slots := 0, locals := 43 }) (va_Pc [.ref m0, .int p0, .int p1, .int p2] (Pw em dC dI sz [(m0, .inr (14, [.ref lc, g1, g2, g3, g4, g5, g6, g7, g8])), (lc, .inr (5, [.int 0, vlc, .int 0]))] [])) (va_Qi (fun (r : Int32) (_ : Unit) => r = 32) (fun _ t => Qw dC dI (va_A [(m0, .inr (14, [.ref lc, g1, g2, g3, g4, g5, g6, g7, g8])), (lc, .inr (5, [.int 0, vlc, .int 0]))] sz) [(m0, .inr (14, [.ref lc, g1, g2, g3, g4, g5, g6, g7, .int 1]))] [] t) (va_A [(m0, .inr (14, [.ref lc, g1, g2, g3, g4, g5, g6, g7, g8])), (lc, .inr (5, [.int 0, vlc, .int 0]))] sz)) 0 0 (va_A [(m0, .inr (14, [.ref lc, g1, g2, g3, g4, g5, g6, g7, g8])), (lc, .inr (5, [.int 0, vlc, .int 0]))] sz) := by
  refine Met.ofW (cc := cX8_planAt) (maxL := 5) (ret := (some .char)) (by decide) rfl ?_
  intro p e s m args below meth c s₁ B hml hv
  obtain ⟨rfl, hsz, hP, hK, hD0, hamb⟩ := hv
  have hx := B.exec
  have hb := B.bytes
  have hr := B.returns
  have hts := atoms_spec (ws := wsX8_planAt) B.pre
  have hown : s.vm.findClass RX8 = some m.cls := findClass_of_methodNamed B.named
  have hlocks := B.notSynchronized
  subst hsz
  have hD := hD0.self (sz := s.heap.size)
  generalize hAe : va_A [(m0, .inr (14, [.ref lc, g1, g2, g3, g4, g5, g6, g7, g8])), (lc, .inr (5, [.int 0, vlc, .int 0]))] s.heap.size = A at hD hamb ⊢
  have hA : ∀ q : Nat, s.heap.size ≤ q → A q := fun q h => by rw [← hAe]; exact Or.inr h
  have hS : va_S A s.heap s.heap [] := va_S.rf
  have hP : va_P (dC, dI) vwCl [(m0, .inr (14, [.ref lc, g1, g2, g3, g4, g5, g6, g7, g8])), (lc, .inr (5, [.int 0, vlc, .int 0]))] s.heap := hP
  have hl := lv_entry ([.ref m0, .int p0, .int p1, .int p2]) (n := 5) (Nat.le_of_ble_eq_true rfl)
  rw [lg_entry_eq]
  generalize (lg_sl ([.ref m0, .int p0, .int p1, .int p2]) ++ List.replicate (5 - (lg_sl ([.ref m0, .int p0, .int p1, .int p2])).length) Slot.unset).toArray = ls at hl ⊢
  have hl : lv_has ls 5 [(0, .ref m0), (1, .int p0), (2, .int p1), (3, .int p2)] := hl
  refine lv_aload_n hx hb dX8_planAt_0 rfl (lv_at hl 0 rfl) ?_
  refine lv_aload_n hx hb dX8_planAt_1 rfl (lv_at hl 0 rfl) ?_
  refine lv_iload_n hx hb dX8_planAt_2 rfl (lv_at hl 1 rfl) ?_
  have hPc := hP.sub (ws' := [(m0, .inr (14, [.ref lc, g1, g2, g3, g4, g5, g6, g7, g8])), (lc, .inr (5, [.int 0, vlc, .int 0]))]) [0, 1] rfl
  have hDc := hD.sub (ws' := [(m0, .inr (14, [.ref lc, g1, g2, g3, g4, g5, g6, g7, g8])), (lc, .inr (5, [.int 0, vlc, .int 0]))]) [0, 1] (by decide) rfl
  have hKc := hK.sub (tys' := []) [] rfl
  have hFc := va_free (wc := [(m0, .inr (14, [.ref lc, g1, g2, g3, g4, g5, g6, g7, g8])), (lc, .inr (5, [.int 0, vlc, .int 0]))]) hD hS hA [0, 1] rfl
  refine va_calli (va_runV (As := [.int p0]) (rest := [.ref m0]) ⟨hx, hb, hml, hown, hts⟩ (c_X8_isNoCard l em dC dI m0 p0 g1 g2 g3 g4 g5 g6 g7 g8 lc vlc s.heap.size) (cwV 1 hts gX8_planAt_X8_isNoCard rfl rfl rfl (by decide +kernel) ⟨Nat.le_of_ble_eq_true rfl, Nat.le_of_ble_eq_true rfl⟩) ⟨Pw.blind _ _ _ _ _ _ _, va_recv hKc hPc (ci := 14) (q0 := 0) rfl rfl, fun U hU hW => ⟨rfl, Pw.go hPc hKc hDc hamb hS hFc hU hW⟩⟩ rfl rfl hl.1 rfl (lv_room (Nat.le_of_ble_eq_true rfl)) dX8_planAt_3 ⟨Nat.le_of_ble_eq_true rfl, Nat.le_of_ble_eq_true rfl⟩) hS (fun q _ h => hFc q h) hFc (fun r_1 u t H1 locs1 ht hvm hw hB hz1 hk1 hS => ?_)
  obtain ⟨hP1, hK1, hD1⟩ := hB
  rw [ht] at hP1
  have hK1 := va_K.moved hvm.symm hK1
  obtain ⟨hP, hD⟩ := va_join (wr := []) (w1 := [(m0, .inr (14, [.ref lc, g1, g2, g3, g4, g5, g6, g7, g8])), (lc, .inr (5, [.int 0, vlc, .int 0]))]) hP hD [0, 1] [] rfl rfl (by decide) (by decide) hk1 hFc hP1 hD1
  have hK := (hK.sub (tys' := []) [] rfl).app hK1
  generalize H1 = H at hP hS ⊢
  have hP : va_P (dC, dI) vwCl [(m0, .inr (14, [.ref lc, g1, g2, g3, g4, g5, g6, g7, g8])), (lc, .inr (5, [.int 0, vlc, .int 0]))] H := hP
  have hD : va_D A [(m0, .inr (14, [.ref lc, g1, g2, g3, g4, g5, g6, g7, g8])), (lc, .inr (5, [.int 0, vlc, .int 0]))] := hD
  have hK : va_K (dC, dI) vwCl [] s := hK
  refine W.widen (k := 0) (n := 0) (Nat.le_of_ble_eq_true rfl) (Nat.le_of_ble_eq_true rfl) ?_
  have hw : r_1 = 1 := hw
  rw [hw]
  refine lv_iconst (v := 1) hx hb dX8_planAt_6 (by decide) ?_
  have hPc := hP.sub (ws' := [(m0, .inr (14, [.ref lc, g1, g2, g3, g4, g5, g6, g7, g8]))]) [0] rfl
  have hDc := hD.sub (ws' := [(m0, .inr (14, [.ref lc, g1, g2, g3, g4, g5, g6, g7, g8]))]) [0] (by decide) rfl
  have hKc := hK.sub (tys' := []) [] rfl
  have hFc := va_free (wc := [(m0, .inr (14, [.ref lc, g1, g2, g3, g4, g5, g6, g7, g8]))]) hD hS hA [0] rfl
  refine va_calli (va_runV (As := [.int 1, .int 1]) (rest := []) ⟨hx, hb, hml, hown, hts⟩ (c_X8_isThrown_1 l em dC dI m0 1 (.ref lc) g1 g2 g3 g4 g5 g6 g7 g8 H.size) (cwV 2 hts gX8_planAt_X8_isThrown rfl rfl rfl (by decide +kernel) ⟨Nat.le_of_ble_eq_true rfl, Nat.le_of_ble_eq_true rfl⟩) ⟨Pw.blind _ _ _ _ _ _ _, va_recv hKc hPc (ci := 14) (q0 := 0) rfl rfl, fun U hU hW => ⟨rfl, Pw.go hPc hKc hDc hamb hS hFc hU hW⟩⟩ rfl rfl hl.1 rfl (lv_room (Nat.le_of_ble_eq_true rfl)) dX8_planAt_7 ⟨Nat.le_of_ble_eq_true rfl, Nat.le_of_ble_eq_true rfl⟩) hS (fun q _ h => hFc q h) hFc (fun r_2 u t H1 locs1 ht hvm hw hB hz1 hk1 hS => ?_)
  obtain ⟨hP1, hK1, hD1⟩ := hB
  rw [ht] at hP1
  have hK1 := va_K.moved hvm.symm hK1
  obtain ⟨hP, hD⟩ := va_join (wr := [(lc, .inr (5, [.int 0, vlc, .int 0]))]) (w1 := [(m0, .inr (14, [.ref lc, g1, g2, g3, g4, g5, g6, g7, .int 1]))]) hP hD [0] [1] rfl rfl (by decide) (by decide) hk1 hFc hP1 hD1
  have hK := (hK.sub (tys' := []) [] rfl).app hK1
  generalize H1 = H at hP hS ⊢
  have hP : va_P (dC, dI) vwCl [(lc, .inr (5, [.int 0, vlc, .int 0])), (m0, .inr (14, [.ref lc, g1, g2, g3, g4, g5, g6, g7, .int 1]))] H := hP
  have hD : va_D A [(lc, .inr (5, [.int 0, vlc, .int 0])), (m0, .inr (14, [.ref lc, g1, g2, g3, g4, g5, g6, g7, .int 1]))] := hD
  have hK : va_K (dC, dI) vwCl [] s := hK
  refine W.widen (k := 0) (n := 0) (Nat.le_of_ble_eq_true rfl) (Nat.le_of_ble_eq_true rfl) ?_
  have hw : r_2 = 1 := hw
  rw [hw]
  refine lv_if_ne (tgt := 26) hx hb dX8_planAt_10 (by decide) (fun c_3 => ?_) (fun c_3 => ?_)
  · refine lv_bipush (v := 32) hx hb dX8_planAt_26 (by decide) ?_
    refine W.widen (k := 0) (n := 0) (Nat.le_of_ble_eq_true rfl) (Nat.le_of_ble_eq_true rfl) ?_
    have hP9 := hP.sub (ws' := [(m0, .inr (14, [.ref lc, g1, g2, g3, g4, g5, g6, g7, .int 1]))]) [1] rfl
    have hD9 := hD.sub (ws' := [(m0, .inr (14, [.ref lc, g1, g2, g3, g4, g5, g6, g7, .int 1]))]) [1] (by decide) rfl
    have hK9 := hK.sub (tys' := []) [] rfl
    exact W.zret (v := 32) hx hb hr rfl (fun t ht hW => ⟨⟨32, (), rfl, rfl, ⟨by rw [ht]; exact hP9, va_K.moved hW.alike hK9, hD9⟩⟩, hS.F ht⟩) hS.2.2 dX8_planAt_28
  · exact absurd c_3 (by decide)

set_option maxHeartbeats 4000000 in
set_option maxRecDepth 100000 in
theorem c_X8_colour (l : Launch) (em : Nat → Nat) (dC : Nat → ClassId) (dI : Nat → Nat → Nat) (m0 : Nat) (p0 : Int32) (p1 : Int32) (p2 : Int32) (g1 : Value) (g2 : Value) (g3 : Value) (g4 : Value) (g5 : Value) (g6 : Value) (g7 : Value) (g8 : Value) (lc : Nat) (vlc : Value) (sz : Nat) : Met l yX8_colour wsX8_colour ({ frames := 2, cells := 0, slots := 0, locals := 43 }) (va_Pc [.ref m0, .int p0, .int p1, .int p2] (Pw em dC dI sz [(m0, .inr (14, [.ref lc, g1, g2, g3, g4, g5, g6, g7, g8])), (lc, .inr (5, [.int 0, vlc, .int 0]))] [])) (va_Qi (fun (r : Int32) (_ : Unit) => r = 0) (fun _ t => Qw dC dI (va_A [(m0, .inr (14, [.ref lc, g1, g2, g3, g4, g5, g6, g7, g8])), (lc, .inr (5, [.int 0, vlc, .int 0]))] sz) [(m0, .inr (14, [.ref lc, g1, g2, g3, g4, g5, g6, g7, .int 1]))] [] t) (va_A [(m0, .inr (14, [.ref lc, g1, g2, g3, g4, g5, g6, g7, g8])), (lc, .inr (5, [.int 0, vlc, .int 0]))] sz)) 0 0 (va_A [(m0, .inr (14, [.ref lc, g1, g2, g3, g4, g5, g6, g7, g8])), (lc, .inr (5, [.int 0, vlc, .int 0]))] sz) := by
  refine Met.ofW (cc := cX8_colour) (maxL := 4) (ret := (some .int)) (by decide) rfl ?_
  intro p e s m args below meth c s₁ B hml hv
  obtain ⟨rfl, hsz, hP, hK, hD0, hamb⟩ := hv
  have hx := B.exec
  have hb := B.bytes
  have hr := B.returns
  have hts := atoms_spec (ws := wsX8_colour) B.pre
  have hown : s.vm.findClass RX8 = some m.cls := findClass_of_methodNamed B.named
  have hlocks := B.notSynchronized
  subst hsz
  have hD := hD0.self (sz := s.heap.size)
  generalize hAe : va_A [(m0, .inr (14, [.ref lc, g1, g2, g3, g4, g5, g6, g7, g8])), (lc, .inr (5, [.int 0, vlc, .int 0]))] s.heap.size = A at hD hamb ⊢
  have hA : ∀ q : Nat, s.heap.size ≤ q → A q := fun q h => by rw [← hAe]; exact Or.inr h
  have hS : va_S A s.heap s.heap [] := va_S.rf
  have hP : va_P (dC, dI) vwCl [(m0, .inr (14, [.ref lc, g1, g2, g3, g4, g5, g6, g7, g8])), (lc, .inr (5, [.int 0, vlc, .int 0]))] s.heap := hP
  have hl := lv_entry ([.ref m0, .int p0, .int p1, .int p2]) (n := 4) (Nat.le_of_ble_eq_true rfl)
  rw [lg_entry_eq]
  generalize (lg_sl ([.ref m0, .int p0, .int p1, .int p2]) ++ List.replicate (4 - (lg_sl ([.ref m0, .int p0, .int p1, .int p2])).length) Slot.unset).toArray = ls at hl ⊢
  have hl : lv_has ls 4 [(0, .ref m0), (1, .int p0), (2, .int p1), (3, .int p2)] := hl
  refine lv_aload_n hx hb dX8_colour_0 rfl (lv_at hl 0 rfl) ?_
  refine lv_aload_n hx hb dX8_colour_1 rfl (lv_at hl 0 rfl) ?_
  refine lv_iload_n hx hb dX8_colour_2 rfl (lv_at hl 1 rfl) ?_
  have hPc := hP.sub (ws' := [(m0, .inr (14, [.ref lc, g1, g2, g3, g4, g5, g6, g7, g8])), (lc, .inr (5, [.int 0, vlc, .int 0]))]) [0, 1] rfl
  have hDc := hD.sub (ws' := [(m0, .inr (14, [.ref lc, g1, g2, g3, g4, g5, g6, g7, g8])), (lc, .inr (5, [.int 0, vlc, .int 0]))]) [0, 1] (by decide) rfl
  have hKc := hK.sub (tys' := []) [] rfl
  have hFc := va_free (wc := [(m0, .inr (14, [.ref lc, g1, g2, g3, g4, g5, g6, g7, g8])), (lc, .inr (5, [.int 0, vlc, .int 0]))]) hD hS hA [0, 1] rfl
  refine va_calli (va_runV (As := [.int p0]) (rest := [.ref m0]) ⟨hx, hb, hml, hown, hts⟩ (c_X8_isNoCard l em dC dI m0 p0 g1 g2 g3 g4 g5 g6 g7 g8 lc vlc s.heap.size) (cwV 1 hts gX8_colour_X8_isNoCard rfl rfl rfl (by decide +kernel) ⟨Nat.le_of_ble_eq_true rfl, Nat.le_of_ble_eq_true rfl⟩) ⟨Pw.blind _ _ _ _ _ _ _, va_recv hKc hPc (ci := 14) (q0 := 0) rfl rfl, fun U hU hW => ⟨rfl, Pw.go hPc hKc hDc hamb hS hFc hU hW⟩⟩ rfl rfl hl.1 rfl (lv_room (Nat.le_of_ble_eq_true rfl)) dX8_colour_3 ⟨Nat.le_of_ble_eq_true rfl, Nat.le_of_ble_eq_true rfl⟩) hS (fun q _ h => hFc q h) hFc (fun r_1 u t H1 locs1 ht hvm hw hB hz1 hk1 hS => ?_)
  obtain ⟨hP1, hK1, hD1⟩ := hB
  rw [ht] at hP1
  have hK1 := va_K.moved hvm.symm hK1
  obtain ⟨hP, hD⟩ := va_join (wr := []) (w1 := [(m0, .inr (14, [.ref lc, g1, g2, g3, g4, g5, g6, g7, g8])), (lc, .inr (5, [.int 0, vlc, .int 0]))]) hP hD [0, 1] [] rfl rfl (by decide) (by decide) hk1 hFc hP1 hD1
  have hK := (hK.sub (tys' := []) [] rfl).app hK1
  generalize H1 = H at hP hS ⊢
  have hP : va_P (dC, dI) vwCl [(m0, .inr (14, [.ref lc, g1, g2, g3, g4, g5, g6, g7, g8])), (lc, .inr (5, [.int 0, vlc, .int 0]))] H := hP
  have hD : va_D A [(m0, .inr (14, [.ref lc, g1, g2, g3, g4, g5, g6, g7, g8])), (lc, .inr (5, [.int 0, vlc, .int 0]))] := hD
  have hK : va_K (dC, dI) vwCl [] s := hK
  refine W.widen (k := 0) (n := 0) (Nat.le_of_ble_eq_true rfl) (Nat.le_of_ble_eq_true rfl) ?_
  have hw : r_1 = 1 := hw
  rw [hw]
  refine lv_if_ne (tgt := 17) hx hb dX8_colour_6 (by decide) (fun c_2 => ?_) (fun c_2 => ?_)
  · refine lv_iconst (v := 1) hx hb dX8_colour_17 (by decide) ?_
    refine lv_goto (tgt := 22) hx hb dX8_colour_18 (by decide) ?_
    refine lv_iconst (v := 1) hx hb dX8_colour_22 (by decide) ?_
    have hPc := hP.sub (ws' := [(m0, .inr (14, [.ref lc, g1, g2, g3, g4, g5, g6, g7, g8]))]) [0] rfl
    have hDc := hD.sub (ws' := [(m0, .inr (14, [.ref lc, g1, g2, g3, g4, g5, g6, g7, g8]))]) [0] (by decide) rfl
    have hKc := hK.sub (tys' := []) [] rfl
    have hFc := va_free (wc := [(m0, .inr (14, [.ref lc, g1, g2, g3, g4, g5, g6, g7, g8]))]) hD hS hA [0] rfl
    refine va_calli (va_runV (As := [.int 1, .int 1]) (rest := []) ⟨hx, hb, hml, hown, hts⟩ (c_X8_isThrown_1 l em dC dI m0 1 (.ref lc) g1 g2 g3 g4 g5 g6 g7 g8 H.size) (cwV 2 hts gX8_colour_X8_isThrown rfl rfl rfl (by decide +kernel) ⟨Nat.le_of_ble_eq_true rfl, Nat.le_of_ble_eq_true rfl⟩) ⟨Pw.blind _ _ _ _ _ _ _, va_recv hKc hPc (ci := 14) (q0 := 0) rfl rfl, fun U hU hW => ⟨rfl, Pw.go hPc hKc hDc hamb hS hFc hU hW⟩⟩ rfl rfl hl.1 rfl (lv_room (Nat.le_of_ble_eq_true rfl)) dX8_colour_23 ⟨Nat.le_of_ble_eq_true rfl, Nat.le_of_ble_eq_true rfl⟩) hS (fun q _ h => hFc q h) hFc (fun r_3 u t H1 locs1 ht hvm hw hB hz1 hk1 hS => ?_)
    obtain ⟨hP1, hK1, hD1⟩ := hB
    rw [ht] at hP1
    have hK1 := va_K.moved hvm.symm hK1
    obtain ⟨hP, hD⟩ := va_join (wr := [(lc, .inr (5, [.int 0, vlc, .int 0]))]) (w1 := [(m0, .inr (14, [.ref lc, g1, g2, g3, g4, g5, g6, g7, .int 1]))]) hP hD [0] [1] rfl rfl (by decide) (by decide) hk1 hFc hP1 hD1
    have hK := (hK.sub (tys' := []) [] rfl).app hK1
    generalize H1 = H at hP hS ⊢
    have hP : va_P (dC, dI) vwCl [(lc, .inr (5, [.int 0, vlc, .int 0])), (m0, .inr (14, [.ref lc, g1, g2, g3, g4, g5, g6, g7, .int 1]))] H := hP
    have hD : va_D A [(lc, .inr (5, [.int 0, vlc, .int 0])), (m0, .inr (14, [.ref lc, g1, g2, g3, g4, g5, g6, g7, .int 1]))] := hD
    have hK : va_K (dC, dI) vwCl [] s := hK
    refine W.widen (k := 0) (n := 0) (Nat.le_of_ble_eq_true rfl) (Nat.le_of_ble_eq_true rfl) ?_
    have hw : r_3 = 1 := hw
    rw [hw]
    refine lv_if_eq (tgt := 33) hx hb dX8_colour_26 (by decide) (fun c_4 => ?_) (fun c_4 => ?_)
    · exact absurd c_4 (by decide)
    · refine lv_iconst (v := 0) hx hb dX8_colour_29 (by decide) ?_
      refine lv_goto (tgt := 40) hx hb dX8_colour_30 (by decide) ?_
      refine W.widen (k := 0) (n := 0) (Nat.le_of_ble_eq_true rfl) (Nat.le_of_ble_eq_true rfl) ?_
      have hP9 := hP.sub (ws' := [(m0, .inr (14, [.ref lc, g1, g2, g3, g4, g5, g6, g7, .int 1]))]) [1] rfl
      have hD9 := hD.sub (ws' := [(m0, .inr (14, [.ref lc, g1, g2, g3, g4, g5, g6, g7, .int 1]))]) [1] (by decide) rfl
      have hK9 := hK.sub (tys' := []) [] rfl
      exact W.iret (v := 0) hx hb hr (fun t ht hW => ⟨⟨0, (), rfl, rfl, ⟨by rw [ht]; exact hP9, va_K.moved hW.alike hK9, hD9⟩⟩, hS.F ht⟩) hS.2.2 dX8_colour_40
  · exact absurd c_2 (by decide)

set_option maxHeartbeats 4000000 in
set_option maxRecDepth 100000 in
theorem c_X8_isIdle (l : Launch) (em : Nat → Nat) (dC : Nat → ClassId) (dI : Nat → Nat → Nat) (m0 : Nat) (p0 : Int32) (p1 : Int32) (g1 : Value) (g2 : Value) (g3 : Value) (g4 : Value) (g5 : Value) (g6 : Value) (g7 : Value) (g8 : Value) (lc : Nat) (vlc : Value) (sz : Nat) : Met l yX8_isIdle wsX8_isIdle ({ frames := 2, cells := 0, slots := 0, locals := 43 }) (va_Pc [.ref m0, .int p0, .int p1] (Pw em dC dI sz [(m0, .inr (14, [.ref lc, g1, g2, g3, g4, g5, g6, g7, g8])), (lc, .inr (5, [.int 0, vlc, .int 0]))] [])) (va_Qi (fun (r : Int32) (_ : Unit) => r = 0) (fun _ t => Qw dC dI (va_A [(m0, .inr (14, [.ref lc, g1, g2, g3, g4, g5, g6, g7, g8])), (lc, .inr (5, [.int 0, vlc, .int 0]))] sz) [(m0, .inr (14, [.ref lc, g1, g2, g3, g4, g5, g6, g7, .int 1]))] [] t) (va_A [(m0, .inr (14, [.ref lc, g1, g2, g3, g4, g5, g6, g7, g8])), (lc, .inr (5, [.int 0, vlc, .int 0]))] sz)) 0 0 (va_A [(m0, .inr (14, [.ref lc, g1, g2, g3, g4, g5, g6, g7, g8])), (lc, .inr (5, [.int 0, vlc, .int 0]))] sz) := by
  refine Met.ofW (cc := cX8_isIdle) (maxL := 3) (ret := (some .boolean)) (by decide) rfl ?_
  intro p e s m args below meth c s₁ B hml hv
  obtain ⟨rfl, hsz, hP, hK, hD0, hamb⟩ := hv
  have hx := B.exec
  have hb := B.bytes
  have hr := B.returns
  have hts := atoms_spec (ws := wsX8_isIdle) B.pre
  have hown : s.vm.findClass RX8 = some m.cls := findClass_of_methodNamed B.named
  have hlocks := B.notSynchronized
  subst hsz
  have hD := hD0.self (sz := s.heap.size)
  generalize hAe : va_A [(m0, .inr (14, [.ref lc, g1, g2, g3, g4, g5, g6, g7, g8])), (lc, .inr (5, [.int 0, vlc, .int 0]))] s.heap.size = A at hD hamb ⊢
  have hA : ∀ q : Nat, s.heap.size ≤ q → A q := fun q h => by rw [← hAe]; exact Or.inr h
  have hS : va_S A s.heap s.heap [] := va_S.rf
  have hP : va_P (dC, dI) vwCl [(m0, .inr (14, [.ref lc, g1, g2, g3, g4, g5, g6, g7, g8])), (lc, .inr (5, [.int 0, vlc, .int 0]))] s.heap := hP
  have hl := lv_entry ([.ref m0, .int p0, .int p1]) (n := 3) (Nat.le_of_ble_eq_true rfl)
  rw [lg_entry_eq]
  generalize (lg_sl ([.ref m0, .int p0, .int p1]) ++ List.replicate (3 - (lg_sl ([.ref m0, .int p0, .int p1])).length) Slot.unset).toArray = ls at hl ⊢
  have hl : lv_has ls 3 [(0, .ref m0), (1, .int p0), (2, .int p1)] := hl
  refine lv_aload_n hx hb dX8_isIdle_0 rfl (lv_at hl 0 rfl) ?_
  refine lv_aload_n hx hb dX8_isIdle_1 rfl (lv_at hl 0 rfl) ?_
  refine lv_iload_n hx hb dX8_isIdle_2 rfl (lv_at hl 1 rfl) ?_
  have hPc := hP.sub (ws' := [(m0, .inr (14, [.ref lc, g1, g2, g3, g4, g5, g6, g7, g8])), (lc, .inr (5, [.int 0, vlc, .int 0]))]) [0, 1] rfl
  have hDc := hD.sub (ws' := [(m0, .inr (14, [.ref lc, g1, g2, g3, g4, g5, g6, g7, g8])), (lc, .inr (5, [.int 0, vlc, .int 0]))]) [0, 1] (by decide) rfl
  have hKc := hK.sub (tys' := []) [] rfl
  have hFc := va_free (wc := [(m0, .inr (14, [.ref lc, g1, g2, g3, g4, g5, g6, g7, g8])), (lc, .inr (5, [.int 0, vlc, .int 0]))]) hD hS hA [0, 1] rfl
  refine va_calli (va_runV (As := [.int p0]) (rest := [.ref m0]) ⟨hx, hb, hml, hown, hts⟩ (c_X8_isNoCard l em dC dI m0 p0 g1 g2 g3 g4 g5 g6 g7 g8 lc vlc s.heap.size) (cwV 1 hts gX8_isIdle_X8_isNoCard rfl rfl rfl (by decide +kernel) ⟨Nat.le_of_ble_eq_true rfl, Nat.le_of_ble_eq_true rfl⟩) ⟨Pw.blind _ _ _ _ _ _ _, va_recv hKc hPc (ci := 14) (q0 := 0) rfl rfl, fun U hU hW => ⟨rfl, Pw.go hPc hKc hDc hamb hS hFc hU hW⟩⟩ rfl rfl hl.1 rfl (lv_room (Nat.le_of_ble_eq_true rfl)) dX8_isIdle_3 ⟨Nat.le_of_ble_eq_true rfl, Nat.le_of_ble_eq_true rfl⟩) hS (fun q _ h => hFc q h) hFc (fun r_1 u t H1 locs1 ht hvm hw hB hz1 hk1 hS => ?_)
  obtain ⟨hP1, hK1, hD1⟩ := hB
  rw [ht] at hP1
  have hK1 := va_K.moved hvm.symm hK1
  obtain ⟨hP, hD⟩ := va_join (wr := []) (w1 := [(m0, .inr (14, [.ref lc, g1, g2, g3, g4, g5, g6, g7, g8])), (lc, .inr (5, [.int 0, vlc, .int 0]))]) hP hD [0, 1] [] rfl rfl (by decide) (by decide) hk1 hFc hP1 hD1
  have hK := (hK.sub (tys' := []) [] rfl).app hK1
  generalize H1 = H at hP hS ⊢
  have hP : va_P (dC, dI) vwCl [(m0, .inr (14, [.ref lc, g1, g2, g3, g4, g5, g6, g7, g8])), (lc, .inr (5, [.int 0, vlc, .int 0]))] H := hP
  have hD : va_D A [(m0, .inr (14, [.ref lc, g1, g2, g3, g4, g5, g6, g7, g8])), (lc, .inr (5, [.int 0, vlc, .int 0]))] := hD
  have hK : va_K (dC, dI) vwCl [] s := hK
  refine W.widen (k := 0) (n := 0) (Nat.le_of_ble_eq_true rfl) (Nat.le_of_ble_eq_true rfl) ?_
  have hw : r_1 = 1 := hw
  rw [hw]
  refine lv_if_ne (tgt := 17) hx hb dX8_isIdle_6 (by decide) (fun c_2 => ?_) (fun c_2 => ?_)
  · refine lv_iconst (v := 1) hx hb dX8_isIdle_17 (by decide) ?_
    refine lv_goto (tgt := 22) hx hb dX8_isIdle_18 (by decide) ?_
    refine lv_iconst (v := 1) hx hb dX8_isIdle_22 (by decide) ?_
    have hPc := hP.sub (ws' := [(m0, .inr (14, [.ref lc, g1, g2, g3, g4, g5, g6, g7, g8]))]) [0] rfl
    have hDc := hD.sub (ws' := [(m0, .inr (14, [.ref lc, g1, g2, g3, g4, g5, g6, g7, g8]))]) [0] (by decide) rfl
    have hKc := hK.sub (tys' := []) [] rfl
    have hFc := va_free (wc := [(m0, .inr (14, [.ref lc, g1, g2, g3, g4, g5, g6, g7, g8]))]) hD hS hA [0] rfl
    refine va_calli (va_runV (As := [.int 1, .int 1]) (rest := []) ⟨hx, hb, hml, hown, hts⟩ (c_X8_isThrown_1 l em dC dI m0 1 (.ref lc) g1 g2 g3 g4 g5 g6 g7 g8 H.size) (cwV 2 hts gX8_isIdle_X8_isThrown rfl rfl rfl (by decide +kernel) ⟨Nat.le_of_ble_eq_true rfl, Nat.le_of_ble_eq_true rfl⟩) ⟨Pw.blind _ _ _ _ _ _ _, va_recv hKc hPc (ci := 14) (q0 := 0) rfl rfl, fun U hU hW => ⟨rfl, Pw.go hPc hKc hDc hamb hS hFc hU hW⟩⟩ rfl rfl hl.1 rfl (lv_room (Nat.le_of_ble_eq_true rfl)) dX8_isIdle_23 ⟨Nat.le_of_ble_eq_true rfl, Nat.le_of_ble_eq_true rfl⟩) hS (fun q _ h => hFc q h) hFc (fun r_3 u t H1 locs1 ht hvm hw hB hz1 hk1 hS => ?_)
    obtain ⟨hP1, hK1, hD1⟩ := hB
    rw [ht] at hP1
    have hK1 := va_K.moved hvm.symm hK1
    obtain ⟨hP, hD⟩ := va_join (wr := [(lc, .inr (5, [.int 0, vlc, .int 0]))]) (w1 := [(m0, .inr (14, [.ref lc, g1, g2, g3, g4, g5, g6, g7, .int 1]))]) hP hD [0] [1] rfl rfl (by decide) (by decide) hk1 hFc hP1 hD1
    have hK := (hK.sub (tys' := []) [] rfl).app hK1
    generalize H1 = H at hP hS ⊢
    have hP : va_P (dC, dI) vwCl [(lc, .inr (5, [.int 0, vlc, .int 0])), (m0, .inr (14, [.ref lc, g1, g2, g3, g4, g5, g6, g7, .int 1]))] H := hP
    have hD : va_D A [(lc, .inr (5, [.int 0, vlc, .int 0])), (m0, .inr (14, [.ref lc, g1, g2, g3, g4, g5, g6, g7, .int 1]))] := hD
    have hK : va_K (dC, dI) vwCl [] s := hK
    refine W.widen (k := 0) (n := 0) (Nat.le_of_ble_eq_true rfl) (Nat.le_of_ble_eq_true rfl) ?_
    have hw : r_3 = 1 := hw
    rw [hw]
    refine lv_if_ne (tgt := 54) hx hb dX8_isIdle_26 (by decide) (fun c_4 => ?_) (fun c_4 => ?_)
    · refine lv_iconst (v := 0) hx hb dX8_isIdle_54 (by decide) ?_
      refine W.widen (k := 0) (n := 0) (Nat.le_of_ble_eq_true rfl) (Nat.le_of_ble_eq_true rfl) ?_
      have hP9 := hP.sub (ws' := [(m0, .inr (14, [.ref lc, g1, g2, g3, g4, g5, g6, g7, .int 1]))]) [1] rfl
      have hD9 := hD.sub (ws' := [(m0, .inr (14, [.ref lc, g1, g2, g3, g4, g5, g6, g7, .int 1]))]) [1] (by decide) rfl
      have hK9 := hK.sub (tys' := []) [] rfl
      exact W.zret (v := 0) hx hb hr rfl (fun t ht hW => ⟨⟨0, (), rfl, rfl, ⟨by rw [ht]; exact hP9, va_K.moved hW.alike hK9, hD9⟩⟩, hS.F ht⟩) hS.2.2 dX8_isIdle_55
    · exact absurd c_4 (by decide)
  · exact absurd c_2 (by decide)

set_option maxHeartbeats 4000000 in
set_option maxRecDepth 100000 in
theorem c_X8_ways (l : Launch) (em : Nat → Nat) (dC : Nat → ClassId) (dI : Nat → Nat → Nat) (m0 : Nat) (p0 : Int32) (p1 : Int32) (p2 : Int32) (p3 : Int32) (g1 : Value) (g2 : Value) (g3 : Value) (g4 : Value) (g5 : Value) (g6 : Value) (g7 : Value) (g8 : Value) (lc : Nat) (vlc : Value) (sz : Nat) : Met l yX8_ways wsX8_ways ({ frames := 2, cells := 0, slots := 0, locals := 43 }) (va_Pc [.ref m0, .int p0, .int p1, .int p2, .int p3] (Pw em dC dI sz [(m0, .inr (14, [.ref lc, g1, g2, g3, g4, g5, g6, g7, g8])), (lc, .inr (5, [.int 0, vlc, .int 0]))] [])) (va_Ql (fun (r : Int64) (_ : Unit) => r = 0) (fun _ t => Qw dC dI (va_A [(m0, .inr (14, [.ref lc, g1, g2, g3, g4, g5, g6, g7, g8])), (lc, .inr (5, [.int 0, vlc, .int 0]))] sz) [(m0, .inr (14, [.ref lc, g1, g2, g3, g4, g5, g6, g7, .int 1]))] [] t) (va_A [(m0, .inr (14, [.ref lc, g1, g2, g3, g4, g5, g6, g7, g8])), (lc, .inr (5, [.int 0, vlc, .int 0]))] sz)) 0 0 (va_A [(m0, .inr (14, [.ref lc, g1, g2, g3, g4, g5, g6, g7, g8])), (lc, .inr (5, [.int 0, vlc, .int 0]))] sz) := by
  refine Met.ofW (cc := cX8_ways) (maxL := 10) (ret := (some .long)) (by decide) rfl ?_
  intro p e s m args below meth c s₁ B hml hv
  obtain ⟨rfl, hsz, hP, hK, hD0, hamb⟩ := hv
  have hx := B.exec
  have hb := B.bytes
  have hr := B.returns
  have hts := atoms_spec (ws := wsX8_ways) B.pre
  have hown : s.vm.findClass RX8 = some m.cls := findClass_of_methodNamed B.named
  have hlocks := B.notSynchronized
  subst hsz
  have hD := hD0.self (sz := s.heap.size)
  generalize hAe : va_A [(m0, .inr (14, [.ref lc, g1, g2, g3, g4, g5, g6, g7, g8])), (lc, .inr (5, [.int 0, vlc, .int 0]))] s.heap.size = A at hD hamb ⊢
  have hA : ∀ q : Nat, s.heap.size ≤ q → A q := fun q h => by rw [← hAe]; exact Or.inr h
  have hS : va_S A s.heap s.heap [] := va_S.rf
  have hP : va_P (dC, dI) vwCl [(m0, .inr (14, [.ref lc, g1, g2, g3, g4, g5, g6, g7, g8])), (lc, .inr (5, [.int 0, vlc, .int 0]))] s.heap := hP
  have hl := lv_entry ([.ref m0, .int p0, .int p1, .int p2, .int p3]) (n := 10) (Nat.le_of_ble_eq_true rfl)
  rw [lg_entry_eq]
  generalize (lg_sl ([.ref m0, .int p0, .int p1, .int p2, .int p3]) ++ List.replicate (10 - (lg_sl ([.ref m0, .int p0, .int p1, .int p2, .int p3])).length) Slot.unset).toArray = ls at hl ⊢
  have hl : lv_has ls 10 [(0, .ref m0), (1, .int p0), (2, .int p1), (3, .int p2), (4, .int p3)] := hl
  refine lv_aload_n hx hb dX8_ways_0 rfl (lv_at hl 0 rfl) ?_
  refine lv_aload_n hx hb dX8_ways_1 rfl (lv_at hl 0 rfl) ?_
  refine lv_iload_n hx hb dX8_ways_2 rfl (lv_at hl 1 rfl) ?_
  have hPc := hP.sub (ws' := [(m0, .inr (14, [.ref lc, g1, g2, g3, g4, g5, g6, g7, g8])), (lc, .inr (5, [.int 0, vlc, .int 0]))]) [0, 1] rfl
  have hDc := hD.sub (ws' := [(m0, .inr (14, [.ref lc, g1, g2, g3, g4, g5, g6, g7, g8])), (lc, .inr (5, [.int 0, vlc, .int 0]))]) [0, 1] (by decide) rfl
  have hKc := hK.sub (tys' := []) [] rfl
  have hFc := va_free (wc := [(m0, .inr (14, [.ref lc, g1, g2, g3, g4, g5, g6, g7, g8])), (lc, .inr (5, [.int 0, vlc, .int 0]))]) hD hS hA [0, 1] rfl
  refine va_calli (va_runV (As := [.int p0]) (rest := [.ref m0]) ⟨hx, hb, hml, hown, hts⟩ (c_X8_isNoCard l em dC dI m0 p0 g1 g2 g3 g4 g5 g6 g7 g8 lc vlc s.heap.size) (cwV 1 hts gX8_ways_X8_isNoCard rfl rfl rfl (by decide +kernel) ⟨Nat.le_of_ble_eq_true rfl, Nat.le_of_ble_eq_true rfl⟩) ⟨Pw.blind _ _ _ _ _ _ _, va_recv hKc hPc (ci := 14) (q0 := 0) rfl rfl, fun U hU hW => ⟨rfl, Pw.go hPc hKc hDc hamb hS hFc hU hW⟩⟩ rfl rfl hl.1 rfl (lv_room (Nat.le_of_ble_eq_true rfl)) dX8_ways_3 ⟨Nat.le_of_ble_eq_true rfl, Nat.le_of_ble_eq_true rfl⟩) hS (fun q _ h => hFc q h) hFc (fun r_1 u t H1 locs1 ht hvm hw hB hz1 hk1 hS => ?_)
  obtain ⟨hP1, hK1, hD1⟩ := hB
  rw [ht] at hP1
  have hK1 := va_K.moved hvm.symm hK1
  obtain ⟨hP, hD⟩ := va_join (wr := []) (w1 := [(m0, .inr (14, [.ref lc, g1, g2, g3, g4, g5, g6, g7, g8])), (lc, .inr (5, [.int 0, vlc, .int 0]))]) hP hD [0, 1] [] rfl rfl (by decide) (by decide) hk1 hFc hP1 hD1
  have hK := (hK.sub (tys' := []) [] rfl).app hK1
  generalize H1 = H at hP hS ⊢
  have hP : va_P (dC, dI) vwCl [(m0, .inr (14, [.ref lc, g1, g2, g3, g4, g5, g6, g7, g8])), (lc, .inr (5, [.int 0, vlc, .int 0]))] H := hP
  have hD : va_D A [(m0, .inr (14, [.ref lc, g1, g2, g3, g4, g5, g6, g7, g8])), (lc, .inr (5, [.int 0, vlc, .int 0]))] := hD
  have hK : va_K (dC, dI) vwCl [] s := hK
  refine W.widen (k := 0) (n := 0) (Nat.le_of_ble_eq_true rfl) (Nat.le_of_ble_eq_true rfl) ?_
  have hw : r_1 = 1 := hw
  rw [hw]
  refine lv_if_ne (tgt := 25) hx hb dX8_ways_6 (by decide) (fun c_2 => ?_) (fun c_2 => ?_)
  · refine lv_iconst (v := 1) hx hb dX8_ways_25 (by decide) ?_
    refine lv_goto (tgt := 30) hx hb dX8_ways_26 (by decide) ?_
    refine lv_iconst (v := 1) hx hb dX8_ways_30 (by decide) ?_
    have hPc := hP.sub (ws' := [(m0, .inr (14, [.ref lc, g1, g2, g3, g4, g5, g6, g7, g8]))]) [0] rfl
    have hDc := hD.sub (ws' := [(m0, .inr (14, [.ref lc, g1, g2, g3, g4, g5, g6, g7, g8]))]) [0] (by decide) rfl
    have hKc := hK.sub (tys' := []) [] rfl
    have hFc := va_free (wc := [(m0, .inr (14, [.ref lc, g1, g2, g3, g4, g5, g6, g7, g8]))]) hD hS hA [0] rfl
    refine va_calli (va_runV (As := [.int 1, .int 1]) (rest := []) ⟨hx, hb, hml, hown, hts⟩ (c_X8_isThrown_1 l em dC dI m0 1 (.ref lc) g1 g2 g3 g4 g5 g6 g7 g8 H.size) (cwV 2 hts gX8_ways_X8_isThrown rfl rfl rfl (by decide +kernel) ⟨Nat.le_of_ble_eq_true rfl, Nat.le_of_ble_eq_true rfl⟩) ⟨Pw.blind _ _ _ _ _ _ _, va_recv hKc hPc (ci := 14) (q0 := 0) rfl rfl, fun U hU hW => ⟨rfl, Pw.go hPc hKc hDc hamb hS hFc hU hW⟩⟩ rfl rfl hl.1 rfl (lv_room (Nat.le_of_ble_eq_true rfl)) dX8_ways_31 ⟨Nat.le_of_ble_eq_true rfl, Nat.le_of_ble_eq_true rfl⟩) hS (fun q _ h => hFc q h) hFc (fun r_3 u t H1 locs1 ht hvm hw hB hz1 hk1 hS => ?_)
    obtain ⟨hP1, hK1, hD1⟩ := hB
    rw [ht] at hP1
    have hK1 := va_K.moved hvm.symm hK1
    obtain ⟨hP, hD⟩ := va_join (wr := [(lc, .inr (5, [.int 0, vlc, .int 0]))]) (w1 := [(m0, .inr (14, [.ref lc, g1, g2, g3, g4, g5, g6, g7, .int 1]))]) hP hD [0] [1] rfl rfl (by decide) (by decide) hk1 hFc hP1 hD1
    have hK := (hK.sub (tys' := []) [] rfl).app hK1
    generalize H1 = H at hP hS ⊢
    have hP : va_P (dC, dI) vwCl [(lc, .inr (5, [.int 0, vlc, .int 0])), (m0, .inr (14, [.ref lc, g1, g2, g3, g4, g5, g6, g7, .int 1]))] H := hP
    have hD : va_D A [(lc, .inr (5, [.int 0, vlc, .int 0])), (m0, .inr (14, [.ref lc, g1, g2, g3, g4, g5, g6, g7, .int 1]))] := hD
    have hK : va_K (dC, dI) vwCl [] s := hK
    refine W.widen (k := 0) (n := 0) (Nat.le_of_ble_eq_true rfl) (Nat.le_of_ble_eq_true rfl) ?_
    have hw : r_3 = 1 := hw
    rw [hw]
    refine lv_if_ne (tgt := 55) hx hb dX8_ways_34 (by decide) (fun c_4 => ?_) (fun c_4 => ?_)
    · refine lv_lconst (v := 0) hx hb dX8_ways_55 (by decide) ?_
      refine W.widen (k := 0) (n := 0) (Nat.le_of_ble_eq_true rfl) (Nat.le_of_ble_eq_true rfl) ?_
      have hP9 := hP.sub (ws' := [(m0, .inr (14, [.ref lc, g1, g2, g3, g4, g5, g6, g7, .int 1]))]) [1] rfl
      have hD9 := hD.sub (ws' := [(m0, .inr (14, [.ref lc, g1, g2, g3, g4, g5, g6, g7, .int 1]))]) [1] (by decide) rfl
      have hK9 := hK.sub (tys' := []) [] rfl
      exact W.lret (v := 0) hx hb hr (fun t ht hW => ⟨⟨0, (), rfl, rfl, ⟨by rw [ht]; exact hP9, va_K.moved hW.alike hK9, hD9⟩⟩, hS.F ht⟩) hS.2.2 dX8_ways_56
    · exact absurd c_4 (by decide)
  · exact absurd c_2 (by decide)

set_option maxHeartbeats 4000000 in
set_option maxRecDepth 100000 in
theorem c_X8_pick (l : Launch) (em : Nat → Nat) (dC : Nat → ClassId) (dI : Nat → Nat → Nat) (m0 : Nat) (g1 : Value) (g2 : Value) (g3 : Value) (g4 : Value) (g5 : Value) (g6 : Value) (g7 : Value) (g8 : Value) (lc : Nat) (vlc : Value) (sz : Nat) : Met l yX8_pick wsX8_pick ({ frames := 1, cells := 0, slots := 0, locals := 22 }) (va_Pc [.ref m0] (Pw em dC dI sz [(m0, .inr (14, [.ref lc, g1, g2, g3, g4, g5, g6, g7, g8])), (lc, .inr (5, [.int 0, vlc, .int 0]))] [])) (va_Qi (fun (r : Int32) (_ : Unit) => r = 0) (fun _ t => Qw dC dI (va_A [(m0, .inr (14, [.ref lc, g1, g2, g3, g4, g5, g6, g7, g8])), (lc, .inr (5, [.int 0, vlc, .int 0]))] sz) [(m0, .inr (14, [.ref lc, g1, g2, g3, g4, g5, g6, g7, .int 1]))] [] t) (va_A [(m0, .inr (14, [.ref lc, g1, g2, g3, g4, g5, g6, g7, g8])), (lc, .inr (5, [.int 0, vlc, .int 0]))] sz)) 0 0 (va_A [(m0, .inr (14, [.ref lc, g1, g2, g3, g4, g5, g6, g7, g8])), (lc, .inr (5, [.int 0, vlc, .int 0]))] sz) := by
  refine Met.ofW (cc := cX8_pick) (maxL := 1) (ret := (some .int)) (by decide) rfl ?_
  intro p e s m args below meth c s₁ B hml hv
  obtain ⟨rfl, hsz, hP, hK, hD0, hamb⟩ := hv
  have hx := B.exec
  have hb := B.bytes
  have hr := B.returns
  have hts := atoms_spec (ws := wsX8_pick) B.pre
  have hown : s.vm.findClass RX8 = some m.cls := findClass_of_methodNamed B.named
  have hlocks := B.notSynchronized
  subst hsz
  have hD := hD0.self (sz := s.heap.size)
  generalize hAe : va_A [(m0, .inr (14, [.ref lc, g1, g2, g3, g4, g5, g6, g7, g8])), (lc, .inr (5, [.int 0, vlc, .int 0]))] s.heap.size = A at hD hamb ⊢
  have hA : ∀ q : Nat, s.heap.size ≤ q → A q := fun q h => by rw [← hAe]; exact Or.inr h
  have hS : va_S A s.heap s.heap [] := va_S.rf
  have hP : va_P (dC, dI) vwCl [(m0, .inr (14, [.ref lc, g1, g2, g3, g4, g5, g6, g7, g8])), (lc, .inr (5, [.int 0, vlc, .int 0]))] s.heap := hP
  have hl := lv_entry ([.ref m0]) (n := 1) (Nat.le_of_ble_eq_true rfl)
  rw [lg_entry_eq]
  generalize (lg_sl ([.ref m0]) ++ List.replicate (1 - (lg_sl ([.ref m0])).length) Slot.unset).toArray = ls at hl ⊢
  have hl : lv_has ls 1 [(0, .ref m0)] := hl
  refine lv_aload_n hx hb dX8_pick_0 rfl (lv_at hl 0 rfl) ?_
  refine lv_aload_n hx hb dX8_pick_1 rfl (lv_at hl 0 rfl) ?_
  refine va_get (D := (dC, dI)) (ci := 14) (v := .ref lc) (C := RX8) (T := TX8) (N := 9) hx hb hts (by decide +kernel) hown hK hP 0 rfl rfl 0 (by decide) (hts (.fieldLink RX8 10 "BothfacesModel" "cards" "Ljava/util/ArrayList;") (by decide +kernel)) (fun _ h9 => h9) rfl dX8_pick_2 ?_
  have hPc := hP.sub (ws' := [(lc, .inr (5, [.int 0, vlc, .int 0]))]) [1] rfl
  have hDc := hD.sub (ws' := [(lc, .inr (5, [.int 0, vlc, .int 0]))]) [1] (by decide) rfl
  have hKc := hK.sub (tys' := []) [] rfl
  have hFc := va_free (wc := [(lc, .inr (5, [.int 0, vlc, .int 0]))]) hD hS hA [1] rfl
  refine va_calli (va_runV (As := []) (rest := [.ref m0]) ⟨hx, hb, hml, hown, hts⟩ (c_Jx4a65c_isEmpty_aae02 l em dC dI lc (.int 0) vlc s.heap.size) (cwV 0 hts gX8_pick_Jx4a65c_isEmpty_aae02 rfl rfl rfl (by decide +kernel) ⟨Nat.le_of_ble_eq_true rfl, Nat.le_of_ble_eq_true rfl⟩) ⟨Pw.blind _ _ _ _ _ _ _, va_recv hKc hPc (ci := 5) (q0 := 0) rfl rfl, fun U hU hW => ⟨rfl, Pw.go hPc hKc hDc hamb hS hFc hU hW⟩⟩ rfl rfl hl.1 rfl (lv_room (Nat.le_of_ble_eq_true rfl)) dX8_pick_5 ⟨Nat.le_of_ble_eq_true rfl, Nat.le_of_ble_eq_true rfl⟩) hS (fun q _ h => hFc q h) hFc (fun r_1 u t H1 locs1 ht hvm hw hB hz1 hk1 hS => ?_)
  obtain ⟨hP1, hK1, hD1⟩ := hB
  rw [ht] at hP1
  have hK1 := va_K.moved hvm.symm hK1
  obtain ⟨hP, hD⟩ := va_join (wr := [(m0, .inr (14, [.ref lc, g1, g2, g3, g4, g5, g6, g7, g8]))]) (w1 := [(lc, .inr (5, [.int 0, vlc, .int 0]))]) hP hD [1] [0] rfl rfl (by decide) (by decide) hk1 hFc hP1 hD1
  have hK := (hK.sub (tys' := []) [] rfl).app hK1
  generalize H1 = H at hP hS ⊢
  have hP : va_P (dC, dI) vwCl [(m0, .inr (14, [.ref lc, g1, g2, g3, g4, g5, g6, g7, g8])), (lc, .inr (5, [.int 0, vlc, .int 0]))] H := hP
  have hD : va_D A [(m0, .inr (14, [.ref lc, g1, g2, g3, g4, g5, g6, g7, g8])), (lc, .inr (5, [.int 0, vlc, .int 0]))] := hD
  have hK : va_K (dC, dI) vwCl [] s := hK
  refine W.widen (k := 0) (n := 0) (Nat.le_of_ble_eq_true rfl) (Nat.le_of_ble_eq_true rfl) ?_
  have hw : r_1 = 1 := hw
  rw [hw]
  refine lv_iconst (v := 1) hx hb dX8_pick_8 (by decide) ?_
  have hPc := hP.sub (ws' := [(m0, .inr (14, [.ref lc, g1, g2, g3, g4, g5, g6, g7, g8]))]) [0] rfl
  have hDc := hD.sub (ws' := [(m0, .inr (14, [.ref lc, g1, g2, g3, g4, g5, g6, g7, g8]))]) [0] (by decide) rfl
  have hKc := hK.sub (tys' := []) [] rfl
  have hFc := va_free (wc := [(m0, .inr (14, [.ref lc, g1, g2, g3, g4, g5, g6, g7, g8]))]) hD hS hA [0] rfl
  refine va_calli (va_runV (As := [.int 1, .int 1]) (rest := []) ⟨hx, hb, hml, hown, hts⟩ (c_X8_isThrown_1 l em dC dI m0 1 (.ref lc) g1 g2 g3 g4 g5 g6 g7 g8 H.size) (cwV 2 hts gX8_pick_X8_isThrown rfl rfl rfl (by decide +kernel) ⟨Nat.le_of_ble_eq_true rfl, Nat.le_of_ble_eq_true rfl⟩) ⟨Pw.blind _ _ _ _ _ _ _, va_recv hKc hPc (ci := 14) (q0 := 0) rfl rfl, fun U hU hW => ⟨rfl, Pw.go hPc hKc hDc hamb hS hFc hU hW⟩⟩ rfl rfl hl.1 rfl (lv_room (Nat.le_of_ble_eq_true rfl)) dX8_pick_9 ⟨Nat.le_of_ble_eq_true rfl, Nat.le_of_ble_eq_true rfl⟩) hS (fun q _ h => hFc q h) hFc (fun r_2 u t H1 locs1 ht hvm hw hB hz1 hk1 hS => ?_)
  obtain ⟨hP1, hK1, hD1⟩ := hB
  rw [ht] at hP1
  have hK1 := va_K.moved hvm.symm hK1
  obtain ⟨hP, hD⟩ := va_join (wr := [(lc, .inr (5, [.int 0, vlc, .int 0]))]) (w1 := [(m0, .inr (14, [.ref lc, g1, g2, g3, g4, g5, g6, g7, .int 1]))]) hP hD [0] [1] rfl rfl (by decide) (by decide) hk1 hFc hP1 hD1
  have hK := (hK.sub (tys' := []) [] rfl).app hK1
  generalize H1 = H at hP hS ⊢
  have hP : va_P (dC, dI) vwCl [(lc, .inr (5, [.int 0, vlc, .int 0])), (m0, .inr (14, [.ref lc, g1, g2, g3, g4, g5, g6, g7, .int 1]))] H := hP
  have hD : va_D A [(lc, .inr (5, [.int 0, vlc, .int 0])), (m0, .inr (14, [.ref lc, g1, g2, g3, g4, g5, g6, g7, .int 1]))] := hD
  have hK : va_K (dC, dI) vwCl [] s := hK
  refine W.widen (k := 0) (n := 0) (Nat.le_of_ble_eq_true rfl) (Nat.le_of_ble_eq_true rfl) ?_
  have hw : r_2 = 1 := hw
  rw [hw]
  refine lv_if_ne (tgt := 40) hx hb dX8_pick_12 (by decide) (fun c_3 => ?_) (fun c_3 => ?_)
  · refine lv_iconst (v := 0) hx hb dX8_pick_40 (by decide) ?_
    refine W.widen (k := 0) (n := 0) (Nat.le_of_ble_eq_true rfl) (Nat.le_of_ble_eq_true rfl) ?_
    have hP9 := hP.sub (ws' := [(m0, .inr (14, [.ref lc, g1, g2, g3, g4, g5, g6, g7, .int 1]))]) [1] rfl
    have hD9 := hD.sub (ws' := [(m0, .inr (14, [.ref lc, g1, g2, g3, g4, g5, g6, g7, .int 1]))]) [1] (by decide) rfl
    have hK9 := hK.sub (tys' := []) [] rfl
    exact W.iret (v := 0) hx hb hr (fun t ht hW => ⟨⟨0, (), rfl, rfl, ⟨by rw [ht]; exact hP9, va_K.moved hW.alike hK9, hD9⟩⟩, hS.F ht⟩) hS.2.2 dX8_pick_41
  · exact absurd c_3 (by decide)

set_option maxHeartbeats 4000000 in
set_option maxRecDepth 100000 in
theorem c_X8_unweave (l : Launch) (em : Nat → Nat) (dC : Nat → ClassId) (dI : Nat → Nat → Nat) (m0 : Nat) (g0 : Value) (g2 : Value) (g3 : Value) (g4 : Value) (g5 : Value) (g6 : Value) (g7 : Value) (g8 : Value) (lp : Nat) (vlp : Value) (sz : Nat) : Met l yX8_unweave wsX8_unweave ({ frames := 1, cells := 0, slots := 0, locals := 22 }) (va_Pc [.ref m0] (Pw em dC dI sz [(m0, .inr (14, [g0, .ref lp, g2, g3, g4, g5, g6, g7, g8])), (lp, .inr (5, [.int 0, vlp, .int 0]))] [])) (va_Qi (fun (r : Int32) (_ : Unit) => r = 0) (fun _ t => Qw dC dI (va_A [(m0, .inr (14, [g0, .ref lp, g2, g3, g4, g5, g6, g7, g8])), (lp, .inr (5, [.int 0, vlp, .int 0]))] sz) [(m0, .inr (14, [g0, .ref lp, g2, g3, g4, g5, g6, g7, .int 1]))] [] t) (va_A [(m0, .inr (14, [g0, .ref lp, g2, g3, g4, g5, g6, g7, g8])), (lp, .inr (5, [.int 0, vlp, .int 0]))] sz)) 0 0 (va_A [(m0, .inr (14, [g0, .ref lp, g2, g3, g4, g5, g6, g7, g8])), (lp, .inr (5, [.int 0, vlp, .int 0]))] sz) := by
  refine Met.ofW (cc := cX8_unweave) (maxL := 4) (ret := (some .int)) (by decide) rfl ?_
  intro p e s m args below meth c s₁ B hml hv
  obtain ⟨rfl, hsz, hP, hK, hD0, hamb⟩ := hv
  have hx := B.exec
  have hb := B.bytes
  have hr := B.returns
  have hts := atoms_spec (ws := wsX8_unweave) B.pre
  have hown : s.vm.findClass RX8 = some m.cls := findClass_of_methodNamed B.named
  have hlocks := B.notSynchronized
  subst hsz
  have hD := hD0.self (sz := s.heap.size)
  generalize hAe : va_A [(m0, .inr (14, [g0, .ref lp, g2, g3, g4, g5, g6, g7, g8])), (lp, .inr (5, [.int 0, vlp, .int 0]))] s.heap.size = A at hD hamb ⊢
  have hA : ∀ q : Nat, s.heap.size ≤ q → A q := fun q h => by rw [← hAe]; exact Or.inr h
  have hS : va_S A s.heap s.heap [] := va_S.rf
  have hP : va_P (dC, dI) vwCl [(m0, .inr (14, [g0, .ref lp, g2, g3, g4, g5, g6, g7, g8])), (lp, .inr (5, [.int 0, vlp, .int 0]))] s.heap := hP
  have hl := lv_entry ([.ref m0]) (n := 4) (Nat.le_of_ble_eq_true rfl)
  rw [lg_entry_eq]
  generalize (lg_sl ([.ref m0]) ++ List.replicate (4 - (lg_sl ([.ref m0])).length) Slot.unset).toArray = ls at hl ⊢
  have hl : lv_has ls 4 [(0, .ref m0)] := hl
  refine lv_aload_n hx hb dX8_unweave_0 rfl (lv_at hl 0 rfl) ?_
  refine lv_aload_n hx hb dX8_unweave_1 rfl (lv_at hl 0 rfl) ?_
  refine va_get (D := (dC, dI)) (ci := 14) (v := .ref lp) (C := RX8) (T := TX8) (N := 9) hx hb hts (by decide +kernel) hown hK hP 0 rfl rfl 1 (by decide) (hts (.fieldLink RX8 16 "BothfacesModel" "picks" "Ljava/util/ArrayList;") (by decide +kernel)) (fun _ h9 => h9) rfl dX8_unweave_2 ?_
  have hPc := hP.sub (ws' := [(lp, .inr (5, [.int 0, vlp, .int 0]))]) [1] rfl
  have hDc := hD.sub (ws' := [(lp, .inr (5, [.int 0, vlp, .int 0]))]) [1] (by decide) rfl
  have hKc := hK.sub (tys' := []) [] rfl
  have hFc := va_free (wc := [(lp, .inr (5, [.int 0, vlp, .int 0]))]) hD hS hA [1] rfl
  refine va_calli (va_runV (As := []) (rest := [.ref m0]) ⟨hx, hb, hml, hown, hts⟩ (c_Jx4a65c_isEmpty_aae02 l em dC dI lp (.int 0) vlp s.heap.size) (cwV 0 hts gX8_unweave_Jx4a65c_isEmpty_aae02 rfl rfl rfl (by decide +kernel) ⟨Nat.le_of_ble_eq_true rfl, Nat.le_of_ble_eq_true rfl⟩) ⟨Pw.blind _ _ _ _ _ _ _, va_recv hKc hPc (ci := 5) (q0 := 0) rfl rfl, fun U hU hW => ⟨rfl, Pw.go hPc hKc hDc hamb hS hFc hU hW⟩⟩ rfl rfl hl.1 rfl (lv_room (Nat.le_of_ble_eq_true rfl)) dX8_unweave_5 ⟨Nat.le_of_ble_eq_true rfl, Nat.le_of_ble_eq_true rfl⟩) hS (fun q _ h => hFc q h) hFc (fun r_1 u t H1 locs1 ht hvm hw hB hz1 hk1 hS => ?_)
  obtain ⟨hP1, hK1, hD1⟩ := hB
  rw [ht] at hP1
  have hK1 := va_K.moved hvm.symm hK1
  obtain ⟨hP, hD⟩ := va_join (wr := [(m0, .inr (14, [g0, .ref lp, g2, g3, g4, g5, g6, g7, g8]))]) (w1 := [(lp, .inr (5, [.int 0, vlp, .int 0]))]) hP hD [1] [0] rfl rfl (by decide) (by decide) hk1 hFc hP1 hD1
  have hK := (hK.sub (tys' := []) [] rfl).app hK1
  generalize H1 = H at hP hS ⊢
  have hP : va_P (dC, dI) vwCl [(m0, .inr (14, [g0, .ref lp, g2, g3, g4, g5, g6, g7, g8])), (lp, .inr (5, [.int 0, vlp, .int 0]))] H := hP
  have hD : va_D A [(m0, .inr (14, [g0, .ref lp, g2, g3, g4, g5, g6, g7, g8])), (lp, .inr (5, [.int 0, vlp, .int 0]))] := hD
  have hK : va_K (dC, dI) vwCl [] s := hK
  refine W.widen (k := 0) (n := 0) (Nat.le_of_ble_eq_true rfl) (Nat.le_of_ble_eq_true rfl) ?_
  have hw : r_1 = 1 := hw
  rw [hw]
  refine lv_iconst (v := 1) hx hb dX8_unweave_8 (by decide) ?_
  have hPc := hP.sub (ws' := [(m0, .inr (14, [g0, .ref lp, g2, g3, g4, g5, g6, g7, g8]))]) [0] rfl
  have hDc := hD.sub (ws' := [(m0, .inr (14, [g0, .ref lp, g2, g3, g4, g5, g6, g7, g8]))]) [0] (by decide) rfl
  have hKc := hK.sub (tys' := []) [] rfl
  have hFc := va_free (wc := [(m0, .inr (14, [g0, .ref lp, g2, g3, g4, g5, g6, g7, g8]))]) hD hS hA [0] rfl
  refine va_calli (va_runV (As := [.int 1, .int 1]) (rest := []) ⟨hx, hb, hml, hown, hts⟩ (c_X8_isThrown_1 l em dC dI m0 1 g0 (.ref lp) g2 g3 g4 g5 g6 g7 g8 H.size) (cwV 2 hts gX8_unweave_X8_isThrown rfl rfl rfl (by decide +kernel) ⟨Nat.le_of_ble_eq_true rfl, Nat.le_of_ble_eq_true rfl⟩) ⟨Pw.blind _ _ _ _ _ _ _, va_recv hKc hPc (ci := 14) (q0 := 0) rfl rfl, fun U hU hW => ⟨rfl, Pw.go hPc hKc hDc hamb hS hFc hU hW⟩⟩ rfl rfl hl.1 rfl (lv_room (Nat.le_of_ble_eq_true rfl)) dX8_unweave_9 ⟨Nat.le_of_ble_eq_true rfl, Nat.le_of_ble_eq_true rfl⟩) hS (fun q _ h => hFc q h) hFc (fun r_2 u t H1 locs1 ht hvm hw hB hz1 hk1 hS => ?_)
  obtain ⟨hP1, hK1, hD1⟩ := hB
  rw [ht] at hP1
  have hK1 := va_K.moved hvm.symm hK1
  obtain ⟨hP, hD⟩ := va_join (wr := [(lp, .inr (5, [.int 0, vlp, .int 0]))]) (w1 := [(m0, .inr (14, [g0, .ref lp, g2, g3, g4, g5, g6, g7, .int 1]))]) hP hD [0] [1] rfl rfl (by decide) (by decide) hk1 hFc hP1 hD1
  have hK := (hK.sub (tys' := []) [] rfl).app hK1
  generalize H1 = H at hP hS ⊢
  have hP : va_P (dC, dI) vwCl [(lp, .inr (5, [.int 0, vlp, .int 0])), (m0, .inr (14, [g0, .ref lp, g2, g3, g4, g5, g6, g7, .int 1]))] H := hP
  have hD : va_D A [(lp, .inr (5, [.int 0, vlp, .int 0])), (m0, .inr (14, [g0, .ref lp, g2, g3, g4, g5, g6, g7, .int 1]))] := hD
  have hK : va_K (dC, dI) vwCl [] s := hK
  refine W.widen (k := 0) (n := 0) (Nat.le_of_ble_eq_true rfl) (Nat.le_of_ble_eq_true rfl) ?_
  have hw : r_2 = 1 := hw
  rw [hw]
  refine lv_if_eq (tgt := 17) hx hb dX8_unweave_12 (by decide) (fun c_3 => ?_) (fun c_3 => ?_)
  · exact absurd c_3 (by decide)
  · refine lv_iconst (v := 0) hx hb dX8_unweave_15 (by decide) ?_
    refine W.widen (k := 0) (n := 0) (Nat.le_of_ble_eq_true rfl) (Nat.le_of_ble_eq_true rfl) ?_
    have hP9 := hP.sub (ws' := [(m0, .inr (14, [g0, .ref lp, g2, g3, g4, g5, g6, g7, .int 1]))]) [1] rfl
    have hD9 := hD.sub (ws' := [(m0, .inr (14, [g0, .ref lp, g2, g3, g4, g5, g6, g7, .int 1]))]) [1] (by decide) rfl
    have hK9 := hK.sub (tys' := []) [] rfl
    exact W.iret (v := 0) hx hb hr (fun t ht hW => ⟨⟨0, (), rfl, rfl, ⟨by rw [ht]; exact hP9, va_K.moved hW.alike hK9, hD9⟩⟩, hS.F ht⟩) hS.2.2 dX8_unweave_16

set_option maxHeartbeats 4000000 in
set_option maxRecDepth 100000 in
theorem c_X8_firstFault (l : Launch) (em : Nat → Nat) (dC : Nat → ClassId) (dI : Nat → Nat → Nat) (m0 : Nat) (g0 : Value) (g2 : Value) (g3 : Value) (g4 : Value) (g5 : Value) (g6 : Value) (g7 : Value) (g8 : Value) (lp : Nat) (vlp : Value) (sz : Nat) : Met l yX8_firstFault wsX8_firstFault ({ frames := 1, cells := 0, slots := 0, locals := 20 }) (va_Pc [.ref m0] (Pw em dC dI sz [(m0, .inr (14, [g0, .ref lp, g2, g3, g4, g5, g6, g7, g8])), (lp, .inr (5, [.int 0, vlp, .int 0]))] [])) (va_Qi (fun (r : Int32) (_ : Unit) => r = 0) (fun _ t => Qw dC dI (va_A [(m0, .inr (14, [g0, .ref lp, g2, g3, g4, g5, g6, g7, g8])), (lp, .inr (5, [.int 0, vlp, .int 0]))] sz) [(m0, .inr (14, [g0, .ref lp, g2, g3, g4, g5, g6, g7, .int 1]))] [] t) (va_A [(m0, .inr (14, [g0, .ref lp, g2, g3, g4, g5, g6, g7, g8])), (lp, .inr (5, [.int 0, vlp, .int 0]))] sz)) 0 0 (va_A [(m0, .inr (14, [g0, .ref lp, g2, g3, g4, g5, g6, g7, g8])), (lp, .inr (5, [.int 0, vlp, .int 0]))] sz) := by
  refine Met.ofW (cc := cX8_firstFault) (maxL := 3) (ret := (some .int)) (by decide) rfl ?_
  intro p e s m args below meth c s₁ B hml hv
  obtain ⟨rfl, hsz, hP, hK, hD0, hamb⟩ := hv
  have hx := B.exec
  have hb := B.bytes
  have hr := B.returns
  have hts := atoms_spec (ws := wsX8_firstFault) B.pre
  have hown : s.vm.findClass RX8 = some m.cls := findClass_of_methodNamed B.named
  have hlocks := B.notSynchronized
  subst hsz
  have hD := hD0.self (sz := s.heap.size)
  generalize hAe : va_A [(m0, .inr (14, [g0, .ref lp, g2, g3, g4, g5, g6, g7, g8])), (lp, .inr (5, [.int 0, vlp, .int 0]))] s.heap.size = A at hD hamb ⊢
  have hA : ∀ q : Nat, s.heap.size ≤ q → A q := fun q h => by rw [← hAe]; exact Or.inr h
  have hS : va_S A s.heap s.heap [] := va_S.rf
  have hP : va_P (dC, dI) vwCl [(m0, .inr (14, [g0, .ref lp, g2, g3, g4, g5, g6, g7, g8])), (lp, .inr (5, [.int 0, vlp, .int 0]))] s.heap := hP
  have hl := lv_entry ([.ref m0]) (n := 3) (Nat.le_of_ble_eq_true rfl)
  rw [lg_entry_eq]
  generalize (lg_sl ([.ref m0]) ++ List.replicate (3 - (lg_sl ([.ref m0])).length) Slot.unset).toArray = ls at hl ⊢
  have hl : lv_has ls 3 [(0, .ref m0)] := hl
  refine lv_iconst (v := 0) hx hb dX8_firstFault_0 (by decide) ?_
  refine lv_istore_n (lv' := [(1, .int 0), (0, .ref m0)]) hx hb dX8_firstFault_1 rfl hl (by decide) rfl (fun ls hl => ?_)
  refine lv_iload_n hx hb dX8_firstFault_2 rfl (lv_at hl 0 rfl) ?_
  refine lv_aload_n hx hb dX8_firstFault_3 rfl (lv_at hl 1 rfl) ?_
  refine va_get (D := (dC, dI)) (ci := 14) (v := .ref lp) (C := RX8) (T := TX8) (N := 9) hx hb hts (by decide +kernel) hown hK hP 0 rfl rfl 1 (by decide) (hts (.fieldLink RX8 16 "BothfacesModel" "picks" "Ljava/util/ArrayList;") (by decide +kernel)) (fun _ h9 => h9) rfl dX8_firstFault_4 ?_
  have hPc := hP.sub (ws' := [(lp, .inr (5, [.int 0, vlp, .int 0]))]) [1] rfl
  have hDc := hD.sub (ws' := [(lp, .inr (5, [.int 0, vlp, .int 0]))]) [1] (by decide) rfl
  have hKc := hK.sub (tys' := []) [] rfl
  have hFc := va_free (wc := [(lp, .inr (5, [.int 0, vlp, .int 0]))]) hD hS hA [1] rfl
  refine va_calli (va_runV (As := []) (rest := [.int 0]) ⟨hx, hb, hml, hown, hts⟩ (c_Jx4a65c_size_8abf5 l em dC dI lp (.int 0) vlp s.heap.size) (cwV 0 hts gX8_firstFault_Jx4a65c_size_8abf5 rfl rfl rfl (by decide +kernel) ⟨Nat.le_of_ble_eq_true rfl, Nat.le_of_ble_eq_true rfl⟩) ⟨Pw.blind _ _ _ _ _ _ _, va_recv hKc hPc (ci := 5) (q0 := 0) rfl rfl, fun U hU hW => ⟨rfl, Pw.go hPc hKc hDc hamb hS hFc hU hW⟩⟩ rfl rfl hl.1 rfl (lv_room (Nat.le_of_ble_eq_true rfl)) dX8_firstFault_7 ⟨Nat.le_of_ble_eq_true rfl, Nat.le_of_ble_eq_true rfl⟩) hS (fun q _ h => hFc q h) hFc (fun r_1 u t H1 locs1 ht hvm hw hB hz1 hk1 hS => ?_)
  obtain ⟨hP1, hK1, hD1⟩ := hB
  rw [ht] at hP1
  have hK1 := va_K.moved hvm.symm hK1
  obtain ⟨hP, hD⟩ := va_join (wr := [(m0, .inr (14, [g0, .ref lp, g2, g3, g4, g5, g6, g7, g8]))]) (w1 := [(lp, .inr (5, [.int 0, vlp, .int 0]))]) hP hD [1] [0] rfl rfl (by decide) (by decide) hk1 hFc hP1 hD1
  have hK := (hK.sub (tys' := []) [] rfl).app hK1
  generalize H1 = H at hP hS ⊢
  have hP : va_P (dC, dI) vwCl [(m0, .inr (14, [g0, .ref lp, g2, g3, g4, g5, g6, g7, g8])), (lp, .inr (5, [.int 0, vlp, .int 0]))] H := hP
  have hD : va_D A [(m0, .inr (14, [g0, .ref lp, g2, g3, g4, g5, g6, g7, g8])), (lp, .inr (5, [.int 0, vlp, .int 0]))] := hD
  have hK : va_K (dC, dI) vwCl [] s := hK
  refine W.widen (k := 0) (n := 0) (Nat.le_of_ble_eq_true rfl) (Nat.le_of_ble_eq_true rfl) ?_
  have hw : r_1 = 0 := hw
  rw [hw]
  refine lv_icmp_ge (tgt := 63) hx hb dX8_firstFault_10 (by decide) (fun c_2 => ?_) (fun c_2 => ?_)
  · refine lv_aload_n hx hb dX8_firstFault_63 rfl (lv_at hl 1 rfl) ?_
    refine lv_iconst (v := 1) hx hb dX8_firstFault_64 (by decide) ?_
    refine va_put (D := (dC, dI)) (ci := 14) (v := .int 1) (ty := .int) (C := RX8) (T := TX8) (N := 9) hx hb hts (by decide +kernel) tyX8 tyX8_ok nmX8 hown hK hP hD hS 0 rfl rfl 8 (by decide) (hts (.fieldLink RX8 46 "BothfacesModel" "thrown" "I") (by decide +kernel)) (fun _ h9 => h9) rfl (by decide +kernel) rfl rfl (Nat.le_of_ble_eq_true rfl) dX8_firstFault_65 (fun H locs hP hD hS => ?_)
    have hP : va_P (dC, dI) vwCl [(m0, .inr (14, [g0, .ref lp, g2, g3, g4, g5, g6, g7, .int 1])), (lp, .inr (5, [.int 0, vlp, .int 0]))] H := hP
    have hD : va_D A [(m0, .inr (14, [g0, .ref lp, g2, g3, g4, g5, g6, g7, .int 1])), (lp, .inr (5, [.int 0, vlp, .int 0]))] := hD
    refine lv_iconst (v := 0) hx hb dX8_firstFault_68 (by decide) ?_
    refine W.widen (k := 0) (n := 0) (Nat.le_of_ble_eq_true rfl) (Nat.le_of_ble_eq_true rfl) ?_
    have hP9 := hP.sub (ws' := [(m0, .inr (14, [g0, .ref lp, g2, g3, g4, g5, g6, g7, .int 1]))]) [0] rfl
    have hD9 := hD.sub (ws' := [(m0, .inr (14, [g0, .ref lp, g2, g3, g4, g5, g6, g7, .int 1]))]) [0] (by decide) rfl
    have hK9 := hK.sub (tys' := []) [] rfl
    exact W.iret (v := 0) hx hb hr (fun t ht hW => ⟨⟨0, (), rfl, rfl, ⟨by rw [ht]; exact hP9, va_K.moved hW.alike hK9, hD9⟩⟩, hS.F ht⟩) hS.2.2 dX8_firstFault_69
  · exact absurd (by decide) c_2

set_option maxHeartbeats 4000000 in
set_option maxRecDepth 100000 in
theorem c_X8_suspect (l : Launch) (em : Nat → Nat) (dC : Nat → ClassId) (dI : Nat → Nat → Nat) (m0 : Nat) (g1 : Value) (g2 : Value) (g3 : Value) (g4 : Value) (g5 : Value) (g6 : Value) (g7 : Value) (g8 : Value) (lc : Nat) (vlc : Value) (sz : Nat) : Met l yX8_suspect wsX8_suspect ({ frames := 1, cells := 0, slots := 0, locals := 22 }) (va_Pc [.ref m0] (Pw em dC dI sz [(m0, .inr (14, [.ref lc, g1, g2, g3, g4, g5, g6, g7, g8])), (lc, .inr (5, [.int 0, vlc, .int 0]))] [])) (va_Qi (fun (r : Int32) (_ : Unit) => r = 0) (fun _ t => Qw dC dI (va_A [(m0, .inr (14, [.ref lc, g1, g2, g3, g4, g5, g6, g7, g8])), (lc, .inr (5, [.int 0, vlc, .int 0]))] sz) [(m0, .inr (14, [.ref lc, g1, g2, g3, g4, g5, g6, g7, .int 1]))] [] t) (va_A [(m0, .inr (14, [.ref lc, g1, g2, g3, g4, g5, g6, g7, g8])), (lc, .inr (5, [.int 0, vlc, .int 0]))] sz)) 0 0 (va_A [(m0, .inr (14, [.ref lc, g1, g2, g3, g4, g5, g6, g7, g8])), (lc, .inr (5, [.int 0, vlc, .int 0]))] sz) := by
  refine Met.ofW (cc := cX8_suspect) (maxL := 4) (ret := (some .int)) (by decide) rfl ?_
  intro p e s m args below meth c s₁ B hml hv
  obtain ⟨rfl, hsz, hP, hK, hD0, hamb⟩ := hv
  have hx := B.exec
  have hb := B.bytes
  have hr := B.returns
  have hts := atoms_spec (ws := wsX8_suspect) B.pre
  have hown : s.vm.findClass RX8 = some m.cls := findClass_of_methodNamed B.named
  have hlocks := B.notSynchronized
  subst hsz
  have hD := hD0.self (sz := s.heap.size)
  generalize hAe : va_A [(m0, .inr (14, [.ref lc, g1, g2, g3, g4, g5, g6, g7, g8])), (lc, .inr (5, [.int 0, vlc, .int 0]))] s.heap.size = A at hD hamb ⊢
  have hA : ∀ q : Nat, s.heap.size ≤ q → A q := fun q h => by rw [← hAe]; exact Or.inr h
  have hS : va_S A s.heap s.heap [] := va_S.rf
  have hP : va_P (dC, dI) vwCl [(m0, .inr (14, [.ref lc, g1, g2, g3, g4, g5, g6, g7, g8])), (lc, .inr (5, [.int 0, vlc, .int 0]))] s.heap := hP
  have hl := lv_entry ([.ref m0]) (n := 4) (Nat.le_of_ble_eq_true rfl)
  rw [lg_entry_eq]
  generalize (lg_sl ([.ref m0]) ++ List.replicate (4 - (lg_sl ([.ref m0])).length) Slot.unset).toArray = ls at hl ⊢
  have hl : lv_has ls 4 [(0, .ref m0)] := hl
  refine lv_iconst (v := 0) hx hb dX8_suspect_0 (by decide) ?_
  refine lv_istore_n (lv' := [(1, .int 0), (0, .ref m0)]) hx hb dX8_suspect_1 rfl hl (by decide) rfl (fun ls hl => ?_)
  refine lv_iconst (v := 0) hx hb dX8_suspect_2 (by decide) ?_
  refine lv_istore_n (lv' := [(2, .int 0), (1, .int 0), (0, .ref m0)]) hx hb dX8_suspect_3 rfl hl (by decide) rfl (fun ls hl => ?_)
  refine lv_iconst (v := 0) hx hb dX8_suspect_4 (by decide) ?_
  refine lv_istore_n (lv' := [(3, .int 0), (2, .int 0), (1, .int 0), (0, .ref m0)]) hx hb dX8_suspect_5 rfl hl (by decide) rfl (fun ls hl => ?_)
  refine lv_iload_n hx hb dX8_suspect_6 rfl (lv_at hl 0 rfl) ?_
  refine lv_aload_n hx hb dX8_suspect_7 rfl (lv_at hl 3 rfl) ?_
  refine va_get (D := (dC, dI)) (ci := 14) (v := .ref lc) (C := RX8) (T := TX8) (N := 9) hx hb hts (by decide +kernel) hown hK hP 0 rfl rfl 0 (by decide) (hts (.fieldLink RX8 10 "BothfacesModel" "cards" "Ljava/util/ArrayList;") (by decide +kernel)) (fun _ h9 => h9) rfl dX8_suspect_8 ?_
  have hPc := hP.sub (ws' := [(lc, .inr (5, [.int 0, vlc, .int 0]))]) [1] rfl
  have hDc := hD.sub (ws' := [(lc, .inr (5, [.int 0, vlc, .int 0]))]) [1] (by decide) rfl
  have hKc := hK.sub (tys' := []) [] rfl
  have hFc := va_free (wc := [(lc, .inr (5, [.int 0, vlc, .int 0]))]) hD hS hA [1] rfl
  refine va_calli (va_runV (As := []) (rest := [.int 0]) ⟨hx, hb, hml, hown, hts⟩ (c_Jx4a65c_size_8abf5 l em dC dI lc (.int 0) vlc s.heap.size) (cwV 0 hts gX8_suspect_Jx4a65c_size_8abf5 rfl rfl rfl (by decide +kernel) ⟨Nat.le_of_ble_eq_true rfl, Nat.le_of_ble_eq_true rfl⟩) ⟨Pw.blind _ _ _ _ _ _ _, va_recv hKc hPc (ci := 5) (q0 := 0) rfl rfl, fun U hU hW => ⟨rfl, Pw.go hPc hKc hDc hamb hS hFc hU hW⟩⟩ rfl rfl hl.1 rfl (lv_room (Nat.le_of_ble_eq_true rfl)) dX8_suspect_11 ⟨Nat.le_of_ble_eq_true rfl, Nat.le_of_ble_eq_true rfl⟩) hS (fun q _ h => hFc q h) hFc (fun r_1 u t H1 locs1 ht hvm hw hB hz1 hk1 hS => ?_)
  obtain ⟨hP1, hK1, hD1⟩ := hB
  rw [ht] at hP1
  have hK1 := va_K.moved hvm.symm hK1
  obtain ⟨hP, hD⟩ := va_join (wr := [(m0, .inr (14, [.ref lc, g1, g2, g3, g4, g5, g6, g7, g8]))]) (w1 := [(lc, .inr (5, [.int 0, vlc, .int 0]))]) hP hD [1] [0] rfl rfl (by decide) (by decide) hk1 hFc hP1 hD1
  have hK := (hK.sub (tys' := []) [] rfl).app hK1
  generalize H1 = H at hP hS ⊢
  have hP : va_P (dC, dI) vwCl [(m0, .inr (14, [.ref lc, g1, g2, g3, g4, g5, g6, g7, g8])), (lc, .inr (5, [.int 0, vlc, .int 0]))] H := hP
  have hD : va_D A [(m0, .inr (14, [.ref lc, g1, g2, g3, g4, g5, g6, g7, g8])), (lc, .inr (5, [.int 0, vlc, .int 0]))] := hD
  have hK : va_K (dC, dI) vwCl [] s := hK
  refine W.widen (k := 0) (n := 0) (Nat.le_of_ble_eq_true rfl) (Nat.le_of_ble_eq_true rfl) ?_
  have hw : r_1 = 0 := hw
  rw [hw]
  refine lv_icmp_ge (tgt := 48) hx hb dX8_suspect_14 (by decide) (fun c_2 => ?_) (fun c_2 => ?_)
  · refine lv_aload_n hx hb dX8_suspect_48 rfl (lv_at hl 3 rfl) ?_
    refine lv_iload_n hx hb dX8_suspect_49 rfl (lv_at hl 1 rfl) ?_
    refine lv_if_ne (tgt := 57) hx hb dX8_suspect_50 (by decide) (fun c_3 => ?_) (fun c_3 => ?_)
    · exact absurd (by decide) c_3
    · refine lv_iconst (v := 1) hx hb dX8_suspect_53 (by decide) ?_
      refine lv_goto (tgt := 58) hx hb dX8_suspect_54 (by decide) ?_
      refine lv_iconst (v := 1) hx hb dX8_suspect_58 (by decide) ?_
      have hPc := hP.sub (ws' := [(m0, .inr (14, [.ref lc, g1, g2, g3, g4, g5, g6, g7, g8]))]) [0] rfl
      have hDc := hD.sub (ws' := [(m0, .inr (14, [.ref lc, g1, g2, g3, g4, g5, g6, g7, g8]))]) [0] (by decide) rfl
      have hKc := hK.sub (tys' := []) [] rfl
      have hFc := va_free (wc := [(m0, .inr (14, [.ref lc, g1, g2, g3, g4, g5, g6, g7, g8]))]) hD hS hA [0] rfl
      refine va_calli (va_runV (As := [.int 1, .int 1]) (rest := []) ⟨hx, hb, hml, hown, hts⟩ (c_X8_isThrown_1 l em dC dI m0 1 (.ref lc) g1 g2 g3 g4 g5 g6 g7 g8 H.size) (cwV 2 hts gX8_suspect_X8_isThrown rfl rfl rfl (by decide +kernel) ⟨Nat.le_of_ble_eq_true rfl, Nat.le_of_ble_eq_true rfl⟩) ⟨Pw.blind _ _ _ _ _ _ _, va_recv hKc hPc (ci := 14) (q0 := 0) rfl rfl, fun U hU hW => ⟨rfl, Pw.go hPc hKc hDc hamb hS hFc hU hW⟩⟩ rfl rfl hl.1 rfl (lv_room (Nat.le_of_ble_eq_true rfl)) dX8_suspect_59 ⟨Nat.le_of_ble_eq_true rfl, Nat.le_of_ble_eq_true rfl⟩) hS (fun q _ h => hFc q h) hFc (fun r_4 u t H1 locs1 ht hvm hw hB hz1 hk1 hS => ?_)
      obtain ⟨hP1, hK1, hD1⟩ := hB
      rw [ht] at hP1
      have hK1 := va_K.moved hvm.symm hK1
      obtain ⟨hP, hD⟩ := va_join (wr := [(lc, .inr (5, [.int 0, vlc, .int 0]))]) (w1 := [(m0, .inr (14, [.ref lc, g1, g2, g3, g4, g5, g6, g7, .int 1]))]) hP hD [0] [1] rfl rfl (by decide) (by decide) hk1 hFc hP1 hD1
      have hK := (hK.sub (tys' := []) [] rfl).app hK1
      generalize H1 = H at hP hS ⊢
      have hP : va_P (dC, dI) vwCl [(lc, .inr (5, [.int 0, vlc, .int 0])), (m0, .inr (14, [.ref lc, g1, g2, g3, g4, g5, g6, g7, .int 1]))] H := hP
      have hD : va_D A [(lc, .inr (5, [.int 0, vlc, .int 0])), (m0, .inr (14, [.ref lc, g1, g2, g3, g4, g5, g6, g7, .int 1]))] := hD
      have hK : va_K (dC, dI) vwCl [] s := hK
      refine W.widen (k := 0) (n := 0) (Nat.le_of_ble_eq_true rfl) (Nat.le_of_ble_eq_true rfl) ?_
      have hw : r_4 = 1 := hw
      rw [hw]
      refine lv_if_eq (tgt := 69) hx hb dX8_suspect_62 (by decide) (fun c_5 => ?_) (fun c_5 => ?_)
      · exact absurd c_5 (by decide)
      · refine lv_iconst (v := 0) hx hb dX8_suspect_65 (by decide) ?_
        refine lv_goto (tgt := 70) hx hb dX8_suspect_66 (by decide) ?_
        refine W.widen (k := 0) (n := 0) (Nat.le_of_ble_eq_true rfl) (Nat.le_of_ble_eq_true rfl) ?_
        have hP9 := hP.sub (ws' := [(m0, .inr (14, [.ref lc, g1, g2, g3, g4, g5, g6, g7, .int 1]))]) [1] rfl
        have hD9 := hD.sub (ws' := [(m0, .inr (14, [.ref lc, g1, g2, g3, g4, g5, g6, g7, .int 1]))]) [1] (by decide) rfl
        have hK9 := hK.sub (tys' := []) [] rfl
        exact W.iret (v := 0) hx hb hr (fun t ht hW => ⟨⟨0, (), rfl, rfl, ⟨by rw [ht]; exact hP9, va_K.moved hW.alike hK9, hD9⟩⟩, hS.F ht⟩) hS.2.2 dX8_suspect_70
  · exact absurd (by decide) c_2

set_option maxHeartbeats 4000000 in
set_option maxRecDepth 100000 in
theorem c_X8_readyOn (l : Launch) (em : Nat → Nat) (dC : Nat → ClassId) (dI : Nat → Nat → Nat) (m0 : Nat) (p0 : Int32) (g0 : Value) (g1 : Value) (g2 : Value) (g3 : Value) (g4 : Value) (g5 : Value) (g7 : Value) (g8 : Value) (lo : Nat) (vlo : Value) (sz : Nat) : Met l yX8_readyOn wsX8_readyOn ({ frames := 1, cells := 0, slots := 0, locals := 22 }) (va_Pc [.ref m0, .int p0] (Pw em dC dI sz [(m0, .inr (14, [g0, g1, g2, g3, g4, g5, .ref lo, g7, g8])), (lo, .inr (5, [.int 0, vlo, .int 0]))] [])) (va_Qi (fun (r : Int32) (_ : Unit) => r = 0) (fun _ t => Qw dC dI (va_A [(m0, .inr (14, [g0, g1, g2, g3, g4, g5, .ref lo, g7, g8])), (lo, .inr (5, [.int 0, vlo, .int 0]))] sz) [(m0, .inr (14, [g0, g1, g2, g3, g4, g5, .ref lo, g7, .int 1]))] [] t) (va_A [(m0, .inr (14, [g0, g1, g2, g3, g4, g5, .ref lo, g7, g8])), (lo, .inr (5, [.int 0, vlo, .int 0]))] sz)) 0 0 (va_A [(m0, .inr (14, [g0, g1, g2, g3, g4, g5, .ref lo, g7, g8])), (lo, .inr (5, [.int 0, vlo, .int 0]))] sz) := by
  refine Met.ofW (cc := cX8_readyOn) (maxL := 2) (ret := (some .int)) (by decide) rfl ?_
  intro p e s m args below meth c s₁ B hml hv
  obtain ⟨rfl, hsz, hP, hK, hD0, hamb⟩ := hv
  have hx := B.exec
  have hb := B.bytes
  have hr := B.returns
  have hts := atoms_spec (ws := wsX8_readyOn) B.pre
  have hown : s.vm.findClass RX8 = some m.cls := findClass_of_methodNamed B.named
  have hlocks := B.notSynchronized
  subst hsz
  have hD := hD0.self (sz := s.heap.size)
  generalize hAe : va_A [(m0, .inr (14, [g0, g1, g2, g3, g4, g5, .ref lo, g7, g8])), (lo, .inr (5, [.int 0, vlo, .int 0]))] s.heap.size = A at hD hamb ⊢
  have hA : ∀ q : Nat, s.heap.size ≤ q → A q := fun q h => by rw [← hAe]; exact Or.inr h
  have hS : va_S A s.heap s.heap [] := va_S.rf
  have hP : va_P (dC, dI) vwCl [(m0, .inr (14, [g0, g1, g2, g3, g4, g5, .ref lo, g7, g8])), (lo, .inr (5, [.int 0, vlo, .int 0]))] s.heap := hP
  have hl := lv_entry ([.ref m0, .int p0]) (n := 2) (Nat.le_of_ble_eq_true rfl)
  rw [lg_entry_eq]
  generalize (lg_sl ([.ref m0, .int p0]) ++ List.replicate (2 - (lg_sl ([.ref m0, .int p0])).length) Slot.unset).toArray = ls at hl ⊢
  have hl : lv_has ls 2 [(0, .ref m0), (1, .int p0)] := hl
  refine lv_aload_n hx hb dX8_readyOn_0 rfl (lv_at hl 0 rfl) ?_
  refine lv_iload_n hx hb dX8_readyOn_1 rfl (lv_at hl 1 rfl) ?_
  refine lv_iconst (v := 0) hx hb dX8_readyOn_2 (by decide) ?_
  refine lv_aload_n hx hb dX8_readyOn_3 rfl (lv_at hl 0 rfl) ?_
  refine va_get (D := (dC, dI)) (ci := 14) (v := .ref lo) (C := RX8) (T := TX8) (N := 9) hx hb hts (by decide +kernel) hown hK hP 0 rfl rfl 6 (by decide) (hts (.fieldLink RX8 37 "BothfacesModel" "orders" "Ljava/util/ArrayList;") (by decide +kernel)) (fun _ h9 => h9) rfl dX8_readyOn_4 ?_
  have hPc := hP.sub (ws' := [(lo, .inr (5, [.int 0, vlo, .int 0]))]) [1] rfl
  have hDc := hD.sub (ws' := [(lo, .inr (5, [.int 0, vlo, .int 0]))]) [1] (by decide) rfl
  have hKc := hK.sub (tys' := []) [] rfl
  have hFc := va_free (wc := [(lo, .inr (5, [.int 0, vlo, .int 0]))]) hD hS hA [1] rfl
  refine va_calli (va_runV (As := []) (rest := [.int 0, .int p0, .ref m0]) ⟨hx, hb, hml, hown, hts⟩ (c_Jx4a65c_size_8abf5 l em dC dI lo (.int 0) vlo s.heap.size) (cwV 0 hts gX8_readyOn_Jx4a65c_size_8abf5 rfl rfl rfl (by decide +kernel) ⟨Nat.le_of_ble_eq_true rfl, Nat.le_of_ble_eq_true rfl⟩) ⟨Pw.blind _ _ _ _ _ _ _, va_recv hKc hPc (ci := 5) (q0 := 0) rfl rfl, fun U hU hW => ⟨rfl, Pw.go hPc hKc hDc hamb hS hFc hU hW⟩⟩ rfl rfl hl.1 rfl (lv_room (Nat.le_of_ble_eq_true rfl)) dX8_readyOn_7 ⟨Nat.le_of_ble_eq_true rfl, Nat.le_of_ble_eq_true rfl⟩) hS (fun q _ h => hFc q h) hFc (fun r_1 u t H1 locs1 ht hvm hw hB hz1 hk1 hS => ?_)
  obtain ⟨hP1, hK1, hD1⟩ := hB
  rw [ht] at hP1
  have hK1 := va_K.moved hvm.symm hK1
  obtain ⟨hP, hD⟩ := va_join (wr := [(m0, .inr (14, [g0, g1, g2, g3, g4, g5, .ref lo, g7, g8]))]) (w1 := [(lo, .inr (5, [.int 0, vlo, .int 0]))]) hP hD [1] [0] rfl rfl (by decide) (by decide) hk1 hFc hP1 hD1
  have hK := (hK.sub (tys' := []) [] rfl).app hK1
  generalize H1 = H at hP hS ⊢
  have hP : va_P (dC, dI) vwCl [(m0, .inr (14, [g0, g1, g2, g3, g4, g5, .ref lo, g7, g8])), (lo, .inr (5, [.int 0, vlo, .int 0]))] H := hP
  have hD : va_D A [(m0, .inr (14, [g0, g1, g2, g3, g4, g5, .ref lo, g7, g8])), (lo, .inr (5, [.int 0, vlo, .int 0]))] := hD
  have hK : va_K (dC, dI) vwCl [] s := hK
  refine W.widen (k := 0) (n := 0) (Nat.le_of_ble_eq_true rfl) (Nat.le_of_ble_eq_true rfl) ?_
  have hw : r_1 = 0 := hw
  rw [hw]
  refine lv_iconst (v := 1) hx hb dX8_readyOn_10 (by decide) ?_
  refine lv_isub hx hb dX8_readyOn_11 ?_
  refine lv_topi (fun k_2 ek_2 => ?_)
  obtain rfl : k_2 = (-1) := ek_2.trans (by decide)
  have hPc := hP.sub (ws' := []) [] rfl
  have hDc := hD.sub (ws' := []) [] (by decide) rfl
  have hKc := hK.sub (tys' := []) [] rfl
  have hFc := va_free (wc := []) hD hS hA [] rfl
  refine va_calli (va_runS (As := [.int p0, .int 0, .int (-1)]) (rest := [.ref m0]) ⟨hx, hb, hml, hown, hts⟩ (c_X8_isIn_none l em dC dI p0 H.size) (va_cwS 3 hts gX8_readyOn_X8_isIn rfl rfl rfl (by decide +kernel) ⟨Nat.le_of_ble_eq_true rfl, Nat.le_of_ble_eq_true rfl⟩) ⟨Pw.blind _ _ _ _ _ _ _, fun U hU hW => ⟨rfl, Pw.go hPc hKc hDc hamb hS hFc hU hW⟩⟩ rfl rfl hl.1 rfl (lv_room (Nat.le_of_ble_eq_true rfl)) dX8_readyOn_12 ⟨Nat.le_of_ble_eq_true rfl, Nat.le_of_ble_eq_true rfl⟩) hS (fun q _ h => hFc q h) hFc (fun r_3 u t H1 locs1 ht hvm hw hB hz1 hk1 hS => ?_)
  obtain ⟨hP, hD⟩ := va_rest (wr := [(m0, .inr (14, [g0, g1, g2, g3, g4, g5, .ref lo, g7, g8])), (lo, .inr (5, [.int 0, vlo, .int 0]))]) hP hD [] [0, 1] rfl rfl (by decide) (by decide) hk1 hFc
  generalize H1 = H at hP hS ⊢
  refine W.widen (k := 0) (n := 0) (Nat.le_of_ble_eq_true rfl) (Nat.le_of_ble_eq_true rfl) ?_
  have hw : r_3 = 0 := hw
  rw [hw]
  refine lv_if_ne (tgt := 22) hx hb dX8_readyOn_15 (by decide) (fun c_4 => ?_) (fun c_4 => ?_)
  · exact absurd (by decide) c_4
  · refine lv_iconst (v := 1) hx hb dX8_readyOn_18 (by decide) ?_
    refine lv_goto (tgt := 23) hx hb dX8_readyOn_19 (by decide) ?_
    refine lv_iconst (v := 1) hx hb dX8_readyOn_23 (by decide) ?_
    have hPc := hP.sub (ws' := [(m0, .inr (14, [g0, g1, g2, g3, g4, g5, .ref lo, g7, g8]))]) [0] rfl
    have hDc := hD.sub (ws' := [(m0, .inr (14, [g0, g1, g2, g3, g4, g5, .ref lo, g7, g8]))]) [0] (by decide) rfl
    have hKc := hK.sub (tys' := []) [] rfl
    have hFc := va_free (wc := [(m0, .inr (14, [g0, g1, g2, g3, g4, g5, .ref lo, g7, g8]))]) hD hS hA [0] rfl
    refine va_calli (va_runV (As := [.int 1, .int 1]) (rest := []) ⟨hx, hb, hml, hown, hts⟩ (c_X8_isThrown_1 l em dC dI m0 1 g0 g1 g2 g3 g4 g5 (.ref lo) g7 g8 H.size) (cwV 2 hts gX8_readyOn_X8_isThrown rfl rfl rfl (by decide +kernel) ⟨Nat.le_of_ble_eq_true rfl, Nat.le_of_ble_eq_true rfl⟩) ⟨Pw.blind _ _ _ _ _ _ _, va_recv hKc hPc (ci := 14) (q0 := 0) rfl rfl, fun U hU hW => ⟨rfl, Pw.go hPc hKc hDc hamb hS hFc hU hW⟩⟩ rfl rfl hl.1 rfl (lv_room (Nat.le_of_ble_eq_true rfl)) dX8_readyOn_24 ⟨Nat.le_of_ble_eq_true rfl, Nat.le_of_ble_eq_true rfl⟩) hS (fun q _ h => hFc q h) hFc (fun r_5 u t H1 locs1 ht hvm hw hB hz1 hk1 hS => ?_)
    obtain ⟨hP1, hK1, hD1⟩ := hB
    rw [ht] at hP1
    have hK1 := va_K.moved hvm.symm hK1
    obtain ⟨hP, hD⟩ := va_join (wr := [(lo, .inr (5, [.int 0, vlo, .int 0]))]) (w1 := [(m0, .inr (14, [g0, g1, g2, g3, g4, g5, .ref lo, g7, .int 1]))]) hP hD [0] [1] rfl rfl (by decide) (by decide) hk1 hFc hP1 hD1
    have hK := (hK.sub (tys' := []) [] rfl).app hK1
    generalize H1 = H at hP hS ⊢
    have hP : va_P (dC, dI) vwCl [(lo, .inr (5, [.int 0, vlo, .int 0])), (m0, .inr (14, [g0, g1, g2, g3, g4, g5, .ref lo, g7, .int 1]))] H := hP
    have hD : va_D A [(lo, .inr (5, [.int 0, vlo, .int 0])), (m0, .inr (14, [g0, g1, g2, g3, g4, g5, .ref lo, g7, .int 1]))] := hD
    have hK : va_K (dC, dI) vwCl [] s := hK
    refine W.widen (k := 0) (n := 0) (Nat.le_of_ble_eq_true rfl) (Nat.le_of_ble_eq_true rfl) ?_
    have hw : r_5 = 1 := hw
    rw [hw]
    refine lv_if_eq (tgt := 34) hx hb dX8_readyOn_27 (by decide) (fun c_6 => ?_) (fun c_6 => ?_)
    · exact absurd c_6 (by decide)
    · refine lv_iconst (v := 0) hx hb dX8_readyOn_30 (by decide) ?_
      refine lv_goto (tgt := 39) hx hb dX8_readyOn_31 (by decide) ?_
      refine W.widen (k := 0) (n := 0) (Nat.le_of_ble_eq_true rfl) (Nat.le_of_ble_eq_true rfl) ?_
      have hP9 := hP.sub (ws' := [(m0, .inr (14, [g0, g1, g2, g3, g4, g5, .ref lo, g7, .int 1]))]) [1] rfl
      have hD9 := hD.sub (ws' := [(m0, .inr (14, [g0, g1, g2, g3, g4, g5, .ref lo, g7, .int 1]))]) [1] (by decide) rfl
      have hK9 := hK.sub (tys' := []) [] rfl
      exact W.iret (v := 0) hx hb hr (fun t ht hW => ⟨⟨0, (), rfl, rfl, ⟨by rw [ht]; exact hP9, va_K.moved hW.alike hK9, hD9⟩⟩, hS.F ht⟩) hS.2.2 dX8_readyOn_39

set_option maxHeartbeats 4000000 in
set_option maxRecDepth 100000 in
theorem c_X8_hand (l : Launch) (em : Nat → Nat) (dC : Nat → ClassId) (dI : Nat → Nat → Nat) (m0 : Nat) (g2 : Value) (g3 : Value) (g4 : Value) (g6 : Value) (g7 : Value) (g8 : Value) (lc : Nat) (vlc : Value) (lp : Nat) (vlp : Value) (lw : Nat) (vlw : Value) (sz : Nat) : Met l yX8_hand wsX8_hand ({ frames := 2, cells := 0, slots := 0, locals := 44 }) (va_Pc [.ref m0] (Pw em dC dI sz [(m0, .inr (14, [.ref lc, .ref lp, g2, g3, g4, .ref lw, g6, g7, g8])), (lc, .inr (5, [.int 0, vlc, .int 0])), (lp, .inr (5, [.int 0, vlp, .int 0])), (lw, .inr (5, [.int 0, vlw, .int 0]))] [])) (va_Qi (fun (r : Int32) (_ : Unit) => r = 0) (fun _ t => Qw dC dI (va_A [(m0, .inr (14, [.ref lc, .ref lp, g2, g3, g4, .ref lw, g6, g7, g8])), (lc, .inr (5, [.int 0, vlc, .int 0])), (lp, .inr (5, [.int 0, vlp, .int 0])), (lw, .inr (5, [.int 0, vlw, .int 0]))] sz) [(m0, .inr (14, [.ref lc, .ref lp, g2, g3, g4, .ref lw, g6, g7, .int 1]))] [] t) (va_A [(m0, .inr (14, [.ref lc, .ref lp, g2, g3, g4, .ref lw, g6, g7, g8])), (lc, .inr (5, [.int 0, vlc, .int 0])), (lp, .inr (5, [.int 0, vlp, .int 0])), (lw, .inr (5, [.int 0, vlw, .int 0]))] sz)) 0 0 (va_A [(m0, .inr (14, [.ref lc, .ref lp, g2, g3, g4, .ref lw, g6, g7, g8])), (lc, .inr (5, [.int 0, vlc, .int 0])), (lp, .inr (5, [.int 0, vlp, .int 0])), (lw, .inr (5, [.int 0, vlw, .int 0]))] sz) := by
  refine Met.ofW (cc := cX8_hand) (maxL := 7) (ret := (some .int)) (by decide) rfl ?_
  intro p e s m args below meth c s₁ B hml hv
  obtain ⟨rfl, hsz, hP, hK, hD0, hamb⟩ := hv
  have hx := B.exec
  have hb := B.bytes
  have hr := B.returns
  have hts := atoms_spec (ws := wsX8_hand) B.pre
  have hown : s.vm.findClass RX8 = some m.cls := findClass_of_methodNamed B.named
  have hlocks := B.notSynchronized
  subst hsz
  have hD := hD0.self (sz := s.heap.size)
  generalize hAe : va_A [(m0, .inr (14, [.ref lc, .ref lp, g2, g3, g4, .ref lw, g6, g7, g8])), (lc, .inr (5, [.int 0, vlc, .int 0])), (lp, .inr (5, [.int 0, vlp, .int 0])), (lw, .inr (5, [.int 0, vlw, .int 0]))] s.heap.size = A at hD hamb ⊢
  have hA : ∀ q : Nat, s.heap.size ≤ q → A q := fun q h => by rw [← hAe]; exact Or.inr h
  have hS : va_S A s.heap s.heap [] := va_S.rf
  have hP : va_P (dC, dI) vwCl [(m0, .inr (14, [.ref lc, .ref lp, g2, g3, g4, .ref lw, g6, g7, g8])), (lc, .inr (5, [.int 0, vlc, .int 0])), (lp, .inr (5, [.int 0, vlp, .int 0])), (lw, .inr (5, [.int 0, vlw, .int 0]))] s.heap := hP
  have hl := lv_entry ([.ref m0]) (n := 7) (Nat.le_of_ble_eq_true rfl)
  rw [lg_entry_eq]
  generalize (lg_sl ([.ref m0]) ++ List.replicate (7 - (lg_sl ([.ref m0])).length) Slot.unset).toArray = ls at hl ⊢
  have hl : lv_has ls 7 [(0, .ref m0)] := hl
  refine lv_bipush (v := 100) hx hb dX8_hand_0 (by decide) ?_
  refine lv_aload_n hx hb dX8_hand_2 rfl (lv_at hl 0 rfl) ?_
  refine lv_iconst (v := 0) hx hb dX8_hand_3 (by decide) ?_
  have hPc := hP.sub (ws' := [(m0, .inr (14, [.ref lc, .ref lp, g2, g3, g4, .ref lw, g6, g7, g8])), (lc, .inr (5, [.int 0, vlc, .int 0])), (lp, .inr (5, [.int 0, vlp, .int 0]))]) [0, 1, 2] rfl
  have hDc := hD.sub (ws' := [(m0, .inr (14, [.ref lc, .ref lp, g2, g3, g4, .ref lw, g6, g7, g8])), (lc, .inr (5, [.int 0, vlc, .int 0])), (lp, .inr (5, [.int 0, vlp, .int 0]))]) [0, 1, 2] (by decide) rfl
  have hKc := hK.sub (tys' := []) [] rfl
  have hFc := va_free (wc := [(m0, .inr (14, [.ref lc, .ref lp, g2, g3, g4, .ref lw, g6, g7, g8])), (lc, .inr (5, [.int 0, vlc, .int 0])), (lp, .inr (5, [.int 0, vlp, .int 0]))]) hD hS hA [0, 1, 2] rfl
  refine va_calli (va_runV (As := [.int 0]) (rest := [.int 100]) ⟨hx, hb, hml, hown, hts⟩ (c_X8_faultsOn l em dC dI m0 0 g2 g3 g4 (.ref lw) g6 g7 g8 lc vlc lp vlp s.heap.size) (cwV 1 hts gX8_hand_X8_faultsOn rfl rfl rfl (by decide +kernel) ⟨Nat.le_of_ble_eq_true rfl, Nat.le_of_ble_eq_true rfl⟩) ⟨Pw.blind _ _ _ _ _ _ _, va_recv hKc hPc (ci := 14) (q0 := 0) rfl rfl, fun U hU hW => ⟨rfl, Pw.go hPc hKc hDc hamb hS hFc hU hW⟩⟩ rfl rfl hl.1 rfl (lv_room (Nat.le_of_ble_eq_true rfl)) dX8_hand_4 ⟨Nat.le_of_ble_eq_true rfl, Nat.le_of_ble_eq_true rfl⟩) hS (fun q _ h => hFc q h) hFc (fun r_1 u t H1 locs1 ht hvm hw hB hz1 hk1 hS => ?_)
  obtain ⟨hP1, hK1, hD1⟩ := hB
  rw [ht] at hP1
  have hK1 := va_K.moved hvm.symm hK1
  obtain ⟨hP, hD⟩ := va_join (wr := [(lw, .inr (5, [.int 0, vlw, .int 0]))]) (w1 := [(m0, .inr (14, [.ref lc, .ref lp, g2, g3, g4, .ref lw, g6, g7, g8])), (lc, .inr (5, [.int 0, vlc, .int 0])), (lp, .inr (5, [.int 0, vlp, .int 0]))]) hP hD [0, 1, 2] [3] rfl rfl (by decide) (by decide) hk1 hFc hP1 hD1
  have hK := (hK.sub (tys' := []) [] rfl).app hK1
  generalize H1 = H at hP hS ⊢
  have hP : va_P (dC, dI) vwCl [(lw, .inr (5, [.int 0, vlw, .int 0])), (m0, .inr (14, [.ref lc, .ref lp, g2, g3, g4, .ref lw, g6, g7, g8])), (lc, .inr (5, [.int 0, vlc, .int 0])), (lp, .inr (5, [.int 0, vlp, .int 0]))] H := hP
  have hD : va_D A [(lw, .inr (5, [.int 0, vlw, .int 0])), (m0, .inr (14, [.ref lc, .ref lp, g2, g3, g4, .ref lw, g6, g7, g8])), (lc, .inr (5, [.int 0, vlc, .int 0])), (lp, .inr (5, [.int 0, vlp, .int 0]))] := hD
  have hK : va_K (dC, dI) vwCl [] s := hK
  refine W.widen (k := 0) (n := 0) (Nat.le_of_ble_eq_true rfl) (Nat.le_of_ble_eq_true rfl) ?_
  have hw : r_1 = 0 := hw
  rw [hw]
  refine lv_aload_n hx hb dX8_hand_7 rfl (lv_at hl 0 rfl) ?_
  refine lv_iconst (v := 1) hx hb dX8_hand_8 (by decide) ?_
  have hPc := hP.sub (ws' := [(m0, .inr (14, [.ref lc, .ref lp, g2, g3, g4, .ref lw, g6, g7, g8])), (lc, .inr (5, [.int 0, vlc, .int 0])), (lp, .inr (5, [.int 0, vlp, .int 0]))]) [1, 2, 3] rfl
  have hDc := hD.sub (ws' := [(m0, .inr (14, [.ref lc, .ref lp, g2, g3, g4, .ref lw, g6, g7, g8])), (lc, .inr (5, [.int 0, vlc, .int 0])), (lp, .inr (5, [.int 0, vlp, .int 0]))]) [1, 2, 3] (by decide) rfl
  have hKc := hK.sub (tys' := []) [] rfl
  have hFc := va_free (wc := [(m0, .inr (14, [.ref lc, .ref lp, g2, g3, g4, .ref lw, g6, g7, g8])), (lc, .inr (5, [.int 0, vlc, .int 0])), (lp, .inr (5, [.int 0, vlp, .int 0]))]) hD hS hA [1, 2, 3] rfl
  refine va_calli (va_runV (As := [.int 1]) (rest := [.int 0, .int 100]) ⟨hx, hb, hml, hown, hts⟩ (c_X8_faultsOn l em dC dI m0 1 g2 g3 g4 (.ref lw) g6 g7 g8 lc vlc lp vlp H.size) (cwV 1 hts gX8_hand_X8_faultsOn rfl rfl rfl (by decide +kernel) ⟨Nat.le_of_ble_eq_true rfl, Nat.le_of_ble_eq_true rfl⟩) ⟨Pw.blind _ _ _ _ _ _ _, va_recv hKc hPc (ci := 14) (q0 := 0) rfl rfl, fun U hU hW => ⟨rfl, Pw.go hPc hKc hDc hamb hS hFc hU hW⟩⟩ rfl rfl hl.1 rfl (lv_room (Nat.le_of_ble_eq_true rfl)) dX8_hand_9 ⟨Nat.le_of_ble_eq_true rfl, Nat.le_of_ble_eq_true rfl⟩) hS (fun q _ h => hFc q h) hFc (fun r_2 u t H1 locs1 ht hvm hw hB hz1 hk1 hS => ?_)
  obtain ⟨hP1, hK1, hD1⟩ := hB
  rw [ht] at hP1
  have hK1 := va_K.moved hvm.symm hK1
  obtain ⟨hP, hD⟩ := va_join (wr := [(lw, .inr (5, [.int 0, vlw, .int 0]))]) (w1 := [(m0, .inr (14, [.ref lc, .ref lp, g2, g3, g4, .ref lw, g6, g7, g8])), (lc, .inr (5, [.int 0, vlc, .int 0])), (lp, .inr (5, [.int 0, vlp, .int 0]))]) hP hD [1, 2, 3] [0] rfl rfl (by decide) (by decide) hk1 hFc hP1 hD1
  have hK := (hK.sub (tys' := []) [] rfl).app hK1
  generalize H1 = H at hP hS ⊢
  have hP : va_P (dC, dI) vwCl [(lw, .inr (5, [.int 0, vlw, .int 0])), (m0, .inr (14, [.ref lc, .ref lp, g2, g3, g4, .ref lw, g6, g7, g8])), (lc, .inr (5, [.int 0, vlc, .int 0])), (lp, .inr (5, [.int 0, vlp, .int 0]))] H := hP
  have hD : va_D A [(lw, .inr (5, [.int 0, vlw, .int 0])), (m0, .inr (14, [.ref lc, .ref lp, g2, g3, g4, .ref lw, g6, g7, g8])), (lc, .inr (5, [.int 0, vlc, .int 0])), (lp, .inr (5, [.int 0, vlp, .int 0]))] := hD
  have hK : va_K (dC, dI) vwCl [] s := hK
  refine W.widen (k := 0) (n := 0) (Nat.le_of_ble_eq_true rfl) (Nat.le_of_ble_eq_true rfl) ?_
  have hw : r_2 = 0 := hw
  rw [hw]
  refine lv_iadd hx hb dX8_hand_12 ?_
  refine lv_topi (fun k_3 ek_3 => ?_)
  obtain rfl : k_3 = 0 := ek_3.trans (by decide)
  refine lv_imul hx hb dX8_hand_13 ?_
  refine lv_topi (fun k_4 ek_4 => ?_)
  obtain rfl : k_4 = 0 := ek_4.trans (by decide)
  refine lv_istore_n (lv' := [(1, .int 0), (0, .ref m0)]) hx hb dX8_hand_14 rfl hl (by decide) rfl (fun ls hl => ?_)
  refine lv_iconst (v := (-1)) hx hb dX8_hand_15 (by decide) ?_
  refine lv_istore_n (lv' := [(2, .int (-1)), (1, .int 0), (0, .ref m0)]) hx hb dX8_hand_16 rfl hl (by decide) rfl (fun ls hl => ?_)
  refine lv_iconst (v := 0) hx hb dX8_hand_17 (by decide) ?_
  refine lv_istore_n (lv' := [(3, .int 0), (2, .int (-1)), (1, .int 0), (0, .ref m0)]) hx hb dX8_hand_18 rfl hl (by decide) rfl (fun ls hl => ?_)
  refine lv_iconst (v := 0) hx hb dX8_hand_19 (by decide) ?_
  refine lv_istore (lv' := [(4, .int 0), (3, .int 0), (2, .int (-1)), (1, .int 0), (0, .ref m0)]) hx hb dX8_hand_20 hl (by decide) rfl (fun ls hl => ?_)
  refine lv_iload hx hb dX8_hand_22 (lv_at hl 0 rfl) ?_
  refine lv_aload_n hx hb dX8_hand_24 rfl (lv_at hl 4 rfl) ?_
  refine va_get (D := (dC, dI)) (ci := 14) (v := .ref lw) (C := RX8) (T := TX8) (N := 9) hx hb hts (by decide +kernel) hown hK hP 1 rfl rfl 5 (by decide) (hts (.fieldLink RX8 34 "BothfacesModel" "weavers" "Ljava/util/ArrayList;") (by decide +kernel)) (fun _ h9 => h9) rfl dX8_hand_25 ?_
  have hPc := hP.sub (ws' := [(lw, .inr (5, [.int 0, vlw, .int 0]))]) [0] rfl
  have hDc := hD.sub (ws' := [(lw, .inr (5, [.int 0, vlw, .int 0]))]) [0] (by decide) rfl
  have hKc := hK.sub (tys' := []) [] rfl
  have hFc := va_free (wc := [(lw, .inr (5, [.int 0, vlw, .int 0]))]) hD hS hA [0] rfl
  refine va_calli (va_runV (As := []) (rest := [.int 0]) ⟨hx, hb, hml, hown, hts⟩ (c_Jx4a65c_size_8abf5 l em dC dI lw (.int 0) vlw H.size) (cwV 0 hts gX8_hand_Jx4a65c_size_8abf5 rfl rfl rfl (by decide +kernel) ⟨Nat.le_of_ble_eq_true rfl, Nat.le_of_ble_eq_true rfl⟩) ⟨Pw.blind _ _ _ _ _ _ _, va_recv hKc hPc (ci := 5) (q0 := 0) rfl rfl, fun U hU hW => ⟨rfl, Pw.go hPc hKc hDc hamb hS hFc hU hW⟩⟩ rfl rfl hl.1 rfl (lv_room (Nat.le_of_ble_eq_true rfl)) dX8_hand_28 ⟨Nat.le_of_ble_eq_true rfl, Nat.le_of_ble_eq_true rfl⟩) hS (fun q _ h => hFc q h) hFc (fun r_5 u t H1 locs1 ht hvm hw hB hz1 hk1 hS => ?_)
  obtain ⟨hP1, hK1, hD1⟩ := hB
  rw [ht] at hP1
  have hK1 := va_K.moved hvm.symm hK1
  obtain ⟨hP, hD⟩ := va_join (wr := [(m0, .inr (14, [.ref lc, .ref lp, g2, g3, g4, .ref lw, g6, g7, g8])), (lc, .inr (5, [.int 0, vlc, .int 0])), (lp, .inr (5, [.int 0, vlp, .int 0]))]) (w1 := [(lw, .inr (5, [.int 0, vlw, .int 0]))]) hP hD [0] [1, 2, 3] rfl rfl (by decide) (by decide) hk1 hFc hP1 hD1
  have hK := (hK.sub (tys' := []) [] rfl).app hK1
  generalize H1 = H at hP hS ⊢
  have hP : va_P (dC, dI) vwCl [(m0, .inr (14, [.ref lc, .ref lp, g2, g3, g4, .ref lw, g6, g7, g8])), (lc, .inr (5, [.int 0, vlc, .int 0])), (lp, .inr (5, [.int 0, vlp, .int 0])), (lw, .inr (5, [.int 0, vlw, .int 0]))] H := hP
  have hD : va_D A [(m0, .inr (14, [.ref lc, .ref lp, g2, g3, g4, .ref lw, g6, g7, g8])), (lc, .inr (5, [.int 0, vlc, .int 0])), (lp, .inr (5, [.int 0, vlp, .int 0])), (lw, .inr (5, [.int 0, vlw, .int 0]))] := hD
  have hK : va_K (dC, dI) vwCl [] s := hK
  refine W.widen (k := 0) (n := 0) (Nat.le_of_ble_eq_true rfl) (Nat.le_of_ble_eq_true rfl) ?_
  have hw : r_5 = 0 := hw
  rw [hw]
  refine lv_icmp_ge (tgt := 112) hx hb dX8_hand_31 (by decide) (fun c_6 => ?_) (fun c_6 => ?_)
  · refine lv_aload_n hx hb dX8_hand_112 rfl (lv_at hl 4 rfl) ?_
    refine lv_iload_n hx hb dX8_hand_113 rfl (lv_at hl 2 rfl) ?_
    refine lv_iconst (v := (-1)) hx hb dX8_hand_114 (by decide) ?_
    refine lv_icmp_eq (tgt := 128) hx hb dX8_hand_115 (by decide) (fun c_7 => ?_) (fun c_7 => ?_)
    · refine lv_iconst (v := 1) hx hb dX8_hand_128 (by decide) ?_
      refine lv_goto (tgt := 133) hx hb dX8_hand_129 (by decide) ?_
      refine lv_iconst (v := 1) hx hb dX8_hand_133 (by decide) ?_
      have hPc := hP.sub (ws' := [(m0, .inr (14, [.ref lc, .ref lp, g2, g3, g4, .ref lw, g6, g7, g8]))]) [0] rfl
      have hDc := hD.sub (ws' := [(m0, .inr (14, [.ref lc, .ref lp, g2, g3, g4, .ref lw, g6, g7, g8]))]) [0] (by decide) rfl
      have hKc := hK.sub (tys' := []) [] rfl
      have hFc := va_free (wc := [(m0, .inr (14, [.ref lc, .ref lp, g2, g3, g4, .ref lw, g6, g7, g8]))]) hD hS hA [0] rfl
      refine va_calli (va_runV (As := [.int 1, .int 1]) (rest := []) ⟨hx, hb, hml, hown, hts⟩ (c_X8_isThrown_1 l em dC dI m0 1 (.ref lc) (.ref lp) g2 g3 g4 (.ref lw) g6 g7 g8 H.size) (cwV 2 hts gX8_hand_X8_isThrown rfl rfl rfl (by decide +kernel) ⟨Nat.le_of_ble_eq_true rfl, Nat.le_of_ble_eq_true rfl⟩) ⟨Pw.blind _ _ _ _ _ _ _, va_recv hKc hPc (ci := 14) (q0 := 0) rfl rfl, fun U hU hW => ⟨rfl, Pw.go hPc hKc hDc hamb hS hFc hU hW⟩⟩ rfl rfl hl.1 rfl (lv_room (Nat.le_of_ble_eq_true rfl)) dX8_hand_134 ⟨Nat.le_of_ble_eq_true rfl, Nat.le_of_ble_eq_true rfl⟩) hS (fun q _ h => hFc q h) hFc (fun r_8 u t H1 locs1 ht hvm hw hB hz1 hk1 hS => ?_)
      obtain ⟨hP1, hK1, hD1⟩ := hB
      rw [ht] at hP1
      have hK1 := va_K.moved hvm.symm hK1
      obtain ⟨hP, hD⟩ := va_join (wr := [(lc, .inr (5, [.int 0, vlc, .int 0])), (lp, .inr (5, [.int 0, vlp, .int 0])), (lw, .inr (5, [.int 0, vlw, .int 0]))]) (w1 := [(m0, .inr (14, [.ref lc, .ref lp, g2, g3, g4, .ref lw, g6, g7, .int 1]))]) hP hD [0] [1, 2, 3] rfl rfl (by decide) (by decide) hk1 hFc hP1 hD1
      have hK := (hK.sub (tys' := []) [] rfl).app hK1
      generalize H1 = H at hP hS ⊢
      have hP : va_P (dC, dI) vwCl [(lc, .inr (5, [.int 0, vlc, .int 0])), (lp, .inr (5, [.int 0, vlp, .int 0])), (lw, .inr (5, [.int 0, vlw, .int 0])), (m0, .inr (14, [.ref lc, .ref lp, g2, g3, g4, .ref lw, g6, g7, .int 1]))] H := hP
      have hD : va_D A [(lc, .inr (5, [.int 0, vlc, .int 0])), (lp, .inr (5, [.int 0, vlp, .int 0])), (lw, .inr (5, [.int 0, vlw, .int 0])), (m0, .inr (14, [.ref lc, .ref lp, g2, g3, g4, .ref lw, g6, g7, .int 1]))] := hD
      have hK : va_K (dC, dI) vwCl [] s := hK
      refine W.widen (k := 0) (n := 0) (Nat.le_of_ble_eq_true rfl) (Nat.le_of_ble_eq_true rfl) ?_
      have hw : r_8 = 1 := hw
      rw [hw]
      refine lv_if_eq (tgt := 144) hx hb dX8_hand_137 (by decide) (fun c_9 => ?_) (fun c_9 => ?_)
      · exact absurd c_9 (by decide)
      · refine lv_iconst (v := 0) hx hb dX8_hand_140 (by decide) ?_
        refine lv_goto (tgt := 145) hx hb dX8_hand_141 (by decide) ?_
        refine W.widen (k := 0) (n := 0) (Nat.le_of_ble_eq_true rfl) (Nat.le_of_ble_eq_true rfl) ?_
        have hP9 := hP.sub (ws' := [(m0, .inr (14, [.ref lc, .ref lp, g2, g3, g4, .ref lw, g6, g7, .int 1]))]) [3] rfl
        have hD9 := hD.sub (ws' := [(m0, .inr (14, [.ref lc, .ref lp, g2, g3, g4, .ref lw, g6, g7, .int 1]))]) [3] (by decide) rfl
        have hK9 := hK.sub (tys' := []) [] rfl
        exact W.iret (v := 0) hx hb hr (fun t ht hW => ⟨⟨0, (), rfl, rfl, ⟨by rw [ht]; exact hP9, va_K.moved hW.alike hK9, hD9⟩⟩, hS.F ht⟩) hS.2.2 dX8_hand_145
    · exact absurd (by decide) c_7
  · exact absurd (by decide) c_6

set_option maxHeartbeats 4000000 in
set_option maxRecDepth 100000 in
theorem c_X8_rightShare (l : Launch) (em : Nat → Nat) (dC : Nat → ClassId) (dI : Nat → Nat → Nat) (m0 : Nat) (g2 : Value) (g3 : Value) (g4 : Value) (g5 : Value) (g6 : Value) (g7 : Value) (g8 : Value) (lc : Nat) (vlc : Value) (lp : Nat) (vlp : Value) (sz : Nat) : Met l yX8_rightShare wsX8_rightShare ({ frames := 1, cells := 0, slots := 0, locals := 22 }) (va_Pc [.ref m0] (Pw em dC dI sz [(m0, .inr (14, [.ref lc, .ref lp, g2, g3, g4, g5, g6, g7, g8])), (lc, .inr (5, [.int 0, vlc, .int 0])), (lp, .inr (5, [.int 0, vlp, .int 0]))] [])) (va_Qf (fun (r : UInt32) (_ : Unit) => r = FP.fconst0) (fun _ t => Qw dC dI (va_A [(m0, .inr (14, [.ref lc, .ref lp, g2, g3, g4, g5, g6, g7, g8])), (lc, .inr (5, [.int 0, vlc, .int 0])), (lp, .inr (5, [.int 0, vlp, .int 0]))] sz) [(m0, .inr (14, [.ref lc, .ref lp, g2, g3, g4, g5, g6, g7, .int 1]))] [] t) (va_A [(m0, .inr (14, [.ref lc, .ref lp, g2, g3, g4, g5, g6, g7, g8])), (lc, .inr (5, [.int 0, vlc, .int 0])), (lp, .inr (5, [.int 0, vlp, .int 0]))] sz)) 0 0 (va_A [(m0, .inr (14, [.ref lc, .ref lp, g2, g3, g4, g5, g6, g7, g8])), (lc, .inr (5, [.int 0, vlc, .int 0])), (lp, .inr (5, [.int 0, vlp, .int 0]))] sz) := by
  refine Met.ofW (cc := cX8_rightShare) (maxL := 5) (ret := (some .float)) (by decide) rfl ?_
  intro p e s m args below meth c s₁ B hml hv
  obtain ⟨rfl, hsz, hP, hK, hD0, hamb⟩ := hv
  have hx := B.exec
  have hb := B.bytes
  have hr := B.returns
  have hts := atoms_spec (ws := wsX8_rightShare) B.pre
  have hown : s.vm.findClass RX8 = some m.cls := findClass_of_methodNamed B.named
  have hlocks := B.notSynchronized
  subst hsz
  have hD := hD0.self (sz := s.heap.size)
  generalize hAe : va_A [(m0, .inr (14, [.ref lc, .ref lp, g2, g3, g4, g5, g6, g7, g8])), (lc, .inr (5, [.int 0, vlc, .int 0])), (lp, .inr (5, [.int 0, vlp, .int 0]))] s.heap.size = A at hD hamb ⊢
  have hA : ∀ q : Nat, s.heap.size ≤ q → A q := fun q h => by rw [← hAe]; exact Or.inr h
  have hS : va_S A s.heap s.heap [] := va_S.rf
  have hP : va_P (dC, dI) vwCl [(m0, .inr (14, [.ref lc, .ref lp, g2, g3, g4, g5, g6, g7, g8])), (lc, .inr (5, [.int 0, vlc, .int 0])), (lp, .inr (5, [.int 0, vlp, .int 0]))] s.heap := hP
  have hl := lv_entry ([.ref m0]) (n := 5) (Nat.le_of_ble_eq_true rfl)
  rw [lg_entry_eq]
  generalize (lg_sl ([.ref m0]) ++ List.replicate (5 - (lg_sl ([.ref m0])).length) Slot.unset).toArray = ls at hl ⊢
  have hl : lv_has ls 5 [(0, .ref m0)] := hl
  refine lv_aload_n hx hb dX8_rightShare_0 rfl (lv_at hl 0 rfl) ?_
  refine va_get (D := (dC, dI)) (ci := 14) (v := .ref lc) (C := RX8) (T := TX8) (N := 9) hx hb hts (by decide +kernel) hown hK hP 0 rfl rfl 0 (by decide) (hts (.fieldLink RX8 10 "BothfacesModel" "cards" "Ljava/util/ArrayList;") (by decide +kernel)) (fun _ h9 => h9) rfl dX8_rightShare_1 ?_
  have hPc := hP.sub (ws' := [(lc, .inr (5, [.int 0, vlc, .int 0]))]) [1] rfl
  have hDc := hD.sub (ws' := [(lc, .inr (5, [.int 0, vlc, .int 0]))]) [1] (by decide) rfl
  have hKc := hK.sub (tys' := []) [] rfl
  have hFc := va_free (wc := [(lc, .inr (5, [.int 0, vlc, .int 0]))]) hD hS hA [1] rfl
  refine va_calli (va_runV (As := []) (rest := []) ⟨hx, hb, hml, hown, hts⟩ (c_Jx4a65c_size_8abf5 l em dC dI lc (.int 0) vlc s.heap.size) (cwV 0 hts gX8_rightShare_Jx4a65c_size_8abf5 rfl rfl rfl (by decide +kernel) ⟨Nat.le_of_ble_eq_true rfl, Nat.le_of_ble_eq_true rfl⟩) ⟨Pw.blind _ _ _ _ _ _ _, va_recv hKc hPc (ci := 5) (q0 := 0) rfl rfl, fun U hU hW => ⟨rfl, Pw.go hPc hKc hDc hamb hS hFc hU hW⟩⟩ rfl rfl hl.1 rfl (lv_room (Nat.le_of_ble_eq_true rfl)) dX8_rightShare_4 ⟨Nat.le_of_ble_eq_true rfl, Nat.le_of_ble_eq_true rfl⟩) hS (fun q _ h => hFc q h) hFc (fun r_1 u t H1 locs1 ht hvm hw hB hz1 hk1 hS => ?_)
  obtain ⟨hP1, hK1, hD1⟩ := hB
  rw [ht] at hP1
  have hK1 := va_K.moved hvm.symm hK1
  obtain ⟨hP, hD⟩ := va_join (wr := [(m0, .inr (14, [.ref lc, .ref lp, g2, g3, g4, g5, g6, g7, g8])), (lp, .inr (5, [.int 0, vlp, .int 0]))]) (w1 := [(lc, .inr (5, [.int 0, vlc, .int 0]))]) hP hD [1] [0, 2] rfl rfl (by decide) (by decide) hk1 hFc hP1 hD1
  have hK := (hK.sub (tys' := []) [] rfl).app hK1
  generalize H1 = H at hP hS ⊢
  have hP : va_P (dC, dI) vwCl [(m0, .inr (14, [.ref lc, .ref lp, g2, g3, g4, g5, g6, g7, g8])), (lp, .inr (5, [.int 0, vlp, .int 0])), (lc, .inr (5, [.int 0, vlc, .int 0]))] H := hP
  have hD : va_D A [(m0, .inr (14, [.ref lc, .ref lp, g2, g3, g4, g5, g6, g7, g8])), (lp, .inr (5, [.int 0, vlp, .int 0])), (lc, .inr (5, [.int 0, vlc, .int 0]))] := hD
  have hK : va_K (dC, dI) vwCl [] s := hK
  refine W.widen (k := 0) (n := 0) (Nat.le_of_ble_eq_true rfl) (Nat.le_of_ble_eq_true rfl) ?_
  have hw : r_1 = 0 := hw
  rw [hw]
  refine lv_aload_n hx hb dX8_rightShare_7 rfl (lv_at hl 0 rfl) ?_
  refine va_get (D := (dC, dI)) (ci := 14) (v := .ref lp) (C := RX8) (T := TX8) (N := 9) hx hb hts (by decide +kernel) hown hK hP 0 rfl rfl 1 (by decide) (hts (.fieldLink RX8 16 "BothfacesModel" "picks" "Ljava/util/ArrayList;") (by decide +kernel)) (fun _ h9 => h9) rfl dX8_rightShare_8 ?_
  have hPc := hP.sub (ws' := [(lp, .inr (5, [.int 0, vlp, .int 0]))]) [1] rfl
  have hDc := hD.sub (ws' := [(lp, .inr (5, [.int 0, vlp, .int 0]))]) [1] (by decide) rfl
  have hKc := hK.sub (tys' := []) [] rfl
  have hFc := va_free (wc := [(lp, .inr (5, [.int 0, vlp, .int 0]))]) hD hS hA [1] rfl
  refine va_calli (va_runV (As := []) (rest := [.int 0]) ⟨hx, hb, hml, hown, hts⟩ (c_Jx4a65c_size_8abf5 l em dC dI lp (.int 0) vlp H.size) (cwV 0 hts gX8_rightShare_Jx4a65c_size_8abf5 rfl rfl rfl (by decide +kernel) ⟨Nat.le_of_ble_eq_true rfl, Nat.le_of_ble_eq_true rfl⟩) ⟨Pw.blind _ _ _ _ _ _ _, va_recv hKc hPc (ci := 5) (q0 := 0) rfl rfl, fun U hU hW => ⟨rfl, Pw.go hPc hKc hDc hamb hS hFc hU hW⟩⟩ rfl rfl hl.1 rfl (lv_room (Nat.le_of_ble_eq_true rfl)) dX8_rightShare_11 ⟨Nat.le_of_ble_eq_true rfl, Nat.le_of_ble_eq_true rfl⟩) hS (fun q _ h => hFc q h) hFc (fun r_2 u t H1 locs1 ht hvm hw hB hz1 hk1 hS => ?_)
  obtain ⟨hP1, hK1, hD1⟩ := hB
  rw [ht] at hP1
  have hK1 := va_K.moved hvm.symm hK1
  obtain ⟨hP, hD⟩ := va_join (wr := [(m0, .inr (14, [.ref lc, .ref lp, g2, g3, g4, g5, g6, g7, g8])), (lc, .inr (5, [.int 0, vlc, .int 0]))]) (w1 := [(lp, .inr (5, [.int 0, vlp, .int 0]))]) hP hD [1] [0, 2] rfl rfl (by decide) (by decide) hk1 hFc hP1 hD1
  have hK := (hK.sub (tys' := []) [] rfl).app hK1
  generalize H1 = H at hP hS ⊢
  have hP : va_P (dC, dI) vwCl [(m0, .inr (14, [.ref lc, .ref lp, g2, g3, g4, g5, g6, g7, g8])), (lc, .inr (5, [.int 0, vlc, .int 0])), (lp, .inr (5, [.int 0, vlp, .int 0]))] H := hP
  have hD : va_D A [(m0, .inr (14, [.ref lc, .ref lp, g2, g3, g4, g5, g6, g7, g8])), (lc, .inr (5, [.int 0, vlc, .int 0])), (lp, .inr (5, [.int 0, vlp, .int 0]))] := hD
  have hK : va_K (dC, dI) vwCl [] s := hK
  refine W.widen (k := 0) (n := 0) (Nat.le_of_ble_eq_true rfl) (Nat.le_of_ble_eq_true rfl) ?_
  have hw : r_2 = 0 := hw
  rw [hw]
  refine lv_imul hx hb dX8_rightShare_14 ?_
  refine lv_topi (fun k_3 ek_3 => ?_)
  obtain rfl : k_3 = 0 := ek_3.trans (by decide)
  refine lv_istore_n (lv' := [(1, .int 0), (0, .ref m0)]) hx hb dX8_rightShare_15 rfl hl (by decide) rfl (fun ls hl => ?_)
  refine lv_iconst (v := 0) hx hb dX8_rightShare_16 (by decide) ?_
  refine lv_istore_n (lv' := [(2, .int 0), (1, .int 0), (0, .ref m0)]) hx hb dX8_rightShare_17 rfl hl (by decide) rfl (fun ls hl => ?_)
  refine lv_iconst (v := 0) hx hb dX8_rightShare_18 (by decide) ?_
  refine lv_istore_n (lv' := [(3, .int 0), (2, .int 0), (1, .int 0), (0, .ref m0)]) hx hb dX8_rightShare_19 rfl hl (by decide) rfl (fun ls hl => ?_)
  refine lv_iload_n hx hb dX8_rightShare_20 rfl (lv_at hl 0 rfl) ?_
  refine lv_aload_n hx hb dX8_rightShare_21 rfl (lv_at hl 3 rfl) ?_
  refine va_get (D := (dC, dI)) (ci := 14) (v := .ref lp) (C := RX8) (T := TX8) (N := 9) hx hb hts (by decide +kernel) hown hK hP 0 rfl rfl 1 (by decide) (hts (.fieldLink RX8 16 "BothfacesModel" "picks" "Ljava/util/ArrayList;") (by decide +kernel)) (fun _ h9 => h9) rfl dX8_rightShare_22 ?_
  have hPc := hP.sub (ws' := [(lp, .inr (5, [.int 0, vlp, .int 0]))]) [2] rfl
  have hDc := hD.sub (ws' := [(lp, .inr (5, [.int 0, vlp, .int 0]))]) [2] (by decide) rfl
  have hKc := hK.sub (tys' := []) [] rfl
  have hFc := va_free (wc := [(lp, .inr (5, [.int 0, vlp, .int 0]))]) hD hS hA [2] rfl
  refine va_calli (va_runV (As := []) (rest := [.int 0]) ⟨hx, hb, hml, hown, hts⟩ (c_Jx4a65c_size_8abf5 l em dC dI lp (.int 0) vlp H.size) (cwV 0 hts gX8_rightShare_Jx4a65c_size_8abf5 rfl rfl rfl (by decide +kernel) ⟨Nat.le_of_ble_eq_true rfl, Nat.le_of_ble_eq_true rfl⟩) ⟨Pw.blind _ _ _ _ _ _ _, va_recv hKc hPc (ci := 5) (q0 := 0) rfl rfl, fun U hU hW => ⟨rfl, Pw.go hPc hKc hDc hamb hS hFc hU hW⟩⟩ rfl rfl hl.1 rfl (lv_room (Nat.le_of_ble_eq_true rfl)) dX8_rightShare_25 ⟨Nat.le_of_ble_eq_true rfl, Nat.le_of_ble_eq_true rfl⟩) hS (fun q _ h => hFc q h) hFc (fun r_4 u t H1 locs1 ht hvm hw hB hz1 hk1 hS => ?_)
  obtain ⟨hP1, hK1, hD1⟩ := hB
  rw [ht] at hP1
  have hK1 := va_K.moved hvm.symm hK1
  obtain ⟨hP, hD⟩ := va_join (wr := [(m0, .inr (14, [.ref lc, .ref lp, g2, g3, g4, g5, g6, g7, g8])), (lc, .inr (5, [.int 0, vlc, .int 0]))]) (w1 := [(lp, .inr (5, [.int 0, vlp, .int 0]))]) hP hD [2] [0, 1] rfl rfl (by decide) (by decide) hk1 hFc hP1 hD1
  have hK := (hK.sub (tys' := []) [] rfl).app hK1
  generalize H1 = H at hP hS ⊢
  have hP : va_P (dC, dI) vwCl [(m0, .inr (14, [.ref lc, .ref lp, g2, g3, g4, g5, g6, g7, g8])), (lc, .inr (5, [.int 0, vlc, .int 0])), (lp, .inr (5, [.int 0, vlp, .int 0]))] H := hP
  have hD : va_D A [(m0, .inr (14, [.ref lc, .ref lp, g2, g3, g4, g5, g6, g7, g8])), (lc, .inr (5, [.int 0, vlc, .int 0])), (lp, .inr (5, [.int 0, vlp, .int 0]))] := hD
  have hK : va_K (dC, dI) vwCl [] s := hK
  refine W.widen (k := 0) (n := 0) (Nat.le_of_ble_eq_true rfl) (Nat.le_of_ble_eq_true rfl) ?_
  have hw : r_4 = 0 := hw
  rw [hw]
  refine lv_icmp_ge (tgt := 86) hx hb dX8_rightShare_28 (by decide) (fun c_5 => ?_) (fun c_5 => ?_)
  · refine lv_aload_n hx hb dX8_rightShare_86 rfl (lv_at hl 3 rfl) ?_
    refine lv_iload_n hx hb dX8_rightShare_87 rfl (lv_at hl 2 rfl) ?_
    refine lv_if_ne (tgt := 95) hx hb dX8_rightShare_88 (by decide) (fun c_6 => ?_) (fun c_6 => ?_)
    · exact absurd (by decide) c_6
    · refine lv_iconst (v := 1) hx hb dX8_rightShare_91 (by decide) ?_
      refine lv_goto (tgt := 96) hx hb dX8_rightShare_92 (by decide) ?_
      refine lv_iconst (v := 1) hx hb dX8_rightShare_96 (by decide) ?_
      have hPc := hP.sub (ws' := [(m0, .inr (14, [.ref lc, .ref lp, g2, g3, g4, g5, g6, g7, g8]))]) [0] rfl
      have hDc := hD.sub (ws' := [(m0, .inr (14, [.ref lc, .ref lp, g2, g3, g4, g5, g6, g7, g8]))]) [0] (by decide) rfl
      have hKc := hK.sub (tys' := []) [] rfl
      have hFc := va_free (wc := [(m0, .inr (14, [.ref lc, .ref lp, g2, g3, g4, g5, g6, g7, g8]))]) hD hS hA [0] rfl
      refine va_calli (va_runV (As := [.int 1, .int 1]) (rest := []) ⟨hx, hb, hml, hown, hts⟩ (c_X8_isThrown_1 l em dC dI m0 1 (.ref lc) (.ref lp) g2 g3 g4 g5 g6 g7 g8 H.size) (cwV 2 hts gX8_rightShare_X8_isThrown rfl rfl rfl (by decide +kernel) ⟨Nat.le_of_ble_eq_true rfl, Nat.le_of_ble_eq_true rfl⟩) ⟨Pw.blind _ _ _ _ _ _ _, va_recv hKc hPc (ci := 14) (q0 := 0) rfl rfl, fun U hU hW => ⟨rfl, Pw.go hPc hKc hDc hamb hS hFc hU hW⟩⟩ rfl rfl hl.1 rfl (lv_room (Nat.le_of_ble_eq_true rfl)) dX8_rightShare_97 ⟨Nat.le_of_ble_eq_true rfl, Nat.le_of_ble_eq_true rfl⟩) hS (fun q _ h => hFc q h) hFc (fun r_7 u t H1 locs1 ht hvm hw hB hz1 hk1 hS => ?_)
      obtain ⟨hP1, hK1, hD1⟩ := hB
      rw [ht] at hP1
      have hK1 := va_K.moved hvm.symm hK1
      obtain ⟨hP, hD⟩ := va_join (wr := [(lc, .inr (5, [.int 0, vlc, .int 0])), (lp, .inr (5, [.int 0, vlp, .int 0]))]) (w1 := [(m0, .inr (14, [.ref lc, .ref lp, g2, g3, g4, g5, g6, g7, .int 1]))]) hP hD [0] [1, 2] rfl rfl (by decide) (by decide) hk1 hFc hP1 hD1
      have hK := (hK.sub (tys' := []) [] rfl).app hK1
      generalize H1 = H at hP hS ⊢
      have hP : va_P (dC, dI) vwCl [(lc, .inr (5, [.int 0, vlc, .int 0])), (lp, .inr (5, [.int 0, vlp, .int 0])), (m0, .inr (14, [.ref lc, .ref lp, g2, g3, g4, g5, g6, g7, .int 1]))] H := hP
      have hD : va_D A [(lc, .inr (5, [.int 0, vlc, .int 0])), (lp, .inr (5, [.int 0, vlp, .int 0])), (m0, .inr (14, [.ref lc, .ref lp, g2, g3, g4, g5, g6, g7, .int 1]))] := hD
      have hK : va_K (dC, dI) vwCl [] s := hK
      refine W.widen (k := 0) (n := 0) (Nat.le_of_ble_eq_true rfl) (Nat.le_of_ble_eq_true rfl) ?_
      have hw : r_7 = 1 := hw
      rw [hw]
      refine lv_if_eq (tgt := 107) hx hb dX8_rightShare_100 (by decide) (fun c_8 => ?_) (fun c_8 => ?_)
      · exact absurd c_8 (by decide)
      · refine lv_fconst0 hx hb dX8_rightShare_103 ?_
        refine lv_goto (tgt := 112) hx hb dX8_rightShare_104 (by decide) ?_
        refine W.widen (k := 0) (n := 0) (Nat.le_of_ble_eq_true rfl) (Nat.le_of_ble_eq_true rfl) ?_
        have hP9 := hP.sub (ws' := [(m0, .inr (14, [.ref lc, .ref lp, g2, g3, g4, g5, g6, g7, .int 1]))]) [2] rfl
        have hD9 := hD.sub (ws' := [(m0, .inr (14, [.ref lc, .ref lp, g2, g3, g4, g5, g6, g7, .int 1]))]) [2] (by decide) rfl
        have hK9 := hK.sub (tys' := []) [] rfl
        exact W.fret (v := FP.fconst0) hx hb hr (fun t ht hW => ⟨⟨FP.fconst0, (), rfl, rfl, ⟨by rw [ht]; exact hP9, va_K.moved hW.alike hK9, hD9⟩⟩, hS.F ht⟩) hS.2.2 dX8_rightShare_112
  · exact absurd (by decide) c_5

set_option maxHeartbeats 4000000 in
set_option maxRecDepth 100000 in
theorem c_X8_meanTwist (l : Launch) (em : Nat → Nat) (dC : Nat → ClassId) (dI : Nat → Nat → Nat) (m0 : Nat) (g1 : Value) (g2 : Value) (g3 : Value) (g4 : Value) (g5 : Value) (g6 : Value) (g7 : Value) (g8 : Value) (lc : Nat) (vlc : Value) (sz : Nat) : Met l yX8_meanTwist wsX8_meanTwist ({ frames := 3, cells := 1, slots := 4, locals := 53 }) (va_Pc [.ref m0] (Pw em dC dI sz [(m0, .inr (14, [.ref lc, g1, g2, g3, g4, g5, g6, g7, g8])), (lc, .inr (5, [.int 0, vlc, .int 0]))] [])) (va_Qd (fun (r : UInt64) (_ : Unit) => r = FP.dconst0) (fun _ t => Qw dC dI (va_A [(m0, .inr (14, [.ref lc, g1, g2, g3, g4, g5, g6, g7, g8])), (lc, .inr (5, [.int 0, vlc, .int 0]))] sz) [(m0, .inr (14, [.ref lc, g1, g2, g3, g4, g5, g6, g7, .int 1]))] [] t) (va_A [(m0, .inr (14, [.ref lc, g1, g2, g3, g4, g5, g6, g7, g8])), (lc, .inr (5, [.int 0, vlc, .int 0]))] sz)) 1 4 (va_A [(m0, .inr (14, [.ref lc, g1, g2, g3, g4, g5, g6, g7, g8])), (lc, .inr (5, [.int 0, vlc, .int 0]))] sz) := by
  refine Met.ofW (cc := cX8_meanTwist) (maxL := 4) (ret := (some .double)) (by decide) rfl ?_
  intro p e s m args below meth c s₁ B hml hv
  obtain ⟨rfl, hsz, hP, hK, hD0, hamb⟩ := hv
  have hx := B.exec
  have hb := B.bytes
  have hr := B.returns
  have hts := atoms_spec (ws := wsX8_meanTwist) B.pre
  have hown : s.vm.findClass RX8 = some m.cls := findClass_of_methodNamed B.named
  have hlocks := B.notSynchronized
  subst hsz
  have hD := hD0.self (sz := s.heap.size)
  generalize hAe : va_A [(m0, .inr (14, [.ref lc, g1, g2, g3, g4, g5, g6, g7, g8])), (lc, .inr (5, [.int 0, vlc, .int 0]))] s.heap.size = A at hD hamb ⊢
  have hA : ∀ q : Nat, s.heap.size ≤ q → A q := fun q h => by rw [← hAe]; exact Or.inr h
  have hS : va_S A s.heap s.heap [] := va_S.rf
  have hP : va_P (dC, dI) vwCl [(m0, .inr (14, [.ref lc, g1, g2, g3, g4, g5, g6, g7, g8])), (lc, .inr (5, [.int 0, vlc, .int 0]))] s.heap := hP
  have hl := lv_entry ([.ref m0]) (n := 4) (Nat.le_of_ble_eq_true rfl)
  rw [lg_entry_eq]
  generalize (lg_sl ([.ref m0]) ++ List.replicate (4 - (lg_sl ([.ref m0])).length) Slot.unset).toArray = ls at hl ⊢
  have hl : lv_has ls 4 [(0, .ref m0)] := hl
  refine lv_iconst (v := 0) hx hb dX8_meanTwist_0 (by decide) ?_
  refine lv_istore_n (lv' := [(1, .int 0), (0, .ref m0)]) hx hb dX8_meanTwist_1 rfl hl (by decide) rfl (fun ls hl => ?_)
  refine lv_aload_n hx hb dX8_meanTwist_2 rfl (lv_at hl 1 rfl) ?_
  refine va_get (D := (dC, dI)) (ci := 14) (v := .ref lc) (C := RX8) (T := TX8) (N := 9) hx hb hts (by decide +kernel) hown hK hP 0 rfl rfl 0 (by decide) (hts (.fieldLink RX8 10 "BothfacesModel" "cards" "Ljava/util/ArrayList;") (by decide +kernel)) (fun _ h9 => h9) rfl dX8_meanTwist_3 ?_
  have hPc := hP.sub (ws' := [(lc, .inr (5, [.int 0, vlc, .int 0]))]) [1] rfl
  have hDc := hD.sub (ws' := [(lc, .inr (5, [.int 0, vlc, .int 0]))]) [1] (by decide) rfl
  have hKc := hK.sub (tys' := []) [] rfl
  have hFc := va_free (wc := [(lc, .inr (5, [.int 0, vlc, .int 0]))]) hD hS hA [1] rfl
  refine va_callr (va_runV (As := []) (rest := []) ⟨hx, hb, hml, hown, hts⟩ (c_Jx4a65c_iterator_32c93 l em dC dI lc vlc s.heap.size) (cwV 0 hts gX8_meanTwist_Jx4a65c_iterator_32c93 rfl rfl rfl (by decide +kernel) ⟨Nat.le_of_ble_eq_true rfl, Nat.le_of_ble_eq_true rfl⟩) ⟨Pw.blind _ _ _ _ _ _ _, va_recv hKc hPc (ci := 5) (q0 := 0) rfl rfl, fun U hU hW => ⟨rfl, Pw.go hPc hKc hDc hamb hS hFc hU hW⟩⟩ rfl rfl hl.1 rfl (lv_room (Nat.le_of_ble_eq_true rfl)) dX8_meanTwist_6 ⟨Nat.le_of_ble_eq_true rfl, Nat.le_of_ble_eq_true rfl⟩) hS (fun q _ h => hFc q h) hFc (fun u ra t H1 locs1 ht hvm hw hB hz1 hk1 hS => ?_)
  generalize ra = itx_2 at hB ⊢
  obtain ⟨hP1, hK1, hD1⟩ := hB
  rw [ht] at hP1
  have hK1 := va_K.moved hvm.symm hK1
  obtain ⟨hP, hD⟩ := va_join (wr := [(m0, .inr (14, [.ref lc, g1, g2, g3, g4, g5, g6, g7, g8]))]) (w1 := [(itx_2, .inr (4, [.int 0, .int (-1), .int 0, .ref lc])), (lc, .inr (5, [.int 0, vlc, .int 0]))]) hP hD [1] [0] rfl rfl (by decide) (by decide) hk1 hFc hP1 hD1
  have hK := (hK.sub (tys' := []) [] rfl).app hK1
  generalize H1 = H at hP hS ⊢
  have hP : va_P (dC, dI) vwCl [(m0, .inr (14, [.ref lc, g1, g2, g3, g4, g5, g6, g7, g8])), (itx_2, .inr (4, [.int 0, .int (-1), .int 0, .ref lc])), (lc, .inr (5, [.int 0, vlc, .int 0]))] H := hP
  have hD : va_D A [(m0, .inr (14, [.ref lc, g1, g2, g3, g4, g5, g6, g7, g8])), (itx_2, .inr (4, [.int 0, .int (-1), .int 0, .ref lc])), (lc, .inr (5, [.int 0, vlc, .int 0]))] := hD
  have hK : va_K (dC, dI) vwCl [] s := hK
  refine W.widen (k := 1) (n := 4) (Nat.le_of_ble_eq_true rfl) (Nat.le_of_ble_eq_true rfl) ?_
  refine lv_astore_n (lv' := [(2, .ref itx_2), (1, .int 0), (0, .ref m0)]) hx hb dX8_meanTwist_9 rfl hl (by decide) rfl (fun ls hl => ?_)
  refine lv_aload_n hx hb dX8_meanTwist_10 rfl (lv_at hl 0 rfl) ?_
  have hPc := hP.sub (ws' := [(itx_2, .inr (4, [.int 0, .int (-1), .int 0, .ref lc])), (lc, .inr (5, [.int 0, vlc, .int 0]))]) [1, 2] rfl
  have hDc := hD.sub (ws' := [(itx_2, .inr (4, [.int 0, .int (-1), .int 0, .ref lc])), (lc, .inr (5, [.int 0, vlc, .int 0]))]) [1, 2] (by decide) rfl
  have hKc := hK.sub (tys' := []) [] rfl
  have hFc := va_free (wc := [(itx_2, .inr (4, [.int 0, .int (-1), .int 0, .ref lc])), (lc, .inr (5, [.int 0, vlc, .int 0]))]) hD hS hA [1, 2] rfl
  refine va_callFi (va_runF (hKc.1 4 _ rfl).2 (As := []) (rest := []) ⟨hx, hb, hml, hown, hts⟩ (c_Jx35411_hasNext_aae02 l em dC dI itx_2 lc vlc H.size) (va_cwF 0 hts gX8_meanTwist_Jx35411_hasNext_aae02_f93Jx35411 rfl rfl rfl hamb.fw (by decide +kernel) ⟨Nat.le_of_ble_eq_true rfl, Nat.le_of_ble_eq_true rfl⟩) ⟨Pw.blind _ _ _ _ _ _ _, va_recv hKc hPc (ci := 4) (q0 := 0) rfl rfl, fun U hU hW => ⟨rfl, Pw.go hPc hKc hDc hamb hS hFc hU hW⟩⟩ rfl rfl hl.1 rfl (lv_room (Nat.le_of_ble_eq_true rfl)) dX8_meanTwist_11 ⟨Nat.le_of_ble_eq_true rfl, Nat.le_of_ble_eq_true rfl⟩) hS (fun q _ h => hFc q h) hFc (fun r_3 u t H1 locs1 ht hvm hw hB hz1 hk1 hS => ?_)
  obtain ⟨hP1, hK1, hD1⟩ := hB
  rw [ht] at hP1
  have hK1 := va_K.moved hvm.symm hK1
  obtain ⟨hP, hD⟩ := va_join (wr := [(m0, .inr (14, [.ref lc, g1, g2, g3, g4, g5, g6, g7, g8]))]) (w1 := [(itx_2, .inr (4, [.int 0, .int (-1), .int 0, .ref lc])), (lc, .inr (5, [.int 0, vlc, .int 0]))]) hP hD [1, 2] [0] rfl rfl (by decide) (by decide) hk1 hFc hP1 hD1
  have hK := (hK.sub (tys' := []) [] rfl).app hK1
  generalize H1 = H at hP hS ⊢
  have hP : va_P (dC, dI) vwCl [(m0, .inr (14, [.ref lc, g1, g2, g3, g4, g5, g6, g7, g8])), (itx_2, .inr (4, [.int 0, .int (-1), .int 0, .ref lc])), (lc, .inr (5, [.int 0, vlc, .int 0]))] H := hP
  have hD : va_D A [(m0, .inr (14, [.ref lc, g1, g2, g3, g4, g5, g6, g7, g8])), (itx_2, .inr (4, [.int 0, .int (-1), .int 0, .ref lc])), (lc, .inr (5, [.int 0, vlc, .int 0]))] := hD
  have hK : va_K (dC, dI) vwCl [] s := hK
  refine W.widen (k := 1) (n := 4) (Nat.le_of_ble_eq_true rfl) (Nat.le_of_ble_eq_true rfl) ?_
  have hw : r_3 = 0 := hw
  rw [hw]
  refine lv_if_eq (tgt := 39) hx hb dX8_meanTwist_16 (by decide) (fun c_4 => ?_) (fun c_4 => ?_)
  · refine lv_aload_n hx hb dX8_meanTwist_39 rfl (lv_at hl 2 rfl) ?_
    refine lv_aload_n hx hb dX8_meanTwist_40 rfl (lv_at hl 2 rfl) ?_
    refine va_get (D := (dC, dI)) (ci := 14) (v := .ref lc) (C := RX8) (T := TX8) (N := 9) hx hb hts (by decide +kernel) hown hK hP 0 rfl rfl 0 (by decide) (hts (.fieldLink RX8 10 "BothfacesModel" "cards" "Ljava/util/ArrayList;") (by decide +kernel)) (fun _ h9 => h9) rfl dX8_meanTwist_41 ?_
    have hPc := hP.sub (ws' := [(lc, .inr (5, [.int 0, vlc, .int 0]))]) [2] rfl
    have hDc := hD.sub (ws' := [(lc, .inr (5, [.int 0, vlc, .int 0]))]) [2] (by decide) rfl
    have hKc := hK.sub (tys' := []) [] rfl
    have hFc := va_free (wc := [(lc, .inr (5, [.int 0, vlc, .int 0]))]) hD hS hA [2] rfl
    refine va_calli (va_runV (As := []) (rest := [.ref m0]) ⟨hx, hb, hml, hown, hts⟩ (c_Jx4a65c_isEmpty_aae02 l em dC dI lc (.int 0) vlc H.size) (cwV 0 hts gX8_meanTwist_Jx4a65c_isEmpty_aae02 rfl rfl rfl (by decide +kernel) ⟨Nat.le_of_ble_eq_true rfl, Nat.le_of_ble_eq_true rfl⟩) ⟨Pw.blind _ _ _ _ _ _ _, va_recv hKc hPc (ci := 5) (q0 := 0) rfl rfl, fun U hU hW => ⟨rfl, Pw.go hPc hKc hDc hamb hS hFc hU hW⟩⟩ rfl rfl hl.1 rfl (lv_room (Nat.le_of_ble_eq_true rfl)) dX8_meanTwist_44 ⟨Nat.le_of_ble_eq_true rfl, Nat.le_of_ble_eq_true rfl⟩) hS (fun q _ h => hFc q h) hFc (fun r_5 u t H1 locs1 ht hvm hw hB hz1 hk1 hS => ?_)
    obtain ⟨hP1, hK1, hD1⟩ := hB
    rw [ht] at hP1
    have hK1 := va_K.moved hvm.symm hK1
    obtain ⟨hP, hD⟩ := va_join (wr := [(m0, .inr (14, [.ref lc, g1, g2, g3, g4, g5, g6, g7, g8])), (itx_2, .inr (4, [.int 0, .int (-1), .int 0, .ref lc]))]) (w1 := [(lc, .inr (5, [.int 0, vlc, .int 0]))]) hP hD [2] [0, 1] rfl rfl (by decide) (by decide) hk1 hFc hP1 hD1
    have hK := (hK.sub (tys' := []) [] rfl).app hK1
    generalize H1 = H at hP hS ⊢
    have hP : va_P (dC, dI) vwCl [(m0, .inr (14, [.ref lc, g1, g2, g3, g4, g5, g6, g7, g8])), (itx_2, .inr (4, [.int 0, .int (-1), .int 0, .ref lc])), (lc, .inr (5, [.int 0, vlc, .int 0]))] H := hP
    have hD : va_D A [(m0, .inr (14, [.ref lc, g1, g2, g3, g4, g5, g6, g7, g8])), (itx_2, .inr (4, [.int 0, .int (-1), .int 0, .ref lc])), (lc, .inr (5, [.int 0, vlc, .int 0]))] := hD
    have hK : va_K (dC, dI) vwCl [] s := hK
    refine W.widen (k := 1) (n := 4) (Nat.le_of_ble_eq_true rfl) (Nat.le_of_ble_eq_true rfl) ?_
    have hw : r_5 = 1 := hw
    rw [hw]
    refine lv_iconst (v := 1) hx hb dX8_meanTwist_47 (by decide) ?_
    have hPc := hP.sub (ws' := [(m0, .inr (14, [.ref lc, g1, g2, g3, g4, g5, g6, g7, g8]))]) [0] rfl
    have hDc := hD.sub (ws' := [(m0, .inr (14, [.ref lc, g1, g2, g3, g4, g5, g6, g7, g8]))]) [0] (by decide) rfl
    have hKc := hK.sub (tys' := []) [] rfl
    have hFc := va_free (wc := [(m0, .inr (14, [.ref lc, g1, g2, g3, g4, g5, g6, g7, g8]))]) hD hS hA [0] rfl
    refine va_calli (va_runV (As := [.int 1, .int 1]) (rest := []) ⟨hx, hb, hml, hown, hts⟩ (c_X8_isThrown_1 l em dC dI m0 1 (.ref lc) g1 g2 g3 g4 g5 g6 g7 g8 H.size) (cwV 2 hts gX8_meanTwist_X8_isThrown rfl rfl rfl (by decide +kernel) ⟨Nat.le_of_ble_eq_true rfl, Nat.le_of_ble_eq_true rfl⟩) ⟨Pw.blind _ _ _ _ _ _ _, va_recv hKc hPc (ci := 14) (q0 := 0) rfl rfl, fun U hU hW => ⟨rfl, Pw.go hPc hKc hDc hamb hS hFc hU hW⟩⟩ rfl rfl hl.1 rfl (lv_room (Nat.le_of_ble_eq_true rfl)) dX8_meanTwist_48 ⟨Nat.le_of_ble_eq_true rfl, Nat.le_of_ble_eq_true rfl⟩) hS (fun q _ h => hFc q h) hFc (fun r_6 u t H1 locs1 ht hvm hw hB hz1 hk1 hS => ?_)
    obtain ⟨hP1, hK1, hD1⟩ := hB
    rw [ht] at hP1
    have hK1 := va_K.moved hvm.symm hK1
    obtain ⟨hP, hD⟩ := va_join (wr := [(itx_2, .inr (4, [.int 0, .int (-1), .int 0, .ref lc])), (lc, .inr (5, [.int 0, vlc, .int 0]))]) (w1 := [(m0, .inr (14, [.ref lc, g1, g2, g3, g4, g5, g6, g7, .int 1]))]) hP hD [0] [1, 2] rfl rfl (by decide) (by decide) hk1 hFc hP1 hD1
    have hK := (hK.sub (tys' := []) [] rfl).app hK1
    generalize H1 = H at hP hS ⊢
    have hP : va_P (dC, dI) vwCl [(itx_2, .inr (4, [.int 0, .int (-1), .int 0, .ref lc])), (lc, .inr (5, [.int 0, vlc, .int 0])), (m0, .inr (14, [.ref lc, g1, g2, g3, g4, g5, g6, g7, .int 1]))] H := hP
    have hD : va_D A [(itx_2, .inr (4, [.int 0, .int (-1), .int 0, .ref lc])), (lc, .inr (5, [.int 0, vlc, .int 0])), (m0, .inr (14, [.ref lc, g1, g2, g3, g4, g5, g6, g7, .int 1]))] := hD
    have hK : va_K (dC, dI) vwCl [] s := hK
    refine W.widen (k := 1) (n := 4) (Nat.le_of_ble_eq_true rfl) (Nat.le_of_ble_eq_true rfl) ?_
    have hw : r_6 = 1 := hw
    rw [hw]
    refine lv_if_eq (tgt := 58) hx hb dX8_meanTwist_51 (by decide) (fun c_7 => ?_) (fun c_7 => ?_)
    · exact absurd c_7 (by decide)
    · refine lv_dconst0 hx hb dX8_meanTwist_54 ?_
      refine lv_goto (tgt := 69) hx hb dX8_meanTwist_55 (by decide) ?_
      refine W.widen (k := 1) (n := 4) (Nat.le_of_ble_eq_true rfl) (Nat.le_of_ble_eq_true rfl) ?_
      have hP9 := hP.sub (ws' := [(m0, .inr (14, [.ref lc, g1, g2, g3, g4, g5, g6, g7, .int 1]))]) [2] rfl
      have hD9 := hD.sub (ws' := [(m0, .inr (14, [.ref lc, g1, g2, g3, g4, g5, g6, g7, .int 1]))]) [2] (by decide) rfl
      have hK9 := hK.sub (tys' := []) [] rfl
      exact W.dret (v := FP.dconst0) hx hb hr (fun t ht hW => ⟨⟨FP.dconst0, (), rfl, rfl, ⟨by rw [ht]; exact hP9, va_K.moved hW.alike hK9, hD9⟩⟩, hS.F ht⟩) hS.2.2 dX8_meanTwist_69
  · exact absurd (by decide) c_4

set_option maxHeartbeats 4000000 in
set_option maxRecDepth 100000 in
theorem c_X8_mostTwist (l : Launch) (em : Nat → Nat) (dC : Nat → ClassId) (dI : Nat → Nat → Nat) (m0 : Nat) (g1 : Value) (g2 : Value) (g3 : Value) (g4 : Value) (g5 : Value) (g6 : Value) (g7 : Value) (g8 : Value) (lc : Nat) (vlc : Value) (sz : Nat) : Met l yX8_mostTwist wsX8_mostTwist ({ frames := 3, cells := 1, slots := 4, locals := 53 }) (va_Pc [.ref m0] (Pw em dC dI sz [(m0, .inr (14, [.ref lc, g1, g2, g3, g4, g5, g6, g7, g8])), (lc, .inr (5, [.int 0, vlc, .int 0]))] [])) (va_Qi (fun (r : Int32) (_ : Unit) => r = 0) (fun _ t => Qw dC dI (va_A [(m0, .inr (14, [.ref lc, g1, g2, g3, g4, g5, g6, g7, g8])), (lc, .inr (5, [.int 0, vlc, .int 0]))] sz) [(m0, .inr (14, [.ref lc, g1, g2, g3, g4, g5, g6, g7, .int 0]))] [] t) (va_A [(m0, .inr (14, [.ref lc, g1, g2, g3, g4, g5, g6, g7, g8])), (lc, .inr (5, [.int 0, vlc, .int 0]))] sz)) 1 4 (va_A [(m0, .inr (14, [.ref lc, g1, g2, g3, g4, g5, g6, g7, g8])), (lc, .inr (5, [.int 0, vlc, .int 0]))] sz) := by
  refine Met.ofW (cc := cX8_mostTwist) (maxL := 4) (ret := (some .int)) (by decide) rfl ?_
  intro p e s m args below meth c s₁ B hml hv
  obtain ⟨rfl, hsz, hP, hK, hD0, hamb⟩ := hv
  have hx := B.exec
  have hb := B.bytes
  have hr := B.returns
  have hts := atoms_spec (ws := wsX8_mostTwist) B.pre
  have hown : s.vm.findClass RX8 = some m.cls := findClass_of_methodNamed B.named
  have hlocks := B.notSynchronized
  subst hsz
  have hD := hD0.self (sz := s.heap.size)
  generalize hAe : va_A [(m0, .inr (14, [.ref lc, g1, g2, g3, g4, g5, g6, g7, g8])), (lc, .inr (5, [.int 0, vlc, .int 0]))] s.heap.size = A at hD hamb ⊢
  have hA : ∀ q : Nat, s.heap.size ≤ q → A q := fun q h => by rw [← hAe]; exact Or.inr h
  have hS : va_S A s.heap s.heap [] := va_S.rf
  have hP : va_P (dC, dI) vwCl [(m0, .inr (14, [.ref lc, g1, g2, g3, g4, g5, g6, g7, g8])), (lc, .inr (5, [.int 0, vlc, .int 0]))] s.heap := hP
  have hl := lv_entry ([.ref m0]) (n := 4) (Nat.le_of_ble_eq_true rfl)
  rw [lg_entry_eq]
  generalize (lg_sl ([.ref m0]) ++ List.replicate (4 - (lg_sl ([.ref m0])).length) Slot.unset).toArray = ls at hl ⊢
  have hl : lv_has ls 4 [(0, .ref m0)] := hl
  refine lv_aload_n hx hb dX8_mostTwist_0 rfl (lv_at hl 0 rfl) ?_
  refine lv_iconst (v := 0) hx hb dX8_mostTwist_1 (by decide) ?_
  refine va_put (D := (dC, dI)) (ci := 14) (v := .int 0) (ty := .int) (C := RX8) (T := TX8) (N := 9) hx hb hts (by decide +kernel) tyX8 tyX8_ok nmX8 hown hK hP hD hS 0 rfl rfl 8 (by decide) (hts (.fieldLink RX8 46 "BothfacesModel" "thrown" "I") (by decide +kernel)) (fun _ h9 => h9) rfl (by decide +kernel) rfl rfl (Nat.le_of_ble_eq_true rfl) dX8_mostTwist_2 (fun H locs hP hD hS => ?_)
  have hP : va_P (dC, dI) vwCl [(m0, .inr (14, [.ref lc, g1, g2, g3, g4, g5, g6, g7, .int 0])), (lc, .inr (5, [.int 0, vlc, .int 0]))] H := hP
  have hD : va_D A [(m0, .inr (14, [.ref lc, g1, g2, g3, g4, g5, g6, g7, .int 0])), (lc, .inr (5, [.int 0, vlc, .int 0]))] := hD
  refine lv_iconst (v := 0) hx hb dX8_mostTwist_5 (by decide) ?_
  refine lv_istore_n (lv' := [(1, .int 0), (0, .ref m0)]) hx hb dX8_mostTwist_6 rfl hl (by decide) rfl (fun ls hl => ?_)
  refine lv_aload_n hx hb dX8_mostTwist_7 rfl (lv_at hl 1 rfl) ?_
  refine va_get (D := (dC, dI)) (ci := 14) (v := .ref lc) (C := RX8) (T := TX8) (N := 9) hx hb hts (by decide +kernel) hown hK hP 0 rfl rfl 0 (by decide) (hts (.fieldLink RX8 10 "BothfacesModel" "cards" "Ljava/util/ArrayList;") (by decide +kernel)) (fun _ h9 => h9) rfl dX8_mostTwist_8 ?_
  have hPc := hP.sub (ws' := [(lc, .inr (5, [.int 0, vlc, .int 0]))]) [1] rfl
  have hDc := hD.sub (ws' := [(lc, .inr (5, [.int 0, vlc, .int 0]))]) [1] (by decide) rfl
  have hKc := hK.sub (tys' := []) [] rfl
  have hFc := va_free (wc := [(lc, .inr (5, [.int 0, vlc, .int 0]))]) hD hS hA [1] rfl
  refine va_callr (va_runV (As := []) (rest := []) ⟨hx, hb, hml, hown, hts⟩ (c_Jx4a65c_iterator_32c93 l em dC dI lc vlc H.size) (cwV 0 hts gX8_mostTwist_Jx4a65c_iterator_32c93 rfl rfl rfl (by decide +kernel) ⟨Nat.le_of_ble_eq_true rfl, Nat.le_of_ble_eq_true rfl⟩) ⟨Pw.blind _ _ _ _ _ _ _, va_recv hKc hPc (ci := 5) (q0 := 0) rfl rfl, fun U hU hW => ⟨rfl, Pw.go hPc hKc hDc hamb hS hFc hU hW⟩⟩ rfl rfl hl.1 rfl (lv_room (Nat.le_of_ble_eq_true rfl)) dX8_mostTwist_11 ⟨Nat.le_of_ble_eq_true rfl, Nat.le_of_ble_eq_true rfl⟩) hS (fun q _ h => hFc q h) hFc (fun u ra t H1 locs1 ht hvm hw hB hz1 hk1 hS => ?_)
  generalize ra = itx_2 at hB ⊢
  obtain ⟨hP1, hK1, hD1⟩ := hB
  rw [ht] at hP1
  have hK1 := va_K.moved hvm.symm hK1
  obtain ⟨hP, hD⟩ := va_join (wr := [(m0, .inr (14, [.ref lc, g1, g2, g3, g4, g5, g6, g7, .int 0]))]) (w1 := [(itx_2, .inr (4, [.int 0, .int (-1), .int 0, .ref lc])), (lc, .inr (5, [.int 0, vlc, .int 0]))]) hP hD [1] [0] rfl rfl (by decide) (by decide) hk1 hFc hP1 hD1
  have hK := (hK.sub (tys' := []) [] rfl).app hK1
  generalize H1 = H at hP hS ⊢
  have hP : va_P (dC, dI) vwCl [(m0, .inr (14, [.ref lc, g1, g2, g3, g4, g5, g6, g7, .int 0])), (itx_2, .inr (4, [.int 0, .int (-1), .int 0, .ref lc])), (lc, .inr (5, [.int 0, vlc, .int 0]))] H := hP
  have hD : va_D A [(m0, .inr (14, [.ref lc, g1, g2, g3, g4, g5, g6, g7, .int 0])), (itx_2, .inr (4, [.int 0, .int (-1), .int 0, .ref lc])), (lc, .inr (5, [.int 0, vlc, .int 0]))] := hD
  have hK : va_K (dC, dI) vwCl [] s := hK
  refine W.widen (k := 1) (n := 4) (Nat.le_of_ble_eq_true rfl) (Nat.le_of_ble_eq_true rfl) ?_
  refine lv_astore_n (lv' := [(2, .ref itx_2), (1, .int 0), (0, .ref m0)]) hx hb dX8_mostTwist_14 rfl hl (by decide) rfl (fun ls hl => ?_)
  refine lv_aload_n hx hb dX8_mostTwist_15 rfl (lv_at hl 0 rfl) ?_
  have hPc := hP.sub (ws' := [(itx_2, .inr (4, [.int 0, .int (-1), .int 0, .ref lc])), (lc, .inr (5, [.int 0, vlc, .int 0]))]) [1, 2] rfl
  have hDc := hD.sub (ws' := [(itx_2, .inr (4, [.int 0, .int (-1), .int 0, .ref lc])), (lc, .inr (5, [.int 0, vlc, .int 0]))]) [1, 2] (by decide) rfl
  have hKc := hK.sub (tys' := []) [] rfl
  have hFc := va_free (wc := [(itx_2, .inr (4, [.int 0, .int (-1), .int 0, .ref lc])), (lc, .inr (5, [.int 0, vlc, .int 0]))]) hD hS hA [1, 2] rfl
  refine va_callFi (va_runF (hKc.1 4 _ rfl).2 (As := []) (rest := []) ⟨hx, hb, hml, hown, hts⟩ (c_Jx35411_hasNext_aae02 l em dC dI itx_2 lc vlc H.size) (va_cwF 0 hts gX8_mostTwist_Jx35411_hasNext_aae02_f93Jx35411 rfl rfl rfl hamb.fw (by decide +kernel) ⟨Nat.le_of_ble_eq_true rfl, Nat.le_of_ble_eq_true rfl⟩) ⟨Pw.blind _ _ _ _ _ _ _, va_recv hKc hPc (ci := 4) (q0 := 0) rfl rfl, fun U hU hW => ⟨rfl, Pw.go hPc hKc hDc hamb hS hFc hU hW⟩⟩ rfl rfl hl.1 rfl (lv_room (Nat.le_of_ble_eq_true rfl)) dX8_mostTwist_16 ⟨Nat.le_of_ble_eq_true rfl, Nat.le_of_ble_eq_true rfl⟩) hS (fun q _ h => hFc q h) hFc (fun r_3 u t H1 locs1 ht hvm hw hB hz1 hk1 hS => ?_)
  obtain ⟨hP1, hK1, hD1⟩ := hB
  rw [ht] at hP1
  have hK1 := va_K.moved hvm.symm hK1
  obtain ⟨hP, hD⟩ := va_join (wr := [(m0, .inr (14, [.ref lc, g1, g2, g3, g4, g5, g6, g7, .int 0]))]) (w1 := [(itx_2, .inr (4, [.int 0, .int (-1), .int 0, .ref lc])), (lc, .inr (5, [.int 0, vlc, .int 0]))]) hP hD [1, 2] [0] rfl rfl (by decide) (by decide) hk1 hFc hP1 hD1
  have hK := (hK.sub (tys' := []) [] rfl).app hK1
  generalize H1 = H at hP hS ⊢
  have hP : va_P (dC, dI) vwCl [(m0, .inr (14, [.ref lc, g1, g2, g3, g4, g5, g6, g7, .int 0])), (itx_2, .inr (4, [.int 0, .int (-1), .int 0, .ref lc])), (lc, .inr (5, [.int 0, vlc, .int 0]))] H := hP
  have hD : va_D A [(m0, .inr (14, [.ref lc, g1, g2, g3, g4, g5, g6, g7, .int 0])), (itx_2, .inr (4, [.int 0, .int (-1), .int 0, .ref lc])), (lc, .inr (5, [.int 0, vlc, .int 0]))] := hD
  have hK : va_K (dC, dI) vwCl [] s := hK
  refine W.widen (k := 1) (n := 4) (Nat.le_of_ble_eq_true rfl) (Nat.le_of_ble_eq_true rfl) ?_
  have hw : r_3 = 0 := hw
  rw [hw]
  refine lv_if_eq (tgt := 49) hx hb dX8_mostTwist_21 (by decide) (fun c_4 => ?_) (fun c_4 => ?_)
  · refine lv_iload_n hx hb dX8_mostTwist_49 rfl (lv_at hl 1 rfl) ?_
    refine W.widen (k := 1) (n := 4) (Nat.le_of_ble_eq_true rfl) (Nat.le_of_ble_eq_true rfl) ?_
    have hP9 := hP.sub (ws' := [(m0, .inr (14, [.ref lc, g1, g2, g3, g4, g5, g6, g7, .int 0]))]) [0] rfl
    have hD9 := hD.sub (ws' := [(m0, .inr (14, [.ref lc, g1, g2, g3, g4, g5, g6, g7, .int 0]))]) [0] (by decide) rfl
    have hK9 := hK.sub (tys' := []) [] rfl
    exact W.iret (v := 0) hx hb hr (fun t ht hW => ⟨⟨0, (), rfl, rfl, ⟨by rw [ht]; exact hP9, va_K.moved hW.alike hK9, hD9⟩⟩, hS.F ht⟩) hS.2.2 dX8_mostTwist_50
  · exact absurd (by decide) c_4

set_option maxHeartbeats 4000000 in
set_option maxRecDepth 100000 in
theorem c_X8_picks (l : Launch) (em : Nat → Nat) (dC : Nat → ClassId) (dI : Nat → Nat → Nat) (m0 : Nat) (g0 : Value) (g2 : Value) (g3 : Value) (g4 : Value) (g5 : Value) (g6 : Value) (g7 : Value) (g8 : Value) (lp : Nat) (vlp : Value) (sz : Nat) : Met l yX8_picks wsX8_picks ({ frames := 1, cells := 0, slots := 0, locals := 20 }) (va_Pc [.ref m0] (Pw em dC dI sz [(m0, .inr (14, [g0, .ref lp, g2, g3, g4, g5, g6, g7, g8])), (lp, .inr (5, [.int 0, vlp, .int 0]))] [])) (va_Qi (fun (r : Int32) (_ : Unit) => r = 0) (fun _ t => Qw dC dI (va_A [(m0, .inr (14, [g0, .ref lp, g2, g3, g4, g5, g6, g7, g8])), (lp, .inr (5, [.int 0, vlp, .int 0]))] sz) [(m0, .inr (14, [g0, .ref lp, g2, g3, g4, g5, g6, g7, .int 0]))] [] t) (va_A [(m0, .inr (14, [g0, .ref lp, g2, g3, g4, g5, g6, g7, g8])), (lp, .inr (5, [.int 0, vlp, .int 0]))] sz)) 0 0 (va_A [(m0, .inr (14, [g0, .ref lp, g2, g3, g4, g5, g6, g7, g8])), (lp, .inr (5, [.int 0, vlp, .int 0]))] sz) := by
  refine Met.ofW (cc := cX8_picks) (maxL := 1) (ret := (some .int)) (by decide) rfl ?_
  intro p e s m args below meth c s₁ B hml hv
  obtain ⟨rfl, hsz, hP, hK, hD0, hamb⟩ := hv
  have hx := B.exec
  have hb := B.bytes
  have hr := B.returns
  have hts := atoms_spec (ws := wsX8_picks) B.pre
  have hown : s.vm.findClass RX8 = some m.cls := findClass_of_methodNamed B.named
  have hlocks := B.notSynchronized
  subst hsz
  have hD := hD0.self (sz := s.heap.size)
  generalize hAe : va_A [(m0, .inr (14, [g0, .ref lp, g2, g3, g4, g5, g6, g7, g8])), (lp, .inr (5, [.int 0, vlp, .int 0]))] s.heap.size = A at hD hamb ⊢
  have hA : ∀ q : Nat, s.heap.size ≤ q → A q := fun q h => by rw [← hAe]; exact Or.inr h
  have hS : va_S A s.heap s.heap [] := va_S.rf
  have hP : va_P (dC, dI) vwCl [(m0, .inr (14, [g0, .ref lp, g2, g3, g4, g5, g6, g7, g8])), (lp, .inr (5, [.int 0, vlp, .int 0]))] s.heap := hP
  have hl := lv_entry ([.ref m0]) (n := 1) (Nat.le_of_ble_eq_true rfl)
  rw [lg_entry_eq]
  generalize (lg_sl ([.ref m0]) ++ List.replicate (1 - (lg_sl ([.ref m0])).length) Slot.unset).toArray = ls at hl ⊢
  have hl : lv_has ls 1 [(0, .ref m0)] := hl
  refine lv_aload_n hx hb dX8_picks_0 rfl (lv_at hl 0 rfl) ?_
  refine lv_iconst (v := 0) hx hb dX8_picks_1 (by decide) ?_
  refine va_put (D := (dC, dI)) (ci := 14) (v := .int 0) (ty := .int) (C := RX8) (T := TX8) (N := 9) hx hb hts (by decide +kernel) tyX8 tyX8_ok nmX8 hown hK hP hD hS 0 rfl rfl 8 (by decide) (hts (.fieldLink RX8 46 "BothfacesModel" "thrown" "I") (by decide +kernel)) (fun _ h9 => h9) rfl (by decide +kernel) rfl rfl (Nat.le_of_ble_eq_true rfl) dX8_picks_2 (fun H locs hP hD hS => ?_)
  have hP : va_P (dC, dI) vwCl [(m0, .inr (14, [g0, .ref lp, g2, g3, g4, g5, g6, g7, .int 0])), (lp, .inr (5, [.int 0, vlp, .int 0]))] H := hP
  have hD : va_D A [(m0, .inr (14, [g0, .ref lp, g2, g3, g4, g5, g6, g7, .int 0])), (lp, .inr (5, [.int 0, vlp, .int 0]))] := hD
  refine lv_aload_n hx hb dX8_picks_5 rfl (lv_at hl 0 rfl) ?_
  refine va_get (D := (dC, dI)) (ci := 14) (v := .ref lp) (C := RX8) (T := TX8) (N := 9) hx hb hts (by decide +kernel) hown hK hP 0 rfl rfl 1 (by decide) (hts (.fieldLink RX8 16 "BothfacesModel" "picks" "Ljava/util/ArrayList;") (by decide +kernel)) (fun _ h9 => h9) rfl dX8_picks_6 ?_
  have hPc := hP.sub (ws' := [(lp, .inr (5, [.int 0, vlp, .int 0]))]) [1] rfl
  have hDc := hD.sub (ws' := [(lp, .inr (5, [.int 0, vlp, .int 0]))]) [1] (by decide) rfl
  have hKc := hK.sub (tys' := []) [] rfl
  have hFc := va_free (wc := [(lp, .inr (5, [.int 0, vlp, .int 0]))]) hD hS hA [1] rfl
  refine va_calli (va_runV (As := []) (rest := []) ⟨hx, hb, hml, hown, hts⟩ (c_Jx4a65c_size_8abf5 l em dC dI lp (.int 0) vlp H.size) (cwV 0 hts gX8_picks_Jx4a65c_size_8abf5 rfl rfl rfl (by decide +kernel) ⟨Nat.le_of_ble_eq_true rfl, Nat.le_of_ble_eq_true rfl⟩) ⟨Pw.blind _ _ _ _ _ _ _, va_recv hKc hPc (ci := 5) (q0 := 0) rfl rfl, fun U hU hW => ⟨rfl, Pw.go hPc hKc hDc hamb hS hFc hU hW⟩⟩ rfl rfl hl.1 rfl (lv_room (Nat.le_of_ble_eq_true rfl)) dX8_picks_9 ⟨Nat.le_of_ble_eq_true rfl, Nat.le_of_ble_eq_true rfl⟩) hS (fun q _ h => hFc q h) hFc (fun r_1 u t H1 locs1 ht hvm hw hB hz1 hk1 hS => ?_)
  obtain ⟨hP1, hK1, hD1⟩ := hB
  rw [ht] at hP1
  have hK1 := va_K.moved hvm.symm hK1
  obtain ⟨hP, hD⟩ := va_join (wr := [(m0, .inr (14, [g0, .ref lp, g2, g3, g4, g5, g6, g7, .int 0]))]) (w1 := [(lp, .inr (5, [.int 0, vlp, .int 0]))]) hP hD [1] [0] rfl rfl (by decide) (by decide) hk1 hFc hP1 hD1
  have hK := (hK.sub (tys' := []) [] rfl).app hK1
  generalize H1 = H at hP hS ⊢
  have hP : va_P (dC, dI) vwCl [(m0, .inr (14, [g0, .ref lp, g2, g3, g4, g5, g6, g7, .int 0])), (lp, .inr (5, [.int 0, vlp, .int 0]))] H := hP
  have hD : va_D A [(m0, .inr (14, [g0, .ref lp, g2, g3, g4, g5, g6, g7, .int 0])), (lp, .inr (5, [.int 0, vlp, .int 0]))] := hD
  have hK : va_K (dC, dI) vwCl [] s := hK
  refine W.widen (k := 0) (n := 0) (Nat.le_of_ble_eq_true rfl) (Nat.le_of_ble_eq_true rfl) ?_
  have hw : r_1 = 0 := hw
  rw [hw]
  refine W.widen (k := 0) (n := 0) (Nat.le_of_ble_eq_true rfl) (Nat.le_of_ble_eq_true rfl) ?_
  have hP9 := hP.sub (ws' := [(m0, .inr (14, [g0, .ref lp, g2, g3, g4, g5, g6, g7, .int 0]))]) [0] rfl
  have hD9 := hD.sub (ws' := [(m0, .inr (14, [g0, .ref lp, g2, g3, g4, g5, g6, g7, .int 0]))]) [0] (by decide) rfl
  have hK9 := hK.sub (tys' := []) [] rfl
  exact W.iret (v := 0) hx hb hr (fun t ht hW => ⟨⟨0, (), rfl, rfl, ⟨by rw [ht]; exact hP9, va_K.moved hW.alike hK9, hD9⟩⟩, hS.F ht⟩) hS.2.2 dX8_picks_12

set_option maxHeartbeats 4000000 in
set_option maxRecDepth 100000 in
theorem c_X8_kinds (l : Launch) (em : Nat → Nat) (dC : Nat → ClassId) (dI : Nat → Nat → Nat) (m0 : Nat) (g1 : Value) (g2 : Value) (g3 : Value) (g4 : Value) (g5 : Value) (g6 : Value) (g7 : Value) (g8 : Value) (lc : Nat) (vlc : Value) (sz : Nat) : Met l yX8_kinds wsX8_kinds ({ frames := 1, cells := 0, slots := 0, locals := 20 }) (va_Pc [.ref m0] (Pw em dC dI sz [(m0, .inr (14, [.ref lc, g1, g2, g3, g4, g5, g6, g7, g8])), (lc, .inr (5, [.int 0, vlc, .int 0]))] [])) (va_Qi (fun (r : Int32) (_ : Unit) => r = 0) (fun _ t => Qw dC dI (va_A [(m0, .inr (14, [.ref lc, g1, g2, g3, g4, g5, g6, g7, g8])), (lc, .inr (5, [.int 0, vlc, .int 0]))] sz) [(m0, .inr (14, [.ref lc, g1, g2, g3, g4, g5, g6, g7, .int 0]))] [] t) (va_A [(m0, .inr (14, [.ref lc, g1, g2, g3, g4, g5, g6, g7, g8])), (lc, .inr (5, [.int 0, vlc, .int 0]))] sz)) 0 0 (va_A [(m0, .inr (14, [.ref lc, g1, g2, g3, g4, g5, g6, g7, g8])), (lc, .inr (5, [.int 0, vlc, .int 0]))] sz) := by
  refine Met.ofW (cc := cX8_kinds) (maxL := 5) (ret := (some .int)) (by decide) rfl ?_
  intro p e s m args below meth c s₁ B hml hv
  obtain ⟨rfl, hsz, hP, hK, hD0, hamb⟩ := hv
  have hx := B.exec
  have hb := B.bytes
  have hr := B.returns
  have hts := atoms_spec (ws := wsX8_kinds) B.pre
  have hown : s.vm.findClass RX8 = some m.cls := findClass_of_methodNamed B.named
  have hlocks := B.notSynchronized
  subst hsz
  have hD := hD0.self (sz := s.heap.size)
  generalize hAe : va_A [(m0, .inr (14, [.ref lc, g1, g2, g3, g4, g5, g6, g7, g8])), (lc, .inr (5, [.int 0, vlc, .int 0]))] s.heap.size = A at hD hamb ⊢
  have hA : ∀ q : Nat, s.heap.size ≤ q → A q := fun q h => by rw [← hAe]; exact Or.inr h
  have hS : va_S A s.heap s.heap [] := va_S.rf
  have hP : va_P (dC, dI) vwCl [(m0, .inr (14, [.ref lc, g1, g2, g3, g4, g5, g6, g7, g8])), (lc, .inr (5, [.int 0, vlc, .int 0]))] s.heap := hP
  have hl := lv_entry ([.ref m0]) (n := 5) (Nat.le_of_ble_eq_true rfl)
  rw [lg_entry_eq]
  generalize (lg_sl ([.ref m0]) ++ List.replicate (5 - (lg_sl ([.ref m0])).length) Slot.unset).toArray = ls at hl ⊢
  have hl : lv_has ls 5 [(0, .ref m0)] := hl
  refine lv_aload_n hx hb dX8_kinds_0 rfl (lv_at hl 0 rfl) ?_
  refine lv_iconst (v := 0) hx hb dX8_kinds_1 (by decide) ?_
  refine va_put (D := (dC, dI)) (ci := 14) (v := .int 0) (ty := .int) (C := RX8) (T := TX8) (N := 9) hx hb hts (by decide +kernel) tyX8 tyX8_ok nmX8 hown hK hP hD hS 0 rfl rfl 8 (by decide) (hts (.fieldLink RX8 46 "BothfacesModel" "thrown" "I") (by decide +kernel)) (fun _ h9 => h9) rfl (by decide +kernel) rfl rfl (Nat.le_of_ble_eq_true rfl) dX8_kinds_2 (fun H locs hP hD hS => ?_)
  have hP : va_P (dC, dI) vwCl [(m0, .inr (14, [.ref lc, g1, g2, g3, g4, g5, g6, g7, .int 0])), (lc, .inr (5, [.int 0, vlc, .int 0]))] H := hP
  have hD : va_D A [(m0, .inr (14, [.ref lc, g1, g2, g3, g4, g5, g6, g7, .int 0])), (lc, .inr (5, [.int 0, vlc, .int 0]))] := hD
  refine lv_iconst (v := 0) hx hb dX8_kinds_5 (by decide) ?_
  refine lv_istore_n (lv' := [(1, .int 0), (0, .ref m0)]) hx hb dX8_kinds_6 rfl hl (by decide) rfl (fun ls hl => ?_)
  refine lv_iconst (v := 0) hx hb dX8_kinds_7 (by decide) ?_
  refine lv_istore_n (lv' := [(2, .int 0), (1, .int 0), (0, .ref m0)]) hx hb dX8_kinds_8 rfl hl (by decide) rfl (fun ls hl => ?_)
  refine lv_iload_n hx hb dX8_kinds_9 rfl (lv_at hl 0 rfl) ?_
  refine lv_aload_n hx hb dX8_kinds_10 rfl (lv_at hl 2 rfl) ?_
  refine va_get (D := (dC, dI)) (ci := 14) (v := .ref lc) (C := RX8) (T := TX8) (N := 9) hx hb hts (by decide +kernel) hown hK hP 0 rfl rfl 0 (by decide) (hts (.fieldLink RX8 10 "BothfacesModel" "cards" "Ljava/util/ArrayList;") (by decide +kernel)) (fun _ h9 => h9) rfl dX8_kinds_11 ?_
  have hPc := hP.sub (ws' := [(lc, .inr (5, [.int 0, vlc, .int 0]))]) [1] rfl
  have hDc := hD.sub (ws' := [(lc, .inr (5, [.int 0, vlc, .int 0]))]) [1] (by decide) rfl
  have hKc := hK.sub (tys' := []) [] rfl
  have hFc := va_free (wc := [(lc, .inr (5, [.int 0, vlc, .int 0]))]) hD hS hA [1] rfl
  refine va_calli (va_runV (As := []) (rest := [.int 0]) ⟨hx, hb, hml, hown, hts⟩ (c_Jx4a65c_size_8abf5 l em dC dI lc (.int 0) vlc H.size) (cwV 0 hts gX8_kinds_Jx4a65c_size_8abf5 rfl rfl rfl (by decide +kernel) ⟨Nat.le_of_ble_eq_true rfl, Nat.le_of_ble_eq_true rfl⟩) ⟨Pw.blind _ _ _ _ _ _ _, va_recv hKc hPc (ci := 5) (q0 := 0) rfl rfl, fun U hU hW => ⟨rfl, Pw.go hPc hKc hDc hamb hS hFc hU hW⟩⟩ rfl rfl hl.1 rfl (lv_room (Nat.le_of_ble_eq_true rfl)) dX8_kinds_14 ⟨Nat.le_of_ble_eq_true rfl, Nat.le_of_ble_eq_true rfl⟩) hS (fun q _ h => hFc q h) hFc (fun r_1 u t H1 locs1 ht hvm hw hB hz1 hk1 hS => ?_)
  obtain ⟨hP1, hK1, hD1⟩ := hB
  rw [ht] at hP1
  have hK1 := va_K.moved hvm.symm hK1
  obtain ⟨hP, hD⟩ := va_join (wr := [(m0, .inr (14, [.ref lc, g1, g2, g3, g4, g5, g6, g7, .int 0]))]) (w1 := [(lc, .inr (5, [.int 0, vlc, .int 0]))]) hP hD [1] [0] rfl rfl (by decide) (by decide) hk1 hFc hP1 hD1
  have hK := (hK.sub (tys' := []) [] rfl).app hK1
  generalize H1 = H at hP hS ⊢
  have hP : va_P (dC, dI) vwCl [(m0, .inr (14, [.ref lc, g1, g2, g3, g4, g5, g6, g7, .int 0])), (lc, .inr (5, [.int 0, vlc, .int 0]))] H := hP
  have hD : va_D A [(m0, .inr (14, [.ref lc, g1, g2, g3, g4, g5, g6, g7, .int 0])), (lc, .inr (5, [.int 0, vlc, .int 0]))] := hD
  have hK : va_K (dC, dI) vwCl [] s := hK
  refine W.widen (k := 0) (n := 0) (Nat.le_of_ble_eq_true rfl) (Nat.le_of_ble_eq_true rfl) ?_
  have hw : r_1 = 0 := hw
  rw [hw]
  refine lv_icmp_ge (tgt := 92) hx hb dX8_kinds_17 (by decide) (fun c_2 => ?_) (fun c_2 => ?_)
  · refine lv_iload_n hx hb dX8_kinds_92 rfl (lv_at hl 1 rfl) ?_
    refine W.widen (k := 0) (n := 0) (Nat.le_of_ble_eq_true rfl) (Nat.le_of_ble_eq_true rfl) ?_
    have hP9 := hP.sub (ws' := [(m0, .inr (14, [.ref lc, g1, g2, g3, g4, g5, g6, g7, .int 0]))]) [0] rfl
    have hD9 := hD.sub (ws' := [(m0, .inr (14, [.ref lc, g1, g2, g3, g4, g5, g6, g7, .int 0]))]) [0] (by decide) rfl
    have hK9 := hK.sub (tys' := []) [] rfl
    exact W.iret (v := 0) hx hb hr (fun t ht hW => ⟨⟨0, (), rfl, rfl, ⟨by rw [ht]; exact hP9, va_K.moved hW.alike hK9, hD9⟩⟩, hS.F ht⟩) hS.2.2 dX8_kinds_93
  · exact absurd (by decide) c_2

set_option maxHeartbeats 4000000 in
set_option maxRecDepth 100000 in
theorem c_X8_brings (l : Launch) (em : Nat → Nat) (dC : Nat → ClassId) (dI : Nat → Nat → Nat) (m0 : Nat) (g0 : Value) (g1 : Value) (g2 : Value) (g3 : Value) (g4 : Value) (g5 : Value) (g7 : Value) (g8 : Value) (lo : Nat) (vlo : Value) (sz : Nat) : Met l yX8_brings wsX8_brings ({ frames := 1, cells := 0, slots := 0, locals := 20 }) (va_Pc [.ref m0] (Pw em dC dI sz [(m0, .inr (14, [g0, g1, g2, g3, g4, g5, .ref lo, g7, g8])), (lo, .inr (5, [.int 0, vlo, .int 0]))] [])) (va_Qi (fun (r : Int32) (_ : Unit) => r = 0) (fun _ t => Qw dC dI (va_A [(m0, .inr (14, [g0, g1, g2, g3, g4, g5, .ref lo, g7, g8])), (lo, .inr (5, [.int 0, vlo, .int 0]))] sz) [(m0, .inr (14, [g0, g1, g2, g3, g4, g5, .ref lo, g7, .int 0]))] [] t) (va_A [(m0, .inr (14, [g0, g1, g2, g3, g4, g5, .ref lo, g7, g8])), (lo, .inr (5, [.int 0, vlo, .int 0]))] sz)) 0 0 (va_A [(m0, .inr (14, [g0, g1, g2, g3, g4, g5, .ref lo, g7, g8])), (lo, .inr (5, [.int 0, vlo, .int 0]))] sz) := by
  refine Met.ofW (cc := cX8_brings) (maxL := 3) (ret := (some .int)) (by decide) rfl ?_
  intro p e s m args below meth c s₁ B hml hv
  obtain ⟨rfl, hsz, hP, hK, hD0, hamb⟩ := hv
  have hx := B.exec
  have hb := B.bytes
  have hr := B.returns
  have hts := atoms_spec (ws := wsX8_brings) B.pre
  have hown : s.vm.findClass RX8 = some m.cls := findClass_of_methodNamed B.named
  have hlocks := B.notSynchronized
  subst hsz
  have hD := hD0.self (sz := s.heap.size)
  generalize hAe : va_A [(m0, .inr (14, [g0, g1, g2, g3, g4, g5, .ref lo, g7, g8])), (lo, .inr (5, [.int 0, vlo, .int 0]))] s.heap.size = A at hD hamb ⊢
  have hA : ∀ q : Nat, s.heap.size ≤ q → A q := fun q h => by rw [← hAe]; exact Or.inr h
  have hS : va_S A s.heap s.heap [] := va_S.rf
  have hP : va_P (dC, dI) vwCl [(m0, .inr (14, [g0, g1, g2, g3, g4, g5, .ref lo, g7, g8])), (lo, .inr (5, [.int 0, vlo, .int 0]))] s.heap := hP
  have hl := lv_entry ([.ref m0]) (n := 3) (Nat.le_of_ble_eq_true rfl)
  rw [lg_entry_eq]
  generalize (lg_sl ([.ref m0]) ++ List.replicate (3 - (lg_sl ([.ref m0])).length) Slot.unset).toArray = ls at hl ⊢
  have hl : lv_has ls 3 [(0, .ref m0)] := hl
  refine lv_aload_n hx hb dX8_brings_0 rfl (lv_at hl 0 rfl) ?_
  refine lv_iconst (v := 0) hx hb dX8_brings_1 (by decide) ?_
  refine va_put (D := (dC, dI)) (ci := 14) (v := .int 0) (ty := .int) (C := RX8) (T := TX8) (N := 9) hx hb hts (by decide +kernel) tyX8 tyX8_ok nmX8 hown hK hP hD hS 0 rfl rfl 8 (by decide) (hts (.fieldLink RX8 46 "BothfacesModel" "thrown" "I") (by decide +kernel)) (fun _ h9 => h9) rfl (by decide +kernel) rfl rfl (Nat.le_of_ble_eq_true rfl) dX8_brings_2 (fun H locs hP hD hS => ?_)
  have hP : va_P (dC, dI) vwCl [(m0, .inr (14, [g0, g1, g2, g3, g4, g5, .ref lo, g7, .int 0])), (lo, .inr (5, [.int 0, vlo, .int 0]))] H := hP
  have hD : va_D A [(m0, .inr (14, [g0, g1, g2, g3, g4, g5, .ref lo, g7, .int 0])), (lo, .inr (5, [.int 0, vlo, .int 0]))] := hD
  refine lv_iconst (v := 0) hx hb dX8_brings_5 (by decide) ?_
  refine lv_istore_n (lv' := [(1, .int 0), (0, .ref m0)]) hx hb dX8_brings_6 rfl hl (by decide) rfl (fun ls hl => ?_)
  refine lv_iconst (v := 0) hx hb dX8_brings_7 (by decide) ?_
  refine lv_istore_n (lv' := [(2, .int 0), (1, .int 0), (0, .ref m0)]) hx hb dX8_brings_8 rfl hl (by decide) rfl (fun ls hl => ?_)
  refine lv_iload_n hx hb dX8_brings_9 rfl (lv_at hl 0 rfl) ?_
  refine lv_aload_n hx hb dX8_brings_10 rfl (lv_at hl 2 rfl) ?_
  refine va_get (D := (dC, dI)) (ci := 14) (v := .ref lo) (C := RX8) (T := TX8) (N := 9) hx hb hts (by decide +kernel) hown hK hP 0 rfl rfl 6 (by decide) (hts (.fieldLink RX8 37 "BothfacesModel" "orders" "Ljava/util/ArrayList;") (by decide +kernel)) (fun _ h9 => h9) rfl dX8_brings_11 ?_
  have hPc := hP.sub (ws' := [(lo, .inr (5, [.int 0, vlo, .int 0]))]) [1] rfl
  have hDc := hD.sub (ws' := [(lo, .inr (5, [.int 0, vlo, .int 0]))]) [1] (by decide) rfl
  have hKc := hK.sub (tys' := []) [] rfl
  have hFc := va_free (wc := [(lo, .inr (5, [.int 0, vlo, .int 0]))]) hD hS hA [1] rfl
  refine va_calli (va_runV (As := []) (rest := [.int 0]) ⟨hx, hb, hml, hown, hts⟩ (c_Jx4a65c_size_8abf5 l em dC dI lo (.int 0) vlo H.size) (cwV 0 hts gX8_brings_Jx4a65c_size_8abf5 rfl rfl rfl (by decide +kernel) ⟨Nat.le_of_ble_eq_true rfl, Nat.le_of_ble_eq_true rfl⟩) ⟨Pw.blind _ _ _ _ _ _ _, va_recv hKc hPc (ci := 5) (q0 := 0) rfl rfl, fun U hU hW => ⟨rfl, Pw.go hPc hKc hDc hamb hS hFc hU hW⟩⟩ rfl rfl hl.1 rfl (lv_room (Nat.le_of_ble_eq_true rfl)) dX8_brings_14 ⟨Nat.le_of_ble_eq_true rfl, Nat.le_of_ble_eq_true rfl⟩) hS (fun q _ h => hFc q h) hFc (fun r_1 u t H1 locs1 ht hvm hw hB hz1 hk1 hS => ?_)
  obtain ⟨hP1, hK1, hD1⟩ := hB
  rw [ht] at hP1
  have hK1 := va_K.moved hvm.symm hK1
  obtain ⟨hP, hD⟩ := va_join (wr := [(m0, .inr (14, [g0, g1, g2, g3, g4, g5, .ref lo, g7, .int 0]))]) (w1 := [(lo, .inr (5, [.int 0, vlo, .int 0]))]) hP hD [1] [0] rfl rfl (by decide) (by decide) hk1 hFc hP1 hD1
  have hK := (hK.sub (tys' := []) [] rfl).app hK1
  generalize H1 = H at hP hS ⊢
  have hP : va_P (dC, dI) vwCl [(m0, .inr (14, [g0, g1, g2, g3, g4, g5, .ref lo, g7, .int 0])), (lo, .inr (5, [.int 0, vlo, .int 0]))] H := hP
  have hD : va_D A [(m0, .inr (14, [g0, g1, g2, g3, g4, g5, .ref lo, g7, .int 0])), (lo, .inr (5, [.int 0, vlo, .int 0]))] := hD
  have hK : va_K (dC, dI) vwCl [] s := hK
  refine W.widen (k := 0) (n := 0) (Nat.le_of_ble_eq_true rfl) (Nat.le_of_ble_eq_true rfl) ?_
  have hw : r_1 = 0 := hw
  rw [hw]
  refine lv_icmp_ge (tgt := 48) hx hb dX8_brings_17 (by decide) (fun c_2 => ?_) (fun c_2 => ?_)
  · refine lv_iload_n hx hb dX8_brings_48 rfl (lv_at hl 1 rfl) ?_
    refine W.widen (k := 0) (n := 0) (Nat.le_of_ble_eq_true rfl) (Nat.le_of_ble_eq_true rfl) ?_
    have hP9 := hP.sub (ws' := [(m0, .inr (14, [g0, g1, g2, g3, g4, g5, .ref lo, g7, .int 0]))]) [0] rfl
    have hD9 := hD.sub (ws' := [(m0, .inr (14, [g0, g1, g2, g3, g4, g5, .ref lo, g7, .int 0]))]) [0] (by decide) rfl
    have hK9 := hK.sub (tys' := []) [] rfl
    exact W.iret (v := 0) hx hb hr (fun t ht hW => ⟨⟨0, (), rfl, rfl, ⟨by rw [ht]; exact hP9, va_K.moved hW.alike hK9, hD9⟩⟩, hS.F ht⟩) hS.2.2 dX8_brings_49
  · exact absurd (by decide) c_2

set_option maxHeartbeats 4000000 in
set_option maxRecDepth 100000 in
theorem c_X8_bringsMost (l : Launch) (em : Nat → Nat) (dC : Nat → ClassId) (dI : Nat → Nat → Nat) (m0 : Nat) (g0 : Value) (g1 : Value) (g2 : Value) (g3 : Value) (g4 : Value) (g5 : Value) (g7 : Value) (g8 : Value) (lo : Nat) (vlo : Value) (sz : Nat) : Met l yX8_bringsMost wsX8_bringsMost ({ frames := 1, cells := 1, slots := 1, locals := 23 }) (va_Pc [.ref m0] (Pw em dC dI sz [(m0, .inr (14, [g0, g1, g2, g3, g4, g5, .ref lo, g7, g8])), (lo, .inr (5, [.int 0, vlo, .int 0]))] [])) (va_Qi (fun (r : Int32) (_ : Unit) => r = 0) (fun _ t => Qw dC dI (va_A [(m0, .inr (14, [g0, g1, g2, g3, g4, g5, .ref lo, g7, g8])), (lo, .inr (5, [.int 0, vlo, .int 0]))] sz) [(m0, .inr (14, [g0, g1, g2, g3, g4, g5, .ref lo, g7, .int 0]))] [] t) (va_A [(m0, .inr (14, [g0, g1, g2, g3, g4, g5, .ref lo, g7, g8])), (lo, .inr (5, [.int 0, vlo, .int 0]))] sz)) 1 1 (va_A [(m0, .inr (14, [g0, g1, g2, g3, g4, g5, .ref lo, g7, g8])), (lo, .inr (5, [.int 0, vlo, .int 0]))] sz) := by
  refine Met.ofW (cc := cX8_bringsMost) (maxL := 5) (ret := (some .int)) (by decide) rfl ?_
  intro p e s m args below meth c s₁ B hml hv
  obtain ⟨rfl, hsz, hP, hK, hD0, hamb⟩ := hv
  have hx := B.exec
  have hb := B.bytes
  have hr := B.returns
  have hts := atoms_spec (ws := wsX8_bringsMost) B.pre
  have hown : s.vm.findClass RX8 = some m.cls := findClass_of_methodNamed B.named
  have hlocks := B.notSynchronized
  subst hsz
  have hD := hD0.self (sz := s.heap.size)
  generalize hAe : va_A [(m0, .inr (14, [g0, g1, g2, g3, g4, g5, .ref lo, g7, g8])), (lo, .inr (5, [.int 0, vlo, .int 0]))] s.heap.size = A at hD hamb ⊢
  have hA : ∀ q : Nat, s.heap.size ≤ q → A q := fun q h => by rw [← hAe]; exact Or.inr h
  have hS : va_S A s.heap s.heap [] := va_S.rf
  have hP : va_P (dC, dI) vwCl [(m0, .inr (14, [g0, g1, g2, g3, g4, g5, .ref lo, g7, g8])), (lo, .inr (5, [.int 0, vlo, .int 0]))] s.heap := hP
  have hl := lv_entry ([.ref m0]) (n := 5) (Nat.le_of_ble_eq_true rfl)
  rw [lg_entry_eq]
  generalize (lg_sl ([.ref m0]) ++ List.replicate (5 - (lg_sl ([.ref m0])).length) Slot.unset).toArray = ls at hl ⊢
  have hl : lv_has ls 5 [(0, .ref m0)] := hl
  refine lv_aload_n hx hb dX8_bringsMost_0 rfl (lv_at hl 0 rfl) ?_
  refine lv_iconst (v := 0) hx hb dX8_bringsMost_1 (by decide) ?_
  refine va_put (D := (dC, dI)) (ci := 14) (v := .int 0) (ty := .int) (C := RX8) (T := TX8) (N := 9) hx hb hts (by decide +kernel) tyX8 tyX8_ok nmX8 hown hK hP hD hS 0 rfl rfl 8 (by decide) (hts (.fieldLink RX8 46 "BothfacesModel" "thrown" "I") (by decide +kernel)) (fun _ h9 => h9) rfl (by decide +kernel) rfl rfl (Nat.le_of_ble_eq_true rfl) dX8_bringsMost_2 (fun H locs hP hD hS => ?_)
  have hP : va_P (dC, dI) vwCl [(m0, .inr (14, [g0, g1, g2, g3, g4, g5, .ref lo, g7, .int 0])), (lo, .inr (5, [.int 0, vlo, .int 0]))] H := hP
  have hD : va_D A [(m0, .inr (14, [g0, g1, g2, g3, g4, g5, .ref lo, g7, .int 0])), (lo, .inr (5, [.int 0, vlo, .int 0]))] := hD
  refine lv_iconst (v := 1) hx hb dX8_bringsMost_5 (by decide) ?_
  refine lv_aload_n hx hb dX8_bringsMost_6 rfl (lv_at hl 0 rfl) ?_
  refine va_get (D := (dC, dI)) (ci := 14) (v := .ref lo) (C := RX8) (T := TX8) (N := 9) hx hb hts (by decide +kernel) hown hK hP 0 rfl rfl 6 (by decide) (hts (.fieldLink RX8 37 "BothfacesModel" "orders" "Ljava/util/ArrayList;") (by decide +kernel)) (fun _ h9 => h9) rfl dX8_bringsMost_7 ?_
  have hPc := hP.sub (ws' := [(lo, .inr (5, [.int 0, vlo, .int 0]))]) [1] rfl
  have hDc := hD.sub (ws' := [(lo, .inr (5, [.int 0, vlo, .int 0]))]) [1] (by decide) rfl
  have hKc := hK.sub (tys' := []) [] rfl
  have hFc := va_free (wc := [(lo, .inr (5, [.int 0, vlo, .int 0]))]) hD hS hA [1] rfl
  refine va_calli (va_runV (As := []) (rest := [.int 1]) ⟨hx, hb, hml, hown, hts⟩ (c_Jx4a65c_size_8abf5 l em dC dI lo (.int 0) vlo H.size) (cwV 0 hts gX8_bringsMost_Jx4a65c_size_8abf5 rfl rfl rfl (by decide +kernel) ⟨Nat.le_of_ble_eq_true rfl, Nat.le_of_ble_eq_true rfl⟩) ⟨Pw.blind _ _ _ _ _ _ _, va_recv hKc hPc (ci := 5) (q0 := 0) rfl rfl, fun U hU hW => ⟨rfl, Pw.go hPc hKc hDc hamb hS hFc hU hW⟩⟩ rfl rfl hl.1 rfl (lv_room (Nat.le_of_ble_eq_true rfl)) dX8_bringsMost_10 ⟨Nat.le_of_ble_eq_true rfl, Nat.le_of_ble_eq_true rfl⟩) hS (fun q _ h => hFc q h) hFc (fun r_1 u t H1 locs1 ht hvm hw hB hz1 hk1 hS => ?_)
  obtain ⟨hP1, hK1, hD1⟩ := hB
  rw [ht] at hP1
  have hK1 := va_K.moved hvm.symm hK1
  obtain ⟨hP, hD⟩ := va_join (wr := [(m0, .inr (14, [g0, g1, g2, g3, g4, g5, .ref lo, g7, .int 0]))]) (w1 := [(lo, .inr (5, [.int 0, vlo, .int 0]))]) hP hD [1] [0] rfl rfl (by decide) (by decide) hk1 hFc hP1 hD1
  have hK := (hK.sub (tys' := []) [] rfl).app hK1
  generalize H1 = H at hP hS ⊢
  have hP : va_P (dC, dI) vwCl [(m0, .inr (14, [g0, g1, g2, g3, g4, g5, .ref lo, g7, .int 0])), (lo, .inr (5, [.int 0, vlo, .int 0]))] H := hP
  have hD : va_D A [(m0, .inr (14, [g0, g1, g2, g3, g4, g5, .ref lo, g7, .int 0])), (lo, .inr (5, [.int 0, vlo, .int 0]))] := hD
  have hK : va_K (dC, dI) vwCl [] s := hK
  refine W.widen (k := 0) (n := 0) (Nat.le_of_ble_eq_true rfl) (Nat.le_of_ble_eq_true rfl) ?_
  have hw : r_1 = 0 := hw
  rw [hw]
  refine lv_ishl hx hb dX8_bringsMost_13 ?_
  refine lv_topi (fun k_2 ek_2 => ?_)
  obtain rfl : k_2 = 1 := ek_2.trans (by decide)
  refine va_newa (atype := .int) (ty := .int) (a0 := (1, .inl (fun _ => 0))) hx hb (hts (.arrayClass .int) (by decide +kernel)) rfl hK hP hD hS hA (fun _ => rfl) (by decide) rfl (Nat.le_of_ble_eq_true rfl) (Nat.le_of_ble_eq_true rfl) (Nat.le_of_ble_eq_true rfl) dX8_bringsMost_14 (fun q_3 cA_4 H hK hP hD hS => ?_)
  have hP : va_P (dC, dI) vwCl [(m0, .inr (14, [g0, g1, g2, g3, g4, g5, .ref lo, g7, .int 0])), (lo, .inr (5, [.int 0, vlo, .int 0])), (q_3, .inl (cA_4, 1, .inl (fun _ => 0)))] H := hP
  have hD : va_D A [(m0, .inr (14, [g0, g1, g2, g3, g4, g5, .ref lo, g7, .int 0])), (lo, .inr (5, [.int 0, vlo, .int 0])), (q_3, .inl (cA_4, 1, .inl (fun _ => 0)))] := hD
  have hK : va_K (dC, dI) vwCl [(cA_4, .int)] s := hK
  refine W.widen (k := 1) (n := 1) (Nat.le_of_ble_eq_true rfl) (Nat.le_of_ble_eq_true rfl) ?_
  refine lv_astore_n (lv' := [(1, .ref q_3), (0, .ref m0)]) hx hb dX8_bringsMost_16 rfl hl (by decide) rfl (fun ls hl => ?_)
  refine lv_aload_n hx hb dX8_bringsMost_17 rfl (lv_at hl 0 rfl) ?_
  refine lv_iconst (v := (-1)) hx hb dX8_bringsMost_18 (by decide) ?_
  have hPc := hP.sub (ws' := [(q_3, .inl (cA_4, 1, .inl (fun _ => 0)))]) [2] rfl
  have hDc := hD.sub (ws' := [(q_3, .inl (cA_4, 1, .inl (fun _ => 0)))]) [2] (by decide) rfl
  have hKc := hK.sub (tys' := [(cA_4, .int)]) [0] rfl
  have hFc := va_free (wc := [(q_3, .inl (cA_4, 1, .inl (fun _ => 0)))]) hD hS hA [2] rfl
  refine va_callv (va_runS (As := [.ref q_3, .int (-1)]) (rest := []) ⟨hx, hb, hml, hown, hts⟩ (c_J7_fill_53178 l em dC dI q_3 cA_4 (-1) H.size) (va_cwS 2 hts gX8_bringsMost_J7_fill_53178 rfl rfl rfl (by decide +kernel) ⟨Nat.le_of_ble_eq_true rfl, Nat.le_of_ble_eq_true rfl⟩) ⟨Pw.blind _ _ _ _ _ _ _, fun U hU hW => ⟨rfl, Pw.go hPc hKc hDc hamb hS hFc hU hW⟩⟩ rfl rfl hl.1 rfl (lv_room (Nat.le_of_ble_eq_true rfl)) dX8_bringsMost_19 ⟨Nat.le_of_ble_eq_true rfl, Nat.le_of_ble_eq_true rfl⟩) hS (fun q _ h => hFc q h) hFc (fun u t H1 locs1 ht hvm hw hB hz1 hk1 hS => ?_)
  obtain ⟨hP1, hK1, hD1⟩ := hB
  rw [ht] at hP1
  have hK1 := va_K.moved hvm.symm hK1
  obtain ⟨hP, hD⟩ := va_join (wr := [(m0, .inr (14, [g0, g1, g2, g3, g4, g5, .ref lo, g7, .int 0])), (lo, .inr (5, [.int 0, vlo, .int 0]))]) (w1 := [(q_3, .inl (cA_4, 1, .inl (upd (fun _ => 0) 0 (-1))))]) hP hD [2] [0, 1] rfl rfl (by decide) (by decide) hk1 hFc hP1 hD1
  have hK := (hK.sub (tys' := []) [] rfl).app hK1
  generalize H1 = H at hP hS ⊢
  have hP : va_P (dC, dI) vwCl [(m0, .inr (14, [g0, g1, g2, g3, g4, g5, .ref lo, g7, .int 0])), (lo, .inr (5, [.int 0, vlo, .int 0])), (q_3, .inl (cA_4, 1, .inl (upd (fun _ => 0) 0 (-1))))] H := hP
  have hD : va_D A [(m0, .inr (14, [g0, g1, g2, g3, g4, g5, .ref lo, g7, .int 0])), (lo, .inr (5, [.int 0, vlo, .int 0])), (q_3, .inl (cA_4, 1, .inl (upd (fun _ => 0) 0 (-1))))] := hD
  have hK : va_K (dC, dI) vwCl [(cA_4, .int)] s := hK
  refine W.widen (k := 1) (n := 1) (Nat.le_of_ble_eq_true rfl) (Nat.le_of_ble_eq_true rfl) ?_
  refine lv_aload_n hx hb dX8_bringsMost_22 rfl (lv_at hl 0 rfl) ?_
  refine lv_iconst (v := 0) hx hb dX8_bringsMost_23 (by decide) ?_
  refine lv_iconst (v := 0) hx hb dX8_bringsMost_24 (by decide) ?_
  refine va_iast hx hb hK hP hD hS 2 0 rfl rfl (vp_in_iff.mpr ⟨by decide, by decide⟩) dX8_bringsMost_25 (fun H locs hP hD hS => ?_)
  have hP : va_P (dC, dI) vwCl [(m0, .inr (14, [g0, g1, g2, g3, g4, g5, .ref lo, g7, .int 0])), (lo, .inr (5, [.int 0, vlo, .int 0])), (q_3, .inl (cA_4, 1, .inl (upd (upd (fun _ => 0) 0 (-1)) 0 0)))] H := hP
  have hD : va_D A [(m0, .inr (14, [g0, g1, g2, g3, g4, g5, .ref lo, g7, .int 0])), (lo, .inr (5, [.int 0, vlo, .int 0])), (q_3, .inl (cA_4, 1, .inl (upd (upd (fun _ => 0) 0 (-1)) 0 0)))] := hD
  refine lv_iconst (v := 1) hx hb dX8_bringsMost_26 (by decide) ?_
  refine lv_istore_n (lv' := [(2, .int 1), (1, .ref q_3), (0, .ref m0)]) hx hb dX8_bringsMost_27 rfl hl (by decide) rfl (fun ls hl => ?_)
  refine lv_iload_n hx hb dX8_bringsMost_28 rfl (lv_at hl 0 rfl) ?_
  refine lv_aload_n hx hb dX8_bringsMost_29 rfl (lv_at hl 1 rfl) ?_
  refine va_alen hx hb hK hP 2 0 rfl rfl (v := 1) rfl dX8_bringsMost_30 ?_
  refine lv_icmp_ge (tgt := 161) hx hb dX8_bringsMost_31 (by decide) (fun c_6 => ?_) (fun c_6 => ?_)
  · refine lv_aload_n hx hb dX8_bringsMost_161 rfl (lv_at hl 1 rfl) ?_
    refine lv_aload_n hx hb dX8_bringsMost_162 rfl (lv_at hl 1 rfl) ?_
    refine va_alen hx hb hK hP 2 0 rfl rfl (v := 1) rfl dX8_bringsMost_163 ?_
    refine lv_iconst (v := 1) hx hb dX8_bringsMost_164 (by decide) ?_
    refine lv_isub hx hb dX8_bringsMost_165 ?_
    refine lv_topi (fun k_7 ek_7 => ?_)
    obtain rfl : k_7 = 0 := ek_7.trans (by decide)
    refine va_iald hx hb hK hP 2 0 rfl rfl (vp_in_iff.mpr ⟨by decide, by decide⟩) dX8_bringsMost_166 ?_
    refine lv_topi (fun k_8 ek_8 => ?_)
    obtain rfl : k_8 = 0 := ek_8.trans rfl
    refine W.widen (k := 1) (n := 1) (Nat.le_of_ble_eq_true rfl) (Nat.le_of_ble_eq_true rfl) ?_
    have hP9 := hP.sub (ws' := [(m0, .inr (14, [g0, g1, g2, g3, g4, g5, .ref lo, g7, .int 0]))]) [0] rfl
    have hD9 := hD.sub (ws' := [(m0, .inr (14, [g0, g1, g2, g3, g4, g5, .ref lo, g7, .int 0]))]) [0] (by decide) rfl
    have hK9 := hK.sub (tys' := []) [] rfl
    exact W.iret (v := 0) hx hb hr (fun t ht hW => ⟨⟨0, (), rfl, rfl, ⟨by rw [ht]; exact hP9, va_K.moved hW.alike hK9, hD9⟩⟩, hS.F ht⟩) hS.2.2 dX8_bringsMost_167
  · exact absurd (by decide) c_6

set_option maxHeartbeats 4000000 in
set_option maxRecDepth 100000 in
theorem c_X8_isSound (l : Launch) (em : Nat → Nat) (dC : Nat → ClassId) (dI : Nat → Nat → Nat) (m0 : Nat) (g0 : Value) (g1 : Value) (g2 : Value) (g3 : Value) (g4 : Value) (g5 : Value) (g6 : Value) (g7 : Value) (g8 : Value) (sz : Nat) : Met l yX8_isSound wsX8_isSound ({ frames := 0, cells := 0, slots := 0, locals := 0 }) (va_Pc [.ref m0] (Pw em dC dI sz [(m0, .inr (14, [g0, g1, g2, g3, g4, g5, g6, g7, g8]))] [])) (va_Qi (fun (r : Int32) (_ : Unit) => r = 1) (fun _ t => Qw dC dI (va_A [(m0, .inr (14, [g0, g1, g2, g3, g4, g5, g6, g7, g8]))] sz) [(m0, .inr (14, [g0, g1, g2, g3, g4, g5, g6, g7, .int 0]))] [] t) (va_A [(m0, .inr (14, [g0, g1, g2, g3, g4, g5, g6, g7, g8]))] sz)) 0 0 (va_A [(m0, .inr (14, [g0, g1, g2, g3, g4, g5, g6, g7, g8]))] sz) := by
  refine Met.ofW (cc := cX8_isSound) (maxL := 1) (ret := (some .boolean)) (by decide) rfl ?_
  intro p e s m args below meth c s₁ B hml hv
  obtain ⟨rfl, hsz, hP, hK, hD0, hamb⟩ := hv
  have hx := B.exec
  have hb := B.bytes
  have hr := B.returns
  have hts := atoms_spec (ws := wsX8_isSound) B.pre
  have hown : s.vm.findClass RX8 = some m.cls := findClass_of_methodNamed B.named
  have hlocks := B.notSynchronized
  subst hsz
  have hD := hD0.self (sz := s.heap.size)
  generalize hAe : va_A [(m0, .inr (14, [g0, g1, g2, g3, g4, g5, g6, g7, g8]))] s.heap.size = A at hD hamb ⊢
  have hA : ∀ q : Nat, s.heap.size ≤ q → A q := fun q h => by rw [← hAe]; exact Or.inr h
  have hS : va_S A s.heap s.heap [] := va_S.rf
  have hP : va_P (dC, dI) vwCl [(m0, .inr (14, [g0, g1, g2, g3, g4, g5, g6, g7, g8]))] s.heap := hP
  have hl := lv_entry ([.ref m0]) (n := 1) (Nat.le_of_ble_eq_true rfl)
  rw [lg_entry_eq]
  generalize (lg_sl ([.ref m0]) ++ List.replicate (1 - (lg_sl ([.ref m0])).length) Slot.unset).toArray = ls at hl ⊢
  have hl : lv_has ls 1 [(0, .ref m0)] := hl
  refine lv_aload_n hx hb dX8_isSound_0 rfl (lv_at hl 0 rfl) ?_
  refine lv_iconst (v := 0) hx hb dX8_isSound_1 (by decide) ?_
  refine va_put (D := (dC, dI)) (ci := 14) (v := .int 0) (ty := .int) (C := RX8) (T := TX8) (N := 9) hx hb hts (by decide +kernel) tyX8 tyX8_ok nmX8 hown hK hP hD hS 0 rfl rfl 8 (by decide) (hts (.fieldLink RX8 46 "BothfacesModel" "thrown" "I") (by decide +kernel)) (fun _ h9 => h9) rfl (by decide +kernel) rfl rfl (Nat.le_of_ble_eq_true rfl) dX8_isSound_2 (fun H locs hP hD hS => ?_)
  have hP : va_P (dC, dI) vwCl [(m0, .inr (14, [g0, g1, g2, g3, g4, g5, g6, g7, .int 0]))] H := hP
  have hD : va_D A [(m0, .inr (14, [g0, g1, g2, g3, g4, g5, g6, g7, .int 0]))] := hD
  refine lv_iconst (v := 1) hx hb dX8_isSound_5 (by decide) ?_
  refine W.widen (k := 0) (n := 0) (Nat.le_of_ble_eq_true rfl) (Nat.le_of_ble_eq_true rfl) ?_
  have hP9 := hP.sub (ws' := [(m0, .inr (14, [g0, g1, g2, g3, g4, g5, g6, g7, .int 0]))]) [0] rfl
  have hD9 := hD.sub (ws' := [(m0, .inr (14, [g0, g1, g2, g3, g4, g5, g6, g7, .int 0]))]) [0] (by decide) rfl
  have hK9 := hK.sub (tys' := []) [] rfl
  exact W.zret (v := 1) hx hb hr rfl (fun t ht hW => ⟨⟨1, (), rfl, rfl, ⟨by rw [ht]; exact hP9, va_K.moved hW.alike hK9, hD9⟩⟩, hS.F ht⟩) hS.2.2 dX8_isSound_6

set_option maxHeartbeats 4000000 in
set_option maxRecDepth 100000 in
theorem c_X8_faults (l : Launch) (em : Nat → Nat) (dC : Nat → ClassId) (dI : Nat → Nat → Nat) (m0 : Nat) (p0 : Int32) (g2 : Value) (g3 : Value) (g4 : Value) (g5 : Value) (g6 : Value) (g7 : Value) (g8 : Value) (lc : Nat) (vlc : Value) (lp : Nat) (vlp : Value) (sz : Nat) : Met l yX8_faults wsX8_faults ({ frames := 2, cells := 0, slots := 0, locals := 44 }) (va_Pc [.ref m0, .int p0] (Pw em dC dI sz [(m0, .inr (14, [.ref lc, .ref lp, g2, g3, g4, g5, g6, g7, g8])), (lc, .inr (5, [.int 0, vlc, .int 0])), (lp, .inr (5, [.int 0, vlp, .int 0]))] [])) (va_Qi (fun (r : Int32) (_ : Unit) => r = 0) (fun _ t => Qw dC dI (va_A [(m0, .inr (14, [.ref lc, .ref lp, g2, g3, g4, g5, g6, g7, g8])), (lc, .inr (5, [.int 0, vlc, .int 0])), (lp, .inr (5, [.int 0, vlp, .int 0]))] sz) [(m0, .inr (14, [.ref lc, .ref lp, g2, g3, g4, g5, g6, g7, .int 0]))] [] t) (va_A [(m0, .inr (14, [.ref lc, .ref lp, g2, g3, g4, g5, g6, g7, g8])), (lc, .inr (5, [.int 0, vlc, .int 0])), (lp, .inr (5, [.int 0, vlp, .int 0]))] sz)) 0 0 (va_A [(m0, .inr (14, [.ref lc, .ref lp, g2, g3, g4, g5, g6, g7, g8])), (lc, .inr (5, [.int 0, vlc, .int 0])), (lp, .inr (5, [.int 0, vlp, .int 0]))] sz) := by
  refine Met.ofW (cc := cX8_faults) (maxL := 2) (ret := (some .int)) (by decide) rfl ?_
  intro p e s m args below meth c s₁ B hml hv
  obtain ⟨rfl, hsz, hP, hK, hD0, hamb⟩ := hv
  have hx := B.exec
  have hb := B.bytes
  have hr := B.returns
  have hts := atoms_spec (ws := wsX8_faults) B.pre
  have hown : s.vm.findClass RX8 = some m.cls := findClass_of_methodNamed B.named
  have hlocks := B.notSynchronized
  subst hsz
  have hD := hD0.self (sz := s.heap.size)
  generalize hAe : va_A [(m0, .inr (14, [.ref lc, .ref lp, g2, g3, g4, g5, g6, g7, g8])), (lc, .inr (5, [.int 0, vlc, .int 0])), (lp, .inr (5, [.int 0, vlp, .int 0]))] s.heap.size = A at hD hamb ⊢
  have hA : ∀ q : Nat, s.heap.size ≤ q → A q := fun q h => by rw [← hAe]; exact Or.inr h
  have hS : va_S A s.heap s.heap [] := va_S.rf
  have hP : va_P (dC, dI) vwCl [(m0, .inr (14, [.ref lc, .ref lp, g2, g3, g4, g5, g6, g7, g8])), (lc, .inr (5, [.int 0, vlc, .int 0])), (lp, .inr (5, [.int 0, vlp, .int 0]))] s.heap := hP
  have hl := lv_entry ([.ref m0, .int p0]) (n := 2) (Nat.le_of_ble_eq_true rfl)
  rw [lg_entry_eq]
  generalize (lg_sl ([.ref m0, .int p0]) ++ List.replicate (2 - (lg_sl ([.ref m0, .int p0])).length) Slot.unset).toArray = ls at hl ⊢
  have hl : lv_has ls 2 [(0, .ref m0), (1, .int p0)] := hl
  refine lv_aload_n hx hb dX8_faults_0 rfl (lv_at hl 0 rfl) ?_
  refine lv_iconst (v := 0) hx hb dX8_faults_1 (by decide) ?_
  refine va_put (D := (dC, dI)) (ci := 14) (v := .int 0) (ty := .int) (C := RX8) (T := TX8) (N := 9) hx hb hts (by decide +kernel) tyX8 tyX8_ok nmX8 hown hK hP hD hS 0 rfl rfl 8 (by decide) (hts (.fieldLink RX8 46 "BothfacesModel" "thrown" "I") (by decide +kernel)) (fun _ h9 => h9) rfl (by decide +kernel) rfl rfl (Nat.le_of_ble_eq_true rfl) dX8_faults_2 (fun H locs hP hD hS => ?_)
  have hP : va_P (dC, dI) vwCl [(m0, .inr (14, [.ref lc, .ref lp, g2, g3, g4, g5, g6, g7, .int 0])), (lc, .inr (5, [.int 0, vlc, .int 0])), (lp, .inr (5, [.int 0, vlp, .int 0]))] H := hP
  have hD : va_D A [(m0, .inr (14, [.ref lc, .ref lp, g2, g3, g4, g5, g6, g7, .int 0])), (lc, .inr (5, [.int 0, vlc, .int 0])), (lp, .inr (5, [.int 0, vlp, .int 0]))] := hD
  refine lv_aload_n hx hb dX8_faults_5 rfl (lv_at hl 0 rfl) ?_
  refine lv_iload_n hx hb dX8_faults_6 rfl (lv_at hl 1 rfl) ?_
  have hPc := hP.sub (ws' := [(m0, .inr (14, [.ref lc, .ref lp, g2, g3, g4, g5, g6, g7, .int 0])), (lc, .inr (5, [.int 0, vlc, .int 0])), (lp, .inr (5, [.int 0, vlp, .int 0]))]) [0, 1, 2] rfl
  have hDc := hD.sub (ws' := [(m0, .inr (14, [.ref lc, .ref lp, g2, g3, g4, g5, g6, g7, .int 0])), (lc, .inr (5, [.int 0, vlc, .int 0])), (lp, .inr (5, [.int 0, vlp, .int 0]))]) [0, 1, 2] (by decide) rfl
  have hKc := hK.sub (tys' := []) [] rfl
  have hFc := va_free (wc := [(m0, .inr (14, [.ref lc, .ref lp, g2, g3, g4, g5, g6, g7, .int 0])), (lc, .inr (5, [.int 0, vlc, .int 0])), (lp, .inr (5, [.int 0, vlp, .int 0]))]) hD hS hA [0, 1, 2] rfl
  refine va_calli (va_runV (As := [.int p0]) (rest := []) ⟨hx, hb, hml, hown, hts⟩ (c_X8_faultsOn l em dC dI m0 p0 g2 g3 g4 g5 g6 g7 (.int 0) lc vlc lp vlp H.size) (cwV 1 hts gX8_faults_X8_faultsOn rfl rfl rfl (by decide +kernel) ⟨Nat.le_of_ble_eq_true rfl, Nat.le_of_ble_eq_true rfl⟩) ⟨Pw.blind _ _ _ _ _ _ _, va_recv hKc hPc (ci := 14) (q0 := 0) rfl rfl, fun U hU hW => ⟨rfl, Pw.go hPc hKc hDc hamb hS hFc hU hW⟩⟩ rfl rfl hl.1 rfl (lv_room (Nat.le_of_ble_eq_true rfl)) dX8_faults_7 ⟨Nat.le_of_ble_eq_true rfl, Nat.le_of_ble_eq_true rfl⟩) hS (fun q _ h => hFc q h) hFc (fun r_1 u t H1 locs1 ht hvm hw hB hz1 hk1 hS => ?_)
  obtain ⟨hP1, hK1, hD1⟩ := hB
  rw [ht] at hP1
  have hK1 := va_K.moved hvm.symm hK1
  obtain ⟨hP, hD⟩ := va_join (wr := []) (w1 := [(m0, .inr (14, [.ref lc, .ref lp, g2, g3, g4, g5, g6, g7, .int 0])), (lc, .inr (5, [.int 0, vlc, .int 0])), (lp, .inr (5, [.int 0, vlp, .int 0]))]) hP hD [0, 1, 2] [] rfl rfl (by decide) (by decide) hk1 hFc hP1 hD1
  have hK := (hK.sub (tys' := []) [] rfl).app hK1
  generalize H1 = H at hP hS ⊢
  have hP : va_P (dC, dI) vwCl [(m0, .inr (14, [.ref lc, .ref lp, g2, g3, g4, g5, g6, g7, .int 0])), (lc, .inr (5, [.int 0, vlc, .int 0])), (lp, .inr (5, [.int 0, vlp, .int 0]))] H := hP
  have hD : va_D A [(m0, .inr (14, [.ref lc, .ref lp, g2, g3, g4, g5, g6, g7, .int 0])), (lc, .inr (5, [.int 0, vlc, .int 0])), (lp, .inr (5, [.int 0, vlp, .int 0]))] := hD
  have hK : va_K (dC, dI) vwCl [] s := hK
  refine W.widen (k := 0) (n := 0) (Nat.le_of_ble_eq_true rfl) (Nat.le_of_ble_eq_true rfl) ?_
  have hw : r_1 = 0 := hw
  rw [hw]
  refine W.widen (k := 0) (n := 0) (Nat.le_of_ble_eq_true rfl) (Nat.le_of_ble_eq_true rfl) ?_
  have hP9 := hP.sub (ws' := [(m0, .inr (14, [.ref lc, .ref lp, g2, g3, g4, g5, g6, g7, .int 0]))]) [0] rfl
  have hD9 := hD.sub (ws' := [(m0, .inr (14, [.ref lc, .ref lp, g2, g3, g4, g5, g6, g7, .int 0]))]) [0] (by decide) rfl
  have hK9 := hK.sub (tys' := []) [] rfl
  exact W.iret (v := 0) hx hb hr (fun t ht hW => ⟨⟨0, (), rfl, rfl, ⟨by rw [ht]; exact hP9, va_K.moved hW.alike hK9, hD9⟩⟩, hS.F ht⟩) hS.2.2 dX8_faults_10

set_option maxHeartbeats 4000000 in
set_option maxRecDepth 100000 in
theorem c_X8_checksum (l : Launch) (em : Nat → Nat) (dC : Nat → ClassId) (dI : Nat → Nat → Nat) (m0 : Nat) (g2 : Value) (g3 : Value) (g4 : Value) (g5 : Value) (g7 : Value) (g8 : Value) (lc : Nat) (vlc : Value) (lp : Nat) (vlp : Value) (lo : Nat) (vlo : Value) (sz : Nat) : Met l yX8_checksum wsX8_checksum ({ frames := 3, cells := 1, slots := 4, locals := 53 }) (va_Pc [.ref m0] (Pw em dC dI sz [(m0, .inr (14, [.ref lc, .ref lp, g2, g3, g4, g5, .ref lo, g7, g8])), (lc, .inr (5, [.int 0, vlc, .int 0])), (lp, .inr (5, [.int 0, vlp, .int 0])), (lo, .inr (5, [.int 0, vlo, .int 0]))] [])) (va_Ql (fun (r : Int64) (_ : Unit) => r = 217) (fun _ t => Qw dC dI (va_A [(m0, .inr (14, [.ref lc, .ref lp, g2, g3, g4, g5, .ref lo, g7, g8])), (lc, .inr (5, [.int 0, vlc, .int 0])), (lp, .inr (5, [.int 0, vlp, .int 0])), (lo, .inr (5, [.int 0, vlo, .int 0]))] sz) [(m0, .inr (14, [.ref lc, .ref lp, g2, g3, g4, g5, .ref lo, g7, .int 0]))] [] t) (va_A [(m0, .inr (14, [.ref lc, .ref lp, g2, g3, g4, g5, .ref lo, g7, g8])), (lc, .inr (5, [.int 0, vlc, .int 0])), (lp, .inr (5, [.int 0, vlp, .int 0])), (lo, .inr (5, [.int 0, vlo, .int 0]))] sz)) 1 4 (va_A [(m0, .inr (14, [.ref lc, .ref lp, g2, g3, g4, g5, .ref lo, g7, g8])), (lc, .inr (5, [.int 0, vlc, .int 0])), (lp, .inr (5, [.int 0, vlp, .int 0])), (lo, .inr (5, [.int 0, vlo, .int 0]))] sz) := by
  refine Met.ofW (cc := cX8_checksum) (maxL := 5) (ret := (some .long)) (by decide) rfl ?_
  intro p e s m args below meth c s₁ B hml hv
  obtain ⟨rfl, hsz, hP, hK, hD0, hamb⟩ := hv
  have hx := B.exec
  have hb := B.bytes
  have hr := B.returns
  have hts := atoms_spec (ws := wsX8_checksum) B.pre
  have hown : s.vm.findClass RX8 = some m.cls := findClass_of_methodNamed B.named
  have hlocks := B.notSynchronized
  subst hsz
  have hD := hD0.self (sz := s.heap.size)
  generalize hAe : va_A [(m0, .inr (14, [.ref lc, .ref lp, g2, g3, g4, g5, .ref lo, g7, g8])), (lc, .inr (5, [.int 0, vlc, .int 0])), (lp, .inr (5, [.int 0, vlp, .int 0])), (lo, .inr (5, [.int 0, vlo, .int 0]))] s.heap.size = A at hD hamb ⊢
  have hA : ∀ q : Nat, s.heap.size ≤ q → A q := fun q h => by rw [← hAe]; exact Or.inr h
  have hS : va_S A s.heap s.heap [] := va_S.rf
  have hP : va_P (dC, dI) vwCl [(m0, .inr (14, [.ref lc, .ref lp, g2, g3, g4, g5, .ref lo, g7, g8])), (lc, .inr (5, [.int 0, vlc, .int 0])), (lp, .inr (5, [.int 0, vlp, .int 0])), (lo, .inr (5, [.int 0, vlo, .int 0]))] s.heap := hP
  have hl := lv_entry ([.ref m0]) (n := 5) (Nat.le_of_ble_eq_true rfl)
  rw [lg_entry_eq]
  generalize (lg_sl ([.ref m0]) ++ List.replicate (5 - (lg_sl ([.ref m0])).length) Slot.unset).toArray = ls at hl ⊢
  have hl : lv_has ls 5 [(0, .ref m0)] := hl
  refine lv_aload_n hx hb dX8_checksum_0 rfl (lv_at hl 0 rfl) ?_
  refine lv_iconst (v := 0) hx hb dX8_checksum_1 (by decide) ?_
  refine va_put (D := (dC, dI)) (ci := 14) (v := .int 0) (ty := .int) (C := RX8) (T := TX8) (N := 9) hx hb hts (by decide +kernel) tyX8 tyX8_ok nmX8 hown hK hP hD hS 0 rfl rfl 8 (by decide) (hts (.fieldLink RX8 46 "BothfacesModel" "thrown" "I") (by decide +kernel)) (fun _ h9 => h9) rfl (by decide +kernel) rfl rfl (Nat.le_of_ble_eq_true rfl) dX8_checksum_2 (fun H locs hP hD hS => ?_)
  have hP : va_P (dC, dI) vwCl [(m0, .inr (14, [.ref lc, .ref lp, g2, g3, g4, g5, .ref lo, g7, .int 0])), (lc, .inr (5, [.int 0, vlc, .int 0])), (lp, .inr (5, [.int 0, vlp, .int 0])), (lo, .inr (5, [.int 0, vlo, .int 0]))] H := hP
  have hD : va_D A [(m0, .inr (14, [.ref lc, .ref lp, g2, g3, g4, g5, .ref lo, g7, .int 0])), (lc, .inr (5, [.int 0, vlc, .int 0])), (lp, .inr (5, [.int 0, vlp, .int 0])), (lo, .inr (5, [.int 0, vlo, .int 0]))] := hD
  refine lv_ldc2 (v := 7) hx hb hown (hts (.constantLong RX8 255 (7)) (by decide +kernel)) dX8_checksum_5 ?_
  refine lv_lstore_n (lv' := [(1, .long 7), (0, .ref m0)]) hx hb dX8_checksum_8 rfl hl (by decide) rfl (fun ls hl => ?_)
  refine lv_aload_n hx hb dX8_checksum_9 rfl (lv_at hl 1 rfl) ?_
  refine va_get (D := (dC, dI)) (ci := 14) (v := .ref lc) (C := RX8) (T := TX8) (N := 9) hx hb hts (by decide +kernel) hown hK hP 0 rfl rfl 0 (by decide) (hts (.fieldLink RX8 10 "BothfacesModel" "cards" "Ljava/util/ArrayList;") (by decide +kernel)) (fun _ h9 => h9) rfl dX8_checksum_10 ?_
  have hPc := hP.sub (ws' := [(lc, .inr (5, [.int 0, vlc, .int 0]))]) [1] rfl
  have hDc := hD.sub (ws' := [(lc, .inr (5, [.int 0, vlc, .int 0]))]) [1] (by decide) rfl
  have hKc := hK.sub (tys' := []) [] rfl
  have hFc := va_free (wc := [(lc, .inr (5, [.int 0, vlc, .int 0]))]) hD hS hA [1] rfl
  refine va_callr (va_runV (As := []) (rest := []) ⟨hx, hb, hml, hown, hts⟩ (c_Jx4a65c_iterator_32c93 l em dC dI lc vlc H.size) (cwV 0 hts gX8_checksum_Jx4a65c_iterator_32c93 rfl rfl rfl (by decide +kernel) ⟨Nat.le_of_ble_eq_true rfl, Nat.le_of_ble_eq_true rfl⟩) ⟨Pw.blind _ _ _ _ _ _ _, va_recv hKc hPc (ci := 5) (q0 := 0) rfl rfl, fun U hU hW => ⟨rfl, Pw.go hPc hKc hDc hamb hS hFc hU hW⟩⟩ rfl rfl hl.1 rfl (lv_room (Nat.le_of_ble_eq_true rfl)) dX8_checksum_13 ⟨Nat.le_of_ble_eq_true rfl, Nat.le_of_ble_eq_true rfl⟩) hS (fun q _ h => hFc q h) hFc (fun u ra t H1 locs1 ht hvm hw hB hz1 hk1 hS => ?_)
  generalize ra = itx_2 at hB ⊢
  obtain ⟨hP1, hK1, hD1⟩ := hB
  rw [ht] at hP1
  have hK1 := va_K.moved hvm.symm hK1
  obtain ⟨hP, hD⟩ := va_join (wr := [(m0, .inr (14, [.ref lc, .ref lp, g2, g3, g4, g5, .ref lo, g7, .int 0])), (lp, .inr (5, [.int 0, vlp, .int 0])), (lo, .inr (5, [.int 0, vlo, .int 0]))]) (w1 := [(itx_2, .inr (4, [.int 0, .int (-1), .int 0, .ref lc])), (lc, .inr (5, [.int 0, vlc, .int 0]))]) hP hD [1] [0, 2, 3] rfl rfl (by decide) (by decide) hk1 hFc hP1 hD1
  have hK := (hK.sub (tys' := []) [] rfl).app hK1
  generalize H1 = H at hP hS ⊢
  have hP : va_P (dC, dI) vwCl [(m0, .inr (14, [.ref lc, .ref lp, g2, g3, g4, g5, .ref lo, g7, .int 0])), (lp, .inr (5, [.int 0, vlp, .int 0])), (lo, .inr (5, [.int 0, vlo, .int 0])), (itx_2, .inr (4, [.int 0, .int (-1), .int 0, .ref lc])), (lc, .inr (5, [.int 0, vlc, .int 0]))] H := hP
  have hD : va_D A [(m0, .inr (14, [.ref lc, .ref lp, g2, g3, g4, g5, .ref lo, g7, .int 0])), (lp, .inr (5, [.int 0, vlp, .int 0])), (lo, .inr (5, [.int 0, vlo, .int 0])), (itx_2, .inr (4, [.int 0, .int (-1), .int 0, .ref lc])), (lc, .inr (5, [.int 0, vlc, .int 0]))] := hD
  have hK : va_K (dC, dI) vwCl [] s := hK
  refine W.widen (k := 1) (n := 4) (Nat.le_of_ble_eq_true rfl) (Nat.le_of_ble_eq_true rfl) ?_
  refine lv_astore_n (lv' := [(3, .ref itx_2), (1, .long 7), (0, .ref m0)]) hx hb dX8_checksum_16 rfl hl (by decide) rfl (fun ls hl => ?_)
  refine lv_aload_n hx hb dX8_checksum_17 rfl (lv_at hl 0 rfl) ?_
  have hPc := hP.sub (ws' := [(itx_2, .inr (4, [.int 0, .int (-1), .int 0, .ref lc])), (lc, .inr (5, [.int 0, vlc, .int 0]))]) [3, 4] rfl
  have hDc := hD.sub (ws' := [(itx_2, .inr (4, [.int 0, .int (-1), .int 0, .ref lc])), (lc, .inr (5, [.int 0, vlc, .int 0]))]) [3, 4] (by decide) rfl
  have hKc := hK.sub (tys' := []) [] rfl
  have hFc := va_free (wc := [(itx_2, .inr (4, [.int 0, .int (-1), .int 0, .ref lc])), (lc, .inr (5, [.int 0, vlc, .int 0]))]) hD hS hA [3, 4] rfl
  refine va_callFi (va_runF (hKc.1 4 _ rfl).2 (As := []) (rest := []) ⟨hx, hb, hml, hown, hts⟩ (c_Jx35411_hasNext_aae02 l em dC dI itx_2 lc vlc H.size) (va_cwF 0 hts gX8_checksum_Jx35411_hasNext_aae02_f93Jx35411 rfl rfl rfl hamb.fw (by decide +kernel) ⟨Nat.le_of_ble_eq_true rfl, Nat.le_of_ble_eq_true rfl⟩) ⟨Pw.blind _ _ _ _ _ _ _, va_recv hKc hPc (ci := 4) (q0 := 0) rfl rfl, fun U hU hW => ⟨rfl, Pw.go hPc hKc hDc hamb hS hFc hU hW⟩⟩ rfl rfl hl.1 rfl (lv_room (Nat.le_of_ble_eq_true rfl)) dX8_checksum_18 ⟨Nat.le_of_ble_eq_true rfl, Nat.le_of_ble_eq_true rfl⟩) hS (fun q _ h => hFc q h) hFc (fun r_3 u t H1 locs1 ht hvm hw hB hz1 hk1 hS => ?_)
  obtain ⟨hP1, hK1, hD1⟩ := hB
  rw [ht] at hP1
  have hK1 := va_K.moved hvm.symm hK1
  obtain ⟨hP, hD⟩ := va_join (wr := [(m0, .inr (14, [.ref lc, .ref lp, g2, g3, g4, g5, .ref lo, g7, .int 0])), (lp, .inr (5, [.int 0, vlp, .int 0])), (lo, .inr (5, [.int 0, vlo, .int 0]))]) (w1 := [(itx_2, .inr (4, [.int 0, .int (-1), .int 0, .ref lc])), (lc, .inr (5, [.int 0, vlc, .int 0]))]) hP hD [3, 4] [0, 1, 2] rfl rfl (by decide) (by decide) hk1 hFc hP1 hD1
  have hK := (hK.sub (tys' := []) [] rfl).app hK1
  generalize H1 = H at hP hS ⊢
  have hP : va_P (dC, dI) vwCl [(m0, .inr (14, [.ref lc, .ref lp, g2, g3, g4, g5, .ref lo, g7, .int 0])), (lp, .inr (5, [.int 0, vlp, .int 0])), (lo, .inr (5, [.int 0, vlo, .int 0])), (itx_2, .inr (4, [.int 0, .int (-1), .int 0, .ref lc])), (lc, .inr (5, [.int 0, vlc, .int 0]))] H := hP
  have hD : va_D A [(m0, .inr (14, [.ref lc, .ref lp, g2, g3, g4, g5, .ref lo, g7, .int 0])), (lp, .inr (5, [.int 0, vlp, .int 0])), (lo, .inr (5, [.int 0, vlo, .int 0])), (itx_2, .inr (4, [.int 0, .int (-1), .int 0, .ref lc])), (lc, .inr (5, [.int 0, vlc, .int 0]))] := hD
  have hK : va_K (dC, dI) vwCl [] s := hK
  refine W.widen (k := 1) (n := 4) (Nat.le_of_ble_eq_true rfl) (Nat.le_of_ble_eq_true rfl) ?_
  have hw : r_3 = 0 := hw
  rw [hw]
  refine lv_if_eq (tgt := 66) hx hb dX8_checksum_23 (by decide) (fun c_4 => ?_) (fun c_4 => ?_)
  · refine lv_iconst (v := 0) hx hb dX8_checksum_66 (by decide) ?_
    refine lv_istore_n (lv' := [(3, .int 0), (1, .long 7), (0, .ref m0)]) hx hb dX8_checksum_67 rfl hl (by decide) rfl (fun ls hl => ?_)
    refine lv_iload_n hx hb dX8_checksum_68 rfl (lv_at hl 0 rfl) ?_
    refine lv_aload_n hx hb dX8_checksum_69 rfl (lv_at hl 2 rfl) ?_
    refine va_get (D := (dC, dI)) (ci := 14) (v := .ref lp) (C := RX8) (T := TX8) (N := 9) hx hb hts (by decide +kernel) hown hK hP 0 rfl rfl 1 (by decide) (hts (.fieldLink RX8 16 "BothfacesModel" "picks" "Ljava/util/ArrayList;") (by decide +kernel)) (fun _ h9 => h9) rfl dX8_checksum_70 ?_
    have hPc := hP.sub (ws' := [(lp, .inr (5, [.int 0, vlp, .int 0]))]) [1] rfl
    have hDc := hD.sub (ws' := [(lp, .inr (5, [.int 0, vlp, .int 0]))]) [1] (by decide) rfl
    have hKc := hK.sub (tys' := []) [] rfl
    have hFc := va_free (wc := [(lp, .inr (5, [.int 0, vlp, .int 0]))]) hD hS hA [1] rfl
    refine va_calli (va_runV (As := []) (rest := [.int 0]) ⟨hx, hb, hml, hown, hts⟩ (c_Jx4a65c_size_8abf5 l em dC dI lp (.int 0) vlp H.size) (cwV 0 hts gX8_checksum_Jx4a65c_size_8abf5 rfl rfl rfl (by decide +kernel) ⟨Nat.le_of_ble_eq_true rfl, Nat.le_of_ble_eq_true rfl⟩) ⟨Pw.blind _ _ _ _ _ _ _, va_recv hKc hPc (ci := 5) (q0 := 0) rfl rfl, fun U hU hW => ⟨rfl, Pw.go hPc hKc hDc hamb hS hFc hU hW⟩⟩ rfl rfl hl.1 rfl (lv_room (Nat.le_of_ble_eq_true rfl)) dX8_checksum_73 ⟨Nat.le_of_ble_eq_true rfl, Nat.le_of_ble_eq_true rfl⟩) hS (fun q _ h => hFc q h) hFc (fun r_5 u t H1 locs1 ht hvm hw hB hz1 hk1 hS => ?_)
    obtain ⟨hP1, hK1, hD1⟩ := hB
    rw [ht] at hP1
    have hK1 := va_K.moved hvm.symm hK1
    obtain ⟨hP, hD⟩ := va_join (wr := [(m0, .inr (14, [.ref lc, .ref lp, g2, g3, g4, g5, .ref lo, g7, .int 0])), (lo, .inr (5, [.int 0, vlo, .int 0])), (itx_2, .inr (4, [.int 0, .int (-1), .int 0, .ref lc])), (lc, .inr (5, [.int 0, vlc, .int 0]))]) (w1 := [(lp, .inr (5, [.int 0, vlp, .int 0]))]) hP hD [1] [0, 2, 3, 4] rfl rfl (by decide) (by decide) hk1 hFc hP1 hD1
    have hK := (hK.sub (tys' := []) [] rfl).app hK1
    generalize H1 = H at hP hS ⊢
    have hP : va_P (dC, dI) vwCl [(m0, .inr (14, [.ref lc, .ref lp, g2, g3, g4, g5, .ref lo, g7, .int 0])), (lo, .inr (5, [.int 0, vlo, .int 0])), (itx_2, .inr (4, [.int 0, .int (-1), .int 0, .ref lc])), (lc, .inr (5, [.int 0, vlc, .int 0])), (lp, .inr (5, [.int 0, vlp, .int 0]))] H := hP
    have hD : va_D A [(m0, .inr (14, [.ref lc, .ref lp, g2, g3, g4, g5, .ref lo, g7, .int 0])), (lo, .inr (5, [.int 0, vlo, .int 0])), (itx_2, .inr (4, [.int 0, .int (-1), .int 0, .ref lc])), (lc, .inr (5, [.int 0, vlc, .int 0])), (lp, .inr (5, [.int 0, vlp, .int 0]))] := hD
    have hK : va_K (dC, dI) vwCl [] s := hK
    refine W.widen (k := 1) (n := 4) (Nat.le_of_ble_eq_true rfl) (Nat.le_of_ble_eq_true rfl) ?_
    have hw : r_5 = 0 := hw
    rw [hw]
    refine lv_icmp_ge (tgt := 138) hx hb dX8_checksum_76 (by decide) (fun c_6 => ?_) (fun c_6 => ?_)
    · refine lv_ldc2 (v := 31) hx hb hown (hts (.constantLong RX8 257 (31)) (by decide +kernel)) dX8_checksum_138 ?_
      refine lv_lload_n hx hb dX8_checksum_141 rfl (lv_at hl 1 rfl) ?_
      refine lv_lmul hx hb dX8_checksum_142 ?_
      refine lv_topl (fun k_7 ek_7 => ?_)
      obtain rfl : k_7 = 217 := ek_7.trans (by decide)
      refine lv_aload_n hx hb dX8_checksum_143 rfl (lv_at hl 2 rfl) ?_
      refine va_get (D := (dC, dI)) (ci := 14) (v := .ref lo) (C := RX8) (T := TX8) (N := 9) hx hb hts (by decide +kernel) hown hK hP 0 rfl rfl 6 (by decide) (hts (.fieldLink RX8 37 "BothfacesModel" "orders" "Ljava/util/ArrayList;") (by decide +kernel)) (fun _ h9 => h9) rfl dX8_checksum_144 ?_
      have hPc := hP.sub (ws' := [(lo, .inr (5, [.int 0, vlo, .int 0]))]) [1] rfl
      have hDc := hD.sub (ws' := [(lo, .inr (5, [.int 0, vlo, .int 0]))]) [1] (by decide) rfl
      have hKc := hK.sub (tys' := []) [] rfl
      have hFc := va_free (wc := [(lo, .inr (5, [.int 0, vlo, .int 0]))]) hD hS hA [1] rfl
      refine va_calli (va_runV (As := []) (rest := [.long 217]) ⟨hx, hb, hml, hown, hts⟩ (c_Jx4a65c_size_8abf5 l em dC dI lo (.int 0) vlo H.size) (cwV 0 hts gX8_checksum_Jx4a65c_size_8abf5 rfl rfl rfl (by decide +kernel) ⟨Nat.le_of_ble_eq_true rfl, Nat.le_of_ble_eq_true rfl⟩) ⟨Pw.blind _ _ _ _ _ _ _, va_recv hKc hPc (ci := 5) (q0 := 0) rfl rfl, fun U hU hW => ⟨rfl, Pw.go hPc hKc hDc hamb hS hFc hU hW⟩⟩ rfl rfl hl.1 rfl (lv_room (Nat.le_of_ble_eq_true rfl)) dX8_checksum_147 ⟨Nat.le_of_ble_eq_true rfl, Nat.le_of_ble_eq_true rfl⟩) hS (fun q _ h => hFc q h) hFc (fun r_8 u t H1 locs1 ht hvm hw hB hz1 hk1 hS => ?_)
      obtain ⟨hP1, hK1, hD1⟩ := hB
      rw [ht] at hP1
      have hK1 := va_K.moved hvm.symm hK1
      obtain ⟨hP, hD⟩ := va_join (wr := [(m0, .inr (14, [.ref lc, .ref lp, g2, g3, g4, g5, .ref lo, g7, .int 0])), (itx_2, .inr (4, [.int 0, .int (-1), .int 0, .ref lc])), (lc, .inr (5, [.int 0, vlc, .int 0])), (lp, .inr (5, [.int 0, vlp, .int 0]))]) (w1 := [(lo, .inr (5, [.int 0, vlo, .int 0]))]) hP hD [1] [0, 2, 3, 4] rfl rfl (by decide) (by decide) hk1 hFc hP1 hD1
      have hK := (hK.sub (tys' := []) [] rfl).app hK1
      generalize H1 = H at hP hS ⊢
      have hP : va_P (dC, dI) vwCl [(m0, .inr (14, [.ref lc, .ref lp, g2, g3, g4, g5, .ref lo, g7, .int 0])), (itx_2, .inr (4, [.int 0, .int (-1), .int 0, .ref lc])), (lc, .inr (5, [.int 0, vlc, .int 0])), (lp, .inr (5, [.int 0, vlp, .int 0])), (lo, .inr (5, [.int 0, vlo, .int 0]))] H := hP
      have hD : va_D A [(m0, .inr (14, [.ref lc, .ref lp, g2, g3, g4, g5, .ref lo, g7, .int 0])), (itx_2, .inr (4, [.int 0, .int (-1), .int 0, .ref lc])), (lc, .inr (5, [.int 0, vlc, .int 0])), (lp, .inr (5, [.int 0, vlp, .int 0])), (lo, .inr (5, [.int 0, vlo, .int 0]))] := hD
      have hK : va_K (dC, dI) vwCl [] s := hK
      refine W.widen (k := 1) (n := 4) (Nat.le_of_ble_eq_true rfl) (Nat.le_of_ble_eq_true rfl) ?_
      have hw : r_8 = 0 := hw
      rw [hw]
      refine lv_i2l (v := 0) hx hb dX8_checksum_150 (by decide) ?_
      refine lv_ladd hx hb dX8_checksum_151 ?_
      refine lv_topl (fun k_9 ek_9 => ?_)
      obtain rfl : k_9 = 217 := ek_9.trans (by decide)
      refine W.widen (k := 1) (n := 4) (Nat.le_of_ble_eq_true rfl) (Nat.le_of_ble_eq_true rfl) ?_
      have hP9 := hP.sub (ws' := [(m0, .inr (14, [.ref lc, .ref lp, g2, g3, g4, g5, .ref lo, g7, .int 0]))]) [0] rfl
      have hD9 := hD.sub (ws' := [(m0, .inr (14, [.ref lc, .ref lp, g2, g3, g4, g5, .ref lo, g7, .int 0]))]) [0] (by decide) rfl
      have hK9 := hK.sub (tys' := []) [] rfl
      exact W.lret (v := 217) hx hb hr (fun t ht hW => ⟨⟨217, (), rfl, rfl, ⟨by rw [ht]; exact hP9, va_K.moved hW.alike hK9, hD9⟩⟩, hS.F ht⟩) hS.2.2 dX8_checksum_152
    · exact absurd (by decide) c_6
  · exact absurd (by decide) c_4

set_option maxHeartbeats 4000000 in
set_option maxRecDepth 100000 in
theorem c_X8_turn (l : Launch) (em : Nat → Nat) (dC : Nat → ClassId) (dI : Nat → Nat → Nat) (m0 : Nat) (p0 : Int32) (p1 : Int32) (g1 : Value) (g2 : Value) (g3 : Value) (g4 : Value) (g5 : Value) (g6 : Value) (g7 : Value) (g8 : Value) (lc : Nat) (vlc : Value) (sz : Nat) : Met l yX8_turn wsX8_turn ({ frames := 3, cells := 1, slots := 4, locals := 53 }) (va_Pc [.ref m0, .int p0, .int p1] (Pw em dC dI sz [(m0, .inr (14, [.ref lc, g1, g2, g3, g4, g5, g6, g7, g8])), (lc, .inr (5, [.int 0, vlc, .int 0]))] [])) (va_Qi (fun (r : Int32) (_ : Unit) => ((p0.toInt < 0 ∨ 3 < p0.toInt) → r = 0) ∧ (¬ (p0.toInt < 0 ∨ 3 < p0.toInt) → r = 0)) (fun _ t => ∃ (tv : Int32), Qw dC dI (va_A [(m0, .inr (14, [.ref lc, g1, g2, g3, g4, g5, g6, g7, g8])), (lc, .inr (5, [.int 0, vlc, .int 0]))] sz) [(m0, .inr (14, [.ref lc, g1, g2, g3, g4, g5, g6, g7, .int tv]))] [] t ∧ ((p0.toInt < 0 ∨ 3 < p0.toInt) → tv = 1) ∧ (¬ (p0.toInt < 0 ∨ 3 < p0.toInt) → tv = 0)) (va_A [(m0, .inr (14, [.ref lc, g1, g2, g3, g4, g5, g6, g7, g8])), (lc, .inr (5, [.int 0, vlc, .int 0]))] sz)) 1 4 (va_A [(m0, .inr (14, [.ref lc, g1, g2, g3, g4, g5, g6, g7, g8])), (lc, .inr (5, [.int 0, vlc, .int 0]))] sz) := by
  refine Met.ofW (cc := cX8_turn) (maxL := 6) (ret := (some .int)) (by decide) rfl ?_
  intro p e s m args below meth c s₁ B hml hv
  obtain ⟨rfl, hsz, hP, hK, hD0, hamb⟩ := hv
  have hx := B.exec
  have hb := B.bytes
  have hr := B.returns
  have hts := atoms_spec (ws := wsX8_turn) B.pre
  have hown : s.vm.findClass RX8 = some m.cls := findClass_of_methodNamed B.named
  have hlocks := B.notSynchronized
  subst hsz
  have hD := hD0.self (sz := s.heap.size)
  generalize hAe : va_A [(m0, .inr (14, [.ref lc, g1, g2, g3, g4, g5, g6, g7, g8])), (lc, .inr (5, [.int 0, vlc, .int 0]))] s.heap.size = A at hD hamb ⊢
  have hA : ∀ q : Nat, s.heap.size ≤ q → A q := fun q h => by rw [← hAe]; exact Or.inr h
  have hS : va_S A s.heap s.heap [] := va_S.rf
  have hP : va_P (dC, dI) vwCl [(m0, .inr (14, [.ref lc, g1, g2, g3, g4, g5, g6, g7, g8])), (lc, .inr (5, [.int 0, vlc, .int 0]))] s.heap := hP
  have hl := lv_entry ([.ref m0, .int p0, .int p1]) (n := 6) (Nat.le_of_ble_eq_true rfl)
  rw [lg_entry_eq]
  generalize (lg_sl ([.ref m0, .int p0, .int p1]) ++ List.replicate (6 - (lg_sl ([.ref m0, .int p0, .int p1])).length) Slot.unset).toArray = ls at hl ⊢
  have hl : lv_has ls 6 [(0, .ref m0), (1, .int p0), (2, .int p1)] := hl
  refine lv_aload_n hx hb dX8_turn_0 rfl (lv_at hl 0 rfl) ?_
  refine lv_iload_n hx hb dX8_turn_1 rfl (lv_at hl 1 rfl) ?_
  refine lv_iconst (v := 0) hx hb dX8_turn_2 (by decide) ?_
  refine lv_iconst (v := 3) hx hb dX8_turn_3 (by decide) ?_
  have hPc := hP.sub (ws' := []) [] rfl
  have hDc := hD.sub (ws' := []) [] (by decide) rfl
  have hKc := hK.sub (tys' := []) [] rfl
  have hFc := va_free (wc := []) hD hS hA [] rfl
  refine va_calli (va_runS (As := [.int p0, .int 0, .int 3]) (rest := [.ref m0]) ⟨hx, hb, hml, hown, hts⟩ (c_X8_isIn_0_3 l em dC dI p0 s.heap.size) (va_cwS 3 hts gX8_turn_X8_isIn rfl rfl rfl (by decide +kernel) ⟨Nat.le_of_ble_eq_true rfl, Nat.le_of_ble_eq_true rfl⟩) ⟨Pw.blind _ _ _ _ _ _ _, fun U hU hW => ⟨rfl, Pw.go hPc hKc hDc hamb hS hFc hU hW⟩⟩ rfl rfl hl.1 rfl (lv_room (Nat.le_of_ble_eq_true rfl)) dX8_turn_4 ⟨Nat.le_of_ble_eq_true rfl, Nat.le_of_ble_eq_true rfl⟩) hS (fun q _ h => hFc q h) hFc (fun r_1 u t H1 locs1 ht hvm hw hB hz1 hk1 hS => ?_)
  obtain ⟨hP, hD⟩ := va_rest (wr := [(m0, .inr (14, [.ref lc, g1, g2, g3, g4, g5, g6, g7, g8])), (lc, .inr (5, [.int 0, vlc, .int 0]))]) hP hD [] [0, 1] rfl rfl (by decide) (by decide) hk1 hFc
  generalize H1 = H at hP hS ⊢
  refine W.widen (k := 0) (n := 0) (Nat.le_of_ble_eq_true rfl) (Nat.le_of_ble_eq_true rfl) ?_
  have hw : ((0 ≤ p0.toInt ∧ p0.toInt ≤ 3) → r_1 = 1) ∧ (¬ (0 ≤ p0.toInt ∧ p0.toInt ≤ 3) → r_1 = 0) := hw
  rcases Classical.em (0 ≤ p0.toInt ∧ p0.toInt ≤ 3) with t_2 | t_2
  · have hw := hw.1 t_2
    rw [hw]
    refine lv_if_ne (tgt := 14) hx hb dX8_turn_7 (by decide) (fun c_3 => ?_) (fun c_3 => ?_)
    · refine lv_iconst (v := 0) hx hb dX8_turn_14 (by decide) ?_
      refine lv_iconst (v := 1) hx hb dX8_turn_15 (by decide) ?_
      have hPc := hP.sub (ws' := [(m0, .inr (14, [.ref lc, g1, g2, g3, g4, g5, g6, g7, g8]))]) [0] rfl
      have hDc := hD.sub (ws' := [(m0, .inr (14, [.ref lc, g1, g2, g3, g4, g5, g6, g7, g8]))]) [0] (by decide) rfl
      have hKc := hK.sub (tys' := []) [] rfl
      have hFc := va_free (wc := [(m0, .inr (14, [.ref lc, g1, g2, g3, g4, g5, g6, g7, g8]))]) hD hS hA [0] rfl
      refine va_calli (va_runV (As := [.int 0, .int 1]) (rest := []) ⟨hx, hb, hml, hown, hts⟩ (c_X8_isThrown_0 l em dC dI m0 1 (.ref lc) g1 g2 g3 g4 g5 g6 g7 g8 H.size) (cwV 2 hts gX8_turn_X8_isThrown rfl rfl rfl (by decide +kernel) ⟨Nat.le_of_ble_eq_true rfl, Nat.le_of_ble_eq_true rfl⟩) ⟨Pw.blind _ _ _ _ _ _ _, va_recv hKc hPc (ci := 14) (q0 := 0) rfl rfl, fun U hU hW => ⟨rfl, Pw.go hPc hKc hDc hamb hS hFc hU hW⟩⟩ rfl rfl hl.1 rfl (lv_room (Nat.le_of_ble_eq_true rfl)) dX8_turn_16 ⟨Nat.le_of_ble_eq_true rfl, Nat.le_of_ble_eq_true rfl⟩) hS (fun q _ h => hFc q h) hFc (fun r_4 u t H1 locs1 ht hvm hw hB hz1 hk1 hS => ?_)
      obtain ⟨hP1, hK1, hD1⟩ := hB
      rw [ht] at hP1
      have hK1 := va_K.moved hvm.symm hK1
      obtain ⟨hP, hD⟩ := va_join (wr := [(lc, .inr (5, [.int 0, vlc, .int 0]))]) (w1 := [(m0, .inr (14, [.ref lc, g1, g2, g3, g4, g5, g6, g7, .int 0]))]) hP hD [0] [1] rfl rfl (by decide) (by decide) hk1 hFc hP1 hD1
      have hK := (hK.sub (tys' := []) [] rfl).app hK1
      generalize H1 = H at hP hS ⊢
      have hP : va_P (dC, dI) vwCl [(lc, .inr (5, [.int 0, vlc, .int 0])), (m0, .inr (14, [.ref lc, g1, g2, g3, g4, g5, g6, g7, .int 0]))] H := hP
      have hD : va_D A [(lc, .inr (5, [.int 0, vlc, .int 0])), (m0, .inr (14, [.ref lc, g1, g2, g3, g4, g5, g6, g7, .int 0]))] := hD
      have hK : va_K (dC, dI) vwCl [] s := hK
      refine W.widen (k := 0) (n := 0) (Nat.le_of_ble_eq_true rfl) (Nat.le_of_ble_eq_true rfl) ?_
      have hw : r_4 = 0 := hw
      rw [hw]
      refine lv_if_eq (tgt := 24) hx hb dX8_turn_19 (by decide) (fun c_5 => ?_) (fun c_5 => ?_)
      · refine lv_iconst (v := 0) hx hb dX8_turn_24 (by decide) ?_
        refine lv_istore_n (lv' := [(3, .int 0), (0, .ref m0), (1, .int p0), (2, .int p1)]) hx hb dX8_turn_25 rfl hl (by decide) rfl (fun ls hl => ?_)
        refine lv_aload_n hx hb dX8_turn_26 rfl (lv_at hl 1 rfl) ?_
        refine va_get (D := (dC, dI)) (ci := 14) (v := .ref lc) (C := RX8) (T := TX8) (N := 9) hx hb hts (by decide +kernel) hown hK hP 1 rfl rfl 0 (by decide) (hts (.fieldLink RX8 10 "BothfacesModel" "cards" "Ljava/util/ArrayList;") (by decide +kernel)) (fun _ h9 => h9) rfl dX8_turn_27 ?_
        have hPc := hP.sub (ws' := [(lc, .inr (5, [.int 0, vlc, .int 0]))]) [0] rfl
        have hDc := hD.sub (ws' := [(lc, .inr (5, [.int 0, vlc, .int 0]))]) [0] (by decide) rfl
        have hKc := hK.sub (tys' := []) [] rfl
        have hFc := va_free (wc := [(lc, .inr (5, [.int 0, vlc, .int 0]))]) hD hS hA [0] rfl
        refine va_callr (va_runV (As := []) (rest := []) ⟨hx, hb, hml, hown, hts⟩ (c_Jx4a65c_iterator_32c93 l em dC dI lc vlc H.size) (cwV 0 hts gX8_turn_Jx4a65c_iterator_32c93 rfl rfl rfl (by decide +kernel) ⟨Nat.le_of_ble_eq_true rfl, Nat.le_of_ble_eq_true rfl⟩) ⟨Pw.blind _ _ _ _ _ _ _, va_recv hKc hPc (ci := 5) (q0 := 0) rfl rfl, fun U hU hW => ⟨rfl, Pw.go hPc hKc hDc hamb hS hFc hU hW⟩⟩ rfl rfl hl.1 rfl (lv_room (Nat.le_of_ble_eq_true rfl)) dX8_turn_30 ⟨Nat.le_of_ble_eq_true rfl, Nat.le_of_ble_eq_true rfl⟩) hS (fun q _ h => hFc q h) hFc (fun u ra t H1 locs1 ht hvm hw hB hz1 hk1 hS => ?_)
        generalize ra = itx_7 at hB ⊢
        obtain ⟨hP1, hK1, hD1⟩ := hB
        rw [ht] at hP1
        have hK1 := va_K.moved hvm.symm hK1
        obtain ⟨hP, hD⟩ := va_join (wr := [(m0, .inr (14, [.ref lc, g1, g2, g3, g4, g5, g6, g7, .int 0]))]) (w1 := [(itx_7, .inr (4, [.int 0, .int (-1), .int 0, .ref lc])), (lc, .inr (5, [.int 0, vlc, .int 0]))]) hP hD [0] [1] rfl rfl (by decide) (by decide) hk1 hFc hP1 hD1
        have hK := (hK.sub (tys' := []) [] rfl).app hK1
        generalize H1 = H at hP hS ⊢
        have hP : va_P (dC, dI) vwCl [(m0, .inr (14, [.ref lc, g1, g2, g3, g4, g5, g6, g7, .int 0])), (itx_7, .inr (4, [.int 0, .int (-1), .int 0, .ref lc])), (lc, .inr (5, [.int 0, vlc, .int 0]))] H := hP
        have hD : va_D A [(m0, .inr (14, [.ref lc, g1, g2, g3, g4, g5, g6, g7, .int 0])), (itx_7, .inr (4, [.int 0, .int (-1), .int 0, .ref lc])), (lc, .inr (5, [.int 0, vlc, .int 0]))] := hD
        have hK : va_K (dC, dI) vwCl [] s := hK
        refine W.widen (k := 1) (n := 4) (Nat.le_of_ble_eq_true rfl) (Nat.le_of_ble_eq_true rfl) ?_
        refine lv_astore (lv' := [(4, .ref itx_7), (3, .int 0), (0, .ref m0), (1, .int p0), (2, .int p1)]) hx hb dX8_turn_33 hl (by decide) rfl (fun ls hl => ?_)
        refine lv_aload hx hb dX8_turn_35 (lv_at hl 0 rfl) ?_
        have hPc := hP.sub (ws' := [(itx_7, .inr (4, [.int 0, .int (-1), .int 0, .ref lc])), (lc, .inr (5, [.int 0, vlc, .int 0]))]) [1, 2] rfl
        have hDc := hD.sub (ws' := [(itx_7, .inr (4, [.int 0, .int (-1), .int 0, .ref lc])), (lc, .inr (5, [.int 0, vlc, .int 0]))]) [1, 2] (by decide) rfl
        have hKc := hK.sub (tys' := []) [] rfl
        have hFc := va_free (wc := [(itx_7, .inr (4, [.int 0, .int (-1), .int 0, .ref lc])), (lc, .inr (5, [.int 0, vlc, .int 0]))]) hD hS hA [1, 2] rfl
        refine va_callFi (va_runF (hKc.1 4 _ rfl).2 (As := []) (rest := []) ⟨hx, hb, hml, hown, hts⟩ (c_Jx35411_hasNext_aae02 l em dC dI itx_7 lc vlc H.size) (va_cwF 0 hts gX8_turn_Jx35411_hasNext_aae02_f93Jx35411 rfl rfl rfl hamb.fw (by decide +kernel) ⟨Nat.le_of_ble_eq_true rfl, Nat.le_of_ble_eq_true rfl⟩) ⟨Pw.blind _ _ _ _ _ _ _, va_recv hKc hPc (ci := 4) (q0 := 0) rfl rfl, fun U hU hW => ⟨rfl, Pw.go hPc hKc hDc hamb hS hFc hU hW⟩⟩ rfl rfl hl.1 rfl (lv_room (Nat.le_of_ble_eq_true rfl)) dX8_turn_37 ⟨Nat.le_of_ble_eq_true rfl, Nat.le_of_ble_eq_true rfl⟩) hS (fun q _ h => hFc q h) hFc (fun r_8 u t H1 locs1 ht hvm hw hB hz1 hk1 hS => ?_)
        obtain ⟨hP1, hK1, hD1⟩ := hB
        rw [ht] at hP1
        have hK1 := va_K.moved hvm.symm hK1
        obtain ⟨hP, hD⟩ := va_join (wr := [(m0, .inr (14, [.ref lc, g1, g2, g3, g4, g5, g6, g7, .int 0]))]) (w1 := [(itx_7, .inr (4, [.int 0, .int (-1), .int 0, .ref lc])), (lc, .inr (5, [.int 0, vlc, .int 0]))]) hP hD [1, 2] [0] rfl rfl (by decide) (by decide) hk1 hFc hP1 hD1
        have hK := (hK.sub (tys' := []) [] rfl).app hK1
        generalize H1 = H at hP hS ⊢
        have hP : va_P (dC, dI) vwCl [(m0, .inr (14, [.ref lc, g1, g2, g3, g4, g5, g6, g7, .int 0])), (itx_7, .inr (4, [.int 0, .int (-1), .int 0, .ref lc])), (lc, .inr (5, [.int 0, vlc, .int 0]))] H := hP
        have hD : va_D A [(m0, .inr (14, [.ref lc, g1, g2, g3, g4, g5, g6, g7, .int 0])), (itx_7, .inr (4, [.int 0, .int (-1), .int 0, .ref lc])), (lc, .inr (5, [.int 0, vlc, .int 0]))] := hD
        have hK : va_K (dC, dI) vwCl [] s := hK
        refine W.widen (k := 1) (n := 4) (Nat.le_of_ble_eq_true rfl) (Nat.le_of_ble_eq_true rfl) ?_
        have hw : r_8 = 0 := hw
        rw [hw]
        refine lv_if_eq (tgt := 78) hx hb dX8_turn_42 (by decide) (fun c_9 => ?_) (fun c_9 => ?_)
        · refine lv_iload_n hx hb dX8_turn_78 rfl (lv_at hl 1 rfl) ?_
          refine W.widen (k := 1) (n := 4) (Nat.le_of_ble_eq_true rfl) (Nat.le_of_ble_eq_true rfl) ?_
          have hP9 := hP.sub (ws' := [(m0, .inr (14, [.ref lc, g1, g2, g3, g4, g5, g6, g7, .int 0]))]) [0] rfl
          have hD9 := hD.sub (ws' := [(m0, .inr (14, [.ref lc, g1, g2, g3, g4, g5, g6, g7, .int 0]))]) [0] (by decide) rfl
          have hK9 := hK.sub (tys' := []) [] rfl
          exact W.iret (v := 0) hx hb hr (fun t ht hW => ⟨⟨0, (), rfl, ⟨fun h9 => (by first | rfl | (exfalso; omega)), fun h9 => (by first | rfl | (exfalso; omega))⟩, ⟨(0), ⟨by rw [ht]; exact hP9, va_K.moved hW.alike hK9, hD9⟩, (by first | rfl | assumption | omega | exact fun _ => rfl | exact fun h9 => absurd (by omega) h9 | exact fun h9 => absurd h9 (by omega)), (by first | rfl | assumption | omega | exact fun _ => rfl | exact fun h9 => absurd (by omega) h9 | exact fun h9 => absurd h9 (by omega))⟩⟩, hS.F ht⟩) hS.2.2 dX8_turn_79
        · exact absurd (by decide) c_9
      · exact absurd (by decide) c_5
    · exact absurd c_3 (by decide)
  · have hw := hw.2 t_2
    rw [hw]
    refine lv_if_ne (tgt := 14) hx hb dX8_turn_7 (by decide) (fun c_10 => ?_) (fun c_10 => ?_)
    · exact absurd (by decide) c_10
    · refine lv_iconst (v := 1) hx hb dX8_turn_10 (by decide) ?_
      refine lv_goto (tgt := 15) hx hb dX8_turn_11 (by decide) ?_
      refine lv_iconst (v := 1) hx hb dX8_turn_15 (by decide) ?_
      have hPc := hP.sub (ws' := [(m0, .inr (14, [.ref lc, g1, g2, g3, g4, g5, g6, g7, g8]))]) [0] rfl
      have hDc := hD.sub (ws' := [(m0, .inr (14, [.ref lc, g1, g2, g3, g4, g5, g6, g7, g8]))]) [0] (by decide) rfl
      have hKc := hK.sub (tys' := []) [] rfl
      have hFc := va_free (wc := [(m0, .inr (14, [.ref lc, g1, g2, g3, g4, g5, g6, g7, g8]))]) hD hS hA [0] rfl
      refine va_calli (va_runV (As := [.int 1, .int 1]) (rest := []) ⟨hx, hb, hml, hown, hts⟩ (c_X8_isThrown_1 l em dC dI m0 1 (.ref lc) g1 g2 g3 g4 g5 g6 g7 g8 H.size) (cwV 2 hts gX8_turn_X8_isThrown rfl rfl rfl (by decide +kernel) ⟨Nat.le_of_ble_eq_true rfl, Nat.le_of_ble_eq_true rfl⟩) ⟨Pw.blind _ _ _ _ _ _ _, va_recv hKc hPc (ci := 14) (q0 := 0) rfl rfl, fun U hU hW => ⟨rfl, Pw.go hPc hKc hDc hamb hS hFc hU hW⟩⟩ rfl rfl hl.1 rfl (lv_room (Nat.le_of_ble_eq_true rfl)) dX8_turn_16 ⟨Nat.le_of_ble_eq_true rfl, Nat.le_of_ble_eq_true rfl⟩) hS (fun q _ h => hFc q h) hFc (fun r_11 u t H1 locs1 ht hvm hw hB hz1 hk1 hS => ?_)
      obtain ⟨hP1, hK1, hD1⟩ := hB
      rw [ht] at hP1
      have hK1 := va_K.moved hvm.symm hK1
      obtain ⟨hP, hD⟩ := va_join (wr := [(lc, .inr (5, [.int 0, vlc, .int 0]))]) (w1 := [(m0, .inr (14, [.ref lc, g1, g2, g3, g4, g5, g6, g7, .int 1]))]) hP hD [0] [1] rfl rfl (by decide) (by decide) hk1 hFc hP1 hD1
      have hK := (hK.sub (tys' := []) [] rfl).app hK1
      generalize H1 = H at hP hS ⊢
      have hP : va_P (dC, dI) vwCl [(lc, .inr (5, [.int 0, vlc, .int 0])), (m0, .inr (14, [.ref lc, g1, g2, g3, g4, g5, g6, g7, .int 1]))] H := hP
      have hD : va_D A [(lc, .inr (5, [.int 0, vlc, .int 0])), (m0, .inr (14, [.ref lc, g1, g2, g3, g4, g5, g6, g7, .int 1]))] := hD
      have hK : va_K (dC, dI) vwCl [] s := hK
      refine W.widen (k := 0) (n := 0) (Nat.le_of_ble_eq_true rfl) (Nat.le_of_ble_eq_true rfl) ?_
      have hw : r_11 = 1 := hw
      rw [hw]
      refine lv_if_eq (tgt := 24) hx hb dX8_turn_19 (by decide) (fun c_12 => ?_) (fun c_12 => ?_)
      · exact absurd c_12 (by decide)
      · refine lv_iconst (v := 0) hx hb dX8_turn_22 (by decide) ?_
        refine W.widen (k := 1) (n := 4) (Nat.le_of_ble_eq_true rfl) (Nat.le_of_ble_eq_true rfl) ?_
        have hP9 := hP.sub (ws' := [(m0, .inr (14, [.ref lc, g1, g2, g3, g4, g5, g6, g7, .int 1]))]) [1] rfl
        have hD9 := hD.sub (ws' := [(m0, .inr (14, [.ref lc, g1, g2, g3, g4, g5, g6, g7, .int 1]))]) [1] (by decide) rfl
        have hK9 := hK.sub (tys' := []) [] rfl
        exact W.iret (v := 0) hx hb hr (fun t ht hW => ⟨⟨0, (), rfl, ⟨fun h9 => (by first | rfl | (exfalso; omega)), fun h9 => (by first | rfl | (exfalso; omega))⟩, ⟨(1), ⟨by rw [ht]; exact hP9, va_K.moved hW.alike hK9, hD9⟩, (by first | rfl | assumption | omega | exact fun _ => rfl | exact fun h9 => absurd (by omega) h9 | exact fun h9 => absurd h9 (by omega)), (by first | rfl | assumption | omega | exact fun _ => rfl | exact fun h9 => absurd (by omega) h9 | exact fun h9 => absurd h9 (by omega))⟩⟩, hS.F ht⟩) hS.2.2 dX8_turn_23

set_option maxHeartbeats 4000000 in
set_option maxRecDepth 100000 in
theorem c_X8_yarn (l : Launch) (em : Nat → Nat) (dC : Nat → ClassId) (dI : Nat → Nat → Nat) (m0 : Nat) (p0 : Int32) (g1 : Value) (g2 : Value) (g3 : Value) (g4 : Value) (g5 : Value) (g6 : Value) (g7 : Value) (g8 : Value) (lc : Nat) (vlc : Value) (sz : Nat) : Met l yX8_yarn wsX8_yarn ({ frames := 2, cells := 0, slots := 0, locals := 42 }) (va_Pc [.ref m0, .int p0] (Pw em dC dI sz [(m0, .inr (14, [.ref lc, g1, g2, g3, g4, g5, g6, g7, g8])), (lc, .inr (5, [.int 0, vlc, .int 0]))] [])) (va_Qi (fun (r : Int32) (_ : Unit) => ((p0.toInt < 0 ∨ 7 < p0.toInt) → r = 0) ∧ (¬ (p0.toInt < 0 ∨ 7 < p0.toInt) → r = 0)) (fun _ t => ∃ (tv : Int32), Qw dC dI (va_A [(m0, .inr (14, [.ref lc, g1, g2, g3, g4, g5, g6, g7, g8])), (lc, .inr (5, [.int 0, vlc, .int 0]))] sz) [(m0, .inr (14, [.ref lc, g1, g2, g3, g4, g5, g6, g7, .int tv]))] [] t ∧ ((p0.toInt < 0 ∨ 7 < p0.toInt) → tv = 1) ∧ (¬ (p0.toInt < 0 ∨ 7 < p0.toInt) → tv = 0)) (va_A [(m0, .inr (14, [.ref lc, g1, g2, g3, g4, g5, g6, g7, g8])), (lc, .inr (5, [.int 0, vlc, .int 0]))] sz)) 0 0 (va_A [(m0, .inr (14, [.ref lc, g1, g2, g3, g4, g5, g6, g7, g8])), (lc, .inr (5, [.int 0, vlc, .int 0]))] sz) := by
  refine Met.ofW (cc := cX8_yarn) (maxL := 8) (ret := (some .int)) (by decide) rfl ?_
  intro p e s m args below meth c s₁ B hml hv
  obtain ⟨rfl, hsz, hP, hK, hD0, hamb⟩ := hv
  have hx := B.exec
  have hb := B.bytes
  have hr := B.returns
  have hts := atoms_spec (ws := wsX8_yarn) B.pre
  have hown : s.vm.findClass RX8 = some m.cls := findClass_of_methodNamed B.named
  have hlocks := B.notSynchronized
  subst hsz
  have hD := hD0.self (sz := s.heap.size)
  generalize hAe : va_A [(m0, .inr (14, [.ref lc, g1, g2, g3, g4, g5, g6, g7, g8])), (lc, .inr (5, [.int 0, vlc, .int 0]))] s.heap.size = A at hD hamb ⊢
  have hA : ∀ q : Nat, s.heap.size ≤ q → A q := fun q h => by rw [← hAe]; exact Or.inr h
  have hS : va_S A s.heap s.heap [] := va_S.rf
  have hP : va_P (dC, dI) vwCl [(m0, .inr (14, [.ref lc, g1, g2, g3, g4, g5, g6, g7, g8])), (lc, .inr (5, [.int 0, vlc, .int 0]))] s.heap := hP
  have hl := lv_entry ([.ref m0, .int p0]) (n := 8) (Nat.le_of_ble_eq_true rfl)
  rw [lg_entry_eq]
  generalize (lg_sl ([.ref m0, .int p0]) ++ List.replicate (8 - (lg_sl ([.ref m0, .int p0])).length) Slot.unset).toArray = ls at hl ⊢
  have hl : lv_has ls 8 [(0, .ref m0), (1, .int p0)] := hl
  refine lv_aload_n hx hb dX8_yarn_0 rfl (lv_at hl 0 rfl) ?_
  refine lv_iload_n hx hb dX8_yarn_1 rfl (lv_at hl 1 rfl) ?_
  have hPc := hP.sub (ws' := []) [] rfl
  have hDc := hD.sub (ws' := []) [] (by decide) rfl
  have hKc := hK.sub (tys' := []) [] rfl
  have hFc := va_free (wc := []) hD hS hA [] rfl
  refine va_calli (va_runS (As := [.int p0]) (rest := [.ref m0]) ⟨hx, hb, hml, hown, hts⟩ (c_X8_isNoColour l em dC dI p0 s.heap.size) (va_cwS 1 hts gX8_yarn_X8_isNoColour rfl rfl rfl (by decide +kernel) ⟨Nat.le_of_ble_eq_true rfl, Nat.le_of_ble_eq_true rfl⟩) ⟨Pw.blind _ _ _ _ _ _ _, fun U hU hW => ⟨rfl, Pw.go hPc hKc hDc hamb hS hFc hU hW⟩⟩ rfl rfl hl.1 rfl (lv_room (Nat.le_of_ble_eq_true rfl)) dX8_yarn_2 ⟨Nat.le_of_ble_eq_true rfl, Nat.le_of_ble_eq_true rfl⟩) hS (fun q _ h => hFc q h) hFc (fun r_1 u t H1 locs1 ht hvm hw hB hz1 hk1 hS => ?_)
  obtain ⟨hP, hD⟩ := va_rest (wr := [(m0, .inr (14, [.ref lc, g1, g2, g3, g4, g5, g6, g7, g8])), (lc, .inr (5, [.int 0, vlc, .int 0]))]) hP hD [] [0, 1] rfl rfl (by decide) (by decide) hk1 hFc
  generalize H1 = H at hP hS ⊢
  refine W.widen (k := 0) (n := 0) (Nat.le_of_ble_eq_true rfl) (Nat.le_of_ble_eq_true rfl) ?_
  have hw : ((p0.toInt < 0 ∨ 7 < p0.toInt) → r_1 = 1) ∧ (¬ (p0.toInt < 0 ∨ 7 < p0.toInt) → r_1 = 0) := hw
  rcases Classical.em (p0.toInt < 0 ∨ 7 < p0.toInt) with t_2 | t_2
  · have hw := hw.1 t_2
    rw [hw]
    refine lv_iconst (v := 1) hx hb dX8_yarn_5 (by decide) ?_
    have hPc := hP.sub (ws' := [(m0, .inr (14, [.ref lc, g1, g2, g3, g4, g5, g6, g7, g8]))]) [0] rfl
    have hDc := hD.sub (ws' := [(m0, .inr (14, [.ref lc, g1, g2, g3, g4, g5, g6, g7, g8]))]) [0] (by decide) rfl
    have hKc := hK.sub (tys' := []) [] rfl
    have hFc := va_free (wc := [(m0, .inr (14, [.ref lc, g1, g2, g3, g4, g5, g6, g7, g8]))]) hD hS hA [0] rfl
    refine va_calli (va_runV (As := [.int 1, .int 1]) (rest := []) ⟨hx, hb, hml, hown, hts⟩ (c_X8_isThrown_1 l em dC dI m0 1 (.ref lc) g1 g2 g3 g4 g5 g6 g7 g8 H.size) (cwV 2 hts gX8_yarn_X8_isThrown rfl rfl rfl (by decide +kernel) ⟨Nat.le_of_ble_eq_true rfl, Nat.le_of_ble_eq_true rfl⟩) ⟨Pw.blind _ _ _ _ _ _ _, va_recv hKc hPc (ci := 14) (q0 := 0) rfl rfl, fun U hU hW => ⟨rfl, Pw.go hPc hKc hDc hamb hS hFc hU hW⟩⟩ rfl rfl hl.1 rfl (lv_room (Nat.le_of_ble_eq_true rfl)) dX8_yarn_6 ⟨Nat.le_of_ble_eq_true rfl, Nat.le_of_ble_eq_true rfl⟩) hS (fun q _ h => hFc q h) hFc (fun r_3 u t H1 locs1 ht hvm hw hB hz1 hk1 hS => ?_)
    obtain ⟨hP1, hK1, hD1⟩ := hB
    rw [ht] at hP1
    have hK1 := va_K.moved hvm.symm hK1
    obtain ⟨hP, hD⟩ := va_join (wr := [(lc, .inr (5, [.int 0, vlc, .int 0]))]) (w1 := [(m0, .inr (14, [.ref lc, g1, g2, g3, g4, g5, g6, g7, .int 1]))]) hP hD [0] [1] rfl rfl (by decide) (by decide) hk1 hFc hP1 hD1
    have hK := (hK.sub (tys' := []) [] rfl).app hK1
    generalize H1 = H at hP hS ⊢
    have hP : va_P (dC, dI) vwCl [(lc, .inr (5, [.int 0, vlc, .int 0])), (m0, .inr (14, [.ref lc, g1, g2, g3, g4, g5, g6, g7, .int 1]))] H := hP
    have hD : va_D A [(lc, .inr (5, [.int 0, vlc, .int 0])), (m0, .inr (14, [.ref lc, g1, g2, g3, g4, g5, g6, g7, .int 1]))] := hD
    have hK : va_K (dC, dI) vwCl [] s := hK
    refine W.widen (k := 0) (n := 0) (Nat.le_of_ble_eq_true rfl) (Nat.le_of_ble_eq_true rfl) ?_
    have hw : r_3 = 1 := hw
    rw [hw]
    refine lv_if_eq (tgt := 14) hx hb dX8_yarn_9 (by decide) (fun c_4 => ?_) (fun c_4 => ?_)
    · exact absurd c_4 (by decide)
    · refine lv_iconst (v := 0) hx hb dX8_yarn_12 (by decide) ?_
      refine W.widen (k := 0) (n := 0) (Nat.le_of_ble_eq_true rfl) (Nat.le_of_ble_eq_true rfl) ?_
      have hP9 := hP.sub (ws' := [(m0, .inr (14, [.ref lc, g1, g2, g3, g4, g5, g6, g7, .int 1]))]) [1] rfl
      have hD9 := hD.sub (ws' := [(m0, .inr (14, [.ref lc, g1, g2, g3, g4, g5, g6, g7, .int 1]))]) [1] (by decide) rfl
      have hK9 := hK.sub (tys' := []) [] rfl
      exact W.iret (v := 0) hx hb hr (fun t ht hW => ⟨⟨0, (), rfl, ⟨fun h9 => (by first | rfl | (exfalso; omega)), fun h9 => (by first | rfl | (exfalso; omega))⟩, ⟨(1), ⟨by rw [ht]; exact hP9, va_K.moved hW.alike hK9, hD9⟩, (by first | rfl | assumption | omega | exact fun _ => rfl | exact fun h9 => absurd (by omega) h9 | exact fun h9 => absurd h9 (by omega)), (by first | rfl | assumption | omega | exact fun _ => rfl | exact fun h9 => absurd (by omega) h9 | exact fun h9 => absurd h9 (by omega))⟩⟩, hS.F ht⟩) hS.2.2 dX8_yarn_13
  · have hw := hw.2 t_2
    rw [hw]
    refine lv_iconst (v := 1) hx hb dX8_yarn_5 (by decide) ?_
    have hPc := hP.sub (ws' := [(m0, .inr (14, [.ref lc, g1, g2, g3, g4, g5, g6, g7, g8]))]) [0] rfl
    have hDc := hD.sub (ws' := [(m0, .inr (14, [.ref lc, g1, g2, g3, g4, g5, g6, g7, g8]))]) [0] (by decide) rfl
    have hKc := hK.sub (tys' := []) [] rfl
    have hFc := va_free (wc := [(m0, .inr (14, [.ref lc, g1, g2, g3, g4, g5, g6, g7, g8]))]) hD hS hA [0] rfl
    refine va_calli (va_runV (As := [.int 0, .int 1]) (rest := []) ⟨hx, hb, hml, hown, hts⟩ (c_X8_isThrown_0 l em dC dI m0 1 (.ref lc) g1 g2 g3 g4 g5 g6 g7 g8 H.size) (cwV 2 hts gX8_yarn_X8_isThrown rfl rfl rfl (by decide +kernel) ⟨Nat.le_of_ble_eq_true rfl, Nat.le_of_ble_eq_true rfl⟩) ⟨Pw.blind _ _ _ _ _ _ _, va_recv hKc hPc (ci := 14) (q0 := 0) rfl rfl, fun U hU hW => ⟨rfl, Pw.go hPc hKc hDc hamb hS hFc hU hW⟩⟩ rfl rfl hl.1 rfl (lv_room (Nat.le_of_ble_eq_true rfl)) dX8_yarn_6 ⟨Nat.le_of_ble_eq_true rfl, Nat.le_of_ble_eq_true rfl⟩) hS (fun q _ h => hFc q h) hFc (fun r_5 u t H1 locs1 ht hvm hw hB hz1 hk1 hS => ?_)
    obtain ⟨hP1, hK1, hD1⟩ := hB
    rw [ht] at hP1
    have hK1 := va_K.moved hvm.symm hK1
    obtain ⟨hP, hD⟩ := va_join (wr := [(lc, .inr (5, [.int 0, vlc, .int 0]))]) (w1 := [(m0, .inr (14, [.ref lc, g1, g2, g3, g4, g5, g6, g7, .int 0]))]) hP hD [0] [1] rfl rfl (by decide) (by decide) hk1 hFc hP1 hD1
    have hK := (hK.sub (tys' := []) [] rfl).app hK1
    generalize H1 = H at hP hS ⊢
    have hP : va_P (dC, dI) vwCl [(lc, .inr (5, [.int 0, vlc, .int 0])), (m0, .inr (14, [.ref lc, g1, g2, g3, g4, g5, g6, g7, .int 0]))] H := hP
    have hD : va_D A [(lc, .inr (5, [.int 0, vlc, .int 0])), (m0, .inr (14, [.ref lc, g1, g2, g3, g4, g5, g6, g7, .int 0]))] := hD
    have hK : va_K (dC, dI) vwCl [] s := hK
    refine W.widen (k := 0) (n := 0) (Nat.le_of_ble_eq_true rfl) (Nat.le_of_ble_eq_true rfl) ?_
    have hw : r_5 = 0 := hw
    rw [hw]
    refine lv_if_eq (tgt := 14) hx hb dX8_yarn_9 (by decide) (fun c_6 => ?_) (fun c_6 => ?_)
    · refine lv_iconst (v := 0) hx hb dX8_yarn_14 (by decide) ?_
      refine lv_istore_n (lv' := [(2, .int 0), (0, .ref m0), (1, .int p0)]) hx hb dX8_yarn_15 rfl hl (by decide) rfl (fun ls hl => ?_)
      refine lv_iconst (v := 0) hx hb dX8_yarn_16 (by decide) ?_
      refine lv_istore_n (lv' := [(3, .int 0), (2, .int 0), (0, .ref m0), (1, .int p0)]) hx hb dX8_yarn_17 rfl hl (by decide) rfl (fun ls hl => ?_)
      refine lv_iload_n hx hb dX8_yarn_18 rfl (lv_at hl 0 rfl) ?_
      refine lv_aload_n hx hb dX8_yarn_19 rfl (lv_at hl 2 rfl) ?_
      refine va_get (D := (dC, dI)) (ci := 14) (v := .ref lc) (C := RX8) (T := TX8) (N := 9) hx hb hts (by decide +kernel) hown hK hP 1 rfl rfl 0 (by decide) (hts (.fieldLink RX8 10 "BothfacesModel" "cards" "Ljava/util/ArrayList;") (by decide +kernel)) (fun _ h9 => h9) rfl dX8_yarn_20 ?_
      have hPc := hP.sub (ws' := [(lc, .inr (5, [.int 0, vlc, .int 0]))]) [0] rfl
      have hDc := hD.sub (ws' := [(lc, .inr (5, [.int 0, vlc, .int 0]))]) [0] (by decide) rfl
      have hKc := hK.sub (tys' := []) [] rfl
      have hFc := va_free (wc := [(lc, .inr (5, [.int 0, vlc, .int 0]))]) hD hS hA [0] rfl
      refine va_calli (va_runV (As := []) (rest := [.int 0]) ⟨hx, hb, hml, hown, hts⟩ (c_Jx4a65c_size_8abf5 l em dC dI lc (.int 0) vlc H.size) (cwV 0 hts gX8_yarn_Jx4a65c_size_8abf5 rfl rfl rfl (by decide +kernel) ⟨Nat.le_of_ble_eq_true rfl, Nat.le_of_ble_eq_true rfl⟩) ⟨Pw.blind _ _ _ _ _ _ _, va_recv hKc hPc (ci := 5) (q0 := 0) rfl rfl, fun U hU hW => ⟨rfl, Pw.go hPc hKc hDc hamb hS hFc hU hW⟩⟩ rfl rfl hl.1 rfl (lv_room (Nat.le_of_ble_eq_true rfl)) dX8_yarn_23 ⟨Nat.le_of_ble_eq_true rfl, Nat.le_of_ble_eq_true rfl⟩) hS (fun q _ h => hFc q h) hFc (fun r_7 u t H1 locs1 ht hvm hw hB hz1 hk1 hS => ?_)
      obtain ⟨hP1, hK1, hD1⟩ := hB
      rw [ht] at hP1
      have hK1 := va_K.moved hvm.symm hK1
      obtain ⟨hP, hD⟩ := va_join (wr := [(m0, .inr (14, [.ref lc, g1, g2, g3, g4, g5, g6, g7, .int 0]))]) (w1 := [(lc, .inr (5, [.int 0, vlc, .int 0]))]) hP hD [0] [1] rfl rfl (by decide) (by decide) hk1 hFc hP1 hD1
      have hK := (hK.sub (tys' := []) [] rfl).app hK1
      generalize H1 = H at hP hS ⊢
      have hP : va_P (dC, dI) vwCl [(m0, .inr (14, [.ref lc, g1, g2, g3, g4, g5, g6, g7, .int 0])), (lc, .inr (5, [.int 0, vlc, .int 0]))] H := hP
      have hD : va_D A [(m0, .inr (14, [.ref lc, g1, g2, g3, g4, g5, g6, g7, .int 0])), (lc, .inr (5, [.int 0, vlc, .int 0]))] := hD
      have hK : va_K (dC, dI) vwCl [] s := hK
      refine W.widen (k := 0) (n := 0) (Nat.le_of_ble_eq_true rfl) (Nat.le_of_ble_eq_true rfl) ?_
      have hw : r_7 = 0 := hw
      rw [hw]
      refine lv_icmp_ge (tgt := 166) hx hb dX8_yarn_26 (by decide) (fun c_8 => ?_) (fun c_8 => ?_)
      · refine lv_iload_n hx hb dX8_yarn_166 rfl (lv_at hl 1 rfl) ?_
        refine W.widen (k := 0) (n := 0) (Nat.le_of_ble_eq_true rfl) (Nat.le_of_ble_eq_true rfl) ?_
        have hP9 := hP.sub (ws' := [(m0, .inr (14, [.ref lc, g1, g2, g3, g4, g5, g6, g7, .int 0]))]) [0] rfl
        have hD9 := hD.sub (ws' := [(m0, .inr (14, [.ref lc, g1, g2, g3, g4, g5, g6, g7, .int 0]))]) [0] (by decide) rfl
        have hK9 := hK.sub (tys' := []) [] rfl
        exact W.iret (v := 0) hx hb hr (fun t ht hW => ⟨⟨0, (), rfl, ⟨fun h9 => (by first | rfl | (exfalso; omega)), fun h9 => (by first | rfl | (exfalso; omega))⟩, ⟨(0), ⟨by rw [ht]; exact hP9, va_K.moved hW.alike hK9, hD9⟩, (by first | rfl | assumption | omega | exact fun _ => rfl | exact fun h9 => absurd (by omega) h9 | exact fun h9 => absurd h9 (by omega)), (by first | rfl | assumption | omega | exact fun _ => rfl | exact fun h9 => absurd (by omega) h9 | exact fun h9 => absurd h9 (by omega))⟩⟩, hS.F ht⟩) hS.2.2 dX8_yarn_167
      · exact absurd (by decide) c_8
    · exact absurd (by decide) c_6

set_option maxHeartbeats 4000000 in
set_option maxRecDepth 100000 in
theorem c_X8_weave (l : Launch) (em : Nat → Nat) (dC : Nat → ClassId) (dI : Nat → Nat → Nat) (m0 : Nat) (p0 : Int32) (g2 : Value) (g3 : Value) (g4 : Value) (g5 : Value) (g6 : Value) (g7 : Value) (g8 : Value) (lc : Nat) (vlc : Value) (lp : Nat) (vlp : Value) (sz : Nat) : Met l yX8_weave wsX8_weave ({ frames := 2, cells := 0, slots := 0, locals := 43 }) (va_Pc [.ref m0, .int p0] (Pw em dC dI sz [(m0, .inr (14, [.ref lc, .ref lp, g2, g3, g4, g5, g6, g7, g8])), (lc, .inr (5, [.int 0, vlc, .int 0])), (lp, .inr (5, [.int 0, vlp, .int 0]))] [])) (va_Qi (fun (r : Int32) (_ : Unit) => ((p0.toInt < 0 ∨ 39 < p0.toInt) → r = 0) ∧ (¬ (p0.toInt < 0 ∨ 39 < p0.toInt) → r = 0)) (fun _ t => ∃ (tv : Int32), Qw dC dI (va_A [(m0, .inr (14, [.ref lc, .ref lp, g2, g3, g4, g5, g6, g7, g8])), (lc, .inr (5, [.int 0, vlc, .int 0])), (lp, .inr (5, [.int 0, vlp, .int 0]))] sz) [(m0, .inr (14, [.ref lc, .ref lp, g2, g3, g4, g5, g6, g7, .int tv]))] [] t ∧ ((p0.toInt < 0 ∨ 39 < p0.toInt) → tv = 1) ∧ (¬ (p0.toInt < 0 ∨ 39 < p0.toInt) → tv = 2)) (va_A [(m0, .inr (14, [.ref lc, .ref lp, g2, g3, g4, g5, g6, g7, g8])), (lc, .inr (5, [.int 0, vlc, .int 0])), (lp, .inr (5, [.int 0, vlp, .int 0]))] sz)) 0 0 (va_A [(m0, .inr (14, [.ref lc, .ref lp, g2, g3, g4, g5, g6, g7, g8])), (lc, .inr (5, [.int 0, vlc, .int 0])), (lp, .inr (5, [.int 0, vlp, .int 0]))] sz) := by
  refine Met.ofW (cc := cX8_weave) (maxL := 5) (ret := (some .int)) (by decide) rfl ?_
  intro p e s m args below meth c s₁ B hml hv
  obtain ⟨rfl, hsz, hP, hK, hD0, hamb⟩ := hv
  have hx := B.exec
  have hb := B.bytes
  have hr := B.returns
  have hts := atoms_spec (ws := wsX8_weave) B.pre
  have hown : s.vm.findClass RX8 = some m.cls := findClass_of_methodNamed B.named
  have hlocks := B.notSynchronized
  subst hsz
  have hD := hD0.self (sz := s.heap.size)
  generalize hAe : va_A [(m0, .inr (14, [.ref lc, .ref lp, g2, g3, g4, g5, g6, g7, g8])), (lc, .inr (5, [.int 0, vlc, .int 0])), (lp, .inr (5, [.int 0, vlp, .int 0]))] s.heap.size = A at hD hamb ⊢
  have hA : ∀ q : Nat, s.heap.size ≤ q → A q := fun q h => by rw [← hAe]; exact Or.inr h
  have hS : va_S A s.heap s.heap [] := va_S.rf
  have hP : va_P (dC, dI) vwCl [(m0, .inr (14, [.ref lc, .ref lp, g2, g3, g4, g5, g6, g7, g8])), (lc, .inr (5, [.int 0, vlc, .int 0])), (lp, .inr (5, [.int 0, vlp, .int 0]))] s.heap := hP
  have hl := lv_entry ([.ref m0, .int p0]) (n := 5) (Nat.le_of_ble_eq_true rfl)
  rw [lg_entry_eq]
  generalize (lg_sl ([.ref m0, .int p0]) ++ List.replicate (5 - (lg_sl ([.ref m0, .int p0])).length) Slot.unset).toArray = ls at hl ⊢
  have hl : lv_has ls 5 [(0, .ref m0), (1, .int p0)] := hl
  refine lv_aload_n hx hb dX8_weave_0 rfl (lv_at hl 0 rfl) ?_
  refine lv_aload_n hx hb dX8_weave_1 rfl (lv_at hl 0 rfl) ?_
  refine lv_iload_n hx hb dX8_weave_2 rfl (lv_at hl 1 rfl) ?_
  have hPc := hP.sub (ws' := [(m0, .inr (14, [.ref lc, .ref lp, g2, g3, g4, g5, g6, g7, g8])), (lp, .inr (5, [.int 0, vlp, .int 0]))]) [0, 2] rfl
  have hDc := hD.sub (ws' := [(m0, .inr (14, [.ref lc, .ref lp, g2, g3, g4, g5, g6, g7, g8])), (lp, .inr (5, [.int 0, vlp, .int 0]))]) [0, 2] (by decide) rfl
  have hKc := hK.sub (tys' := []) [] rfl
  have hFc := va_free (wc := [(m0, .inr (14, [.ref lc, .ref lp, g2, g3, g4, g5, g6, g7, g8])), (lp, .inr (5, [.int 0, vlp, .int 0]))]) hD hS hA [0, 2] rfl
  refine va_calli (va_runV (As := [.int p0]) (rest := [.ref m0]) ⟨hx, hb, hml, hown, hts⟩ (c_X8_isNoLast l em dC dI m0 p0 (.ref lc) g2 g3 g4 g5 g6 g7 g8 lp vlp s.heap.size) (cwV 1 hts gX8_weave_X8_isNoLast rfl rfl rfl (by decide +kernel) ⟨Nat.le_of_ble_eq_true rfl, Nat.le_of_ble_eq_true rfl⟩) ⟨Pw.blind _ _ _ _ _ _ _, va_recv hKc hPc (ci := 14) (q0 := 0) rfl rfl, fun U hU hW => ⟨rfl, Pw.go hPc hKc hDc hamb hS hFc hU hW⟩⟩ rfl rfl hl.1 rfl (lv_room (Nat.le_of_ble_eq_true rfl)) dX8_weave_3 ⟨Nat.le_of_ble_eq_true rfl, Nat.le_of_ble_eq_true rfl⟩) hS (fun q _ h => hFc q h) hFc (fun r_1 u t H1 locs1 ht hvm hw hB hz1 hk1 hS => ?_)
  obtain ⟨hP1, hK1, hD1⟩ := hB
  rw [ht] at hP1
  have hK1 := va_K.moved hvm.symm hK1
  obtain ⟨hP, hD⟩ := va_join (wr := [(lc, .inr (5, [.int 0, vlc, .int 0]))]) (w1 := [(m0, .inr (14, [.ref lc, .ref lp, g2, g3, g4, g5, g6, g7, g8])), (lp, .inr (5, [.int 0, vlp, .int 0]))]) hP hD [0, 2] [1] rfl rfl (by decide) (by decide) hk1 hFc hP1 hD1
  have hK := (hK.sub (tys' := []) [] rfl).app hK1
  generalize H1 = H at hP hS ⊢
  have hP : va_P (dC, dI) vwCl [(lc, .inr (5, [.int 0, vlc, .int 0])), (m0, .inr (14, [.ref lc, .ref lp, g2, g3, g4, g5, g6, g7, g8])), (lp, .inr (5, [.int 0, vlp, .int 0]))] H := hP
  have hD : va_D A [(lc, .inr (5, [.int 0, vlc, .int 0])), (m0, .inr (14, [.ref lc, .ref lp, g2, g3, g4, g5, g6, g7, g8])), (lp, .inr (5, [.int 0, vlp, .int 0]))] := hD
  have hK : va_K (dC, dI) vwCl [] s := hK
  refine W.widen (k := 0) (n := 0) (Nat.le_of_ble_eq_true rfl) (Nat.le_of_ble_eq_true rfl) ?_
  have hw : ((p0.toInt < 0 ∨ 39 < p0.toInt) → r_1 = 1) ∧ (¬ (p0.toInt < 0 ∨ 39 < p0.toInt) → r_1 = 0) := hw
  rcases Classical.em (p0.toInt < 0 ∨ 39 < p0.toInt) with t_2 | t_2
  · have hw := hw.1 t_2
    rw [hw]
    refine lv_iconst (v := 1) hx hb dX8_weave_6 (by decide) ?_
    have hPc := hP.sub (ws' := [(m0, .inr (14, [.ref lc, .ref lp, g2, g3, g4, g5, g6, g7, g8]))]) [1] rfl
    have hDc := hD.sub (ws' := [(m0, .inr (14, [.ref lc, .ref lp, g2, g3, g4, g5, g6, g7, g8]))]) [1] (by decide) rfl
    have hKc := hK.sub (tys' := []) [] rfl
    have hFc := va_free (wc := [(m0, .inr (14, [.ref lc, .ref lp, g2, g3, g4, g5, g6, g7, g8]))]) hD hS hA [1] rfl
    refine va_calli (va_runV (As := [.int 1, .int 1]) (rest := []) ⟨hx, hb, hml, hown, hts⟩ (c_X8_isThrown_1 l em dC dI m0 1 (.ref lc) (.ref lp) g2 g3 g4 g5 g6 g7 g8 H.size) (cwV 2 hts gX8_weave_X8_isThrown rfl rfl rfl (by decide +kernel) ⟨Nat.le_of_ble_eq_true rfl, Nat.le_of_ble_eq_true rfl⟩) ⟨Pw.blind _ _ _ _ _ _ _, va_recv hKc hPc (ci := 14) (q0 := 0) rfl rfl, fun U hU hW => ⟨rfl, Pw.go hPc hKc hDc hamb hS hFc hU hW⟩⟩ rfl rfl hl.1 rfl (lv_room (Nat.le_of_ble_eq_true rfl)) dX8_weave_7 ⟨Nat.le_of_ble_eq_true rfl, Nat.le_of_ble_eq_true rfl⟩) hS (fun q _ h => hFc q h) hFc (fun r_3 u t H1 locs1 ht hvm hw hB hz1 hk1 hS => ?_)
    obtain ⟨hP1, hK1, hD1⟩ := hB
    rw [ht] at hP1
    have hK1 := va_K.moved hvm.symm hK1
    obtain ⟨hP, hD⟩ := va_join (wr := [(lc, .inr (5, [.int 0, vlc, .int 0])), (lp, .inr (5, [.int 0, vlp, .int 0]))]) (w1 := [(m0, .inr (14, [.ref lc, .ref lp, g2, g3, g4, g5, g6, g7, .int 1]))]) hP hD [1] [0, 2] rfl rfl (by decide) (by decide) hk1 hFc hP1 hD1
    have hK := (hK.sub (tys' := []) [] rfl).app hK1
    generalize H1 = H at hP hS ⊢
    have hP : va_P (dC, dI) vwCl [(lc, .inr (5, [.int 0, vlc, .int 0])), (lp, .inr (5, [.int 0, vlp, .int 0])), (m0, .inr (14, [.ref lc, .ref lp, g2, g3, g4, g5, g6, g7, .int 1]))] H := hP
    have hD : va_D A [(lc, .inr (5, [.int 0, vlc, .int 0])), (lp, .inr (5, [.int 0, vlp, .int 0])), (m0, .inr (14, [.ref lc, .ref lp, g2, g3, g4, g5, g6, g7, .int 1]))] := hD
    have hK : va_K (dC, dI) vwCl [] s := hK
    refine W.widen (k := 0) (n := 0) (Nat.le_of_ble_eq_true rfl) (Nat.le_of_ble_eq_true rfl) ?_
    have hw : r_3 = 1 := hw
    rw [hw]
    refine lv_if_ne (tgt := 28) hx hb dX8_weave_10 (by decide) (fun c_4 => ?_) (fun c_4 => ?_)
    · refine lv_iconst (v := 0) hx hb dX8_weave_28 (by decide) ?_
      refine W.widen (k := 0) (n := 0) (Nat.le_of_ble_eq_true rfl) (Nat.le_of_ble_eq_true rfl) ?_
      have hP9 := hP.sub (ws' := [(m0, .inr (14, [.ref lc, .ref lp, g2, g3, g4, g5, g6, g7, .int 1]))]) [2] rfl
      have hD9 := hD.sub (ws' := [(m0, .inr (14, [.ref lc, .ref lp, g2, g3, g4, g5, g6, g7, .int 1]))]) [2] (by decide) rfl
      have hK9 := hK.sub (tys' := []) [] rfl
      exact W.iret (v := 0) hx hb hr (fun t ht hW => ⟨⟨0, (), rfl, ⟨fun h9 => (by first | rfl | (exfalso; omega)), fun h9 => (by first | rfl | (exfalso; omega))⟩, ⟨(1), ⟨by rw [ht]; exact hP9, va_K.moved hW.alike hK9, hD9⟩, (by first | rfl | assumption | omega | exact fun _ => rfl | exact fun h9 => absurd (by omega) h9 | exact fun h9 => absurd h9 (by omega)), (by first | rfl | assumption | omega | exact fun _ => rfl | exact fun h9 => absurd (by omega) h9 | exact fun h9 => absurd h9 (by omega))⟩⟩, hS.F ht⟩) hS.2.2 dX8_weave_29
    · exact absurd c_4 (by decide)
  · have hw := hw.2 t_2
    rw [hw]
    refine lv_iconst (v := 1) hx hb dX8_weave_6 (by decide) ?_
    have hPc := hP.sub (ws' := [(m0, .inr (14, [.ref lc, .ref lp, g2, g3, g4, g5, g6, g7, g8]))]) [1] rfl
    have hDc := hD.sub (ws' := [(m0, .inr (14, [.ref lc, .ref lp, g2, g3, g4, g5, g6, g7, g8]))]) [1] (by decide) rfl
    have hKc := hK.sub (tys' := []) [] rfl
    have hFc := va_free (wc := [(m0, .inr (14, [.ref lc, .ref lp, g2, g3, g4, g5, g6, g7, g8]))]) hD hS hA [1] rfl
    refine va_calli (va_runV (As := [.int 0, .int 1]) (rest := []) ⟨hx, hb, hml, hown, hts⟩ (c_X8_isThrown_0 l em dC dI m0 1 (.ref lc) (.ref lp) g2 g3 g4 g5 g6 g7 g8 H.size) (cwV 2 hts gX8_weave_X8_isThrown rfl rfl rfl (by decide +kernel) ⟨Nat.le_of_ble_eq_true rfl, Nat.le_of_ble_eq_true rfl⟩) ⟨Pw.blind _ _ _ _ _ _ _, va_recv hKc hPc (ci := 14) (q0 := 0) rfl rfl, fun U hU hW => ⟨rfl, Pw.go hPc hKc hDc hamb hS hFc hU hW⟩⟩ rfl rfl hl.1 rfl (lv_room (Nat.le_of_ble_eq_true rfl)) dX8_weave_7 ⟨Nat.le_of_ble_eq_true rfl, Nat.le_of_ble_eq_true rfl⟩) hS (fun q _ h => hFc q h) hFc (fun r_5 u t H1 locs1 ht hvm hw hB hz1 hk1 hS => ?_)
    obtain ⟨hP1, hK1, hD1⟩ := hB
    rw [ht] at hP1
    have hK1 := va_K.moved hvm.symm hK1
    obtain ⟨hP, hD⟩ := va_join (wr := [(lc, .inr (5, [.int 0, vlc, .int 0])), (lp, .inr (5, [.int 0, vlp, .int 0]))]) (w1 := [(m0, .inr (14, [.ref lc, .ref lp, g2, g3, g4, g5, g6, g7, .int 0]))]) hP hD [1] [0, 2] rfl rfl (by decide) (by decide) hk1 hFc hP1 hD1
    have hK := (hK.sub (tys' := []) [] rfl).app hK1
    generalize H1 = H at hP hS ⊢
    have hP : va_P (dC, dI) vwCl [(lc, .inr (5, [.int 0, vlc, .int 0])), (lp, .inr (5, [.int 0, vlp, .int 0])), (m0, .inr (14, [.ref lc, .ref lp, g2, g3, g4, g5, g6, g7, .int 0]))] H := hP
    have hD : va_D A [(lc, .inr (5, [.int 0, vlc, .int 0])), (lp, .inr (5, [.int 0, vlp, .int 0])), (m0, .inr (14, [.ref lc, .ref lp, g2, g3, g4, g5, g6, g7, .int 0]))] := hD
    have hK : va_K (dC, dI) vwCl [] s := hK
    refine W.widen (k := 0) (n := 0) (Nat.le_of_ble_eq_true rfl) (Nat.le_of_ble_eq_true rfl) ?_
    have hw : r_5 = 0 := hw
    rw [hw]
    refine lv_if_ne (tgt := 28) hx hb dX8_weave_10 (by decide) (fun c_6 => ?_) (fun c_6 => ?_)
    · exact absurd (by decide) c_6
    · refine lv_aload_n hx hb dX8_weave_13 rfl (lv_at hl 0 rfl) ?_
      refine lv_aload_n hx hb dX8_weave_14 rfl (lv_at hl 0 rfl) ?_
      refine va_get (D := (dC, dI)) (ci := 14) (v := .ref lc) (C := RX8) (T := TX8) (N := 9) hx hb hts (by decide +kernel) hown hK hP 2 rfl rfl 0 (by decide) (hts (.fieldLink RX8 10 "BothfacesModel" "cards" "Ljava/util/ArrayList;") (by decide +kernel)) (fun _ h9 => h9) rfl dX8_weave_15 ?_
      have hPc := hP.sub (ws' := [(lc, .inr (5, [.int 0, vlc, .int 0]))]) [0] rfl
      have hDc := hD.sub (ws' := [(lc, .inr (5, [.int 0, vlc, .int 0]))]) [0] (by decide) rfl
      have hKc := hK.sub (tys' := []) [] rfl
      have hFc := va_free (wc := [(lc, .inr (5, [.int 0, vlc, .int 0]))]) hD hS hA [0] rfl
      refine va_calli (va_runV (As := []) (rest := [.ref m0]) ⟨hx, hb, hml, hown, hts⟩ (c_Jx4a65c_isEmpty_aae02 l em dC dI lc (.int 0) vlc H.size) (cwV 0 hts gX8_weave_Jx4a65c_isEmpty_aae02 rfl rfl rfl (by decide +kernel) ⟨Nat.le_of_ble_eq_true rfl, Nat.le_of_ble_eq_true rfl⟩) ⟨Pw.blind _ _ _ _ _ _ _, va_recv hKc hPc (ci := 5) (q0 := 0) rfl rfl, fun U hU hW => ⟨rfl, Pw.go hPc hKc hDc hamb hS hFc hU hW⟩⟩ rfl rfl hl.1 rfl (lv_room (Nat.le_of_ble_eq_true rfl)) dX8_weave_18 ⟨Nat.le_of_ble_eq_true rfl, Nat.le_of_ble_eq_true rfl⟩) hS (fun q _ h => hFc q h) hFc (fun r_7 u t H1 locs1 ht hvm hw hB hz1 hk1 hS => ?_)
      obtain ⟨hP1, hK1, hD1⟩ := hB
      rw [ht] at hP1
      have hK1 := va_K.moved hvm.symm hK1
      obtain ⟨hP, hD⟩ := va_join (wr := [(lp, .inr (5, [.int 0, vlp, .int 0])), (m0, .inr (14, [.ref lc, .ref lp, g2, g3, g4, g5, g6, g7, .int 0]))]) (w1 := [(lc, .inr (5, [.int 0, vlc, .int 0]))]) hP hD [0] [1, 2] rfl rfl (by decide) (by decide) hk1 hFc hP1 hD1
      have hK := (hK.sub (tys' := []) [] rfl).app hK1
      generalize H1 = H at hP hS ⊢
      have hP : va_P (dC, dI) vwCl [(lp, .inr (5, [.int 0, vlp, .int 0])), (m0, .inr (14, [.ref lc, .ref lp, g2, g3, g4, g5, g6, g7, .int 0])), (lc, .inr (5, [.int 0, vlc, .int 0]))] H := hP
      have hD : va_D A [(lp, .inr (5, [.int 0, vlp, .int 0])), (m0, .inr (14, [.ref lc, .ref lp, g2, g3, g4, g5, g6, g7, .int 0])), (lc, .inr (5, [.int 0, vlc, .int 0]))] := hD
      have hK : va_K (dC, dI) vwCl [] s := hK
      refine W.widen (k := 0) (n := 0) (Nat.le_of_ble_eq_true rfl) (Nat.le_of_ble_eq_true rfl) ?_
      have hw : r_7 = 1 := hw
      rw [hw]
      refine lv_iconst (v := 2) hx hb dX8_weave_21 (by decide) ?_
      have hPc := hP.sub (ws' := [(m0, .inr (14, [.ref lc, .ref lp, g2, g3, g4, g5, g6, g7, .int 0]))]) [1] rfl
      have hDc := hD.sub (ws' := [(m0, .inr (14, [.ref lc, .ref lp, g2, g3, g4, g5, g6, g7, .int 0]))]) [1] (by decide) rfl
      have hKc := hK.sub (tys' := []) [] rfl
      have hFc := va_free (wc := [(m0, .inr (14, [.ref lc, .ref lp, g2, g3, g4, g5, g6, g7, .int 0]))]) hD hS hA [1] rfl
      refine va_calli (va_runV (As := [.int 1, .int 2]) (rest := []) ⟨hx, hb, hml, hown, hts⟩ (c_X8_isThrown_1 l em dC dI m0 2 (.ref lc) (.ref lp) g2 g3 g4 g5 g6 g7 (.int 0) H.size) (cwV 2 hts gX8_weave_X8_isThrown rfl rfl rfl (by decide +kernel) ⟨Nat.le_of_ble_eq_true rfl, Nat.le_of_ble_eq_true rfl⟩) ⟨Pw.blind _ _ _ _ _ _ _, va_recv hKc hPc (ci := 14) (q0 := 0) rfl rfl, fun U hU hW => ⟨rfl, Pw.go hPc hKc hDc hamb hS hFc hU hW⟩⟩ rfl rfl hl.1 rfl (lv_room (Nat.le_of_ble_eq_true rfl)) dX8_weave_22 ⟨Nat.le_of_ble_eq_true rfl, Nat.le_of_ble_eq_true rfl⟩) hS (fun q _ h => hFc q h) hFc (fun r_8 u t H1 locs1 ht hvm hw hB hz1 hk1 hS => ?_)
      obtain ⟨hP1, hK1, hD1⟩ := hB
      rw [ht] at hP1
      have hK1 := va_K.moved hvm.symm hK1
      obtain ⟨hP, hD⟩ := va_join (wr := [(lp, .inr (5, [.int 0, vlp, .int 0])), (lc, .inr (5, [.int 0, vlc, .int 0]))]) (w1 := [(m0, .inr (14, [.ref lc, .ref lp, g2, g3, g4, g5, g6, g7, .int 2]))]) hP hD [1] [0, 2] rfl rfl (by decide) (by decide) hk1 hFc hP1 hD1
      have hK := (hK.sub (tys' := []) [] rfl).app hK1
      generalize H1 = H at hP hS ⊢
      have hP : va_P (dC, dI) vwCl [(lp, .inr (5, [.int 0, vlp, .int 0])), (lc, .inr (5, [.int 0, vlc, .int 0])), (m0, .inr (14, [.ref lc, .ref lp, g2, g3, g4, g5, g6, g7, .int 2]))] H := hP
      have hD : va_D A [(lp, .inr (5, [.int 0, vlp, .int 0])), (lc, .inr (5, [.int 0, vlc, .int 0])), (m0, .inr (14, [.ref lc, .ref lp, g2, g3, g4, g5, g6, g7, .int 2]))] := hD
      have hK : va_K (dC, dI) vwCl [] s := hK
      refine W.widen (k := 0) (n := 0) (Nat.le_of_ble_eq_true rfl) (Nat.le_of_ble_eq_true rfl) ?_
      have hw : r_8 = 1 := hw
      rw [hw]
      refine lv_if_eq (tgt := 30) hx hb dX8_weave_25 (by decide) (fun c_9 => ?_) (fun c_9 => ?_)
      · exact absurd c_9 (by decide)
      · refine lv_iconst (v := 0) hx hb dX8_weave_28 (by decide) ?_
        refine W.widen (k := 0) (n := 0) (Nat.le_of_ble_eq_true rfl) (Nat.le_of_ble_eq_true rfl) ?_
        have hP9 := hP.sub (ws' := [(m0, .inr (14, [.ref lc, .ref lp, g2, g3, g4, g5, g6, g7, .int 2]))]) [2] rfl
        have hD9 := hD.sub (ws' := [(m0, .inr (14, [.ref lc, .ref lp, g2, g3, g4, g5, g6, g7, .int 2]))]) [2] (by decide) rfl
        have hK9 := hK.sub (tys' := []) [] rfl
        exact W.iret (v := 0) hx hb hr (fun t ht hW => ⟨⟨0, (), rfl, ⟨fun h9 => (by first | rfl | (exfalso; omega)), fun h9 => (by first | rfl | (exfalso; omega))⟩, ⟨(2), ⟨by rw [ht]; exact hP9, va_K.moved hW.alike hK9, hD9⟩, (by first | rfl | assumption | omega | exact fun _ => rfl | exact fun h9 => absurd (by omega) h9 | exact fun h9 => absurd h9 (by omega)), (by first | rfl | assumption | omega | exact fun _ => rfl | exact fun h9 => absurd (by omega) h9 | exact fun h9 => absurd h9 (by omega))⟩⟩, hS.F ht⟩) hS.2.2 dX8_weave_29

set_option maxHeartbeats 4000000 in
set_option maxRecDepth 100000 in
theorem c_J0_coder_7d493 (l : Launch) (em : Nat → Nat) (dC : Nat → ClassId) (dI : Nat → Nat → Nat) (sz : Nat) : Met l yJ0_coder_7d493 wsJ0_coder_7d493 ({ frames := 0, cells := 0, slots := 0, locals := 0 }) (va_Pc [.ref (em 1)] (Pw em dC dI sz [] [])) (va_Qi (fun (r : Int32) (_ : Unit) => r = 0) (fun _ t => True) (va_A [] sz)) 0 0 (va_A [] sz) := by
  refine Met.ofW (cc := cJ0_coder_7d493) (maxL := 1) (ret := (some .byte)) (by decide) rfl ?_
  intro p e s m args below meth c s₁ B hml hv
  obtain ⟨rfl, hsz, hP, hK, hD0, hamb⟩ := hv
  have hx := B.exec
  have hb := B.bytes
  have hr := B.returns
  have hts := atoms_spec (ws := wsJ0_coder_7d493) B.pre
  have hown : s.vm.findClass RJ0 = some m.cls := findClass_of_methodNamed B.named
  have hlocks := B.notSynchronized
  subst hsz
  have hD := hD0.self (sz := s.heap.size)
  generalize hAe : va_A [] s.heap.size = A at hD hamb ⊢
  have hA : ∀ q : Nat, s.heap.size ≤ q → A q := fun q h => by rw [← hAe]; exact Or.inr h
  have hS : va_S A s.heap s.heap [] := va_S.rf
  have hP : va_P (dC, dI) vwCl [] s.heap := hP
  have hl := lv_entry ([.ref (em 1)]) (n := 1) (Nat.le_of_ble_eq_true rfl)
  rw [lg_entry_eq]
  generalize (lg_sl ([.ref (em 1)]) ++ List.replicate (1 - (lg_sl ([.ref (em 1)])).length) Slot.unset).toArray = ls at hl ⊢
  have hl : lv_has ls 1 [(0, .ref (em 1))] := hl
  refine va_gets hx hb hamb.zc hS hown (hts (.fieldLink RJ0 38 "java/lang/String" "COMPACT_STRINGS" "Z") (by decide +kernel)) (fun _ h9 => h9) dJ0_coder_7d493_0 ?_
  refine lv_if_eq (tgt := 13) hx hb dJ0_coder_7d493_3 (by decide) (fun c_1 => ?_) (fun c_1 => ?_)
  · exact absurd c_1 (by decide)
  · refine lv_aload_n hx hb dJ0_coder_7d493_6 rfl (lv_at hl 0 rfl) ?_
    refine vk_getf hx hb ((hamb.s1.1 0 (by decide)).2.1) hS hown (hts (.fieldLink RJ0 15 "java/lang/String" "coder" "B") (by decide +kernel)) (fun _ h9 => h9) dJ0_coder_7d493_7 ?_
    refine lv_goto (tgt := 14) hx hb dJ0_coder_7d493_10 (by decide) ?_
    refine W.widen (k := 0) (n := 0) (Nat.le_of_ble_eq_true rfl) (Nat.le_of_ble_eq_true rfl) ?_
    exact W.zret (v := 0) hx hb hr rfl (fun t ht hW => ⟨⟨0, (), rfl, rfl, trivial⟩, hS.F ht⟩) hS.2.2 dJ0_coder_7d493_14

set_option maxHeartbeats 4000000 in
set_option maxRecDepth 100000 in
theorem c_J0_length_8abf5 (l : Launch) (em : Nat → Nat) (dC : Nat → ClassId) (dI : Nat → Nat → Nat) (sz : Nat) : Met l yJ0_length_8abf5 wsJ0_length_8abf5 ({ frames := 1, cells := 0, slots := 0, locals := 20 }) (va_Pc [.ref (em 1)] (Pw em dC dI sz [] [])) (va_Qi (fun (r : Int32) (_ : Unit) => r = 0) (fun _ t => True) (va_A [] sz)) 0 0 (va_A [] sz) := by
  refine Met.ofW (cc := cJ0_length_8abf5) (maxL := 1) (ret := (some .int)) (by decide) rfl ?_
  intro p e s m args below meth c s₁ B hml hv
  obtain ⟨rfl, hsz, hP, hK, hD0, hamb⟩ := hv
  have hx := B.exec
  have hb := B.bytes
  have hr := B.returns
  have hts := atoms_spec (ws := wsJ0_length_8abf5) B.pre
  have hown : s.vm.findClass RJ0 = some m.cls := findClass_of_methodNamed B.named
  have hlocks := B.notSynchronized
  subst hsz
  have hD := hD0.self (sz := s.heap.size)
  generalize hAe : va_A [] s.heap.size = A at hD hamb ⊢
  have hA : ∀ q : Nat, s.heap.size ≤ q → A q := fun q h => by rw [← hAe]; exact Or.inr h
  have hS : va_S A s.heap s.heap [] := va_S.rf
  have hP : va_P (dC, dI) vwCl [] s.heap := hP
  have hl := lv_entry ([.ref (em 1)]) (n := 1) (Nat.le_of_ble_eq_true rfl)
  rw [lg_entry_eq]
  generalize (lg_sl ([.ref (em 1)]) ++ List.replicate (1 - (lg_sl ([.ref (em 1)])).length) Slot.unset).toArray = ls at hl ⊢
  have hl : lv_has ls 1 [(0, .ref (em 1))] := hl
  refine lv_aload_n hx hb dJ0_length_8abf5_0 rfl (lv_at hl 0 rfl) ?_
  refine vk_getf hx hb ((hamb.s1.1 0 (by decide)).2.2.1) hS hown (hts (.fieldLink RJ0 9 "java/lang/String" "value" "[B") (by decide +kernel)) (fun _ h9 => h9) dJ0_length_8abf5_1 ?_
  refine va_tlen hx hb (hamb.s1.1 0 (by decide)).2.2.2 hS (v := 0) (by decide) dJ0_length_8abf5_4 ?_
  refine lv_aload_n hx hb dJ0_length_8abf5_5 rfl (lv_at hl 0 rfl) ?_
  have hPc := hP.sub (ws' := []) [] rfl
  have hDc := hD.sub (ws' := []) [] (by decide) rfl
  have hKc := hK.sub (tys' := []) [] rfl
  have hFc := va_free (wc := []) hD hS hA [] rfl
  refine va_calli (va_runV (As := []) (rest := [.int 0]) ⟨hx, hb, hml, hown, hts⟩ (c_J0_coder_7d493 l em dC dI s.heap.size) (cwV 0 hts gJ0_length_8abf5_J0_coder_7d493 rfl rfl rfl (by decide +kernel) ⟨Nat.le_of_ble_eq_true rfl, Nat.le_of_ble_eq_true rfl⟩) ⟨Pw.blind _ _ _ _ _ _ _, (vk_recv hamb.s1 (i := 0) (by decide) hS), fun U hU hW => ⟨rfl, Pw.go hPc hKc hDc hamb hS hFc hU hW⟩⟩ rfl rfl hl.1 rfl (lv_room (Nat.le_of_ble_eq_true rfl)) dJ0_length_8abf5_6 ⟨Nat.le_of_ble_eq_true rfl, Nat.le_of_ble_eq_true rfl⟩) hS (fun q _ h => hFc q h) hFc (fun r_1 u t H1 locs1 ht hvm hw hB hz1 hk1 hS => ?_)
  obtain ⟨hP, hD⟩ := va_rest (wr := []) hP hD [] [] rfl rfl (by decide) (by decide) hk1 hFc
  generalize H1 = H at hP hS ⊢
  refine W.widen (k := 0) (n := 0) (Nat.le_of_ble_eq_true rfl) (Nat.le_of_ble_eq_true rfl) ?_
  have hw : r_1 = 0 := hw
  rw [hw]
  refine lv_ishr hx hb dJ0_length_8abf5_9 ?_
  refine lv_topi (fun k_2 ek_2 => ?_)
  obtain rfl : k_2 = 0 := ek_2.trans (by decide)
  refine W.widen (k := 0) (n := 0) (Nat.le_of_ble_eq_true rfl) (Nat.le_of_ble_eq_true rfl) ?_
  exact W.iret (v := 0) hx hb hr (fun t ht hW => ⟨⟨0, (), rfl, rfl, trivial⟩, hS.F ht⟩) hS.2.2 dJ0_length_8abf5_10

set_option maxHeartbeats 4000000 in
set_option maxRecDepth 100000 in
theorem c_X8_wipe (l : Launch) (em : Nat → Nat) (dC : Nat → ClassId) (dI : Nat → Nat → Nat) (m0 : Nat) (g0 : Value) (g1 : Value) (g2 : Value) (g3 : Value) (g4 : Value) (g5 : Value) (g6 : Value) (g8 : Value) (sz : Nat) : Met l yX8_wipe wsX8_wipe ({ frames := 2, cells := 0, slots := 0, locals := 40 }) (va_Pc [.ref m0] (Pw em dC dI sz [(m0, .inr (14, [g0, g1, g2, g3, g4, g5, g6, .ref (em 1), g8]))] [])) (va_Qi (fun (r : Int32) (_ : Unit) => r = 0) (fun _ t => Qw dC dI (va_A [(m0, .inr (14, [g0, g1, g2, g3, g4, g5, g6, .ref (em 1), g8]))] sz) [(m0, .inr (14, [g0, g1, g2, g3, g4, g5, g6, .ref (em 1), .int 0]))] [] t) (va_A [(m0, .inr (14, [g0, g1, g2, g3, g4, g5, g6, .ref (em 1), g8]))] sz)) 0 0 (va_A [(m0, .inr (14, [g0, g1, g2, g3, g4, g5, g6, .ref (em 1), g8]))] sz) := by
  refine Met.ofW (cc := cX8_wipe) (maxL := 2) (ret := (some .int)) (by decide) rfl ?_
  intro p e s m args below meth c s₁ B hml hv
  obtain ⟨rfl, hsz, hP, hK, hD0, hamb⟩ := hv
  have hx := B.exec
  have hb := B.bytes
  have hr := B.returns
  have hts := atoms_spec (ws := wsX8_wipe) B.pre
  have hown : s.vm.findClass RX8 = some m.cls := findClass_of_methodNamed B.named
  have hlocks := B.notSynchronized
  subst hsz
  have hD := hD0.self (sz := s.heap.size)
  generalize hAe : va_A [(m0, .inr (14, [g0, g1, g2, g3, g4, g5, g6, .ref (em 1), g8]))] s.heap.size = A at hD hamb ⊢
  have hA : ∀ q : Nat, s.heap.size ≤ q → A q := fun q h => by rw [← hAe]; exact Or.inr h
  have hS : va_S A s.heap s.heap [] := va_S.rf
  have hP : va_P (dC, dI) vwCl [(m0, .inr (14, [g0, g1, g2, g3, g4, g5, g6, .ref (em 1), g8]))] s.heap := hP
  have hl := lv_entry ([.ref m0]) (n := 2) (Nat.le_of_ble_eq_true rfl)
  rw [lg_entry_eq]
  generalize (lg_sl ([.ref m0]) ++ List.replicate (2 - (lg_sl ([.ref m0])).length) Slot.unset).toArray = ls at hl ⊢
  have hl : lv_has ls 2 [(0, .ref m0)] := hl
  refine lv_aload_n hx hb dX8_wipe_0 rfl (lv_at hl 0 rfl) ?_
  refine lv_iconst (v := 0) hx hb dX8_wipe_1 (by decide) ?_
  refine va_put (D := (dC, dI)) (ci := 14) (v := .int 0) (ty := .int) (C := RX8) (T := TX8) (N := 9) hx hb hts (by decide +kernel) tyX8 tyX8_ok nmX8 hown hK hP hD hS 0 rfl rfl 8 (by decide) (hts (.fieldLink RX8 46 "BothfacesModel" "thrown" "I") (by decide +kernel)) (fun _ h9 => h9) rfl (by decide +kernel) rfl rfl (Nat.le_of_ble_eq_true rfl) dX8_wipe_2 (fun H locs hP hD hS => ?_)
  have hP : va_P (dC, dI) vwCl [(m0, .inr (14, [g0, g1, g2, g3, g4, g5, g6, .ref (em 1), .int 0]))] H := hP
  have hD : va_D A [(m0, .inr (14, [g0, g1, g2, g3, g4, g5, g6, .ref (em 1), .int 0]))] := hD
  refine lv_aload_n hx hb dX8_wipe_5 rfl (lv_at hl 0 rfl) ?_
  refine va_get (D := (dC, dI)) (ci := 14) (v := .ref (em 1)) (C := RX8) (T := TX8) (N := 9) hx hb hts (by decide +kernel) hown hK hP 0 rfl rfl 7 (by decide) (hts (.fieldLink RX8 42 "BothfacesModel" "typed" "Ljava/lang/String;") (by decide +kernel)) (fun _ h9 => h9) rfl dX8_wipe_6 ?_
  have hPc := hP.sub (ws' := []) [] rfl
  have hDc := hD.sub (ws' := []) [] (by decide) rfl
  have hKc := hK.sub (tys' := []) [] rfl
  have hFc := va_free (wc := []) hD hS hA [] rfl
  refine va_calli (va_runV (As := []) (rest := []) ⟨hx, hb, hml, hown, hts⟩ (c_J0_length_8abf5 l em dC dI H.size) (cwV 0 hts gX8_wipe_J0_length_8abf5 rfl rfl rfl (by decide +kernel) ⟨Nat.le_of_ble_eq_true rfl, Nat.le_of_ble_eq_true rfl⟩) ⟨Pw.blind _ _ _ _ _ _ _, (vk_recv hamb.s1 (i := 0) (by decide) hS), fun U hU hW => ⟨rfl, Pw.go hPc hKc hDc hamb hS hFc hU hW⟩⟩ rfl rfl hl.1 rfl (lv_room (Nat.le_of_ble_eq_true rfl)) dX8_wipe_9 ⟨Nat.le_of_ble_eq_true rfl, Nat.le_of_ble_eq_true rfl⟩) hS (fun q _ h => hFc q h) hFc (fun r_1 u t H1 locs1 ht hvm hw hB hz1 hk1 hS => ?_)
  obtain ⟨hP, hD⟩ := va_rest (wr := [(m0, .inr (14, [g0, g1, g2, g3, g4, g5, g6, .ref (em 1), .int 0]))]) hP hD [] [0] rfl rfl (by decide) (by decide) hk1 hFc
  generalize H1 = H at hP hS ⊢
  refine W.widen (k := 0) (n := 0) (Nat.le_of_ble_eq_true rfl) (Nat.le_of_ble_eq_true rfl) ?_
  have hw : r_1 = 0 := hw
  rw [hw]
  refine lv_istore_n (lv' := [(1, .int 0), (0, .ref m0)]) hx hb dX8_wipe_12 rfl hl (by decide) rfl (fun ls hl => ?_)
  refine lv_aload_n hx hb dX8_wipe_13 rfl (lv_at hl 1 rfl) ?_
  refine va_ldcS hx hb hown hamb.r1 dX8_wipe_14 ?_
  refine va_put (D := (dC, dI)) (ci := 14) (v := .ref (em 1)) (ty := (.object "java/lang/String")) (C := RX8) (T := TX8) (N := 9) hx hb hts (by decide +kernel) tyX8 tyX8_ok nmX8 hown hK hP hD hS 0 rfl rfl 7 (by decide) (hts (.fieldLink RX8 42 "BothfacesModel" "typed" "Ljava/lang/String;") (by decide +kernel)) (fun _ h9 => h9) rfl (by decide +kernel) rfl rfl (Nat.le_of_ble_eq_true rfl) dX8_wipe_16 (fun H locs hP hD hS => ?_)
  have hP : va_P (dC, dI) vwCl [(m0, .inr (14, [g0, g1, g2, g3, g4, g5, g6, .ref (em 1), .int 0]))] H := hP
  have hD : va_D A [(m0, .inr (14, [g0, g1, g2, g3, g4, g5, g6, .ref (em 1), .int 0]))] := hD
  refine lv_iload_n hx hb dX8_wipe_19 rfl (lv_at hl 0 rfl) ?_
  refine W.widen (k := 0) (n := 0) (Nat.le_of_ble_eq_true rfl) (Nat.le_of_ble_eq_true rfl) ?_
  have hP9 := hP.sub (ws' := [(m0, .inr (14, [g0, g1, g2, g3, g4, g5, g6, .ref (em 1), .int 0]))]) [0] rfl
  have hD9 := hD.sub (ws' := [(m0, .inr (14, [g0, g1, g2, g3, g4, g5, g6, .ref (em 1), .int 0]))]) [0] (by decide) rfl
  have hK9 := hK.sub (tys' := []) [] rfl
  exact W.iret (v := 0) hx hb hr (fun t ht hW => ⟨⟨0, (), rfl, rfl, ⟨by rw [ht]; exact hP9, va_K.moved hW.alike hK9, hD9⟩⟩, hS.F ht⟩) hS.2.2 dX8_wipe_20

set_option maxHeartbeats 4000000 in
set_option maxRecDepth 100000 in
theorem c_X8_motto (l : Launch) (em : Nat → Nat) (dC : Nat → ClassId) (dI : Nat → Nat → Nat) (m0 : Nat) (p0 : Int32) (p1 : Int32) (p2 : Int32) (g1 : Value) (g2 : Value) (g3 : Value) (g4 : Value) (g5 : Value) (g6 : Value) (g8 : Value) (lc : Nat) (vlc : Value) (sz : Nat) : Met l yX8_motto wsX8_motto ({ frames := 2, cells := 0, slots := 0, locals := 43 }) (va_Pc [.ref m0, .int p0, .int p1, .int p2] (Pw em dC dI sz [(m0, .inr (14, [.ref lc, g1, g2, g3, g4, g5, g6, .ref (em 1), g8])), (lc, .inr (5, [.int 0, vlc, .int 0]))] [])) (va_Qi (fun (r : Int32) (_ : Unit) => r = 0) (fun _ t => Qw dC dI (va_A [(m0, .inr (14, [.ref lc, g1, g2, g3, g4, g5, g6, .ref (em 1), g8])), (lc, .inr (5, [.int 0, vlc, .int 0]))] sz) [(m0, .inr (14, [.ref lc, g1, g2, g3, g4, g5, g6, .ref (em 1), .int 1]))] [] t) (va_A [(m0, .inr (14, [.ref lc, g1, g2, g3, g4, g5, g6, .ref (em 1), g8])), (lc, .inr (5, [.int 0, vlc, .int 0]))] sz)) 0 0 (va_A [(m0, .inr (14, [.ref lc, g1, g2, g3, g4, g5, g6, .ref (em 1), g8])), (lc, .inr (5, [.int 0, vlc, .int 0]))] sz) := by
  refine Met.ofW (cc := cX8_motto) (maxL := 6) (ret := (some .int)) (by decide) rfl ?_
  intro p e s m args below meth c s₁ B hml hv
  obtain ⟨rfl, hsz, hP, hK, hD0, hamb⟩ := hv
  have hx := B.exec
  have hb := B.bytes
  have hr := B.returns
  have hts := atoms_spec (ws := wsX8_motto) B.pre
  have hown : s.vm.findClass RX8 = some m.cls := findClass_of_methodNamed B.named
  have hlocks := B.notSynchronized
  subst hsz
  have hD := hD0.self (sz := s.heap.size)
  generalize hAe : va_A [(m0, .inr (14, [.ref lc, g1, g2, g3, g4, g5, g6, .ref (em 1), g8])), (lc, .inr (5, [.int 0, vlc, .int 0]))] s.heap.size = A at hD hamb ⊢
  have hA : ∀ q : Nat, s.heap.size ≤ q → A q := fun q h => by rw [← hAe]; exact Or.inr h
  have hS : va_S A s.heap s.heap [] := va_S.rf
  have hP : va_P (dC, dI) vwCl [(m0, .inr (14, [.ref lc, g1, g2, g3, g4, g5, g6, .ref (em 1), g8])), (lc, .inr (5, [.int 0, vlc, .int 0]))] s.heap := hP
  have hl := lv_entry ([.ref m0, .int p0, .int p1, .int p2]) (n := 6) (Nat.le_of_ble_eq_true rfl)
  rw [lg_entry_eq]
  generalize (lg_sl ([.ref m0, .int p0, .int p1, .int p2]) ++ List.replicate (6 - (lg_sl ([.ref m0, .int p0, .int p1, .int p2])).length) Slot.unset).toArray = ls at hl ⊢
  have hl : lv_has ls 6 [(0, .ref m0), (1, .int p0), (2, .int p1), (3, .int p2)] := hl
  refine lv_iconst (v := 4) hx hb dX8_motto_0 (by decide) ?_
  refine lv_aload_n hx hb dX8_motto_1 rfl (lv_at hl 0 rfl) ?_
  refine va_get (D := (dC, dI)) (ci := 14) (v := .ref (em 1)) (C := RX8) (T := TX8) (N := 9) hx hb hts (by decide +kernel) hown hK hP 0 rfl rfl 7 (by decide) (hts (.fieldLink RX8 42 "BothfacesModel" "typed" "Ljava/lang/String;") (by decide +kernel)) (fun _ h9 => h9) rfl dX8_motto_2 ?_
  have hPc := hP.sub (ws' := []) [] rfl
  have hDc := hD.sub (ws' := []) [] (by decide) rfl
  have hKc := hK.sub (tys' := []) [] rfl
  have hFc := va_free (wc := []) hD hS hA [] rfl
  refine va_calli (va_runV (As := []) (rest := [.int 4]) ⟨hx, hb, hml, hown, hts⟩ (c_J0_length_8abf5 l em dC dI s.heap.size) (cwV 0 hts gX8_motto_J0_length_8abf5 rfl rfl rfl (by decide +kernel) ⟨Nat.le_of_ble_eq_true rfl, Nat.le_of_ble_eq_true rfl⟩) ⟨Pw.blind _ _ _ _ _ _ _, (vk_recv hamb.s1 (i := 0) (by decide) hS), fun U hU hW => ⟨rfl, Pw.go hPc hKc hDc hamb hS hFc hU hW⟩⟩ rfl rfl hl.1 rfl (lv_room (Nat.le_of_ble_eq_true rfl)) dX8_motto_5 ⟨Nat.le_of_ble_eq_true rfl, Nat.le_of_ble_eq_true rfl⟩) hS (fun q _ h => hFc q h) hFc (fun r_1 u t H1 locs1 ht hvm hw hB hz1 hk1 hS => ?_)
  obtain ⟨hP, hD⟩ := va_rest (wr := [(m0, .inr (14, [.ref lc, g1, g2, g3, g4, g5, g6, .ref (em 1), g8])), (lc, .inr (5, [.int 0, vlc, .int 0]))]) hP hD [] [0, 1] rfl rfl (by decide) (by decide) hk1 hFc
  generalize H1 = H at hP hS ⊢
  refine W.widen (k := 0) (n := 0) (Nat.le_of_ble_eq_true rfl) (Nat.le_of_ble_eq_true rfl) ?_
  have hw : r_1 = 0 := hw
  rw [hw]
  refine lv_imul hx hb dX8_motto_8 ?_
  refine lv_topi (fun k_2 ek_2 => ?_)
  obtain rfl : k_2 = 0 := ek_2.trans (by decide)
  refine lv_iconst (v := 1) hx hb dX8_motto_9 (by decide) ?_
  refine lv_isub hx hb dX8_motto_10 ?_
  refine lv_topi (fun k_3 ek_3 => ?_)
  obtain rfl : k_3 = (-1) := ek_3.trans (by decide)
  refine lv_istore (lv' := [(4, .int (-1)), (0, .ref m0), (1, .int p0), (2, .int p1), (3, .int p2)]) hx hb dX8_motto_11 hl (by decide) rfl (fun ls hl => ?_)
  refine lv_aload_n hx hb dX8_motto_13 rfl (lv_at hl 1 rfl) ?_
  refine lv_aload_n hx hb dX8_motto_14 rfl (lv_at hl 1 rfl) ?_
  refine lv_iload_n hx hb dX8_motto_15 rfl (lv_at hl 3 rfl) ?_
  have hPc := hP.sub (ws' := [(m0, .inr (14, [.ref lc, g1, g2, g3, g4, g5, g6, .ref (em 1), g8])), (lc, .inr (5, [.int 0, vlc, .int 0]))]) [0, 1] rfl
  have hDc := hD.sub (ws' := [(m0, .inr (14, [.ref lc, g1, g2, g3, g4, g5, g6, .ref (em 1), g8])), (lc, .inr (5, [.int 0, vlc, .int 0]))]) [0, 1] (by decide) rfl
  have hKc := hK.sub (tys' := []) [] rfl
  have hFc := va_free (wc := [(m0, .inr (14, [.ref lc, g1, g2, g3, g4, g5, g6, .ref (em 1), g8])), (lc, .inr (5, [.int 0, vlc, .int 0]))]) hD hS hA [0, 1] rfl
  refine va_calli (va_runV (As := [.int p1]) (rest := [.ref m0]) ⟨hx, hb, hml, hown, hts⟩ (c_X8_isNoCard l em dC dI m0 p1 g1 g2 g3 g4 g5 g6 (.ref (em 1)) g8 lc vlc H.size) (cwV 1 hts gX8_motto_X8_isNoCard rfl rfl rfl (by decide +kernel) ⟨Nat.le_of_ble_eq_true rfl, Nat.le_of_ble_eq_true rfl⟩) ⟨Pw.blind _ _ _ _ _ _ _, va_recv hKc hPc (ci := 14) (q0 := 0) rfl rfl, fun U hU hW => ⟨rfl, Pw.go hPc hKc hDc hamb hS hFc hU hW⟩⟩ rfl rfl hl.1 rfl (lv_room (Nat.le_of_ble_eq_true rfl)) dX8_motto_16 ⟨Nat.le_of_ble_eq_true rfl, Nat.le_of_ble_eq_true rfl⟩) hS (fun q _ h => hFc q h) hFc (fun r_4 u t H1 locs1 ht hvm hw hB hz1 hk1 hS => ?_)
  obtain ⟨hP1, hK1, hD1⟩ := hB
  rw [ht] at hP1
  have hK1 := va_K.moved hvm.symm hK1
  obtain ⟨hP, hD⟩ := va_join (wr := []) (w1 := [(m0, .inr (14, [.ref lc, g1, g2, g3, g4, g5, g6, .ref (em 1), g8])), (lc, .inr (5, [.int 0, vlc, .int 0]))]) hP hD [0, 1] [] rfl rfl (by decide) (by decide) hk1 hFc hP1 hD1
  have hK := (hK.sub (tys' := []) [] rfl).app hK1
  generalize H1 = H at hP hS ⊢
  have hP : va_P (dC, dI) vwCl [(m0, .inr (14, [.ref lc, g1, g2, g3, g4, g5, g6, .ref (em 1), g8])), (lc, .inr (5, [.int 0, vlc, .int 0]))] H := hP
  have hD : va_D A [(m0, .inr (14, [.ref lc, g1, g2, g3, g4, g5, g6, .ref (em 1), g8])), (lc, .inr (5, [.int 0, vlc, .int 0]))] := hD
  have hK : va_K (dC, dI) vwCl [] s := hK
  refine W.widen (k := 0) (n := 0) (Nat.le_of_ble_eq_true rfl) (Nat.le_of_ble_eq_true rfl) ?_
  have hw : r_4 = 1 := hw
  rw [hw]
  refine lv_iconst (v := 1) hx hb dX8_motto_19 (by decide) ?_
  have hPc := hP.sub (ws' := [(m0, .inr (14, [.ref lc, g1, g2, g3, g4, g5, g6, .ref (em 1), g8]))]) [0] rfl
  have hDc := hD.sub (ws' := [(m0, .inr (14, [.ref lc, g1, g2, g3, g4, g5, g6, .ref (em 1), g8]))]) [0] (by decide) rfl
  have hKc := hK.sub (tys' := []) [] rfl
  have hFc := va_free (wc := [(m0, .inr (14, [.ref lc, g1, g2, g3, g4, g5, g6, .ref (em 1), g8]))]) hD hS hA [0] rfl
  refine va_calli (va_runV (As := [.int 1, .int 1]) (rest := []) ⟨hx, hb, hml, hown, hts⟩ (c_X8_isThrown_1 l em dC dI m0 1 (.ref lc) g1 g2 g3 g4 g5 g6 (.ref (em 1)) g8 H.size) (cwV 2 hts gX8_motto_X8_isThrown rfl rfl rfl (by decide +kernel) ⟨Nat.le_of_ble_eq_true rfl, Nat.le_of_ble_eq_true rfl⟩) ⟨Pw.blind _ _ _ _ _ _ _, va_recv hKc hPc (ci := 14) (q0 := 0) rfl rfl, fun U hU hW => ⟨rfl, Pw.go hPc hKc hDc hamb hS hFc hU hW⟩⟩ rfl rfl hl.1 rfl (lv_room (Nat.le_of_ble_eq_true rfl)) dX8_motto_20 ⟨Nat.le_of_ble_eq_true rfl, Nat.le_of_ble_eq_true rfl⟩) hS (fun q _ h => hFc q h) hFc (fun r_5 u t H1 locs1 ht hvm hw hB hz1 hk1 hS => ?_)
  obtain ⟨hP1, hK1, hD1⟩ := hB
  rw [ht] at hP1
  have hK1 := va_K.moved hvm.symm hK1
  obtain ⟨hP, hD⟩ := va_join (wr := [(lc, .inr (5, [.int 0, vlc, .int 0]))]) (w1 := [(m0, .inr (14, [.ref lc, g1, g2, g3, g4, g5, g6, .ref (em 1), .int 1]))]) hP hD [0] [1] rfl rfl (by decide) (by decide) hk1 hFc hP1 hD1
  have hK := (hK.sub (tys' := []) [] rfl).app hK1
  generalize H1 = H at hP hS ⊢
  have hP : va_P (dC, dI) vwCl [(lc, .inr (5, [.int 0, vlc, .int 0])), (m0, .inr (14, [.ref lc, g1, g2, g3, g4, g5, g6, .ref (em 1), .int 1]))] H := hP
  have hD : va_D A [(lc, .inr (5, [.int 0, vlc, .int 0])), (m0, .inr (14, [.ref lc, g1, g2, g3, g4, g5, g6, .ref (em 1), .int 1]))] := hD
  have hK : va_K (dC, dI) vwCl [] s := hK
  refine W.widen (k := 0) (n := 0) (Nat.le_of_ble_eq_true rfl) (Nat.le_of_ble_eq_true rfl) ?_
  have hw : r_5 = 1 := hw
  rw [hw]
  refine lv_if_ne (tgt := 94) hx hb dX8_motto_23 (by decide) (fun c_6 => ?_) (fun c_6 => ?_)
  · refine lv_iconst (v := 0) hx hb dX8_motto_94 (by decide) ?_
    refine W.widen (k := 0) (n := 0) (Nat.le_of_ble_eq_true rfl) (Nat.le_of_ble_eq_true rfl) ?_
    have hP9 := hP.sub (ws' := [(m0, .inr (14, [.ref lc, g1, g2, g3, g4, g5, g6, .ref (em 1), .int 1]))]) [1] rfl
    have hD9 := hD.sub (ws' := [(m0, .inr (14, [.ref lc, g1, g2, g3, g4, g5, g6, .ref (em 1), .int 1]))]) [1] (by decide) rfl
    have hK9 := hK.sub (tys' := []) [] rfl
    exact W.iret (v := 0) hx hb hr (fun t ht hW => ⟨⟨0, (), rfl, rfl, ⟨by rw [ht]; exact hP9, va_K.moved hW.alike hK9, hD9⟩⟩, hS.F ht⟩) hS.2.2 dX8_motto_95
  · exact absurd c_6 (by decide)

set_option maxHeartbeats 4000000 in
set_option maxRecDepth 100000 in
theorem c_X8_face_0 (l : Launch) (em : Nat → Nat) (dC : Nat → ClassId) (dI : Nat → Nat → Nat) (m0 : Nat) (ff : Nat) (fb : Nat) (g0 : Value) (g1 : Value) (g2 : Value) (g5 : Value) (g6 : Value) (g7 : Value) (g8 : Value) (sz : Nat) : Met l yX8_face wsX8_face ({ frames := 0, cells := 0, slots := 0, locals := 0 }) (va_Pc [.ref m0, .int 0] (Pw em dC dI sz [(m0, .inr (14, [g0, g1, g2, .ref ff, .ref fb, g5, g6, g7, g8]))] [])) (va_Qr (fun _ : Unit => True) (fun _ ra t => ra = ff ∧ (Qw dC dI (va_A [(m0, .inr (14, [g0, g1, g2, .ref ff, .ref fb, g5, g6, g7, g8]))] sz) [(m0, .inr (14, [g0, g1, g2, .ref ff, .ref fb, g5, g6, g7, g8]))] [] t)) (va_A [(m0, .inr (14, [g0, g1, g2, .ref ff, .ref fb, g5, g6, g7, g8]))] sz)) 0 0 (va_A [(m0, .inr (14, [g0, g1, g2, .ref ff, .ref fb, g5, g6, g7, g8]))] sz) := by
  refine Met.ofW (cc := cX8_face) (maxL := 2) (ret := (some (.object "BothfacesModel$Face"))) (by decide) rfl ?_
  intro p e s m args below meth c s₁ B hml hv
  obtain ⟨rfl, hsz, hP, hK, hD0, hamb⟩ := hv
  have hx := B.exec
  have hb := B.bytes
  have hr := B.returns
  have hts := atoms_spec (ws := wsX8_face) B.pre
  have hown : s.vm.findClass RX8 = some m.cls := findClass_of_methodNamed B.named
  have hlocks := B.notSynchronized
  subst hsz
  have hD := hD0.self (sz := s.heap.size)
  generalize hAe : va_A [(m0, .inr (14, [g0, g1, g2, .ref ff, .ref fb, g5, g6, g7, g8]))] s.heap.size = A at hD hamb ⊢
  have hA : ∀ q : Nat, s.heap.size ≤ q → A q := fun q h => by rw [← hAe]; exact Or.inr h
  have hS : va_S A s.heap s.heap [] := va_S.rf
  have hP : va_P (dC, dI) vwCl [(m0, .inr (14, [g0, g1, g2, .ref ff, .ref fb, g5, g6, g7, g8]))] s.heap := hP
  have hl := lv_entry ([.ref m0, .int 0]) (n := 2) (Nat.le_of_ble_eq_true rfl)
  rw [lg_entry_eq]
  generalize (lg_sl ([.ref m0, .int 0]) ++ List.replicate (2 - (lg_sl ([.ref m0, .int 0])).length) Slot.unset).toArray = ls at hl ⊢
  have hl : lv_has ls 2 [(0, .ref m0), (1, .int 0)] := hl
  refine lv_iload_n hx hb dX8_face_0 rfl (lv_at hl 1 rfl) ?_
  refine lv_if_eq (tgt := 11) hx hb dX8_face_1 (by decide) (fun c_1 => ?_) (fun c_1 => ?_)
  · refine lv_aload_n hx hb dX8_face_11 rfl (lv_at hl 0 rfl) ?_
    refine va_get (D := (dC, dI)) (ci := 14) (v := .ref ff) (C := RX8) (T := TX8) (N := 9) hx hb hts (by decide +kernel) hown hK hP 0 rfl rfl 3 (by decide) (hts (.fieldLink RX8 27 "BothfacesModel" "front" "LBothfacesModel$Face;") (by decide +kernel)) (fun _ h9 => h9) rfl dX8_face_12 ?_
    refine W.widen (k := 0) (n := 0) (Nat.le_of_ble_eq_true rfl) (Nat.le_of_ble_eq_true rfl) ?_
    have hP9 := hP.sub (ws' := [(m0, .inr (14, [g0, g1, g2, .ref ff, .ref fb, g5, g6, g7, g8]))]) [0] rfl
    have hD9 := hD.sub (ws' := [(m0, .inr (14, [g0, g1, g2, .ref ff, .ref fb, g5, g6, g7, g8]))]) [0] (by decide) rfl
    have hK9 := hK.sub (tys' := []) [] rfl
    exact W.aret (v := .ref ff) hx hb hr (Or.inl ⟨_, rfl⟩) (Or.inr ⟨_, rfl⟩) (fun t ht hW => ⟨⟨(), ff, rfl, trivial, ⟨rfl, ⟨by rw [ht]; exact hP9, va_K.moved hW.alike hK9, hD9⟩⟩⟩, hS.F ht⟩) hS.2.2 dX8_face_15
  · exact absurd (by decide) c_1

set_option maxHeartbeats 4000000 in
set_option maxRecDepth 100000 in
theorem c_X8_setInk_0 (l : Launch) (em : Nat → Nat) (dC : Nat → ClassId) (dI : Nat → Nat → Nat) (m0 : Nat) (p1 : Int32) (g0 : Value) (g1 : Value) (g2 : Value) (g5 : Value) (g6 : Value) (g7 : Value) (g8 : Value) (ff : Nat) (fb : Nat) (tf : Value) (tb : Value) (sz : Nat) : Met l yX8_setInk wsX8_setInk ({ frames := 2, cells := 0, slots := 0, locals := 42 }) (va_Pc [.ref m0, .int 0, .int p1] (Pw em dC dI sz [(m0, .inr (14, [g0, g1, g2, .ref ff, .ref fb, g5, g6, g7, g8])), (ff, .inr (13, [tf, .int 0, .int 0, .int 1, .int 0])), (fb, .inr (13, [tb, .int 0, .int 0, .int 1, .int 0]))] [])) (va_Qi (fun (r : Int32) (_ : Unit) => ((p1.toInt < 0 ∨ 7 < p1.toInt) → r = 0) ∧ (¬ (p1.toInt < 0 ∨ 7 < p1.toInt) → r = 1)) (fun _ t => ∃ (tv : Int32), Qw dC dI (va_A [(m0, .inr (14, [g0, g1, g2, .ref ff, .ref fb, g5, g6, g7, g8])), (ff, .inr (13, [tf, .int 0, .int 0, .int 1, .int 0])), (fb, .inr (13, [tb, .int 0, .int 0, .int 1, .int 0]))] sz) [(m0, .inr (14, [g0, g1, g2, .ref ff, .ref fb, g5, g6, g7, .int tv]))] [] t ∧ ((p1.toInt < 0 ∨ 7 < p1.toInt) → tv = 1) ∧ (¬ (p1.toInt < 0 ∨ 7 < p1.toInt) → tv = 0)) (va_A [(m0, .inr (14, [g0, g1, g2, .ref ff, .ref fb, g5, g6, g7, g8])), (ff, .inr (13, [tf, .int 0, .int 0, .int 1, .int 0])), (fb, .inr (13, [tb, .int 0, .int 0, .int 1, .int 0]))] sz)) 0 0 (va_A [(m0, .inr (14, [g0, g1, g2, .ref ff, .ref fb, g5, g6, g7, g8])), (ff, .inr (13, [tf, .int 0, .int 0, .int 1, .int 0])), (fb, .inr (13, [tb, .int 0, .int 0, .int 1, .int 0]))] sz) := by
  refine Met.ofW (cc := cX8_setInk) (maxL := 4) (ret := (some .int)) (by decide) rfl ?_
  intro p e s m args below meth c s₁ B hml hv
  obtain ⟨rfl, hsz, hP, hK, hD0, hamb⟩ := hv
  have hx := B.exec
  have hb := B.bytes
  have hr := B.returns
  have hts := atoms_spec (ws := wsX8_setInk) B.pre
  have hown : s.vm.findClass RX8 = some m.cls := findClass_of_methodNamed B.named
  have hlocks := B.notSynchronized
  subst hsz
  have hD := hD0.self (sz := s.heap.size)
  generalize hAe : va_A [(m0, .inr (14, [g0, g1, g2, .ref ff, .ref fb, g5, g6, g7, g8])), (ff, .inr (13, [tf, .int 0, .int 0, .int 1, .int 0])), (fb, .inr (13, [tb, .int 0, .int 0, .int 1, .int 0]))] s.heap.size = A at hD hamb ⊢
  have hA : ∀ q : Nat, s.heap.size ≤ q → A q := fun q h => by rw [← hAe]; exact Or.inr h
  have hS : va_S A s.heap s.heap [] := va_S.rf
  have hP : va_P (dC, dI) vwCl [(m0, .inr (14, [g0, g1, g2, .ref ff, .ref fb, g5, g6, g7, g8])), (ff, .inr (13, [tf, .int 0, .int 0, .int 1, .int 0])), (fb, .inr (13, [tb, .int 0, .int 0, .int 1, .int 0]))] s.heap := hP
  have hl := lv_entry ([.ref m0, .int 0, .int p1]) (n := 4) (Nat.le_of_ble_eq_true rfl)
  rw [lg_entry_eq]
  generalize (lg_sl ([.ref m0, .int 0, .int p1]) ++ List.replicate (4 - (lg_sl ([.ref m0, .int 0, .int p1])).length) Slot.unset).toArray = ls at hl ⊢
  have hl : lv_has ls 4 [(0, .ref m0), (1, .int 0), (2, .int p1)] := hl
  refine lv_aload_n hx hb dX8_setInk_0 rfl (lv_at hl 0 rfl) ?_
  refine lv_iload_n hx hb dX8_setInk_1 rfl (lv_at hl 2 rfl) ?_
  have hPc := hP.sub (ws' := []) [] rfl
  have hDc := hD.sub (ws' := []) [] (by decide) rfl
  have hKc := hK.sub (tys' := []) [] rfl
  have hFc := va_free (wc := []) hD hS hA [] rfl
  refine va_calli (va_runS (As := [.int p1]) (rest := [.ref m0]) ⟨hx, hb, hml, hown, hts⟩ (c_X8_isNoColour l em dC dI p1 s.heap.size) (va_cwS 1 hts gX8_setInk_X8_isNoColour rfl rfl rfl (by decide +kernel) ⟨Nat.le_of_ble_eq_true rfl, Nat.le_of_ble_eq_true rfl⟩) ⟨Pw.blind _ _ _ _ _ _ _, fun U hU hW => ⟨rfl, Pw.go hPc hKc hDc hamb hS hFc hU hW⟩⟩ rfl rfl hl.1 rfl (lv_room (Nat.le_of_ble_eq_true rfl)) dX8_setInk_2 ⟨Nat.le_of_ble_eq_true rfl, Nat.le_of_ble_eq_true rfl⟩) hS (fun q _ h => hFc q h) hFc (fun r_1 u t H1 locs1 ht hvm hw hB hz1 hk1 hS => ?_)
  obtain ⟨hP, hD⟩ := va_rest (wr := [(m0, .inr (14, [g0, g1, g2, .ref ff, .ref fb, g5, g6, g7, g8])), (ff, .inr (13, [tf, .int 0, .int 0, .int 1, .int 0])), (fb, .inr (13, [tb, .int 0, .int 0, .int 1, .int 0]))]) hP hD [] [0, 1, 2] rfl rfl (by decide) (by decide) hk1 hFc
  generalize H1 = H at hP hS ⊢
  refine W.widen (k := 0) (n := 0) (Nat.le_of_ble_eq_true rfl) (Nat.le_of_ble_eq_true rfl) ?_
  have hw : ((p1.toInt < 0 ∨ 7 < p1.toInt) → r_1 = 1) ∧ (¬ (p1.toInt < 0 ∨ 7 < p1.toInt) → r_1 = 0) := hw
  rcases Classical.em (p1.toInt < 0 ∨ 7 < p1.toInt) with t_2 | t_2
  · have hw := hw.1 t_2
    rw [hw]
    refine lv_iconst (v := 1) hx hb dX8_setInk_5 (by decide) ?_
    have hPc := hP.sub (ws' := [(m0, .inr (14, [g0, g1, g2, .ref ff, .ref fb, g5, g6, g7, g8]))]) [0] rfl
    have hDc := hD.sub (ws' := [(m0, .inr (14, [g0, g1, g2, .ref ff, .ref fb, g5, g6, g7, g8]))]) [0] (by decide) rfl
    have hKc := hK.sub (tys' := []) [] rfl
    have hFc := va_free (wc := [(m0, .inr (14, [g0, g1, g2, .ref ff, .ref fb, g5, g6, g7, g8]))]) hD hS hA [0] rfl
    refine va_calli (va_runV (As := [.int 1, .int 1]) (rest := []) ⟨hx, hb, hml, hown, hts⟩ (c_X8_isThrown_1 l em dC dI m0 1 g0 g1 g2 (.ref ff) (.ref fb) g5 g6 g7 g8 H.size) (cwV 2 hts gX8_setInk_X8_isThrown rfl rfl rfl (by decide +kernel) ⟨Nat.le_of_ble_eq_true rfl, Nat.le_of_ble_eq_true rfl⟩) ⟨Pw.blind _ _ _ _ _ _ _, va_recv hKc hPc (ci := 14) (q0 := 0) rfl rfl, fun U hU hW => ⟨rfl, Pw.go hPc hKc hDc hamb hS hFc hU hW⟩⟩ rfl rfl hl.1 rfl (lv_room (Nat.le_of_ble_eq_true rfl)) dX8_setInk_6 ⟨Nat.le_of_ble_eq_true rfl, Nat.le_of_ble_eq_true rfl⟩) hS (fun q _ h => hFc q h) hFc (fun r_3 u t H1 locs1 ht hvm hw hB hz1 hk1 hS => ?_)
    obtain ⟨hP1, hK1, hD1⟩ := hB
    rw [ht] at hP1
    have hK1 := va_K.moved hvm.symm hK1
    obtain ⟨hP, hD⟩ := va_join (wr := [(ff, .inr (13, [tf, .int 0, .int 0, .int 1, .int 0])), (fb, .inr (13, [tb, .int 0, .int 0, .int 1, .int 0]))]) (w1 := [(m0, .inr (14, [g0, g1, g2, .ref ff, .ref fb, g5, g6, g7, .int 1]))]) hP hD [0] [1, 2] rfl rfl (by decide) (by decide) hk1 hFc hP1 hD1
    have hK := (hK.sub (tys' := []) [] rfl).app hK1
    generalize H1 = H at hP hS ⊢
    have hP : va_P (dC, dI) vwCl [(ff, .inr (13, [tf, .int 0, .int 0, .int 1, .int 0])), (fb, .inr (13, [tb, .int 0, .int 0, .int 1, .int 0])), (m0, .inr (14, [g0, g1, g2, .ref ff, .ref fb, g5, g6, g7, .int 1]))] H := hP
    have hD : va_D A [(ff, .inr (13, [tf, .int 0, .int 0, .int 1, .int 0])), (fb, .inr (13, [tb, .int 0, .int 0, .int 1, .int 0])), (m0, .inr (14, [g0, g1, g2, .ref ff, .ref fb, g5, g6, g7, .int 1]))] := hD
    have hK : va_K (dC, dI) vwCl [] s := hK
    refine W.widen (k := 0) (n := 0) (Nat.le_of_ble_eq_true rfl) (Nat.le_of_ble_eq_true rfl) ?_
    have hw : r_3 = 1 := hw
    rw [hw]
    refine lv_if_eq (tgt := 14) hx hb dX8_setInk_9 (by decide) (fun c_4 => ?_) (fun c_4 => ?_)
    · exact absurd c_4 (by decide)
    · refine lv_iconst (v := 0) hx hb dX8_setInk_12 (by decide) ?_
      refine W.widen (k := 0) (n := 0) (Nat.le_of_ble_eq_true rfl) (Nat.le_of_ble_eq_true rfl) ?_
      have hP9 := hP.sub (ws' := [(m0, .inr (14, [g0, g1, g2, .ref ff, .ref fb, g5, g6, g7, .int 1]))]) [2] rfl
      have hD9 := hD.sub (ws' := [(m0, .inr (14, [g0, g1, g2, .ref ff, .ref fb, g5, g6, g7, .int 1]))]) [2] (by decide) rfl
      have hK9 := hK.sub (tys' := []) [] rfl
      exact W.iret (v := 0) hx hb hr (fun t ht hW => ⟨⟨0, (), rfl, ⟨fun h9 => (by first | rfl | (exfalso; omega)), fun h9 => (by first | rfl | (exfalso; omega))⟩, ⟨(1), ⟨by rw [ht]; exact hP9, va_K.moved hW.alike hK9, hD9⟩, (by first | rfl | assumption | omega | exact fun _ => rfl | exact fun h9 => absurd (by omega) h9 | exact fun h9 => absurd h9 (by omega)), (by first | rfl | assumption | omega | exact fun _ => rfl | exact fun h9 => absurd (by omega) h9 | exact fun h9 => absurd h9 (by omega))⟩⟩, hS.F ht⟩) hS.2.2 dX8_setInk_13
  · have hw := hw.2 t_2
    rw [hw]
    refine lv_iconst (v := 1) hx hb dX8_setInk_5 (by decide) ?_
    have hPc := hP.sub (ws' := [(m0, .inr (14, [g0, g1, g2, .ref ff, .ref fb, g5, g6, g7, g8]))]) [0] rfl
    have hDc := hD.sub (ws' := [(m0, .inr (14, [g0, g1, g2, .ref ff, .ref fb, g5, g6, g7, g8]))]) [0] (by decide) rfl
    have hKc := hK.sub (tys' := []) [] rfl
    have hFc := va_free (wc := [(m0, .inr (14, [g0, g1, g2, .ref ff, .ref fb, g5, g6, g7, g8]))]) hD hS hA [0] rfl
    refine va_calli (va_runV (As := [.int 0, .int 1]) (rest := []) ⟨hx, hb, hml, hown, hts⟩ (c_X8_isThrown_0 l em dC dI m0 1 g0 g1 g2 (.ref ff) (.ref fb) g5 g6 g7 g8 H.size) (cwV 2 hts gX8_setInk_X8_isThrown rfl rfl rfl (by decide +kernel) ⟨Nat.le_of_ble_eq_true rfl, Nat.le_of_ble_eq_true rfl⟩) ⟨Pw.blind _ _ _ _ _ _ _, va_recv hKc hPc (ci := 14) (q0 := 0) rfl rfl, fun U hU hW => ⟨rfl, Pw.go hPc hKc hDc hamb hS hFc hU hW⟩⟩ rfl rfl hl.1 rfl (lv_room (Nat.le_of_ble_eq_true rfl)) dX8_setInk_6 ⟨Nat.le_of_ble_eq_true rfl, Nat.le_of_ble_eq_true rfl⟩) hS (fun q _ h => hFc q h) hFc (fun r_5 u t H1 locs1 ht hvm hw hB hz1 hk1 hS => ?_)
    obtain ⟨hP1, hK1, hD1⟩ := hB
    rw [ht] at hP1
    have hK1 := va_K.moved hvm.symm hK1
    obtain ⟨hP, hD⟩ := va_join (wr := [(ff, .inr (13, [tf, .int 0, .int 0, .int 1, .int 0])), (fb, .inr (13, [tb, .int 0, .int 0, .int 1, .int 0]))]) (w1 := [(m0, .inr (14, [g0, g1, g2, .ref ff, .ref fb, g5, g6, g7, .int 0]))]) hP hD [0] [1, 2] rfl rfl (by decide) (by decide) hk1 hFc hP1 hD1
    have hK := (hK.sub (tys' := []) [] rfl).app hK1
    generalize H1 = H at hP hS ⊢
    have hP : va_P (dC, dI) vwCl [(ff, .inr (13, [tf, .int 0, .int 0, .int 1, .int 0])), (fb, .inr (13, [tb, .int 0, .int 0, .int 1, .int 0])), (m0, .inr (14, [g0, g1, g2, .ref ff, .ref fb, g5, g6, g7, .int 0]))] H := hP
    have hD : va_D A [(ff, .inr (13, [tf, .int 0, .int 0, .int 1, .int 0])), (fb, .inr (13, [tb, .int 0, .int 0, .int 1, .int 0])), (m0, .inr (14, [g0, g1, g2, .ref ff, .ref fb, g5, g6, g7, .int 0]))] := hD
    have hK : va_K (dC, dI) vwCl [] s := hK
    refine W.widen (k := 0) (n := 0) (Nat.le_of_ble_eq_true rfl) (Nat.le_of_ble_eq_true rfl) ?_
    have hw : r_5 = 0 := hw
    rw [hw]
    refine lv_if_eq (tgt := 14) hx hb dX8_setInk_9 (by decide) (fun c_6 => ?_) (fun c_6 => ?_)
    · refine lv_aload_n hx hb dX8_setInk_14 rfl (lv_at hl 0 rfl) ?_
      refine lv_iload_n hx hb dX8_setInk_15 rfl (lv_at hl 1 rfl) ?_
      have hPc := hP.sub (ws' := [(m0, .inr (14, [g0, g1, g2, .ref ff, .ref fb, g5, g6, g7, .int 0]))]) [2] rfl
      have hDc := hD.sub (ws' := [(m0, .inr (14, [g0, g1, g2, .ref ff, .ref fb, g5, g6, g7, .int 0]))]) [2] (by decide) rfl
      have hKc := hK.sub (tys' := []) [] rfl
      have hFc := va_free (wc := [(m0, .inr (14, [g0, g1, g2, .ref ff, .ref fb, g5, g6, g7, .int 0]))]) hD hS hA [2] rfl
      refine va_callr (va_runV (As := [.int 0]) (rest := []) ⟨hx, hb, hml, hown, hts⟩ (c_X8_face_0 l em dC dI m0 ff fb g0 g1 g2 g5 g6 g7 (.int 0) H.size) (cwV 1 hts gX8_setInk_X8_face rfl rfl rfl (by decide +kernel) ⟨Nat.le_of_ble_eq_true rfl, Nat.le_of_ble_eq_true rfl⟩) ⟨Pw.blind _ _ _ _ _ _ _, va_recv hKc hPc (ci := 14) (q0 := 0) rfl rfl, fun U hU hW => ⟨rfl, Pw.go hPc hKc hDc hamb hS hFc hU hW⟩⟩ rfl rfl hl.1 rfl (lv_room (Nat.le_of_ble_eq_true rfl)) dX8_setInk_16 ⟨Nat.le_of_ble_eq_true rfl, Nat.le_of_ble_eq_true rfl⟩) hS (fun q _ h => hFc q h) hFc (fun u ra t H1 locs1 ht hvm hw hB hz1 hk1 hS => ?_)
      obtain ⟨hra, hB⟩ := hB
      rw [hra]
      obtain ⟨hP1, hK1, hD1⟩ := hB
      rw [ht] at hP1
      have hK1 := va_K.moved hvm.symm hK1
      obtain ⟨hP, hD⟩ := va_join (wr := [(ff, .inr (13, [tf, .int 0, .int 0, .int 1, .int 0])), (fb, .inr (13, [tb, .int 0, .int 0, .int 1, .int 0]))]) (w1 := [(m0, .inr (14, [g0, g1, g2, .ref ff, .ref fb, g5, g6, g7, .int 0]))]) hP hD [2] [0, 1] rfl rfl (by decide) (by decide) hk1 hFc hP1 hD1
      have hK := (hK.sub (tys' := []) [] rfl).app hK1
      generalize H1 = H at hP hS ⊢
      have hP : va_P (dC, dI) vwCl [(ff, .inr (13, [tf, .int 0, .int 0, .int 1, .int 0])), (fb, .inr (13, [tb, .int 0, .int 0, .int 1, .int 0])), (m0, .inr (14, [g0, g1, g2, .ref ff, .ref fb, g5, g6, g7, .int 0]))] H := hP
      have hD : va_D A [(ff, .inr (13, [tf, .int 0, .int 0, .int 1, .int 0])), (fb, .inr (13, [tb, .int 0, .int 0, .int 1, .int 0])), (m0, .inr (14, [g0, g1, g2, .ref ff, .ref fb, g5, g6, g7, .int 0]))] := hD
      have hK : va_K (dC, dI) vwCl [] s := hK
      refine W.widen (k := 0) (n := 0) (Nat.le_of_ble_eq_true rfl) (Nat.le_of_ble_eq_true rfl) ?_
      refine va_getN (D := (dC, dI)) (ci := 13) (v := .int 1) (C := RX7) (T := TX7) (N := 5) hx hb hts (by decide +kernel) hown hK hP 0 rfl rfl 3 (by decide) (hamb.use (w := .fieldLinkNest RX8 177 "BothfacesModel$Face" "ink" "I" RX8) (by decide +kernel)) (fun _ h9 => h9) rfl dX8_setInk_19 ?_
      refine lv_istore_n (lv' := [(3, .int 1), (0, .ref m0), (1, .int 0), (2, .int p1)]) hx hb dX8_setInk_22 rfl hl (by decide) rfl (fun ls hl => ?_)
      refine lv_aload_n hx hb dX8_setInk_23 rfl (lv_at hl 1 rfl) ?_
      refine lv_iload_n hx hb dX8_setInk_24 rfl (lv_at hl 2 rfl) ?_
      have hPc := hP.sub (ws' := [(m0, .inr (14, [g0, g1, g2, .ref ff, .ref fb, g5, g6, g7, .int 0]))]) [2] rfl
      have hDc := hD.sub (ws' := [(m0, .inr (14, [g0, g1, g2, .ref ff, .ref fb, g5, g6, g7, .int 0]))]) [2] (by decide) rfl
      have hKc := hK.sub (tys' := []) [] rfl
      have hFc := va_free (wc := [(m0, .inr (14, [g0, g1, g2, .ref ff, .ref fb, g5, g6, g7, .int 0]))]) hD hS hA [2] rfl
      refine va_callr (va_runV (As := [.int 0]) (rest := []) ⟨hx, hb, hml, hown, hts⟩ (c_X8_face_0 l em dC dI m0 ff fb g0 g1 g2 g5 g6 g7 (.int 0) H.size) (cwV 1 hts gX8_setInk_X8_face rfl rfl rfl (by decide +kernel) ⟨Nat.le_of_ble_eq_true rfl, Nat.le_of_ble_eq_true rfl⟩) ⟨Pw.blind _ _ _ _ _ _ _, va_recv hKc hPc (ci := 14) (q0 := 0) rfl rfl, fun U hU hW => ⟨rfl, Pw.go hPc hKc hDc hamb hS hFc hU hW⟩⟩ rfl rfl hl.1 rfl (lv_room (Nat.le_of_ble_eq_true rfl)) dX8_setInk_25 ⟨Nat.le_of_ble_eq_true rfl, Nat.le_of_ble_eq_true rfl⟩) hS (fun q _ h => hFc q h) hFc (fun u ra t H1 locs1 ht hvm hw hB hz1 hk1 hS => ?_)
      obtain ⟨hra, hB⟩ := hB
      rw [hra]
      obtain ⟨hP1, hK1, hD1⟩ := hB
      rw [ht] at hP1
      have hK1 := va_K.moved hvm.symm hK1
      obtain ⟨hP, hD⟩ := va_join (wr := [(ff, .inr (13, [tf, .int 0, .int 0, .int 1, .int 0])), (fb, .inr (13, [tb, .int 0, .int 0, .int 1, .int 0]))]) (w1 := [(m0, .inr (14, [g0, g1, g2, .ref ff, .ref fb, g5, g6, g7, .int 0]))]) hP hD [2] [0, 1] rfl rfl (by decide) (by decide) hk1 hFc hP1 hD1
      have hK := (hK.sub (tys' := []) [] rfl).app hK1
      generalize H1 = H at hP hS ⊢
      have hP : va_P (dC, dI) vwCl [(ff, .inr (13, [tf, .int 0, .int 0, .int 1, .int 0])), (fb, .inr (13, [tb, .int 0, .int 0, .int 1, .int 0])), (m0, .inr (14, [g0, g1, g2, .ref ff, .ref fb, g5, g6, g7, .int 0]))] H := hP
      have hD : va_D A [(ff, .inr (13, [tf, .int 0, .int 0, .int 1, .int 0])), (fb, .inr (13, [tb, .int 0, .int 0, .int 1, .int 0])), (m0, .inr (14, [g0, g1, g2, .ref ff, .ref fb, g5, g6, g7, .int 0]))] := hD
      have hK : va_K (dC, dI) vwCl [] s := hK
      refine W.widen (k := 0) (n := 0) (Nat.le_of_ble_eq_true rfl) (Nat.le_of_ble_eq_true rfl) ?_
      refine lv_iload_n hx hb dX8_setInk_28 rfl (lv_at hl 3 rfl) ?_
      refine va_putN (D := (dC, dI)) (ci := 13) (v := .int p1) (ty := .int) (C := RX7) (T := TX7) (N := 5) hx hb hts (by decide +kernel) tyX7 tyX7_ok nmX7 hown hK hP hD hS 0 rfl rfl 3 (by decide) (hamb.use (w := .fieldLinkNest RX8 177 "BothfacesModel$Face" "ink" "I" RX8) (by decide +kernel)) (fun _ h9 => h9) rfl (by decide +kernel) rfl rfl (Nat.le_of_ble_eq_true rfl) dX8_setInk_29 (fun H locs hP hD hS => ?_)
      have hP : va_P (dC, dI) vwCl [(ff, .inr (13, [tf, .int 0, .int 0, .int p1, .int 0])), (fb, .inr (13, [tb, .int 0, .int 0, .int 1, .int 0])), (m0, .inr (14, [g0, g1, g2, .ref ff, .ref fb, g5, g6, g7, .int 0]))] H := hP
      have hD : va_D A [(ff, .inr (13, [tf, .int 0, .int 0, .int p1, .int 0])), (fb, .inr (13, [tb, .int 0, .int 0, .int 1, .int 0])), (m0, .inr (14, [g0, g1, g2, .ref ff, .ref fb, g5, g6, g7, .int 0]))] := hD
      refine lv_iload_n hx hb dX8_setInk_32 rfl (lv_at hl 0 rfl) ?_
      refine W.widen (k := 0) (n := 0) (Nat.le_of_ble_eq_true rfl) (Nat.le_of_ble_eq_true rfl) ?_
      have hP9 := hP.sub (ws' := [(m0, .inr (14, [g0, g1, g2, .ref ff, .ref fb, g5, g6, g7, .int 0]))]) [2] rfl
      have hD9 := hD.sub (ws' := [(m0, .inr (14, [g0, g1, g2, .ref ff, .ref fb, g5, g6, g7, .int 0]))]) [2] (by decide) rfl
      have hK9 := hK.sub (tys' := []) [] rfl
      exact W.iret (v := 1) hx hb hr (fun t ht hW => ⟨⟨1, (), rfl, ⟨fun h9 => (by first | rfl | (exfalso; omega)), fun h9 => (by first | rfl | (exfalso; omega))⟩, ⟨(0), ⟨by rw [ht]; exact hP9, va_K.moved hW.alike hK9, hD9⟩, (by first | rfl | assumption | omega | exact fun _ => rfl | exact fun h9 => absurd (by omega) h9 | exact fun h9 => absurd h9 (by omega)), (by first | rfl | assumption | omega | exact fun _ => rfl | exact fun h9 => absurd (by omega) h9 | exact fun h9 => absurd h9 (by omega))⟩⟩, hS.F ht⟩) hS.2.2 dX8_setInk_33
    · exact absurd (by decide) c_6

set_option maxHeartbeats 4000000 in
set_option maxRecDepth 100000 in
theorem c_X8_setGround_0 (l : Launch) (em : Nat → Nat) (dC : Nat → ClassId) (dI : Nat → Nat → Nat) (m0 : Nat) (p1 : Int32) (g0 : Value) (g1 : Value) (g2 : Value) (g5 : Value) (g6 : Value) (g7 : Value) (g8 : Value) (ff : Nat) (fb : Nat) (tf : Value) (tb : Value) (sz : Nat) : Met l yX8_setGround wsX8_setGround ({ frames := 2, cells := 0, slots := 0, locals := 42 }) (va_Pc [.ref m0, .int 0, .int p1] (Pw em dC dI sz [(m0, .inr (14, [g0, g1, g2, .ref ff, .ref fb, g5, g6, g7, g8])), (ff, .inr (13, [tf, .int 0, .int 0, .int 1, .int 0])), (fb, .inr (13, [tb, .int 0, .int 0, .int 1, .int 0]))] [])) (va_Qi (fun (r : Int32) (_ : Unit) => ((p1.toInt < 0 ∨ 7 < p1.toInt) → r = 0) ∧ (¬ (p1.toInt < 0 ∨ 7 < p1.toInt) → r = 0)) (fun _ t => ∃ (tv : Int32), Qw dC dI (va_A [(m0, .inr (14, [g0, g1, g2, .ref ff, .ref fb, g5, g6, g7, g8])), (ff, .inr (13, [tf, .int 0, .int 0, .int 1, .int 0])), (fb, .inr (13, [tb, .int 0, .int 0, .int 1, .int 0]))] sz) [(m0, .inr (14, [g0, g1, g2, .ref ff, .ref fb, g5, g6, g7, .int tv]))] [] t ∧ ((p1.toInt < 0 ∨ 7 < p1.toInt) → tv = 1) ∧ (¬ (p1.toInt < 0 ∨ 7 < p1.toInt) → tv = 0)) (va_A [(m0, .inr (14, [g0, g1, g2, .ref ff, .ref fb, g5, g6, g7, g8])), (ff, .inr (13, [tf, .int 0, .int 0, .int 1, .int 0])), (fb, .inr (13, [tb, .int 0, .int 0, .int 1, .int 0]))] sz)) 0 0 (va_A [(m0, .inr (14, [g0, g1, g2, .ref ff, .ref fb, g5, g6, g7, g8])), (ff, .inr (13, [tf, .int 0, .int 0, .int 1, .int 0])), (fb, .inr (13, [tb, .int 0, .int 0, .int 1, .int 0]))] sz) := by
  refine Met.ofW (cc := cX8_setGround) (maxL := 4) (ret := (some .int)) (by decide) rfl ?_
  intro p e s m args below meth c s₁ B hml hv
  obtain ⟨rfl, hsz, hP, hK, hD0, hamb⟩ := hv
  have hx := B.exec
  have hb := B.bytes
  have hr := B.returns
  have hts := atoms_spec (ws := wsX8_setGround) B.pre
  have hown : s.vm.findClass RX8 = some m.cls := findClass_of_methodNamed B.named
  have hlocks := B.notSynchronized
  subst hsz
  have hD := hD0.self (sz := s.heap.size)
  generalize hAe : va_A [(m0, .inr (14, [g0, g1, g2, .ref ff, .ref fb, g5, g6, g7, g8])), (ff, .inr (13, [tf, .int 0, .int 0, .int 1, .int 0])), (fb, .inr (13, [tb, .int 0, .int 0, .int 1, .int 0]))] s.heap.size = A at hD hamb ⊢
  have hA : ∀ q : Nat, s.heap.size ≤ q → A q := fun q h => by rw [← hAe]; exact Or.inr h
  have hS : va_S A s.heap s.heap [] := va_S.rf
  have hP : va_P (dC, dI) vwCl [(m0, .inr (14, [g0, g1, g2, .ref ff, .ref fb, g5, g6, g7, g8])), (ff, .inr (13, [tf, .int 0, .int 0, .int 1, .int 0])), (fb, .inr (13, [tb, .int 0, .int 0, .int 1, .int 0]))] s.heap := hP
  have hl := lv_entry ([.ref m0, .int 0, .int p1]) (n := 4) (Nat.le_of_ble_eq_true rfl)
  rw [lg_entry_eq]
  generalize (lg_sl ([.ref m0, .int 0, .int p1]) ++ List.replicate (4 - (lg_sl ([.ref m0, .int 0, .int p1])).length) Slot.unset).toArray = ls at hl ⊢
  have hl : lv_has ls 4 [(0, .ref m0), (1, .int 0), (2, .int p1)] := hl
  refine lv_aload_n hx hb dX8_setGround_0 rfl (lv_at hl 0 rfl) ?_
  refine lv_iload_n hx hb dX8_setGround_1 rfl (lv_at hl 2 rfl) ?_
  have hPc := hP.sub (ws' := []) [] rfl
  have hDc := hD.sub (ws' := []) [] (by decide) rfl
  have hKc := hK.sub (tys' := []) [] rfl
  have hFc := va_free (wc := []) hD hS hA [] rfl
  refine va_calli (va_runS (As := [.int p1]) (rest := [.ref m0]) ⟨hx, hb, hml, hown, hts⟩ (c_X8_isNoColour l em dC dI p1 s.heap.size) (va_cwS 1 hts gX8_setGround_X8_isNoColour rfl rfl rfl (by decide +kernel) ⟨Nat.le_of_ble_eq_true rfl, Nat.le_of_ble_eq_true rfl⟩) ⟨Pw.blind _ _ _ _ _ _ _, fun U hU hW => ⟨rfl, Pw.go hPc hKc hDc hamb hS hFc hU hW⟩⟩ rfl rfl hl.1 rfl (lv_room (Nat.le_of_ble_eq_true rfl)) dX8_setGround_2 ⟨Nat.le_of_ble_eq_true rfl, Nat.le_of_ble_eq_true rfl⟩) hS (fun q _ h => hFc q h) hFc (fun r_1 u t H1 locs1 ht hvm hw hB hz1 hk1 hS => ?_)
  obtain ⟨hP, hD⟩ := va_rest (wr := [(m0, .inr (14, [g0, g1, g2, .ref ff, .ref fb, g5, g6, g7, g8])), (ff, .inr (13, [tf, .int 0, .int 0, .int 1, .int 0])), (fb, .inr (13, [tb, .int 0, .int 0, .int 1, .int 0]))]) hP hD [] [0, 1, 2] rfl rfl (by decide) (by decide) hk1 hFc
  generalize H1 = H at hP hS ⊢
  refine W.widen (k := 0) (n := 0) (Nat.le_of_ble_eq_true rfl) (Nat.le_of_ble_eq_true rfl) ?_
  have hw : ((p1.toInt < 0 ∨ 7 < p1.toInt) → r_1 = 1) ∧ (¬ (p1.toInt < 0 ∨ 7 < p1.toInt) → r_1 = 0) := hw
  rcases Classical.em (p1.toInt < 0 ∨ 7 < p1.toInt) with t_2 | t_2
  · have hw := hw.1 t_2
    rw [hw]
    refine lv_iconst (v := 1) hx hb dX8_setGround_5 (by decide) ?_
    have hPc := hP.sub (ws' := [(m0, .inr (14, [g0, g1, g2, .ref ff, .ref fb, g5, g6, g7, g8]))]) [0] rfl
    have hDc := hD.sub (ws' := [(m0, .inr (14, [g0, g1, g2, .ref ff, .ref fb, g5, g6, g7, g8]))]) [0] (by decide) rfl
    have hKc := hK.sub (tys' := []) [] rfl
    have hFc := va_free (wc := [(m0, .inr (14, [g0, g1, g2, .ref ff, .ref fb, g5, g6, g7, g8]))]) hD hS hA [0] rfl
    refine va_calli (va_runV (As := [.int 1, .int 1]) (rest := []) ⟨hx, hb, hml, hown, hts⟩ (c_X8_isThrown_1 l em dC dI m0 1 g0 g1 g2 (.ref ff) (.ref fb) g5 g6 g7 g8 H.size) (cwV 2 hts gX8_setGround_X8_isThrown rfl rfl rfl (by decide +kernel) ⟨Nat.le_of_ble_eq_true rfl, Nat.le_of_ble_eq_true rfl⟩) ⟨Pw.blind _ _ _ _ _ _ _, va_recv hKc hPc (ci := 14) (q0 := 0) rfl rfl, fun U hU hW => ⟨rfl, Pw.go hPc hKc hDc hamb hS hFc hU hW⟩⟩ rfl rfl hl.1 rfl (lv_room (Nat.le_of_ble_eq_true rfl)) dX8_setGround_6 ⟨Nat.le_of_ble_eq_true rfl, Nat.le_of_ble_eq_true rfl⟩) hS (fun q _ h => hFc q h) hFc (fun r_3 u t H1 locs1 ht hvm hw hB hz1 hk1 hS => ?_)
    obtain ⟨hP1, hK1, hD1⟩ := hB
    rw [ht] at hP1
    have hK1 := va_K.moved hvm.symm hK1
    obtain ⟨hP, hD⟩ := va_join (wr := [(ff, .inr (13, [tf, .int 0, .int 0, .int 1, .int 0])), (fb, .inr (13, [tb, .int 0, .int 0, .int 1, .int 0]))]) (w1 := [(m0, .inr (14, [g0, g1, g2, .ref ff, .ref fb, g5, g6, g7, .int 1]))]) hP hD [0] [1, 2] rfl rfl (by decide) (by decide) hk1 hFc hP1 hD1
    have hK := (hK.sub (tys' := []) [] rfl).app hK1
    generalize H1 = H at hP hS ⊢
    have hP : va_P (dC, dI) vwCl [(ff, .inr (13, [tf, .int 0, .int 0, .int 1, .int 0])), (fb, .inr (13, [tb, .int 0, .int 0, .int 1, .int 0])), (m0, .inr (14, [g0, g1, g2, .ref ff, .ref fb, g5, g6, g7, .int 1]))] H := hP
    have hD : va_D A [(ff, .inr (13, [tf, .int 0, .int 0, .int 1, .int 0])), (fb, .inr (13, [tb, .int 0, .int 0, .int 1, .int 0])), (m0, .inr (14, [g0, g1, g2, .ref ff, .ref fb, g5, g6, g7, .int 1]))] := hD
    have hK : va_K (dC, dI) vwCl [] s := hK
    refine W.widen (k := 0) (n := 0) (Nat.le_of_ble_eq_true rfl) (Nat.le_of_ble_eq_true rfl) ?_
    have hw : r_3 = 1 := hw
    rw [hw]
    refine lv_if_eq (tgt := 14) hx hb dX8_setGround_9 (by decide) (fun c_4 => ?_) (fun c_4 => ?_)
    · exact absurd c_4 (by decide)
    · refine lv_iconst (v := 0) hx hb dX8_setGround_12 (by decide) ?_
      refine W.widen (k := 0) (n := 0) (Nat.le_of_ble_eq_true rfl) (Nat.le_of_ble_eq_true rfl) ?_
      have hP9 := hP.sub (ws' := [(m0, .inr (14, [g0, g1, g2, .ref ff, .ref fb, g5, g6, g7, .int 1]))]) [2] rfl
      have hD9 := hD.sub (ws' := [(m0, .inr (14, [g0, g1, g2, .ref ff, .ref fb, g5, g6, g7, .int 1]))]) [2] (by decide) rfl
      have hK9 := hK.sub (tys' := []) [] rfl
      exact W.iret (v := 0) hx hb hr (fun t ht hW => ⟨⟨0, (), rfl, ⟨fun h9 => (by first | rfl | (exfalso; omega)), fun h9 => (by first | rfl | (exfalso; omega))⟩, ⟨(1), ⟨by rw [ht]; exact hP9, va_K.moved hW.alike hK9, hD9⟩, (by first | rfl | assumption | omega | exact fun _ => rfl | exact fun h9 => absurd (by omega) h9 | exact fun h9 => absurd h9 (by omega)), (by first | rfl | assumption | omega | exact fun _ => rfl | exact fun h9 => absurd (by omega) h9 | exact fun h9 => absurd h9 (by omega))⟩⟩, hS.F ht⟩) hS.2.2 dX8_setGround_13
  · have hw := hw.2 t_2
    rw [hw]
    refine lv_iconst (v := 1) hx hb dX8_setGround_5 (by decide) ?_
    have hPc := hP.sub (ws' := [(m0, .inr (14, [g0, g1, g2, .ref ff, .ref fb, g5, g6, g7, g8]))]) [0] rfl
    have hDc := hD.sub (ws' := [(m0, .inr (14, [g0, g1, g2, .ref ff, .ref fb, g5, g6, g7, g8]))]) [0] (by decide) rfl
    have hKc := hK.sub (tys' := []) [] rfl
    have hFc := va_free (wc := [(m0, .inr (14, [g0, g1, g2, .ref ff, .ref fb, g5, g6, g7, g8]))]) hD hS hA [0] rfl
    refine va_calli (va_runV (As := [.int 0, .int 1]) (rest := []) ⟨hx, hb, hml, hown, hts⟩ (c_X8_isThrown_0 l em dC dI m0 1 g0 g1 g2 (.ref ff) (.ref fb) g5 g6 g7 g8 H.size) (cwV 2 hts gX8_setGround_X8_isThrown rfl rfl rfl (by decide +kernel) ⟨Nat.le_of_ble_eq_true rfl, Nat.le_of_ble_eq_true rfl⟩) ⟨Pw.blind _ _ _ _ _ _ _, va_recv hKc hPc (ci := 14) (q0 := 0) rfl rfl, fun U hU hW => ⟨rfl, Pw.go hPc hKc hDc hamb hS hFc hU hW⟩⟩ rfl rfl hl.1 rfl (lv_room (Nat.le_of_ble_eq_true rfl)) dX8_setGround_6 ⟨Nat.le_of_ble_eq_true rfl, Nat.le_of_ble_eq_true rfl⟩) hS (fun q _ h => hFc q h) hFc (fun r_5 u t H1 locs1 ht hvm hw hB hz1 hk1 hS => ?_)
    obtain ⟨hP1, hK1, hD1⟩ := hB
    rw [ht] at hP1
    have hK1 := va_K.moved hvm.symm hK1
    obtain ⟨hP, hD⟩ := va_join (wr := [(ff, .inr (13, [tf, .int 0, .int 0, .int 1, .int 0])), (fb, .inr (13, [tb, .int 0, .int 0, .int 1, .int 0]))]) (w1 := [(m0, .inr (14, [g0, g1, g2, .ref ff, .ref fb, g5, g6, g7, .int 0]))]) hP hD [0] [1, 2] rfl rfl (by decide) (by decide) hk1 hFc hP1 hD1
    have hK := (hK.sub (tys' := []) [] rfl).app hK1
    generalize H1 = H at hP hS ⊢
    have hP : va_P (dC, dI) vwCl [(ff, .inr (13, [tf, .int 0, .int 0, .int 1, .int 0])), (fb, .inr (13, [tb, .int 0, .int 0, .int 1, .int 0])), (m0, .inr (14, [g0, g1, g2, .ref ff, .ref fb, g5, g6, g7, .int 0]))] H := hP
    have hD : va_D A [(ff, .inr (13, [tf, .int 0, .int 0, .int 1, .int 0])), (fb, .inr (13, [tb, .int 0, .int 0, .int 1, .int 0])), (m0, .inr (14, [g0, g1, g2, .ref ff, .ref fb, g5, g6, g7, .int 0]))] := hD
    have hK : va_K (dC, dI) vwCl [] s := hK
    refine W.widen (k := 0) (n := 0) (Nat.le_of_ble_eq_true rfl) (Nat.le_of_ble_eq_true rfl) ?_
    have hw : r_5 = 0 := hw
    rw [hw]
    refine lv_if_eq (tgt := 14) hx hb dX8_setGround_9 (by decide) (fun c_6 => ?_) (fun c_6 => ?_)
    · refine lv_aload_n hx hb dX8_setGround_14 rfl (lv_at hl 0 rfl) ?_
      refine lv_iload_n hx hb dX8_setGround_15 rfl (lv_at hl 1 rfl) ?_
      have hPc := hP.sub (ws' := [(m0, .inr (14, [g0, g1, g2, .ref ff, .ref fb, g5, g6, g7, .int 0]))]) [2] rfl
      have hDc := hD.sub (ws' := [(m0, .inr (14, [g0, g1, g2, .ref ff, .ref fb, g5, g6, g7, .int 0]))]) [2] (by decide) rfl
      have hKc := hK.sub (tys' := []) [] rfl
      have hFc := va_free (wc := [(m0, .inr (14, [g0, g1, g2, .ref ff, .ref fb, g5, g6, g7, .int 0]))]) hD hS hA [2] rfl
      refine va_callr (va_runV (As := [.int 0]) (rest := []) ⟨hx, hb, hml, hown, hts⟩ (c_X8_face_0 l em dC dI m0 ff fb g0 g1 g2 g5 g6 g7 (.int 0) H.size) (cwV 1 hts gX8_setGround_X8_face rfl rfl rfl (by decide +kernel) ⟨Nat.le_of_ble_eq_true rfl, Nat.le_of_ble_eq_true rfl⟩) ⟨Pw.blind _ _ _ _ _ _ _, va_recv hKc hPc (ci := 14) (q0 := 0) rfl rfl, fun U hU hW => ⟨rfl, Pw.go hPc hKc hDc hamb hS hFc hU hW⟩⟩ rfl rfl hl.1 rfl (lv_room (Nat.le_of_ble_eq_true rfl)) dX8_setGround_16 ⟨Nat.le_of_ble_eq_true rfl, Nat.le_of_ble_eq_true rfl⟩) hS (fun q _ h => hFc q h) hFc (fun u ra t H1 locs1 ht hvm hw hB hz1 hk1 hS => ?_)
      obtain ⟨hra, hB⟩ := hB
      rw [hra]
      obtain ⟨hP1, hK1, hD1⟩ := hB
      rw [ht] at hP1
      have hK1 := va_K.moved hvm.symm hK1
      obtain ⟨hP, hD⟩ := va_join (wr := [(ff, .inr (13, [tf, .int 0, .int 0, .int 1, .int 0])), (fb, .inr (13, [tb, .int 0, .int 0, .int 1, .int 0]))]) (w1 := [(m0, .inr (14, [g0, g1, g2, .ref ff, .ref fb, g5, g6, g7, .int 0]))]) hP hD [2] [0, 1] rfl rfl (by decide) (by decide) hk1 hFc hP1 hD1
      have hK := (hK.sub (tys' := []) [] rfl).app hK1
      generalize H1 = H at hP hS ⊢
      have hP : va_P (dC, dI) vwCl [(ff, .inr (13, [tf, .int 0, .int 0, .int 1, .int 0])), (fb, .inr (13, [tb, .int 0, .int 0, .int 1, .int 0])), (m0, .inr (14, [g0, g1, g2, .ref ff, .ref fb, g5, g6, g7, .int 0]))] H := hP
      have hD : va_D A [(ff, .inr (13, [tf, .int 0, .int 0, .int 1, .int 0])), (fb, .inr (13, [tb, .int 0, .int 0, .int 1, .int 0])), (m0, .inr (14, [g0, g1, g2, .ref ff, .ref fb, g5, g6, g7, .int 0]))] := hD
      have hK : va_K (dC, dI) vwCl [] s := hK
      refine W.widen (k := 0) (n := 0) (Nat.le_of_ble_eq_true rfl) (Nat.le_of_ble_eq_true rfl) ?_
      refine va_getN (D := (dC, dI)) (ci := 13) (v := .int 0) (C := RX7) (T := TX7) (N := 5) hx hb hts (by decide +kernel) hown hK hP 0 rfl rfl 4 (by decide) (hamb.use (w := .fieldLinkNest RX8 180 "BothfacesModel$Face" "ground" "I" RX8) (by decide +kernel)) (fun _ h9 => h9) rfl dX8_setGround_19 ?_
      refine lv_istore_n (lv' := [(3, .int 0), (0, .ref m0), (1, .int 0), (2, .int p1)]) hx hb dX8_setGround_22 rfl hl (by decide) rfl (fun ls hl => ?_)
      refine lv_aload_n hx hb dX8_setGround_23 rfl (lv_at hl 1 rfl) ?_
      refine lv_iload_n hx hb dX8_setGround_24 rfl (lv_at hl 2 rfl) ?_
      have hPc := hP.sub (ws' := [(m0, .inr (14, [g0, g1, g2, .ref ff, .ref fb, g5, g6, g7, .int 0]))]) [2] rfl
      have hDc := hD.sub (ws' := [(m0, .inr (14, [g0, g1, g2, .ref ff, .ref fb, g5, g6, g7, .int 0]))]) [2] (by decide) rfl
      have hKc := hK.sub (tys' := []) [] rfl
      have hFc := va_free (wc := [(m0, .inr (14, [g0, g1, g2, .ref ff, .ref fb, g5, g6, g7, .int 0]))]) hD hS hA [2] rfl
      refine va_callr (va_runV (As := [.int 0]) (rest := []) ⟨hx, hb, hml, hown, hts⟩ (c_X8_face_0 l em dC dI m0 ff fb g0 g1 g2 g5 g6 g7 (.int 0) H.size) (cwV 1 hts gX8_setGround_X8_face rfl rfl rfl (by decide +kernel) ⟨Nat.le_of_ble_eq_true rfl, Nat.le_of_ble_eq_true rfl⟩) ⟨Pw.blind _ _ _ _ _ _ _, va_recv hKc hPc (ci := 14) (q0 := 0) rfl rfl, fun U hU hW => ⟨rfl, Pw.go hPc hKc hDc hamb hS hFc hU hW⟩⟩ rfl rfl hl.1 rfl (lv_room (Nat.le_of_ble_eq_true rfl)) dX8_setGround_25 ⟨Nat.le_of_ble_eq_true rfl, Nat.le_of_ble_eq_true rfl⟩) hS (fun q _ h => hFc q h) hFc (fun u ra t H1 locs1 ht hvm hw hB hz1 hk1 hS => ?_)
      obtain ⟨hra, hB⟩ := hB
      rw [hra]
      obtain ⟨hP1, hK1, hD1⟩ := hB
      rw [ht] at hP1
      have hK1 := va_K.moved hvm.symm hK1
      obtain ⟨hP, hD⟩ := va_join (wr := [(ff, .inr (13, [tf, .int 0, .int 0, .int 1, .int 0])), (fb, .inr (13, [tb, .int 0, .int 0, .int 1, .int 0]))]) (w1 := [(m0, .inr (14, [g0, g1, g2, .ref ff, .ref fb, g5, g6, g7, .int 0]))]) hP hD [2] [0, 1] rfl rfl (by decide) (by decide) hk1 hFc hP1 hD1
      have hK := (hK.sub (tys' := []) [] rfl).app hK1
      generalize H1 = H at hP hS ⊢
      have hP : va_P (dC, dI) vwCl [(ff, .inr (13, [tf, .int 0, .int 0, .int 1, .int 0])), (fb, .inr (13, [tb, .int 0, .int 0, .int 1, .int 0])), (m0, .inr (14, [g0, g1, g2, .ref ff, .ref fb, g5, g6, g7, .int 0]))] H := hP
      have hD : va_D A [(ff, .inr (13, [tf, .int 0, .int 0, .int 1, .int 0])), (fb, .inr (13, [tb, .int 0, .int 0, .int 1, .int 0])), (m0, .inr (14, [g0, g1, g2, .ref ff, .ref fb, g5, g6, g7, .int 0]))] := hD
      have hK : va_K (dC, dI) vwCl [] s := hK
      refine W.widen (k := 0) (n := 0) (Nat.le_of_ble_eq_true rfl) (Nat.le_of_ble_eq_true rfl) ?_
      refine lv_iload_n hx hb dX8_setGround_28 rfl (lv_at hl 3 rfl) ?_
      refine va_putN (D := (dC, dI)) (ci := 13) (v := .int p1) (ty := .int) (C := RX7) (T := TX7) (N := 5) hx hb hts (by decide +kernel) tyX7 tyX7_ok nmX7 hown hK hP hD hS 0 rfl rfl 4 (by decide) (hamb.use (w := .fieldLinkNest RX8 180 "BothfacesModel$Face" "ground" "I" RX8) (by decide +kernel)) (fun _ h9 => h9) rfl (by decide +kernel) rfl rfl (Nat.le_of_ble_eq_true rfl) dX8_setGround_29 (fun H locs hP hD hS => ?_)
      have hP : va_P (dC, dI) vwCl [(ff, .inr (13, [tf, .int 0, .int 0, .int 1, .int p1])), (fb, .inr (13, [tb, .int 0, .int 0, .int 1, .int 0])), (m0, .inr (14, [g0, g1, g2, .ref ff, .ref fb, g5, g6, g7, .int 0]))] H := hP
      have hD : va_D A [(ff, .inr (13, [tf, .int 0, .int 0, .int 1, .int p1])), (fb, .inr (13, [tb, .int 0, .int 0, .int 1, .int 0])), (m0, .inr (14, [g0, g1, g2, .ref ff, .ref fb, g5, g6, g7, .int 0]))] := hD
      refine lv_iload_n hx hb dX8_setGround_32 rfl (lv_at hl 0 rfl) ?_
      refine W.widen (k := 0) (n := 0) (Nat.le_of_ble_eq_true rfl) (Nat.le_of_ble_eq_true rfl) ?_
      have hP9 := hP.sub (ws' := [(m0, .inr (14, [g0, g1, g2, .ref ff, .ref fb, g5, g6, g7, .int 0]))]) [2] rfl
      have hD9 := hD.sub (ws' := [(m0, .inr (14, [g0, g1, g2, .ref ff, .ref fb, g5, g6, g7, .int 0]))]) [2] (by decide) rfl
      have hK9 := hK.sub (tys' := []) [] rfl
      exact W.iret (v := 0) hx hb hr (fun t ht hW => ⟨⟨0, (), rfl, ⟨fun h9 => (by first | rfl | (exfalso; omega)), fun h9 => (by first | rfl | (exfalso; omega))⟩, ⟨(0), ⟨by rw [ht]; exact hP9, va_K.moved hW.alike hK9, hD9⟩, (by first | rfl | assumption | omega | exact fun _ => rfl | exact fun h9 => absurd (by omega) h9 | exact fun h9 => absurd h9 (by omega)), (by first | rfl | assumption | omega | exact fun _ => rfl | exact fun h9 => absurd (by omega) h9 | exact fun h9 => absurd h9 (by omega))⟩⟩, hS.F ht⟩) hS.2.2 dX8_setGround_33
    · exact absurd (by decide) c_6

set_option maxHeartbeats 4000000 in
set_option maxRecDepth 100000 in
theorem c_X8_face_1 (l : Launch) (em : Nat → Nat) (dC : Nat → ClassId) (dI : Nat → Nat → Nat) (m0 : Nat) (ff : Nat) (fb : Nat) (g0 : Value) (g1 : Value) (g2 : Value) (g5 : Value) (g6 : Value) (g7 : Value) (g8 : Value) (sz : Nat) : Met l yX8_face wsX8_face ({ frames := 0, cells := 0, slots := 0, locals := 0 }) (va_Pc [.ref m0, .int 1] (Pw em dC dI sz [(m0, .inr (14, [g0, g1, g2, .ref ff, .ref fb, g5, g6, g7, g8]))] [])) (va_Qr (fun _ : Unit => True) (fun _ ra t => ra = fb ∧ (Qw dC dI (va_A [(m0, .inr (14, [g0, g1, g2, .ref ff, .ref fb, g5, g6, g7, g8]))] sz) [(m0, .inr (14, [g0, g1, g2, .ref ff, .ref fb, g5, g6, g7, g8]))] [] t)) (va_A [(m0, .inr (14, [g0, g1, g2, .ref ff, .ref fb, g5, g6, g7, g8]))] sz)) 0 0 (va_A [(m0, .inr (14, [g0, g1, g2, .ref ff, .ref fb, g5, g6, g7, g8]))] sz) := by
  refine Met.ofW (cc := cX8_face) (maxL := 2) (ret := (some (.object "BothfacesModel$Face"))) (by decide) rfl ?_
  intro p e s m args below meth c s₁ B hml hv
  obtain ⟨rfl, hsz, hP, hK, hD0, hamb⟩ := hv
  have hx := B.exec
  have hb := B.bytes
  have hr := B.returns
  have hts := atoms_spec (ws := wsX8_face) B.pre
  have hown : s.vm.findClass RX8 = some m.cls := findClass_of_methodNamed B.named
  have hlocks := B.notSynchronized
  subst hsz
  have hD := hD0.self (sz := s.heap.size)
  generalize hAe : va_A [(m0, .inr (14, [g0, g1, g2, .ref ff, .ref fb, g5, g6, g7, g8]))] s.heap.size = A at hD hamb ⊢
  have hA : ∀ q : Nat, s.heap.size ≤ q → A q := fun q h => by rw [← hAe]; exact Or.inr h
  have hS : va_S A s.heap s.heap [] := va_S.rf
  have hP : va_P (dC, dI) vwCl [(m0, .inr (14, [g0, g1, g2, .ref ff, .ref fb, g5, g6, g7, g8]))] s.heap := hP
  have hl := lv_entry ([.ref m0, .int 1]) (n := 2) (Nat.le_of_ble_eq_true rfl)
  rw [lg_entry_eq]
  generalize (lg_sl ([.ref m0, .int 1]) ++ List.replicate (2 - (lg_sl ([.ref m0, .int 1])).length) Slot.unset).toArray = ls at hl ⊢
  have hl : lv_has ls 2 [(0, .ref m0), (1, .int 1)] := hl
  refine lv_iload_n hx hb dX8_face_0 rfl (lv_at hl 1 rfl) ?_
  refine lv_if_eq (tgt := 11) hx hb dX8_face_1 (by decide) (fun c_1 => ?_) (fun c_1 => ?_)
  · exact absurd c_1 (by decide)
  · refine lv_aload_n hx hb dX8_face_4 rfl (lv_at hl 0 rfl) ?_
    refine va_get (D := (dC, dI)) (ci := 14) (v := .ref fb) (C := RX8) (T := TX8) (N := 9) hx hb hts (by decide +kernel) hown hK hP 0 rfl rfl 4 (by decide) (hts (.fieldLink RX8 31 "BothfacesModel" "back" "LBothfacesModel$Face;") (by decide +kernel)) (fun _ h9 => h9) rfl dX8_face_5 ?_
    refine lv_goto (tgt := 15) hx hb dX8_face_8 (by decide) ?_
    refine W.widen (k := 0) (n := 0) (Nat.le_of_ble_eq_true rfl) (Nat.le_of_ble_eq_true rfl) ?_
    have hP9 := hP.sub (ws' := [(m0, .inr (14, [g0, g1, g2, .ref ff, .ref fb, g5, g6, g7, g8]))]) [0] rfl
    have hD9 := hD.sub (ws' := [(m0, .inr (14, [g0, g1, g2, .ref ff, .ref fb, g5, g6, g7, g8]))]) [0] (by decide) rfl
    have hK9 := hK.sub (tys' := []) [] rfl
    exact W.aret (v := .ref fb) hx hb hr (Or.inl ⟨_, rfl⟩) (Or.inr ⟨_, rfl⟩) (fun t ht hW => ⟨⟨(), fb, rfl, trivial, ⟨rfl, ⟨by rw [ht]; exact hP9, va_K.moved hW.alike hK9, hD9⟩⟩⟩, hS.F ht⟩) hS.2.2 dX8_face_15

set_option maxHeartbeats 4000000 in
set_option maxRecDepth 100000 in
theorem c_X8_setInk_1 (l : Launch) (em : Nat → Nat) (dC : Nat → ClassId) (dI : Nat → Nat → Nat) (m0 : Nat) (p1 : Int32) (g0 : Value) (g1 : Value) (g2 : Value) (g5 : Value) (g6 : Value) (g7 : Value) (g8 : Value) (ff : Nat) (fb : Nat) (tf : Value) (tb : Value) (sz : Nat) : Met l yX8_setInk wsX8_setInk ({ frames := 2, cells := 0, slots := 0, locals := 42 }) (va_Pc [.ref m0, .int 1, .int p1] (Pw em dC dI sz [(m0, .inr (14, [g0, g1, g2, .ref ff, .ref fb, g5, g6, g7, g8])), (ff, .inr (13, [tf, .int 0, .int 0, .int 1, .int 0])), (fb, .inr (13, [tb, .int 0, .int 0, .int 1, .int 0]))] [])) (va_Qi (fun (r : Int32) (_ : Unit) => ((p1.toInt < 0 ∨ 7 < p1.toInt) → r = 0) ∧ (¬ (p1.toInt < 0 ∨ 7 < p1.toInt) → r = 1)) (fun _ t => ∃ (tv : Int32), Qw dC dI (va_A [(m0, .inr (14, [g0, g1, g2, .ref ff, .ref fb, g5, g6, g7, g8])), (ff, .inr (13, [tf, .int 0, .int 0, .int 1, .int 0])), (fb, .inr (13, [tb, .int 0, .int 0, .int 1, .int 0]))] sz) [(m0, .inr (14, [g0, g1, g2, .ref ff, .ref fb, g5, g6, g7, .int tv]))] [] t ∧ ((p1.toInt < 0 ∨ 7 < p1.toInt) → tv = 1) ∧ (¬ (p1.toInt < 0 ∨ 7 < p1.toInt) → tv = 0)) (va_A [(m0, .inr (14, [g0, g1, g2, .ref ff, .ref fb, g5, g6, g7, g8])), (ff, .inr (13, [tf, .int 0, .int 0, .int 1, .int 0])), (fb, .inr (13, [tb, .int 0, .int 0, .int 1, .int 0]))] sz)) 0 0 (va_A [(m0, .inr (14, [g0, g1, g2, .ref ff, .ref fb, g5, g6, g7, g8])), (ff, .inr (13, [tf, .int 0, .int 0, .int 1, .int 0])), (fb, .inr (13, [tb, .int 0, .int 0, .int 1, .int 0]))] sz) := by
  refine Met.ofW (cc := cX8_setInk) (maxL := 4) (ret := (some .int)) (by decide) rfl ?_
  intro p e s m args below meth c s₁ B hml hv
  obtain ⟨rfl, hsz, hP, hK, hD0, hamb⟩ := hv
  have hx := B.exec
  have hb := B.bytes
  have hr := B.returns
  have hts := atoms_spec (ws := wsX8_setInk) B.pre
  have hown : s.vm.findClass RX8 = some m.cls := findClass_of_methodNamed B.named
  have hlocks := B.notSynchronized
  subst hsz
  have hD := hD0.self (sz := s.heap.size)
  generalize hAe : va_A [(m0, .inr (14, [g0, g1, g2, .ref ff, .ref fb, g5, g6, g7, g8])), (ff, .inr (13, [tf, .int 0, .int 0, .int 1, .int 0])), (fb, .inr (13, [tb, .int 0, .int 0, .int 1, .int 0]))] s.heap.size = A at hD hamb ⊢
  have hA : ∀ q : Nat, s.heap.size ≤ q → A q := fun q h => by rw [← hAe]; exact Or.inr h
  have hS : va_S A s.heap s.heap [] := va_S.rf
  have hP : va_P (dC, dI) vwCl [(m0, .inr (14, [g0, g1, g2, .ref ff, .ref fb, g5, g6, g7, g8])), (ff, .inr (13, [tf, .int 0, .int 0, .int 1, .int 0])), (fb, .inr (13, [tb, .int 0, .int 0, .int 1, .int 0]))] s.heap := hP
  have hl := lv_entry ([.ref m0, .int 1, .int p1]) (n := 4) (Nat.le_of_ble_eq_true rfl)
  rw [lg_entry_eq]
  generalize (lg_sl ([.ref m0, .int 1, .int p1]) ++ List.replicate (4 - (lg_sl ([.ref m0, .int 1, .int p1])).length) Slot.unset).toArray = ls at hl ⊢
  have hl : lv_has ls 4 [(0, .ref m0), (1, .int 1), (2, .int p1)] := hl
  refine lv_aload_n hx hb dX8_setInk_0 rfl (lv_at hl 0 rfl) ?_
  refine lv_iload_n hx hb dX8_setInk_1 rfl (lv_at hl 2 rfl) ?_
  have hPc := hP.sub (ws' := []) [] rfl
  have hDc := hD.sub (ws' := []) [] (by decide) rfl
  have hKc := hK.sub (tys' := []) [] rfl
  have hFc := va_free (wc := []) hD hS hA [] rfl
  refine va_calli (va_runS (As := [.int p1]) (rest := [.ref m0]) ⟨hx, hb, hml, hown, hts⟩ (c_X8_isNoColour l em dC dI p1 s.heap.size) (va_cwS 1 hts gX8_setInk_X8_isNoColour rfl rfl rfl (by decide +kernel) ⟨Nat.le_of_ble_eq_true rfl, Nat.le_of_ble_eq_true rfl⟩) ⟨Pw.blind _ _ _ _ _ _ _, fun U hU hW => ⟨rfl, Pw.go hPc hKc hDc hamb hS hFc hU hW⟩⟩ rfl rfl hl.1 rfl (lv_room (Nat.le_of_ble_eq_true rfl)) dX8_setInk_2 ⟨Nat.le_of_ble_eq_true rfl, Nat.le_of_ble_eq_true rfl⟩) hS (fun q _ h => hFc q h) hFc (fun r_1 u t H1 locs1 ht hvm hw hB hz1 hk1 hS => ?_)
  obtain ⟨hP, hD⟩ := va_rest (wr := [(m0, .inr (14, [g0, g1, g2, .ref ff, .ref fb, g5, g6, g7, g8])), (ff, .inr (13, [tf, .int 0, .int 0, .int 1, .int 0])), (fb, .inr (13, [tb, .int 0, .int 0, .int 1, .int 0]))]) hP hD [] [0, 1, 2] rfl rfl (by decide) (by decide) hk1 hFc
  generalize H1 = H at hP hS ⊢
  refine W.widen (k := 0) (n := 0) (Nat.le_of_ble_eq_true rfl) (Nat.le_of_ble_eq_true rfl) ?_
  have hw : ((p1.toInt < 0 ∨ 7 < p1.toInt) → r_1 = 1) ∧ (¬ (p1.toInt < 0 ∨ 7 < p1.toInt) → r_1 = 0) := hw
  rcases Classical.em (p1.toInt < 0 ∨ 7 < p1.toInt) with t_2 | t_2
  · have hw := hw.1 t_2
    rw [hw]
    refine lv_iconst (v := 1) hx hb dX8_setInk_5 (by decide) ?_
    have hPc := hP.sub (ws' := [(m0, .inr (14, [g0, g1, g2, .ref ff, .ref fb, g5, g6, g7, g8]))]) [0] rfl
    have hDc := hD.sub (ws' := [(m0, .inr (14, [g0, g1, g2, .ref ff, .ref fb, g5, g6, g7, g8]))]) [0] (by decide) rfl
    have hKc := hK.sub (tys' := []) [] rfl
    have hFc := va_free (wc := [(m0, .inr (14, [g0, g1, g2, .ref ff, .ref fb, g5, g6, g7, g8]))]) hD hS hA [0] rfl
    refine va_calli (va_runV (As := [.int 1, .int 1]) (rest := []) ⟨hx, hb, hml, hown, hts⟩ (c_X8_isThrown_1 l em dC dI m0 1 g0 g1 g2 (.ref ff) (.ref fb) g5 g6 g7 g8 H.size) (cwV 2 hts gX8_setInk_X8_isThrown rfl rfl rfl (by decide +kernel) ⟨Nat.le_of_ble_eq_true rfl, Nat.le_of_ble_eq_true rfl⟩) ⟨Pw.blind _ _ _ _ _ _ _, va_recv hKc hPc (ci := 14) (q0 := 0) rfl rfl, fun U hU hW => ⟨rfl, Pw.go hPc hKc hDc hamb hS hFc hU hW⟩⟩ rfl rfl hl.1 rfl (lv_room (Nat.le_of_ble_eq_true rfl)) dX8_setInk_6 ⟨Nat.le_of_ble_eq_true rfl, Nat.le_of_ble_eq_true rfl⟩) hS (fun q _ h => hFc q h) hFc (fun r_3 u t H1 locs1 ht hvm hw hB hz1 hk1 hS => ?_)
    obtain ⟨hP1, hK1, hD1⟩ := hB
    rw [ht] at hP1
    have hK1 := va_K.moved hvm.symm hK1
    obtain ⟨hP, hD⟩ := va_join (wr := [(ff, .inr (13, [tf, .int 0, .int 0, .int 1, .int 0])), (fb, .inr (13, [tb, .int 0, .int 0, .int 1, .int 0]))]) (w1 := [(m0, .inr (14, [g0, g1, g2, .ref ff, .ref fb, g5, g6, g7, .int 1]))]) hP hD [0] [1, 2] rfl rfl (by decide) (by decide) hk1 hFc hP1 hD1
    have hK := (hK.sub (tys' := []) [] rfl).app hK1
    generalize H1 = H at hP hS ⊢
    have hP : va_P (dC, dI) vwCl [(ff, .inr (13, [tf, .int 0, .int 0, .int 1, .int 0])), (fb, .inr (13, [tb, .int 0, .int 0, .int 1, .int 0])), (m0, .inr (14, [g0, g1, g2, .ref ff, .ref fb, g5, g6, g7, .int 1]))] H := hP
    have hD : va_D A [(ff, .inr (13, [tf, .int 0, .int 0, .int 1, .int 0])), (fb, .inr (13, [tb, .int 0, .int 0, .int 1, .int 0])), (m0, .inr (14, [g0, g1, g2, .ref ff, .ref fb, g5, g6, g7, .int 1]))] := hD
    have hK : va_K (dC, dI) vwCl [] s := hK
    refine W.widen (k := 0) (n := 0) (Nat.le_of_ble_eq_true rfl) (Nat.le_of_ble_eq_true rfl) ?_
    have hw : r_3 = 1 := hw
    rw [hw]
    refine lv_if_eq (tgt := 14) hx hb dX8_setInk_9 (by decide) (fun c_4 => ?_) (fun c_4 => ?_)
    · exact absurd c_4 (by decide)
    · refine lv_iconst (v := 0) hx hb dX8_setInk_12 (by decide) ?_
      refine W.widen (k := 0) (n := 0) (Nat.le_of_ble_eq_true rfl) (Nat.le_of_ble_eq_true rfl) ?_
      have hP9 := hP.sub (ws' := [(m0, .inr (14, [g0, g1, g2, .ref ff, .ref fb, g5, g6, g7, .int 1]))]) [2] rfl
      have hD9 := hD.sub (ws' := [(m0, .inr (14, [g0, g1, g2, .ref ff, .ref fb, g5, g6, g7, .int 1]))]) [2] (by decide) rfl
      have hK9 := hK.sub (tys' := []) [] rfl
      exact W.iret (v := 0) hx hb hr (fun t ht hW => ⟨⟨0, (), rfl, ⟨fun h9 => (by first | rfl | (exfalso; omega)), fun h9 => (by first | rfl | (exfalso; omega))⟩, ⟨(1), ⟨by rw [ht]; exact hP9, va_K.moved hW.alike hK9, hD9⟩, (by first | rfl | assumption | omega | exact fun _ => rfl | exact fun h9 => absurd (by omega) h9 | exact fun h9 => absurd h9 (by omega)), (by first | rfl | assumption | omega | exact fun _ => rfl | exact fun h9 => absurd (by omega) h9 | exact fun h9 => absurd h9 (by omega))⟩⟩, hS.F ht⟩) hS.2.2 dX8_setInk_13
  · have hw := hw.2 t_2
    rw [hw]
    refine lv_iconst (v := 1) hx hb dX8_setInk_5 (by decide) ?_
    have hPc := hP.sub (ws' := [(m0, .inr (14, [g0, g1, g2, .ref ff, .ref fb, g5, g6, g7, g8]))]) [0] rfl
    have hDc := hD.sub (ws' := [(m0, .inr (14, [g0, g1, g2, .ref ff, .ref fb, g5, g6, g7, g8]))]) [0] (by decide) rfl
    have hKc := hK.sub (tys' := []) [] rfl
    have hFc := va_free (wc := [(m0, .inr (14, [g0, g1, g2, .ref ff, .ref fb, g5, g6, g7, g8]))]) hD hS hA [0] rfl
    refine va_calli (va_runV (As := [.int 0, .int 1]) (rest := []) ⟨hx, hb, hml, hown, hts⟩ (c_X8_isThrown_0 l em dC dI m0 1 g0 g1 g2 (.ref ff) (.ref fb) g5 g6 g7 g8 H.size) (cwV 2 hts gX8_setInk_X8_isThrown rfl rfl rfl (by decide +kernel) ⟨Nat.le_of_ble_eq_true rfl, Nat.le_of_ble_eq_true rfl⟩) ⟨Pw.blind _ _ _ _ _ _ _, va_recv hKc hPc (ci := 14) (q0 := 0) rfl rfl, fun U hU hW => ⟨rfl, Pw.go hPc hKc hDc hamb hS hFc hU hW⟩⟩ rfl rfl hl.1 rfl (lv_room (Nat.le_of_ble_eq_true rfl)) dX8_setInk_6 ⟨Nat.le_of_ble_eq_true rfl, Nat.le_of_ble_eq_true rfl⟩) hS (fun q _ h => hFc q h) hFc (fun r_5 u t H1 locs1 ht hvm hw hB hz1 hk1 hS => ?_)
    obtain ⟨hP1, hK1, hD1⟩ := hB
    rw [ht] at hP1
    have hK1 := va_K.moved hvm.symm hK1
    obtain ⟨hP, hD⟩ := va_join (wr := [(ff, .inr (13, [tf, .int 0, .int 0, .int 1, .int 0])), (fb, .inr (13, [tb, .int 0, .int 0, .int 1, .int 0]))]) (w1 := [(m0, .inr (14, [g0, g1, g2, .ref ff, .ref fb, g5, g6, g7, .int 0]))]) hP hD [0] [1, 2] rfl rfl (by decide) (by decide) hk1 hFc hP1 hD1
    have hK := (hK.sub (tys' := []) [] rfl).app hK1
    generalize H1 = H at hP hS ⊢
    have hP : va_P (dC, dI) vwCl [(ff, .inr (13, [tf, .int 0, .int 0, .int 1, .int 0])), (fb, .inr (13, [tb, .int 0, .int 0, .int 1, .int 0])), (m0, .inr (14, [g0, g1, g2, .ref ff, .ref fb, g5, g6, g7, .int 0]))] H := hP
    have hD : va_D A [(ff, .inr (13, [tf, .int 0, .int 0, .int 1, .int 0])), (fb, .inr (13, [tb, .int 0, .int 0, .int 1, .int 0])), (m0, .inr (14, [g0, g1, g2, .ref ff, .ref fb, g5, g6, g7, .int 0]))] := hD
    have hK : va_K (dC, dI) vwCl [] s := hK
    refine W.widen (k := 0) (n := 0) (Nat.le_of_ble_eq_true rfl) (Nat.le_of_ble_eq_true rfl) ?_
    have hw : r_5 = 0 := hw
    rw [hw]
    refine lv_if_eq (tgt := 14) hx hb dX8_setInk_9 (by decide) (fun c_6 => ?_) (fun c_6 => ?_)
    · refine lv_aload_n hx hb dX8_setInk_14 rfl (lv_at hl 0 rfl) ?_
      refine lv_iload_n hx hb dX8_setInk_15 rfl (lv_at hl 1 rfl) ?_
      have hPc := hP.sub (ws' := [(m0, .inr (14, [g0, g1, g2, .ref ff, .ref fb, g5, g6, g7, .int 0]))]) [2] rfl
      have hDc := hD.sub (ws' := [(m0, .inr (14, [g0, g1, g2, .ref ff, .ref fb, g5, g6, g7, .int 0]))]) [2] (by decide) rfl
      have hKc := hK.sub (tys' := []) [] rfl
      have hFc := va_free (wc := [(m0, .inr (14, [g0, g1, g2, .ref ff, .ref fb, g5, g6, g7, .int 0]))]) hD hS hA [2] rfl
      refine va_callr (va_runV (As := [.int 1]) (rest := []) ⟨hx, hb, hml, hown, hts⟩ (c_X8_face_1 l em dC dI m0 ff fb g0 g1 g2 g5 g6 g7 (.int 0) H.size) (cwV 1 hts gX8_setInk_X8_face rfl rfl rfl (by decide +kernel) ⟨Nat.le_of_ble_eq_true rfl, Nat.le_of_ble_eq_true rfl⟩) ⟨Pw.blind _ _ _ _ _ _ _, va_recv hKc hPc (ci := 14) (q0 := 0) rfl rfl, fun U hU hW => ⟨rfl, Pw.go hPc hKc hDc hamb hS hFc hU hW⟩⟩ rfl rfl hl.1 rfl (lv_room (Nat.le_of_ble_eq_true rfl)) dX8_setInk_16 ⟨Nat.le_of_ble_eq_true rfl, Nat.le_of_ble_eq_true rfl⟩) hS (fun q _ h => hFc q h) hFc (fun u ra t H1 locs1 ht hvm hw hB hz1 hk1 hS => ?_)
      obtain ⟨hra, hB⟩ := hB
      rw [hra]
      obtain ⟨hP1, hK1, hD1⟩ := hB
      rw [ht] at hP1
      have hK1 := va_K.moved hvm.symm hK1
      obtain ⟨hP, hD⟩ := va_join (wr := [(ff, .inr (13, [tf, .int 0, .int 0, .int 1, .int 0])), (fb, .inr (13, [tb, .int 0, .int 0, .int 1, .int 0]))]) (w1 := [(m0, .inr (14, [g0, g1, g2, .ref ff, .ref fb, g5, g6, g7, .int 0]))]) hP hD [2] [0, 1] rfl rfl (by decide) (by decide) hk1 hFc hP1 hD1
      have hK := (hK.sub (tys' := []) [] rfl).app hK1
      generalize H1 = H at hP hS ⊢
      have hP : va_P (dC, dI) vwCl [(ff, .inr (13, [tf, .int 0, .int 0, .int 1, .int 0])), (fb, .inr (13, [tb, .int 0, .int 0, .int 1, .int 0])), (m0, .inr (14, [g0, g1, g2, .ref ff, .ref fb, g5, g6, g7, .int 0]))] H := hP
      have hD : va_D A [(ff, .inr (13, [tf, .int 0, .int 0, .int 1, .int 0])), (fb, .inr (13, [tb, .int 0, .int 0, .int 1, .int 0])), (m0, .inr (14, [g0, g1, g2, .ref ff, .ref fb, g5, g6, g7, .int 0]))] := hD
      have hK : va_K (dC, dI) vwCl [] s := hK
      refine W.widen (k := 0) (n := 0) (Nat.le_of_ble_eq_true rfl) (Nat.le_of_ble_eq_true rfl) ?_
      refine va_getN (D := (dC, dI)) (ci := 13) (v := .int 1) (C := RX7) (T := TX7) (N := 5) hx hb hts (by decide +kernel) hown hK hP 1 rfl rfl 3 (by decide) (hamb.use (w := .fieldLinkNest RX8 177 "BothfacesModel$Face" "ink" "I" RX8) (by decide +kernel)) (fun _ h9 => h9) rfl dX8_setInk_19 ?_
      refine lv_istore_n (lv' := [(3, .int 1), (0, .ref m0), (1, .int 1), (2, .int p1)]) hx hb dX8_setInk_22 rfl hl (by decide) rfl (fun ls hl => ?_)
      refine lv_aload_n hx hb dX8_setInk_23 rfl (lv_at hl 1 rfl) ?_
      refine lv_iload_n hx hb dX8_setInk_24 rfl (lv_at hl 2 rfl) ?_
      have hPc := hP.sub (ws' := [(m0, .inr (14, [g0, g1, g2, .ref ff, .ref fb, g5, g6, g7, .int 0]))]) [2] rfl
      have hDc := hD.sub (ws' := [(m0, .inr (14, [g0, g1, g2, .ref ff, .ref fb, g5, g6, g7, .int 0]))]) [2] (by decide) rfl
      have hKc := hK.sub (tys' := []) [] rfl
      have hFc := va_free (wc := [(m0, .inr (14, [g0, g1, g2, .ref ff, .ref fb, g5, g6, g7, .int 0]))]) hD hS hA [2] rfl
      refine va_callr (va_runV (As := [.int 1]) (rest := []) ⟨hx, hb, hml, hown, hts⟩ (c_X8_face_1 l em dC dI m0 ff fb g0 g1 g2 g5 g6 g7 (.int 0) H.size) (cwV 1 hts gX8_setInk_X8_face rfl rfl rfl (by decide +kernel) ⟨Nat.le_of_ble_eq_true rfl, Nat.le_of_ble_eq_true rfl⟩) ⟨Pw.blind _ _ _ _ _ _ _, va_recv hKc hPc (ci := 14) (q0 := 0) rfl rfl, fun U hU hW => ⟨rfl, Pw.go hPc hKc hDc hamb hS hFc hU hW⟩⟩ rfl rfl hl.1 rfl (lv_room (Nat.le_of_ble_eq_true rfl)) dX8_setInk_25 ⟨Nat.le_of_ble_eq_true rfl, Nat.le_of_ble_eq_true rfl⟩) hS (fun q _ h => hFc q h) hFc (fun u ra t H1 locs1 ht hvm hw hB hz1 hk1 hS => ?_)
      obtain ⟨hra, hB⟩ := hB
      rw [hra]
      obtain ⟨hP1, hK1, hD1⟩ := hB
      rw [ht] at hP1
      have hK1 := va_K.moved hvm.symm hK1
      obtain ⟨hP, hD⟩ := va_join (wr := [(ff, .inr (13, [tf, .int 0, .int 0, .int 1, .int 0])), (fb, .inr (13, [tb, .int 0, .int 0, .int 1, .int 0]))]) (w1 := [(m0, .inr (14, [g0, g1, g2, .ref ff, .ref fb, g5, g6, g7, .int 0]))]) hP hD [2] [0, 1] rfl rfl (by decide) (by decide) hk1 hFc hP1 hD1
      have hK := (hK.sub (tys' := []) [] rfl).app hK1
      generalize H1 = H at hP hS ⊢
      have hP : va_P (dC, dI) vwCl [(ff, .inr (13, [tf, .int 0, .int 0, .int 1, .int 0])), (fb, .inr (13, [tb, .int 0, .int 0, .int 1, .int 0])), (m0, .inr (14, [g0, g1, g2, .ref ff, .ref fb, g5, g6, g7, .int 0]))] H := hP
      have hD : va_D A [(ff, .inr (13, [tf, .int 0, .int 0, .int 1, .int 0])), (fb, .inr (13, [tb, .int 0, .int 0, .int 1, .int 0])), (m0, .inr (14, [g0, g1, g2, .ref ff, .ref fb, g5, g6, g7, .int 0]))] := hD
      have hK : va_K (dC, dI) vwCl [] s := hK
      refine W.widen (k := 0) (n := 0) (Nat.le_of_ble_eq_true rfl) (Nat.le_of_ble_eq_true rfl) ?_
      refine lv_iload_n hx hb dX8_setInk_28 rfl (lv_at hl 3 rfl) ?_
      refine va_putN (D := (dC, dI)) (ci := 13) (v := .int p1) (ty := .int) (C := RX7) (T := TX7) (N := 5) hx hb hts (by decide +kernel) tyX7 tyX7_ok nmX7 hown hK hP hD hS 1 rfl rfl 3 (by decide) (hamb.use (w := .fieldLinkNest RX8 177 "BothfacesModel$Face" "ink" "I" RX8) (by decide +kernel)) (fun _ h9 => h9) rfl (by decide +kernel) rfl rfl (Nat.le_of_ble_eq_true rfl) dX8_setInk_29 (fun H locs hP hD hS => ?_)
      have hP : va_P (dC, dI) vwCl [(ff, .inr (13, [tf, .int 0, .int 0, .int 1, .int 0])), (fb, .inr (13, [tb, .int 0, .int 0, .int p1, .int 0])), (m0, .inr (14, [g0, g1, g2, .ref ff, .ref fb, g5, g6, g7, .int 0]))] H := hP
      have hD : va_D A [(ff, .inr (13, [tf, .int 0, .int 0, .int 1, .int 0])), (fb, .inr (13, [tb, .int 0, .int 0, .int p1, .int 0])), (m0, .inr (14, [g0, g1, g2, .ref ff, .ref fb, g5, g6, g7, .int 0]))] := hD
      refine lv_iload_n hx hb dX8_setInk_32 rfl (lv_at hl 0 rfl) ?_
      refine W.widen (k := 0) (n := 0) (Nat.le_of_ble_eq_true rfl) (Nat.le_of_ble_eq_true rfl) ?_
      have hP9 := hP.sub (ws' := [(m0, .inr (14, [g0, g1, g2, .ref ff, .ref fb, g5, g6, g7, .int 0]))]) [2] rfl
      have hD9 := hD.sub (ws' := [(m0, .inr (14, [g0, g1, g2, .ref ff, .ref fb, g5, g6, g7, .int 0]))]) [2] (by decide) rfl
      have hK9 := hK.sub (tys' := []) [] rfl
      exact W.iret (v := 1) hx hb hr (fun t ht hW => ⟨⟨1, (), rfl, ⟨fun h9 => (by first | rfl | (exfalso; omega)), fun h9 => (by first | rfl | (exfalso; omega))⟩, ⟨(0), ⟨by rw [ht]; exact hP9, va_K.moved hW.alike hK9, hD9⟩, (by first | rfl | assumption | omega | exact fun _ => rfl | exact fun h9 => absurd (by omega) h9 | exact fun h9 => absurd h9 (by omega)), (by first | rfl | assumption | omega | exact fun _ => rfl | exact fun h9 => absurd (by omega) h9 | exact fun h9 => absurd h9 (by omega))⟩⟩, hS.F ht⟩) hS.2.2 dX8_setInk_33
    · exact absurd (by decide) c_6

set_option maxHeartbeats 4000000 in
set_option maxRecDepth 100000 in
theorem c_X8_setGround_1 (l : Launch) (em : Nat → Nat) (dC : Nat → ClassId) (dI : Nat → Nat → Nat) (m0 : Nat) (p1 : Int32) (g0 : Value) (g1 : Value) (g2 : Value) (g5 : Value) (g6 : Value) (g7 : Value) (g8 : Value) (ff : Nat) (fb : Nat) (tf : Value) (tb : Value) (sz : Nat) : Met l yX8_setGround wsX8_setGround ({ frames := 2, cells := 0, slots := 0, locals := 42 }) (va_Pc [.ref m0, .int 1, .int p1] (Pw em dC dI sz [(m0, .inr (14, [g0, g1, g2, .ref ff, .ref fb, g5, g6, g7, g8])), (ff, .inr (13, [tf, .int 0, .int 0, .int 1, .int 0])), (fb, .inr (13, [tb, .int 0, .int 0, .int 1, .int 0]))] [])) (va_Qi (fun (r : Int32) (_ : Unit) => ((p1.toInt < 0 ∨ 7 < p1.toInt) → r = 0) ∧ (¬ (p1.toInt < 0 ∨ 7 < p1.toInt) → r = 0)) (fun _ t => ∃ (tv : Int32), Qw dC dI (va_A [(m0, .inr (14, [g0, g1, g2, .ref ff, .ref fb, g5, g6, g7, g8])), (ff, .inr (13, [tf, .int 0, .int 0, .int 1, .int 0])), (fb, .inr (13, [tb, .int 0, .int 0, .int 1, .int 0]))] sz) [(m0, .inr (14, [g0, g1, g2, .ref ff, .ref fb, g5, g6, g7, .int tv]))] [] t ∧ ((p1.toInt < 0 ∨ 7 < p1.toInt) → tv = 1) ∧ (¬ (p1.toInt < 0 ∨ 7 < p1.toInt) → tv = 0)) (va_A [(m0, .inr (14, [g0, g1, g2, .ref ff, .ref fb, g5, g6, g7, g8])), (ff, .inr (13, [tf, .int 0, .int 0, .int 1, .int 0])), (fb, .inr (13, [tb, .int 0, .int 0, .int 1, .int 0]))] sz)) 0 0 (va_A [(m0, .inr (14, [g0, g1, g2, .ref ff, .ref fb, g5, g6, g7, g8])), (ff, .inr (13, [tf, .int 0, .int 0, .int 1, .int 0])), (fb, .inr (13, [tb, .int 0, .int 0, .int 1, .int 0]))] sz) := by
  refine Met.ofW (cc := cX8_setGround) (maxL := 4) (ret := (some .int)) (by decide) rfl ?_
  intro p e s m args below meth c s₁ B hml hv
  obtain ⟨rfl, hsz, hP, hK, hD0, hamb⟩ := hv
  have hx := B.exec
  have hb := B.bytes
  have hr := B.returns
  have hts := atoms_spec (ws := wsX8_setGround) B.pre
  have hown : s.vm.findClass RX8 = some m.cls := findClass_of_methodNamed B.named
  have hlocks := B.notSynchronized
  subst hsz
  have hD := hD0.self (sz := s.heap.size)
  generalize hAe : va_A [(m0, .inr (14, [g0, g1, g2, .ref ff, .ref fb, g5, g6, g7, g8])), (ff, .inr (13, [tf, .int 0, .int 0, .int 1, .int 0])), (fb, .inr (13, [tb, .int 0, .int 0, .int 1, .int 0]))] s.heap.size = A at hD hamb ⊢
  have hA : ∀ q : Nat, s.heap.size ≤ q → A q := fun q h => by rw [← hAe]; exact Or.inr h
  have hS : va_S A s.heap s.heap [] := va_S.rf
  have hP : va_P (dC, dI) vwCl [(m0, .inr (14, [g0, g1, g2, .ref ff, .ref fb, g5, g6, g7, g8])), (ff, .inr (13, [tf, .int 0, .int 0, .int 1, .int 0])), (fb, .inr (13, [tb, .int 0, .int 0, .int 1, .int 0]))] s.heap := hP
  have hl := lv_entry ([.ref m0, .int 1, .int p1]) (n := 4) (Nat.le_of_ble_eq_true rfl)
  rw [lg_entry_eq]
  generalize (lg_sl ([.ref m0, .int 1, .int p1]) ++ List.replicate (4 - (lg_sl ([.ref m0, .int 1, .int p1])).length) Slot.unset).toArray = ls at hl ⊢
  have hl : lv_has ls 4 [(0, .ref m0), (1, .int 1), (2, .int p1)] := hl
  refine lv_aload_n hx hb dX8_setGround_0 rfl (lv_at hl 0 rfl) ?_
  refine lv_iload_n hx hb dX8_setGround_1 rfl (lv_at hl 2 rfl) ?_
  have hPc := hP.sub (ws' := []) [] rfl
  have hDc := hD.sub (ws' := []) [] (by decide) rfl
  have hKc := hK.sub (tys' := []) [] rfl
  have hFc := va_free (wc := []) hD hS hA [] rfl
  refine va_calli (va_runS (As := [.int p1]) (rest := [.ref m0]) ⟨hx, hb, hml, hown, hts⟩ (c_X8_isNoColour l em dC dI p1 s.heap.size) (va_cwS 1 hts gX8_setGround_X8_isNoColour rfl rfl rfl (by decide +kernel) ⟨Nat.le_of_ble_eq_true rfl, Nat.le_of_ble_eq_true rfl⟩) ⟨Pw.blind _ _ _ _ _ _ _, fun U hU hW => ⟨rfl, Pw.go hPc hKc hDc hamb hS hFc hU hW⟩⟩ rfl rfl hl.1 rfl (lv_room (Nat.le_of_ble_eq_true rfl)) dX8_setGround_2 ⟨Nat.le_of_ble_eq_true rfl, Nat.le_of_ble_eq_true rfl⟩) hS (fun q _ h => hFc q h) hFc (fun r_1 u t H1 locs1 ht hvm hw hB hz1 hk1 hS => ?_)
  obtain ⟨hP, hD⟩ := va_rest (wr := [(m0, .inr (14, [g0, g1, g2, .ref ff, .ref fb, g5, g6, g7, g8])), (ff, .inr (13, [tf, .int 0, .int 0, .int 1, .int 0])), (fb, .inr (13, [tb, .int 0, .int 0, .int 1, .int 0]))]) hP hD [] [0, 1, 2] rfl rfl (by decide) (by decide) hk1 hFc
  generalize H1 = H at hP hS ⊢
  refine W.widen (k := 0) (n := 0) (Nat.le_of_ble_eq_true rfl) (Nat.le_of_ble_eq_true rfl) ?_
  have hw : ((p1.toInt < 0 ∨ 7 < p1.toInt) → r_1 = 1) ∧ (¬ (p1.toInt < 0 ∨ 7 < p1.toInt) → r_1 = 0) := hw
  rcases Classical.em (p1.toInt < 0 ∨ 7 < p1.toInt) with t_2 | t_2
  · have hw := hw.1 t_2
    rw [hw]
    refine lv_iconst (v := 1) hx hb dX8_setGround_5 (by decide) ?_
    have hPc := hP.sub (ws' := [(m0, .inr (14, [g0, g1, g2, .ref ff, .ref fb, g5, g6, g7, g8]))]) [0] rfl
    have hDc := hD.sub (ws' := [(m0, .inr (14, [g0, g1, g2, .ref ff, .ref fb, g5, g6, g7, g8]))]) [0] (by decide) rfl
    have hKc := hK.sub (tys' := []) [] rfl
    have hFc := va_free (wc := [(m0, .inr (14, [g0, g1, g2, .ref ff, .ref fb, g5, g6, g7, g8]))]) hD hS hA [0] rfl
    refine va_calli (va_runV (As := [.int 1, .int 1]) (rest := []) ⟨hx, hb, hml, hown, hts⟩ (c_X8_isThrown_1 l em dC dI m0 1 g0 g1 g2 (.ref ff) (.ref fb) g5 g6 g7 g8 H.size) (cwV 2 hts gX8_setGround_X8_isThrown rfl rfl rfl (by decide +kernel) ⟨Nat.le_of_ble_eq_true rfl, Nat.le_of_ble_eq_true rfl⟩) ⟨Pw.blind _ _ _ _ _ _ _, va_recv hKc hPc (ci := 14) (q0 := 0) rfl rfl, fun U hU hW => ⟨rfl, Pw.go hPc hKc hDc hamb hS hFc hU hW⟩⟩ rfl rfl hl.1 rfl (lv_room (Nat.le_of_ble_eq_true rfl)) dX8_setGround_6 ⟨Nat.le_of_ble_eq_true rfl, Nat.le_of_ble_eq_true rfl⟩) hS (fun q _ h => hFc q h) hFc (fun r_3 u t H1 locs1 ht hvm hw hB hz1 hk1 hS => ?_)
    obtain ⟨hP1, hK1, hD1⟩ := hB
    rw [ht] at hP1
    have hK1 := va_K.moved hvm.symm hK1
    obtain ⟨hP, hD⟩ := va_join (wr := [(ff, .inr (13, [tf, .int 0, .int 0, .int 1, .int 0])), (fb, .inr (13, [tb, .int 0, .int 0, .int 1, .int 0]))]) (w1 := [(m0, .inr (14, [g0, g1, g2, .ref ff, .ref fb, g5, g6, g7, .int 1]))]) hP hD [0] [1, 2] rfl rfl (by decide) (by decide) hk1 hFc hP1 hD1
    have hK := (hK.sub (tys' := []) [] rfl).app hK1
    generalize H1 = H at hP hS ⊢
    have hP : va_P (dC, dI) vwCl [(ff, .inr (13, [tf, .int 0, .int 0, .int 1, .int 0])), (fb, .inr (13, [tb, .int 0, .int 0, .int 1, .int 0])), (m0, .inr (14, [g0, g1, g2, .ref ff, .ref fb, g5, g6, g7, .int 1]))] H := hP
    have hD : va_D A [(ff, .inr (13, [tf, .int 0, .int 0, .int 1, .int 0])), (fb, .inr (13, [tb, .int 0, .int 0, .int 1, .int 0])), (m0, .inr (14, [g0, g1, g2, .ref ff, .ref fb, g5, g6, g7, .int 1]))] := hD
    have hK : va_K (dC, dI) vwCl [] s := hK
    refine W.widen (k := 0) (n := 0) (Nat.le_of_ble_eq_true rfl) (Nat.le_of_ble_eq_true rfl) ?_
    have hw : r_3 = 1 := hw
    rw [hw]
    refine lv_if_eq (tgt := 14) hx hb dX8_setGround_9 (by decide) (fun c_4 => ?_) (fun c_4 => ?_)
    · exact absurd c_4 (by decide)
    · refine lv_iconst (v := 0) hx hb dX8_setGround_12 (by decide) ?_
      refine W.widen (k := 0) (n := 0) (Nat.le_of_ble_eq_true rfl) (Nat.le_of_ble_eq_true rfl) ?_
      have hP9 := hP.sub (ws' := [(m0, .inr (14, [g0, g1, g2, .ref ff, .ref fb, g5, g6, g7, .int 1]))]) [2] rfl
      have hD9 := hD.sub (ws' := [(m0, .inr (14, [g0, g1, g2, .ref ff, .ref fb, g5, g6, g7, .int 1]))]) [2] (by decide) rfl
      have hK9 := hK.sub (tys' := []) [] rfl
      exact W.iret (v := 0) hx hb hr (fun t ht hW => ⟨⟨0, (), rfl, ⟨fun h9 => (by first | rfl | (exfalso; omega)), fun h9 => (by first | rfl | (exfalso; omega))⟩, ⟨(1), ⟨by rw [ht]; exact hP9, va_K.moved hW.alike hK9, hD9⟩, (by first | rfl | assumption | omega | exact fun _ => rfl | exact fun h9 => absurd (by omega) h9 | exact fun h9 => absurd h9 (by omega)), (by first | rfl | assumption | omega | exact fun _ => rfl | exact fun h9 => absurd (by omega) h9 | exact fun h9 => absurd h9 (by omega))⟩⟩, hS.F ht⟩) hS.2.2 dX8_setGround_13
  · have hw := hw.2 t_2
    rw [hw]
    refine lv_iconst (v := 1) hx hb dX8_setGround_5 (by decide) ?_
    have hPc := hP.sub (ws' := [(m0, .inr (14, [g0, g1, g2, .ref ff, .ref fb, g5, g6, g7, g8]))]) [0] rfl
    have hDc := hD.sub (ws' := [(m0, .inr (14, [g0, g1, g2, .ref ff, .ref fb, g5, g6, g7, g8]))]) [0] (by decide) rfl
    have hKc := hK.sub (tys' := []) [] rfl
    have hFc := va_free (wc := [(m0, .inr (14, [g0, g1, g2, .ref ff, .ref fb, g5, g6, g7, g8]))]) hD hS hA [0] rfl
    refine va_calli (va_runV (As := [.int 0, .int 1]) (rest := []) ⟨hx, hb, hml, hown, hts⟩ (c_X8_isThrown_0 l em dC dI m0 1 g0 g1 g2 (.ref ff) (.ref fb) g5 g6 g7 g8 H.size) (cwV 2 hts gX8_setGround_X8_isThrown rfl rfl rfl (by decide +kernel) ⟨Nat.le_of_ble_eq_true rfl, Nat.le_of_ble_eq_true rfl⟩) ⟨Pw.blind _ _ _ _ _ _ _, va_recv hKc hPc (ci := 14) (q0 := 0) rfl rfl, fun U hU hW => ⟨rfl, Pw.go hPc hKc hDc hamb hS hFc hU hW⟩⟩ rfl rfl hl.1 rfl (lv_room (Nat.le_of_ble_eq_true rfl)) dX8_setGround_6 ⟨Nat.le_of_ble_eq_true rfl, Nat.le_of_ble_eq_true rfl⟩) hS (fun q _ h => hFc q h) hFc (fun r_5 u t H1 locs1 ht hvm hw hB hz1 hk1 hS => ?_)
    obtain ⟨hP1, hK1, hD1⟩ := hB
    rw [ht] at hP1
    have hK1 := va_K.moved hvm.symm hK1
    obtain ⟨hP, hD⟩ := va_join (wr := [(ff, .inr (13, [tf, .int 0, .int 0, .int 1, .int 0])), (fb, .inr (13, [tb, .int 0, .int 0, .int 1, .int 0]))]) (w1 := [(m0, .inr (14, [g0, g1, g2, .ref ff, .ref fb, g5, g6, g7, .int 0]))]) hP hD [0] [1, 2] rfl rfl (by decide) (by decide) hk1 hFc hP1 hD1
    have hK := (hK.sub (tys' := []) [] rfl).app hK1
    generalize H1 = H at hP hS ⊢
    have hP : va_P (dC, dI) vwCl [(ff, .inr (13, [tf, .int 0, .int 0, .int 1, .int 0])), (fb, .inr (13, [tb, .int 0, .int 0, .int 1, .int 0])), (m0, .inr (14, [g0, g1, g2, .ref ff, .ref fb, g5, g6, g7, .int 0]))] H := hP
    have hD : va_D A [(ff, .inr (13, [tf, .int 0, .int 0, .int 1, .int 0])), (fb, .inr (13, [tb, .int 0, .int 0, .int 1, .int 0])), (m0, .inr (14, [g0, g1, g2, .ref ff, .ref fb, g5, g6, g7, .int 0]))] := hD
    have hK : va_K (dC, dI) vwCl [] s := hK
    refine W.widen (k := 0) (n := 0) (Nat.le_of_ble_eq_true rfl) (Nat.le_of_ble_eq_true rfl) ?_
    have hw : r_5 = 0 := hw
    rw [hw]
    refine lv_if_eq (tgt := 14) hx hb dX8_setGround_9 (by decide) (fun c_6 => ?_) (fun c_6 => ?_)
    · refine lv_aload_n hx hb dX8_setGround_14 rfl (lv_at hl 0 rfl) ?_
      refine lv_iload_n hx hb dX8_setGround_15 rfl (lv_at hl 1 rfl) ?_
      have hPc := hP.sub (ws' := [(m0, .inr (14, [g0, g1, g2, .ref ff, .ref fb, g5, g6, g7, .int 0]))]) [2] rfl
      have hDc := hD.sub (ws' := [(m0, .inr (14, [g0, g1, g2, .ref ff, .ref fb, g5, g6, g7, .int 0]))]) [2] (by decide) rfl
      have hKc := hK.sub (tys' := []) [] rfl
      have hFc := va_free (wc := [(m0, .inr (14, [g0, g1, g2, .ref ff, .ref fb, g5, g6, g7, .int 0]))]) hD hS hA [2] rfl
      refine va_callr (va_runV (As := [.int 1]) (rest := []) ⟨hx, hb, hml, hown, hts⟩ (c_X8_face_1 l em dC dI m0 ff fb g0 g1 g2 g5 g6 g7 (.int 0) H.size) (cwV 1 hts gX8_setGround_X8_face rfl rfl rfl (by decide +kernel) ⟨Nat.le_of_ble_eq_true rfl, Nat.le_of_ble_eq_true rfl⟩) ⟨Pw.blind _ _ _ _ _ _ _, va_recv hKc hPc (ci := 14) (q0 := 0) rfl rfl, fun U hU hW => ⟨rfl, Pw.go hPc hKc hDc hamb hS hFc hU hW⟩⟩ rfl rfl hl.1 rfl (lv_room (Nat.le_of_ble_eq_true rfl)) dX8_setGround_16 ⟨Nat.le_of_ble_eq_true rfl, Nat.le_of_ble_eq_true rfl⟩) hS (fun q _ h => hFc q h) hFc (fun u ra t H1 locs1 ht hvm hw hB hz1 hk1 hS => ?_)
      obtain ⟨hra, hB⟩ := hB
      rw [hra]
      obtain ⟨hP1, hK1, hD1⟩ := hB
      rw [ht] at hP1
      have hK1 := va_K.moved hvm.symm hK1
      obtain ⟨hP, hD⟩ := va_join (wr := [(ff, .inr (13, [tf, .int 0, .int 0, .int 1, .int 0])), (fb, .inr (13, [tb, .int 0, .int 0, .int 1, .int 0]))]) (w1 := [(m0, .inr (14, [g0, g1, g2, .ref ff, .ref fb, g5, g6, g7, .int 0]))]) hP hD [2] [0, 1] rfl rfl (by decide) (by decide) hk1 hFc hP1 hD1
      have hK := (hK.sub (tys' := []) [] rfl).app hK1
      generalize H1 = H at hP hS ⊢
      have hP : va_P (dC, dI) vwCl [(ff, .inr (13, [tf, .int 0, .int 0, .int 1, .int 0])), (fb, .inr (13, [tb, .int 0, .int 0, .int 1, .int 0])), (m0, .inr (14, [g0, g1, g2, .ref ff, .ref fb, g5, g6, g7, .int 0]))] H := hP
      have hD : va_D A [(ff, .inr (13, [tf, .int 0, .int 0, .int 1, .int 0])), (fb, .inr (13, [tb, .int 0, .int 0, .int 1, .int 0])), (m0, .inr (14, [g0, g1, g2, .ref ff, .ref fb, g5, g6, g7, .int 0]))] := hD
      have hK : va_K (dC, dI) vwCl [] s := hK
      refine W.widen (k := 0) (n := 0) (Nat.le_of_ble_eq_true rfl) (Nat.le_of_ble_eq_true rfl) ?_
      refine va_getN (D := (dC, dI)) (ci := 13) (v := .int 0) (C := RX7) (T := TX7) (N := 5) hx hb hts (by decide +kernel) hown hK hP 1 rfl rfl 4 (by decide) (hamb.use (w := .fieldLinkNest RX8 180 "BothfacesModel$Face" "ground" "I" RX8) (by decide +kernel)) (fun _ h9 => h9) rfl dX8_setGround_19 ?_
      refine lv_istore_n (lv' := [(3, .int 0), (0, .ref m0), (1, .int 1), (2, .int p1)]) hx hb dX8_setGround_22 rfl hl (by decide) rfl (fun ls hl => ?_)
      refine lv_aload_n hx hb dX8_setGround_23 rfl (lv_at hl 1 rfl) ?_
      refine lv_iload_n hx hb dX8_setGround_24 rfl (lv_at hl 2 rfl) ?_
      have hPc := hP.sub (ws' := [(m0, .inr (14, [g0, g1, g2, .ref ff, .ref fb, g5, g6, g7, .int 0]))]) [2] rfl
      have hDc := hD.sub (ws' := [(m0, .inr (14, [g0, g1, g2, .ref ff, .ref fb, g5, g6, g7, .int 0]))]) [2] (by decide) rfl
      have hKc := hK.sub (tys' := []) [] rfl
      have hFc := va_free (wc := [(m0, .inr (14, [g0, g1, g2, .ref ff, .ref fb, g5, g6, g7, .int 0]))]) hD hS hA [2] rfl
      refine va_callr (va_runV (As := [.int 1]) (rest := []) ⟨hx, hb, hml, hown, hts⟩ (c_X8_face_1 l em dC dI m0 ff fb g0 g1 g2 g5 g6 g7 (.int 0) H.size) (cwV 1 hts gX8_setGround_X8_face rfl rfl rfl (by decide +kernel) ⟨Nat.le_of_ble_eq_true rfl, Nat.le_of_ble_eq_true rfl⟩) ⟨Pw.blind _ _ _ _ _ _ _, va_recv hKc hPc (ci := 14) (q0 := 0) rfl rfl, fun U hU hW => ⟨rfl, Pw.go hPc hKc hDc hamb hS hFc hU hW⟩⟩ rfl rfl hl.1 rfl (lv_room (Nat.le_of_ble_eq_true rfl)) dX8_setGround_25 ⟨Nat.le_of_ble_eq_true rfl, Nat.le_of_ble_eq_true rfl⟩) hS (fun q _ h => hFc q h) hFc (fun u ra t H1 locs1 ht hvm hw hB hz1 hk1 hS => ?_)
      obtain ⟨hra, hB⟩ := hB
      rw [hra]
      obtain ⟨hP1, hK1, hD1⟩ := hB
      rw [ht] at hP1
      have hK1 := va_K.moved hvm.symm hK1
      obtain ⟨hP, hD⟩ := va_join (wr := [(ff, .inr (13, [tf, .int 0, .int 0, .int 1, .int 0])), (fb, .inr (13, [tb, .int 0, .int 0, .int 1, .int 0]))]) (w1 := [(m0, .inr (14, [g0, g1, g2, .ref ff, .ref fb, g5, g6, g7, .int 0]))]) hP hD [2] [0, 1] rfl rfl (by decide) (by decide) hk1 hFc hP1 hD1
      have hK := (hK.sub (tys' := []) [] rfl).app hK1
      generalize H1 = H at hP hS ⊢
      have hP : va_P (dC, dI) vwCl [(ff, .inr (13, [tf, .int 0, .int 0, .int 1, .int 0])), (fb, .inr (13, [tb, .int 0, .int 0, .int 1, .int 0])), (m0, .inr (14, [g0, g1, g2, .ref ff, .ref fb, g5, g6, g7, .int 0]))] H := hP
      have hD : va_D A [(ff, .inr (13, [tf, .int 0, .int 0, .int 1, .int 0])), (fb, .inr (13, [tb, .int 0, .int 0, .int 1, .int 0])), (m0, .inr (14, [g0, g1, g2, .ref ff, .ref fb, g5, g6, g7, .int 0]))] := hD
      have hK : va_K (dC, dI) vwCl [] s := hK
      refine W.widen (k := 0) (n := 0) (Nat.le_of_ble_eq_true rfl) (Nat.le_of_ble_eq_true rfl) ?_
      refine lv_iload_n hx hb dX8_setGround_28 rfl (lv_at hl 3 rfl) ?_
      refine va_putN (D := (dC, dI)) (ci := 13) (v := .int p1) (ty := .int) (C := RX7) (T := TX7) (N := 5) hx hb hts (by decide +kernel) tyX7 tyX7_ok nmX7 hown hK hP hD hS 1 rfl rfl 4 (by decide) (hamb.use (w := .fieldLinkNest RX8 180 "BothfacesModel$Face" "ground" "I" RX8) (by decide +kernel)) (fun _ h9 => h9) rfl (by decide +kernel) rfl rfl (Nat.le_of_ble_eq_true rfl) dX8_setGround_29 (fun H locs hP hD hS => ?_)
      have hP : va_P (dC, dI) vwCl [(ff, .inr (13, [tf, .int 0, .int 0, .int 1, .int 0])), (fb, .inr (13, [tb, .int 0, .int 0, .int 1, .int p1])), (m0, .inr (14, [g0, g1, g2, .ref ff, .ref fb, g5, g6, g7, .int 0]))] H := hP
      have hD : va_D A [(ff, .inr (13, [tf, .int 0, .int 0, .int 1, .int 0])), (fb, .inr (13, [tb, .int 0, .int 0, .int 1, .int p1])), (m0, .inr (14, [g0, g1, g2, .ref ff, .ref fb, g5, g6, g7, .int 0]))] := hD
      refine lv_iload_n hx hb dX8_setGround_32 rfl (lv_at hl 0 rfl) ?_
      refine W.widen (k := 0) (n := 0) (Nat.le_of_ble_eq_true rfl) (Nat.le_of_ble_eq_true rfl) ?_
      have hP9 := hP.sub (ws' := [(m0, .inr (14, [g0, g1, g2, .ref ff, .ref fb, g5, g6, g7, .int 0]))]) [2] rfl
      have hD9 := hD.sub (ws' := [(m0, .inr (14, [g0, g1, g2, .ref ff, .ref fb, g5, g6, g7, .int 0]))]) [2] (by decide) rfl
      have hK9 := hK.sub (tys' := []) [] rfl
      exact W.iret (v := 0) hx hb hr (fun t ht hW => ⟨⟨0, (), rfl, ⟨fun h9 => (by first | rfl | (exfalso; omega)), fun h9 => (by first | rfl | (exfalso; omega))⟩, ⟨(0), ⟨by rw [ht]; exact hP9, va_K.moved hW.alike hK9, hD9⟩, (by first | rfl | assumption | omega | exact fun _ => rfl | exact fun h9 => absurd (by omega) h9 | exact fun h9 => absurd h9 (by omega)), (by first | rfl | assumption | omega | exact fun _ => rfl | exact fun h9 => absurd (by omega) h9 | exact fun h9 => absurd h9 (by omega))⟩⟩, hS.F ht⟩) hS.2.2 dX8_setGround_33
    · exact absurd (by decide) c_6

set_option maxHeartbeats 4000000 in
set_option maxRecDepth 100000 in
theorem c_X8_draw_bad (l : Launch) (em : Nat → Nat) (dC : Nat → ClassId) (dI : Nat → Nat → Nat) (m0 : Nat) (p0 : Int32) (p1 : Int32) (p2 : Int32) (g0 : Value) (g1 : Value) (g3 : Value) (g4 : Value) (g5 : Value) (g6 : Value) (g7 : Value) (g8 : Value) (dl : Nat) (hb9 : p0.toInt < 97 ∨ 122 < p0.toInt ∨ p1.toInt < 0 ∨ 4 < p1.toInt ∨ p2.toInt < 0 ∨ 7 < p2.toInt) (sz : Nat) : Met l yX8_draw wsX8_draw ({ frames := 1, cells := 0, slots := 0, locals := 22 }) (va_Pc [.ref m0, .int p0, .int p1, .int p2] (Pw em dC dI sz [(m0, .inr (14, [g0, g1, .ref dl, g3, g4, g5, g6, g7, g8]))] [])) (va_Qi (fun (r : Int32) (_ : Unit) => r = 0) (fun _ t => Qw dC dI (va_A [(m0, .inr (14, [g0, g1, .ref dl, g3, g4, g5, g6, g7, g8]))] sz) [(m0, .inr (14, [g0, g1, .ref dl, g3, g4, g5, g6, g7, .int 1]))] [] t) (va_A [(m0, .inr (14, [g0, g1, .ref dl, g3, g4, g5, g6, g7, g8]))] sz)) 0 0 (va_A [(m0, .inr (14, [g0, g1, .ref dl, g3, g4, g5, g6, g7, g8]))] sz) := by
  refine Met.ofW (cc := cX8_draw) (maxL := 5) (ret := (some .int)) (by decide) rfl ?_
  intro p e s m args below meth c s₁ B hml hv
  obtain ⟨rfl, hsz, hP, hK, hD0, hamb⟩ := hv
  have hx := B.exec
  have hb := B.bytes
  have hr := B.returns
  have hts := atoms_spec (ws := wsX8_draw) B.pre
  have hown : s.vm.findClass RX8 = some m.cls := findClass_of_methodNamed B.named
  have hlocks := B.notSynchronized
  subst hsz
  have hD := hD0.self (sz := s.heap.size)
  generalize hAe : va_A [(m0, .inr (14, [g0, g1, .ref dl, g3, g4, g5, g6, g7, g8]))] s.heap.size = A at hD hamb ⊢
  have hA : ∀ q : Nat, s.heap.size ≤ q → A q := fun q h => by rw [← hAe]; exact Or.inr h
  have hS : va_S A s.heap s.heap [] := va_S.rf
  have hP : va_P (dC, dI) vwCl [(m0, .inr (14, [g0, g1, .ref dl, g3, g4, g5, g6, g7, g8]))] s.heap := hP
  have hl := lv_entry ([.ref m0, .int p0, .int p1, .int p2]) (n := 5) (Nat.le_of_ble_eq_true rfl)
  rw [lg_entry_eq]
  generalize (lg_sl ([.ref m0, .int p0, .int p1, .int p2]) ++ List.replicate (5 - (lg_sl ([.ref m0, .int p0, .int p1, .int p2])).length) Slot.unset).toArray = ls at hl ⊢
  have hl : lv_has ls 5 [(0, .ref m0), (1, .int p0), (2, .int p1), (3, .int p2)] := hl
  refine lv_aload_n hx hb dX8_draw_0 rfl (lv_at hl 0 rfl) ?_
  refine lv_iload_n hx hb dX8_draw_1 rfl (lv_at hl 1 rfl) ?_
  refine lv_bipush (v := 97) hx hb dX8_draw_2 (by decide) ?_
  refine lv_bipush (v := 122) hx hb dX8_draw_4 (by decide) ?_
  have hPc := hP.sub (ws' := []) [] rfl
  have hDc := hD.sub (ws' := []) [] (by decide) rfl
  have hKc := hK.sub (tys' := []) [] rfl
  have hFc := va_free (wc := []) hD hS hA [] rfl
  refine va_calli (va_runS (As := [.int p0, .int 97, .int 122]) (rest := [.ref m0]) ⟨hx, hb, hml, hown, hts⟩ (c_X8_isIn_97_122 l em dC dI p0 s.heap.size) (va_cwS 3 hts gX8_draw_X8_isIn rfl rfl rfl (by decide +kernel) ⟨Nat.le_of_ble_eq_true rfl, Nat.le_of_ble_eq_true rfl⟩) ⟨Pw.blind _ _ _ _ _ _ _, fun U hU hW => ⟨rfl, Pw.go hPc hKc hDc hamb hS hFc hU hW⟩⟩ rfl rfl hl.1 rfl (lv_room (Nat.le_of_ble_eq_true rfl)) dX8_draw_6 ⟨Nat.le_of_ble_eq_true rfl, Nat.le_of_ble_eq_true rfl⟩) hS (fun q _ h => hFc q h) hFc (fun r_1 u t H1 locs1 ht hvm hw hB hz1 hk1 hS => ?_)
  obtain ⟨hP, hD⟩ := va_rest (wr := [(m0, .inr (14, [g0, g1, .ref dl, g3, g4, g5, g6, g7, g8]))]) hP hD [] [0] rfl rfl (by decide) (by decide) hk1 hFc
  generalize H1 = H at hP hS ⊢
  refine W.widen (k := 0) (n := 0) (Nat.le_of_ble_eq_true rfl) (Nat.le_of_ble_eq_true rfl) ?_
  have hw : ((97 ≤ p0.toInt ∧ p0.toInt ≤ 122) → r_1 = 1) ∧ (¬ (97 ≤ p0.toInt ∧ p0.toInt ≤ 122) → r_1 = 0) := hw
  rcases Classical.em (97 ≤ p0.toInt ∧ p0.toInt ≤ 122) with t_2 | t_2
  · have hw := hw.1 t_2
    rw [hw]
    refine lv_if_eq (tgt := 31) hx hb dX8_draw_9 (by decide) (fun c_3 => ?_) (fun c_3 => ?_)
    · exact absurd c_3 (by decide)
    · refine lv_iload_n hx hb dX8_draw_12 rfl (lv_at hl 2 rfl) ?_
      refine lv_iconst (v := 0) hx hb dX8_draw_13 (by decide) ?_
      refine lv_iconst (v := 4) hx hb dX8_draw_14 (by decide) ?_
      have hPc := hP.sub (ws' := []) [] rfl
      have hDc := hD.sub (ws' := []) [] (by decide) rfl
      have hKc := hK.sub (tys' := []) [] rfl
      have hFc := va_free (wc := []) hD hS hA [] rfl
      refine va_calli (va_runS (As := [.int p1, .int 0, .int 4]) (rest := [.ref m0]) ⟨hx, hb, hml, hown, hts⟩ (c_X8_isIn_0_4 l em dC dI p1 H.size) (va_cwS 3 hts gX8_draw_X8_isIn rfl rfl rfl (by decide +kernel) ⟨Nat.le_of_ble_eq_true rfl, Nat.le_of_ble_eq_true rfl⟩) ⟨Pw.blind _ _ _ _ _ _ _, fun U hU hW => ⟨rfl, Pw.go hPc hKc hDc hamb hS hFc hU hW⟩⟩ rfl rfl hl.1 rfl (lv_room (Nat.le_of_ble_eq_true rfl)) dX8_draw_15 ⟨Nat.le_of_ble_eq_true rfl, Nat.le_of_ble_eq_true rfl⟩) hS (fun q _ h => hFc q h) hFc (fun r_4 u t H1 locs1 ht hvm hw hB hz1 hk1 hS => ?_)
      obtain ⟨hP, hD⟩ := va_rest (wr := [(m0, .inr (14, [g0, g1, .ref dl, g3, g4, g5, g6, g7, g8]))]) hP hD [] [0] rfl rfl (by decide) (by decide) hk1 hFc
      generalize H1 = H at hP hS ⊢
      refine W.widen (k := 0) (n := 0) (Nat.le_of_ble_eq_true rfl) (Nat.le_of_ble_eq_true rfl) ?_
      have hw : ((0 ≤ p1.toInt ∧ p1.toInt ≤ 4) → r_4 = 1) ∧ (¬ (0 ≤ p1.toInt ∧ p1.toInt ≤ 4) → r_4 = 0) := hw
      rcases Classical.em (0 ≤ p1.toInt ∧ p1.toInt ≤ 4) with t_5 | t_5
      · have hw := hw.1 t_5
        rw [hw]
        refine lv_if_eq (tgt := 31) hx hb dX8_draw_18 (by decide) (fun c_6 => ?_) (fun c_6 => ?_)
        · exact absurd c_6 (by decide)
        · refine lv_iload_n hx hb dX8_draw_21 rfl (lv_at hl 3 rfl) ?_
          refine lv_iconst (v := 0) hx hb dX8_draw_22 (by decide) ?_
          refine lv_bipush (v := 7) hx hb dX8_draw_23 (by decide) ?_
          have hPc := hP.sub (ws' := []) [] rfl
          have hDc := hD.sub (ws' := []) [] (by decide) rfl
          have hKc := hK.sub (tys' := []) [] rfl
          have hFc := va_free (wc := []) hD hS hA [] rfl
          refine va_calli (va_runS (As := [.int p2, .int 0, .int 7]) (rest := [.ref m0]) ⟨hx, hb, hml, hown, hts⟩ (c_X8_isIn_0_7 l em dC dI p2 H.size) (va_cwS 3 hts gX8_draw_X8_isIn rfl rfl rfl (by decide +kernel) ⟨Nat.le_of_ble_eq_true rfl, Nat.le_of_ble_eq_true rfl⟩) ⟨Pw.blind _ _ _ _ _ _ _, fun U hU hW => ⟨rfl, Pw.go hPc hKc hDc hamb hS hFc hU hW⟩⟩ rfl rfl hl.1 rfl (lv_room (Nat.le_of_ble_eq_true rfl)) dX8_draw_25 ⟨Nat.le_of_ble_eq_true rfl, Nat.le_of_ble_eq_true rfl⟩) hS (fun q _ h => hFc q h) hFc (fun r_7 u t H1 locs1 ht hvm hw hB hz1 hk1 hS => ?_)
          obtain ⟨hP, hD⟩ := va_rest (wr := [(m0, .inr (14, [g0, g1, .ref dl, g3, g4, g5, g6, g7, g8]))]) hP hD [] [0] rfl rfl (by decide) (by decide) hk1 hFc
          generalize H1 = H at hP hS ⊢
          refine W.widen (k := 0) (n := 0) (Nat.le_of_ble_eq_true rfl) (Nat.le_of_ble_eq_true rfl) ?_
          have hw : ((0 ≤ p2.toInt ∧ p2.toInt ≤ 7) → r_7 = 1) ∧ (¬ (0 ≤ p2.toInt ∧ p2.toInt ≤ 7) → r_7 = 0) := hw
          rcases Classical.em (0 ≤ p2.toInt ∧ p2.toInt ≤ 7) with t_8 | t_8
          · have hw := hw.1 t_8
            rw [hw]
            refine lv_if_ne (tgt := 35) hx hb dX8_draw_28 (by decide) (fun c_9 => ?_) (fun c_9 => ?_)
            · refine lv_iconst (v := 0) hx hb dX8_draw_35 (by decide) ?_
              refine lv_iconst (v := 1) hx hb dX8_draw_36 (by decide) ?_
              have hPc := hP.sub (ws' := [(m0, .inr (14, [g0, g1, .ref dl, g3, g4, g5, g6, g7, g8]))]) [0] rfl
              have hDc := hD.sub (ws' := [(m0, .inr (14, [g0, g1, .ref dl, g3, g4, g5, g6, g7, g8]))]) [0] (by decide) rfl
              have hKc := hK.sub (tys' := []) [] rfl
              have hFc := va_free (wc := [(m0, .inr (14, [g0, g1, .ref dl, g3, g4, g5, g6, g7, g8]))]) hD hS hA [0] rfl
              refine va_calli (va_runV (As := [.int 0, .int 1]) (rest := []) ⟨hx, hb, hml, hown, hts⟩ (c_X8_isThrown_0 l em dC dI m0 1 g0 g1 (.ref dl) g3 g4 g5 g6 g7 g8 H.size) (cwV 2 hts gX8_draw_X8_isThrown rfl rfl rfl (by decide +kernel) ⟨Nat.le_of_ble_eq_true rfl, Nat.le_of_ble_eq_true rfl⟩) ⟨Pw.blind _ _ _ _ _ _ _, va_recv hKc hPc (ci := 14) (q0 := 0) rfl rfl, fun U hU hW => ⟨rfl, Pw.go hPc hKc hDc hamb hS hFc hU hW⟩⟩ rfl rfl hl.1 rfl (lv_room (Nat.le_of_ble_eq_true rfl)) dX8_draw_37 ⟨Nat.le_of_ble_eq_true rfl, Nat.le_of_ble_eq_true rfl⟩) hS (fun q _ h => hFc q h) hFc (fun r_10 u t H1 locs1 ht hvm hw hB hz1 hk1 hS => ?_)
              obtain ⟨hP1, hK1, hD1⟩ := hB
              rw [ht] at hP1
              have hK1 := va_K.moved hvm.symm hK1
              obtain ⟨hP, hD⟩ := va_join (wr := []) (w1 := [(m0, .inr (14, [g0, g1, .ref dl, g3, g4, g5, g6, g7, .int 0]))]) hP hD [0] [] rfl rfl (by decide) (by decide) hk1 hFc hP1 hD1
              have hK := (hK.sub (tys' := []) [] rfl).app hK1
              generalize H1 = H at hP hS ⊢
              have hP : va_P (dC, dI) vwCl [(m0, .inr (14, [g0, g1, .ref dl, g3, g4, g5, g6, g7, .int 0]))] H := hP
              have hD : va_D A [(m0, .inr (14, [g0, g1, .ref dl, g3, g4, g5, g6, g7, .int 0]))] := hD
              have hK : va_K (dC, dI) vwCl [] s := hK
              refine W.widen (k := 0) (n := 0) (Nat.le_of_ble_eq_true rfl) (Nat.le_of_ble_eq_true rfl) ?_
              have hw : r_10 = 0 := hw
              rw [hw]
              refine lv_if_eq (tgt := 45) hx hb dX8_draw_40 (by decide) (fun c_11 => ?_) (fun c_11 => ?_)
              · exfalso; omega
              · exact absurd (by decide) c_11
            · exact absurd c_9 (by decide)
          · have hw := hw.2 t_8
            rw [hw]
            refine lv_if_ne (tgt := 35) hx hb dX8_draw_28 (by decide) (fun c_12 => ?_) (fun c_12 => ?_)
            · exact absurd (by decide) c_12
            · refine lv_iconst (v := 1) hx hb dX8_draw_31 (by decide) ?_
              refine lv_goto (tgt := 36) hx hb dX8_draw_32 (by decide) ?_
              refine lv_iconst (v := 1) hx hb dX8_draw_36 (by decide) ?_
              have hPc := hP.sub (ws' := [(m0, .inr (14, [g0, g1, .ref dl, g3, g4, g5, g6, g7, g8]))]) [0] rfl
              have hDc := hD.sub (ws' := [(m0, .inr (14, [g0, g1, .ref dl, g3, g4, g5, g6, g7, g8]))]) [0] (by decide) rfl
              have hKc := hK.sub (tys' := []) [] rfl
              have hFc := va_free (wc := [(m0, .inr (14, [g0, g1, .ref dl, g3, g4, g5, g6, g7, g8]))]) hD hS hA [0] rfl
              refine va_calli (va_runV (As := [.int 1, .int 1]) (rest := []) ⟨hx, hb, hml, hown, hts⟩ (c_X8_isThrown_1 l em dC dI m0 1 g0 g1 (.ref dl) g3 g4 g5 g6 g7 g8 H.size) (cwV 2 hts gX8_draw_X8_isThrown rfl rfl rfl (by decide +kernel) ⟨Nat.le_of_ble_eq_true rfl, Nat.le_of_ble_eq_true rfl⟩) ⟨Pw.blind _ _ _ _ _ _ _, va_recv hKc hPc (ci := 14) (q0 := 0) rfl rfl, fun U hU hW => ⟨rfl, Pw.go hPc hKc hDc hamb hS hFc hU hW⟩⟩ rfl rfl hl.1 rfl (lv_room (Nat.le_of_ble_eq_true rfl)) dX8_draw_37 ⟨Nat.le_of_ble_eq_true rfl, Nat.le_of_ble_eq_true rfl⟩) hS (fun q _ h => hFc q h) hFc (fun r_13 u t H1 locs1 ht hvm hw hB hz1 hk1 hS => ?_)
              obtain ⟨hP1, hK1, hD1⟩ := hB
              rw [ht] at hP1
              have hK1 := va_K.moved hvm.symm hK1
              obtain ⟨hP, hD⟩ := va_join (wr := []) (w1 := [(m0, .inr (14, [g0, g1, .ref dl, g3, g4, g5, g6, g7, .int 1]))]) hP hD [0] [] rfl rfl (by decide) (by decide) hk1 hFc hP1 hD1
              have hK := (hK.sub (tys' := []) [] rfl).app hK1
              generalize H1 = H at hP hS ⊢
              have hP : va_P (dC, dI) vwCl [(m0, .inr (14, [g0, g1, .ref dl, g3, g4, g5, g6, g7, .int 1]))] H := hP
              have hD : va_D A [(m0, .inr (14, [g0, g1, .ref dl, g3, g4, g5, g6, g7, .int 1]))] := hD
              have hK : va_K (dC, dI) vwCl [] s := hK
              refine W.widen (k := 0) (n := 0) (Nat.le_of_ble_eq_true rfl) (Nat.le_of_ble_eq_true rfl) ?_
              have hw : r_13 = 1 := hw
              rw [hw]
              refine lv_if_eq (tgt := 45) hx hb dX8_draw_40 (by decide) (fun c_14 => ?_) (fun c_14 => ?_)
              · exact absurd c_14 (by decide)
              · refine lv_iconst (v := 0) hx hb dX8_draw_43 (by decide) ?_
                refine W.widen (k := 0) (n := 0) (Nat.le_of_ble_eq_true rfl) (Nat.le_of_ble_eq_true rfl) ?_
                have hP9 := hP.sub (ws' := [(m0, .inr (14, [g0, g1, .ref dl, g3, g4, g5, g6, g7, .int 1]))]) [0] rfl
                have hD9 := hD.sub (ws' := [(m0, .inr (14, [g0, g1, .ref dl, g3, g4, g5, g6, g7, .int 1]))]) [0] (by decide) rfl
                have hK9 := hK.sub (tys' := []) [] rfl
                exact W.iret (v := 0) hx hb hr (fun t ht hW => ⟨⟨0, (), rfl, rfl, ⟨by rw [ht]; exact hP9, va_K.moved hW.alike hK9, hD9⟩⟩, hS.F ht⟩) hS.2.2 dX8_draw_44
      · have hw := hw.2 t_5
        rw [hw]
        refine lv_if_eq (tgt := 31) hx hb dX8_draw_18 (by decide) (fun c_15 => ?_) (fun c_15 => ?_)
        · refine lv_iconst (v := 1) hx hb dX8_draw_31 (by decide) ?_
          refine lv_goto (tgt := 36) hx hb dX8_draw_32 (by decide) ?_
          refine lv_iconst (v := 1) hx hb dX8_draw_36 (by decide) ?_
          have hPc := hP.sub (ws' := [(m0, .inr (14, [g0, g1, .ref dl, g3, g4, g5, g6, g7, g8]))]) [0] rfl
          have hDc := hD.sub (ws' := [(m0, .inr (14, [g0, g1, .ref dl, g3, g4, g5, g6, g7, g8]))]) [0] (by decide) rfl
          have hKc := hK.sub (tys' := []) [] rfl
          have hFc := va_free (wc := [(m0, .inr (14, [g0, g1, .ref dl, g3, g4, g5, g6, g7, g8]))]) hD hS hA [0] rfl
          refine va_calli (va_runV (As := [.int 1, .int 1]) (rest := []) ⟨hx, hb, hml, hown, hts⟩ (c_X8_isThrown_1 l em dC dI m0 1 g0 g1 (.ref dl) g3 g4 g5 g6 g7 g8 H.size) (cwV 2 hts gX8_draw_X8_isThrown rfl rfl rfl (by decide +kernel) ⟨Nat.le_of_ble_eq_true rfl, Nat.le_of_ble_eq_true rfl⟩) ⟨Pw.blind _ _ _ _ _ _ _, va_recv hKc hPc (ci := 14) (q0 := 0) rfl rfl, fun U hU hW => ⟨rfl, Pw.go hPc hKc hDc hamb hS hFc hU hW⟩⟩ rfl rfl hl.1 rfl (lv_room (Nat.le_of_ble_eq_true rfl)) dX8_draw_37 ⟨Nat.le_of_ble_eq_true rfl, Nat.le_of_ble_eq_true rfl⟩) hS (fun q _ h => hFc q h) hFc (fun r_16 u t H1 locs1 ht hvm hw hB hz1 hk1 hS => ?_)
          obtain ⟨hP1, hK1, hD1⟩ := hB
          rw [ht] at hP1
          have hK1 := va_K.moved hvm.symm hK1
          obtain ⟨hP, hD⟩ := va_join (wr := []) (w1 := [(m0, .inr (14, [g0, g1, .ref dl, g3, g4, g5, g6, g7, .int 1]))]) hP hD [0] [] rfl rfl (by decide) (by decide) hk1 hFc hP1 hD1
          have hK := (hK.sub (tys' := []) [] rfl).app hK1
          generalize H1 = H at hP hS ⊢
          have hP : va_P (dC, dI) vwCl [(m0, .inr (14, [g0, g1, .ref dl, g3, g4, g5, g6, g7, .int 1]))] H := hP
          have hD : va_D A [(m0, .inr (14, [g0, g1, .ref dl, g3, g4, g5, g6, g7, .int 1]))] := hD
          have hK : va_K (dC, dI) vwCl [] s := hK
          refine W.widen (k := 0) (n := 0) (Nat.le_of_ble_eq_true rfl) (Nat.le_of_ble_eq_true rfl) ?_
          have hw : r_16 = 1 := hw
          rw [hw]
          refine lv_if_eq (tgt := 45) hx hb dX8_draw_40 (by decide) (fun c_17 => ?_) (fun c_17 => ?_)
          · exact absurd c_17 (by decide)
          · refine lv_iconst (v := 0) hx hb dX8_draw_43 (by decide) ?_
            refine W.widen (k := 0) (n := 0) (Nat.le_of_ble_eq_true rfl) (Nat.le_of_ble_eq_true rfl) ?_
            have hP9 := hP.sub (ws' := [(m0, .inr (14, [g0, g1, .ref dl, g3, g4, g5, g6, g7, .int 1]))]) [0] rfl
            have hD9 := hD.sub (ws' := [(m0, .inr (14, [g0, g1, .ref dl, g3, g4, g5, g6, g7, .int 1]))]) [0] (by decide) rfl
            have hK9 := hK.sub (tys' := []) [] rfl
            exact W.iret (v := 0) hx hb hr (fun t ht hW => ⟨⟨0, (), rfl, rfl, ⟨by rw [ht]; exact hP9, va_K.moved hW.alike hK9, hD9⟩⟩, hS.F ht⟩) hS.2.2 dX8_draw_44
        · exact absurd (by decide) c_15
  · have hw := hw.2 t_2
    rw [hw]
    refine lv_if_eq (tgt := 31) hx hb dX8_draw_9 (by decide) (fun c_18 => ?_) (fun c_18 => ?_)
    · refine lv_iconst (v := 1) hx hb dX8_draw_31 (by decide) ?_
      refine lv_goto (tgt := 36) hx hb dX8_draw_32 (by decide) ?_
      refine lv_iconst (v := 1) hx hb dX8_draw_36 (by decide) ?_
      have hPc := hP.sub (ws' := [(m0, .inr (14, [g0, g1, .ref dl, g3, g4, g5, g6, g7, g8]))]) [0] rfl
      have hDc := hD.sub (ws' := [(m0, .inr (14, [g0, g1, .ref dl, g3, g4, g5, g6, g7, g8]))]) [0] (by decide) rfl
      have hKc := hK.sub (tys' := []) [] rfl
      have hFc := va_free (wc := [(m0, .inr (14, [g0, g1, .ref dl, g3, g4, g5, g6, g7, g8]))]) hD hS hA [0] rfl
      refine va_calli (va_runV (As := [.int 1, .int 1]) (rest := []) ⟨hx, hb, hml, hown, hts⟩ (c_X8_isThrown_1 l em dC dI m0 1 g0 g1 (.ref dl) g3 g4 g5 g6 g7 g8 H.size) (cwV 2 hts gX8_draw_X8_isThrown rfl rfl rfl (by decide +kernel) ⟨Nat.le_of_ble_eq_true rfl, Nat.le_of_ble_eq_true rfl⟩) ⟨Pw.blind _ _ _ _ _ _ _, va_recv hKc hPc (ci := 14) (q0 := 0) rfl rfl, fun U hU hW => ⟨rfl, Pw.go hPc hKc hDc hamb hS hFc hU hW⟩⟩ rfl rfl hl.1 rfl (lv_room (Nat.le_of_ble_eq_true rfl)) dX8_draw_37 ⟨Nat.le_of_ble_eq_true rfl, Nat.le_of_ble_eq_true rfl⟩) hS (fun q _ h => hFc q h) hFc (fun r_19 u t H1 locs1 ht hvm hw hB hz1 hk1 hS => ?_)
      obtain ⟨hP1, hK1, hD1⟩ := hB
      rw [ht] at hP1
      have hK1 := va_K.moved hvm.symm hK1
      obtain ⟨hP, hD⟩ := va_join (wr := []) (w1 := [(m0, .inr (14, [g0, g1, .ref dl, g3, g4, g5, g6, g7, .int 1]))]) hP hD [0] [] rfl rfl (by decide) (by decide) hk1 hFc hP1 hD1
      have hK := (hK.sub (tys' := []) [] rfl).app hK1
      generalize H1 = H at hP hS ⊢
      have hP : va_P (dC, dI) vwCl [(m0, .inr (14, [g0, g1, .ref dl, g3, g4, g5, g6, g7, .int 1]))] H := hP
      have hD : va_D A [(m0, .inr (14, [g0, g1, .ref dl, g3, g4, g5, g6, g7, .int 1]))] := hD
      have hK : va_K (dC, dI) vwCl [] s := hK
      refine W.widen (k := 0) (n := 0) (Nat.le_of_ble_eq_true rfl) (Nat.le_of_ble_eq_true rfl) ?_
      have hw : r_19 = 1 := hw
      rw [hw]
      refine lv_if_eq (tgt := 45) hx hb dX8_draw_40 (by decide) (fun c_20 => ?_) (fun c_20 => ?_)
      · exact absurd c_20 (by decide)
      · refine lv_iconst (v := 0) hx hb dX8_draw_43 (by decide) ?_
        refine W.widen (k := 0) (n := 0) (Nat.le_of_ble_eq_true rfl) (Nat.le_of_ble_eq_true rfl) ?_
        have hP9 := hP.sub (ws' := [(m0, .inr (14, [g0, g1, .ref dl, g3, g4, g5, g6, g7, .int 1]))]) [0] rfl
        have hD9 := hD.sub (ws' := [(m0, .inr (14, [g0, g1, .ref dl, g3, g4, g5, g6, g7, .int 1]))]) [0] (by decide) rfl
        have hK9 := hK.sub (tys' := []) [] rfl
        exact W.iret (v := 0) hx hb hr (fun t ht hW => ⟨⟨0, (), rfl, rfl, ⟨by rw [ht]; exact hP9, va_K.moved hW.alike hK9, hD9⟩⟩, hS.F ht⟩) hS.2.2 dX8_draw_44
    · exact absurd (by decide) c_18

set_option maxHeartbeats 4000000 in
set_option maxRecDepth 100000 in
theorem c_X8_draw_ok (l : Launch) (em : Nat → Nat) (dC : Nat → ClassId) (dI : Nat → Nat → Nat) (m0 : Nat) (p0 : Int32) (p1 : Int32) (p2 : Int32) (g0 : Value) (g1 : Value) (g3 : Value) (g4 : Value) (g5 : Value) (g6 : Value) (g7 : Value) (g8 : Value) (dl : Nat) (rr : Nat) (cO : ClassId) (cI : ClassId) (fD : Nat → Option Nat) (hok : ¬ (p0.toInt < 97 ∨ 122 < p0.toInt ∨ p1.toInt < 0 ∨ 4 < p1.toInt ∨ p2.toInt < 0 ∨ 7 < p2.toInt)) (hrow : fD (p0 - 97).toNatClampNeg = some rr) (sz : Nat) : Met l yX8_draw wsX8_draw ({ frames := 1, cells := 0, slots := 0, locals := 22 }) (va_Pc [.ref m0, .int p0, .int p1, .int p2] (Pw em dC dI sz [(m0, .inr (14, [g0, g1, .ref dl, g3, g4, g5, g6, g7, g8])), (dl, .inl (cO, 26, .inr (.inr (.inr (.inr fD))))), (rr, .inl (cI, 5, .inl (fun _ => 0)))] [(cO, (.array .int)), (cI, .int)])) (va_Qi (fun (r : Int32) (_ : Unit) => r = 0) (fun _ t => Qw dC dI (va_A [(m0, .inr (14, [g0, g1, .ref dl, g3, g4, g5, g6, g7, g8])), (dl, .inl (cO, 26, .inr (.inr (.inr (.inr fD))))), (rr, .inl (cI, 5, .inl (fun _ => 0)))] sz) [(m0, .inr (14, [g0, g1, .ref dl, g3, g4, g5, g6, g7, .int 0]))] [] t) (va_A [(m0, .inr (14, [g0, g1, .ref dl, g3, g4, g5, g6, g7, g8])), (dl, .inl (cO, 26, .inr (.inr (.inr (.inr fD))))), (rr, .inl (cI, 5, .inl (fun _ => 0)))] sz)) 0 0 (va_A [(m0, .inr (14, [g0, g1, .ref dl, g3, g4, g5, g6, g7, g8])), (dl, .inl (cO, 26, .inr (.inr (.inr (.inr fD))))), (rr, .inl (cI, 5, .inl (fun _ => 0)))] sz) := by
  refine Met.ofW (cc := cX8_draw) (maxL := 5) (ret := (some .int)) (by decide) rfl ?_
  intro p e s m args below meth c s₁ B hml hv
  obtain ⟨rfl, hsz, hP, hK, hD0, hamb⟩ := hv
  have hx := B.exec
  have hb := B.bytes
  have hr := B.returns
  have hts := atoms_spec (ws := wsX8_draw) B.pre
  have hown : s.vm.findClass RX8 = some m.cls := findClass_of_methodNamed B.named
  have hlocks := B.notSynchronized
  subst hsz
  have hD := hD0.self (sz := s.heap.size)
  generalize hAe : va_A [(m0, .inr (14, [g0, g1, .ref dl, g3, g4, g5, g6, g7, g8])), (dl, .inl (cO, 26, .inr (.inr (.inr (.inr fD))))), (rr, .inl (cI, 5, .inl (fun _ => 0)))] s.heap.size = A at hD hamb ⊢
  have hA : ∀ q : Nat, s.heap.size ≤ q → A q := fun q h => by rw [← hAe]; exact Or.inr h
  have hS : va_S A s.heap s.heap [] := va_S.rf
  have hP : va_P (dC, dI) vwCl [(m0, .inr (14, [g0, g1, .ref dl, g3, g4, g5, g6, g7, g8])), (dl, .inl (cO, 26, .inr (.inr (.inr (.inr fD))))), (rr, .inl (cI, 5, .inl (fun _ => 0)))] s.heap := hP
  have hl := lv_entry ([.ref m0, .int p0, .int p1, .int p2]) (n := 5) (Nat.le_of_ble_eq_true rfl)
  rw [lg_entry_eq]
  generalize (lg_sl ([.ref m0, .int p0, .int p1, .int p2]) ++ List.replicate (5 - (lg_sl ([.ref m0, .int p0, .int p1, .int p2])).length) Slot.unset).toArray = ls at hl ⊢
  have hl : lv_has ls 5 [(0, .ref m0), (1, .int p0), (2, .int p1), (3, .int p2)] := hl
  refine lv_aload_n hx hb dX8_draw_0 rfl (lv_at hl 0 rfl) ?_
  refine lv_iload_n hx hb dX8_draw_1 rfl (lv_at hl 1 rfl) ?_
  refine lv_bipush (v := 97) hx hb dX8_draw_2 (by decide) ?_
  refine lv_bipush (v := 122) hx hb dX8_draw_4 (by decide) ?_
  have hPc := hP.sub (ws' := []) [] rfl
  have hDc := hD.sub (ws' := []) [] (by decide) rfl
  have hKc := hK.sub (tys' := []) [] rfl
  have hFc := va_free (wc := []) hD hS hA [] rfl
  refine va_calli (va_runS (As := [.int p0, .int 97, .int 122]) (rest := [.ref m0]) ⟨hx, hb, hml, hown, hts⟩ (c_X8_isIn_97_122 l em dC dI p0 s.heap.size) (va_cwS 3 hts gX8_draw_X8_isIn rfl rfl rfl (by decide +kernel) ⟨Nat.le_of_ble_eq_true rfl, Nat.le_of_ble_eq_true rfl⟩) ⟨Pw.blind _ _ _ _ _ _ _, fun U hU hW => ⟨rfl, Pw.go hPc hKc hDc hamb hS hFc hU hW⟩⟩ rfl rfl hl.1 rfl (lv_room (Nat.le_of_ble_eq_true rfl)) dX8_draw_6 ⟨Nat.le_of_ble_eq_true rfl, Nat.le_of_ble_eq_true rfl⟩) hS (fun q _ h => hFc q h) hFc (fun r_1 u t H1 locs1 ht hvm hw hB hz1 hk1 hS => ?_)
  obtain ⟨hP, hD⟩ := va_rest (wr := [(m0, .inr (14, [g0, g1, .ref dl, g3, g4, g5, g6, g7, g8])), (dl, .inl (cO, 26, .inr (.inr (.inr (.inr fD))))), (rr, .inl (cI, 5, .inl (fun _ => 0)))]) hP hD [] [0, 1, 2] rfl rfl (by decide) (by decide) hk1 hFc
  generalize H1 = H at hP hS ⊢
  refine W.widen (k := 0) (n := 0) (Nat.le_of_ble_eq_true rfl) (Nat.le_of_ble_eq_true rfl) ?_
  have hw : ((97 ≤ p0.toInt ∧ p0.toInt ≤ 122) → r_1 = 1) ∧ (¬ (97 ≤ p0.toInt ∧ p0.toInt ≤ 122) → r_1 = 0) := hw
  rcases Classical.em (97 ≤ p0.toInt ∧ p0.toInt ≤ 122) with t_2 | t_2
  · have hw := hw.1 t_2
    rw [hw]
    refine lv_if_eq (tgt := 31) hx hb dX8_draw_9 (by decide) (fun c_3 => ?_) (fun c_3 => ?_)
    · exact absurd c_3 (by decide)
    · refine lv_iload_n hx hb dX8_draw_12 rfl (lv_at hl 2 rfl) ?_
      refine lv_iconst (v := 0) hx hb dX8_draw_13 (by decide) ?_
      refine lv_iconst (v := 4) hx hb dX8_draw_14 (by decide) ?_
      have hPc := hP.sub (ws' := []) [] rfl
      have hDc := hD.sub (ws' := []) [] (by decide) rfl
      have hKc := hK.sub (tys' := []) [] rfl
      have hFc := va_free (wc := []) hD hS hA [] rfl
      refine va_calli (va_runS (As := [.int p1, .int 0, .int 4]) (rest := [.ref m0]) ⟨hx, hb, hml, hown, hts⟩ (c_X8_isIn_0_4 l em dC dI p1 H.size) (va_cwS 3 hts gX8_draw_X8_isIn rfl rfl rfl (by decide +kernel) ⟨Nat.le_of_ble_eq_true rfl, Nat.le_of_ble_eq_true rfl⟩) ⟨Pw.blind _ _ _ _ _ _ _, fun U hU hW => ⟨rfl, Pw.go hPc hKc hDc hamb hS hFc hU hW⟩⟩ rfl rfl hl.1 rfl (lv_room (Nat.le_of_ble_eq_true rfl)) dX8_draw_15 ⟨Nat.le_of_ble_eq_true rfl, Nat.le_of_ble_eq_true rfl⟩) hS (fun q _ h => hFc q h) hFc (fun r_4 u t H1 locs1 ht hvm hw hB hz1 hk1 hS => ?_)
      obtain ⟨hP, hD⟩ := va_rest (wr := [(m0, .inr (14, [g0, g1, .ref dl, g3, g4, g5, g6, g7, g8])), (dl, .inl (cO, 26, .inr (.inr (.inr (.inr fD))))), (rr, .inl (cI, 5, .inl (fun _ => 0)))]) hP hD [] [0, 1, 2] rfl rfl (by decide) (by decide) hk1 hFc
      generalize H1 = H at hP hS ⊢
      refine W.widen (k := 0) (n := 0) (Nat.le_of_ble_eq_true rfl) (Nat.le_of_ble_eq_true rfl) ?_
      have hw : ((0 ≤ p1.toInt ∧ p1.toInt ≤ 4) → r_4 = 1) ∧ (¬ (0 ≤ p1.toInt ∧ p1.toInt ≤ 4) → r_4 = 0) := hw
      rcases Classical.em (0 ≤ p1.toInt ∧ p1.toInt ≤ 4) with t_5 | t_5
      · have hw := hw.1 t_5
        rw [hw]
        refine lv_if_eq (tgt := 31) hx hb dX8_draw_18 (by decide) (fun c_6 => ?_) (fun c_6 => ?_)
        · exact absurd c_6 (by decide)
        · refine lv_iload_n hx hb dX8_draw_21 rfl (lv_at hl 3 rfl) ?_
          refine lv_iconst (v := 0) hx hb dX8_draw_22 (by decide) ?_
          refine lv_bipush (v := 7) hx hb dX8_draw_23 (by decide) ?_
          have hPc := hP.sub (ws' := []) [] rfl
          have hDc := hD.sub (ws' := []) [] (by decide) rfl
          have hKc := hK.sub (tys' := []) [] rfl
          have hFc := va_free (wc := []) hD hS hA [] rfl
          refine va_calli (va_runS (As := [.int p2, .int 0, .int 7]) (rest := [.ref m0]) ⟨hx, hb, hml, hown, hts⟩ (c_X8_isIn_0_7 l em dC dI p2 H.size) (va_cwS 3 hts gX8_draw_X8_isIn rfl rfl rfl (by decide +kernel) ⟨Nat.le_of_ble_eq_true rfl, Nat.le_of_ble_eq_true rfl⟩) ⟨Pw.blind _ _ _ _ _ _ _, fun U hU hW => ⟨rfl, Pw.go hPc hKc hDc hamb hS hFc hU hW⟩⟩ rfl rfl hl.1 rfl (lv_room (Nat.le_of_ble_eq_true rfl)) dX8_draw_25 ⟨Nat.le_of_ble_eq_true rfl, Nat.le_of_ble_eq_true rfl⟩) hS (fun q _ h => hFc q h) hFc (fun r_7 u t H1 locs1 ht hvm hw hB hz1 hk1 hS => ?_)
          obtain ⟨hP, hD⟩ := va_rest (wr := [(m0, .inr (14, [g0, g1, .ref dl, g3, g4, g5, g6, g7, g8])), (dl, .inl (cO, 26, .inr (.inr (.inr (.inr fD))))), (rr, .inl (cI, 5, .inl (fun _ => 0)))]) hP hD [] [0, 1, 2] rfl rfl (by decide) (by decide) hk1 hFc
          generalize H1 = H at hP hS ⊢
          refine W.widen (k := 0) (n := 0) (Nat.le_of_ble_eq_true rfl) (Nat.le_of_ble_eq_true rfl) ?_
          have hw : ((0 ≤ p2.toInt ∧ p2.toInt ≤ 7) → r_7 = 1) ∧ (¬ (0 ≤ p2.toInt ∧ p2.toInt ≤ 7) → r_7 = 0) := hw
          rcases Classical.em (0 ≤ p2.toInt ∧ p2.toInt ≤ 7) with t_8 | t_8
          · have hw := hw.1 t_8
            rw [hw]
            refine lv_if_ne (tgt := 35) hx hb dX8_draw_28 (by decide) (fun c_9 => ?_) (fun c_9 => ?_)
            · refine lv_iconst (v := 0) hx hb dX8_draw_35 (by decide) ?_
              refine lv_iconst (v := 1) hx hb dX8_draw_36 (by decide) ?_
              have hPc := hP.sub (ws' := [(m0, .inr (14, [g0, g1, .ref dl, g3, g4, g5, g6, g7, g8]))]) [0] rfl
              have hDc := hD.sub (ws' := [(m0, .inr (14, [g0, g1, .ref dl, g3, g4, g5, g6, g7, g8]))]) [0] (by decide) rfl
              have hKc := hK.sub (tys' := []) [] rfl
              have hFc := va_free (wc := [(m0, .inr (14, [g0, g1, .ref dl, g3, g4, g5, g6, g7, g8]))]) hD hS hA [0] rfl
              refine va_calli (va_runV (As := [.int 0, .int 1]) (rest := []) ⟨hx, hb, hml, hown, hts⟩ (c_X8_isThrown_0 l em dC dI m0 1 g0 g1 (.ref dl) g3 g4 g5 g6 g7 g8 H.size) (cwV 2 hts gX8_draw_X8_isThrown rfl rfl rfl (by decide +kernel) ⟨Nat.le_of_ble_eq_true rfl, Nat.le_of_ble_eq_true rfl⟩) ⟨Pw.blind _ _ _ _ _ _ _, va_recv hKc hPc (ci := 14) (q0 := 0) rfl rfl, fun U hU hW => ⟨rfl, Pw.go hPc hKc hDc hamb hS hFc hU hW⟩⟩ rfl rfl hl.1 rfl (lv_room (Nat.le_of_ble_eq_true rfl)) dX8_draw_37 ⟨Nat.le_of_ble_eq_true rfl, Nat.le_of_ble_eq_true rfl⟩) hS (fun q _ h => hFc q h) hFc (fun r_10 u t H1 locs1 ht hvm hw hB hz1 hk1 hS => ?_)
              obtain ⟨hP1, hK1, hD1⟩ := hB
              rw [ht] at hP1
              have hK1 := va_K.moved hvm.symm hK1
              obtain ⟨hP, hD⟩ := va_join (wr := [(dl, .inl (cO, 26, .inr (.inr (.inr (.inr fD))))), (rr, .inl (cI, 5, .inl (fun _ => 0)))]) (w1 := [(m0, .inr (14, [g0, g1, .ref dl, g3, g4, g5, g6, g7, .int 0]))]) hP hD [0] [1, 2] rfl rfl (by decide) (by decide) hk1 hFc hP1 hD1
              have hK := (hK.sub (tys' := [(cO, (.array .int)), (cI, .int)]) [0, 1] rfl).app hK1
              generalize H1 = H at hP hS ⊢
              have hP : va_P (dC, dI) vwCl [(dl, .inl (cO, 26, .inr (.inr (.inr (.inr fD))))), (rr, .inl (cI, 5, .inl (fun _ => 0))), (m0, .inr (14, [g0, g1, .ref dl, g3, g4, g5, g6, g7, .int 0]))] H := hP
              have hD : va_D A [(dl, .inl (cO, 26, .inr (.inr (.inr (.inr fD))))), (rr, .inl (cI, 5, .inl (fun _ => 0))), (m0, .inr (14, [g0, g1, .ref dl, g3, g4, g5, g6, g7, .int 0]))] := hD
              have hK : va_K (dC, dI) vwCl [(cO, (.array .int)), (cI, .int)] s := hK
              refine W.widen (k := 0) (n := 0) (Nat.le_of_ble_eq_true rfl) (Nat.le_of_ble_eq_true rfl) ?_
              have hw : r_10 = 0 := hw
              rw [hw]
              refine lv_if_eq (tgt := 45) hx hb dX8_draw_40 (by decide) (fun c_11 => ?_) (fun c_11 => ?_)
              · refine lv_aload_n hx hb dX8_draw_45 rfl (lv_at hl 0 rfl) ?_
                refine va_get (D := (dC, dI)) (ci := 14) (v := .ref dl) (C := RX8) (T := TX8) (N := 9) hx hb hts (by decide +kernel) hown hK hP 2 rfl rfl 2 (by decide) (hts (.fieldLink RX8 21 "BothfacesModel" "letters" "[[I") (by decide +kernel)) (fun _ h9 => h9) rfl dX8_draw_46 ?_
                refine lv_iload_n hx hb dX8_draw_49 rfl (lv_at hl 1 rfl) ?_
                refine lv_bipush (v := 97) hx hb dX8_draw_50 (by decide) ?_
                refine lv_isub hx hb dX8_draw_52 ?_
                refine lv_topi (fun x_12 ex_12 => ?_)
                have tx_12 : x_12.toInt = p0.toInt + (-97) := by rw [ex_12]; exact b_sub (k := 97) rfl (by omega) (by omega)
                refine ow_aaload hx hb hK hP 0 0 rfl rfl (vp_in_iff.mpr ⟨by omega, by omega⟩) dX8_draw_53 ?_
                rw [ex_12, hrow]
                refine W.eq (g2 := F0 m 54 ls [.ref rr]) rfl ?_
                refine lv_iload_n hx hb dX8_draw_54 rfl (lv_at hl 2 rfl) ?_
                refine va_iald hx hb hK hP 1 1 rfl rfl (vp_in_iff.mpr ⟨by omega, by omega⟩) dX8_draw_55 ?_
                refine lv_topi (fun k_13 ek_13 => ?_)
                obtain rfl : k_13 = 0 := ek_13
                refine lv_istore (lv' := [(4, .int 0), (0, .ref m0), (1, .int p0), (2, .int p1), (3, .int p2)]) hx hb dX8_draw_56 hl (by decide) rfl (fun ls hl => ?_)
                refine lv_aload_n hx hb dX8_draw_58 rfl (lv_at hl 1 rfl) ?_
                refine va_get (D := (dC, dI)) (ci := 14) (v := .ref dl) (C := RX8) (T := TX8) (N := 9) hx hb hts (by decide +kernel) hown hK hP 2 rfl rfl 2 (by decide) (hts (.fieldLink RX8 21 "BothfacesModel" "letters" "[[I") (by decide +kernel)) (fun _ h9 => h9) rfl dX8_draw_59 ?_
                refine lv_iload_n hx hb dX8_draw_62 rfl (lv_at hl 2 rfl) ?_
                refine lv_bipush (v := 97) hx hb dX8_draw_63 (by decide) ?_
                refine lv_isub hx hb dX8_draw_65 ?_
                refine lv_topi (fun x_14 ex_14 => ?_)
                have tx_14 : x_14.toInt = p0.toInt + (-97) := by rw [ex_14]; exact b_sub (k := 97) rfl (by omega) (by omega)
                refine ow_aaload hx hb hK hP 0 0 rfl rfl (vp_in_iff.mpr ⟨by omega, by omega⟩) dX8_draw_66 ?_
                rw [ex_14, hrow]
                refine W.eq (g2 := F0 m 67 ls [.ref rr]) rfl ?_
                refine lv_iload_n hx hb dX8_draw_67 rfl (lv_at hl 3 rfl) ?_
                refine lv_iload_n hx hb dX8_draw_68 rfl (lv_at hl 4 rfl) ?_
                refine va_iast hx hb hK hP hD hS 1 1 rfl rfl (vp_in_iff.mpr ⟨by omega, by omega⟩) dX8_draw_69 (fun H locs hP hD hS => ?_)
                have hP : va_P (dC, dI) vwCl [(dl, .inl (cO, 26, .inr (.inr (.inr (.inr fD))))), (rr, .inl (cI, 5, .inl (upd (fun _ => 0) (p1.toNatClampNeg) p2))), (m0, .inr (14, [g0, g1, .ref dl, g3, g4, g5, g6, g7, .int 0]))] H := hP
                have hD : va_D A [(dl, .inl (cO, 26, .inr (.inr (.inr (.inr fD))))), (rr, .inl (cI, 5, .inl (upd (fun _ => 0) (p1.toNatClampNeg) p2))), (m0, .inr (14, [g0, g1, .ref dl, g3, g4, g5, g6, g7, .int 0]))] := hD
                refine lv_iload hx hb dX8_draw_70 (lv_at hl 0 rfl) ?_
                refine W.widen (k := 0) (n := 0) (Nat.le_of_ble_eq_true rfl) (Nat.le_of_ble_eq_true rfl) ?_
                have hP9 := hP.sub (ws' := [(m0, .inr (14, [g0, g1, .ref dl, g3, g4, g5, g6, g7, .int 0]))]) [2] rfl
                have hD9 := hD.sub (ws' := [(m0, .inr (14, [g0, g1, .ref dl, g3, g4, g5, g6, g7, .int 0]))]) [2] (by decide) rfl
                have hK9 := hK.sub (tys' := []) [] rfl
                exact W.iret (v := 0) hx hb hr (fun t ht hW => ⟨⟨0, (), rfl, rfl, ⟨by rw [ht]; exact hP9, va_K.moved hW.alike hK9, hD9⟩⟩, hS.F ht⟩) hS.2.2 dX8_draw_72
              · exact absurd (by decide) c_11
            · exact absurd c_9 (by decide)
          · have hw := hw.2 t_8
            rw [hw]
            refine lv_if_ne (tgt := 35) hx hb dX8_draw_28 (by decide) (fun c_15 => ?_) (fun c_15 => ?_)
            · exact absurd (by decide) c_15
            · exfalso; omega
      · have hw := hw.2 t_5
        rw [hw]
        refine lv_if_eq (tgt := 31) hx hb dX8_draw_18 (by decide) (fun c_16 => ?_) (fun c_16 => ?_)
        · exfalso; omega
        · exact absurd (by decide) c_16
  · have hw := hw.2 t_2
    rw [hw]
    refine lv_if_eq (tgt := 31) hx hb dX8_draw_9 (by decide) (fun c_17 => ?_) (fun c_17 => ?_)
    · exfalso; omega
    · exact absurd (by decide) c_17

set_option maxHeartbeats 4000000 in
set_option maxRecDepth 100000 in
theorem c_Jxa1e45_init_da8c8 (l : Launch) (em : Nat → Nat) (dC : Nat → ClassId) (dI : Nat → Nat → Nat) (lc : Nat) (sz : Nat) : Met l yJxa1e45_init_da8c8 wsJxa1e45_init_da8c8 ({ frames := 1, cells := 0, slots := 0, locals := 12 }) (va_Pc [.ref lc] (Pw em dC dI sz [(lc, .inr (5, [.int 0, .null, .int 0]))] [])) (va_Qv (fun _ : Unit => True) (fun _ t => Qw dC dI (va_A [(lc, .inr (5, [.int 0, .null, .int 0]))] sz) [(lc, .inr (5, [.int 0, .null, .int 0]))] [] t) (va_A [(lc, .inr (5, [.int 0, .null, .int 0]))] sz)) 0 0 (va_A [(lc, .inr (5, [.int 0, .null, .int 0]))] sz) := by
  refine Met.ofW (cc := cJxa1e45_init_da8c8) (maxL := 1) (ret := none) (by decide) rfl ?_
  intro p e s m args below meth c s₁ B hml hv
  obtain ⟨rfl, hsz, hP, hK, hD0, hamb⟩ := hv
  have hx := B.exec
  have hb := B.bytes
  have hr := B.returns
  have hts := atoms_spec (ws := wsJxa1e45_init_da8c8) B.pre
  have hown : s.vm.findClass RJxa1e45 = some m.cls := findClass_of_methodNamed B.named
  have hlocks := B.notSynchronized
  have hin : meth.name = "<init>" := (name_of_methodNamed B.named B.method).1
  subst hsz
  have hD := hD0.self (sz := s.heap.size)
  generalize hAe : va_A [(lc, .inr (5, [.int 0, .null, .int 0]))] s.heap.size = A at hD hamb ⊢
  have hA : ∀ q : Nat, s.heap.size ≤ q → A q := fun q h => by rw [← hAe]; exact Or.inr h
  have hS : va_S A s.heap s.heap [] := va_S.rf
  have hP : va_P (dC, dI) vwCl [(lc, .inr (5, [.int 0, .null, .int 0]))] s.heap := hP
  have hl := lv_entry ([.ref lc]) (n := 1) (Nat.le_of_ble_eq_true rfl)
  rw [lg_entry_eq]
  generalize (lg_sl ([.ref lc]) ++ List.replicate (1 - (lg_sl ([.ref lc])).length) Slot.unset).toArray = ls at hl ⊢
  have hl : lv_has ls 1 [(0, .ref lc)] := hl
  refine lv_aload_n hx hb dJxa1e45_init_da8c8_0 rfl (lv_at hl 0 rfl) ?_
  refine W.objInit hx hb hown (hts (.methodLink RJxa1e45 1 objectInit) (by decide +kernel)) (hts (.instanceMethod objectInit) (by decide +kernel)) (hts (.code objectInit ⟨#[0xb1]⟩ 1 none) (by decide +kernel)) rfl (by rw [hml]; exact hl.1) rfl dJxa1e45_init_da8c8_1 (Nat.le_of_ble_eq_true rfl) (Nat.le_of_ble_eq_true rfl) ?_
  refine W.eq (g2 := F0 m 4 ls []) rfl ?_
  refine W.widen (k := 0) (n := 0) (Nat.le_of_ble_eq_true rfl) (Nat.le_of_ble_eq_true rfl) ?_
  have hP9 := hP.sub (ws' := [(lc, .inr (5, [.int 0, .null, .int 0]))]) [0] rfl
  have hD9 := hD.sub (ws' := [(lc, .inr (5, [.int 0, .null, .int 0]))]) [0] (by decide) rfl
  have hK9 := hK.sub (tys' := []) [] rfl
  exact W.vret hx hb hr (fun t ht hW => ⟨⟨(), rfl, trivial, ⟨by rw [ht]; exact hP9, va_K.moved hW.alike hK9, hD9⟩⟩, hS.F ht⟩) hS.2.2 dJxa1e45_init_da8c8_4

set_option maxHeartbeats 4000000 in
set_option maxRecDepth 100000 in
theorem c_Jxc12de_init_da8c8 (l : Launch) (em : Nat → Nat) (dC : Nat → ClassId) (dI : Nat → Nat → Nat) (lc : Nat) (sz : Nat) : Met l yJxc12de_init_da8c8 wsJxc12de_init_da8c8 ({ frames := 2, cells := 0, slots := 0, locals := 32 }) (va_Pc [.ref lc] (Pw em dC dI sz [(lc, .inr (5, [.int 0, .null, .int 0]))] [])) (va_Qv (fun _ : Unit => True) (fun _ t => Qw dC dI (va_A [(lc, .inr (5, [.int 0, .null, .int 0]))] sz) [(lc, .inr (5, [.int 0, .null, .int 0]))] [] t) (va_A [(lc, .inr (5, [.int 0, .null, .int 0]))] sz)) 0 0 (va_A [(lc, .inr (5, [.int 0, .null, .int 0]))] sz) := by
  refine Met.ofW (cc := cJxc12de_init_da8c8) (maxL := 1) (ret := none) (by decide) rfl ?_
  intro p e s m args below meth c s₁ B hml hv
  obtain ⟨rfl, hsz, hP, hK, hD0, hamb⟩ := hv
  have hx := B.exec
  have hb := B.bytes
  have hr := B.returns
  have hts := atoms_spec (ws := wsJxc12de_init_da8c8) B.pre
  have hown : s.vm.findClass RJxc12de = some m.cls := findClass_of_methodNamed B.named
  have hlocks := B.notSynchronized
  have hin : meth.name = "<init>" := (name_of_methodNamed B.named B.method).1
  subst hsz
  have hD := hD0.self (sz := s.heap.size)
  generalize hAe : va_A [(lc, .inr (5, [.int 0, .null, .int 0]))] s.heap.size = A at hD hamb ⊢
  have hA : ∀ q : Nat, s.heap.size ≤ q → A q := fun q h => by rw [← hAe]; exact Or.inr h
  have hS : va_S A s.heap s.heap [] := va_S.rf
  have hP : va_P (dC, dI) vwCl [(lc, .inr (5, [.int 0, .null, .int 0]))] s.heap := hP
  have hl := lv_entry ([.ref lc]) (n := 1) (Nat.le_of_ble_eq_true rfl)
  rw [lg_entry_eq]
  generalize (lg_sl ([.ref lc]) ++ List.replicate (1 - (lg_sl ([.ref lc])).length) Slot.unset).toArray = ls at hl ⊢
  have hl : lv_has ls 1 [(0, .ref lc)] := hl
  refine lv_aload_n hx hb dJxc12de_init_da8c8_0 rfl (lv_at hl 0 rfl) ?_
  have hPc := hP.sub (ws' := [(lc, .inr (5, [.int 0, .null, .int 0]))]) [0] rfl
  have hDc := hD.sub (ws' := [(lc, .inr (5, [.int 0, .null, .int 0]))]) [0] (by decide) rfl
  have hKc := hK.sub (tys' := []) [] rfl
  have hFc := va_free (wc := [(lc, .inr (5, [.int 0, .null, .int 0]))]) hD hS hA [0] rfl
  refine va_callv (va_runI (As := []) (rest := []) ⟨hx, hb, hml, hown, hts⟩ (c_Jxa1e45_init_da8c8 l em dC dI lc s.heap.size) (cwI 0 hts gJxc12de_init_da8c8_Jxa1e45_init_da8c8 rfl rfl rfl (hts (.initialized RJxa1e45) (by decide +kernel)) (hts (.methodLink RJxc12de 1 yJxa1e45_init_da8c8) (by decide +kernel)) (hts (.instanceMethod yJxa1e45_init_da8c8) (by decide +kernel)) rfl (by decide +kernel) ⟨Nat.le_of_ble_eq_true rfl, Nat.le_of_ble_eq_true rfl⟩) ⟨Pw.blind _ _ _ _ _ _ _, fun U hU hW => ⟨rfl, Pw.go hPc hKc hDc hamb hS hFc hU hW⟩⟩ rfl rfl hl.1 rfl (lv_room (Nat.le_of_ble_eq_true rfl)) dJxc12de_init_da8c8_1 ⟨Nat.le_of_ble_eq_true rfl, Nat.le_of_ble_eq_true rfl⟩) hS (fun q _ h => hFc q h) hFc (fun u t H1 locs1 ht hvm hw hB hz1 hk1 hS => ?_)
  obtain ⟨hP1, hK1, hD1⟩ := hB
  rw [ht] at hP1
  have hK1 := va_K.moved hvm.symm hK1
  obtain ⟨hP, hD⟩ := va_join (wr := []) (w1 := [(lc, .inr (5, [.int 0, .null, .int 0]))]) hP hD [0] [] rfl rfl (by decide) (by decide) hk1 hFc hP1 hD1
  have hK := (hK.sub (tys' := []) [] rfl).app hK1
  generalize H1 = H at hP hS ⊢
  have hP : va_P (dC, dI) vwCl [(lc, .inr (5, [.int 0, .null, .int 0]))] H := hP
  have hD : va_D A [(lc, .inr (5, [.int 0, .null, .int 0]))] := hD
  have hK : va_K (dC, dI) vwCl [] s := hK
  refine W.widen (k := 0) (n := 0) (Nat.le_of_ble_eq_true rfl) (Nat.le_of_ble_eq_true rfl) ?_
  refine lv_aload_n hx hb dJxc12de_init_da8c8_4 rfl (lv_at hl 0 rfl) ?_
  refine lv_iconst (v := 0) hx hb dJxc12de_init_da8c8_5 (by decide) ?_
  refine va_put (D := (dC, dI)) (ci := 5) (v := .int 0) (ty := .int) (C := RJx4a65c) (T := TJx4a65c) (N := 3) hx hb hts (by decide +kernel) tyJx4a65c tyJx4a65c_ok nmJx4a65c hown hK hP hD hS 0 rfl rfl 0 (by decide) (hts (.fieldLink RJxc12de 7 "java/util/AbstractList" "modCount" "I") (by decide +kernel)) (fun _ h9 => h9) rfl (by decide +kernel) rfl rfl (Nat.le_of_ble_eq_true rfl) dJxc12de_init_da8c8_6 (fun H locs hP hD hS => ?_)
  have hP : va_P (dC, dI) vwCl [(lc, .inr (5, [.int 0, .null, .int 0]))] H := hP
  have hD : va_D A [(lc, .inr (5, [.int 0, .null, .int 0]))] := hD
  refine W.widen (k := 0) (n := 0) (Nat.le_of_ble_eq_true rfl) (Nat.le_of_ble_eq_true rfl) ?_
  have hP9 := hP.sub (ws' := [(lc, .inr (5, [.int 0, .null, .int 0]))]) [0] rfl
  have hD9 := hD.sub (ws' := [(lc, .inr (5, [.int 0, .null, .int 0]))]) [0] (by decide) rfl
  have hK9 := hK.sub (tys' := []) [] rfl
  exact W.vret hx hb hr (fun t ht hW => ⟨⟨(), rfl, trivial, ⟨by rw [ht]; exact hP9, va_K.moved hW.alike hK9, hD9⟩⟩, hS.F ht⟩) hS.2.2 dJxc12de_init_da8c8_9

set_option maxHeartbeats 4000000 in
set_option maxRecDepth 100000 in
theorem c_Jx4a65c_init_da8c8 (l : Launch) (em : Nat → Nat) (dC : Nat → ClassId) (dI : Nat → Nat → Nat) (lc : Nat) (sz : Nat) : Met l yJx4a65c_init_da8c8 wsJx4a65c_init_da8c8 ({ frames := 3, cells := 0, slots := 0, locals := 52 }) (va_Pc [.ref lc] (Pw em dC dI sz [(lc, .inr (5, [.int 0, .null, .int 0]))] [])) (va_Qv (fun _ : Unit => True) (fun _ t => Qw dC dI (va_A [(lc, .inr (5, [.int 0, .null, .int 0]))] sz) [(lc, .inr (5, [.int 0, .ref (em 0), .int 0]))] [] t) (va_A [(lc, .inr (5, [.int 0, .null, .int 0]))] sz)) 0 0 (va_A [(lc, .inr (5, [.int 0, .null, .int 0]))] sz) := by
  refine Met.ofW (cc := cJx4a65c_init_da8c8) (maxL := 1) (ret := none) (by decide) rfl ?_
  intro p e s m args below meth c s₁ B hml hv
  obtain ⟨rfl, hsz, hP, hK, hD0, hamb⟩ := hv
  have hx := B.exec
  have hb := B.bytes
  have hr := B.returns
  have hts := atoms_spec (ws := wsJx4a65c_init_da8c8) B.pre
  have hown : s.vm.findClass RJx4a65c = some m.cls := findClass_of_methodNamed B.named
  have hlocks := B.notSynchronized
  have hin : meth.name = "<init>" := (name_of_methodNamed B.named B.method).1
  subst hsz
  have hD := hD0.self (sz := s.heap.size)
  generalize hAe : va_A [(lc, .inr (5, [.int 0, .null, .int 0]))] s.heap.size = A at hD hamb ⊢
  have hA : ∀ q : Nat, s.heap.size ≤ q → A q := fun q h => by rw [← hAe]; exact Or.inr h
  have hS : va_S A s.heap s.heap [] := va_S.rf
  have hP : va_P (dC, dI) vwCl [(lc, .inr (5, [.int 0, .null, .int 0]))] s.heap := hP
  have hl := lv_entry ([.ref lc]) (n := 1) (Nat.le_of_ble_eq_true rfl)
  rw [lg_entry_eq]
  generalize (lg_sl ([.ref lc]) ++ List.replicate (1 - (lg_sl ([.ref lc])).length) Slot.unset).toArray = ls at hl ⊢
  have hl : lv_has ls 1 [(0, .ref lc)] := hl
  refine lv_aload_n hx hb dJx4a65c_init_da8c8_0 rfl (lv_at hl 0 rfl) ?_
  have hPc := hP.sub (ws' := [(lc, .inr (5, [.int 0, .null, .int 0]))]) [0] rfl
  have hDc := hD.sub (ws' := [(lc, .inr (5, [.int 0, .null, .int 0]))]) [0] (by decide) rfl
  have hKc := hK.sub (tys' := []) [] rfl
  have hFc := va_free (wc := [(lc, .inr (5, [.int 0, .null, .int 0]))]) hD hS hA [0] rfl
  refine va_callv (va_runI (As := []) (rest := []) ⟨hx, hb, hml, hown, hts⟩ (c_Jxc12de_init_da8c8 l em dC dI lc s.heap.size) (cwI 0 hts gJx4a65c_init_da8c8_Jxc12de_init_da8c8 rfl rfl rfl (hts (.initialized RJxc12de) (by decide +kernel)) (hts (.methodLink RJx4a65c 1 yJxc12de_init_da8c8) (by decide +kernel)) (hts (.instanceMethod yJxc12de_init_da8c8) (by decide +kernel)) rfl (by decide +kernel) ⟨Nat.le_of_ble_eq_true rfl, Nat.le_of_ble_eq_true rfl⟩) ⟨Pw.blind _ _ _ _ _ _ _, fun U hU hW => ⟨rfl, Pw.go hPc hKc hDc hamb hS hFc hU hW⟩⟩ rfl rfl hl.1 rfl (lv_room (Nat.le_of_ble_eq_true rfl)) dJx4a65c_init_da8c8_1 ⟨Nat.le_of_ble_eq_true rfl, Nat.le_of_ble_eq_true rfl⟩) hS (fun q _ h => hFc q h) hFc (fun u t H1 locs1 ht hvm hw hB hz1 hk1 hS => ?_)
  obtain ⟨hP1, hK1, hD1⟩ := hB
  rw [ht] at hP1
  have hK1 := va_K.moved hvm.symm hK1
  obtain ⟨hP, hD⟩ := va_join (wr := []) (w1 := [(lc, .inr (5, [.int 0, .null, .int 0]))]) hP hD [0] [] rfl rfl (by decide) (by decide) hk1 hFc hP1 hD1
  have hK := (hK.sub (tys' := []) [] rfl).app hK1
  generalize H1 = H at hP hS ⊢
  have hP : va_P (dC, dI) vwCl [(lc, .inr (5, [.int 0, .null, .int 0]))] H := hP
  have hD : va_D A [(lc, .inr (5, [.int 0, .null, .int 0]))] := hD
  have hK : va_K (dC, dI) vwCl [] s := hK
  refine W.widen (k := 0) (n := 0) (Nat.le_of_ble_eq_true rfl) (Nat.le_of_ble_eq_true rfl) ?_
  refine lv_aload_n hx hb dJx4a65c_init_da8c8_4 rfl (lv_at hl 0 rfl) ?_
  refine va_gets hx hb hamb.z0 hS hown (hts (.fieldLink RJx4a65c 39 "java/util/ArrayList" "DEFAULTCAPACITY_EMPTY_ELEMENTDATA" "[Ljava/lang/Object;") (by decide +kernel)) (fun _ h9 => h9) dJx4a65c_init_da8c8_5 ?_
  refine va_put (D := (dC, dI)) (ci := 5) (v := .ref (em 0)) (ty := (.array (.object "java/lang/Object"))) (C := RJx4a65c) (T := TJx4a65c) (N := 3) hx hb hts (by decide +kernel) tyJx4a65c tyJx4a65c_ok nmJx4a65c hown hK hP hD hS 0 rfl rfl 1 (by decide) (hts (.fieldLink RJx4a65c 9 "java/util/ArrayList" "elementData" "[Ljava/lang/Object;") (by decide +kernel)) (fun _ h9 => h9) rfl (by decide +kernel) rfl rfl (Nat.le_of_ble_eq_true rfl) dJx4a65c_init_da8c8_8 (fun H locs hP hD hS => ?_)
  have hP : va_P (dC, dI) vwCl [(lc, .inr (5, [.int 0, .ref (em 0), .int 0]))] H := hP
  have hD : va_D A [(lc, .inr (5, [.int 0, .ref (em 0), .int 0]))] := hD
  refine W.widen (k := 0) (n := 0) (Nat.le_of_ble_eq_true rfl) (Nat.le_of_ble_eq_true rfl) ?_
  have hP9 := hP.sub (ws' := [(lc, .inr (5, [.int 0, .ref (em 0), .int 0]))]) [0] rfl
  have hD9 := hD.sub (ws' := [(lc, .inr (5, [.int 0, .ref (em 0), .int 0]))]) [0] (by decide) rfl
  have hK9 := hK.sub (tys' := []) [] rfl
  exact W.vret hx hb hr (fun t ht hW => ⟨⟨(), rfl, trivial, ⟨by rw [ht]; exact hP9, va_K.moved hW.alike hK9, hD9⟩⟩, hS.F ht⟩) hS.2.2 dJx4a65c_init_da8c8_11

set_option maxHeartbeats 4000000 in
set_option maxRecDepth 100000 in
theorem c_X7_init (l : Launch) (em : Nat → Nat) (dC : Nat → ClassId) (dI : Nat → Nat → Nat) (h0 : Nat) (sz : Nat) : Met l yX7_init wsX7_init ({ frames := 1, cells := 0, slots := 0, locals := 12 }) (va_Pc [.ref h0] (Pw em dC dI sz [(h0, .inr (13, [.null, .int 0, .int 0, .int 0, .int 0]))] [])) (va_Qv (fun _ : Unit => True) (fun _ t => ∃ (tx : Value), Qw dC dI (va_A [(h0, .inr (13, [.null, .int 0, .int 0, .int 0, .int 0]))] sz) [(h0, .inr (13, [tx, .int 0, .int 0, .int 1, .int 0]))] [] t) (va_A [(h0, .inr (13, [.null, .int 0, .int 0, .int 0, .int 0]))] sz)) 0 0 (va_A [(h0, .inr (13, [.null, .int 0, .int 0, .int 0, .int 0]))] sz) := by
  refine Met.ofW (cc := cX7_init) (maxL := 1) (ret := none) (by decide) rfl ?_
  intro p e s m args below meth c s₁ B hml hv
  obtain ⟨rfl, hsz, hP, hK, hD0, hamb⟩ := hv
  have hx := B.exec
  have hb := B.bytes
  have hr := B.returns
  have hts := atoms_spec (ws := wsX7_init) B.pre
  have hown : s.vm.findClass RX7 = some m.cls := findClass_of_methodNamed B.named
  have hlocks := B.notSynchronized
  have hin : meth.name = "<init>" := (name_of_methodNamed B.named B.method).1
  subst hsz
  have hD := hD0.self (sz := s.heap.size)
  generalize hAe : va_A [(h0, .inr (13, [.null, .int 0, .int 0, .int 0, .int 0]))] s.heap.size = A at hD hamb ⊢
  have hA : ∀ q : Nat, s.heap.size ≤ q → A q := fun q h => by rw [← hAe]; exact Or.inr h
  have hS : va_S A s.heap s.heap [] := va_S.rf
  have hP : va_P (dC, dI) vwCl [(h0, .inr (13, [.null, .int 0, .int 0, .int 0, .int 0]))] s.heap := hP
  have hl := lv_entry ([.ref h0]) (n := 1) (Nat.le_of_ble_eq_true rfl)
  rw [lg_entry_eq]
  generalize (lg_sl ([.ref h0]) ++ List.replicate (1 - (lg_sl ([.ref h0])).length) Slot.unset).toArray = ls at hl ⊢
  have hl : lv_has ls 1 [(0, .ref h0)] := hl
  refine lv_aload_n hx hb dX7_init_0 rfl (lv_at hl 0 rfl) ?_
  refine W.objInit hx hb hown (hts (.methodLink RX7 1 objectInit) (by decide +kernel)) (hts (.instanceMethod objectInit) (by decide +kernel)) (hts (.code objectInit ⟨#[0xb1]⟩ 1 none) (by decide +kernel)) rfl (by rw [hml]; exact hl.1) rfl dX7_init_1 (Nat.le_of_ble_eq_true rfl) (Nat.le_of_ble_eq_true rfl) ?_
  refine W.eq (g2 := F0 m 4 ls []) rfl ?_
  refine lv_aload_n hx hb dX7_init_4 rfl (lv_at hl 0 rfl) ?_
  obtain ⟨q_1, hq_1⟩ := hamb.strs (RX7, 7, "") (by decide +kernel)
  refine va_ldcS hx hb hown hq_1 dX7_init_5 ?_
  refine va_put (D := (dC, dI)) (ci := 13) (v := .ref q_1) (ty := (.object "java/lang/String")) (C := RX7) (T := TX7) (N := 5) hx hb hts (by decide +kernel) tyX7 tyX7_ok nmX7 hown hK hP hD hS 0 rfl rfl 0 (by decide) (hts (.fieldLink RX7 9 "BothfacesModel$Face" "text" "Ljava/lang/String;") (by decide +kernel)) (fun _ h9 => h9) rfl (by decide +kernel) rfl rfl (Nat.le_of_ble_eq_true rfl) dX7_init_7 (fun H locs hP hD hS => ?_)
  have hP : va_P (dC, dI) vwCl [(h0, .inr (13, [.ref q_1, .int 0, .int 0, .int 0, .int 0]))] H := hP
  have hD : va_D A [(h0, .inr (13, [.ref q_1, .int 0, .int 0, .int 0, .int 0]))] := hD
  refine lv_aload_n hx hb dX7_init_10 rfl (lv_at hl 0 rfl) ?_
  refine lv_iconst (v := 1) hx hb dX7_init_11 (by decide) ?_
  refine va_put (D := (dC, dI)) (ci := 13) (v := .int 1) (ty := .int) (C := RX7) (T := TX7) (N := 5) hx hb hts (by decide +kernel) tyX7 tyX7_ok nmX7 hown hK hP hD hS 0 rfl rfl 3 (by decide) (hts (.fieldLink RX7 15 "BothfacesModel$Face" "ink" "I") (by decide +kernel)) (fun _ h9 => h9) rfl (by decide +kernel) rfl rfl (Nat.le_of_ble_eq_true rfl) dX7_init_12 (fun H locs hP hD hS => ?_)
  have hP : va_P (dC, dI) vwCl [(h0, .inr (13, [.ref q_1, .int 0, .int 0, .int 1, .int 0]))] H := hP
  have hD : va_D A [(h0, .inr (13, [.ref q_1, .int 0, .int 0, .int 1, .int 0]))] := hD
  refine W.widen (k := 0) (n := 0) (Nat.le_of_ble_eq_true rfl) (Nat.le_of_ble_eq_true rfl) ?_
  have hP9 := hP.sub (ws' := [(h0, .inr (13, [.ref q_1, .int 0, .int 0, .int 1, .int 0]))]) [0] rfl
  have hD9 := hD.sub (ws' := [(h0, .inr (13, [.ref q_1, .int 0, .int 0, .int 1, .int 0]))]) [0] (by decide) rfl
  have hK9 := hK.sub (tys' := []) [] rfl
  exact W.vret hx hb hr (fun t ht hW => ⟨⟨(), rfl, trivial, ⟨(.ref q_1), by rw [ht]; exact hP9, va_K.moved hW.alike hK9, hD9⟩⟩, hS.F ht⟩) hS.2.2 dX7_init_15

set_option maxHeartbeats 4000000 in
set_option maxRecDepth 100000 in
theorem c_X8_init (l : Launch) (em : Nat → Nat) (dC : Nat → ClassId) (dI : Nat → Nat → Nat) (m0 : Nat) (j : Nat) (hj : j < 26) (sz : Nat) : Met l yX8_init wsX8_init ({ frames := 4, cells := 33, slots := 178, locals := 72 }) (va_Pc [.ref m0] (Pw em dC dI sz [(m0, .inr (14, [.null, .null, .null, .null, .null, .null, .null, .null, .int 0]))] [])) (va_Qv (fun _ : Unit => True) (fun _ t => ∃ (lc : Nat) (lp : Nat) (dl : Nat) (rr : Nat) (ff : Nat) (fb : Nat) (lw : Nat) (lo : Nat) (tf : Value) (tb : Value) (fL : Nat → Option Nat) (cO : ClassId) (cI : ClassId), Qw dC dI (va_A [(m0, .inr (14, [.null, .null, .null, .null, .null, .null, .null, .null, .int 0]))] sz) [(m0, .inr (14, [.ref lc, .ref lp, .ref dl, .ref ff, .ref fb, .ref lw, .ref lo, .ref (em 1), .int 0])), (lc, .inr (5, [.int 0, .ref (em 0), .int 0])), (lp, .inr (5, [.int 0, .ref (em 0), .int 0])), (dl, .inl (cO, 26, .inr (.inr (.inr (.inr fL))))), (rr, .inl (cI, 5, .inl (fun _ => 0))), (ff, .inr (13, [tf, .int 0, .int 0, .int 1, .int 0])), (fb, .inr (13, [tb, .int 0, .int 0, .int 1, .int 0])), (lw, .inr (5, [.int 0, .ref (em 0), .int 0])), (lo, .inr (5, [.int 0, .ref (em 0), .int 0]))] [(cO, (.array .int)), (cI, .int)] t ∧ fL j = some rr) (va_A [(m0, .inr (14, [.null, .null, .null, .null, .null, .null, .null, .null, .int 0]))] sz)) 33 178 (va_A [(m0, .inr (14, [.null, .null, .null, .null, .null, .null, .null, .null, .int 0]))] sz) := by
  refine Met.ofW (cc := cX8_init) (maxL := 1) (ret := none) (by decide) rfl ?_
  intro p e s m args below meth c s₁ B hml hv
  obtain ⟨rfl, hsz, hP, hK, hD0, hamb⟩ := hv
  have hx := B.exec
  have hb := B.bytes
  have hr := B.returns
  have hts := atoms_spec (ws := wsX8_init) B.pre
  have hown : s.vm.findClass RX8 = some m.cls := findClass_of_methodNamed B.named
  have hlocks := B.notSynchronized
  have hin : meth.name = "<init>" := (name_of_methodNamed B.named B.method).1
  subst hsz
  have hD := hD0.self (sz := s.heap.size)
  generalize hAe : va_A [(m0, .inr (14, [.null, .null, .null, .null, .null, .null, .null, .null, .int 0]))] s.heap.size = A at hD hamb ⊢
  have hA : ∀ q : Nat, s.heap.size ≤ q → A q := fun q h => by rw [← hAe]; exact Or.inr h
  have hS : va_S A s.heap s.heap [] := va_S.rf
  have hP : va_P (dC, dI) vwCl [(m0, .inr (14, [.null, .null, .null, .null, .null, .null, .null, .null, .int 0]))] s.heap := hP
  have hl := lv_entry ([.ref m0]) (n := 1) (Nat.le_of_ble_eq_true rfl)
  rw [lg_entry_eq]
  generalize (lg_sl ([.ref m0]) ++ List.replicate (1 - (lg_sl ([.ref m0])).length) Slot.unset).toArray = ls at hl ⊢
  have hl : lv_has ls 1 [(0, .ref m0)] := hl
  refine lv_aload_n hx hb dX8_init_0 rfl (lv_at hl 0 rfl) ?_
  refine W.objInit hx hb hown (hts (.methodLink RX8 1 objectInit) (by decide +kernel)) (hts (.instanceMethod objectInit) (by decide +kernel)) (hts (.code objectInit ⟨#[0xb1]⟩ 1 none) (by decide +kernel)) rfl (by rw [hml]; exact hl.1) rfl dX8_init_1 (Nat.le_of_ble_eq_true rfl) (Nat.le_of_ble_eq_true rfl) ?_
  refine W.eq (g2 := F0 m 4 ls []) rfl ?_
  refine lv_aload_n hx hb dX8_init_4 rfl (lv_at hl 0 rfl) ?_
  refine va_new (ci := 5) (fs := [.int 0, .null, .int 0]) (C := RJx4a65c) (T := TJx4a65c) (N := 3) hx hb hts (by decide +kernel) tyJx4a65c tyJx4a65c_ok hown (hts (.classLink RX8 7 RJx4a65c) (by decide +kernel)) (hts (.instantiable RJx4a65c 3) (by decide +kernel)) (hts (.initialized RJx4a65c) (by decide +kernel)) hK hP hD hS hA rfl (fun j hj => by rcases (show j = 0 ∨ j = 1 ∨ j = 2 by omega) with rfl | rfl | rfl <;> rfl) (Nat.le_of_ble_eq_true rfl) (Nat.le_of_ble_eq_true rfl) dX8_init_5 (fun q_1 H hP hD hS => ?_)
  have hP : va_P (dC, dI) vwCl [(m0, .inr (14, [.null, .null, .null, .null, .null, .null, .null, .null, .int 0])), (q_1, .inr (5, [.int 0, .null, .int 0]))] H := hP
  have hD : va_D A [(m0, .inr (14, [.null, .null, .null, .null, .null, .null, .null, .null, .int 0])), (q_1, .inr (5, [.int 0, .null, .int 0]))] := hD
  refine W.widen (k := 1) (n := 3) (Nat.le_of_ble_eq_true rfl) (Nat.le_of_ble_eq_true rfl) ?_
  refine lv_dup hx hb dX8_init_8 rfl ?_
  have hPc := hP.sub (ws' := [(q_1, .inr (5, [.int 0, .null, .int 0]))]) [1] rfl
  have hDc := hD.sub (ws' := [(q_1, .inr (5, [.int 0, .null, .int 0]))]) [1] (by decide) rfl
  have hKc := hK.sub (tys' := []) [] rfl
  have hFc := va_free (wc := [(q_1, .inr (5, [.int 0, .null, .int 0]))]) hD hS hA [1] rfl
  refine va_callv (va_runI (As := []) (rest := [.ref q_1, .ref m0]) ⟨hx, hb, hml, hown, hts⟩ (c_Jx4a65c_init_da8c8 l em dC dI q_1 H.size) (cwI 0 hts gX8_init_Jx4a65c_init_da8c8 rfl rfl rfl (hts (.initialized RJx4a65c) (by decide +kernel)) (hts (.methodLink RX8 9 yJx4a65c_init_da8c8) (by decide +kernel)) (hts (.instanceMethod yJx4a65c_init_da8c8) (by decide +kernel)) rfl (by decide +kernel) ⟨Nat.le_of_ble_eq_true rfl, Nat.le_of_ble_eq_true rfl⟩) ⟨Pw.blind _ _ _ _ _ _ _, fun U hU hW => ⟨rfl, Pw.go hPc hKc hDc hamb hS hFc hU hW⟩⟩ rfl rfl hl.1 rfl (lv_room (Nat.le_of_ble_eq_true rfl)) dX8_init_9 ⟨Nat.le_of_ble_eq_true rfl, Nat.le_of_ble_eq_true rfl⟩) hS (fun q _ h => hFc q h) hFc (fun u t H1 locs1 ht hvm hw hB hz1 hk1 hS => ?_)
  obtain ⟨hP1, hK1, hD1⟩ := hB
  rw [ht] at hP1
  have hK1 := va_K.moved hvm.symm hK1
  obtain ⟨hP, hD⟩ := va_join (wr := [(m0, .inr (14, [.null, .null, .null, .null, .null, .null, .null, .null, .int 0]))]) (w1 := [(q_1, .inr (5, [.int 0, .ref (em 0), .int 0]))]) hP hD [1] [0] rfl rfl (by decide) (by decide) hk1 hFc hP1 hD1
  have hK := (hK.sub (tys' := []) [] rfl).app hK1
  generalize H1 = H at hP hS ⊢
  have hP : va_P (dC, dI) vwCl [(m0, .inr (14, [.null, .null, .null, .null, .null, .null, .null, .null, .int 0])), (q_1, .inr (5, [.int 0, .ref (em 0), .int 0]))] H := hP
  have hD : va_D A [(m0, .inr (14, [.null, .null, .null, .null, .null, .null, .null, .null, .int 0])), (q_1, .inr (5, [.int 0, .ref (em 0), .int 0]))] := hD
  have hK : va_K (dC, dI) vwCl [] s := hK
  refine W.widen (k := 1) (n := 3) (Nat.le_of_ble_eq_true rfl) (Nat.le_of_ble_eq_true rfl) ?_
  refine va_putF (D := (dC, dI)) (ci := 14) (v := .ref q_1) (ty := (.object "java/util/ArrayList")) (C := RX8) (T := TX8) (N := 9) hx hb hts (by decide +kernel) tyX8 tyX8_ok nmX8 hown hK hP hD hS 0 rfl rfl 0 (by decide) (hts (.fieldLink RX8 10 "BothfacesModel" "cards" "Ljava/util/ArrayList;") (by decide +kernel)) (fun _ h9 => h9) rfl hin rfl (by decide +kernel) rfl rfl (Nat.le_of_ble_eq_true rfl) dX8_init_12 (fun H locs hP hD hS => ?_)
  have hP : va_P (dC, dI) vwCl [(m0, .inr (14, [.ref q_1, .null, .null, .null, .null, .null, .null, .null, .int 0])), (q_1, .inr (5, [.int 0, .ref (em 0), .int 0]))] H := hP
  have hD : va_D A [(m0, .inr (14, [.ref q_1, .null, .null, .null, .null, .null, .null, .null, .int 0])), (q_1, .inr (5, [.int 0, .ref (em 0), .int 0]))] := hD
  refine lv_aload_n hx hb dX8_init_15 rfl (lv_at hl 0 rfl) ?_
  refine va_new (ci := 5) (fs := [.int 0, .null, .int 0]) (C := RJx4a65c) (T := TJx4a65c) (N := 3) hx hb hts (by decide +kernel) tyJx4a65c tyJx4a65c_ok hown (hts (.classLink RX8 7 RJx4a65c) (by decide +kernel)) (hts (.instantiable RJx4a65c 3) (by decide +kernel)) (hts (.initialized RJx4a65c) (by decide +kernel)) hK hP hD hS hA rfl (fun j hj => by rcases (show j = 0 ∨ j = 1 ∨ j = 2 by omega) with rfl | rfl | rfl <;> rfl) (Nat.le_of_ble_eq_true rfl) (Nat.le_of_ble_eq_true rfl) dX8_init_16 (fun q_3 H hP hD hS => ?_)
  have hP : va_P (dC, dI) vwCl [(m0, .inr (14, [.ref q_1, .null, .null, .null, .null, .null, .null, .null, .int 0])), (q_1, .inr (5, [.int 0, .ref (em 0), .int 0])), (q_3, .inr (5, [.int 0, .null, .int 0]))] H := hP
  have hD : va_D A [(m0, .inr (14, [.ref q_1, .null, .null, .null, .null, .null, .null, .null, .int 0])), (q_1, .inr (5, [.int 0, .ref (em 0), .int 0])), (q_3, .inr (5, [.int 0, .null, .int 0]))] := hD
  refine W.widen (k := 2) (n := 6) (Nat.le_of_ble_eq_true rfl) (Nat.le_of_ble_eq_true rfl) ?_
  refine lv_dup hx hb dX8_init_19 rfl ?_
  have hPc := hP.sub (ws' := [(q_3, .inr (5, [.int 0, .null, .int 0]))]) [2] rfl
  have hDc := hD.sub (ws' := [(q_3, .inr (5, [.int 0, .null, .int 0]))]) [2] (by decide) rfl
  have hKc := hK.sub (tys' := []) [] rfl
  have hFc := va_free (wc := [(q_3, .inr (5, [.int 0, .null, .int 0]))]) hD hS hA [2] rfl
  refine va_callv (va_runI (As := []) (rest := [.ref q_3, .ref m0]) ⟨hx, hb, hml, hown, hts⟩ (c_Jx4a65c_init_da8c8 l em dC dI q_3 H.size) (cwI 0 hts gX8_init_Jx4a65c_init_da8c8 rfl rfl rfl (hts (.initialized RJx4a65c) (by decide +kernel)) (hts (.methodLink RX8 9 yJx4a65c_init_da8c8) (by decide +kernel)) (hts (.instanceMethod yJx4a65c_init_da8c8) (by decide +kernel)) rfl (by decide +kernel) ⟨Nat.le_of_ble_eq_true rfl, Nat.le_of_ble_eq_true rfl⟩) ⟨Pw.blind _ _ _ _ _ _ _, fun U hU hW => ⟨rfl, Pw.go hPc hKc hDc hamb hS hFc hU hW⟩⟩ rfl rfl hl.1 rfl (lv_room (Nat.le_of_ble_eq_true rfl)) dX8_init_20 ⟨Nat.le_of_ble_eq_true rfl, Nat.le_of_ble_eq_true rfl⟩) hS (fun q _ h => hFc q h) hFc (fun u t H1 locs1 ht hvm hw hB hz1 hk1 hS => ?_)
  obtain ⟨hP1, hK1, hD1⟩ := hB
  rw [ht] at hP1
  have hK1 := va_K.moved hvm.symm hK1
  obtain ⟨hP, hD⟩ := va_join (wr := [(m0, .inr (14, [.ref q_1, .null, .null, .null, .null, .null, .null, .null, .int 0])), (q_1, .inr (5, [.int 0, .ref (em 0), .int 0]))]) (w1 := [(q_3, .inr (5, [.int 0, .ref (em 0), .int 0]))]) hP hD [2] [0, 1] rfl rfl (by decide) (by decide) hk1 hFc hP1 hD1
  have hK := (hK.sub (tys' := []) [] rfl).app hK1
  generalize H1 = H at hP hS ⊢
  have hP : va_P (dC, dI) vwCl [(m0, .inr (14, [.ref q_1, .null, .null, .null, .null, .null, .null, .null, .int 0])), (q_1, .inr (5, [.int 0, .ref (em 0), .int 0])), (q_3, .inr (5, [.int 0, .ref (em 0), .int 0]))] H := hP
  have hD : va_D A [(m0, .inr (14, [.ref q_1, .null, .null, .null, .null, .null, .null, .null, .int 0])), (q_1, .inr (5, [.int 0, .ref (em 0), .int 0])), (q_3, .inr (5, [.int 0, .ref (em 0), .int 0]))] := hD
  have hK : va_K (dC, dI) vwCl [] s := hK
  refine W.widen (k := 2) (n := 6) (Nat.le_of_ble_eq_true rfl) (Nat.le_of_ble_eq_true rfl) ?_
  refine va_putF (D := (dC, dI)) (ci := 14) (v := .ref q_3) (ty := (.object "java/util/ArrayList")) (C := RX8) (T := TX8) (N := 9) hx hb hts (by decide +kernel) tyX8 tyX8_ok nmX8 hown hK hP hD hS 0 rfl rfl 1 (by decide) (hts (.fieldLink RX8 16 "BothfacesModel" "picks" "Ljava/util/ArrayList;") (by decide +kernel)) (fun _ h9 => h9) rfl hin rfl (by decide +kernel) rfl rfl (Nat.le_of_ble_eq_true rfl) dX8_init_23 (fun H locs hP hD hS => ?_)
  have hP : va_P (dC, dI) vwCl [(m0, .inr (14, [.ref q_1, .ref q_3, .null, .null, .null, .null, .null, .null, .int 0])), (q_1, .inr (5, [.int 0, .ref (em 0), .int 0])), (q_3, .inr (5, [.int 0, .ref (em 0), .int 0]))] H := hP
  have hD : va_D A [(m0, .inr (14, [.ref q_1, .ref q_3, .null, .null, .null, .null, .null, .null, .int 0])), (q_1, .inr (5, [.int 0, .ref (em 0), .int 0])), (q_3, .inr (5, [.int 0, .ref (em 0), .int 0]))] := hD
  refine lv_aload_n hx hb dX8_init_26 rfl (lv_at hl 0 rfl) ?_
  refine lv_bipush (v := 26) hx hb dX8_init_27 (by decide) ?_
  refine lv_iconst (v := 5) hx hb dX8_init_29 (by decide) ?_
  obtain ⟨cy_8, hcy1, hcy2⟩ := ow_cls (hts (.arrayClass .int) (by decide +kernel)) (fun C q => by cases q)
  have hK := ow_Kadd hK hcy2
  refine ow_mna j (ty := .int) (N' := 26) (K' := 5) (z := (5, .inl (fun _ => 0))) hx hb hown (hts (.classLink RX8 19 "[[I") (by decide +kernel)) hamb.aoa (hts (.arrayClass .int) (by decide +kernel)) hcy1 hK hP hD hS hA hj (by decide) (by decide) rfl rfl (Nat.le_of_ble_eq_true rfl) (Nat.le_of_ble_eq_true rfl) (Nat.le_of_ble_eq_true rfl) rfl rfl (Nat.le_of_ble_eq_true rfl) (Nat.le_of_ble_eq_true rfl) (fun _ => rfl) dX8_init_30 (fun q_5 rr_6 cA_7 f_9 H f_10 hK hP hD hS => ?_)
  have hP : va_P (dC, dI) vwCl [(m0, .inr (14, [.ref q_1, .ref q_3, .null, .null, .null, .null, .null, .null, .int 0])), (q_1, .inr (5, [.int 0, .ref (em 0), .int 0])), (q_3, .inr (5, [.int 0, .ref (em 0), .int 0])), (q_5, .inl (cA_7, 26, .inr (.inr (.inr (.inr f_9))))), (rr_6, .inl (cy_8, 5, .inl (fun _ => 0)))] H := hP
  have hD : va_D A [(m0, .inr (14, [.ref q_1, .ref q_3, .null, .null, .null, .null, .null, .null, .int 0])), (q_1, .inr (5, [.int 0, .ref (em 0), .int 0])), (q_3, .inr (5, [.int 0, .ref (em 0), .int 0])), (q_5, .inl (cA_7, 26, .inr (.inr (.inr (.inr f_9))))), (rr_6, .inl (cy_8, 5, .inl (fun _ => 0)))] := hD
  have hK : va_K (dC, dI) vwCl [(cy_8, .int), (cA_7, (.array .int))] s := hK
  refine W.widen (k := 29) (n := 162) (Nat.le_of_ble_eq_true rfl) (Nat.le_of_ble_eq_true rfl) ?_
  refine va_putF (D := (dC, dI)) (ci := 14) (v := .ref q_5) (ty := (.array (.array .int))) (C := RX8) (T := TX8) (N := 9) hx hb hts (by decide +kernel) tyX8 tyX8_ok nmX8 hown hK hP hD hS 0 rfl rfl 2 (by decide) (hts (.fieldLink RX8 21 "BothfacesModel" "letters" "[[I") (by decide +kernel)) (fun _ h9 => h9) rfl hin rfl (by decide +kernel) rfl rfl (Nat.le_of_ble_eq_true rfl) dX8_init_34 (fun H locs hP hD hS => ?_)
  have hP : va_P (dC, dI) vwCl [(m0, .inr (14, [.ref q_1, .ref q_3, .ref q_5, .null, .null, .null, .null, .null, .int 0])), (q_1, .inr (5, [.int 0, .ref (em 0), .int 0])), (q_3, .inr (5, [.int 0, .ref (em 0), .int 0])), (q_5, .inl (cA_7, 26, .inr (.inr (.inr (.inr f_9))))), (rr_6, .inl (cy_8, 5, .inl (fun _ => 0)))] H := hP
  have hD : va_D A [(m0, .inr (14, [.ref q_1, .ref q_3, .ref q_5, .null, .null, .null, .null, .null, .int 0])), (q_1, .inr (5, [.int 0, .ref (em 0), .int 0])), (q_3, .inr (5, [.int 0, .ref (em 0), .int 0])), (q_5, .inl (cA_7, 26, .inr (.inr (.inr (.inr f_9))))), (rr_6, .inl (cy_8, 5, .inl (fun _ => 0)))] := hD
  refine lv_aload_n hx hb dX8_init_37 rfl (lv_at hl 0 rfl) ?_
  refine va_new (ci := 13) (fs := [.null, .int 0, .int 0, .int 0, .int 0]) (C := RX7) (T := TX7) (N := 5) hx hb hts (by decide +kernel) tyX7 tyX7_ok hown (hts (.classLink RX8 24 RX7) (by decide +kernel)) (hts (.instantiable RX7 5) (by decide +kernel)) (hts (.initialized RX7) (by decide +kernel)) hK hP hD hS hA rfl (fun j hj => by rcases (show j = 0 ∨ j = 1 ∨ j = 2 ∨ j = 3 ∨ j = 4 by omega) with rfl | rfl | rfl | rfl | rfl <;> rfl) (Nat.le_of_ble_eq_true rfl) (Nat.le_of_ble_eq_true rfl) dX8_init_38 (fun q_11 H hP hD hS => ?_)
  have hP : va_P (dC, dI) vwCl [(m0, .inr (14, [.ref q_1, .ref q_3, .ref q_5, .null, .null, .null, .null, .null, .int 0])), (q_1, .inr (5, [.int 0, .ref (em 0), .int 0])), (q_3, .inr (5, [.int 0, .ref (em 0), .int 0])), (q_5, .inl (cA_7, 26, .inr (.inr (.inr (.inr f_9))))), (rr_6, .inl (cy_8, 5, .inl (fun _ => 0))), (q_11, .inr (13, [.null, .int 0, .int 0, .int 0, .int 0]))] H := hP
  have hD : va_D A [(m0, .inr (14, [.ref q_1, .ref q_3, .ref q_5, .null, .null, .null, .null, .null, .int 0])), (q_1, .inr (5, [.int 0, .ref (em 0), .int 0])), (q_3, .inr (5, [.int 0, .ref (em 0), .int 0])), (q_5, .inl (cA_7, 26, .inr (.inr (.inr (.inr f_9))))), (rr_6, .inl (cy_8, 5, .inl (fun _ => 0))), (q_11, .inr (13, [.null, .int 0, .int 0, .int 0, .int 0]))] := hD
  refine W.widen (k := 30) (n := 167) (Nat.le_of_ble_eq_true rfl) (Nat.le_of_ble_eq_true rfl) ?_
  refine lv_dup hx hb dX8_init_41 rfl ?_
  have hPc := hP.sub (ws' := [(q_11, .inr (13, [.null, .int 0, .int 0, .int 0, .int 0]))]) [5] rfl
  have hDc := hD.sub (ws' := [(q_11, .inr (13, [.null, .int 0, .int 0, .int 0, .int 0]))]) [5] (by decide) rfl
  have hKc := hK.sub (tys' := []) [] rfl
  have hFc := va_free (wc := [(q_11, .inr (13, [.null, .int 0, .int 0, .int 0, .int 0]))]) hD hS hA [5] rfl
  refine va_callv (va_runIN (As := []) (rest := [.ref q_11, .ref m0]) ⟨hx, hb, hml, hown, hts⟩ (c_X7_init l em dC dI q_11 H.size) ⟨va_cnB 0 hts gX8_init_X7_init_n26 rfl rfl rfl (hamb.words (.methodLinkNest RX8 26 yX7_init RX8) (by decide +kernel)) (hts (.initialized RX7) (by decide +kernel)) (by decide +kernel) ⟨Nat.le_of_ble_eq_true rfl, Nat.le_of_ble_eq_true rfl⟩, rfl, (hts (.instanceMethod yX7_init) (by decide +kernel))⟩ ⟨Pw.blind _ _ _ _ _ _ _, fun U hU hW => ⟨rfl, Pw.go hPc hKc hDc hamb hS hFc hU hW⟩⟩ rfl rfl hl.1 rfl (lv_room (Nat.le_of_ble_eq_true rfl)) dX8_init_42 ⟨Nat.le_of_ble_eq_true rfl, Nat.le_of_ble_eq_true rfl⟩) hS (fun q _ h => hFc q h) hFc (fun u t H1 locs1 ht hvm hw hB hz1 hk1 hS => ?_)
  obtain ⟨txx_13, hP1, hK1, hD1⟩ := hB
  rw [ht] at hP1
  have hK1 := va_K.moved hvm.symm hK1
  obtain ⟨hP, hD⟩ := va_join (wr := [(m0, .inr (14, [.ref q_1, .ref q_3, .ref q_5, .null, .null, .null, .null, .null, .int 0])), (q_1, .inr (5, [.int 0, .ref (em 0), .int 0])), (q_3, .inr (5, [.int 0, .ref (em 0), .int 0])), (q_5, .inl (cA_7, 26, .inr (.inr (.inr (.inr f_9))))), (rr_6, .inl (cy_8, 5, .inl (fun _ => 0)))]) (w1 := [(q_11, .inr (13, [txx_13, .int 0, .int 0, .int 1, .int 0]))]) hP hD [5] [0, 1, 2, 3, 4] rfl rfl (by decide) (by decide) hk1 hFc hP1 hD1
  have hK := (hK.sub (tys' := [(cy_8, .int), (cA_7, (.array .int))]) [0, 1] rfl).app hK1
  generalize H1 = H at hP hS ⊢
  have hP : va_P (dC, dI) vwCl [(m0, .inr (14, [.ref q_1, .ref q_3, .ref q_5, .null, .null, .null, .null, .null, .int 0])), (q_1, .inr (5, [.int 0, .ref (em 0), .int 0])), (q_3, .inr (5, [.int 0, .ref (em 0), .int 0])), (q_5, .inl (cA_7, 26, .inr (.inr (.inr (.inr f_9))))), (rr_6, .inl (cy_8, 5, .inl (fun _ => 0))), (q_11, .inr (13, [txx_13, .int 0, .int 0, .int 1, .int 0]))] H := hP
  have hD : va_D A [(m0, .inr (14, [.ref q_1, .ref q_3, .ref q_5, .null, .null, .null, .null, .null, .int 0])), (q_1, .inr (5, [.int 0, .ref (em 0), .int 0])), (q_3, .inr (5, [.int 0, .ref (em 0), .int 0])), (q_5, .inl (cA_7, 26, .inr (.inr (.inr (.inr f_9))))), (rr_6, .inl (cy_8, 5, .inl (fun _ => 0))), (q_11, .inr (13, [txx_13, .int 0, .int 0, .int 1, .int 0]))] := hD
  have hK : va_K (dC, dI) vwCl [(cy_8, .int), (cA_7, (.array .int))] s := hK
  refine W.widen (k := 30) (n := 167) (Nat.le_of_ble_eq_true rfl) (Nat.le_of_ble_eq_true rfl) ?_
  refine va_putF (D := (dC, dI)) (ci := 14) (v := .ref q_11) (ty := (.object "BothfacesModel$Face")) (C := RX8) (T := TX8) (N := 9) hx hb hts (by decide +kernel) tyX8 tyX8_ok nmX8 hown hK hP hD hS 0 rfl rfl 3 (by decide) (hts (.fieldLink RX8 27 "BothfacesModel" "front" "LBothfacesModel$Face;") (by decide +kernel)) (fun _ h9 => h9) rfl hin rfl (by decide +kernel) rfl rfl (Nat.le_of_ble_eq_true rfl) dX8_init_45 (fun H locs hP hD hS => ?_)
  have hP : va_P (dC, dI) vwCl [(m0, .inr (14, [.ref q_1, .ref q_3, .ref q_5, .ref q_11, .null, .null, .null, .null, .int 0])), (q_1, .inr (5, [.int 0, .ref (em 0), .int 0])), (q_3, .inr (5, [.int 0, .ref (em 0), .int 0])), (q_5, .inl (cA_7, 26, .inr (.inr (.inr (.inr f_9))))), (rr_6, .inl (cy_8, 5, .inl (fun _ => 0))), (q_11, .inr (13, [txx_13, .int 0, .int 0, .int 1, .int 0]))] H := hP
  have hD : va_D A [(m0, .inr (14, [.ref q_1, .ref q_3, .ref q_5, .ref q_11, .null, .null, .null, .null, .int 0])), (q_1, .inr (5, [.int 0, .ref (em 0), .int 0])), (q_3, .inr (5, [.int 0, .ref (em 0), .int 0])), (q_5, .inl (cA_7, 26, .inr (.inr (.inr (.inr f_9))))), (rr_6, .inl (cy_8, 5, .inl (fun _ => 0))), (q_11, .inr (13, [txx_13, .int 0, .int 0, .int 1, .int 0]))] := hD
  refine lv_aload_n hx hb dX8_init_48 rfl (lv_at hl 0 rfl) ?_
  refine va_new (ci := 13) (fs := [.null, .int 0, .int 0, .int 0, .int 0]) (C := RX7) (T := TX7) (N := 5) hx hb hts (by decide +kernel) tyX7 tyX7_ok hown (hts (.classLink RX8 24 RX7) (by decide +kernel)) (hts (.instantiable RX7 5) (by decide +kernel)) (hts (.initialized RX7) (by decide +kernel)) hK hP hD hS hA rfl (fun j hj => by rcases (show j = 0 ∨ j = 1 ∨ j = 2 ∨ j = 3 ∨ j = 4 by omega) with rfl | rfl | rfl | rfl | rfl <;> rfl) (Nat.le_of_ble_eq_true rfl) (Nat.le_of_ble_eq_true rfl) dX8_init_49 (fun q_14 H hP hD hS => ?_)
  have hP : va_P (dC, dI) vwCl [(m0, .inr (14, [.ref q_1, .ref q_3, .ref q_5, .ref q_11, .null, .null, .null, .null, .int 0])), (q_1, .inr (5, [.int 0, .ref (em 0), .int 0])), (q_3, .inr (5, [.int 0, .ref (em 0), .int 0])), (q_5, .inl (cA_7, 26, .inr (.inr (.inr (.inr f_9))))), (rr_6, .inl (cy_8, 5, .inl (fun _ => 0))), (q_11, .inr (13, [txx_13, .int 0, .int 0, .int 1, .int 0])), (q_14, .inr (13, [.null, .int 0, .int 0, .int 0, .int 0]))] H := hP
  have hD : va_D A [(m0, .inr (14, [.ref q_1, .ref q_3, .ref q_5, .ref q_11, .null, .null, .null, .null, .int 0])), (q_1, .inr (5, [.int 0, .ref (em 0), .int 0])), (q_3, .inr (5, [.int 0, .ref (em 0), .int 0])), (q_5, .inl (cA_7, 26, .inr (.inr (.inr (.inr f_9))))), (rr_6, .inl (cy_8, 5, .inl (fun _ => 0))), (q_11, .inr (13, [txx_13, .int 0, .int 0, .int 1, .int 0])), (q_14, .inr (13, [.null, .int 0, .int 0, .int 0, .int 0]))] := hD
  refine W.widen (k := 31) (n := 172) (Nat.le_of_ble_eq_true rfl) (Nat.le_of_ble_eq_true rfl) ?_
  refine lv_dup hx hb dX8_init_52 rfl ?_
  have hPc := hP.sub (ws' := [(q_14, .inr (13, [.null, .int 0, .int 0, .int 0, .int 0]))]) [6] rfl
  have hDc := hD.sub (ws' := [(q_14, .inr (13, [.null, .int 0, .int 0, .int 0, .int 0]))]) [6] (by decide) rfl
  have hKc := hK.sub (tys' := []) [] rfl
  have hFc := va_free (wc := [(q_14, .inr (13, [.null, .int 0, .int 0, .int 0, .int 0]))]) hD hS hA [6] rfl
  refine va_callv (va_runIN (As := []) (rest := [.ref q_14, .ref m0]) ⟨hx, hb, hml, hown, hts⟩ (c_X7_init l em dC dI q_14 H.size) ⟨va_cnB 0 hts gX8_init_X7_init_n26 rfl rfl rfl (hamb.words (.methodLinkNest RX8 26 yX7_init RX8) (by decide +kernel)) (hts (.initialized RX7) (by decide +kernel)) (by decide +kernel) ⟨Nat.le_of_ble_eq_true rfl, Nat.le_of_ble_eq_true rfl⟩, rfl, (hts (.instanceMethod yX7_init) (by decide +kernel))⟩ ⟨Pw.blind _ _ _ _ _ _ _, fun U hU hW => ⟨rfl, Pw.go hPc hKc hDc hamb hS hFc hU hW⟩⟩ rfl rfl hl.1 rfl (lv_room (Nat.le_of_ble_eq_true rfl)) dX8_init_53 ⟨Nat.le_of_ble_eq_true rfl, Nat.le_of_ble_eq_true rfl⟩) hS (fun q _ h => hFc q h) hFc (fun u t H1 locs1 ht hvm hw hB hz1 hk1 hS => ?_)
  obtain ⟨txx_16, hP1, hK1, hD1⟩ := hB
  rw [ht] at hP1
  have hK1 := va_K.moved hvm.symm hK1
  obtain ⟨hP, hD⟩ := va_join (wr := [(m0, .inr (14, [.ref q_1, .ref q_3, .ref q_5, .ref q_11, .null, .null, .null, .null, .int 0])), (q_1, .inr (5, [.int 0, .ref (em 0), .int 0])), (q_3, .inr (5, [.int 0, .ref (em 0), .int 0])), (q_5, .inl (cA_7, 26, .inr (.inr (.inr (.inr f_9))))), (rr_6, .inl (cy_8, 5, .inl (fun _ => 0))), (q_11, .inr (13, [txx_13, .int 0, .int 0, .int 1, .int 0]))]) (w1 := [(q_14, .inr (13, [txx_16, .int 0, .int 0, .int 1, .int 0]))]) hP hD [6] [0, 1, 2, 3, 4, 5] rfl rfl (by decide) (by decide) hk1 hFc hP1 hD1
  have hK := (hK.sub (tys' := [(cy_8, .int), (cA_7, (.array .int))]) [0, 1] rfl).app hK1
  generalize H1 = H at hP hS ⊢
  have hP : va_P (dC, dI) vwCl [(m0, .inr (14, [.ref q_1, .ref q_3, .ref q_5, .ref q_11, .null, .null, .null, .null, .int 0])), (q_1, .inr (5, [.int 0, .ref (em 0), .int 0])), (q_3, .inr (5, [.int 0, .ref (em 0), .int 0])), (q_5, .inl (cA_7, 26, .inr (.inr (.inr (.inr f_9))))), (rr_6, .inl (cy_8, 5, .inl (fun _ => 0))), (q_11, .inr (13, [txx_13, .int 0, .int 0, .int 1, .int 0])), (q_14, .inr (13, [txx_16, .int 0, .int 0, .int 1, .int 0]))] H := hP
  have hD : va_D A [(m0, .inr (14, [.ref q_1, .ref q_3, .ref q_5, .ref q_11, .null, .null, .null, .null, .int 0])), (q_1, .inr (5, [.int 0, .ref (em 0), .int 0])), (q_3, .inr (5, [.int 0, .ref (em 0), .int 0])), (q_5, .inl (cA_7, 26, .inr (.inr (.inr (.inr f_9))))), (rr_6, .inl (cy_8, 5, .inl (fun _ => 0))), (q_11, .inr (13, [txx_13, .int 0, .int 0, .int 1, .int 0])), (q_14, .inr (13, [txx_16, .int 0, .int 0, .int 1, .int 0]))] := hD
  have hK : va_K (dC, dI) vwCl [(cy_8, .int), (cA_7, (.array .int))] s := hK
  refine W.widen (k := 31) (n := 172) (Nat.le_of_ble_eq_true rfl) (Nat.le_of_ble_eq_true rfl) ?_
  refine va_putF (D := (dC, dI)) (ci := 14) (v := .ref q_14) (ty := (.object "BothfacesModel$Face")) (C := RX8) (T := TX8) (N := 9) hx hb hts (by decide +kernel) tyX8 tyX8_ok nmX8 hown hK hP hD hS 0 rfl rfl 4 (by decide) (hts (.fieldLink RX8 31 "BothfacesModel" "back" "LBothfacesModel$Face;") (by decide +kernel)) (fun _ h9 => h9) rfl hin rfl (by decide +kernel) rfl rfl (Nat.le_of_ble_eq_true rfl) dX8_init_56 (fun H locs hP hD hS => ?_)
  have hP : va_P (dC, dI) vwCl [(m0, .inr (14, [.ref q_1, .ref q_3, .ref q_5, .ref q_11, .ref q_14, .null, .null, .null, .int 0])), (q_1, .inr (5, [.int 0, .ref (em 0), .int 0])), (q_3, .inr (5, [.int 0, .ref (em 0), .int 0])), (q_5, .inl (cA_7, 26, .inr (.inr (.inr (.inr f_9))))), (rr_6, .inl (cy_8, 5, .inl (fun _ => 0))), (q_11, .inr (13, [txx_13, .int 0, .int 0, .int 1, .int 0])), (q_14, .inr (13, [txx_16, .int 0, .int 0, .int 1, .int 0]))] H := hP
  have hD : va_D A [(m0, .inr (14, [.ref q_1, .ref q_3, .ref q_5, .ref q_11, .ref q_14, .null, .null, .null, .int 0])), (q_1, .inr (5, [.int 0, .ref (em 0), .int 0])), (q_3, .inr (5, [.int 0, .ref (em 0), .int 0])), (q_5, .inl (cA_7, 26, .inr (.inr (.inr (.inr f_9))))), (rr_6, .inl (cy_8, 5, .inl (fun _ => 0))), (q_11, .inr (13, [txx_13, .int 0, .int 0, .int 1, .int 0])), (q_14, .inr (13, [txx_16, .int 0, .int 0, .int 1, .int 0]))] := hD
  refine lv_aload_n hx hb dX8_init_59 rfl (lv_at hl 0 rfl) ?_
  refine va_new (ci := 5) (fs := [.int 0, .null, .int 0]) (C := RJx4a65c) (T := TJx4a65c) (N := 3) hx hb hts (by decide +kernel) tyJx4a65c tyJx4a65c_ok hown (hts (.classLink RX8 7 RJx4a65c) (by decide +kernel)) (hts (.instantiable RJx4a65c 3) (by decide +kernel)) (hts (.initialized RJx4a65c) (by decide +kernel)) hK hP hD hS hA rfl (fun j hj => by rcases (show j = 0 ∨ j = 1 ∨ j = 2 by omega) with rfl | rfl | rfl <;> rfl) (Nat.le_of_ble_eq_true rfl) (Nat.le_of_ble_eq_true rfl) dX8_init_60 (fun q_17 H hP hD hS => ?_)
  have hP : va_P (dC, dI) vwCl [(m0, .inr (14, [.ref q_1, .ref q_3, .ref q_5, .ref q_11, .ref q_14, .null, .null, .null, .int 0])), (q_1, .inr (5, [.int 0, .ref (em 0), .int 0])), (q_3, .inr (5, [.int 0, .ref (em 0), .int 0])), (q_5, .inl (cA_7, 26, .inr (.inr (.inr (.inr f_9))))), (rr_6, .inl (cy_8, 5, .inl (fun _ => 0))), (q_11, .inr (13, [txx_13, .int 0, .int 0, .int 1, .int 0])), (q_14, .inr (13, [txx_16, .int 0, .int 0, .int 1, .int 0])), (q_17, .inr (5, [.int 0, .null, .int 0]))] H := hP
  have hD : va_D A [(m0, .inr (14, [.ref q_1, .ref q_3, .ref q_5, .ref q_11, .ref q_14, .null, .null, .null, .int 0])), (q_1, .inr (5, [.int 0, .ref (em 0), .int 0])), (q_3, .inr (5, [.int 0, .ref (em 0), .int 0])), (q_5, .inl (cA_7, 26, .inr (.inr (.inr (.inr f_9))))), (rr_6, .inl (cy_8, 5, .inl (fun _ => 0))), (q_11, .inr (13, [txx_13, .int 0, .int 0, .int 1, .int 0])), (q_14, .inr (13, [txx_16, .int 0, .int 0, .int 1, .int 0])), (q_17, .inr (5, [.int 0, .null, .int 0]))] := hD
  refine W.widen (k := 32) (n := 175) (Nat.le_of_ble_eq_true rfl) (Nat.le_of_ble_eq_true rfl) ?_
  refine lv_dup hx hb dX8_init_63 rfl ?_
  have hPc := hP.sub (ws' := [(q_17, .inr (5, [.int 0, .null, .int 0]))]) [7] rfl
  have hDc := hD.sub (ws' := [(q_17, .inr (5, [.int 0, .null, .int 0]))]) [7] (by decide) rfl
  have hKc := hK.sub (tys' := []) [] rfl
  have hFc := va_free (wc := [(q_17, .inr (5, [.int 0, .null, .int 0]))]) hD hS hA [7] rfl
  refine va_callv (va_runI (As := []) (rest := [.ref q_17, .ref m0]) ⟨hx, hb, hml, hown, hts⟩ (c_Jx4a65c_init_da8c8 l em dC dI q_17 H.size) (cwI 0 hts gX8_init_Jx4a65c_init_da8c8 rfl rfl rfl (hts (.initialized RJx4a65c) (by decide +kernel)) (hts (.methodLink RX8 9 yJx4a65c_init_da8c8) (by decide +kernel)) (hts (.instanceMethod yJx4a65c_init_da8c8) (by decide +kernel)) rfl (by decide +kernel) ⟨Nat.le_of_ble_eq_true rfl, Nat.le_of_ble_eq_true rfl⟩) ⟨Pw.blind _ _ _ _ _ _ _, fun U hU hW => ⟨rfl, Pw.go hPc hKc hDc hamb hS hFc hU hW⟩⟩ rfl rfl hl.1 rfl (lv_room (Nat.le_of_ble_eq_true rfl)) dX8_init_64 ⟨Nat.le_of_ble_eq_true rfl, Nat.le_of_ble_eq_true rfl⟩) hS (fun q _ h => hFc q h) hFc (fun u t H1 locs1 ht hvm hw hB hz1 hk1 hS => ?_)
  obtain ⟨hP1, hK1, hD1⟩ := hB
  rw [ht] at hP1
  have hK1 := va_K.moved hvm.symm hK1
  obtain ⟨hP, hD⟩ := va_join (wr := [(m0, .inr (14, [.ref q_1, .ref q_3, .ref q_5, .ref q_11, .ref q_14, .null, .null, .null, .int 0])), (q_1, .inr (5, [.int 0, .ref (em 0), .int 0])), (q_3, .inr (5, [.int 0, .ref (em 0), .int 0])), (q_5, .inl (cA_7, 26, .inr (.inr (.inr (.inr f_9))))), (rr_6, .inl (cy_8, 5, .inl (fun _ => 0))), (q_11, .inr (13, [txx_13, .int 0, .int 0, .int 1, .int 0])), (q_14, .inr (13, [txx_16, .int 0, .int 0, .int 1, .int 0]))]) (w1 := [(q_17, .inr (5, [.int 0, .ref (em 0), .int 0]))]) hP hD [7] [0, 1, 2, 3, 4, 5, 6] rfl rfl (by decide) (by decide) hk1 hFc hP1 hD1
  have hK := (hK.sub (tys' := [(cy_8, .int), (cA_7, (.array .int))]) [0, 1] rfl).app hK1
  generalize H1 = H at hP hS ⊢
  have hP : va_P (dC, dI) vwCl [(m0, .inr (14, [.ref q_1, .ref q_3, .ref q_5, .ref q_11, .ref q_14, .null, .null, .null, .int 0])), (q_1, .inr (5, [.int 0, .ref (em 0), .int 0])), (q_3, .inr (5, [.int 0, .ref (em 0), .int 0])), (q_5, .inl (cA_7, 26, .inr (.inr (.inr (.inr f_9))))), (rr_6, .inl (cy_8, 5, .inl (fun _ => 0))), (q_11, .inr (13, [txx_13, .int 0, .int 0, .int 1, .int 0])), (q_14, .inr (13, [txx_16, .int 0, .int 0, .int 1, .int 0])), (q_17, .inr (5, [.int 0, .ref (em 0), .int 0]))] H := hP
  have hD : va_D A [(m0, .inr (14, [.ref q_1, .ref q_3, .ref q_5, .ref q_11, .ref q_14, .null, .null, .null, .int 0])), (q_1, .inr (5, [.int 0, .ref (em 0), .int 0])), (q_3, .inr (5, [.int 0, .ref (em 0), .int 0])), (q_5, .inl (cA_7, 26, .inr (.inr (.inr (.inr f_9))))), (rr_6, .inl (cy_8, 5, .inl (fun _ => 0))), (q_11, .inr (13, [txx_13, .int 0, .int 0, .int 1, .int 0])), (q_14, .inr (13, [txx_16, .int 0, .int 0, .int 1, .int 0])), (q_17, .inr (5, [.int 0, .ref (em 0), .int 0]))] := hD
  have hK : va_K (dC, dI) vwCl [(cy_8, .int), (cA_7, (.array .int))] s := hK
  refine W.widen (k := 32) (n := 175) (Nat.le_of_ble_eq_true rfl) (Nat.le_of_ble_eq_true rfl) ?_
  refine va_putF (D := (dC, dI)) (ci := 14) (v := .ref q_17) (ty := (.object "java/util/ArrayList")) (C := RX8) (T := TX8) (N := 9) hx hb hts (by decide +kernel) tyX8 tyX8_ok nmX8 hown hK hP hD hS 0 rfl rfl 5 (by decide) (hts (.fieldLink RX8 34 "BothfacesModel" "weavers" "Ljava/util/ArrayList;") (by decide +kernel)) (fun _ h9 => h9) rfl hin rfl (by decide +kernel) rfl rfl (Nat.le_of_ble_eq_true rfl) dX8_init_67 (fun H locs hP hD hS => ?_)
  have hP : va_P (dC, dI) vwCl [(m0, .inr (14, [.ref q_1, .ref q_3, .ref q_5, .ref q_11, .ref q_14, .ref q_17, .null, .null, .int 0])), (q_1, .inr (5, [.int 0, .ref (em 0), .int 0])), (q_3, .inr (5, [.int 0, .ref (em 0), .int 0])), (q_5, .inl (cA_7, 26, .inr (.inr (.inr (.inr f_9))))), (rr_6, .inl (cy_8, 5, .inl (fun _ => 0))), (q_11, .inr (13, [txx_13, .int 0, .int 0, .int 1, .int 0])), (q_14, .inr (13, [txx_16, .int 0, .int 0, .int 1, .int 0])), (q_17, .inr (5, [.int 0, .ref (em 0), .int 0]))] H := hP
  have hD : va_D A [(m0, .inr (14, [.ref q_1, .ref q_3, .ref q_5, .ref q_11, .ref q_14, .ref q_17, .null, .null, .int 0])), (q_1, .inr (5, [.int 0, .ref (em 0), .int 0])), (q_3, .inr (5, [.int 0, .ref (em 0), .int 0])), (q_5, .inl (cA_7, 26, .inr (.inr (.inr (.inr f_9))))), (rr_6, .inl (cy_8, 5, .inl (fun _ => 0))), (q_11, .inr (13, [txx_13, .int 0, .int 0, .int 1, .int 0])), (q_14, .inr (13, [txx_16, .int 0, .int 0, .int 1, .int 0])), (q_17, .inr (5, [.int 0, .ref (em 0), .int 0]))] := hD
  refine lv_aload_n hx hb dX8_init_70 rfl (lv_at hl 0 rfl) ?_
  refine va_new (ci := 5) (fs := [.int 0, .null, .int 0]) (C := RJx4a65c) (T := TJx4a65c) (N := 3) hx hb hts (by decide +kernel) tyJx4a65c tyJx4a65c_ok hown (hts (.classLink RX8 7 RJx4a65c) (by decide +kernel)) (hts (.instantiable RJx4a65c 3) (by decide +kernel)) (hts (.initialized RJx4a65c) (by decide +kernel)) hK hP hD hS hA rfl (fun j hj => by rcases (show j = 0 ∨ j = 1 ∨ j = 2 by omega) with rfl | rfl | rfl <;> rfl) (Nat.le_of_ble_eq_true rfl) (Nat.le_of_ble_eq_true rfl) dX8_init_71 (fun q_19 H hP hD hS => ?_)
  have hP : va_P (dC, dI) vwCl [(m0, .inr (14, [.ref q_1, .ref q_3, .ref q_5, .ref q_11, .ref q_14, .ref q_17, .null, .null, .int 0])), (q_1, .inr (5, [.int 0, .ref (em 0), .int 0])), (q_3, .inr (5, [.int 0, .ref (em 0), .int 0])), (q_5, .inl (cA_7, 26, .inr (.inr (.inr (.inr f_9))))), (rr_6, .inl (cy_8, 5, .inl (fun _ => 0))), (q_11, .inr (13, [txx_13, .int 0, .int 0, .int 1, .int 0])), (q_14, .inr (13, [txx_16, .int 0, .int 0, .int 1, .int 0])), (q_17, .inr (5, [.int 0, .ref (em 0), .int 0])), (q_19, .inr (5, [.int 0, .null, .int 0]))] H := hP
  have hD : va_D A [(m0, .inr (14, [.ref q_1, .ref q_3, .ref q_5, .ref q_11, .ref q_14, .ref q_17, .null, .null, .int 0])), (q_1, .inr (5, [.int 0, .ref (em 0), .int 0])), (q_3, .inr (5, [.int 0, .ref (em 0), .int 0])), (q_5, .inl (cA_7, 26, .inr (.inr (.inr (.inr f_9))))), (rr_6, .inl (cy_8, 5, .inl (fun _ => 0))), (q_11, .inr (13, [txx_13, .int 0, .int 0, .int 1, .int 0])), (q_14, .inr (13, [txx_16, .int 0, .int 0, .int 1, .int 0])), (q_17, .inr (5, [.int 0, .ref (em 0), .int 0])), (q_19, .inr (5, [.int 0, .null, .int 0]))] := hD
  refine W.widen (k := 33) (n := 178) (Nat.le_of_ble_eq_true rfl) (Nat.le_of_ble_eq_true rfl) ?_
  refine lv_dup hx hb dX8_init_74 rfl ?_
  have hPc := hP.sub (ws' := [(q_19, .inr (5, [.int 0, .null, .int 0]))]) [8] rfl
  have hDc := hD.sub (ws' := [(q_19, .inr (5, [.int 0, .null, .int 0]))]) [8] (by decide) rfl
  have hKc := hK.sub (tys' := []) [] rfl
  have hFc := va_free (wc := [(q_19, .inr (5, [.int 0, .null, .int 0]))]) hD hS hA [8] rfl
  refine va_callv (va_runI (As := []) (rest := [.ref q_19, .ref m0]) ⟨hx, hb, hml, hown, hts⟩ (c_Jx4a65c_init_da8c8 l em dC dI q_19 H.size) (cwI 0 hts gX8_init_Jx4a65c_init_da8c8 rfl rfl rfl (hts (.initialized RJx4a65c) (by decide +kernel)) (hts (.methodLink RX8 9 yJx4a65c_init_da8c8) (by decide +kernel)) (hts (.instanceMethod yJx4a65c_init_da8c8) (by decide +kernel)) rfl (by decide +kernel) ⟨Nat.le_of_ble_eq_true rfl, Nat.le_of_ble_eq_true rfl⟩) ⟨Pw.blind _ _ _ _ _ _ _, fun U hU hW => ⟨rfl, Pw.go hPc hKc hDc hamb hS hFc hU hW⟩⟩ rfl rfl hl.1 rfl (lv_room (Nat.le_of_ble_eq_true rfl)) dX8_init_75 ⟨Nat.le_of_ble_eq_true rfl, Nat.le_of_ble_eq_true rfl⟩) hS (fun q _ h => hFc q h) hFc (fun u t H1 locs1 ht hvm hw hB hz1 hk1 hS => ?_)
  obtain ⟨hP1, hK1, hD1⟩ := hB
  rw [ht] at hP1
  have hK1 := va_K.moved hvm.symm hK1
  obtain ⟨hP, hD⟩ := va_join (wr := [(m0, .inr (14, [.ref q_1, .ref q_3, .ref q_5, .ref q_11, .ref q_14, .ref q_17, .null, .null, .int 0])), (q_1, .inr (5, [.int 0, .ref (em 0), .int 0])), (q_3, .inr (5, [.int 0, .ref (em 0), .int 0])), (q_5, .inl (cA_7, 26, .inr (.inr (.inr (.inr f_9))))), (rr_6, .inl (cy_8, 5, .inl (fun _ => 0))), (q_11, .inr (13, [txx_13, .int 0, .int 0, .int 1, .int 0])), (q_14, .inr (13, [txx_16, .int 0, .int 0, .int 1, .int 0])), (q_17, .inr (5, [.int 0, .ref (em 0), .int 0]))]) (w1 := [(q_19, .inr (5, [.int 0, .ref (em 0), .int 0]))]) hP hD [8] [0, 1, 2, 3, 4, 5, 6, 7] rfl rfl (by decide) (by decide) hk1 hFc hP1 hD1
  have hK := (hK.sub (tys' := [(cy_8, .int), (cA_7, (.array .int))]) [0, 1] rfl).app hK1
  generalize H1 = H at hP hS ⊢
  have hP : va_P (dC, dI) vwCl [(m0, .inr (14, [.ref q_1, .ref q_3, .ref q_5, .ref q_11, .ref q_14, .ref q_17, .null, .null, .int 0])), (q_1, .inr (5, [.int 0, .ref (em 0), .int 0])), (q_3, .inr (5, [.int 0, .ref (em 0), .int 0])), (q_5, .inl (cA_7, 26, .inr (.inr (.inr (.inr f_9))))), (rr_6, .inl (cy_8, 5, .inl (fun _ => 0))), (q_11, .inr (13, [txx_13, .int 0, .int 0, .int 1, .int 0])), (q_14, .inr (13, [txx_16, .int 0, .int 0, .int 1, .int 0])), (q_17, .inr (5, [.int 0, .ref (em 0), .int 0])), (q_19, .inr (5, [.int 0, .ref (em 0), .int 0]))] H := hP
  have hD : va_D A [(m0, .inr (14, [.ref q_1, .ref q_3, .ref q_5, .ref q_11, .ref q_14, .ref q_17, .null, .null, .int 0])), (q_1, .inr (5, [.int 0, .ref (em 0), .int 0])), (q_3, .inr (5, [.int 0, .ref (em 0), .int 0])), (q_5, .inl (cA_7, 26, .inr (.inr (.inr (.inr f_9))))), (rr_6, .inl (cy_8, 5, .inl (fun _ => 0))), (q_11, .inr (13, [txx_13, .int 0, .int 0, .int 1, .int 0])), (q_14, .inr (13, [txx_16, .int 0, .int 0, .int 1, .int 0])), (q_17, .inr (5, [.int 0, .ref (em 0), .int 0])), (q_19, .inr (5, [.int 0, .ref (em 0), .int 0]))] := hD
  have hK : va_K (dC, dI) vwCl [(cy_8, .int), (cA_7, (.array .int))] s := hK
  refine W.widen (k := 33) (n := 178) (Nat.le_of_ble_eq_true rfl) (Nat.le_of_ble_eq_true rfl) ?_
  refine va_putF (D := (dC, dI)) (ci := 14) (v := .ref q_19) (ty := (.object "java/util/ArrayList")) (C := RX8) (T := TX8) (N := 9) hx hb hts (by decide +kernel) tyX8 tyX8_ok nmX8 hown hK hP hD hS 0 rfl rfl 6 (by decide) (hts (.fieldLink RX8 37 "BothfacesModel" "orders" "Ljava/util/ArrayList;") (by decide +kernel)) (fun _ h9 => h9) rfl hin rfl (by decide +kernel) rfl rfl (Nat.le_of_ble_eq_true rfl) dX8_init_78 (fun H locs hP hD hS => ?_)
  have hP : va_P (dC, dI) vwCl [(m0, .inr (14, [.ref q_1, .ref q_3, .ref q_5, .ref q_11, .ref q_14, .ref q_17, .ref q_19, .null, .int 0])), (q_1, .inr (5, [.int 0, .ref (em 0), .int 0])), (q_3, .inr (5, [.int 0, .ref (em 0), .int 0])), (q_5, .inl (cA_7, 26, .inr (.inr (.inr (.inr f_9))))), (rr_6, .inl (cy_8, 5, .inl (fun _ => 0))), (q_11, .inr (13, [txx_13, .int 0, .int 0, .int 1, .int 0])), (q_14, .inr (13, [txx_16, .int 0, .int 0, .int 1, .int 0])), (q_17, .inr (5, [.int 0, .ref (em 0), .int 0])), (q_19, .inr (5, [.int 0, .ref (em 0), .int 0]))] H := hP
  have hD : va_D A [(m0, .inr (14, [.ref q_1, .ref q_3, .ref q_5, .ref q_11, .ref q_14, .ref q_17, .ref q_19, .null, .int 0])), (q_1, .inr (5, [.int 0, .ref (em 0), .int 0])), (q_3, .inr (5, [.int 0, .ref (em 0), .int 0])), (q_5, .inl (cA_7, 26, .inr (.inr (.inr (.inr f_9))))), (rr_6, .inl (cy_8, 5, .inl (fun _ => 0))), (q_11, .inr (13, [txx_13, .int 0, .int 0, .int 1, .int 0])), (q_14, .inr (13, [txx_16, .int 0, .int 0, .int 1, .int 0])), (q_17, .inr (5, [.int 0, .ref (em 0), .int 0])), (q_19, .inr (5, [.int 0, .ref (em 0), .int 0]))] := hD
  refine lv_aload_n hx hb dX8_init_81 rfl (lv_at hl 0 rfl) ?_
  refine va_ldcS hx hb hown hamb.r1 dX8_init_82 ?_
  refine va_put (D := (dC, dI)) (ci := 14) (v := .ref (em 1)) (ty := (.object "java/lang/String")) (C := RX8) (T := TX8) (N := 9) hx hb hts (by decide +kernel) tyX8 tyX8_ok nmX8 hown hK hP hD hS 0 rfl rfl 7 (by decide) (hts (.fieldLink RX8 42 "BothfacesModel" "typed" "Ljava/lang/String;") (by decide +kernel)) (fun _ h9 => h9) rfl (by decide +kernel) rfl rfl (Nat.le_of_ble_eq_true rfl) dX8_init_84 (fun H locs hP hD hS => ?_)
  have hP : va_P (dC, dI) vwCl [(m0, .inr (14, [.ref q_1, .ref q_3, .ref q_5, .ref q_11, .ref q_14, .ref q_17, .ref q_19, .ref (em 1), .int 0])), (q_1, .inr (5, [.int 0, .ref (em 0), .int 0])), (q_3, .inr (5, [.int 0, .ref (em 0), .int 0])), (q_5, .inl (cA_7, 26, .inr (.inr (.inr (.inr f_9))))), (rr_6, .inl (cy_8, 5, .inl (fun _ => 0))), (q_11, .inr (13, [txx_13, .int 0, .int 0, .int 1, .int 0])), (q_14, .inr (13, [txx_16, .int 0, .int 0, .int 1, .int 0])), (q_17, .inr (5, [.int 0, .ref (em 0), .int 0])), (q_19, .inr (5, [.int 0, .ref (em 0), .int 0]))] H := hP
  have hD : va_D A [(m0, .inr (14, [.ref q_1, .ref q_3, .ref q_5, .ref q_11, .ref q_14, .ref q_17, .ref q_19, .ref (em 1), .int 0])), (q_1, .inr (5, [.int 0, .ref (em 0), .int 0])), (q_3, .inr (5, [.int 0, .ref (em 0), .int 0])), (q_5, .inl (cA_7, 26, .inr (.inr (.inr (.inr f_9))))), (rr_6, .inl (cy_8, 5, .inl (fun _ => 0))), (q_11, .inr (13, [txx_13, .int 0, .int 0, .int 1, .int 0])), (q_14, .inr (13, [txx_16, .int 0, .int 0, .int 1, .int 0])), (q_17, .inr (5, [.int 0, .ref (em 0), .int 0])), (q_19, .inr (5, [.int 0, .ref (em 0), .int 0]))] := hD
  refine W.widen (k := 33) (n := 178) (Nat.le_of_ble_eq_true rfl) (Nat.le_of_ble_eq_true rfl) ?_
  have hP9 := hP.sub (ws' := [(m0, .inr (14, [.ref q_1, .ref q_3, .ref q_5, .ref q_11, .ref q_14, .ref q_17, .ref q_19, .ref (em 1), .int 0])), (q_1, .inr (5, [.int 0, .ref (em 0), .int 0])), (q_3, .inr (5, [.int 0, .ref (em 0), .int 0])), (q_5, .inl (cA_7, 26, .inr (.inr (.inr (.inr f_9))))), (rr_6, .inl (cy_8, 5, .inl (fun _ => 0))), (q_11, .inr (13, [txx_13, .int 0, .int 0, .int 1, .int 0])), (q_14, .inr (13, [txx_16, .int 0, .int 0, .int 1, .int 0])), (q_17, .inr (5, [.int 0, .ref (em 0), .int 0])), (q_19, .inr (5, [.int 0, .ref (em 0), .int 0]))]) [0, 1, 2, 3, 4, 5, 6, 7, 8] rfl
  have hD9 := hD.sub (ws' := [(m0, .inr (14, [.ref q_1, .ref q_3, .ref q_5, .ref q_11, .ref q_14, .ref q_17, .ref q_19, .ref (em 1), .int 0])), (q_1, .inr (5, [.int 0, .ref (em 0), .int 0])), (q_3, .inr (5, [.int 0, .ref (em 0), .int 0])), (q_5, .inl (cA_7, 26, .inr (.inr (.inr (.inr f_9))))), (rr_6, .inl (cy_8, 5, .inl (fun _ => 0))), (q_11, .inr (13, [txx_13, .int 0, .int 0, .int 1, .int 0])), (q_14, .inr (13, [txx_16, .int 0, .int 0, .int 1, .int 0])), (q_17, .inr (5, [.int 0, .ref (em 0), .int 0])), (q_19, .inr (5, [.int 0, .ref (em 0), .int 0]))]) [0, 1, 2, 3, 4, 5, 6, 7, 8] (by decide) rfl
  have hK9 := hK.sub (tys' := [(cA_7, (.array .int)), (cy_8, .int)]) [1, 0] rfl
  exact W.vret hx hb hr (fun t ht hW => ⟨⟨(), rfl, trivial, ⟨(q_1), (q_3), (q_5), (rr_6), (q_11), (q_14), (q_17), (q_19), (txx_13), (txx_16), (f_9), (cA_7), (cy_8), ⟨by rw [ht]; exact hP9, va_K.moved hW.alike hK9, hD9⟩, (by first | rfl | assumption | omega | exact fun _ => rfl | exact fun h9 => absurd (by omega) h9 | exact fun h9 => absurd h9 (by omega))⟩⟩, hS.F ht⟩) hS.2.2 dX8_init_87
