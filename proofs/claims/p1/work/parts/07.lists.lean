set_option maxHeartbeats 4000000 in
set_option maxRecDepth 100000 in
theorem c_Jx4a65c_grow_92f84 (l : Launch) (em : Nat → Nat) (dC : Nat → ClassId) (dI : Nat → Nat → Nat) (lc : Nat) (w0 : Value) (sz : Nat) : Met l yJx4a65c_grow_92f84 wsJx4a65c_grow_92f84 ({ frames := 1, cells := 1, slots := 10, locals := 14 }) (va_Pc [.ref lc, .int 1] (Pw em dC dI sz [(lc, .inr (5, [w0, .ref (em 0), .int 0]))] [])) (va_Qr (fun _ : Unit => True) (fun _ ra t => ∃ (cN : ClassId), Qw dC dI (va_A [(lc, .inr (5, [w0, .ref (em 0), .int 0]))] sz) [(lc, .inr (5, [w0, .ref ra, .int 0])), (ra, .inl (cN, 10, .inr (.inr (.inr (.inr (fun _ => none))))))] [(cN, (.object "java/lang/Object"))] t) (va_A [(lc, .inr (5, [w0, .ref (em 0), .int 0]))] sz)) 1 10 (va_A [(lc, .inr (5, [w0, .ref (em 0), .int 0]))] sz) := by
  refine Met.ofW (cc := cJx4a65c_grow_92f84) (maxL := 4) (ret := (some (.array (.object "java/lang/Object")))) (by decide) rfl ?_
  intro p e s m args below meth c s₁ B hml hv
  obtain ⟨rfl, hsz, hP, hK, hD0, hamb⟩ := hv
  have hx := B.exec
  have hb := B.bytes
  have hr := B.returns
  have hts := atoms_spec (ws := wsJx4a65c_grow_92f84) B.pre
  have hown : s.vm.findClass RJx4a65c = some m.cls := findClass_of_methodNamed B.named
  have hlocks := B.notSynchronized
  subst hsz
  have hD := hD0.self (sz := s.heap.size)
  generalize hAe : va_A [(lc, .inr (5, [w0, .ref (em 0), .int 0]))] s.heap.size = A at hD hamb ⊢
  have hA : ∀ q : Nat, s.heap.size ≤ q → A q := fun q h => by rw [← hAe]; exact Or.inr h
  have hS : va_S A s.heap s.heap [] := va_S.rf
  have hP : va_P (dC, dI) vwCl [(lc, .inr (5, [w0, .ref (em 0), .int 0]))] s.heap := hP
  have hl := lv_entry ([.ref lc, .int 1]) (n := 4) (Nat.le_of_ble_eq_true rfl)
  rw [lg_entry_eq]
  generalize (lg_sl ([.ref lc, .int 1]) ++ List.replicate (4 - (lg_sl ([.ref lc, .int 1])).length) Slot.unset).toArray = ls at hl ⊢
  have hl : lv_has ls 4 [(0, .ref lc), (1, .int 1)] := hl
  refine lv_aload_n hx hb dJx4a65c_grow_92f84_0 rfl (lv_at hl 0 rfl) ?_
  refine va_get (D := (dC, dI)) (ci := 5) (v := .ref (em 0)) (C := RJx4a65c) (T := TJx4a65c) (N := 3) hx hb hts (by decide +kernel) hown hK hP 0 rfl rfl 1 (by decide) (hts (.fieldLink RJx4a65c 9 "java/util/ArrayList" "elementData" "[Ljava/lang/Object;") (by decide +kernel)) (fun _ h9 => h9) rfl dJx4a65c_grow_92f84_1 ?_
  refine va_tlen hx hb hamb.t0 hS (v := 0) (by decide) dJx4a65c_grow_92f84_4 ?_
  refine lv_istore_n (lv' := [(2, .int 0), (0, .ref lc), (1, .int 1)]) hx hb dJx4a65c_grow_92f84_5 rfl hl (by decide) rfl (fun ls hl => ?_)
  refine lv_iload_n hx hb dJx4a65c_grow_92f84_6 rfl (lv_at hl 0 rfl) ?_
  refine lv_if_gt (tgt := 20) hx hb dJx4a65c_grow_92f84_7 (by decide) (fun c_1 => ?_) (fun c_1 => ?_)
  · exact absurd c_1 (by decide)
  · refine lv_aload_n hx hb dJx4a65c_grow_92f84_10 rfl (lv_at hl 1 rfl) ?_
    refine va_get (D := (dC, dI)) (ci := 5) (v := .ref (em 0)) (C := RJx4a65c) (T := TJx4a65c) (N := 3) hx hb hts (by decide +kernel) hown hK hP 0 rfl rfl 1 (by decide) (hts (.fieldLink RJx4a65c 9 "java/util/ArrayList" "elementData" "[Ljava/lang/Object;") (by decide +kernel)) (fun _ h9 => h9) rfl dJx4a65c_grow_92f84_11 ?_
    refine va_gets hx hb hamb.z0 hS hown (hts (.fieldLink RJx4a65c 39 "java/util/ArrayList" "DEFAULTCAPACITY_EMPTY_ELEMENTDATA" "[Ljava/lang/Object;") (by decide +kernel)) (fun _ h9 => h9) dJx4a65c_grow_92f84_14 ?_
    refine lv_acmp_eq (rx := some (em 0)) (ry := some (em 0)) (tgt := 45) hx hb dJx4a65c_grow_92f84_17 (by decide) (fun c_2 => ?_) (fun c_2 => ?_)
    · refine lv_aload_n hx hb dJx4a65c_grow_92f84_45 rfl (lv_at hl 1 rfl) ?_
      refine lv_bipush (v := 10) hx hb dJx4a65c_grow_92f84_46 (by decide) ?_
      refine lv_iload_n hx hb dJx4a65c_grow_92f84_48 rfl (lv_at hl 2 rfl) ?_
      refine va_mmax hx hb (by rw [hml]; exact hl.1.symm) hown (hts (.methodLink RJx4a65c 79 Lib.Math.max.name) (by decide +kernel)) (hts (.static Lib.Math.max.name) (by decide +kernel)) (hts (.initialized "java/lang/Math") (by decide +kernel)) (hts (.code Lib.Math.max.name Lib.Math.max.code 2 (some .int)) (by decide +kernel)) (Nat.le_of_ble_eq_true rfl) (Nat.le_of_ble_eq_true rfl) (Nat.le_of_ble_eq_true rfl) (Nat.le_of_ble_eq_true rfl) dJx4a65c_grow_92f84_49 ?_
      refine lv_topi (fun k_3 ek_3 => ?_)
      obtain rfl : k_3 = 10 := ek_3.trans (by decide)
      refine va_newq hx hb hown (hts (.classLink RJx4a65c 7 "java/lang/Object") (by decide +kernel)) hamb.aoO hK hP hD hS hA (by decide) rfl (Nat.le_of_ble_eq_true rfl) (Nat.le_of_ble_eq_true rfl) (Nat.le_of_ble_eq_true rfl) dJx4a65c_grow_92f84_52 (fun q_4 cA_5 H hK hP hD hS => ?_)
      have hP : va_P (dC, dI) vwCl [(lc, .inr (5, [w0, .ref (em 0), .int 0])), (q_4, .inl (cA_5, 10, .inr (.inr (.inr (.inr (fun _ => none))))))] H := hP
      have hD : va_D A [(lc, .inr (5, [w0, .ref (em 0), .int 0])), (q_4, .inl (cA_5, 10, .inr (.inr (.inr (.inr (fun _ => none))))))] := hD
      have hK : va_K (dC, dI) vwCl [(cA_5, (.object "java/lang/Object"))] s := hK
      refine W.widen (k := 1) (n := 10) (Nat.le_of_ble_eq_true rfl) (Nat.le_of_ble_eq_true rfl) ?_
      refine lv_dup_x1 hx hb dJx4a65c_grow_92f84_55 rfl rfl ?_
      refine va_put (D := (dC, dI)) (ci := 5) (v := .ref q_4) (ty := (.array (.object "java/lang/Object"))) (C := RJx4a65c) (T := TJx4a65c) (N := 3) hx hb hts (by decide +kernel) tyJx4a65c tyJx4a65c_ok nmJx4a65c hown hK hP hD hS 0 rfl rfl 1 (by decide) (hts (.fieldLink RJx4a65c 9 "java/util/ArrayList" "elementData" "[Ljava/lang/Object;") (by decide +kernel)) (fun _ h9 => h9) rfl (by decide +kernel) rfl rfl (Nat.le_of_ble_eq_true rfl) dJx4a65c_grow_92f84_56 (fun H locs hP hD hS => ?_)
      have hP : va_P (dC, dI) vwCl [(lc, .inr (5, [w0, .ref q_4, .int 0])), (q_4, .inl (cA_5, 10, .inr (.inr (.inr (.inr (fun _ => none))))))] H := hP
      have hD : va_D A [(lc, .inr (5, [w0, .ref q_4, .int 0])), (q_4, .inl (cA_5, 10, .inr (.inr (.inr (.inr (fun _ => none))))))] := hD
      refine W.widen (k := 1) (n := 10) (Nat.le_of_ble_eq_true rfl) (Nat.le_of_ble_eq_true rfl) ?_
      have hP9 := hP.sub (ws' := [(lc, .inr (5, [w0, .ref q_4, .int 0])), (q_4, .inl (cA_5, 10, .inr (.inr (.inr (.inr (fun _ => none))))))]) [0, 1] rfl
      have hD9 := hD.sub (ws' := [(lc, .inr (5, [w0, .ref q_4, .int 0])), (q_4, .inl (cA_5, 10, .inr (.inr (.inr (.inr (fun _ => none))))))]) [0, 1] (by decide) rfl
      have hK9 := hK.sub (tys' := [(cA_5, (.object "java/lang/Object"))]) [0] rfl
      exact W.aret (v := .ref q_4) hx hb hr (Or.inr ⟨_, rfl⟩) (Or.inr ⟨_, rfl⟩) (fun t ht hW => ⟨⟨(), q_4, rfl, trivial, ⟨(cA_5), by rw [ht]; exact hP9, va_K.moved hW.alike hK9, hD9⟩⟩, hS.F ht⟩) hS.2.2 dJx4a65c_grow_92f84_59
    · exact absurd rfl c_2

set_option maxHeartbeats 4000000 in
set_option maxRecDepth 100000 in
theorem c_Jx4a65c_grow_d5877 (l : Launch) (em : Nat → Nat) (dC : Nat → ClassId) (dI : Nat → Nat → Nat) (lc : Nat) (w0 : Value) (sz : Nat) : Met l yJx4a65c_grow_d5877 wsJx4a65c_grow_d5877 ({ frames := 2, cells := 1, slots := 10, locals := 37 }) (va_Pc [.ref lc] (Pw em dC dI sz [(lc, .inr (5, [w0, .ref (em 0), .int 0]))] [])) (va_Qr (fun _ : Unit => True) (fun _ ra t => ∃ (cN : ClassId), Qw dC dI (va_A [(lc, .inr (5, [w0, .ref (em 0), .int 0]))] sz) [(lc, .inr (5, [w0, .ref ra, .int 0])), (ra, .inl (cN, 10, .inr (.inr (.inr (.inr (fun _ => none))))))] [(cN, (.object "java/lang/Object"))] t) (va_A [(lc, .inr (5, [w0, .ref (em 0), .int 0]))] sz)) 1 10 (va_A [(lc, .inr (5, [w0, .ref (em 0), .int 0]))] sz) := by
  refine Met.ofW (cc := cJx4a65c_grow_d5877) (maxL := 1) (ret := (some (.array (.object "java/lang/Object")))) (by decide) rfl ?_
  intro p e s m args below meth c s₁ B hml hv
  obtain ⟨rfl, hsz, hP, hK, hD0, hamb⟩ := hv
  have hx := B.exec
  have hb := B.bytes
  have hr := B.returns
  have hts := atoms_spec (ws := wsJx4a65c_grow_d5877) B.pre
  have hown : s.vm.findClass RJx4a65c = some m.cls := findClass_of_methodNamed B.named
  have hlocks := B.notSynchronized
  subst hsz
  have hD := hD0.self (sz := s.heap.size)
  generalize hAe : va_A [(lc, .inr (5, [w0, .ref (em 0), .int 0]))] s.heap.size = A at hD hamb ⊢
  have hA : ∀ q : Nat, s.heap.size ≤ q → A q := fun q h => by rw [← hAe]; exact Or.inr h
  have hS : va_S A s.heap s.heap [] := va_S.rf
  have hP : va_P (dC, dI) vwCl [(lc, .inr (5, [w0, .ref (em 0), .int 0]))] s.heap := hP
  have hl := lv_entry ([.ref lc]) (n := 1) (Nat.le_of_ble_eq_true rfl)
  rw [lg_entry_eq]
  generalize (lg_sl ([.ref lc]) ++ List.replicate (1 - (lg_sl ([.ref lc])).length) Slot.unset).toArray = ls at hl ⊢
  have hl : lv_has ls 1 [(0, .ref lc)] := hl
  refine lv_aload_n hx hb dJx4a65c_grow_d5877_0 rfl (lv_at hl 0 rfl) ?_
  refine lv_aload_n hx hb dJx4a65c_grow_d5877_1 rfl (lv_at hl 0 rfl) ?_
  refine va_get (D := (dC, dI)) (ci := 5) (v := .int 0) (C := RJx4a65c) (T := TJx4a65c) (N := 3) hx hb hts (by decide +kernel) hown hK hP 0 rfl rfl 2 (by decide) (hts (.fieldLink RJx4a65c 48 "java/util/ArrayList" "size" "I") (by decide +kernel)) (fun _ h9 => h9) rfl dJx4a65c_grow_d5877_2 ?_
  refine lv_iconst (v := 1) hx hb dJx4a65c_grow_d5877_5 (by decide) ?_
  refine lv_iadd hx hb dJx4a65c_grow_d5877_6 ?_
  refine lv_topi (fun k_1 ek_1 => ?_)
  obtain rfl : k_1 = 1 := ek_1.trans (by decide)
  have hPc := hP.sub (ws' := [(lc, .inr (5, [w0, .ref (em 0), .int 0]))]) [0] rfl
  have hDc := hD.sub (ws' := [(lc, .inr (5, [w0, .ref (em 0), .int 0]))]) [0] (by decide) rfl
  have hKc := hK.sub (tys' := []) [] rfl
  have hFc := va_free (wc := [(lc, .inr (5, [w0, .ref (em 0), .int 0]))]) hD hS hA [0] rfl
  refine va_callr (va_runV (As := [.int 1]) (rest := []) ⟨hx, hb, hml, hown, hts⟩ (c_Jx4a65c_grow_92f84 l em dC dI lc w0 s.heap.size) (cwV 1 hts gJx4a65c_grow_d5877_Jx4a65c_grow_92f84 rfl rfl rfl (by decide +kernel) ⟨Nat.le_of_ble_eq_true rfl, Nat.le_of_ble_eq_true rfl⟩) ⟨Pw.blind _ _ _ _ _ _ _, va_recv hKc hPc (ci := 5) (q0 := 0) rfl rfl, fun U hU hW => ⟨rfl, Pw.go hPc hKc hDc hamb hS hFc hU hW⟩⟩ rfl rfl hl.1 rfl (lv_room (Nat.le_of_ble_eq_true rfl)) dJx4a65c_grow_d5877_7 ⟨Nat.le_of_ble_eq_true rfl, Nat.le_of_ble_eq_true rfl⟩) hS (fun q _ h => hFc q h) hFc (fun u ra t H1 locs1 ht hvm hw hB hz1 hk1 hS => ?_)
  generalize ra = nax_3 at hB ⊢
  obtain ⟨cNx_4, hP1, hK1, hD1⟩ := hB
  rw [ht] at hP1
  have hK1 := va_K.moved hvm.symm hK1
  obtain ⟨hP, hD⟩ := va_join (wr := []) (w1 := [(lc, .inr (5, [w0, .ref nax_3, .int 0])), (nax_3, .inl (cNx_4, 10, .inr (.inr (.inr (.inr (fun _ => none))))))]) hP hD [0] [] rfl rfl (by decide) (by decide) hk1 hFc hP1 hD1
  have hK := (hK.sub (tys' := []) [] rfl).app hK1
  generalize H1 = H at hP hS ⊢
  have hP : va_P (dC, dI) vwCl [(lc, .inr (5, [w0, .ref nax_3, .int 0])), (nax_3, .inl (cNx_4, 10, .inr (.inr (.inr (.inr (fun _ => none))))))] H := hP
  have hD : va_D A [(lc, .inr (5, [w0, .ref nax_3, .int 0])), (nax_3, .inl (cNx_4, 10, .inr (.inr (.inr (.inr (fun _ => none))))))] := hD
  have hK : va_K (dC, dI) vwCl [(cNx_4, (.object "java/lang/Object"))] s := hK
  refine W.widen (k := 1) (n := 10) (Nat.le_of_ble_eq_true rfl) (Nat.le_of_ble_eq_true rfl) ?_
  refine W.widen (k := 1) (n := 10) (Nat.le_of_ble_eq_true rfl) (Nat.le_of_ble_eq_true rfl) ?_
  have hP9 := hP.sub (ws' := [(lc, .inr (5, [w0, .ref nax_3, .int 0])), (nax_3, .inl (cNx_4, 10, .inr (.inr (.inr (.inr (fun _ => none))))))]) [0, 1] rfl
  have hD9 := hD.sub (ws' := [(lc, .inr (5, [w0, .ref nax_3, .int 0])), (nax_3, .inl (cNx_4, 10, .inr (.inr (.inr (.inr (fun _ => none))))))]) [0, 1] (by decide) rfl
  have hK9 := hK.sub (tys' := [(cNx_4, (.object "java/lang/Object"))]) [0] rfl
  exact W.aret (v := .ref nax_3) hx hb hr (Or.inr ⟨_, rfl⟩) (Or.inr ⟨_, rfl⟩) (fun t ht hW => ⟨⟨(), nax_3, rfl, trivial, ⟨(cNx_4), by rw [ht]; exact hP9, va_K.moved hW.alike hK9, hD9⟩⟩, hS.F ht⟩) hS.2.2 dJx4a65c_grow_d5877_10

set_option maxHeartbeats 4000000 in
set_option maxRecDepth 100000 in
theorem c_Jx4a65c_add_72be8_obj (l : Launch) (em : Nat → Nat) (dC : Nat → ClassId) (dI : Nat → Nat → Nat) (lc : Nat) (w0 : Value) (ob : Nat) (o0 : Value) (o1 : Value) (o2 : Value) (o3 : Value) (o4 : Value) (sz : Nat) : Met l yJx4a65c_add_72be8 wsJx4a65c_add_72be8 ({ frames := 3, cells := 1, slots := 10, locals := 57 }) (va_Pc [.ref lc, .ref ob, .ref (em 0), .int 0] (Pw em dC dI sz [(lc, .inr (5, [w0, .ref (em 0), .int 0])), (ob, .inr (12, [o0, o1, o2, o3, o4]))] [])) (va_Qv (fun _ : Unit => True) (fun _ t => ∃ (u9 : Value), Qw dC dI (va_A [(lc, .inr (5, [w0, .ref (em 0), .int 0])), (ob, .inr (12, [o0, o1, o2, o3, o4]))] sz) [(lc, .inr (5, [w0, u9, .int 1]))] [] t) (va_A [(lc, .inr (5, [w0, .ref (em 0), .int 0])), (ob, .inr (12, [o0, o1, o2, o3, o4]))] sz)) 1 10 (va_A [(lc, .inr (5, [w0, .ref (em 0), .int 0])), (ob, .inr (12, [o0, o1, o2, o3, o4]))] sz) := by
  refine Met.ofW (cc := cJx4a65c_add_72be8) (maxL := 4) (ret := none) (by decide) rfl ?_
  intro p e s m args below meth c s₁ B hml hv
  obtain ⟨rfl, hsz, hP, hK, hD0, hamb⟩ := hv
  have hx := B.exec
  have hb := B.bytes
  have hr := B.returns
  have hts := atoms_spec (ws := wsJx4a65c_add_72be8) B.pre
  have hown : s.vm.findClass RJx4a65c = some m.cls := findClass_of_methodNamed B.named
  have hlocks := B.notSynchronized
  subst hsz
  have hD := hD0.self (sz := s.heap.size)
  generalize hAe : va_A [(lc, .inr (5, [w0, .ref (em 0), .int 0])), (ob, .inr (12, [o0, o1, o2, o3, o4]))] s.heap.size = A at hD hamb ⊢
  have hA : ∀ q : Nat, s.heap.size ≤ q → A q := fun q h => by rw [← hAe]; exact Or.inr h
  have hS : va_S A s.heap s.heap [] := va_S.rf
  have hP : va_P (dC, dI) vwCl [(lc, .inr (5, [w0, .ref (em 0), .int 0])), (ob, .inr (12, [o0, o1, o2, o3, o4]))] s.heap := hP
  have hl := lv_entry ([.ref lc, .ref ob, .ref (em 0), .int 0]) (n := 4) (Nat.le_of_ble_eq_true rfl)
  rw [lg_entry_eq]
  generalize (lg_sl ([.ref lc, .ref ob, .ref (em 0), .int 0]) ++ List.replicate (4 - (lg_sl ([.ref lc, .ref ob, .ref (em 0), .int 0])).length) Slot.unset).toArray = ls at hl ⊢
  have hl : lv_has ls 4 [(0, .ref lc), (1, .ref ob), (2, .ref (em 0)), (3, .int 0)] := hl
  refine lv_iload_n hx hb dJx4a65c_add_72be8_0 rfl (lv_at hl 3 rfl) ?_
  refine lv_aload_n hx hb dJx4a65c_add_72be8_1 rfl (lv_at hl 2 rfl) ?_
  refine va_tlen hx hb hamb.t0 hS (v := 0) (by decide) dJx4a65c_add_72be8_2 ?_
  refine lv_icmp_ne (tgt := 11) hx hb dJx4a65c_add_72be8_3 (by decide) (fun c_1 => ?_) (fun c_1 => ?_)
  · exact absurd (by decide) c_1
  · refine lv_aload_n hx hb dJx4a65c_add_72be8_6 rfl (lv_at hl 0 rfl) ?_
    have hPc := hP.sub (ws' := [(lc, .inr (5, [w0, .ref (em 0), .int 0]))]) [0] rfl
    have hDc := hD.sub (ws' := [(lc, .inr (5, [w0, .ref (em 0), .int 0]))]) [0] (by decide) rfl
    have hKc := hK.sub (tys' := []) [] rfl
    have hFc := va_free (wc := [(lc, .inr (5, [w0, .ref (em 0), .int 0]))]) hD hS hA [0] rfl
    refine va_callr (va_runV (As := []) (rest := []) ⟨hx, hb, hml, hown, hts⟩ (c_Jx4a65c_grow_d5877 l em dC dI lc w0 s.heap.size) (cwV 0 hts gJx4a65c_add_72be8_Jx4a65c_grow_d5877 rfl rfl rfl (by decide +kernel) ⟨Nat.le_of_ble_eq_true rfl, Nat.le_of_ble_eq_true rfl⟩) ⟨Pw.blind _ _ _ _ _ _ _, va_recv hKc hPc (ci := 5) (q0 := 0) rfl rfl, fun U hU hW => ⟨rfl, Pw.go hPc hKc hDc hamb hS hFc hU hW⟩⟩ rfl rfl hl.1 rfl (lv_room (Nat.le_of_ble_eq_true rfl)) dJx4a65c_add_72be8_7 ⟨Nat.le_of_ble_eq_true rfl, Nat.le_of_ble_eq_true rfl⟩) hS (fun q _ h => hFc q h) hFc (fun u ra t H1 locs1 ht hvm hw hB hz1 hk1 hS => ?_)
    generalize ra = nax_3 at hB ⊢
    obtain ⟨cNx_4, hP1, hK1, hD1⟩ := hB
    rw [ht] at hP1
    have hK1 := va_K.moved hvm.symm hK1
    obtain ⟨hP, hD⟩ := va_join (wr := [(ob, .inr (12, [o0, o1, o2, o3, o4]))]) (w1 := [(lc, .inr (5, [w0, .ref nax_3, .int 0])), (nax_3, .inl (cNx_4, 10, .inr (.inr (.inr (.inr (fun _ => none))))))]) hP hD [0] [1] rfl rfl (by decide) (by decide) hk1 hFc hP1 hD1
    have hK := (hK.sub (tys' := []) [] rfl).app hK1
    generalize H1 = H at hP hS ⊢
    have hP : va_P (dC, dI) vwCl [(ob, .inr (12, [o0, o1, o2, o3, o4])), (lc, .inr (5, [w0, .ref nax_3, .int 0])), (nax_3, .inl (cNx_4, 10, .inr (.inr (.inr (.inr (fun _ => none))))))] H := hP
    have hD : va_D A [(ob, .inr (12, [o0, o1, o2, o3, o4])), (lc, .inr (5, [w0, .ref nax_3, .int 0])), (nax_3, .inl (cNx_4, 10, .inr (.inr (.inr (.inr (fun _ => none))))))] := hD
    have hK : va_K (dC, dI) vwCl [(cNx_4, (.object "java/lang/Object"))] s := hK
    refine W.widen (k := 1) (n := 10) (Nat.le_of_ble_eq_true rfl) (Nat.le_of_ble_eq_true rfl) ?_
    refine lv_astore_n (lv' := [(2, .ref nax_3), (0, .ref lc), (1, .ref ob), (3, .int 0)]) hx hb dJx4a65c_add_72be8_10 rfl hl (by decide) rfl (fun ls hl => ?_)
    refine lv_aload_n hx hb dJx4a65c_add_72be8_11 rfl (lv_at hl 0 rfl) ?_
    refine lv_iload_n hx hb dJx4a65c_add_72be8_12 rfl (lv_at hl 3 rfl) ?_
    refine lv_aload_n hx hb dJx4a65c_add_72be8_13 rfl (lv_at hl 2 rfl) ?_
    refine va_astqM hx hb hK hP hD hS 2 0 rfl rfl (ow_any (va_recv hK hP (ci := 12) (q0 := 0) rfl rfl) (hamb.words (.castable RX6 "java/lang/Object") (by decide +kernel))) (vp_in_iff.mpr ⟨by decide, by decide⟩) dJx4a65c_add_72be8_14 (fun H locs hP hD hS => ?_)
    have hP : va_P (dC, dI) vwCl [(ob, .inr (12, [o0, o1, o2, o3, o4])), (lc, .inr (5, [w0, .ref nax_3, .int 0])), (nax_3, .inl (cNx_4, 10, .inr (.inr (.inr (.inr (va_up (fun _ => none) 0 (some ob)))))))] H := hP
    have hD : va_D A [(ob, .inr (12, [o0, o1, o2, o3, o4])), (lc, .inr (5, [w0, .ref nax_3, .int 0])), (nax_3, .inl (cNx_4, 10, .inr (.inr (.inr (.inr (va_up (fun _ => none) 0 (some ob)))))))] := hD
    refine lv_aload_n hx hb dJx4a65c_add_72be8_15 rfl (lv_at hl 1 rfl) ?_
    refine lv_iload_n hx hb dJx4a65c_add_72be8_16 rfl (lv_at hl 3 rfl) ?_
    refine lv_iconst (v := 1) hx hb dJx4a65c_add_72be8_17 (by decide) ?_
    refine lv_iadd hx hb dJx4a65c_add_72be8_18 ?_
    refine lv_topi (fun k_5 ek_5 => ?_)
    obtain rfl : k_5 = 1 := ek_5.trans (by decide)
    refine va_put (D := (dC, dI)) (ci := 5) (v := .int 1) (ty := .int) (C := RJx4a65c) (T := TJx4a65c) (N := 3) hx hb hts (by decide +kernel) tyJx4a65c tyJx4a65c_ok nmJx4a65c hown hK hP hD hS 1 rfl rfl 2 (by decide) (hts (.fieldLink RJx4a65c 48 "java/util/ArrayList" "size" "I") (by decide +kernel)) (fun _ h9 => h9) rfl (by decide +kernel) rfl rfl (Nat.le_of_ble_eq_true rfl) dJx4a65c_add_72be8_19 (fun H locs hP hD hS => ?_)
    have hP : va_P (dC, dI) vwCl [(ob, .inr (12, [o0, o1, o2, o3, o4])), (lc, .inr (5, [w0, .ref nax_3, .int 1])), (nax_3, .inl (cNx_4, 10, .inr (.inr (.inr (.inr (va_up (fun _ => none) 0 (some ob)))))))] H := hP
    have hD : va_D A [(ob, .inr (12, [o0, o1, o2, o3, o4])), (lc, .inr (5, [w0, .ref nax_3, .int 1])), (nax_3, .inl (cNx_4, 10, .inr (.inr (.inr (.inr (va_up (fun _ => none) 0 (some ob)))))))] := hD
    refine W.widen (k := 1) (n := 10) (Nat.le_of_ble_eq_true rfl) (Nat.le_of_ble_eq_true rfl) ?_
    have hP9 := hP.sub (ws' := [(lc, .inr (5, [w0, .ref nax_3, .int 1]))]) [1] rfl
    have hD9 := hD.sub (ws' := [(lc, .inr (5, [w0, .ref nax_3, .int 1]))]) [1] (by decide) rfl
    have hK9 := hK.sub (tys' := []) [] rfl
    exact W.vret hx hb hr (fun t ht hW => ⟨⟨(), rfl, trivial, ⟨(.ref nax_3), by rw [ht]; exact hP9, va_K.moved hW.alike hK9, hD9⟩⟩, hS.F ht⟩) hS.2.2 dJx4a65c_add_72be8_22

set_option maxHeartbeats 4000000 in
set_option maxRecDepth 100000 in
theorem c_Jx4a65c_add_9ea2d_obj (l : Launch) (em : Nat → Nat) (dC : Nat → ClassId) (dI : Nat → Nat → Nat) (lc : Nat) (ob : Nat) (o0 : Value) (o1 : Value) (o2 : Value) (o3 : Value) (o4 : Value) (sz : Nat) : Met l yJx4a65c_add_9ea2d wsJx4a65c_add_9ea2d ({ frames := 4, cells := 1, slots := 10, locals := 80 }) (va_Pc [.ref lc, .ref ob] (Pw em dC dI sz [(lc, .inr (5, [.int 0, .ref (em 0), .int 0])), (ob, .inr (12, [o0, o1, o2, o3, o4]))] [])) (va_Qi (fun (r : Int32) (_ : Unit) => r = 1) (fun _ t => ∃ (u9 : Value), Qw dC dI (va_A [(lc, .inr (5, [.int 0, .ref (em 0), .int 0])), (ob, .inr (12, [o0, o1, o2, o3, o4]))] sz) [(lc, .inr (5, [.int 1, u9, .int 1]))] [] t) (va_A [(lc, .inr (5, [.int 0, .ref (em 0), .int 0])), (ob, .inr (12, [o0, o1, o2, o3, o4]))] sz)) 1 10 (va_A [(lc, .inr (5, [.int 0, .ref (em 0), .int 0])), (ob, .inr (12, [o0, o1, o2, o3, o4]))] sz) := by
  refine Met.ofW (cc := cJx4a65c_add_9ea2d) (maxL := 2) (ret := (some .boolean)) (by decide) rfl ?_
  intro p e s m args below meth c s₁ B hml hv
  obtain ⟨rfl, hsz, hP, hK, hD0, hamb⟩ := hv
  have hx := B.exec
  have hb := B.bytes
  have hr := B.returns
  have hts := atoms_spec (ws := wsJx4a65c_add_9ea2d) B.pre
  have hown : s.vm.findClass RJx4a65c = some m.cls := findClass_of_methodNamed B.named
  have hlocks := B.notSynchronized
  subst hsz
  have hD := hD0.self (sz := s.heap.size)
  generalize hAe : va_A [(lc, .inr (5, [.int 0, .ref (em 0), .int 0])), (ob, .inr (12, [o0, o1, o2, o3, o4]))] s.heap.size = A at hD hamb ⊢
  have hA : ∀ q : Nat, s.heap.size ≤ q → A q := fun q h => by rw [← hAe]; exact Or.inr h
  have hS : va_S A s.heap s.heap [] := va_S.rf
  have hP : va_P (dC, dI) vwCl [(lc, .inr (5, [.int 0, .ref (em 0), .int 0])), (ob, .inr (12, [o0, o1, o2, o3, o4]))] s.heap := hP
  have hl := lv_entry ([.ref lc, .ref ob]) (n := 2) (Nat.le_of_ble_eq_true rfl)
  rw [lg_entry_eq]
  generalize (lg_sl ([.ref lc, .ref ob]) ++ List.replicate (2 - (lg_sl ([.ref lc, .ref ob])).length) Slot.unset).toArray = ls at hl ⊢
  have hl : lv_has ls 2 [(0, .ref lc), (1, .ref ob)] := hl
  refine lv_aload_n hx hb dJx4a65c_add_9ea2d_0 rfl (lv_at hl 0 rfl) ?_
  refine lv_dup hx hb dJx4a65c_add_9ea2d_1 rfl ?_
  refine va_get (D := (dC, dI)) (ci := 5) (v := .int 0) (C := RJx4a65c) (T := TJx4a65c) (N := 3) hx hb hts (by decide +kernel) hown hK hP 0 rfl rfl 0 (by decide) (hts (.fieldLink RJx4a65c 63 "java/util/ArrayList" "modCount" "I") (by decide +kernel)) (fun x h9 => u_same (hts (.sameField "java/util/ArrayList" "java/util/AbstractList" "modCount" "I") (by decide +kernel)) x h9) rfl dJx4a65c_add_9ea2d_2 ?_
  refine lv_iconst (v := 1) hx hb dJx4a65c_add_9ea2d_5 (by decide) ?_
  refine lv_iadd hx hb dJx4a65c_add_9ea2d_6 ?_
  refine lv_topi (fun k_1 ek_1 => ?_)
  obtain rfl : k_1 = 1 := ek_1.trans (by decide)
  refine va_put (D := (dC, dI)) (ci := 5) (v := .int 1) (ty := .int) (C := RJx4a65c) (T := TJx4a65c) (N := 3) hx hb hts (by decide +kernel) tyJx4a65c tyJx4a65c_ok nmJx4a65c hown hK hP hD hS 0 rfl rfl 0 (by decide) (hts (.fieldLink RJx4a65c 63 "java/util/ArrayList" "modCount" "I") (by decide +kernel)) (fun x h9 => u_same (hts (.sameField "java/util/ArrayList" "java/util/AbstractList" "modCount" "I") (by decide +kernel)) x h9) rfl (by decide +kernel) rfl rfl (Nat.le_of_ble_eq_true rfl) dJx4a65c_add_9ea2d_7 (fun H locs hP hD hS => ?_)
  have hP : va_P (dC, dI) vwCl [(lc, .inr (5, [.int 1, .ref (em 0), .int 0])), (ob, .inr (12, [o0, o1, o2, o3, o4]))] H := hP
  have hD : va_D A [(lc, .inr (5, [.int 1, .ref (em 0), .int 0])), (ob, .inr (12, [o0, o1, o2, o3, o4]))] := hD
  refine lv_aload_n hx hb dJx4a65c_add_9ea2d_10 rfl (lv_at hl 0 rfl) ?_
  refine lv_aload_n hx hb dJx4a65c_add_9ea2d_11 rfl (lv_at hl 1 rfl) ?_
  refine lv_aload_n hx hb dJx4a65c_add_9ea2d_12 rfl (lv_at hl 0 rfl) ?_
  refine va_get (D := (dC, dI)) (ci := 5) (v := .ref (em 0)) (C := RJx4a65c) (T := TJx4a65c) (N := 3) hx hb hts (by decide +kernel) hown hK hP 0 rfl rfl 1 (by decide) (hts (.fieldLink RJx4a65c 9 "java/util/ArrayList" "elementData" "[Ljava/lang/Object;") (by decide +kernel)) (fun _ h9 => h9) rfl dJx4a65c_add_9ea2d_13 ?_
  refine lv_aload_n hx hb dJx4a65c_add_9ea2d_16 rfl (lv_at hl 0 rfl) ?_
  refine va_get (D := (dC, dI)) (ci := 5) (v := .int 0) (C := RJx4a65c) (T := TJx4a65c) (N := 3) hx hb hts (by decide +kernel) hown hK hP 0 rfl rfl 2 (by decide) (hts (.fieldLink RJx4a65c 48 "java/util/ArrayList" "size" "I") (by decide +kernel)) (fun _ h9 => h9) rfl dJx4a65c_add_9ea2d_17 ?_
  have hPc := hP.sub (ws' := [(lc, .inr (5, [.int 1, .ref (em 0), .int 0])), (ob, .inr (12, [o0, o1, o2, o3, o4]))]) [0, 1] rfl
  have hDc := hD.sub (ws' := [(lc, .inr (5, [.int 1, .ref (em 0), .int 0])), (ob, .inr (12, [o0, o1, o2, o3, o4]))]) [0, 1] (by decide) rfl
  have hKc := hK.sub (tys' := []) [] rfl
  have hFc := va_free (wc := [(lc, .inr (5, [.int 1, .ref (em 0), .int 0])), (ob, .inr (12, [o0, o1, o2, o3, o4]))]) hD hS hA [0, 1] rfl
  refine va_callv (va_runV (As := [.ref ob, .ref (em 0), .int 0]) (rest := []) ⟨hx, hb, hml, hown, hts⟩ (c_Jx4a65c_add_72be8_obj l em dC dI lc (.int 1) ob o0 o1 o2 o3 o4 H.size) (cwV 3 hts gJx4a65c_add_9ea2d_Jx4a65c_add_72be8 rfl rfl rfl (by decide +kernel) ⟨Nat.le_of_ble_eq_true rfl, Nat.le_of_ble_eq_true rfl⟩) ⟨Pw.blind _ _ _ _ _ _ _, va_recv hKc hPc (ci := 5) (q0 := 0) rfl rfl, fun U hU hW => ⟨rfl, Pw.go hPc hKc hDc hamb hS hFc hU hW⟩⟩ rfl rfl hl.1 rfl (lv_room (Nat.le_of_ble_eq_true rfl)) dJx4a65c_add_9ea2d_20 ⟨Nat.le_of_ble_eq_true rfl, Nat.le_of_ble_eq_true rfl⟩) hS (fun q _ h => hFc q h) hFc (fun u t H1 locs1 ht hvm hw hB hz1 hk1 hS => ?_)
  obtain ⟨ux_3, hP1, hK1, hD1⟩ := hB
  rw [ht] at hP1
  have hK1 := va_K.moved hvm.symm hK1
  obtain ⟨hP, hD⟩ := va_join (wr := []) (w1 := [(lc, .inr (5, [.int 1, ux_3, .int 1]))]) hP hD [0, 1] [] rfl rfl (by decide) (by decide) hk1 hFc hP1 hD1
  have hK := (hK.sub (tys' := []) [] rfl).app hK1
  generalize H1 = H at hP hS ⊢
  have hP : va_P (dC, dI) vwCl [(lc, .inr (5, [.int 1, ux_3, .int 1]))] H := hP
  have hD : va_D A [(lc, .inr (5, [.int 1, ux_3, .int 1]))] := hD
  have hK : va_K (dC, dI) vwCl [] s := hK
  refine W.widen (k := 1) (n := 10) (Nat.le_of_ble_eq_true rfl) (Nat.le_of_ble_eq_true rfl) ?_
  refine lv_iconst (v := 1) hx hb dJx4a65c_add_9ea2d_23 (by decide) ?_
  refine W.widen (k := 1) (n := 10) (Nat.le_of_ble_eq_true rfl) (Nat.le_of_ble_eq_true rfl) ?_
  have hP9 := hP.sub (ws' := [(lc, .inr (5, [.int 1, ux_3, .int 1]))]) [0] rfl
  have hD9 := hD.sub (ws' := [(lc, .inr (5, [.int 1, ux_3, .int 1]))]) [0] (by decide) rfl
  have hK9 := hK.sub (tys' := []) [] rfl
  exact W.zret (v := 1) hx hb hr rfl (fun t ht hW => ⟨⟨1, (), rfl, rfl, ⟨(ux_3), by rw [ht]; exact hP9, va_K.moved hW.alike hK9, hD9⟩⟩, hS.F ht⟩) hS.2.2 dJx4a65c_add_9ea2d_24

set_option maxHeartbeats 4000000 in
set_option maxRecDepth 100000 in
theorem c_Jx4a65c_add_72be8_arr (l : Launch) (em : Nat → Nat) (dC : Nat → ClassId) (dI : Nat → Nat → Nat) (lc : Nat) (w0 : Value) (ob : Nat) (cE : ClassId) (fE : Nat → Int32) (sz : Nat) : Met l yJx4a65c_add_72be8 wsJx4a65c_add_72be8 ({ frames := 3, cells := 1, slots := 10, locals := 57 }) (va_Pc [.ref lc, .ref ob, .ref (em 0), .int 0] (Pw em dC dI sz [(lc, .inr (5, [w0, .ref (em 0), .int 0])), (ob, .inl (cE, 3, .inl fE))] [(cE, .int)])) (va_Qv (fun _ : Unit => True) (fun _ t => ∃ (u9 : Value), Qw dC dI (va_A [(lc, .inr (5, [w0, .ref (em 0), .int 0])), (ob, .inl (cE, 3, .inl fE))] sz) [(lc, .inr (5, [w0, u9, .int 1]))] [] t) (va_A [(lc, .inr (5, [w0, .ref (em 0), .int 0])), (ob, .inl (cE, 3, .inl fE))] sz)) 1 10 (va_A [(lc, .inr (5, [w0, .ref (em 0), .int 0])), (ob, .inl (cE, 3, .inl fE))] sz) := by
  refine Met.ofW (cc := cJx4a65c_add_72be8) (maxL := 4) (ret := none) (by decide) rfl ?_
  intro p e s m args below meth c s₁ B hml hv
  obtain ⟨rfl, hsz, hP, hK, hD0, hamb⟩ := hv
  have hx := B.exec
  have hb := B.bytes
  have hr := B.returns
  have hts := atoms_spec (ws := wsJx4a65c_add_72be8) B.pre
  have hown : s.vm.findClass RJx4a65c = some m.cls := findClass_of_methodNamed B.named
  have hlocks := B.notSynchronized
  subst hsz
  have hD := hD0.self (sz := s.heap.size)
  generalize hAe : va_A [(lc, .inr (5, [w0, .ref (em 0), .int 0])), (ob, .inl (cE, 3, .inl fE))] s.heap.size = A at hD hamb ⊢
  have hA : ∀ q : Nat, s.heap.size ≤ q → A q := fun q h => by rw [← hAe]; exact Or.inr h
  have hS : va_S A s.heap s.heap [] := va_S.rf
  have hP : va_P (dC, dI) vwCl [(lc, .inr (5, [w0, .ref (em 0), .int 0])), (ob, .inl (cE, 3, .inl fE))] s.heap := hP
  have hl := lv_entry ([.ref lc, .ref ob, .ref (em 0), .int 0]) (n := 4) (Nat.le_of_ble_eq_true rfl)
  rw [lg_entry_eq]
  generalize (lg_sl ([.ref lc, .ref ob, .ref (em 0), .int 0]) ++ List.replicate (4 - (lg_sl ([.ref lc, .ref ob, .ref (em 0), .int 0])).length) Slot.unset).toArray = ls at hl ⊢
  have hl : lv_has ls 4 [(0, .ref lc), (1, .ref ob), (2, .ref (em 0)), (3, .int 0)] := hl
  refine lv_iload_n hx hb dJx4a65c_add_72be8_0 rfl (lv_at hl 3 rfl) ?_
  refine lv_aload_n hx hb dJx4a65c_add_72be8_1 rfl (lv_at hl 2 rfl) ?_
  refine va_tlen hx hb hamb.t0 hS (v := 0) (by decide) dJx4a65c_add_72be8_2 ?_
  refine lv_icmp_ne (tgt := 11) hx hb dJx4a65c_add_72be8_3 (by decide) (fun c_1 => ?_) (fun c_1 => ?_)
  · exact absurd (by decide) c_1
  · refine lv_aload_n hx hb dJx4a65c_add_72be8_6 rfl (lv_at hl 0 rfl) ?_
    have hPc := hP.sub (ws' := [(lc, .inr (5, [w0, .ref (em 0), .int 0]))]) [0] rfl
    have hDc := hD.sub (ws' := [(lc, .inr (5, [w0, .ref (em 0), .int 0]))]) [0] (by decide) rfl
    have hKc := hK.sub (tys' := []) [] rfl
    have hFc := va_free (wc := [(lc, .inr (5, [w0, .ref (em 0), .int 0]))]) hD hS hA [0] rfl
    refine va_callr (va_runV (As := []) (rest := []) ⟨hx, hb, hml, hown, hts⟩ (c_Jx4a65c_grow_d5877 l em dC dI lc w0 s.heap.size) (cwV 0 hts gJx4a65c_add_72be8_Jx4a65c_grow_d5877 rfl rfl rfl (by decide +kernel) ⟨Nat.le_of_ble_eq_true rfl, Nat.le_of_ble_eq_true rfl⟩) ⟨Pw.blind _ _ _ _ _ _ _, va_recv hKc hPc (ci := 5) (q0 := 0) rfl rfl, fun U hU hW => ⟨rfl, Pw.go hPc hKc hDc hamb hS hFc hU hW⟩⟩ rfl rfl hl.1 rfl (lv_room (Nat.le_of_ble_eq_true rfl)) dJx4a65c_add_72be8_7 ⟨Nat.le_of_ble_eq_true rfl, Nat.le_of_ble_eq_true rfl⟩) hS (fun q _ h => hFc q h) hFc (fun u ra t H1 locs1 ht hvm hw hB hz1 hk1 hS => ?_)
    generalize ra = nax_3 at hB ⊢
    obtain ⟨cNx_4, hP1, hK1, hD1⟩ := hB
    rw [ht] at hP1
    have hK1 := va_K.moved hvm.symm hK1
    obtain ⟨hP, hD⟩ := va_join (wr := [(ob, .inl (cE, 3, .inl fE))]) (w1 := [(lc, .inr (5, [w0, .ref nax_3, .int 0])), (nax_3, .inl (cNx_4, 10, .inr (.inr (.inr (.inr (fun _ => none))))))]) hP hD [0] [1] rfl rfl (by decide) (by decide) hk1 hFc hP1 hD1
    have hK := (hK.sub (tys' := [(cE, .int)]) [0] rfl).app hK1
    generalize H1 = H at hP hS ⊢
    have hP : va_P (dC, dI) vwCl [(ob, .inl (cE, 3, .inl fE)), (lc, .inr (5, [w0, .ref nax_3, .int 0])), (nax_3, .inl (cNx_4, 10, .inr (.inr (.inr (.inr (fun _ => none))))))] H := hP
    have hD : va_D A [(ob, .inl (cE, 3, .inl fE)), (lc, .inr (5, [w0, .ref nax_3, .int 0])), (nax_3, .inl (cNx_4, 10, .inr (.inr (.inr (.inr (fun _ => none))))))] := hD
    have hK : va_K (dC, dI) vwCl [(cE, .int), (cNx_4, (.object "java/lang/Object"))] s := hK
    refine W.widen (k := 1) (n := 10) (Nat.le_of_ble_eq_true rfl) (Nat.le_of_ble_eq_true rfl) ?_
    refine lv_astore_n (lv' := [(2, .ref nax_3), (0, .ref lc), (1, .ref ob), (3, .int 0)]) hx hb dJx4a65c_add_72be8_10 rfl hl (by decide) rfl (fun ls hl => ?_)
    refine lv_aload_n hx hb dJx4a65c_add_72be8_11 rfl (lv_at hl 0 rfl) ?_
    refine lv_iload_n hx hb dJx4a65c_add_72be8_12 rfl (lv_at hl 3 rfl) ?_
    refine lv_aload_n hx hb dJx4a65c_add_72be8_13 rfl (lv_at hl 2 rfl) ?_
    refine va_astqM hx hb hK hP hD hS 2 1 rfl rfl (ow_anyI hK hP 0 0 rfl rfl (hamb.words (.castable "[I" "java/lang/Object") (by decide +kernel))) (vp_in_iff.mpr ⟨by decide, by decide⟩) dJx4a65c_add_72be8_14 (fun H locs hP hD hS => ?_)
    have hP : va_P (dC, dI) vwCl [(ob, .inl (cE, 3, .inl fE)), (lc, .inr (5, [w0, .ref nax_3, .int 0])), (nax_3, .inl (cNx_4, 10, .inr (.inr (.inr (.inr (va_up (fun _ => none) 0 (some ob)))))))] H := hP
    have hD : va_D A [(ob, .inl (cE, 3, .inl fE)), (lc, .inr (5, [w0, .ref nax_3, .int 0])), (nax_3, .inl (cNx_4, 10, .inr (.inr (.inr (.inr (va_up (fun _ => none) 0 (some ob)))))))] := hD
    refine lv_aload_n hx hb dJx4a65c_add_72be8_15 rfl (lv_at hl 1 rfl) ?_
    refine lv_iload_n hx hb dJx4a65c_add_72be8_16 rfl (lv_at hl 3 rfl) ?_
    refine lv_iconst (v := 1) hx hb dJx4a65c_add_72be8_17 (by decide) ?_
    refine lv_iadd hx hb dJx4a65c_add_72be8_18 ?_
    refine lv_topi (fun k_5 ek_5 => ?_)
    obtain rfl : k_5 = 1 := ek_5.trans (by decide)
    refine va_put (D := (dC, dI)) (ci := 5) (v := .int 1) (ty := .int) (C := RJx4a65c) (T := TJx4a65c) (N := 3) hx hb hts (by decide +kernel) tyJx4a65c tyJx4a65c_ok nmJx4a65c hown hK hP hD hS 1 rfl rfl 2 (by decide) (hts (.fieldLink RJx4a65c 48 "java/util/ArrayList" "size" "I") (by decide +kernel)) (fun _ h9 => h9) rfl (by decide +kernel) rfl rfl (Nat.le_of_ble_eq_true rfl) dJx4a65c_add_72be8_19 (fun H locs hP hD hS => ?_)
    have hP : va_P (dC, dI) vwCl [(ob, .inl (cE, 3, .inl fE)), (lc, .inr (5, [w0, .ref nax_3, .int 1])), (nax_3, .inl (cNx_4, 10, .inr (.inr (.inr (.inr (va_up (fun _ => none) 0 (some ob)))))))] H := hP
    have hD : va_D A [(ob, .inl (cE, 3, .inl fE)), (lc, .inr (5, [w0, .ref nax_3, .int 1])), (nax_3, .inl (cNx_4, 10, .inr (.inr (.inr (.inr (va_up (fun _ => none) 0 (some ob)))))))] := hD
    refine W.widen (k := 1) (n := 10) (Nat.le_of_ble_eq_true rfl) (Nat.le_of_ble_eq_true rfl) ?_
    have hP9 := hP.sub (ws' := [(lc, .inr (5, [w0, .ref nax_3, .int 1]))]) [1] rfl
    have hD9 := hD.sub (ws' := [(lc, .inr (5, [w0, .ref nax_3, .int 1]))]) [1] (by decide) rfl
    have hK9 := hK.sub (tys' := []) [] rfl
    exact W.vret hx hb hr (fun t ht hW => ⟨⟨(), rfl, trivial, ⟨(.ref nax_3), by rw [ht]; exact hP9, va_K.moved hW.alike hK9, hD9⟩⟩, hS.F ht⟩) hS.2.2 dJx4a65c_add_72be8_22

set_option maxHeartbeats 4000000 in
set_option maxRecDepth 100000 in
theorem c_Jx4a65c_add_9ea2d_arr (l : Launch) (em : Nat → Nat) (dC : Nat → ClassId) (dI : Nat → Nat → Nat) (lc : Nat) (ob : Nat) (cE : ClassId) (fE : Nat → Int32) (sz : Nat) : Met l yJx4a65c_add_9ea2d wsJx4a65c_add_9ea2d ({ frames := 4, cells := 1, slots := 10, locals := 80 }) (va_Pc [.ref lc, .ref ob] (Pw em dC dI sz [(lc, .inr (5, [.int 0, .ref (em 0), .int 0])), (ob, .inl (cE, 3, .inl fE))] [(cE, .int)])) (va_Qi (fun (r : Int32) (_ : Unit) => r = 1) (fun _ t => ∃ (u9 : Value), Qw dC dI (va_A [(lc, .inr (5, [.int 0, .ref (em 0), .int 0])), (ob, .inl (cE, 3, .inl fE))] sz) [(lc, .inr (5, [.int 1, u9, .int 1]))] [] t) (va_A [(lc, .inr (5, [.int 0, .ref (em 0), .int 0])), (ob, .inl (cE, 3, .inl fE))] sz)) 1 10 (va_A [(lc, .inr (5, [.int 0, .ref (em 0), .int 0])), (ob, .inl (cE, 3, .inl fE))] sz) := by
  refine Met.ofW (cc := cJx4a65c_add_9ea2d) (maxL := 2) (ret := (some .boolean)) (by decide) rfl ?_
  intro p e s m args below meth c s₁ B hml hv
  obtain ⟨rfl, hsz, hP, hK, hD0, hamb⟩ := hv
  have hx := B.exec
  have hb := B.bytes
  have hr := B.returns
  have hts := atoms_spec (ws := wsJx4a65c_add_9ea2d) B.pre
  have hown : s.vm.findClass RJx4a65c = some m.cls := findClass_of_methodNamed B.named
  have hlocks := B.notSynchronized
  subst hsz
  have hD := hD0.self (sz := s.heap.size)
  generalize hAe : va_A [(lc, .inr (5, [.int 0, .ref (em 0), .int 0])), (ob, .inl (cE, 3, .inl fE))] s.heap.size = A at hD hamb ⊢
  have hA : ∀ q : Nat, s.heap.size ≤ q → A q := fun q h => by rw [← hAe]; exact Or.inr h
  have hS : va_S A s.heap s.heap [] := va_S.rf
  have hP : va_P (dC, dI) vwCl [(lc, .inr (5, [.int 0, .ref (em 0), .int 0])), (ob, .inl (cE, 3, .inl fE))] s.heap := hP
  have hl := lv_entry ([.ref lc, .ref ob]) (n := 2) (Nat.le_of_ble_eq_true rfl)
  rw [lg_entry_eq]
  generalize (lg_sl ([.ref lc, .ref ob]) ++ List.replicate (2 - (lg_sl ([.ref lc, .ref ob])).length) Slot.unset).toArray = ls at hl ⊢
  have hl : lv_has ls 2 [(0, .ref lc), (1, .ref ob)] := hl
  refine lv_aload_n hx hb dJx4a65c_add_9ea2d_0 rfl (lv_at hl 0 rfl) ?_
  refine lv_dup hx hb dJx4a65c_add_9ea2d_1 rfl ?_
  refine va_get (D := (dC, dI)) (ci := 5) (v := .int 0) (C := RJx4a65c) (T := TJx4a65c) (N := 3) hx hb hts (by decide +kernel) hown hK hP 0 rfl rfl 0 (by decide) (hts (.fieldLink RJx4a65c 63 "java/util/ArrayList" "modCount" "I") (by decide +kernel)) (fun x h9 => u_same (hts (.sameField "java/util/ArrayList" "java/util/AbstractList" "modCount" "I") (by decide +kernel)) x h9) rfl dJx4a65c_add_9ea2d_2 ?_
  refine lv_iconst (v := 1) hx hb dJx4a65c_add_9ea2d_5 (by decide) ?_
  refine lv_iadd hx hb dJx4a65c_add_9ea2d_6 ?_
  refine lv_topi (fun k_1 ek_1 => ?_)
  obtain rfl : k_1 = 1 := ek_1.trans (by decide)
  refine va_put (D := (dC, dI)) (ci := 5) (v := .int 1) (ty := .int) (C := RJx4a65c) (T := TJx4a65c) (N := 3) hx hb hts (by decide +kernel) tyJx4a65c tyJx4a65c_ok nmJx4a65c hown hK hP hD hS 0 rfl rfl 0 (by decide) (hts (.fieldLink RJx4a65c 63 "java/util/ArrayList" "modCount" "I") (by decide +kernel)) (fun x h9 => u_same (hts (.sameField "java/util/ArrayList" "java/util/AbstractList" "modCount" "I") (by decide +kernel)) x h9) rfl (by decide +kernel) rfl rfl (Nat.le_of_ble_eq_true rfl) dJx4a65c_add_9ea2d_7 (fun H locs hP hD hS => ?_)
  have hP : va_P (dC, dI) vwCl [(lc, .inr (5, [.int 1, .ref (em 0), .int 0])), (ob, .inl (cE, 3, .inl fE))] H := hP
  have hD : va_D A [(lc, .inr (5, [.int 1, .ref (em 0), .int 0])), (ob, .inl (cE, 3, .inl fE))] := hD
  refine lv_aload_n hx hb dJx4a65c_add_9ea2d_10 rfl (lv_at hl 0 rfl) ?_
  refine lv_aload_n hx hb dJx4a65c_add_9ea2d_11 rfl (lv_at hl 1 rfl) ?_
  refine lv_aload_n hx hb dJx4a65c_add_9ea2d_12 rfl (lv_at hl 0 rfl) ?_
  refine va_get (D := (dC, dI)) (ci := 5) (v := .ref (em 0)) (C := RJx4a65c) (T := TJx4a65c) (N := 3) hx hb hts (by decide +kernel) hown hK hP 0 rfl rfl 1 (by decide) (hts (.fieldLink RJx4a65c 9 "java/util/ArrayList" "elementData" "[Ljava/lang/Object;") (by decide +kernel)) (fun _ h9 => h9) rfl dJx4a65c_add_9ea2d_13 ?_
  refine lv_aload_n hx hb dJx4a65c_add_9ea2d_16 rfl (lv_at hl 0 rfl) ?_
  refine va_get (D := (dC, dI)) (ci := 5) (v := .int 0) (C := RJx4a65c) (T := TJx4a65c) (N := 3) hx hb hts (by decide +kernel) hown hK hP 0 rfl rfl 2 (by decide) (hts (.fieldLink RJx4a65c 48 "java/util/ArrayList" "size" "I") (by decide +kernel)) (fun _ h9 => h9) rfl dJx4a65c_add_9ea2d_17 ?_
  have hPc := hP.sub (ws' := [(lc, .inr (5, [.int 1, .ref (em 0), .int 0])), (ob, .inl (cE, 3, .inl fE))]) [0, 1] rfl
  have hDc := hD.sub (ws' := [(lc, .inr (5, [.int 1, .ref (em 0), .int 0])), (ob, .inl (cE, 3, .inl fE))]) [0, 1] (by decide) rfl
  have hKc := hK.sub (tys' := [(cE, .int)]) [0] rfl
  have hFc := va_free (wc := [(lc, .inr (5, [.int 1, .ref (em 0), .int 0])), (ob, .inl (cE, 3, .inl fE))]) hD hS hA [0, 1] rfl
  refine va_callv (va_runV (As := [.ref ob, .ref (em 0), .int 0]) (rest := []) ⟨hx, hb, hml, hown, hts⟩ (c_Jx4a65c_add_72be8_arr l em dC dI lc (.int 1) ob cE fE H.size) (cwV 3 hts gJx4a65c_add_9ea2d_Jx4a65c_add_72be8 rfl rfl rfl (by decide +kernel) ⟨Nat.le_of_ble_eq_true rfl, Nat.le_of_ble_eq_true rfl⟩) ⟨Pw.blind _ _ _ _ _ _ _, va_recv hKc hPc (ci := 5) (q0 := 0) rfl rfl, fun U hU hW => ⟨rfl, Pw.go hPc hKc hDc hamb hS hFc hU hW⟩⟩ rfl rfl hl.1 rfl (lv_room (Nat.le_of_ble_eq_true rfl)) dJx4a65c_add_9ea2d_20 ⟨Nat.le_of_ble_eq_true rfl, Nat.le_of_ble_eq_true rfl⟩) hS (fun q _ h => hFc q h) hFc (fun u t H1 locs1 ht hvm hw hB hz1 hk1 hS => ?_)
  obtain ⟨ux_3, hP1, hK1, hD1⟩ := hB
  rw [ht] at hP1
  have hK1 := va_K.moved hvm.symm hK1
  obtain ⟨hP, hD⟩ := va_join (wr := []) (w1 := [(lc, .inr (5, [.int 1, ux_3, .int 1]))]) hP hD [0, 1] [] rfl rfl (by decide) (by decide) hk1 hFc hP1 hD1
  have hK := (hK.sub (tys' := [(cE, .int)]) [0] rfl).app hK1
  generalize H1 = H at hP hS ⊢
  have hP : va_P (dC, dI) vwCl [(lc, .inr (5, [.int 1, ux_3, .int 1]))] H := hP
  have hD : va_D A [(lc, .inr (5, [.int 1, ux_3, .int 1]))] := hD
  have hK : va_K (dC, dI) vwCl [(cE, .int)] s := hK
  refine W.widen (k := 1) (n := 10) (Nat.le_of_ble_eq_true rfl) (Nat.le_of_ble_eq_true rfl) ?_
  refine lv_iconst (v := 1) hx hb dJx4a65c_add_9ea2d_23 (by decide) ?_
  refine W.widen (k := 1) (n := 10) (Nat.le_of_ble_eq_true rfl) (Nat.le_of_ble_eq_true rfl) ?_
  have hP9 := hP.sub (ws' := [(lc, .inr (5, [.int 1, ux_3, .int 1]))]) [0] rfl
  have hD9 := hD.sub (ws' := [(lc, .inr (5, [.int 1, ux_3, .int 1]))]) [0] (by decide) rfl
  have hK9 := hK.sub (tys' := []) [] rfl
  exact W.zret (v := 1) hx hb hr rfl (fun t ht hW => ⟨⟨1, (), rfl, rfl, ⟨(ux_3), by rw [ht]; exact hP9, va_K.moved hW.alike hK9, hD9⟩⟩, hS.F ht⟩) hS.2.2 dJx4a65c_add_9ea2d_24

set_option maxHeartbeats 4000000 in
set_option maxRecDepth 100000 in
theorem c_Jx4a65c_add_72be8_old (l : Launch) (em : Nat → Nat) (dC : Nat → ClassId) (dI : Nat → Nat → Nat) (lc : Nat) (w0 : Value) (k9 : Nat) (hk9 : k9 < 256) (sz : Nat) : Met l yJx4a65c_add_72be8 wsJx4a65c_add_72be8 ({ frames := 3, cells := 1, slots := 10, locals := 57 }) (va_Pc [.ref lc, .ref (em (4 + k9)), .ref (em 0), .int 0] (Pw em dC dI sz [(lc, .inr (5, [w0, .ref (em 0), .int 0]))] [])) (va_Qv (fun _ : Unit => True) (fun _ t => ∃ (u9 : Value), Qw dC dI (va_A [(lc, .inr (5, [w0, .ref (em 0), .int 0]))] sz) [(lc, .inr (5, [w0, u9, .int 1]))] [] t) (va_A [(lc, .inr (5, [w0, .ref (em 0), .int 0]))] sz)) 1 10 (va_A [(lc, .inr (5, [w0, .ref (em 0), .int 0]))] sz) := by
  refine Met.ofW (cc := cJx4a65c_add_72be8) (maxL := 4) (ret := none) (by decide) rfl ?_
  intro p e s m args below meth c s₁ B hml hv
  obtain ⟨rfl, hsz, hP, hK, hD0, hamb⟩ := hv
  have hx := B.exec
  have hb := B.bytes
  have hr := B.returns
  have hts := atoms_spec (ws := wsJx4a65c_add_72be8) B.pre
  have hown : s.vm.findClass RJx4a65c = some m.cls := findClass_of_methodNamed B.named
  have hlocks := B.notSynchronized
  subst hsz
  have hD := hD0.self (sz := s.heap.size)
  generalize hAe : va_A [(lc, .inr (5, [w0, .ref (em 0), .int 0]))] s.heap.size = A at hD hamb ⊢
  have hA : ∀ q : Nat, s.heap.size ≤ q → A q := fun q h => by rw [← hAe]; exact Or.inr h
  have hS : va_S A s.heap s.heap [] := va_S.rf
  have hP : va_P (dC, dI) vwCl [(lc, .inr (5, [w0, .ref (em 0), .int 0]))] s.heap := hP
  have hl := lv_entry ([.ref lc, .ref (em (4 + k9)), .ref (em 0), .int 0]) (n := 4) (Nat.le_of_ble_eq_true rfl)
  rw [lg_entry_eq]
  generalize (lg_sl ([.ref lc, .ref (em (4 + k9)), .ref (em 0), .int 0]) ++ List.replicate (4 - (lg_sl ([.ref lc, .ref (em (4 + k9)), .ref (em 0), .int 0])).length) Slot.unset).toArray = ls at hl ⊢
  have hl : lv_has ls 4 [(0, .ref lc), (1, .ref (em (4 + k9))), (2, .ref (em 0)), (3, .int 0)] := hl
  refine lv_iload_n hx hb dJx4a65c_add_72be8_0 rfl (lv_at hl 3 rfl) ?_
  refine lv_aload_n hx hb dJx4a65c_add_72be8_1 rfl (lv_at hl 2 rfl) ?_
  refine va_tlen hx hb hamb.t0 hS (v := 0) (by decide) dJx4a65c_add_72be8_2 ?_
  refine lv_icmp_ne (tgt := 11) hx hb dJx4a65c_add_72be8_3 (by decide) (fun c_1 => ?_) (fun c_1 => ?_)
  · exact absurd (by decide) c_1
  · refine lv_aload_n hx hb dJx4a65c_add_72be8_6 rfl (lv_at hl 0 rfl) ?_
    have hPc := hP.sub (ws' := [(lc, .inr (5, [w0, .ref (em 0), .int 0]))]) [0] rfl
    have hDc := hD.sub (ws' := [(lc, .inr (5, [w0, .ref (em 0), .int 0]))]) [0] (by decide) rfl
    have hKc := hK.sub (tys' := []) [] rfl
    have hFc := va_free (wc := [(lc, .inr (5, [w0, .ref (em 0), .int 0]))]) hD hS hA [0] rfl
    refine va_callr (va_runV (As := []) (rest := []) ⟨hx, hb, hml, hown, hts⟩ (c_Jx4a65c_grow_d5877 l em dC dI lc w0 s.heap.size) (cwV 0 hts gJx4a65c_add_72be8_Jx4a65c_grow_d5877 rfl rfl rfl (by decide +kernel) ⟨Nat.le_of_ble_eq_true rfl, Nat.le_of_ble_eq_true rfl⟩) ⟨Pw.blind _ _ _ _ _ _ _, va_recv hKc hPc (ci := 5) (q0 := 0) rfl rfl, fun U hU hW => ⟨rfl, Pw.go hPc hKc hDc hamb hS hFc hU hW⟩⟩ rfl rfl hl.1 rfl (lv_room (Nat.le_of_ble_eq_true rfl)) dJx4a65c_add_72be8_7 ⟨Nat.le_of_ble_eq_true rfl, Nat.le_of_ble_eq_true rfl⟩) hS (fun q _ h => hFc q h) hFc (fun u ra t H1 locs1 ht hvm hw hB hz1 hk1 hS => ?_)
    generalize ra = nax_3 at hB ⊢
    obtain ⟨cNx_4, hP1, hK1, hD1⟩ := hB
    rw [ht] at hP1
    have hK1 := va_K.moved hvm.symm hK1
    obtain ⟨hP, hD⟩ := va_join (wr := []) (w1 := [(lc, .inr (5, [w0, .ref nax_3, .int 0])), (nax_3, .inl (cNx_4, 10, .inr (.inr (.inr (.inr (fun _ => none))))))]) hP hD [0] [] rfl rfl (by decide) (by decide) hk1 hFc hP1 hD1
    have hK := (hK.sub (tys' := []) [] rfl).app hK1
    generalize H1 = H at hP hS ⊢
    have hP : va_P (dC, dI) vwCl [(lc, .inr (5, [w0, .ref nax_3, .int 0])), (nax_3, .inl (cNx_4, 10, .inr (.inr (.inr (.inr (fun _ => none))))))] H := hP
    have hD : va_D A [(lc, .inr (5, [w0, .ref nax_3, .int 0])), (nax_3, .inl (cNx_4, 10, .inr (.inr (.inr (.inr (fun _ => none))))))] := hD
    have hK : va_K (dC, dI) vwCl [(cNx_4, (.object "java/lang/Object"))] s := hK
    refine W.widen (k := 1) (n := 10) (Nat.le_of_ble_eq_true rfl) (Nat.le_of_ble_eq_true rfl) ?_
    refine lv_astore_n (lv' := [(2, .ref nax_3), (0, .ref lc), (1, .ref (em (4 + k9))), (3, .int 0)]) hx hb dJx4a65c_add_72be8_10 rfl hl (by decide) rfl (fun ls hl => ?_)
    refine lv_aload_n hx hb dJx4a65c_add_72be8_11 rfl (lv_at hl 0 rfl) ?_
    refine lv_iload_n hx hb dJx4a65c_add_72be8_12 rfl (lv_at hl 3 rfl) ?_
    refine lv_aload_n hx hb dJx4a65c_add_72be8_13 rfl (lv_at hl 2 rfl) ?_
    refine va_astqM hx hb hK hP hD hS 1 0 rfl rfl (ow_any (ow_old (hamb.vb.1 k9 hk9) hS) (hamb.words (.castable "java/lang/Integer" "java/lang/Object") (by decide +kernel))) (vp_in_iff.mpr ⟨by decide, by decide⟩) dJx4a65c_add_72be8_14 (fun H locs hP hD hS => ?_)
    have hP : va_P (dC, dI) vwCl [(lc, .inr (5, [w0, .ref nax_3, .int 0])), (nax_3, .inl (cNx_4, 10, .inr (.inr (.inr (.inr (va_up (fun _ => none) 0 (some (em (4 + k9)))))))))] H := hP
    have hD : va_D A [(lc, .inr (5, [w0, .ref nax_3, .int 0])), (nax_3, .inl (cNx_4, 10, .inr (.inr (.inr (.inr (va_up (fun _ => none) 0 (some (em (4 + k9)))))))))] := hD
    refine lv_aload_n hx hb dJx4a65c_add_72be8_15 rfl (lv_at hl 1 rfl) ?_
    refine lv_iload_n hx hb dJx4a65c_add_72be8_16 rfl (lv_at hl 3 rfl) ?_
    refine lv_iconst (v := 1) hx hb dJx4a65c_add_72be8_17 (by decide) ?_
    refine lv_iadd hx hb dJx4a65c_add_72be8_18 ?_
    refine lv_topi (fun k_5 ek_5 => ?_)
    obtain rfl : k_5 = 1 := ek_5.trans (by decide)
    refine va_put (D := (dC, dI)) (ci := 5) (v := .int 1) (ty := .int) (C := RJx4a65c) (T := TJx4a65c) (N := 3) hx hb hts (by decide +kernel) tyJx4a65c tyJx4a65c_ok nmJx4a65c hown hK hP hD hS 0 rfl rfl 2 (by decide) (hts (.fieldLink RJx4a65c 48 "java/util/ArrayList" "size" "I") (by decide +kernel)) (fun _ h9 => h9) rfl (by decide +kernel) rfl rfl (Nat.le_of_ble_eq_true rfl) dJx4a65c_add_72be8_19 (fun H locs hP hD hS => ?_)
    have hP : va_P (dC, dI) vwCl [(lc, .inr (5, [w0, .ref nax_3, .int 1])), (nax_3, .inl (cNx_4, 10, .inr (.inr (.inr (.inr (va_up (fun _ => none) 0 (some (em (4 + k9)))))))))] H := hP
    have hD : va_D A [(lc, .inr (5, [w0, .ref nax_3, .int 1])), (nax_3, .inl (cNx_4, 10, .inr (.inr (.inr (.inr (va_up (fun _ => none) 0 (some (em (4 + k9)))))))))] := hD
    refine W.widen (k := 1) (n := 10) (Nat.le_of_ble_eq_true rfl) (Nat.le_of_ble_eq_true rfl) ?_
    have hP9 := hP.sub (ws' := [(lc, .inr (5, [w0, .ref nax_3, .int 1]))]) [0] rfl
    have hD9 := hD.sub (ws' := [(lc, .inr (5, [w0, .ref nax_3, .int 1]))]) [0] (by decide) rfl
    have hK9 := hK.sub (tys' := []) [] rfl
    exact W.vret hx hb hr (fun t ht hW => ⟨⟨(), rfl, trivial, ⟨(.ref nax_3), by rw [ht]; exact hP9, va_K.moved hW.alike hK9, hD9⟩⟩, hS.F ht⟩) hS.2.2 dJx4a65c_add_72be8_22

set_option maxHeartbeats 4000000 in
set_option maxRecDepth 100000 in
theorem c_Jx4a65c_add_9ea2d_old (l : Launch) (em : Nat → Nat) (dC : Nat → ClassId) (dI : Nat → Nat → Nat) (lc : Nat) (k9 : Nat) (hk9 : k9 < 256) (sz : Nat) : Met l yJx4a65c_add_9ea2d wsJx4a65c_add_9ea2d ({ frames := 4, cells := 1, slots := 10, locals := 80 }) (va_Pc [.ref lc, .ref (em (4 + k9))] (Pw em dC dI sz [(lc, .inr (5, [.int 0, .ref (em 0), .int 0]))] [])) (va_Qi (fun (r : Int32) (_ : Unit) => r = 1) (fun _ t => ∃ (u9 : Value), Qw dC dI (va_A [(lc, .inr (5, [.int 0, .ref (em 0), .int 0]))] sz) [(lc, .inr (5, [.int 1, u9, .int 1]))] [] t) (va_A [(lc, .inr (5, [.int 0, .ref (em 0), .int 0]))] sz)) 1 10 (va_A [(lc, .inr (5, [.int 0, .ref (em 0), .int 0]))] sz) := by
  refine Met.ofW (cc := cJx4a65c_add_9ea2d) (maxL := 2) (ret := (some .boolean)) (by decide) rfl ?_
  intro p e s m args below meth c s₁ B hml hv
  obtain ⟨rfl, hsz, hP, hK, hD0, hamb⟩ := hv
  have hx := B.exec
  have hb := B.bytes
  have hr := B.returns
  have hts := atoms_spec (ws := wsJx4a65c_add_9ea2d) B.pre
  have hown : s.vm.findClass RJx4a65c = some m.cls := findClass_of_methodNamed B.named
  have hlocks := B.notSynchronized
  subst hsz
  have hD := hD0.self (sz := s.heap.size)
  generalize hAe : va_A [(lc, .inr (5, [.int 0, .ref (em 0), .int 0]))] s.heap.size = A at hD hamb ⊢
  have hA : ∀ q : Nat, s.heap.size ≤ q → A q := fun q h => by rw [← hAe]; exact Or.inr h
  have hS : va_S A s.heap s.heap [] := va_S.rf
  have hP : va_P (dC, dI) vwCl [(lc, .inr (5, [.int 0, .ref (em 0), .int 0]))] s.heap := hP
  have hl := lv_entry ([.ref lc, .ref (em (4 + k9))]) (n := 2) (Nat.le_of_ble_eq_true rfl)
  rw [lg_entry_eq]
  generalize (lg_sl ([.ref lc, .ref (em (4 + k9))]) ++ List.replicate (2 - (lg_sl ([.ref lc, .ref (em (4 + k9))])).length) Slot.unset).toArray = ls at hl ⊢
  have hl : lv_has ls 2 [(0, .ref lc), (1, .ref (em (4 + k9)))] := hl
  refine lv_aload_n hx hb dJx4a65c_add_9ea2d_0 rfl (lv_at hl 0 rfl) ?_
  refine lv_dup hx hb dJx4a65c_add_9ea2d_1 rfl ?_
  refine va_get (D := (dC, dI)) (ci := 5) (v := .int 0) (C := RJx4a65c) (T := TJx4a65c) (N := 3) hx hb hts (by decide +kernel) hown hK hP 0 rfl rfl 0 (by decide) (hts (.fieldLink RJx4a65c 63 "java/util/ArrayList" "modCount" "I") (by decide +kernel)) (fun x h9 => u_same (hts (.sameField "java/util/ArrayList" "java/util/AbstractList" "modCount" "I") (by decide +kernel)) x h9) rfl dJx4a65c_add_9ea2d_2 ?_
  refine lv_iconst (v := 1) hx hb dJx4a65c_add_9ea2d_5 (by decide) ?_
  refine lv_iadd hx hb dJx4a65c_add_9ea2d_6 ?_
  refine lv_topi (fun k_1 ek_1 => ?_)
  obtain rfl : k_1 = 1 := ek_1.trans (by decide)
  refine va_put (D := (dC, dI)) (ci := 5) (v := .int 1) (ty := .int) (C := RJx4a65c) (T := TJx4a65c) (N := 3) hx hb hts (by decide +kernel) tyJx4a65c tyJx4a65c_ok nmJx4a65c hown hK hP hD hS 0 rfl rfl 0 (by decide) (hts (.fieldLink RJx4a65c 63 "java/util/ArrayList" "modCount" "I") (by decide +kernel)) (fun x h9 => u_same (hts (.sameField "java/util/ArrayList" "java/util/AbstractList" "modCount" "I") (by decide +kernel)) x h9) rfl (by decide +kernel) rfl rfl (Nat.le_of_ble_eq_true rfl) dJx4a65c_add_9ea2d_7 (fun H locs hP hD hS => ?_)
  have hP : va_P (dC, dI) vwCl [(lc, .inr (5, [.int 1, .ref (em 0), .int 0]))] H := hP
  have hD : va_D A [(lc, .inr (5, [.int 1, .ref (em 0), .int 0]))] := hD
  refine lv_aload_n hx hb dJx4a65c_add_9ea2d_10 rfl (lv_at hl 0 rfl) ?_
  refine lv_aload_n hx hb dJx4a65c_add_9ea2d_11 rfl (lv_at hl 1 rfl) ?_
  refine lv_aload_n hx hb dJx4a65c_add_9ea2d_12 rfl (lv_at hl 0 rfl) ?_
  refine va_get (D := (dC, dI)) (ci := 5) (v := .ref (em 0)) (C := RJx4a65c) (T := TJx4a65c) (N := 3) hx hb hts (by decide +kernel) hown hK hP 0 rfl rfl 1 (by decide) (hts (.fieldLink RJx4a65c 9 "java/util/ArrayList" "elementData" "[Ljava/lang/Object;") (by decide +kernel)) (fun _ h9 => h9) rfl dJx4a65c_add_9ea2d_13 ?_
  refine lv_aload_n hx hb dJx4a65c_add_9ea2d_16 rfl (lv_at hl 0 rfl) ?_
  refine va_get (D := (dC, dI)) (ci := 5) (v := .int 0) (C := RJx4a65c) (T := TJx4a65c) (N := 3) hx hb hts (by decide +kernel) hown hK hP 0 rfl rfl 2 (by decide) (hts (.fieldLink RJx4a65c 48 "java/util/ArrayList" "size" "I") (by decide +kernel)) (fun _ h9 => h9) rfl dJx4a65c_add_9ea2d_17 ?_
  have hPc := hP.sub (ws' := [(lc, .inr (5, [.int 1, .ref (em 0), .int 0]))]) [0] rfl
  have hDc := hD.sub (ws' := [(lc, .inr (5, [.int 1, .ref (em 0), .int 0]))]) [0] (by decide) rfl
  have hKc := hK.sub (tys' := []) [] rfl
  have hFc := va_free (wc := [(lc, .inr (5, [.int 1, .ref (em 0), .int 0]))]) hD hS hA [0] rfl
  refine va_callv (va_runV (As := [.ref (em (4 + k9)), .ref (em 0), .int 0]) (rest := []) ⟨hx, hb, hml, hown, hts⟩ (c_Jx4a65c_add_72be8_old l em dC dI lc (.int 1) k9 hk9 H.size) (cwV 3 hts gJx4a65c_add_9ea2d_Jx4a65c_add_72be8 rfl rfl rfl (by decide +kernel) ⟨Nat.le_of_ble_eq_true rfl, Nat.le_of_ble_eq_true rfl⟩) ⟨Pw.blind _ _ _ _ _ _ _, va_recv hKc hPc (ci := 5) (q0 := 0) rfl rfl, fun U hU hW => ⟨rfl, Pw.go hPc hKc hDc hamb hS hFc hU hW⟩⟩ rfl rfl hl.1 rfl (lv_room (Nat.le_of_ble_eq_true rfl)) dJx4a65c_add_9ea2d_20 ⟨Nat.le_of_ble_eq_true rfl, Nat.le_of_ble_eq_true rfl⟩) hS (fun q _ h => hFc q h) hFc (fun u t H1 locs1 ht hvm hw hB hz1 hk1 hS => ?_)
  obtain ⟨ux_3, hP1, hK1, hD1⟩ := hB
  rw [ht] at hP1
  have hK1 := va_K.moved hvm.symm hK1
  obtain ⟨hP, hD⟩ := va_join (wr := []) (w1 := [(lc, .inr (5, [.int 1, ux_3, .int 1]))]) hP hD [0] [] rfl rfl (by decide) (by decide) hk1 hFc hP1 hD1
  have hK := (hK.sub (tys' := []) [] rfl).app hK1
  generalize H1 = H at hP hS ⊢
  have hP : va_P (dC, dI) vwCl [(lc, .inr (5, [.int 1, ux_3, .int 1]))] H := hP
  have hD : va_D A [(lc, .inr (5, [.int 1, ux_3, .int 1]))] := hD
  have hK : va_K (dC, dI) vwCl [] s := hK
  refine W.widen (k := 1) (n := 10) (Nat.le_of_ble_eq_true rfl) (Nat.le_of_ble_eq_true rfl) ?_
  refine lv_iconst (v := 1) hx hb dJx4a65c_add_9ea2d_23 (by decide) ?_
  refine W.widen (k := 1) (n := 10) (Nat.le_of_ble_eq_true rfl) (Nat.le_of_ble_eq_true rfl) ?_
  have hP9 := hP.sub (ws' := [(lc, .inr (5, [.int 1, ux_3, .int 1]))]) [0] rfl
  have hD9 := hD.sub (ws' := [(lc, .inr (5, [.int 1, ux_3, .int 1]))]) [0] (by decide) rfl
  have hK9 := hK.sub (tys' := []) [] rfl
  exact W.zret (v := 1) hx hb hr rfl (fun t ht hW => ⟨⟨1, (), rfl, rfl, ⟨(ux_3), by rw [ht]; exact hP9, va_K.moved hW.alike hK9, hD9⟩⟩, hS.F ht⟩) hS.2.2 dJx4a65c_add_9ea2d_24

set_option maxHeartbeats 4000000 in
set_option maxRecDepth 100000 in
theorem c_Jx4a65c_size_8abf5_1 (l : Launch) (em : Nat → Nat) (dC : Nat → ClassId) (dI : Nat → Nat → Nat) (lc : Nat) (w0 : Value) (w1 : Value) (sz : Nat) : Met l yJx4a65c_size_8abf5 wsJx4a65c_size_8abf5 ({ frames := 0, cells := 0, slots := 0, locals := 0 }) (va_Pc [.ref lc] (Pw em dC dI sz [(lc, .inr (5, [w0, w1, .int 1]))] [])) (va_Qi (fun (r : Int32) (_ : Unit) => r = 1) (fun _ t => Qw dC dI (va_A [(lc, .inr (5, [w0, w1, .int 1]))] sz) [(lc, .inr (5, [w0, w1, .int 1]))] [] t) (va_A [(lc, .inr (5, [w0, w1, .int 1]))] sz)) 0 0 (va_A [(lc, .inr (5, [w0, w1, .int 1]))] sz) := by
  refine Met.ofW (cc := cJx4a65c_size_8abf5) (maxL := 1) (ret := (some .int)) (by decide) rfl ?_
  intro p e s m args below meth c s₁ B hml hv
  obtain ⟨rfl, hsz, hP, hK, hD0, hamb⟩ := hv
  have hx := B.exec
  have hb := B.bytes
  have hr := B.returns
  have hts := atoms_spec (ws := wsJx4a65c_size_8abf5) B.pre
  have hown : s.vm.findClass RJx4a65c = some m.cls := findClass_of_methodNamed B.named
  have hlocks := B.notSynchronized
  subst hsz
  have hD := hD0.self (sz := s.heap.size)
  generalize hAe : va_A [(lc, .inr (5, [w0, w1, .int 1]))] s.heap.size = A at hD hamb ⊢
  have hA : ∀ q : Nat, s.heap.size ≤ q → A q := fun q h => by rw [← hAe]; exact Or.inr h
  have hS : va_S A s.heap s.heap [] := va_S.rf
  have hP : va_P (dC, dI) vwCl [(lc, .inr (5, [w0, w1, .int 1]))] s.heap := hP
  have hl := lv_entry ([.ref lc]) (n := 1) (Nat.le_of_ble_eq_true rfl)
  rw [lg_entry_eq]
  generalize (lg_sl ([.ref lc]) ++ List.replicate (1 - (lg_sl ([.ref lc])).length) Slot.unset).toArray = ls at hl ⊢
  have hl : lv_has ls 1 [(0, .ref lc)] := hl
  refine lv_aload_n hx hb dJx4a65c_size_8abf5_0 rfl (lv_at hl 0 rfl) ?_
  refine va_get (D := (dC, dI)) (ci := 5) (v := .int 1) (C := RJx4a65c) (T := TJx4a65c) (N := 3) hx hb hts (by decide +kernel) hown hK hP 0 rfl rfl 2 (by decide) (hts (.fieldLink RJx4a65c 48 "java/util/ArrayList" "size" "I") (by decide +kernel)) (fun _ h9 => h9) rfl dJx4a65c_size_8abf5_1 ?_
  refine W.widen (k := 0) (n := 0) (Nat.le_of_ble_eq_true rfl) (Nat.le_of_ble_eq_true rfl) ?_
  have hP9 := hP.sub (ws' := [(lc, .inr (5, [w0, w1, .int 1]))]) [0] rfl
  have hD9 := hD.sub (ws' := [(lc, .inr (5, [w0, w1, .int 1]))]) [0] (by decide) rfl
  have hK9 := hK.sub (tys' := []) [] rfl
  exact W.iret (v := 1) hx hb hr (fun t ht hW => ⟨⟨1, (), rfl, rfl, ⟨by rw [ht]; exact hP9, va_K.moved hW.alike hK9, hD9⟩⟩, hS.F ht⟩) hS.2.2 dJx4a65c_size_8abf5_4

set_option maxHeartbeats 4000000 in
set_option maxRecDepth 100000 in
theorem c_J6_valueOf_2dffe (l : Launch) (em : Nat → Nat) (dC : Nat → ClassId) (dI : Nat → Nat → Nat) (p0 : Int32) (hb9 : 0 ≤ p0.toInt ∧ p0.toInt ≤ 99) (sz : Nat) : Met l yJ6_valueOf_2dffe wsJ6_valueOf_2dffe ({ frames := 0, cells := 0, slots := 0, locals := 0 }) (va_Pc [.int p0] (Pw em dC dI sz [] [])) (va_Qr (fun _ : Unit => True) (fun _ ra t => ra = (em (4 + (p0 + 128).toNatClampNeg)) ∧ (Qw dC dI (va_A [] sz) [] [] t ∧ ((p0 + 128).toNatClampNeg) < 256)) (va_A [] sz)) 0 0 (va_A [] sz) := by
  refine Met.ofW (cc := cJ6_valueOf_2dffe) (maxL := 1) (ret := (some (.object "java/lang/Integer"))) (by decide) rfl ?_
  intro p e s m args below meth c s₁ B hml hv
  obtain ⟨rfl, hsz, hP, hK, hD0, hamb⟩ := hv
  have hx := B.exec
  have hb := B.bytes
  have hr := B.returns
  have hts := atoms_spec (ws := wsJ6_valueOf_2dffe) B.pre
  have hown : s.vm.findClass RJ6 = some m.cls := findClass_of_methodNamed B.named
  have hlocks := B.notSynchronized
  subst hsz
  have hD := hD0.self (sz := s.heap.size)
  generalize hAe : va_A [] s.heap.size = A at hD hamb ⊢
  have hA : ∀ q : Nat, s.heap.size ≤ q → A q := fun q h => by rw [← hAe]; exact Or.inr h
  have hS : va_S A s.heap s.heap [] := va_S.rf
  have hP : va_P (dC, dI) vwCl [] s.heap := hP
  have hl := lv_entry ([.int p0]) (n := 1) (Nat.le_of_ble_eq_true rfl)
  rw [lg_entry_eq]
  generalize (lg_sl ([.int p0]) ++ List.replicate (1 - (lg_sl ([.int p0])).length) Slot.unset).toArray = ls at hl ⊢
  have hl : lv_has ls 1 [(0, .int p0)] := hl
  refine lv_iload_n hx hb dJ6_valueOf_2dffe_0 rfl (lv_at hl 0 rfl) ?_
  refine lv_bipush (v := (-128)) hx hb dJ6_valueOf_2dffe_1 (by decide) ?_
  refine lv_icmp_lt (tgt := 23) hx hb dJ6_valueOf_2dffe_3 (by decide) (fun c_1 => ?_) (fun c_1 => ?_)
  · have t_2 := b_lt (k := -128) rfl c_1
    exfalso; omega
  · have t_3 := b_nlt (k := -128) rfl c_1
    refine lv_iload_n hx hb dJ6_valueOf_2dffe_6 rfl (lv_at hl 0 rfl) ?_
    refine va_gets hx hb hamb.zh hS hown (hts (.fieldLink RJ6 191 "java/lang/Integer$IntegerCache" "high" "I") (by decide +kernel)) (fun _ h9 => h9) dJ6_valueOf_2dffe_7 ?_
    refine lv_icmp_gt (tgt := 23) hx hb dJ6_valueOf_2dffe_10 (by decide) (fun c_4 => ?_) (fun c_4 => ?_)
    · have t_5 := b_lt rfl c_4
      rw [show (127 : Int32).toInt = 127 from rfl] at t_5
      exfalso; omega
    · have t_6 := b_nlt rfl c_4
      rw [show (127 : Int32).toInt = 127 from rfl] at t_6
      refine va_gets hx hb hamb.zi hS hown (hts (.fieldLink RJ6 195 "java/lang/Integer$IntegerCache" "cache" "[Ljava/lang/Integer;") (by decide +kernel)) (fun _ h9 => h9) dJ6_valueOf_2dffe_13 ?_
      refine lv_iload_n hx hb dJ6_valueOf_2dffe_16 rfl (lv_at hl 0 rfl) ?_
      refine lv_sipush (v := 128) hx hb dJ6_valueOf_2dffe_17 (by decide) ?_
      refine lv_iadd hx hb dJ6_valueOf_2dffe_20 ?_
      refine lv_topi (fun x_7 ex_7 => ?_)
      have tx_7 : x_7.toInt = p0.toInt + (128) := by rw [ex_7]; exact b_add (k := 128) rfl (by omega) (by omega)
      have hk9 : (p0 + 128).toNatClampNeg < 256 := by rw [← ex_7]; exact ow_clamp (by omega) (by omega)
      refine vb_tq hx hb hamb.ti hS (v := .ref (em (4 + (p0 + 128).toNatClampNeg))) (vp_in_iff.mpr ⟨by omega, by omega⟩) (by rw [ex_7]) dJ6_valueOf_2dffe_21 ?_
      refine W.widen (k := 0) (n := 0) (Nat.le_of_ble_eq_true rfl) (Nat.le_of_ble_eq_true rfl) ?_
      have hP9 := hP.sub (ws' := []) [] rfl
      have hD9 := hD.sub (ws' := []) [] (by decide) rfl
      have hK9 := hK.sub (tys' := []) [] rfl
      exact W.aret (v := .ref (em (4 + (p0 + 128).toNatClampNeg))) hx hb hr (Or.inl ⟨_, rfl⟩) (Or.inr ⟨_, rfl⟩) (fun t ht hW => ⟨⟨(), (em (4 + (p0 + 128).toNatClampNeg)), rfl, trivial, ⟨rfl, ⟨⟨by rw [ht]; exact hP9, va_K.moved hW.alike hK9, hD9⟩, (by first | rfl | assumption | omega | exact fun _ => rfl | exact fun h9 => absurd (by omega) h9 | exact fun h9 => absurd h9 (by omega))⟩⟩⟩, hS.F ht⟩) hS.2.2 dJ6_valueOf_2dffe_22

set_option maxHeartbeats 4000000 in
set_option maxRecDepth 100000 in
theorem c_X6_init_0 (l : Launch) (em : Nat → Nat) (dC : Nat → ClassId) (dI : Nat → Nat → Nat) (cd : Nat) (q0 : Nat) (sz : Nat) : Met l yX6_init wsX6_init ({ frames := 1, cells := 0, slots := 0, locals := 12 }) (va_Pc [.ref cd, .ref q0, .int 0] (Pw em dC dI sz [(cd, .inr (12, [.null, .int 0, .int 0, .int 0, .int 0]))] [])) (va_Qv (fun _ : Unit => True) (fun _ t => Qw dC dI (va_A [(cd, .inr (12, [.null, .int 0, .int 0, .int 0, .int 0]))] sz) [(cd, .inr (12, [.ref q0, .int 0, .int 0, .int 0, .int 0]))] [] t) (va_A [(cd, .inr (12, [.null, .int 0, .int 0, .int 0, .int 0]))] sz)) 0 0 (va_A [(cd, .inr (12, [.null, .int 0, .int 0, .int 0, .int 0]))] sz) := by
  refine Met.ofW (cc := cX6_init) (maxL := 3) (ret := none) (by decide) rfl ?_
  intro p e s m args below meth c s₁ B hml hv
  obtain ⟨rfl, hsz, hP, hK, hD0, hamb⟩ := hv
  have hx := B.exec
  have hb := B.bytes
  have hr := B.returns
  have hts := atoms_spec (ws := wsX6_init) B.pre
  have hown : s.vm.findClass RX6 = some m.cls := findClass_of_methodNamed B.named
  have hlocks := B.notSynchronized
  have hin : meth.name = "<init>" := (name_of_methodNamed B.named B.method).1
  subst hsz
  have hD := hD0.self (sz := s.heap.size)
  generalize hAe : va_A [(cd, .inr (12, [.null, .int 0, .int 0, .int 0, .int 0]))] s.heap.size = A at hD hamb ⊢
  have hA : ∀ q : Nat, s.heap.size ≤ q → A q := fun q h => by rw [← hAe]; exact Or.inr h
  have hS : va_S A s.heap s.heap [] := va_S.rf
  have hP : va_P (dC, dI) vwCl [(cd, .inr (12, [.null, .int 0, .int 0, .int 0, .int 0]))] s.heap := hP
  have hl := lv_entry ([.ref cd, .ref q0, .int 0]) (n := 3) (Nat.le_of_ble_eq_true rfl)
  rw [lg_entry_eq]
  generalize (lg_sl ([.ref cd, .ref q0, .int 0]) ++ List.replicate (3 - (lg_sl ([.ref cd, .ref q0, .int 0])).length) Slot.unset).toArray = ls at hl ⊢
  have hl : lv_has ls 3 [(0, .ref cd), (1, .ref q0), (2, .int 0)] := hl
  refine lv_aload_n hx hb dX6_init_0 rfl (lv_at hl 0 rfl) ?_
  refine W.objInit hx hb hown (hts (.methodLink RX6 1 objectInit) (by decide +kernel)) (hts (.instanceMethod objectInit) (by decide +kernel)) (hts (.code objectInit ⟨#[0xb1]⟩ 1 none) (by decide +kernel)) rfl (by rw [hml]; exact hl.1) rfl dX6_init_1 (Nat.le_of_ble_eq_true rfl) (Nat.le_of_ble_eq_true rfl) ?_
  refine W.eq (g2 := F0 m 4 ls []) rfl ?_
  refine lv_aload_n hx hb dX6_init_4 rfl (lv_at hl 0 rfl) ?_
  refine lv_aload_n hx hb dX6_init_5 rfl (lv_at hl 1 rfl) ?_
  refine va_putF (D := (dC, dI)) (ci := 12) (v := .ref q0) (ty := (.array .int)) (C := RX6) (T := TX6) (N := 5) hx hb hts (by decide +kernel) tyX6 tyX6_ok nmX6 hown hK hP hD hS 0 rfl rfl 0 (by decide) (hts (.fieldLink RX6 7 "BothfacesModel$Card" "colours" "[I") (by decide +kernel)) (fun _ h9 => h9) rfl hin rfl (by decide +kernel) rfl rfl (Nat.le_of_ble_eq_true rfl) dX6_init_6 (fun H locs hP hD hS => ?_)
  have hP : va_P (dC, dI) vwCl [(cd, .inr (12, [.ref q0, .int 0, .int 0, .int 0, .int 0]))] H := hP
  have hD : va_D A [(cd, .inr (12, [.ref q0, .int 0, .int 0, .int 0, .int 0]))] := hD
  refine lv_aload_n hx hb dX6_init_9 rfl (lv_at hl 0 rfl) ?_
  refine lv_iload_n hx hb dX6_init_10 rfl (lv_at hl 2 rfl) ?_
  refine va_putF (D := (dC, dI)) (ci := 12) (v := .int 0) (ty := .boolean) (C := RX6) (T := TX6) (N := 5) hx hb hts (by decide +kernel) tyX6 tyX6_ok nmX6 hown hK hP hD hS 0 rfl rfl 1 (by decide) (hts (.fieldLink RX6 13 "BothfacesModel$Card" "isS" "Z") (by decide +kernel)) (fun _ h9 => h9) rfl hin rfl (by decide +kernel) rfl rfl (Nat.le_of_ble_eq_true rfl) dX6_init_11 (fun H locs hP hD hS => ?_)
  have hP : va_P (dC, dI) vwCl [(cd, .inr (12, [.ref q0, .int 0, .int 0, .int 0, .int 0]))] H := hP
  have hD : va_D A [(cd, .inr (12, [.ref q0, .int 0, .int 0, .int 0, .int 0]))] := hD
  refine W.widen (k := 0) (n := 0) (Nat.le_of_ble_eq_true rfl) (Nat.le_of_ble_eq_true rfl) ?_
  have hP9 := hP.sub (ws' := [(cd, .inr (12, [.ref q0, .int 0, .int 0, .int 0, .int 0]))]) [0] rfl
  have hD9 := hD.sub (ws' := [(cd, .inr (12, [.ref q0, .int 0, .int 0, .int 0, .int 0]))]) [0] (by decide) rfl
  have hK9 := hK.sub (tys' := []) [] rfl
  exact W.vret hx hb hr (fun t ht hW => ⟨⟨(), rfl, trivial, ⟨by rw [ht]; exact hP9, va_K.moved hW.alike hK9, hD9⟩⟩, hS.F ht⟩) hS.2.2 dX6_init_14

set_option maxHeartbeats 4000000 in
set_option maxRecDepth 100000 in
theorem c_X6_init_1 (l : Launch) (em : Nat → Nat) (dC : Nat → ClassId) (dI : Nat → Nat → Nat) (cd : Nat) (q0 : Nat) (sz : Nat) : Met l yX6_init wsX6_init ({ frames := 1, cells := 0, slots := 0, locals := 12 }) (va_Pc [.ref cd, .ref q0, .int 1] (Pw em dC dI sz [(cd, .inr (12, [.null, .int 0, .int 0, .int 0, .int 0]))] [])) (va_Qv (fun _ : Unit => True) (fun _ t => Qw dC dI (va_A [(cd, .inr (12, [.null, .int 0, .int 0, .int 0, .int 0]))] sz) [(cd, .inr (12, [.ref q0, .int 1, .int 0, .int 0, .int 0]))] [] t) (va_A [(cd, .inr (12, [.null, .int 0, .int 0, .int 0, .int 0]))] sz)) 0 0 (va_A [(cd, .inr (12, [.null, .int 0, .int 0, .int 0, .int 0]))] sz) := by
  refine Met.ofW (cc := cX6_init) (maxL := 3) (ret := none) (by decide) rfl ?_
  intro p e s m args below meth c s₁ B hml hv
  obtain ⟨rfl, hsz, hP, hK, hD0, hamb⟩ := hv
  have hx := B.exec
  have hb := B.bytes
  have hr := B.returns
  have hts := atoms_spec (ws := wsX6_init) B.pre
  have hown : s.vm.findClass RX6 = some m.cls := findClass_of_methodNamed B.named
  have hlocks := B.notSynchronized
  have hin : meth.name = "<init>" := (name_of_methodNamed B.named B.method).1
  subst hsz
  have hD := hD0.self (sz := s.heap.size)
  generalize hAe : va_A [(cd, .inr (12, [.null, .int 0, .int 0, .int 0, .int 0]))] s.heap.size = A at hD hamb ⊢
  have hA : ∀ q : Nat, s.heap.size ≤ q → A q := fun q h => by rw [← hAe]; exact Or.inr h
  have hS : va_S A s.heap s.heap [] := va_S.rf
  have hP : va_P (dC, dI) vwCl [(cd, .inr (12, [.null, .int 0, .int 0, .int 0, .int 0]))] s.heap := hP
  have hl := lv_entry ([.ref cd, .ref q0, .int 1]) (n := 3) (Nat.le_of_ble_eq_true rfl)
  rw [lg_entry_eq]
  generalize (lg_sl ([.ref cd, .ref q0, .int 1]) ++ List.replicate (3 - (lg_sl ([.ref cd, .ref q0, .int 1])).length) Slot.unset).toArray = ls at hl ⊢
  have hl : lv_has ls 3 [(0, .ref cd), (1, .ref q0), (2, .int 1)] := hl
  refine lv_aload_n hx hb dX6_init_0 rfl (lv_at hl 0 rfl) ?_
  refine W.objInit hx hb hown (hts (.methodLink RX6 1 objectInit) (by decide +kernel)) (hts (.instanceMethod objectInit) (by decide +kernel)) (hts (.code objectInit ⟨#[0xb1]⟩ 1 none) (by decide +kernel)) rfl (by rw [hml]; exact hl.1) rfl dX6_init_1 (Nat.le_of_ble_eq_true rfl) (Nat.le_of_ble_eq_true rfl) ?_
  refine W.eq (g2 := F0 m 4 ls []) rfl ?_
  refine lv_aload_n hx hb dX6_init_4 rfl (lv_at hl 0 rfl) ?_
  refine lv_aload_n hx hb dX6_init_5 rfl (lv_at hl 1 rfl) ?_
  refine va_putF (D := (dC, dI)) (ci := 12) (v := .ref q0) (ty := (.array .int)) (C := RX6) (T := TX6) (N := 5) hx hb hts (by decide +kernel) tyX6 tyX6_ok nmX6 hown hK hP hD hS 0 rfl rfl 0 (by decide) (hts (.fieldLink RX6 7 "BothfacesModel$Card" "colours" "[I") (by decide +kernel)) (fun _ h9 => h9) rfl hin rfl (by decide +kernel) rfl rfl (Nat.le_of_ble_eq_true rfl) dX6_init_6 (fun H locs hP hD hS => ?_)
  have hP : va_P (dC, dI) vwCl [(cd, .inr (12, [.ref q0, .int 0, .int 0, .int 0, .int 0]))] H := hP
  have hD : va_D A [(cd, .inr (12, [.ref q0, .int 0, .int 0, .int 0, .int 0]))] := hD
  refine lv_aload_n hx hb dX6_init_9 rfl (lv_at hl 0 rfl) ?_
  refine lv_iload_n hx hb dX6_init_10 rfl (lv_at hl 2 rfl) ?_
  refine va_putF (D := (dC, dI)) (ci := 12) (v := .int 1) (ty := .boolean) (C := RX6) (T := TX6) (N := 5) hx hb hts (by decide +kernel) tyX6 tyX6_ok nmX6 hown hK hP hD hS 0 rfl rfl 1 (by decide) (hts (.fieldLink RX6 13 "BothfacesModel$Card" "isS" "Z") (by decide +kernel)) (fun _ h9 => h9) rfl hin rfl (by decide +kernel) rfl rfl (Nat.le_of_ble_eq_true rfl) dX6_init_11 (fun H locs hP hD hS => ?_)
  have hP : va_P (dC, dI) vwCl [(cd, .inr (12, [.ref q0, .int 1, .int 0, .int 0, .int 0]))] H := hP
  have hD : va_D A [(cd, .inr (12, [.ref q0, .int 1, .int 0, .int 0, .int 0]))] := hD
  refine W.widen (k := 0) (n := 0) (Nat.le_of_ble_eq_true rfl) (Nat.le_of_ble_eq_true rfl) ?_
  have hP9 := hP.sub (ws' := [(cd, .inr (12, [.ref q0, .int 1, .int 0, .int 0, .int 0]))]) [0] rfl
  have hD9 := hD.sub (ws' := [(cd, .inr (12, [.ref q0, .int 1, .int 0, .int 0, .int 0]))]) [0] (by decide) rfl
  have hK9 := hK.sub (tys' := []) [] rfl
  exact W.vret hx hb hr (fun t ht hW => ⟨⟨(), rfl, trivial, ⟨by rw [ht]; exact hP9, va_K.moved hW.alike hK9, hD9⟩⟩, hS.F ht⟩) hS.2.2 dX6_init_14

set_option maxHeartbeats 4000000 in
set_option maxRecDepth 100000 in
theorem c_X8_weaver (l : Launch) (em : Nat → Nat) (dC : Nat → ClassId) (dI : Nat → Nat → Nat) (m0 : Nat) (p0 : Int32) (g0 : Value) (g1 : Value) (g2 : Value) (g3 : Value) (g4 : Value) (g6 : Value) (g7 : Value) (g8 : Value) (lw : Nat) (sz : Nat) : Met l yX8_weaver wsX8_weaver ({ frames := 5, cells := 1, slots := 10, locals := 101 }) (va_Pc [.ref m0, .int p0] (Pw em dC dI sz [(m0, .inr (14, [g0, g1, g2, g3, g4, .ref lw, g6, g7, g8])), (lw, .inr (5, [.int 0, .ref (em 0), .int 0]))] [])) (va_Qi (fun (r : Int32) (_ : Unit) => ((p0.toInt < 0 ∨ 99 < p0.toInt) → r = 0) ∧ (¬ (p0.toInt < 0 ∨ 99 < p0.toInt) → r = 0)) (fun _ t => ∃ (tv : Int32), Qw dC dI (va_A [(m0, .inr (14, [g0, g1, g2, g3, g4, .ref lw, g6, g7, g8])), (lw, .inr (5, [.int 0, .ref (em 0), .int 0]))] sz) [(m0, .inr (14, [g0, g1, g2, g3, g4, .ref lw, g6, g7, .int tv]))] [] t ∧ ((p0.toInt < 0 ∨ 99 < p0.toInt) → tv = 1) ∧ (¬ (p0.toInt < 0 ∨ 99 < p0.toInt) → tv = 0)) (va_A [(m0, .inr (14, [g0, g1, g2, g3, g4, .ref lw, g6, g7, g8])), (lw, .inr (5, [.int 0, .ref (em 0), .int 0]))] sz)) 1 10 (va_A [(m0, .inr (14, [g0, g1, g2, g3, g4, .ref lw, g6, g7, g8])), (lw, .inr (5, [.int 0, .ref (em 0), .int 0]))] sz) := by
  refine Met.ofW (cc := cX8_weaver) (maxL := 2) (ret := (some .int)) (by decide) rfl ?_
  intro p e s m args below meth c s₁ B hml hv
  obtain ⟨rfl, hsz, hP, hK, hD0, hamb⟩ := hv
  have hx := B.exec
  have hb := B.bytes
  have hr := B.returns
  have hts := atoms_spec (ws := wsX8_weaver) B.pre
  have hown : s.vm.findClass RX8 = some m.cls := findClass_of_methodNamed B.named
  have hlocks := B.notSynchronized
  subst hsz
  have hD := hD0.self (sz := s.heap.size)
  generalize hAe : va_A [(m0, .inr (14, [g0, g1, g2, g3, g4, .ref lw, g6, g7, g8])), (lw, .inr (5, [.int 0, .ref (em 0), .int 0]))] s.heap.size = A at hD hamb ⊢
  have hA : ∀ q : Nat, s.heap.size ≤ q → A q := fun q h => by rw [← hAe]; exact Or.inr h
  have hS : va_S A s.heap s.heap [] := va_S.rf
  have hP : va_P (dC, dI) vwCl [(m0, .inr (14, [g0, g1, g2, g3, g4, .ref lw, g6, g7, g8])), (lw, .inr (5, [.int 0, .ref (em 0), .int 0]))] s.heap := hP
  have hl := lv_entry ([.ref m0, .int p0]) (n := 2) (Nat.le_of_ble_eq_true rfl)
  rw [lg_entry_eq]
  generalize (lg_sl ([.ref m0, .int p0]) ++ List.replicate (2 - (lg_sl ([.ref m0, .int p0])).length) Slot.unset).toArray = ls at hl ⊢
  have hl : lv_has ls 2 [(0, .ref m0), (1, .int p0)] := hl
  refine lv_aload_n hx hb dX8_weaver_0 rfl (lv_at hl 0 rfl) ?_
  refine lv_iload_n hx hb dX8_weaver_1 rfl (lv_at hl 1 rfl) ?_
  refine lv_iconst (v := 0) hx hb dX8_weaver_2 (by decide) ?_
  refine lv_bipush (v := 99) hx hb dX8_weaver_3 (by decide) ?_
  have hPc := hP.sub (ws' := []) [] rfl
  have hDc := hD.sub (ws' := []) [] (by decide) rfl
  have hKc := hK.sub (tys' := []) [] rfl
  have hFc := va_free (wc := []) hD hS hA [] rfl
  refine va_calli (va_runS (As := [.int p0, .int 0, .int 99]) (rest := [.ref m0]) ⟨hx, hb, hml, hown, hts⟩ (c_X8_isIn_0_99 l em dC dI p0 s.heap.size) (va_cwS 3 hts gX8_weaver_X8_isIn rfl rfl rfl (by decide +kernel) ⟨Nat.le_of_ble_eq_true rfl, Nat.le_of_ble_eq_true rfl⟩) ⟨Pw.blind _ _ _ _ _ _ _, fun U hU hW => ⟨rfl, Pw.go hPc hKc hDc hamb hS hFc hU hW⟩⟩ rfl rfl hl.1 rfl (lv_room (Nat.le_of_ble_eq_true rfl)) dX8_weaver_5 ⟨Nat.le_of_ble_eq_true rfl, Nat.le_of_ble_eq_true rfl⟩) hS (fun q _ h => hFc q h) hFc (fun r_1 u t H1 locs1 ht hvm hw hB hz1 hk1 hS => ?_)
  obtain ⟨hP, hD⟩ := va_rest (wr := [(m0, .inr (14, [g0, g1, g2, g3, g4, .ref lw, g6, g7, g8])), (lw, .inr (5, [.int 0, .ref (em 0), .int 0]))]) hP hD [] [0, 1] rfl rfl (by decide) (by decide) hk1 hFc
  generalize H1 = H at hP hS ⊢
  refine W.widen (k := 0) (n := 0) (Nat.le_of_ble_eq_true rfl) (Nat.le_of_ble_eq_true rfl) ?_
  have hw : ((0 ≤ p0.toInt ∧ p0.toInt ≤ 99) → r_1 = 1) ∧ (¬ (0 ≤ p0.toInt ∧ p0.toInt ≤ 99) → r_1 = 0) := hw
  rcases Classical.em (0 ≤ p0.toInt ∧ p0.toInt ≤ 99) with t_2 | t_2
  · have hw := hw.1 t_2
    rw [hw]
    refine lv_if_ne (tgt := 15) hx hb dX8_weaver_8 (by decide) (fun c_3 => ?_) (fun c_3 => ?_)
    · refine lv_iconst (v := 0) hx hb dX8_weaver_15 (by decide) ?_
      refine lv_iconst (v := 1) hx hb dX8_weaver_16 (by decide) ?_
      have hPc := hP.sub (ws' := [(m0, .inr (14, [g0, g1, g2, g3, g4, .ref lw, g6, g7, g8]))]) [0] rfl
      have hDc := hD.sub (ws' := [(m0, .inr (14, [g0, g1, g2, g3, g4, .ref lw, g6, g7, g8]))]) [0] (by decide) rfl
      have hKc := hK.sub (tys' := []) [] rfl
      have hFc := va_free (wc := [(m0, .inr (14, [g0, g1, g2, g3, g4, .ref lw, g6, g7, g8]))]) hD hS hA [0] rfl
      refine va_calli (va_runV (As := [.int 0, .int 1]) (rest := []) ⟨hx, hb, hml, hown, hts⟩ (c_X8_isThrown_0 l em dC dI m0 1 g0 g1 g2 g3 g4 (.ref lw) g6 g7 g8 H.size) (cwV 2 hts gX8_weaver_X8_isThrown rfl rfl rfl (by decide +kernel) ⟨Nat.le_of_ble_eq_true rfl, Nat.le_of_ble_eq_true rfl⟩) ⟨Pw.blind _ _ _ _ _ _ _, va_recv hKc hPc (ci := 14) (q0 := 0) rfl rfl, fun U hU hW => ⟨rfl, Pw.go hPc hKc hDc hamb hS hFc hU hW⟩⟩ rfl rfl hl.1 rfl (lv_room (Nat.le_of_ble_eq_true rfl)) dX8_weaver_17 ⟨Nat.le_of_ble_eq_true rfl, Nat.le_of_ble_eq_true rfl⟩) hS (fun q _ h => hFc q h) hFc (fun r_4 u t H1 locs1 ht hvm hw hB hz1 hk1 hS => ?_)
      obtain ⟨hP1, hK1, hD1⟩ := hB
      rw [ht] at hP1
      have hK1 := va_K.moved hvm.symm hK1
      obtain ⟨hP, hD⟩ := va_join (wr := [(lw, .inr (5, [.int 0, .ref (em 0), .int 0]))]) (w1 := [(m0, .inr (14, [g0, g1, g2, g3, g4, .ref lw, g6, g7, .int 0]))]) hP hD [0] [1] rfl rfl (by decide) (by decide) hk1 hFc hP1 hD1
      have hK := (hK.sub (tys' := []) [] rfl).app hK1
      generalize H1 = H at hP hS ⊢
      have hP : va_P (dC, dI) vwCl [(lw, .inr (5, [.int 0, .ref (em 0), .int 0])), (m0, .inr (14, [g0, g1, g2, g3, g4, .ref lw, g6, g7, .int 0]))] H := hP
      have hD : va_D A [(lw, .inr (5, [.int 0, .ref (em 0), .int 0])), (m0, .inr (14, [g0, g1, g2, g3, g4, .ref lw, g6, g7, .int 0]))] := hD
      have hK : va_K (dC, dI) vwCl [] s := hK
      refine W.widen (k := 0) (n := 0) (Nat.le_of_ble_eq_true rfl) (Nat.le_of_ble_eq_true rfl) ?_
      have hw : r_4 = 0 := hw
      rw [hw]
      refine lv_if_ne (tgt := 48) hx hb dX8_weaver_20 (by decide) (fun c_5 => ?_) (fun c_5 => ?_)
      · exact absurd (by decide) c_5
      · refine lv_aload_n hx hb dX8_weaver_23 rfl (lv_at hl 0 rfl) ?_
        refine lv_aload_n hx hb dX8_weaver_24 rfl (lv_at hl 0 rfl) ?_
        refine va_get (D := (dC, dI)) (ci := 14) (v := .ref lw) (C := RX8) (T := TX8) (N := 9) hx hb hts (by decide +kernel) hown hK hP 1 rfl rfl 5 (by decide) (hts (.fieldLink RX8 34 "BothfacesModel" "weavers" "Ljava/util/ArrayList;") (by decide +kernel)) (fun _ h9 => h9) rfl dX8_weaver_25 ?_
        have hPc := hP.sub (ws' := [(lw, .inr (5, [.int 0, .ref (em 0), .int 0]))]) [0] rfl
        have hDc := hD.sub (ws' := [(lw, .inr (5, [.int 0, .ref (em 0), .int 0]))]) [0] (by decide) rfl
        have hKc := hK.sub (tys' := []) [] rfl
        have hFc := va_free (wc := [(lw, .inr (5, [.int 0, .ref (em 0), .int 0]))]) hD hS hA [0] rfl
        refine va_calli (va_runV (As := []) (rest := [.ref m0]) ⟨hx, hb, hml, hown, hts⟩ (c_Jx4a65c_size_8abf5 l em dC dI lw (.int 0) (.ref (em 0)) H.size) (cwV 0 hts gX8_weaver_Jx4a65c_size_8abf5 rfl rfl rfl (by decide +kernel) ⟨Nat.le_of_ble_eq_true rfl, Nat.le_of_ble_eq_true rfl⟩) ⟨Pw.blind _ _ _ _ _ _ _, va_recv hKc hPc (ci := 5) (q0 := 0) rfl rfl, fun U hU hW => ⟨rfl, Pw.go hPc hKc hDc hamb hS hFc hU hW⟩⟩ rfl rfl hl.1 rfl (lv_room (Nat.le_of_ble_eq_true rfl)) dX8_weaver_28 ⟨Nat.le_of_ble_eq_true rfl, Nat.le_of_ble_eq_true rfl⟩) hS (fun q _ h => hFc q h) hFc (fun r_6 u t H1 locs1 ht hvm hw hB hz1 hk1 hS => ?_)
        obtain ⟨hP1, hK1, hD1⟩ := hB
        rw [ht] at hP1
        have hK1 := va_K.moved hvm.symm hK1
        obtain ⟨hP, hD⟩ := va_join (wr := [(m0, .inr (14, [g0, g1, g2, g3, g4, .ref lw, g6, g7, .int 0]))]) (w1 := [(lw, .inr (5, [.int 0, .ref (em 0), .int 0]))]) hP hD [0] [1] rfl rfl (by decide) (by decide) hk1 hFc hP1 hD1
        have hK := (hK.sub (tys' := []) [] rfl).app hK1
        generalize H1 = H at hP hS ⊢
        have hP : va_P (dC, dI) vwCl [(m0, .inr (14, [g0, g1, g2, g3, g4, .ref lw, g6, g7, .int 0])), (lw, .inr (5, [.int 0, .ref (em 0), .int 0]))] H := hP
        have hD : va_D A [(m0, .inr (14, [g0, g1, g2, g3, g4, .ref lw, g6, g7, .int 0])), (lw, .inr (5, [.int 0, .ref (em 0), .int 0]))] := hD
        have hK : va_K (dC, dI) vwCl [] s := hK
        refine W.widen (k := 0) (n := 0) (Nat.le_of_ble_eq_true rfl) (Nat.le_of_ble_eq_true rfl) ?_
        have hw : r_6 = 0 := hw
        rw [hw]
        refine lv_bipush (v := 6) hx hb dX8_weaver_31 (by decide) ?_
        refine lv_icmp_ne (tgt := 40) hx hb dX8_weaver_33 (by decide) (fun c_7 => ?_) (fun c_7 => ?_)
        · refine lv_iconst (v := 0) hx hb dX8_weaver_40 (by decide) ?_
          refine lv_iconst (v := 2) hx hb dX8_weaver_41 (by decide) ?_
          have hPc := hP.sub (ws' := [(m0, .inr (14, [g0, g1, g2, g3, g4, .ref lw, g6, g7, .int 0]))]) [0] rfl
          have hDc := hD.sub (ws' := [(m0, .inr (14, [g0, g1, g2, g3, g4, .ref lw, g6, g7, .int 0]))]) [0] (by decide) rfl
          have hKc := hK.sub (tys' := []) [] rfl
          have hFc := va_free (wc := [(m0, .inr (14, [g0, g1, g2, g3, g4, .ref lw, g6, g7, .int 0]))]) hD hS hA [0] rfl
          refine va_calli (va_runV (As := [.int 0, .int 2]) (rest := []) ⟨hx, hb, hml, hown, hts⟩ (c_X8_isThrown_0 l em dC dI m0 2 g0 g1 g2 g3 g4 (.ref lw) g6 g7 (.int 0) H.size) (cwV 2 hts gX8_weaver_X8_isThrown rfl rfl rfl (by decide +kernel) ⟨Nat.le_of_ble_eq_true rfl, Nat.le_of_ble_eq_true rfl⟩) ⟨Pw.blind _ _ _ _ _ _ _, va_recv hKc hPc (ci := 14) (q0 := 0) rfl rfl, fun U hU hW => ⟨rfl, Pw.go hPc hKc hDc hamb hS hFc hU hW⟩⟩ rfl rfl hl.1 rfl (lv_room (Nat.le_of_ble_eq_true rfl)) dX8_weaver_42 ⟨Nat.le_of_ble_eq_true rfl, Nat.le_of_ble_eq_true rfl⟩) hS (fun q _ h => hFc q h) hFc (fun r_8 u t H1 locs1 ht hvm hw hB hz1 hk1 hS => ?_)
          obtain ⟨hP1, hK1, hD1⟩ := hB
          rw [ht] at hP1
          have hK1 := va_K.moved hvm.symm hK1
          obtain ⟨hP, hD⟩ := va_join (wr := [(lw, .inr (5, [.int 0, .ref (em 0), .int 0]))]) (w1 := [(m0, .inr (14, [g0, g1, g2, g3, g4, .ref lw, g6, g7, .int 0]))]) hP hD [0] [1] rfl rfl (by decide) (by decide) hk1 hFc hP1 hD1
          have hK := (hK.sub (tys' := []) [] rfl).app hK1
          generalize H1 = H at hP hS ⊢
          have hP : va_P (dC, dI) vwCl [(lw, .inr (5, [.int 0, .ref (em 0), .int 0])), (m0, .inr (14, [g0, g1, g2, g3, g4, .ref lw, g6, g7, .int 0]))] H := hP
          have hD : va_D A [(lw, .inr (5, [.int 0, .ref (em 0), .int 0])), (m0, .inr (14, [g0, g1, g2, g3, g4, .ref lw, g6, g7, .int 0]))] := hD
          have hK : va_K (dC, dI) vwCl [] s := hK
          refine W.widen (k := 0) (n := 0) (Nat.le_of_ble_eq_true rfl) (Nat.le_of_ble_eq_true rfl) ?_
          have hw : r_8 = 0 := hw
          rw [hw]
          refine lv_if_eq (tgt := 50) hx hb dX8_weaver_45 (by decide) (fun c_9 => ?_) (fun c_9 => ?_)
          · refine lv_aload_n hx hb dX8_weaver_50 rfl (lv_at hl 0 rfl) ?_
            refine va_get (D := (dC, dI)) (ci := 14) (v := .ref lw) (C := RX8) (T := TX8) (N := 9) hx hb hts (by decide +kernel) hown hK hP 1 rfl rfl 5 (by decide) (hts (.fieldLink RX8 34 "BothfacesModel" "weavers" "Ljava/util/ArrayList;") (by decide +kernel)) (fun _ h9 => h9) rfl dX8_weaver_51 ?_
            refine lv_iload_n hx hb dX8_weaver_54 rfl (lv_at hl 1 rfl) ?_
            have hPc := hP.sub (ws' := []) [] rfl
            have hDc := hD.sub (ws' := []) [] (by decide) rfl
            have hKc := hK.sub (tys' := []) [] rfl
            have hFc := va_free (wc := []) hD hS hA [] rfl
            refine va_callr (va_runS (As := [.int p0]) (rest := [.ref lw]) ⟨hx, hb, hml, hown, hts⟩ (c_J6_valueOf_2dffe l em dC dI p0 t_2 H.size) (va_cwS 1 hts gX8_weaver_J6_valueOf_2dffe rfl rfl rfl (by decide +kernel) ⟨Nat.le_of_ble_eq_true rfl, Nat.le_of_ble_eq_true rfl⟩) ⟨Pw.blind _ _ _ _ _ _ _, fun U hU hW => ⟨rfl, Pw.go hPc hKc hDc hamb hS hFc hU hW⟩⟩ rfl rfl hl.1 rfl (lv_room (Nat.le_of_ble_eq_true rfl)) dX8_weaver_55 ⟨Nat.le_of_ble_eq_true rfl, Nat.le_of_ble_eq_true rfl⟩) hS (fun q _ h => hFc q h) hFc (fun u ra t H1 locs1 ht hvm hw hB hz1 hk1 hS => ?_)
            obtain ⟨hra, hB⟩ := hB
            rw [hra]
            obtain ⟨⟨hP1, hK1, hD1⟩, f_11⟩ := hB
            rw [ht] at hP1
            have hK1 := va_K.moved hvm.symm hK1
            obtain ⟨hP, hD⟩ := va_join (wr := [(lw, .inr (5, [.int 0, .ref (em 0), .int 0])), (m0, .inr (14, [g0, g1, g2, g3, g4, .ref lw, g6, g7, .int 0]))]) (w1 := []) hP hD [] [0, 1] rfl rfl (by decide) (by decide) hk1 hFc hP1 hD1
            have hK := (hK.sub (tys' := []) [] rfl).app hK1
            generalize H1 = H at hP hS ⊢
            have hP : va_P (dC, dI) vwCl [(lw, .inr (5, [.int 0, .ref (em 0), .int 0])), (m0, .inr (14, [g0, g1, g2, g3, g4, .ref lw, g6, g7, .int 0]))] H := hP
            have hD : va_D A [(lw, .inr (5, [.int 0, .ref (em 0), .int 0])), (m0, .inr (14, [g0, g1, g2, g3, g4, .ref lw, g6, g7, .int 0]))] := hD
            have hK : va_K (dC, dI) vwCl [] s := hK
            refine W.widen (k := 0) (n := 0) (Nat.le_of_ble_eq_true rfl) (Nat.le_of_ble_eq_true rfl) ?_
            have hPc := hP.sub (ws' := [(lw, .inr (5, [.int 0, .ref (em 0), .int 0]))]) [0] rfl
            have hDc := hD.sub (ws' := [(lw, .inr (5, [.int 0, .ref (em 0), .int 0]))]) [0] (by decide) rfl
            have hKc := hK.sub (tys' := []) [] rfl
            have hFc := va_free (wc := [(lw, .inr (5, [.int 0, .ref (em 0), .int 0]))]) hD hS hA [0] rfl
            refine va_calli (va_runV (As := [.ref (em (4 + (p0 + 128).toNatClampNeg))]) (rest := []) ⟨hx, hb, hml, hown, hts⟩ (c_Jx4a65c_add_9ea2d_old l em dC dI lw ((p0 + 128).toNatClampNeg) f_11 H.size) (cwV 1 hts gX8_weaver_Jx4a65c_add_9ea2d rfl rfl rfl (by decide +kernel) ⟨Nat.le_of_ble_eq_true rfl, Nat.le_of_ble_eq_true rfl⟩) ⟨Pw.blind _ _ _ _ _ _ _, va_recv hKc hPc (ci := 5) (q0 := 0) rfl rfl, fun U hU hW => ⟨rfl, Pw.go hPc hKc hDc hamb hS hFc hU hW⟩⟩ rfl rfl hl.1 rfl (lv_room (Nat.le_of_ble_eq_true rfl)) dX8_weaver_58 ⟨Nat.le_of_ble_eq_true rfl, Nat.le_of_ble_eq_true rfl⟩) hS (fun q _ h => hFc q h) hFc (fun r_12 u t H1 locs1 ht hvm hw hB hz1 hk1 hS => ?_)
            obtain ⟨ux_13, hP1, hK1, hD1⟩ := hB
            rw [ht] at hP1
            have hK1 := va_K.moved hvm.symm hK1
            obtain ⟨hP, hD⟩ := va_join (wr := [(m0, .inr (14, [g0, g1, g2, g3, g4, .ref lw, g6, g7, .int 0]))]) (w1 := [(lw, .inr (5, [.int 1, ux_13, .int 1]))]) hP hD [0] [1] rfl rfl (by decide) (by decide) hk1 hFc hP1 hD1
            have hK := (hK.sub (tys' := []) [] rfl).app hK1
            generalize H1 = H at hP hS ⊢
            have hP : va_P (dC, dI) vwCl [(m0, .inr (14, [g0, g1, g2, g3, g4, .ref lw, g6, g7, .int 0])), (lw, .inr (5, [.int 1, ux_13, .int 1]))] H := hP
            have hD : va_D A [(m0, .inr (14, [g0, g1, g2, g3, g4, .ref lw, g6, g7, .int 0])), (lw, .inr (5, [.int 1, ux_13, .int 1]))] := hD
            have hK : va_K (dC, dI) vwCl [] s := hK
            refine W.widen (k := 1) (n := 10) (Nat.le_of_ble_eq_true rfl) (Nat.le_of_ble_eq_true rfl) ?_
            have hw : r_12 = 1 := hw
            rw [hw]
            refine lv_pop hx hb dX8_weaver_61 rfl ?_
            refine lv_aload_n hx hb dX8_weaver_62 rfl (lv_at hl 0 rfl) ?_
            refine va_get (D := (dC, dI)) (ci := 14) (v := .ref lw) (C := RX8) (T := TX8) (N := 9) hx hb hts (by decide +kernel) hown hK hP 0 rfl rfl 5 (by decide) (hts (.fieldLink RX8 34 "BothfacesModel" "weavers" "Ljava/util/ArrayList;") (by decide +kernel)) (fun _ h9 => h9) rfl dX8_weaver_63 ?_
            have hPc := hP.sub (ws' := [(lw, .inr (5, [.int 1, ux_13, .int 1]))]) [1] rfl
            have hDc := hD.sub (ws' := [(lw, .inr (5, [.int 1, ux_13, .int 1]))]) [1] (by decide) rfl
            have hKc := hK.sub (tys' := []) [] rfl
            have hFc := va_free (wc := [(lw, .inr (5, [.int 1, ux_13, .int 1]))]) hD hS hA [1] rfl
            refine va_calli (va_runV (As := []) (rest := []) ⟨hx, hb, hml, hown, hts⟩ (c_Jx4a65c_size_8abf5_1 l em dC dI lw (.int 1) ux_13 H.size) (cwV 0 hts gX8_weaver_Jx4a65c_size_8abf5 rfl rfl rfl (by decide +kernel) ⟨Nat.le_of_ble_eq_true rfl, Nat.le_of_ble_eq_true rfl⟩) ⟨Pw.blind _ _ _ _ _ _ _, va_recv hKc hPc (ci := 5) (q0 := 0) rfl rfl, fun U hU hW => ⟨rfl, Pw.go hPc hKc hDc hamb hS hFc hU hW⟩⟩ rfl rfl hl.1 rfl (lv_room (Nat.le_of_ble_eq_true rfl)) dX8_weaver_66 ⟨Nat.le_of_ble_eq_true rfl, Nat.le_of_ble_eq_true rfl⟩) hS (fun q _ h => hFc q h) hFc (fun r_14 u t H1 locs1 ht hvm hw hB hz1 hk1 hS => ?_)
            obtain ⟨hP1, hK1, hD1⟩ := hB
            rw [ht] at hP1
            have hK1 := va_K.moved hvm.symm hK1
            obtain ⟨hP, hD⟩ := va_join (wr := [(m0, .inr (14, [g0, g1, g2, g3, g4, .ref lw, g6, g7, .int 0]))]) (w1 := [(lw, .inr (5, [.int 1, ux_13, .int 1]))]) hP hD [1] [0] rfl rfl (by decide) (by decide) hk1 hFc hP1 hD1
            have hK := (hK.sub (tys' := []) [] rfl).app hK1
            generalize H1 = H at hP hS ⊢
            have hP : va_P (dC, dI) vwCl [(m0, .inr (14, [g0, g1, g2, g3, g4, .ref lw, g6, g7, .int 0])), (lw, .inr (5, [.int 1, ux_13, .int 1]))] H := hP
            have hD : va_D A [(m0, .inr (14, [g0, g1, g2, g3, g4, .ref lw, g6, g7, .int 0])), (lw, .inr (5, [.int 1, ux_13, .int 1]))] := hD
            have hK : va_K (dC, dI) vwCl [] s := hK
            refine W.widen (k := 1) (n := 10) (Nat.le_of_ble_eq_true rfl) (Nat.le_of_ble_eq_true rfl) ?_
            have hw : r_14 = 1 := hw
            rw [hw]
            refine lv_iconst (v := 1) hx hb dX8_weaver_69 (by decide) ?_
            refine lv_isub hx hb dX8_weaver_70 ?_
            refine lv_topi (fun k_15 ek_15 => ?_)
            obtain rfl : k_15 = 0 := ek_15.trans (by decide)
            refine W.widen (k := 1) (n := 10) (Nat.le_of_ble_eq_true rfl) (Nat.le_of_ble_eq_true rfl) ?_
            have hP9 := hP.sub (ws' := [(m0, .inr (14, [g0, g1, g2, g3, g4, .ref lw, g6, g7, .int 0]))]) [0] rfl
            have hD9 := hD.sub (ws' := [(m0, .inr (14, [g0, g1, g2, g3, g4, .ref lw, g6, g7, .int 0]))]) [0] (by decide) rfl
            have hK9 := hK.sub (tys' := []) [] rfl
            exact W.iret (v := 0) hx hb hr (fun t ht hW => ⟨⟨0, (), rfl, ⟨fun h9 => (by first | rfl | (exfalso; omega)), fun h9 => (by first | rfl | (exfalso; omega))⟩, ⟨(0), ⟨by rw [ht]; exact hP9, va_K.moved hW.alike hK9, hD9⟩, (by first | rfl | assumption | omega | exact fun _ => rfl | exact fun h9 => absurd (by omega) h9 | exact fun h9 => absurd h9 (by omega)), (by first | rfl | assumption | omega | exact fun _ => rfl | exact fun h9 => absurd (by omega) h9 | exact fun h9 => absurd h9 (by omega))⟩⟩, hS.F ht⟩) hS.2.2 dX8_weaver_71
          · exact absurd (by decide) c_9
        · exact absurd c_7 (by decide)
    · exact absurd c_3 (by decide)
  · have hw := hw.2 t_2
    rw [hw]
    refine lv_if_ne (tgt := 15) hx hb dX8_weaver_8 (by decide) (fun c_16 => ?_) (fun c_16 => ?_)
    · exact absurd (by decide) c_16
    · refine lv_iconst (v := 1) hx hb dX8_weaver_11 (by decide) ?_
      refine lv_goto (tgt := 16) hx hb dX8_weaver_12 (by decide) ?_
      refine lv_iconst (v := 1) hx hb dX8_weaver_16 (by decide) ?_
      have hPc := hP.sub (ws' := [(m0, .inr (14, [g0, g1, g2, g3, g4, .ref lw, g6, g7, g8]))]) [0] rfl
      have hDc := hD.sub (ws' := [(m0, .inr (14, [g0, g1, g2, g3, g4, .ref lw, g6, g7, g8]))]) [0] (by decide) rfl
      have hKc := hK.sub (tys' := []) [] rfl
      have hFc := va_free (wc := [(m0, .inr (14, [g0, g1, g2, g3, g4, .ref lw, g6, g7, g8]))]) hD hS hA [0] rfl
      refine va_calli (va_runV (As := [.int 1, .int 1]) (rest := []) ⟨hx, hb, hml, hown, hts⟩ (c_X8_isThrown_1 l em dC dI m0 1 g0 g1 g2 g3 g4 (.ref lw) g6 g7 g8 H.size) (cwV 2 hts gX8_weaver_X8_isThrown rfl rfl rfl (by decide +kernel) ⟨Nat.le_of_ble_eq_true rfl, Nat.le_of_ble_eq_true rfl⟩) ⟨Pw.blind _ _ _ _ _ _ _, va_recv hKc hPc (ci := 14) (q0 := 0) rfl rfl, fun U hU hW => ⟨rfl, Pw.go hPc hKc hDc hamb hS hFc hU hW⟩⟩ rfl rfl hl.1 rfl (lv_room (Nat.le_of_ble_eq_true rfl)) dX8_weaver_17 ⟨Nat.le_of_ble_eq_true rfl, Nat.le_of_ble_eq_true rfl⟩) hS (fun q _ h => hFc q h) hFc (fun r_17 u t H1 locs1 ht hvm hw hB hz1 hk1 hS => ?_)
      obtain ⟨hP1, hK1, hD1⟩ := hB
      rw [ht] at hP1
      have hK1 := va_K.moved hvm.symm hK1
      obtain ⟨hP, hD⟩ := va_join (wr := [(lw, .inr (5, [.int 0, .ref (em 0), .int 0]))]) (w1 := [(m0, .inr (14, [g0, g1, g2, g3, g4, .ref lw, g6, g7, .int 1]))]) hP hD [0] [1] rfl rfl (by decide) (by decide) hk1 hFc hP1 hD1
      have hK := (hK.sub (tys' := []) [] rfl).app hK1
      generalize H1 = H at hP hS ⊢
      have hP : va_P (dC, dI) vwCl [(lw, .inr (5, [.int 0, .ref (em 0), .int 0])), (m0, .inr (14, [g0, g1, g2, g3, g4, .ref lw, g6, g7, .int 1]))] H := hP
      have hD : va_D A [(lw, .inr (5, [.int 0, .ref (em 0), .int 0])), (m0, .inr (14, [g0, g1, g2, g3, g4, .ref lw, g6, g7, .int 1]))] := hD
      have hK : va_K (dC, dI) vwCl [] s := hK
      refine W.widen (k := 0) (n := 0) (Nat.le_of_ble_eq_true rfl) (Nat.le_of_ble_eq_true rfl) ?_
      have hw : r_17 = 1 := hw
      rw [hw]
      refine lv_if_ne (tgt := 48) hx hb dX8_weaver_20 (by decide) (fun c_18 => ?_) (fun c_18 => ?_)
      · refine lv_iconst (v := 0) hx hb dX8_weaver_48 (by decide) ?_
        refine W.widen (k := 1) (n := 10) (Nat.le_of_ble_eq_true rfl) (Nat.le_of_ble_eq_true rfl) ?_
        have hP9 := hP.sub (ws' := [(m0, .inr (14, [g0, g1, g2, g3, g4, .ref lw, g6, g7, .int 1]))]) [1] rfl
        have hD9 := hD.sub (ws' := [(m0, .inr (14, [g0, g1, g2, g3, g4, .ref lw, g6, g7, .int 1]))]) [1] (by decide) rfl
        have hK9 := hK.sub (tys' := []) [] rfl
        exact W.iret (v := 0) hx hb hr (fun t ht hW => ⟨⟨0, (), rfl, ⟨fun h9 => (by first | rfl | (exfalso; omega)), fun h9 => (by first | rfl | (exfalso; omega))⟩, ⟨(1), ⟨by rw [ht]; exact hP9, va_K.moved hW.alike hK9, hD9⟩, (by first | rfl | assumption | omega | exact fun _ => rfl | exact fun h9 => absurd (by omega) h9 | exact fun h9 => absurd h9 (by omega)), (by first | rfl | assumption | omega | exact fun _ => rfl | exact fun h9 => absurd (by omega) h9 | exact fun h9 => absurd h9 (by omega))⟩⟩, hS.F ht⟩) hS.2.2 dX8_weaver_49
      · exact absurd c_18 (by decide)

set_option maxHeartbeats 4000000 in
set_option maxRecDepth 100000 in
theorem c_X8_order (l : Launch) (em : Nat → Nat) (dC : Nat → ClassId) (dI : Nat → Nat → Nat) (m0 : Nat) (p0 : Int32) (p1 : Int32) (p2 : Int32) (g0 : Value) (g1 : Value) (g2 : Value) (g3 : Value) (g4 : Value) (g5 : Value) (g7 : Value) (g8 : Value) (lo : Nat) (sz : Nat) : Met l yX8_order wsX8_order ({ frames := 5, cells := 2, slots := 13, locals := 101 }) (va_Pc [.ref m0, .int p0, .int p1, .int p2] (Pw em dC dI sz [(m0, .inr (14, [g0, g1, g2, g3, g4, g5, .ref lo, g7, g8])), (lo, .inr (5, [.int 0, .ref (em 0), .int 0]))] [])) (va_Qi (fun (r : Int32) (_ : Unit) => ((p0.toInt < 1 ∨ 200 < p0.toInt ∨ p1.toInt < 1 ∨ 999 < p1.toInt ∨ p2.toInt < 1 ∨ 99 < p2.toInt) → r = 0) ∧ (¬ (p0.toInt < 1 ∨ 200 < p0.toInt ∨ p1.toInt < 1 ∨ 999 < p1.toInt ∨ p2.toInt < 1 ∨ 99 < p2.toInt) → r = 0)) (fun _ t => ∃ (tv : Int32), Qw dC dI (va_A [(m0, .inr (14, [g0, g1, g2, g3, g4, g5, .ref lo, g7, g8])), (lo, .inr (5, [.int 0, .ref (em 0), .int 0]))] sz) [(m0, .inr (14, [g0, g1, g2, g3, g4, g5, .ref lo, g7, .int tv]))] [] t ∧ ((p0.toInt < 1 ∨ 200 < p0.toInt ∨ p1.toInt < 1 ∨ 999 < p1.toInt ∨ p2.toInt < 1 ∨ 99 < p2.toInt) → tv = 1) ∧ (¬ (p0.toInt < 1 ∨ 200 < p0.toInt ∨ p1.toInt < 1 ∨ 999 < p1.toInt ∨ p2.toInt < 1 ∨ 99 < p2.toInt) → tv = 0)) (va_A [(m0, .inr (14, [g0, g1, g2, g3, g4, g5, .ref lo, g7, g8])), (lo, .inr (5, [.int 0, .ref (em 0), .int 0]))] sz)) 2 13 (va_A [(m0, .inr (14, [g0, g1, g2, g3, g4, g5, .ref lo, g7, g8])), (lo, .inr (5, [.int 0, .ref (em 0), .int 0]))] sz) := by
  refine Met.ofW (cc := cX8_order) (maxL := 4) (ret := (some .int)) (by decide) rfl ?_
  intro p e s m args below meth c s₁ B hml hv
  obtain ⟨rfl, hsz, hP, hK, hD0, hamb⟩ := hv
  have hx := B.exec
  have hb := B.bytes
  have hr := B.returns
  have hts := atoms_spec (ws := wsX8_order) B.pre
  have hown : s.vm.findClass RX8 = some m.cls := findClass_of_methodNamed B.named
  have hlocks := B.notSynchronized
  subst hsz
  have hD := hD0.self (sz := s.heap.size)
  generalize hAe : va_A [(m0, .inr (14, [g0, g1, g2, g3, g4, g5, .ref lo, g7, g8])), (lo, .inr (5, [.int 0, .ref (em 0), .int 0]))] s.heap.size = A at hD hamb ⊢
  have hA : ∀ q : Nat, s.heap.size ≤ q → A q := fun q h => by rw [← hAe]; exact Or.inr h
  have hS : va_S A s.heap s.heap [] := va_S.rf
  have hP : va_P (dC, dI) vwCl [(m0, .inr (14, [g0, g1, g2, g3, g4, g5, .ref lo, g7, g8])), (lo, .inr (5, [.int 0, .ref (em 0), .int 0]))] s.heap := hP
  have hl := lv_entry ([.ref m0, .int p0, .int p1, .int p2]) (n := 4) (Nat.le_of_ble_eq_true rfl)
  rw [lg_entry_eq]
  generalize (lg_sl ([.ref m0, .int p0, .int p1, .int p2]) ++ List.replicate (4 - (lg_sl ([.ref m0, .int p0, .int p1, .int p2])).length) Slot.unset).toArray = ls at hl ⊢
  have hl : lv_has ls 4 [(0, .ref m0), (1, .int p0), (2, .int p1), (3, .int p2)] := hl
  refine lv_aload_n hx hb dX8_order_0 rfl (lv_at hl 0 rfl) ?_
  refine lv_iload_n hx hb dX8_order_1 rfl (lv_at hl 1 rfl) ?_
  refine lv_iconst (v := 1) hx hb dX8_order_2 (by decide) ?_
  refine lv_sipush (v := 200) hx hb dX8_order_3 (by decide) ?_
  have hPc := hP.sub (ws' := []) [] rfl
  have hDc := hD.sub (ws' := []) [] (by decide) rfl
  have hKc := hK.sub (tys' := []) [] rfl
  have hFc := va_free (wc := []) hD hS hA [] rfl
  refine va_calli (va_runS (As := [.int p0, .int 1, .int 200]) (rest := [.ref m0]) ⟨hx, hb, hml, hown, hts⟩ (c_X8_isIn_1_200 l em dC dI p0 s.heap.size) (va_cwS 3 hts gX8_order_X8_isIn rfl rfl rfl (by decide +kernel) ⟨Nat.le_of_ble_eq_true rfl, Nat.le_of_ble_eq_true rfl⟩) ⟨Pw.blind _ _ _ _ _ _ _, fun U hU hW => ⟨rfl, Pw.go hPc hKc hDc hamb hS hFc hU hW⟩⟩ rfl rfl hl.1 rfl (lv_room (Nat.le_of_ble_eq_true rfl)) dX8_order_6 ⟨Nat.le_of_ble_eq_true rfl, Nat.le_of_ble_eq_true rfl⟩) hS (fun q _ h => hFc q h) hFc (fun r_1 u t H1 locs1 ht hvm hw hB hz1 hk1 hS => ?_)
  obtain ⟨hP, hD⟩ := va_rest (wr := [(m0, .inr (14, [g0, g1, g2, g3, g4, g5, .ref lo, g7, g8])), (lo, .inr (5, [.int 0, .ref (em 0), .int 0]))]) hP hD [] [0, 1] rfl rfl (by decide) (by decide) hk1 hFc
  generalize H1 = H at hP hS ⊢
  refine W.widen (k := 0) (n := 0) (Nat.le_of_ble_eq_true rfl) (Nat.le_of_ble_eq_true rfl) ?_
  have hw : ((1 ≤ p0.toInt ∧ p0.toInt ≤ 200) → r_1 = 1) ∧ (¬ (1 ≤ p0.toInt ∧ p0.toInt ≤ 200) → r_1 = 0) := hw
  rcases Classical.em (1 ≤ p0.toInt ∧ p0.toInt ≤ 200) with t_2 | t_2
  · have hw := hw.1 t_2
    rw [hw]
    refine lv_if_eq (tgt := 33) hx hb dX8_order_9 (by decide) (fun c_3 => ?_) (fun c_3 => ?_)
    · exact absurd c_3 (by decide)
    · refine lv_iload_n hx hb dX8_order_12 rfl (lv_at hl 2 rfl) ?_
      refine lv_iconst (v := 1) hx hb dX8_order_13 (by decide) ?_
      refine lv_sipush (v := 999) hx hb dX8_order_14 (by decide) ?_
      have hPc := hP.sub (ws' := []) [] rfl
      have hDc := hD.sub (ws' := []) [] (by decide) rfl
      have hKc := hK.sub (tys' := []) [] rfl
      have hFc := va_free (wc := []) hD hS hA [] rfl
      refine va_calli (va_runS (As := [.int p1, .int 1, .int 999]) (rest := [.ref m0]) ⟨hx, hb, hml, hown, hts⟩ (c_X8_isIn_1_999 l em dC dI p1 H.size) (va_cwS 3 hts gX8_order_X8_isIn rfl rfl rfl (by decide +kernel) ⟨Nat.le_of_ble_eq_true rfl, Nat.le_of_ble_eq_true rfl⟩) ⟨Pw.blind _ _ _ _ _ _ _, fun U hU hW => ⟨rfl, Pw.go hPc hKc hDc hamb hS hFc hU hW⟩⟩ rfl rfl hl.1 rfl (lv_room (Nat.le_of_ble_eq_true rfl)) dX8_order_17 ⟨Nat.le_of_ble_eq_true rfl, Nat.le_of_ble_eq_true rfl⟩) hS (fun q _ h => hFc q h) hFc (fun r_4 u t H1 locs1 ht hvm hw hB hz1 hk1 hS => ?_)
      obtain ⟨hP, hD⟩ := va_rest (wr := [(m0, .inr (14, [g0, g1, g2, g3, g4, g5, .ref lo, g7, g8])), (lo, .inr (5, [.int 0, .ref (em 0), .int 0]))]) hP hD [] [0, 1] rfl rfl (by decide) (by decide) hk1 hFc
      generalize H1 = H at hP hS ⊢
      refine W.widen (k := 0) (n := 0) (Nat.le_of_ble_eq_true rfl) (Nat.le_of_ble_eq_true rfl) ?_
      have hw : ((1 ≤ p1.toInt ∧ p1.toInt ≤ 999) → r_4 = 1) ∧ (¬ (1 ≤ p1.toInt ∧ p1.toInt ≤ 999) → r_4 = 0) := hw
      rcases Classical.em (1 ≤ p1.toInt ∧ p1.toInt ≤ 999) with t_5 | t_5
      · have hw := hw.1 t_5
        rw [hw]
        refine lv_if_eq (tgt := 33) hx hb dX8_order_20 (by decide) (fun c_6 => ?_) (fun c_6 => ?_)
        · exact absurd c_6 (by decide)
        · refine lv_iload_n hx hb dX8_order_23 rfl (lv_at hl 3 rfl) ?_
          refine lv_iconst (v := 1) hx hb dX8_order_24 (by decide) ?_
          refine lv_bipush (v := 99) hx hb dX8_order_25 (by decide) ?_
          have hPc := hP.sub (ws' := []) [] rfl
          have hDc := hD.sub (ws' := []) [] (by decide) rfl
          have hKc := hK.sub (tys' := []) [] rfl
          have hFc := va_free (wc := []) hD hS hA [] rfl
          refine va_calli (va_runS (As := [.int p2, .int 1, .int 99]) (rest := [.ref m0]) ⟨hx, hb, hml, hown, hts⟩ (c_X8_isIn_1_99 l em dC dI p2 H.size) (va_cwS 3 hts gX8_order_X8_isIn rfl rfl rfl (by decide +kernel) ⟨Nat.le_of_ble_eq_true rfl, Nat.le_of_ble_eq_true rfl⟩) ⟨Pw.blind _ _ _ _ _ _ _, fun U hU hW => ⟨rfl, Pw.go hPc hKc hDc hamb hS hFc hU hW⟩⟩ rfl rfl hl.1 rfl (lv_room (Nat.le_of_ble_eq_true rfl)) dX8_order_27 ⟨Nat.le_of_ble_eq_true rfl, Nat.le_of_ble_eq_true rfl⟩) hS (fun q _ h => hFc q h) hFc (fun r_7 u t H1 locs1 ht hvm hw hB hz1 hk1 hS => ?_)
          obtain ⟨hP, hD⟩ := va_rest (wr := [(m0, .inr (14, [g0, g1, g2, g3, g4, g5, .ref lo, g7, g8])), (lo, .inr (5, [.int 0, .ref (em 0), .int 0]))]) hP hD [] [0, 1] rfl rfl (by decide) (by decide) hk1 hFc
          generalize H1 = H at hP hS ⊢
          refine W.widen (k := 0) (n := 0) (Nat.le_of_ble_eq_true rfl) (Nat.le_of_ble_eq_true rfl) ?_
          have hw : ((1 ≤ p2.toInt ∧ p2.toInt ≤ 99) → r_7 = 1) ∧ (¬ (1 ≤ p2.toInt ∧ p2.toInt ≤ 99) → r_7 = 0) := hw
          rcases Classical.em (1 ≤ p2.toInt ∧ p2.toInt ≤ 99) with t_8 | t_8
          · have hw := hw.1 t_8
            rw [hw]
            refine lv_if_ne (tgt := 37) hx hb dX8_order_30 (by decide) (fun c_9 => ?_) (fun c_9 => ?_)
            · refine lv_iconst (v := 0) hx hb dX8_order_37 (by decide) ?_
              refine lv_iconst (v := 1) hx hb dX8_order_38 (by decide) ?_
              have hPc := hP.sub (ws' := [(m0, .inr (14, [g0, g1, g2, g3, g4, g5, .ref lo, g7, g8]))]) [0] rfl
              have hDc := hD.sub (ws' := [(m0, .inr (14, [g0, g1, g2, g3, g4, g5, .ref lo, g7, g8]))]) [0] (by decide) rfl
              have hKc := hK.sub (tys' := []) [] rfl
              have hFc := va_free (wc := [(m0, .inr (14, [g0, g1, g2, g3, g4, g5, .ref lo, g7, g8]))]) hD hS hA [0] rfl
              refine va_calli (va_runV (As := [.int 0, .int 1]) (rest := []) ⟨hx, hb, hml, hown, hts⟩ (c_X8_isThrown_0 l em dC dI m0 1 g0 g1 g2 g3 g4 g5 (.ref lo) g7 g8 H.size) (cwV 2 hts gX8_order_X8_isThrown rfl rfl rfl (by decide +kernel) ⟨Nat.le_of_ble_eq_true rfl, Nat.le_of_ble_eq_true rfl⟩) ⟨Pw.blind _ _ _ _ _ _ _, va_recv hKc hPc (ci := 14) (q0 := 0) rfl rfl, fun U hU hW => ⟨rfl, Pw.go hPc hKc hDc hamb hS hFc hU hW⟩⟩ rfl rfl hl.1 rfl (lv_room (Nat.le_of_ble_eq_true rfl)) dX8_order_39 ⟨Nat.le_of_ble_eq_true rfl, Nat.le_of_ble_eq_true rfl⟩) hS (fun q _ h => hFc q h) hFc (fun r_10 u t H1 locs1 ht hvm hw hB hz1 hk1 hS => ?_)
              obtain ⟨hP1, hK1, hD1⟩ := hB
              rw [ht] at hP1
              have hK1 := va_K.moved hvm.symm hK1
              obtain ⟨hP, hD⟩ := va_join (wr := [(lo, .inr (5, [.int 0, .ref (em 0), .int 0]))]) (w1 := [(m0, .inr (14, [g0, g1, g2, g3, g4, g5, .ref lo, g7, .int 0]))]) hP hD [0] [1] rfl rfl (by decide) (by decide) hk1 hFc hP1 hD1
              have hK := (hK.sub (tys' := []) [] rfl).app hK1
              generalize H1 = H at hP hS ⊢
              have hP : va_P (dC, dI) vwCl [(lo, .inr (5, [.int 0, .ref (em 0), .int 0])), (m0, .inr (14, [g0, g1, g2, g3, g4, g5, .ref lo, g7, .int 0]))] H := hP
              have hD : va_D A [(lo, .inr (5, [.int 0, .ref (em 0), .int 0])), (m0, .inr (14, [g0, g1, g2, g3, g4, g5, .ref lo, g7, .int 0]))] := hD
              have hK : va_K (dC, dI) vwCl [] s := hK
              refine W.widen (k := 0) (n := 0) (Nat.le_of_ble_eq_true rfl) (Nat.le_of_ble_eq_true rfl) ?_
              have hw : r_10 = 0 := hw
              rw [hw]
              refine lv_if_ne (tgt := 70) hx hb dX8_order_42 (by decide) (fun c_11 => ?_) (fun c_11 => ?_)
              · exact absurd (by decide) c_11
              · refine lv_aload_n hx hb dX8_order_45 rfl (lv_at hl 0 rfl) ?_
                refine lv_aload_n hx hb dX8_order_46 rfl (lv_at hl 0 rfl) ?_
                refine va_get (D := (dC, dI)) (ci := 14) (v := .ref lo) (C := RX8) (T := TX8) (N := 9) hx hb hts (by decide +kernel) hown hK hP 1 rfl rfl 6 (by decide) (hts (.fieldLink RX8 37 "BothfacesModel" "orders" "Ljava/util/ArrayList;") (by decide +kernel)) (fun _ h9 => h9) rfl dX8_order_47 ?_
                have hPc := hP.sub (ws' := [(lo, .inr (5, [.int 0, .ref (em 0), .int 0]))]) [0] rfl
                have hDc := hD.sub (ws' := [(lo, .inr (5, [.int 0, .ref (em 0), .int 0]))]) [0] (by decide) rfl
                have hKc := hK.sub (tys' := []) [] rfl
                have hFc := va_free (wc := [(lo, .inr (5, [.int 0, .ref (em 0), .int 0]))]) hD hS hA [0] rfl
                refine va_calli (va_runV (As := []) (rest := [.ref m0]) ⟨hx, hb, hml, hown, hts⟩ (c_Jx4a65c_size_8abf5 l em dC dI lo (.int 0) (.ref (em 0)) H.size) (cwV 0 hts gX8_order_Jx4a65c_size_8abf5 rfl rfl rfl (by decide +kernel) ⟨Nat.le_of_ble_eq_true rfl, Nat.le_of_ble_eq_true rfl⟩) ⟨Pw.blind _ _ _ _ _ _ _, va_recv hKc hPc (ci := 5) (q0 := 0) rfl rfl, fun U hU hW => ⟨rfl, Pw.go hPc hKc hDc hamb hS hFc hU hW⟩⟩ rfl rfl hl.1 rfl (lv_room (Nat.le_of_ble_eq_true rfl)) dX8_order_50 ⟨Nat.le_of_ble_eq_true rfl, Nat.le_of_ble_eq_true rfl⟩) hS (fun q _ h => hFc q h) hFc (fun r_12 u t H1 locs1 ht hvm hw hB hz1 hk1 hS => ?_)
                obtain ⟨hP1, hK1, hD1⟩ := hB
                rw [ht] at hP1
                have hK1 := va_K.moved hvm.symm hK1
                obtain ⟨hP, hD⟩ := va_join (wr := [(m0, .inr (14, [g0, g1, g2, g3, g4, g5, .ref lo, g7, .int 0]))]) (w1 := [(lo, .inr (5, [.int 0, .ref (em 0), .int 0]))]) hP hD [0] [1] rfl rfl (by decide) (by decide) hk1 hFc hP1 hD1
                have hK := (hK.sub (tys' := []) [] rfl).app hK1
                generalize H1 = H at hP hS ⊢
                have hP : va_P (dC, dI) vwCl [(m0, .inr (14, [g0, g1, g2, g3, g4, g5, .ref lo, g7, .int 0])), (lo, .inr (5, [.int 0, .ref (em 0), .int 0]))] H := hP
                have hD : va_D A [(m0, .inr (14, [g0, g1, g2, g3, g4, g5, .ref lo, g7, .int 0])), (lo, .inr (5, [.int 0, .ref (em 0), .int 0]))] := hD
                have hK : va_K (dC, dI) vwCl [] s := hK
                refine W.widen (k := 0) (n := 0) (Nat.le_of_ble_eq_true rfl) (Nat.le_of_ble_eq_true rfl) ?_
                have hw : r_12 = 0 := hw
                rw [hw]
                refine lv_bipush (v := 8) hx hb dX8_order_53 (by decide) ?_
                refine lv_icmp_ne (tgt := 62) hx hb dX8_order_55 (by decide) (fun c_13 => ?_) (fun c_13 => ?_)
                · refine lv_iconst (v := 0) hx hb dX8_order_62 (by decide) ?_
                  refine lv_iconst (v := 2) hx hb dX8_order_63 (by decide) ?_
                  have hPc := hP.sub (ws' := [(m0, .inr (14, [g0, g1, g2, g3, g4, g5, .ref lo, g7, .int 0]))]) [0] rfl
                  have hDc := hD.sub (ws' := [(m0, .inr (14, [g0, g1, g2, g3, g4, g5, .ref lo, g7, .int 0]))]) [0] (by decide) rfl
                  have hKc := hK.sub (tys' := []) [] rfl
                  have hFc := va_free (wc := [(m0, .inr (14, [g0, g1, g2, g3, g4, g5, .ref lo, g7, .int 0]))]) hD hS hA [0] rfl
                  refine va_calli (va_runV (As := [.int 0, .int 2]) (rest := []) ⟨hx, hb, hml, hown, hts⟩ (c_X8_isThrown_0 l em dC dI m0 2 g0 g1 g2 g3 g4 g5 (.ref lo) g7 (.int 0) H.size) (cwV 2 hts gX8_order_X8_isThrown rfl rfl rfl (by decide +kernel) ⟨Nat.le_of_ble_eq_true rfl, Nat.le_of_ble_eq_true rfl⟩) ⟨Pw.blind _ _ _ _ _ _ _, va_recv hKc hPc (ci := 14) (q0 := 0) rfl rfl, fun U hU hW => ⟨rfl, Pw.go hPc hKc hDc hamb hS hFc hU hW⟩⟩ rfl rfl hl.1 rfl (lv_room (Nat.le_of_ble_eq_true rfl)) dX8_order_64 ⟨Nat.le_of_ble_eq_true rfl, Nat.le_of_ble_eq_true rfl⟩) hS (fun q _ h => hFc q h) hFc (fun r_14 u t H1 locs1 ht hvm hw hB hz1 hk1 hS => ?_)
                  obtain ⟨hP1, hK1, hD1⟩ := hB
                  rw [ht] at hP1
                  have hK1 := va_K.moved hvm.symm hK1
                  obtain ⟨hP, hD⟩ := va_join (wr := [(lo, .inr (5, [.int 0, .ref (em 0), .int 0]))]) (w1 := [(m0, .inr (14, [g0, g1, g2, g3, g4, g5, .ref lo, g7, .int 0]))]) hP hD [0] [1] rfl rfl (by decide) (by decide) hk1 hFc hP1 hD1
                  have hK := (hK.sub (tys' := []) [] rfl).app hK1
                  generalize H1 = H at hP hS ⊢
                  have hP : va_P (dC, dI) vwCl [(lo, .inr (5, [.int 0, .ref (em 0), .int 0])), (m0, .inr (14, [g0, g1, g2, g3, g4, g5, .ref lo, g7, .int 0]))] H := hP
                  have hD : va_D A [(lo, .inr (5, [.int 0, .ref (em 0), .int 0])), (m0, .inr (14, [g0, g1, g2, g3, g4, g5, .ref lo, g7, .int 0]))] := hD
                  have hK : va_K (dC, dI) vwCl [] s := hK
                  refine W.widen (k := 0) (n := 0) (Nat.le_of_ble_eq_true rfl) (Nat.le_of_ble_eq_true rfl) ?_
                  have hw : r_14 = 0 := hw
                  rw [hw]
                  refine lv_if_eq (tgt := 72) hx hb dX8_order_67 (by decide) (fun c_15 => ?_) (fun c_15 => ?_)
                  · refine lv_aload_n hx hb dX8_order_72 rfl (lv_at hl 0 rfl) ?_
                    refine va_get (D := (dC, dI)) (ci := 14) (v := .ref lo) (C := RX8) (T := TX8) (N := 9) hx hb hts (by decide +kernel) hown hK hP 1 rfl rfl 6 (by decide) (hts (.fieldLink RX8 37 "BothfacesModel" "orders" "Ljava/util/ArrayList;") (by decide +kernel)) (fun _ h9 => h9) rfl dX8_order_73 ?_
                    refine lv_iconst (v := 3) hx hb dX8_order_76 (by decide) ?_
                    refine va_newa (atype := .int) (ty := .int) (a0 := (3, .inl (fun _ => 0))) hx hb (hts (.arrayClass .int) (by decide +kernel)) rfl hK hP hD hS hA (fun _ => rfl) (by decide) rfl (Nat.le_of_ble_eq_true rfl) (Nat.le_of_ble_eq_true rfl) (Nat.le_of_ble_eq_true rfl) dX8_order_77 (fun q_16 cA_17 H hK hP hD hS => ?_)
                    have hP : va_P (dC, dI) vwCl [(lo, .inr (5, [.int 0, .ref (em 0), .int 0])), (m0, .inr (14, [g0, g1, g2, g3, g4, g5, .ref lo, g7, .int 0])), (q_16, .inl (cA_17, 3, .inl (fun _ => 0)))] H := hP
                    have hD : va_D A [(lo, .inr (5, [.int 0, .ref (em 0), .int 0])), (m0, .inr (14, [g0, g1, g2, g3, g4, g5, .ref lo, g7, .int 0])), (q_16, .inl (cA_17, 3, .inl (fun _ => 0)))] := hD
                    have hK : va_K (dC, dI) vwCl [(cA_17, .int)] s := hK
                    refine W.widen (k := 1) (n := 3) (Nat.le_of_ble_eq_true rfl) (Nat.le_of_ble_eq_true rfl) ?_
                    refine lv_dup hx hb dX8_order_79 rfl ?_
                    refine lv_iconst (v := 0) hx hb dX8_order_80 (by decide) ?_
                    refine lv_iload_n hx hb dX8_order_81 rfl (lv_at hl 1 rfl) ?_
                    refine lv_bipush (v := 9) hx hb dX8_order_82 (by decide) ?_
                    refine lv_iadd hx hb dX8_order_84 ?_
                    refine lv_topi (fun x_18 ex_18 => ?_)
                    have tx_18 : x_18.toInt = p0.toInt + (9) := by rw [ex_18]; exact b_add (k := 9) rfl (by omega) (by omega)
                    refine lv_bipush (v := 10) hx hb dX8_order_85 (by decide) ?_
                    refine lv_idiv hx hb dX8_order_87 (by decide) ?_
                    refine lv_topi (fun x_19 ex_19 => ?_)
                    refine va_iast hx hb hK hP hD hS 2 0 rfl rfl (vp_in_iff.mpr ⟨by decide, by decide⟩) dX8_order_88 (fun H locs hP hD hS => ?_)
                    have hP : va_P (dC, dI) vwCl [(lo, .inr (5, [.int 0, .ref (em 0), .int 0])), (m0, .inr (14, [g0, g1, g2, g3, g4, g5, .ref lo, g7, .int 0])), (q_16, .inl (cA_17, 3, .inl (upd (fun _ => 0) 0 x_19)))] H := hP
                    have hD : va_D A [(lo, .inr (5, [.int 0, .ref (em 0), .int 0])), (m0, .inr (14, [g0, g1, g2, g3, g4, g5, .ref lo, g7, .int 0])), (q_16, .inl (cA_17, 3, .inl (upd (fun _ => 0) 0 x_19)))] := hD
                    refine lv_dup hx hb dX8_order_89 rfl ?_
                    refine lv_iconst (v := 1) hx hb dX8_order_90 (by decide) ?_
                    refine lv_iload_n hx hb dX8_order_91 rfl (lv_at hl 2 rfl) ?_
                    refine va_iast hx hb hK hP hD hS 2 0 rfl rfl (vp_in_iff.mpr ⟨by decide, by decide⟩) dX8_order_92 (fun H locs hP hD hS => ?_)
                    have hP : va_P (dC, dI) vwCl [(lo, .inr (5, [.int 0, .ref (em 0), .int 0])), (m0, .inr (14, [g0, g1, g2, g3, g4, g5, .ref lo, g7, .int 0])), (q_16, .inl (cA_17, 3, .inl (upd (upd (fun _ => 0) 0 x_19) 1 p1)))] H := hP
                    have hD : va_D A [(lo, .inr (5, [.int 0, .ref (em 0), .int 0])), (m0, .inr (14, [g0, g1, g2, g3, g4, g5, .ref lo, g7, .int 0])), (q_16, .inl (cA_17, 3, .inl (upd (upd (fun _ => 0) 0 x_19) 1 p1)))] := hD
                    refine lv_dup hx hb dX8_order_93 rfl ?_
                    refine lv_iconst (v := 2) hx hb dX8_order_94 (by decide) ?_
                    refine lv_iload_n hx hb dX8_order_95 rfl (lv_at hl 3 rfl) ?_
                    refine va_iast hx hb hK hP hD hS 2 0 rfl rfl (vp_in_iff.mpr ⟨by decide, by decide⟩) dX8_order_96 (fun H locs hP hD hS => ?_)
                    have hP : va_P (dC, dI) vwCl [(lo, .inr (5, [.int 0, .ref (em 0), .int 0])), (m0, .inr (14, [g0, g1, g2, g3, g4, g5, .ref lo, g7, .int 0])), (q_16, .inl (cA_17, 3, .inl (upd (upd (upd (fun _ => 0) 0 x_19) 1 p1) 2 p2)))] H := hP
                    have hD : va_D A [(lo, .inr (5, [.int 0, .ref (em 0), .int 0])), (m0, .inr (14, [g0, g1, g2, g3, g4, g5, .ref lo, g7, .int 0])), (q_16, .inl (cA_17, 3, .inl (upd (upd (upd (fun _ => 0) 0 x_19) 1 p1) 2 p2)))] := hD
                    have hPc := hP.sub (ws' := [(lo, .inr (5, [.int 0, .ref (em 0), .int 0])), (q_16, .inl (cA_17, 3, .inl (upd (upd (upd (fun _ => 0) 0 x_19) 1 p1) 2 p2)))]) [0, 2] rfl
                    have hDc := hD.sub (ws' := [(lo, .inr (5, [.int 0, .ref (em 0), .int 0])), (q_16, .inl (cA_17, 3, .inl (upd (upd (upd (fun _ => 0) 0 x_19) 1 p1) 2 p2)))]) [0, 2] (by decide) rfl
                    have hKc := hK.sub (tys' := [(cA_17, .int)]) [0] rfl
                    have hFc := va_free (wc := [(lo, .inr (5, [.int 0, .ref (em 0), .int 0])), (q_16, .inl (cA_17, 3, .inl (upd (upd (upd (fun _ => 0) 0 x_19) 1 p1) 2 p2)))]) hD hS hA [0, 2] rfl
                    refine va_calli (va_runV (As := [.ref q_16]) (rest := []) ⟨hx, hb, hml, hown, hts⟩ (c_Jx4a65c_add_9ea2d_arr l em dC dI lo q_16 cA_17 (upd (upd (upd (fun _ => 0) 0 x_19) 1 p1) 2 p2) H.size) (cwV 1 hts gX8_order_Jx4a65c_add_9ea2d rfl rfl rfl (by decide +kernel) ⟨Nat.le_of_ble_eq_true rfl, Nat.le_of_ble_eq_true rfl⟩) ⟨Pw.blind _ _ _ _ _ _ _, va_recv hKc hPc (ci := 5) (q0 := 0) rfl rfl, fun U hU hW => ⟨rfl, Pw.go hPc hKc hDc hamb hS hFc hU hW⟩⟩ rfl rfl hl.1 rfl (lv_room (Nat.le_of_ble_eq_true rfl)) dX8_order_97 ⟨Nat.le_of_ble_eq_true rfl, Nat.le_of_ble_eq_true rfl⟩) hS (fun q _ h => hFc q h) hFc (fun r_20 u t H1 locs1 ht hvm hw hB hz1 hk1 hS => ?_)
                    obtain ⟨ux_21, hP1, hK1, hD1⟩ := hB
                    rw [ht] at hP1
                    have hK1 := va_K.moved hvm.symm hK1
                    obtain ⟨hP, hD⟩ := va_join (wr := [(m0, .inr (14, [g0, g1, g2, g3, g4, g5, .ref lo, g7, .int 0]))]) (w1 := [(lo, .inr (5, [.int 1, ux_21, .int 1]))]) hP hD [0, 2] [1] rfl rfl (by decide) (by decide) hk1 hFc hP1 hD1
                    have hK := (hK.sub (tys' := [(cA_17, .int)]) [0] rfl).app hK1
                    generalize H1 = H at hP hS ⊢
                    have hP : va_P (dC, dI) vwCl [(m0, .inr (14, [g0, g1, g2, g3, g4, g5, .ref lo, g7, .int 0])), (lo, .inr (5, [.int 1, ux_21, .int 1]))] H := hP
                    have hD : va_D A [(m0, .inr (14, [g0, g1, g2, g3, g4, g5, .ref lo, g7, .int 0])), (lo, .inr (5, [.int 1, ux_21, .int 1]))] := hD
                    have hK : va_K (dC, dI) vwCl [(cA_17, .int)] s := hK
                    refine W.widen (k := 2) (n := 13) (Nat.le_of_ble_eq_true rfl) (Nat.le_of_ble_eq_true rfl) ?_
                    have hw : r_20 = 1 := hw
                    rw [hw]
                    refine lv_pop hx hb dX8_order_100 rfl ?_
                    refine lv_aload_n hx hb dX8_order_101 rfl (lv_at hl 0 rfl) ?_
                    refine va_get (D := (dC, dI)) (ci := 14) (v := .ref lo) (C := RX8) (T := TX8) (N := 9) hx hb hts (by decide +kernel) hown hK hP 0 rfl rfl 6 (by decide) (hts (.fieldLink RX8 37 "BothfacesModel" "orders" "Ljava/util/ArrayList;") (by decide +kernel)) (fun _ h9 => h9) rfl dX8_order_102 ?_
                    have hPc := hP.sub (ws' := [(lo, .inr (5, [.int 1, ux_21, .int 1]))]) [1] rfl
                    have hDc := hD.sub (ws' := [(lo, .inr (5, [.int 1, ux_21, .int 1]))]) [1] (by decide) rfl
                    have hKc := hK.sub (tys' := []) [] rfl
                    have hFc := va_free (wc := [(lo, .inr (5, [.int 1, ux_21, .int 1]))]) hD hS hA [1] rfl
                    refine va_calli (va_runV (As := []) (rest := []) ⟨hx, hb, hml, hown, hts⟩ (c_Jx4a65c_size_8abf5_1 l em dC dI lo (.int 1) ux_21 H.size) (cwV 0 hts gX8_order_Jx4a65c_size_8abf5 rfl rfl rfl (by decide +kernel) ⟨Nat.le_of_ble_eq_true rfl, Nat.le_of_ble_eq_true rfl⟩) ⟨Pw.blind _ _ _ _ _ _ _, va_recv hKc hPc (ci := 5) (q0 := 0) rfl rfl, fun U hU hW => ⟨rfl, Pw.go hPc hKc hDc hamb hS hFc hU hW⟩⟩ rfl rfl hl.1 rfl (lv_room (Nat.le_of_ble_eq_true rfl)) dX8_order_105 ⟨Nat.le_of_ble_eq_true rfl, Nat.le_of_ble_eq_true rfl⟩) hS (fun q _ h => hFc q h) hFc (fun r_22 u t H1 locs1 ht hvm hw hB hz1 hk1 hS => ?_)
                    obtain ⟨hP1, hK1, hD1⟩ := hB
                    rw [ht] at hP1
                    have hK1 := va_K.moved hvm.symm hK1
                    obtain ⟨hP, hD⟩ := va_join (wr := [(m0, .inr (14, [g0, g1, g2, g3, g4, g5, .ref lo, g7, .int 0]))]) (w1 := [(lo, .inr (5, [.int 1, ux_21, .int 1]))]) hP hD [1] [0] rfl rfl (by decide) (by decide) hk1 hFc hP1 hD1
                    have hK := (hK.sub (tys' := [(cA_17, .int)]) [0] rfl).app hK1
                    generalize H1 = H at hP hS ⊢
                    have hP : va_P (dC, dI) vwCl [(m0, .inr (14, [g0, g1, g2, g3, g4, g5, .ref lo, g7, .int 0])), (lo, .inr (5, [.int 1, ux_21, .int 1]))] H := hP
                    have hD : va_D A [(m0, .inr (14, [g0, g1, g2, g3, g4, g5, .ref lo, g7, .int 0])), (lo, .inr (5, [.int 1, ux_21, .int 1]))] := hD
                    have hK : va_K (dC, dI) vwCl [(cA_17, .int)] s := hK
                    refine W.widen (k := 2) (n := 13) (Nat.le_of_ble_eq_true rfl) (Nat.le_of_ble_eq_true rfl) ?_
                    have hw : r_22 = 1 := hw
                    rw [hw]
                    refine lv_iconst (v := 1) hx hb dX8_order_108 (by decide) ?_
                    refine lv_isub hx hb dX8_order_109 ?_
                    refine lv_topi (fun k_23 ek_23 => ?_)
                    obtain rfl : k_23 = 0 := ek_23.trans (by decide)
                    refine W.widen (k := 2) (n := 13) (Nat.le_of_ble_eq_true rfl) (Nat.le_of_ble_eq_true rfl) ?_
                    have hP9 := hP.sub (ws' := [(m0, .inr (14, [g0, g1, g2, g3, g4, g5, .ref lo, g7, .int 0]))]) [0] rfl
                    have hD9 := hD.sub (ws' := [(m0, .inr (14, [g0, g1, g2, g3, g4, g5, .ref lo, g7, .int 0]))]) [0] (by decide) rfl
                    have hK9 := hK.sub (tys' := []) [] rfl
                    exact W.iret (v := 0) hx hb hr (fun t ht hW => ⟨⟨0, (), rfl, ⟨fun h9 => (by first | rfl | (exfalso; omega)), fun h9 => (by first | rfl | (exfalso; omega))⟩, ⟨(0), ⟨by rw [ht]; exact hP9, va_K.moved hW.alike hK9, hD9⟩, (by first | rfl | assumption | omega | exact fun _ => rfl | exact fun h9 => absurd (by omega) h9 | exact fun h9 => absurd h9 (by omega)), (by first | rfl | assumption | omega | exact fun _ => rfl | exact fun h9 => absurd (by omega) h9 | exact fun h9 => absurd h9 (by omega))⟩⟩, hS.F ht⟩) hS.2.2 dX8_order_110
                  · exact absurd (by decide) c_15
                · exact absurd c_13 (by decide)
            · exact absurd c_9 (by decide)
          · have hw := hw.2 t_8
            rw [hw]
            refine lv_if_ne (tgt := 37) hx hb dX8_order_30 (by decide) (fun c_24 => ?_) (fun c_24 => ?_)
            · exact absurd (by decide) c_24
            · refine lv_iconst (v := 1) hx hb dX8_order_33 (by decide) ?_
              refine lv_goto (tgt := 38) hx hb dX8_order_34 (by decide) ?_
              refine lv_iconst (v := 1) hx hb dX8_order_38 (by decide) ?_
              have hPc := hP.sub (ws' := [(m0, .inr (14, [g0, g1, g2, g3, g4, g5, .ref lo, g7, g8]))]) [0] rfl
              have hDc := hD.sub (ws' := [(m0, .inr (14, [g0, g1, g2, g3, g4, g5, .ref lo, g7, g8]))]) [0] (by decide) rfl
              have hKc := hK.sub (tys' := []) [] rfl
              have hFc := va_free (wc := [(m0, .inr (14, [g0, g1, g2, g3, g4, g5, .ref lo, g7, g8]))]) hD hS hA [0] rfl
              refine va_calli (va_runV (As := [.int 1, .int 1]) (rest := []) ⟨hx, hb, hml, hown, hts⟩ (c_X8_isThrown_1 l em dC dI m0 1 g0 g1 g2 g3 g4 g5 (.ref lo) g7 g8 H.size) (cwV 2 hts gX8_order_X8_isThrown rfl rfl rfl (by decide +kernel) ⟨Nat.le_of_ble_eq_true rfl, Nat.le_of_ble_eq_true rfl⟩) ⟨Pw.blind _ _ _ _ _ _ _, va_recv hKc hPc (ci := 14) (q0 := 0) rfl rfl, fun U hU hW => ⟨rfl, Pw.go hPc hKc hDc hamb hS hFc hU hW⟩⟩ rfl rfl hl.1 rfl (lv_room (Nat.le_of_ble_eq_true rfl)) dX8_order_39 ⟨Nat.le_of_ble_eq_true rfl, Nat.le_of_ble_eq_true rfl⟩) hS (fun q _ h => hFc q h) hFc (fun r_25 u t H1 locs1 ht hvm hw hB hz1 hk1 hS => ?_)
              obtain ⟨hP1, hK1, hD1⟩ := hB
              rw [ht] at hP1
              have hK1 := va_K.moved hvm.symm hK1
              obtain ⟨hP, hD⟩ := va_join (wr := [(lo, .inr (5, [.int 0, .ref (em 0), .int 0]))]) (w1 := [(m0, .inr (14, [g0, g1, g2, g3, g4, g5, .ref lo, g7, .int 1]))]) hP hD [0] [1] rfl rfl (by decide) (by decide) hk1 hFc hP1 hD1
              have hK := (hK.sub (tys' := []) [] rfl).app hK1
              generalize H1 = H at hP hS ⊢
              have hP : va_P (dC, dI) vwCl [(lo, .inr (5, [.int 0, .ref (em 0), .int 0])), (m0, .inr (14, [g0, g1, g2, g3, g4, g5, .ref lo, g7, .int 1]))] H := hP
              have hD : va_D A [(lo, .inr (5, [.int 0, .ref (em 0), .int 0])), (m0, .inr (14, [g0, g1, g2, g3, g4, g5, .ref lo, g7, .int 1]))] := hD
              have hK : va_K (dC, dI) vwCl [] s := hK
              refine W.widen (k := 0) (n := 0) (Nat.le_of_ble_eq_true rfl) (Nat.le_of_ble_eq_true rfl) ?_
              have hw : r_25 = 1 := hw
              rw [hw]
              refine lv_if_ne (tgt := 70) hx hb dX8_order_42 (by decide) (fun c_26 => ?_) (fun c_26 => ?_)
              · refine lv_iconst (v := 0) hx hb dX8_order_70 (by decide) ?_
                refine W.widen (k := 2) (n := 13) (Nat.le_of_ble_eq_true rfl) (Nat.le_of_ble_eq_true rfl) ?_
                have hP9 := hP.sub (ws' := [(m0, .inr (14, [g0, g1, g2, g3, g4, g5, .ref lo, g7, .int 1]))]) [1] rfl
                have hD9 := hD.sub (ws' := [(m0, .inr (14, [g0, g1, g2, g3, g4, g5, .ref lo, g7, .int 1]))]) [1] (by decide) rfl
                have hK9 := hK.sub (tys' := []) [] rfl
                exact W.iret (v := 0) hx hb hr (fun t ht hW => ⟨⟨0, (), rfl, ⟨fun h9 => (by first | rfl | (exfalso; omega)), fun h9 => (by first | rfl | (exfalso; omega))⟩, ⟨(1), ⟨by rw [ht]; exact hP9, va_K.moved hW.alike hK9, hD9⟩, (by first | rfl | assumption | omega | exact fun _ => rfl | exact fun h9 => absurd (by omega) h9 | exact fun h9 => absurd h9 (by omega)), (by first | rfl | assumption | omega | exact fun _ => rfl | exact fun h9 => absurd (by omega) h9 | exact fun h9 => absurd h9 (by omega))⟩⟩, hS.F ht⟩) hS.2.2 dX8_order_71
              · exact absurd c_26 (by decide)
      · have hw := hw.2 t_5
        rw [hw]
        refine lv_if_eq (tgt := 33) hx hb dX8_order_20 (by decide) (fun c_27 => ?_) (fun c_27 => ?_)
        · refine lv_iconst (v := 1) hx hb dX8_order_33 (by decide) ?_
          refine lv_goto (tgt := 38) hx hb dX8_order_34 (by decide) ?_
          refine lv_iconst (v := 1) hx hb dX8_order_38 (by decide) ?_
          have hPc := hP.sub (ws' := [(m0, .inr (14, [g0, g1, g2, g3, g4, g5, .ref lo, g7, g8]))]) [0] rfl
          have hDc := hD.sub (ws' := [(m0, .inr (14, [g0, g1, g2, g3, g4, g5, .ref lo, g7, g8]))]) [0] (by decide) rfl
          have hKc := hK.sub (tys' := []) [] rfl
          have hFc := va_free (wc := [(m0, .inr (14, [g0, g1, g2, g3, g4, g5, .ref lo, g7, g8]))]) hD hS hA [0] rfl
          refine va_calli (va_runV (As := [.int 1, .int 1]) (rest := []) ⟨hx, hb, hml, hown, hts⟩ (c_X8_isThrown_1 l em dC dI m0 1 g0 g1 g2 g3 g4 g5 (.ref lo) g7 g8 H.size) (cwV 2 hts gX8_order_X8_isThrown rfl rfl rfl (by decide +kernel) ⟨Nat.le_of_ble_eq_true rfl, Nat.le_of_ble_eq_true rfl⟩) ⟨Pw.blind _ _ _ _ _ _ _, va_recv hKc hPc (ci := 14) (q0 := 0) rfl rfl, fun U hU hW => ⟨rfl, Pw.go hPc hKc hDc hamb hS hFc hU hW⟩⟩ rfl rfl hl.1 rfl (lv_room (Nat.le_of_ble_eq_true rfl)) dX8_order_39 ⟨Nat.le_of_ble_eq_true rfl, Nat.le_of_ble_eq_true rfl⟩) hS (fun q _ h => hFc q h) hFc (fun r_28 u t H1 locs1 ht hvm hw hB hz1 hk1 hS => ?_)
          obtain ⟨hP1, hK1, hD1⟩ := hB
          rw [ht] at hP1
          have hK1 := va_K.moved hvm.symm hK1
          obtain ⟨hP, hD⟩ := va_join (wr := [(lo, .inr (5, [.int 0, .ref (em 0), .int 0]))]) (w1 := [(m0, .inr (14, [g0, g1, g2, g3, g4, g5, .ref lo, g7, .int 1]))]) hP hD [0] [1] rfl rfl (by decide) (by decide) hk1 hFc hP1 hD1
          have hK := (hK.sub (tys' := []) [] rfl).app hK1
          generalize H1 = H at hP hS ⊢
          have hP : va_P (dC, dI) vwCl [(lo, .inr (5, [.int 0, .ref (em 0), .int 0])), (m0, .inr (14, [g0, g1, g2, g3, g4, g5, .ref lo, g7, .int 1]))] H := hP
          have hD : va_D A [(lo, .inr (5, [.int 0, .ref (em 0), .int 0])), (m0, .inr (14, [g0, g1, g2, g3, g4, g5, .ref lo, g7, .int 1]))] := hD
          have hK : va_K (dC, dI) vwCl [] s := hK
          refine W.widen (k := 0) (n := 0) (Nat.le_of_ble_eq_true rfl) (Nat.le_of_ble_eq_true rfl) ?_
          have hw : r_28 = 1 := hw
          rw [hw]
          refine lv_if_ne (tgt := 70) hx hb dX8_order_42 (by decide) (fun c_29 => ?_) (fun c_29 => ?_)
          · refine lv_iconst (v := 0) hx hb dX8_order_70 (by decide) ?_
            refine W.widen (k := 2) (n := 13) (Nat.le_of_ble_eq_true rfl) (Nat.le_of_ble_eq_true rfl) ?_
            have hP9 := hP.sub (ws' := [(m0, .inr (14, [g0, g1, g2, g3, g4, g5, .ref lo, g7, .int 1]))]) [1] rfl
            have hD9 := hD.sub (ws' := [(m0, .inr (14, [g0, g1, g2, g3, g4, g5, .ref lo, g7, .int 1]))]) [1] (by decide) rfl
            have hK9 := hK.sub (tys' := []) [] rfl
            exact W.iret (v := 0) hx hb hr (fun t ht hW => ⟨⟨0, (), rfl, ⟨fun h9 => (by first | rfl | (exfalso; omega)), fun h9 => (by first | rfl | (exfalso; omega))⟩, ⟨(1), ⟨by rw [ht]; exact hP9, va_K.moved hW.alike hK9, hD9⟩, (by first | rfl | assumption | omega | exact fun _ => rfl | exact fun h9 => absurd (by omega) h9 | exact fun h9 => absurd h9 (by omega)), (by first | rfl | assumption | omega | exact fun _ => rfl | exact fun h9 => absurd (by omega) h9 | exact fun h9 => absurd h9 (by omega))⟩⟩, hS.F ht⟩) hS.2.2 dX8_order_71
          · exact absurd c_29 (by decide)
        · exact absurd (by decide) c_27
  · have hw := hw.2 t_2
    rw [hw]
    refine lv_if_eq (tgt := 33) hx hb dX8_order_9 (by decide) (fun c_30 => ?_) (fun c_30 => ?_)
    · refine lv_iconst (v := 1) hx hb dX8_order_33 (by decide) ?_
      refine lv_goto (tgt := 38) hx hb dX8_order_34 (by decide) ?_
      refine lv_iconst (v := 1) hx hb dX8_order_38 (by decide) ?_
      have hPc := hP.sub (ws' := [(m0, .inr (14, [g0, g1, g2, g3, g4, g5, .ref lo, g7, g8]))]) [0] rfl
      have hDc := hD.sub (ws' := [(m0, .inr (14, [g0, g1, g2, g3, g4, g5, .ref lo, g7, g8]))]) [0] (by decide) rfl
      have hKc := hK.sub (tys' := []) [] rfl
      have hFc := va_free (wc := [(m0, .inr (14, [g0, g1, g2, g3, g4, g5, .ref lo, g7, g8]))]) hD hS hA [0] rfl
      refine va_calli (va_runV (As := [.int 1, .int 1]) (rest := []) ⟨hx, hb, hml, hown, hts⟩ (c_X8_isThrown_1 l em dC dI m0 1 g0 g1 g2 g3 g4 g5 (.ref lo) g7 g8 H.size) (cwV 2 hts gX8_order_X8_isThrown rfl rfl rfl (by decide +kernel) ⟨Nat.le_of_ble_eq_true rfl, Nat.le_of_ble_eq_true rfl⟩) ⟨Pw.blind _ _ _ _ _ _ _, va_recv hKc hPc (ci := 14) (q0 := 0) rfl rfl, fun U hU hW => ⟨rfl, Pw.go hPc hKc hDc hamb hS hFc hU hW⟩⟩ rfl rfl hl.1 rfl (lv_room (Nat.le_of_ble_eq_true rfl)) dX8_order_39 ⟨Nat.le_of_ble_eq_true rfl, Nat.le_of_ble_eq_true rfl⟩) hS (fun q _ h => hFc q h) hFc (fun r_31 u t H1 locs1 ht hvm hw hB hz1 hk1 hS => ?_)
      obtain ⟨hP1, hK1, hD1⟩ := hB
      rw [ht] at hP1
      have hK1 := va_K.moved hvm.symm hK1
      obtain ⟨hP, hD⟩ := va_join (wr := [(lo, .inr (5, [.int 0, .ref (em 0), .int 0]))]) (w1 := [(m0, .inr (14, [g0, g1, g2, g3, g4, g5, .ref lo, g7, .int 1]))]) hP hD [0] [1] rfl rfl (by decide) (by decide) hk1 hFc hP1 hD1
      have hK := (hK.sub (tys' := []) [] rfl).app hK1
      generalize H1 = H at hP hS ⊢
      have hP : va_P (dC, dI) vwCl [(lo, .inr (5, [.int 0, .ref (em 0), .int 0])), (m0, .inr (14, [g0, g1, g2, g3, g4, g5, .ref lo, g7, .int 1]))] H := hP
      have hD : va_D A [(lo, .inr (5, [.int 0, .ref (em 0), .int 0])), (m0, .inr (14, [g0, g1, g2, g3, g4, g5, .ref lo, g7, .int 1]))] := hD
      have hK : va_K (dC, dI) vwCl [] s := hK
      refine W.widen (k := 0) (n := 0) (Nat.le_of_ble_eq_true rfl) (Nat.le_of_ble_eq_true rfl) ?_
      have hw : r_31 = 1 := hw
      rw [hw]
      refine lv_if_ne (tgt := 70) hx hb dX8_order_42 (by decide) (fun c_32 => ?_) (fun c_32 => ?_)
      · refine lv_iconst (v := 0) hx hb dX8_order_70 (by decide) ?_
        refine W.widen (k := 2) (n := 13) (Nat.le_of_ble_eq_true rfl) (Nat.le_of_ble_eq_true rfl) ?_
        have hP9 := hP.sub (ws' := [(m0, .inr (14, [g0, g1, g2, g3, g4, g5, .ref lo, g7, .int 1]))]) [1] rfl
        have hD9 := hD.sub (ws' := [(m0, .inr (14, [g0, g1, g2, g3, g4, g5, .ref lo, g7, .int 1]))]) [1] (by decide) rfl
        have hK9 := hK.sub (tys' := []) [] rfl
        exact W.iret (v := 0) hx hb hr (fun t ht hW => ⟨⟨0, (), rfl, ⟨fun h9 => (by first | rfl | (exfalso; omega)), fun h9 => (by first | rfl | (exfalso; omega))⟩, ⟨(1), ⟨by rw [ht]; exact hP9, va_K.moved hW.alike hK9, hD9⟩, (by first | rfl | assumption | omega | exact fun _ => rfl | exact fun h9 => absurd (by omega) h9 | exact fun h9 => absurd h9 (by omega)), (by first | rfl | assumption | omega | exact fun _ => rfl | exact fun h9 => absurd (by omega) h9 | exact fun h9 => absurd h9 (by omega))⟩⟩, hS.F ht⟩) hS.2.2 dX8_order_71
      · exact absurd c_32 (by decide)
    · exact absurd (by decide) c_30

set_option maxHeartbeats 4000000 in
set_option maxRecDepth 100000 in
theorem c_X8_card (l : Launch) (em : Nat → Nat) (dC : Nat → ClassId) (dI : Nat → Nat → Nat) (m0 : Nat) (p0 : Int32) (p1 : Int32) (p2 : Int32) (p3 : Int32) (p4 : Int32) (g2 : Value) (g3 : Value) (g4 : Value) (g5 : Value) (g6 : Value) (g7 : Value) (g8 : Value) (lc : Nat) (lp : Nat) (sz : Nat) : Met l yX8_card wsX8_card ({ frames := 5, cells := 3, slots := 19, locals := 101 }) (va_Pc [.ref m0, .int p0, .int p1, .int p2, .int p3, .int p4] (Pw em dC dI sz [(m0, .inr (14, [.ref lc, .ref lp, g2, g3, g4, g5, g6, g7, g8])), (lc, .inr (5, [.int 0, .ref (em 0), .int 0])), (lp, .inr (5, [.int 0, .ref (em 0), .int 0]))] [])) (va_Qi (fun (r : Int32) (_ : Unit) => ((p0.toInt < 0 ∨ 7 < p0.toInt ∨ p1.toInt < 0 ∨ 7 < p1.toInt ∨ p2.toInt < 0 ∨ 7 < p2.toInt ∨ p3.toInt < 0 ∨ 7 < p3.toInt ∨ (p4.toInt ≠ 115 ∧ p4.toInt ≠ 122)) → r = 0) ∧ (¬ (p0.toInt < 0 ∨ 7 < p0.toInt ∨ p1.toInt < 0 ∨ 7 < p1.toInt ∨ p2.toInt < 0 ∨ 7 < p2.toInt ∨ p3.toInt < 0 ∨ 7 < p3.toInt ∨ (p4.toInt ≠ 115 ∧ p4.toInt ≠ 122)) → r = 0)) (fun _ t => ∃ (tv : Int32), Qw dC dI (va_A [(m0, .inr (14, [.ref lc, .ref lp, g2, g3, g4, g5, g6, g7, g8])), (lc, .inr (5, [.int 0, .ref (em 0), .int 0])), (lp, .inr (5, [.int 0, .ref (em 0), .int 0]))] sz) [(m0, .inr (14, [.ref lc, .ref lp, g2, g3, g4, g5, g6, g7, .int tv]))] [] t ∧ ((p0.toInt < 0 ∨ 7 < p0.toInt ∨ p1.toInt < 0 ∨ 7 < p1.toInt ∨ p2.toInt < 0 ∨ 7 < p2.toInt ∨ p3.toInt < 0 ∨ 7 < p3.toInt ∨ (p4.toInt ≠ 115 ∧ p4.toInt ≠ 122)) → tv = 1) ∧ (¬ (p0.toInt < 0 ∨ 7 < p0.toInt ∨ p1.toInt < 0 ∨ 7 < p1.toInt ∨ p2.toInt < 0 ∨ 7 < p2.toInt ∨ p3.toInt < 0 ∨ 7 < p3.toInt ∨ (p4.toInt ≠ 115 ∧ p4.toInt ≠ 122)) → tv = 0)) (va_A [(m0, .inr (14, [.ref lc, .ref lp, g2, g3, g4, g5, g6, g7, g8])), (lc, .inr (5, [.int 0, .ref (em 0), .int 0])), (lp, .inr (5, [.int 0, .ref (em 0), .int 0]))] sz)) 3 19 (va_A [(m0, .inr (14, [.ref lc, .ref lp, g2, g3, g4, g5, g6, g7, g8])), (lc, .inr (5, [.int 0, .ref (em 0), .int 0])), (lp, .inr (5, [.int 0, .ref (em 0), .int 0]))] sz) := by
  refine Met.ofW (cc := cX8_card) (maxL := 7) (ret := (some .int)) (by decide) rfl ?_
  intro p e s m args below meth c s₁ B hml hv
  obtain ⟨rfl, hsz, hP, hK, hD0, hamb⟩ := hv
  have hx := B.exec
  have hb := B.bytes
  have hr := B.returns
  have hts := atoms_spec (ws := wsX8_card) B.pre
  have hown : s.vm.findClass RX8 = some m.cls := findClass_of_methodNamed B.named
  have hlocks := B.notSynchronized
  subst hsz
  have hD := hD0.self (sz := s.heap.size)
  generalize hAe : va_A [(m0, .inr (14, [.ref lc, .ref lp, g2, g3, g4, g5, g6, g7, g8])), (lc, .inr (5, [.int 0, .ref (em 0), .int 0])), (lp, .inr (5, [.int 0, .ref (em 0), .int 0]))] s.heap.size = A at hD hamb ⊢
  have hA : ∀ q : Nat, s.heap.size ≤ q → A q := fun q h => by rw [← hAe]; exact Or.inr h
  have hS : va_S A s.heap s.heap [] := va_S.rf
  have hP : va_P (dC, dI) vwCl [(m0, .inr (14, [.ref lc, .ref lp, g2, g3, g4, g5, g6, g7, g8])), (lc, .inr (5, [.int 0, .ref (em 0), .int 0])), (lp, .inr (5, [.int 0, .ref (em 0), .int 0]))] s.heap := hP
  have hl := lv_entry ([.ref m0, .int p0, .int p1, .int p2, .int p3, .int p4]) (n := 7) (Nat.le_of_ble_eq_true rfl)
  rw [lg_entry_eq]
  generalize (lg_sl ([.ref m0, .int p0, .int p1, .int p2, .int p3, .int p4]) ++ List.replicate (7 - (lg_sl ([.ref m0, .int p0, .int p1, .int p2, .int p3, .int p4])).length) Slot.unset).toArray = ls at hl ⊢
  have hl : lv_has ls 7 [(0, .ref m0), (1, .int p0), (2, .int p1), (3, .int p2), (4, .int p3), (5, .int p4)] := hl
  refine lv_iload_n hx hb dX8_card_0 rfl (lv_at hl 1 rfl) ?_
  have hPc := hP.sub (ws' := []) [] rfl
  have hDc := hD.sub (ws' := []) [] (by decide) rfl
  have hKc := hK.sub (tys' := []) [] rfl
  have hFc := va_free (wc := []) hD hS hA [] rfl
  refine va_calli (va_runS (As := [.int p0]) (rest := []) ⟨hx, hb, hml, hown, hts⟩ (c_X8_isNoColour l em dC dI p0 s.heap.size) (va_cwS 1 hts gX8_card_X8_isNoColour rfl rfl rfl (by decide +kernel) ⟨Nat.le_of_ble_eq_true rfl, Nat.le_of_ble_eq_true rfl⟩) ⟨Pw.blind _ _ _ _ _ _ _, fun U hU hW => ⟨rfl, Pw.go hPc hKc hDc hamb hS hFc hU hW⟩⟩ rfl rfl hl.1 rfl (lv_room (Nat.le_of_ble_eq_true rfl)) dX8_card_1 ⟨Nat.le_of_ble_eq_true rfl, Nat.le_of_ble_eq_true rfl⟩) hS (fun q _ h => hFc q h) hFc (fun r_1 u t H1 locs1 ht hvm hw hB hz1 hk1 hS => ?_)
  obtain ⟨hP, hD⟩ := va_rest (wr := [(m0, .inr (14, [.ref lc, .ref lp, g2, g3, g4, g5, g6, g7, g8])), (lc, .inr (5, [.int 0, .ref (em 0), .int 0])), (lp, .inr (5, [.int 0, .ref (em 0), .int 0]))]) hP hD [] [0, 1, 2] rfl rfl (by decide) (by decide) hk1 hFc
  generalize H1 = H at hP hS ⊢
  refine W.widen (k := 0) (n := 0) (Nat.le_of_ble_eq_true rfl) (Nat.le_of_ble_eq_true rfl) ?_
  have hw : ((p0.toInt < 0 ∨ 7 < p0.toInt) → r_1 = 1) ∧ (¬ (p0.toInt < 0 ∨ 7 < p0.toInt) → r_1 = 0) := hw
  rcases Classical.em (p0.toInt < 0 ∨ 7 < p0.toInt) with t_2 | t_2
  · have hw := hw.1 t_2
    rw [hw]
    refine lv_if_ne (tgt := 43) hx hb dX8_card_4 (by decide) (fun c_3 => ?_) (fun c_3 => ?_)
    · refine lv_iconst (v := 1) hx hb dX8_card_43 (by decide) ?_
      refine lv_goto (tgt := 48) hx hb dX8_card_44 (by decide) ?_
      refine lv_istore (lv' := [(6, .int 1), (0, .ref m0), (1, .int p0), (2, .int p1), (3, .int p2), (4, .int p3), (5, .int p4)]) hx hb dX8_card_48 hl (by decide) rfl (fun ls hl => ?_)
      refine lv_aload_n hx hb dX8_card_50 rfl (lv_at hl 1 rfl) ?_
      refine lv_iload hx hb dX8_card_51 (lv_at hl 0 rfl) ?_
      refine lv_iconst (v := 1) hx hb dX8_card_53 (by decide) ?_
      have hPc := hP.sub (ws' := [(m0, .inr (14, [.ref lc, .ref lp, g2, g3, g4, g5, g6, g7, g8]))]) [0] rfl
      have hDc := hD.sub (ws' := [(m0, .inr (14, [.ref lc, .ref lp, g2, g3, g4, g5, g6, g7, g8]))]) [0] (by decide) rfl
      have hKc := hK.sub (tys' := []) [] rfl
      have hFc := va_free (wc := [(m0, .inr (14, [.ref lc, .ref lp, g2, g3, g4, g5, g6, g7, g8]))]) hD hS hA [0] rfl
      refine va_calli (va_runV (As := [.int 1, .int 1]) (rest := []) ⟨hx, hb, hml, hown, hts⟩ (c_X8_isThrown_1 l em dC dI m0 1 (.ref lc) (.ref lp) g2 g3 g4 g5 g6 g7 g8 H.size) (cwV 2 hts gX8_card_X8_isThrown rfl rfl rfl (by decide +kernel) ⟨Nat.le_of_ble_eq_true rfl, Nat.le_of_ble_eq_true rfl⟩) ⟨Pw.blind _ _ _ _ _ _ _, va_recv hKc hPc (ci := 14) (q0 := 0) rfl rfl, fun U hU hW => ⟨rfl, Pw.go hPc hKc hDc hamb hS hFc hU hW⟩⟩ rfl rfl hl.1 rfl (lv_room (Nat.le_of_ble_eq_true rfl)) dX8_card_54 ⟨Nat.le_of_ble_eq_true rfl, Nat.le_of_ble_eq_true rfl⟩) hS (fun q _ h => hFc q h) hFc (fun r_4 u t H1 locs1 ht hvm hw hB hz1 hk1 hS => ?_)
      obtain ⟨hP1, hK1, hD1⟩ := hB
      rw [ht] at hP1
      have hK1 := va_K.moved hvm.symm hK1
      obtain ⟨hP, hD⟩ := va_join (wr := [(lc, .inr (5, [.int 0, .ref (em 0), .int 0])), (lp, .inr (5, [.int 0, .ref (em 0), .int 0]))]) (w1 := [(m0, .inr (14, [.ref lc, .ref lp, g2, g3, g4, g5, g6, g7, .int 1]))]) hP hD [0] [1, 2] rfl rfl (by decide) (by decide) hk1 hFc hP1 hD1
      have hK := (hK.sub (tys' := []) [] rfl).app hK1
      generalize H1 = H at hP hS ⊢
      have hP : va_P (dC, dI) vwCl [(lc, .inr (5, [.int 0, .ref (em 0), .int 0])), (lp, .inr (5, [.int 0, .ref (em 0), .int 0])), (m0, .inr (14, [.ref lc, .ref lp, g2, g3, g4, g5, g6, g7, .int 1]))] H := hP
      have hD : va_D A [(lc, .inr (5, [.int 0, .ref (em 0), .int 0])), (lp, .inr (5, [.int 0, .ref (em 0), .int 0])), (m0, .inr (14, [.ref lc, .ref lp, g2, g3, g4, g5, g6, g7, .int 1]))] := hD
      have hK : va_K (dC, dI) vwCl [] s := hK
      refine W.widen (k := 0) (n := 0) (Nat.le_of_ble_eq_true rfl) (Nat.le_of_ble_eq_true rfl) ?_
      have hw : r_4 = 1 := hw
      rw [hw]
      refine lv_if_ne (tgt := 108) hx hb dX8_card_57 (by decide) (fun c_5 => ?_) (fun c_5 => ?_)
      · refine lv_iconst (v := 0) hx hb dX8_card_108 (by decide) ?_
        refine W.widen (k := 3) (n := 19) (Nat.le_of_ble_eq_true rfl) (Nat.le_of_ble_eq_true rfl) ?_
        have hP9 := hP.sub (ws' := [(m0, .inr (14, [.ref lc, .ref lp, g2, g3, g4, g5, g6, g7, .int 1]))]) [2] rfl
        have hD9 := hD.sub (ws' := [(m0, .inr (14, [.ref lc, .ref lp, g2, g3, g4, g5, g6, g7, .int 1]))]) [2] (by decide) rfl
        have hK9 := hK.sub (tys' := []) [] rfl
        exact W.iret (v := 0) hx hb hr (fun t ht hW => ⟨⟨0, (), rfl, ⟨fun h9 => (by first | rfl | (exfalso; omega)), fun h9 => (by first | rfl | (exfalso; omega))⟩, ⟨(1), ⟨by rw [ht]; exact hP9, va_K.moved hW.alike hK9, hD9⟩, (by first | rfl | assumption | omega | exact fun _ => rfl | exact fun h9 => absurd (by omega) h9 | exact fun h9 => absurd h9 (by omega)), (by first | rfl | assumption | omega | exact fun _ => rfl | exact fun h9 => absurd (by omega) h9 | exact fun h9 => absurd h9 (by omega))⟩⟩, hS.F ht⟩) hS.2.2 dX8_card_109
      · exact absurd c_5 (by decide)
    · exact absurd c_3 (by decide)
  · have hw := hw.2 t_2
    rw [hw]
    refine lv_if_ne (tgt := 43) hx hb dX8_card_4 (by decide) (fun c_6 => ?_) (fun c_6 => ?_)
    · exact absurd (by decide) c_6
    · refine lv_iload_n hx hb dX8_card_7 rfl (lv_at hl 2 rfl) ?_
      have hPc := hP.sub (ws' := []) [] rfl
      have hDc := hD.sub (ws' := []) [] (by decide) rfl
      have hKc := hK.sub (tys' := []) [] rfl
      have hFc := va_free (wc := []) hD hS hA [] rfl
      refine va_calli (va_runS (As := [.int p1]) (rest := []) ⟨hx, hb, hml, hown, hts⟩ (c_X8_isNoColour l em dC dI p1 H.size) (va_cwS 1 hts gX8_card_X8_isNoColour rfl rfl rfl (by decide +kernel) ⟨Nat.le_of_ble_eq_true rfl, Nat.le_of_ble_eq_true rfl⟩) ⟨Pw.blind _ _ _ _ _ _ _, fun U hU hW => ⟨rfl, Pw.go hPc hKc hDc hamb hS hFc hU hW⟩⟩ rfl rfl hl.1 rfl (lv_room (Nat.le_of_ble_eq_true rfl)) dX8_card_8 ⟨Nat.le_of_ble_eq_true rfl, Nat.le_of_ble_eq_true rfl⟩) hS (fun q _ h => hFc q h) hFc (fun r_7 u t H1 locs1 ht hvm hw hB hz1 hk1 hS => ?_)
      obtain ⟨hP, hD⟩ := va_rest (wr := [(m0, .inr (14, [.ref lc, .ref lp, g2, g3, g4, g5, g6, g7, g8])), (lc, .inr (5, [.int 0, .ref (em 0), .int 0])), (lp, .inr (5, [.int 0, .ref (em 0), .int 0]))]) hP hD [] [0, 1, 2] rfl rfl (by decide) (by decide) hk1 hFc
      generalize H1 = H at hP hS ⊢
      refine W.widen (k := 0) (n := 0) (Nat.le_of_ble_eq_true rfl) (Nat.le_of_ble_eq_true rfl) ?_
      have hw : ((p1.toInt < 0 ∨ 7 < p1.toInt) → r_7 = 1) ∧ (¬ (p1.toInt < 0 ∨ 7 < p1.toInt) → r_7 = 0) := hw
      rcases Classical.em (p1.toInt < 0 ∨ 7 < p1.toInt) with t_8 | t_8
      · have hw := hw.1 t_8
        rw [hw]
        refine lv_if_ne (tgt := 43) hx hb dX8_card_11 (by decide) (fun c_9 => ?_) (fun c_9 => ?_)
        · refine lv_iconst (v := 1) hx hb dX8_card_43 (by decide) ?_
          refine lv_goto (tgt := 48) hx hb dX8_card_44 (by decide) ?_
          refine lv_istore (lv' := [(6, .int 1), (0, .ref m0), (1, .int p0), (2, .int p1), (3, .int p2), (4, .int p3), (5, .int p4)]) hx hb dX8_card_48 hl (by decide) rfl (fun ls hl => ?_)
          refine lv_aload_n hx hb dX8_card_50 rfl (lv_at hl 1 rfl) ?_
          refine lv_iload hx hb dX8_card_51 (lv_at hl 0 rfl) ?_
          refine lv_iconst (v := 1) hx hb dX8_card_53 (by decide) ?_
          have hPc := hP.sub (ws' := [(m0, .inr (14, [.ref lc, .ref lp, g2, g3, g4, g5, g6, g7, g8]))]) [0] rfl
          have hDc := hD.sub (ws' := [(m0, .inr (14, [.ref lc, .ref lp, g2, g3, g4, g5, g6, g7, g8]))]) [0] (by decide) rfl
          have hKc := hK.sub (tys' := []) [] rfl
          have hFc := va_free (wc := [(m0, .inr (14, [.ref lc, .ref lp, g2, g3, g4, g5, g6, g7, g8]))]) hD hS hA [0] rfl
          refine va_calli (va_runV (As := [.int 1, .int 1]) (rest := []) ⟨hx, hb, hml, hown, hts⟩ (c_X8_isThrown_1 l em dC dI m0 1 (.ref lc) (.ref lp) g2 g3 g4 g5 g6 g7 g8 H.size) (cwV 2 hts gX8_card_X8_isThrown rfl rfl rfl (by decide +kernel) ⟨Nat.le_of_ble_eq_true rfl, Nat.le_of_ble_eq_true rfl⟩) ⟨Pw.blind _ _ _ _ _ _ _, va_recv hKc hPc (ci := 14) (q0 := 0) rfl rfl, fun U hU hW => ⟨rfl, Pw.go hPc hKc hDc hamb hS hFc hU hW⟩⟩ rfl rfl hl.1 rfl (lv_room (Nat.le_of_ble_eq_true rfl)) dX8_card_54 ⟨Nat.le_of_ble_eq_true rfl, Nat.le_of_ble_eq_true rfl⟩) hS (fun q _ h => hFc q h) hFc (fun r_10 u t H1 locs1 ht hvm hw hB hz1 hk1 hS => ?_)
          obtain ⟨hP1, hK1, hD1⟩ := hB
          rw [ht] at hP1
          have hK1 := va_K.moved hvm.symm hK1
          obtain ⟨hP, hD⟩ := va_join (wr := [(lc, .inr (5, [.int 0, .ref (em 0), .int 0])), (lp, .inr (5, [.int 0, .ref (em 0), .int 0]))]) (w1 := [(m0, .inr (14, [.ref lc, .ref lp, g2, g3, g4, g5, g6, g7, .int 1]))]) hP hD [0] [1, 2] rfl rfl (by decide) (by decide) hk1 hFc hP1 hD1
          have hK := (hK.sub (tys' := []) [] rfl).app hK1
          generalize H1 = H at hP hS ⊢
          have hP : va_P (dC, dI) vwCl [(lc, .inr (5, [.int 0, .ref (em 0), .int 0])), (lp, .inr (5, [.int 0, .ref (em 0), .int 0])), (m0, .inr (14, [.ref lc, .ref lp, g2, g3, g4, g5, g6, g7, .int 1]))] H := hP
          have hD : va_D A [(lc, .inr (5, [.int 0, .ref (em 0), .int 0])), (lp, .inr (5, [.int 0, .ref (em 0), .int 0])), (m0, .inr (14, [.ref lc, .ref lp, g2, g3, g4, g5, g6, g7, .int 1]))] := hD
          have hK : va_K (dC, dI) vwCl [] s := hK
          refine W.widen (k := 0) (n := 0) (Nat.le_of_ble_eq_true rfl) (Nat.le_of_ble_eq_true rfl) ?_
          have hw : r_10 = 1 := hw
          rw [hw]
          refine lv_if_ne (tgt := 108) hx hb dX8_card_57 (by decide) (fun c_11 => ?_) (fun c_11 => ?_)
          · refine lv_iconst (v := 0) hx hb dX8_card_108 (by decide) ?_
            refine W.widen (k := 3) (n := 19) (Nat.le_of_ble_eq_true rfl) (Nat.le_of_ble_eq_true rfl) ?_
            have hP9 := hP.sub (ws' := [(m0, .inr (14, [.ref lc, .ref lp, g2, g3, g4, g5, g6, g7, .int 1]))]) [2] rfl
            have hD9 := hD.sub (ws' := [(m0, .inr (14, [.ref lc, .ref lp, g2, g3, g4, g5, g6, g7, .int 1]))]) [2] (by decide) rfl
            have hK9 := hK.sub (tys' := []) [] rfl
            exact W.iret (v := 0) hx hb hr (fun t ht hW => ⟨⟨0, (), rfl, ⟨fun h9 => (by first | rfl | (exfalso; omega)), fun h9 => (by first | rfl | (exfalso; omega))⟩, ⟨(1), ⟨by rw [ht]; exact hP9, va_K.moved hW.alike hK9, hD9⟩, (by first | rfl | assumption | omega | exact fun _ => rfl | exact fun h9 => absurd (by omega) h9 | exact fun h9 => absurd h9 (by omega)), (by first | rfl | assumption | omega | exact fun _ => rfl | exact fun h9 => absurd (by omega) h9 | exact fun h9 => absurd h9 (by omega))⟩⟩, hS.F ht⟩) hS.2.2 dX8_card_109
          · exact absurd c_11 (by decide)
        · exact absurd c_9 (by decide)
      · have hw := hw.2 t_8
        rw [hw]
        refine lv_if_ne (tgt := 43) hx hb dX8_card_11 (by decide) (fun c_12 => ?_) (fun c_12 => ?_)
        · exact absurd (by decide) c_12
        · refine lv_iload_n hx hb dX8_card_14 rfl (lv_at hl 3 rfl) ?_
          have hPc := hP.sub (ws' := []) [] rfl
          have hDc := hD.sub (ws' := []) [] (by decide) rfl
          have hKc := hK.sub (tys' := []) [] rfl
          have hFc := va_free (wc := []) hD hS hA [] rfl
          refine va_calli (va_runS (As := [.int p2]) (rest := []) ⟨hx, hb, hml, hown, hts⟩ (c_X8_isNoColour l em dC dI p2 H.size) (va_cwS 1 hts gX8_card_X8_isNoColour rfl rfl rfl (by decide +kernel) ⟨Nat.le_of_ble_eq_true rfl, Nat.le_of_ble_eq_true rfl⟩) ⟨Pw.blind _ _ _ _ _ _ _, fun U hU hW => ⟨rfl, Pw.go hPc hKc hDc hamb hS hFc hU hW⟩⟩ rfl rfl hl.1 rfl (lv_room (Nat.le_of_ble_eq_true rfl)) dX8_card_15 ⟨Nat.le_of_ble_eq_true rfl, Nat.le_of_ble_eq_true rfl⟩) hS (fun q _ h => hFc q h) hFc (fun r_13 u t H1 locs1 ht hvm hw hB hz1 hk1 hS => ?_)
          obtain ⟨hP, hD⟩ := va_rest (wr := [(m0, .inr (14, [.ref lc, .ref lp, g2, g3, g4, g5, g6, g7, g8])), (lc, .inr (5, [.int 0, .ref (em 0), .int 0])), (lp, .inr (5, [.int 0, .ref (em 0), .int 0]))]) hP hD [] [0, 1, 2] rfl rfl (by decide) (by decide) hk1 hFc
          generalize H1 = H at hP hS ⊢
          refine W.widen (k := 0) (n := 0) (Nat.le_of_ble_eq_true rfl) (Nat.le_of_ble_eq_true rfl) ?_
          have hw : ((p2.toInt < 0 ∨ 7 < p2.toInt) → r_13 = 1) ∧ (¬ (p2.toInt < 0 ∨ 7 < p2.toInt) → r_13 = 0) := hw
          rcases Classical.em (p2.toInt < 0 ∨ 7 < p2.toInt) with t_14 | t_14
          · have hw := hw.1 t_14
            rw [hw]
            refine lv_if_ne (tgt := 43) hx hb dX8_card_18 (by decide) (fun c_15 => ?_) (fun c_15 => ?_)
            · refine lv_iconst (v := 1) hx hb dX8_card_43 (by decide) ?_
              refine lv_goto (tgt := 48) hx hb dX8_card_44 (by decide) ?_
              refine lv_istore (lv' := [(6, .int 1), (0, .ref m0), (1, .int p0), (2, .int p1), (3, .int p2), (4, .int p3), (5, .int p4)]) hx hb dX8_card_48 hl (by decide) rfl (fun ls hl => ?_)
              refine lv_aload_n hx hb dX8_card_50 rfl (lv_at hl 1 rfl) ?_
              refine lv_iload hx hb dX8_card_51 (lv_at hl 0 rfl) ?_
              refine lv_iconst (v := 1) hx hb dX8_card_53 (by decide) ?_
              have hPc := hP.sub (ws' := [(m0, .inr (14, [.ref lc, .ref lp, g2, g3, g4, g5, g6, g7, g8]))]) [0] rfl
              have hDc := hD.sub (ws' := [(m0, .inr (14, [.ref lc, .ref lp, g2, g3, g4, g5, g6, g7, g8]))]) [0] (by decide) rfl
              have hKc := hK.sub (tys' := []) [] rfl
              have hFc := va_free (wc := [(m0, .inr (14, [.ref lc, .ref lp, g2, g3, g4, g5, g6, g7, g8]))]) hD hS hA [0] rfl
              refine va_calli (va_runV (As := [.int 1, .int 1]) (rest := []) ⟨hx, hb, hml, hown, hts⟩ (c_X8_isThrown_1 l em dC dI m0 1 (.ref lc) (.ref lp) g2 g3 g4 g5 g6 g7 g8 H.size) (cwV 2 hts gX8_card_X8_isThrown rfl rfl rfl (by decide +kernel) ⟨Nat.le_of_ble_eq_true rfl, Nat.le_of_ble_eq_true rfl⟩) ⟨Pw.blind _ _ _ _ _ _ _, va_recv hKc hPc (ci := 14) (q0 := 0) rfl rfl, fun U hU hW => ⟨rfl, Pw.go hPc hKc hDc hamb hS hFc hU hW⟩⟩ rfl rfl hl.1 rfl (lv_room (Nat.le_of_ble_eq_true rfl)) dX8_card_54 ⟨Nat.le_of_ble_eq_true rfl, Nat.le_of_ble_eq_true rfl⟩) hS (fun q _ h => hFc q h) hFc (fun r_16 u t H1 locs1 ht hvm hw hB hz1 hk1 hS => ?_)
              obtain ⟨hP1, hK1, hD1⟩ := hB
              rw [ht] at hP1
              have hK1 := va_K.moved hvm.symm hK1
              obtain ⟨hP, hD⟩ := va_join (wr := [(lc, .inr (5, [.int 0, .ref (em 0), .int 0])), (lp, .inr (5, [.int 0, .ref (em 0), .int 0]))]) (w1 := [(m0, .inr (14, [.ref lc, .ref lp, g2, g3, g4, g5, g6, g7, .int 1]))]) hP hD [0] [1, 2] rfl rfl (by decide) (by decide) hk1 hFc hP1 hD1
              have hK := (hK.sub (tys' := []) [] rfl).app hK1
              generalize H1 = H at hP hS ⊢
              have hP : va_P (dC, dI) vwCl [(lc, .inr (5, [.int 0, .ref (em 0), .int 0])), (lp, .inr (5, [.int 0, .ref (em 0), .int 0])), (m0, .inr (14, [.ref lc, .ref lp, g2, g3, g4, g5, g6, g7, .int 1]))] H := hP
              have hD : va_D A [(lc, .inr (5, [.int 0, .ref (em 0), .int 0])), (lp, .inr (5, [.int 0, .ref (em 0), .int 0])), (m0, .inr (14, [.ref lc, .ref lp, g2, g3, g4, g5, g6, g7, .int 1]))] := hD
              have hK : va_K (dC, dI) vwCl [] s := hK
              refine W.widen (k := 0) (n := 0) (Nat.le_of_ble_eq_true rfl) (Nat.le_of_ble_eq_true rfl) ?_
              have hw : r_16 = 1 := hw
              rw [hw]
              refine lv_if_ne (tgt := 108) hx hb dX8_card_57 (by decide) (fun c_17 => ?_) (fun c_17 => ?_)
              · refine lv_iconst (v := 0) hx hb dX8_card_108 (by decide) ?_
                refine W.widen (k := 3) (n := 19) (Nat.le_of_ble_eq_true rfl) (Nat.le_of_ble_eq_true rfl) ?_
                have hP9 := hP.sub (ws' := [(m0, .inr (14, [.ref lc, .ref lp, g2, g3, g4, g5, g6, g7, .int 1]))]) [2] rfl
                have hD9 := hD.sub (ws' := [(m0, .inr (14, [.ref lc, .ref lp, g2, g3, g4, g5, g6, g7, .int 1]))]) [2] (by decide) rfl
                have hK9 := hK.sub (tys' := []) [] rfl
                exact W.iret (v := 0) hx hb hr (fun t ht hW => ⟨⟨0, (), rfl, ⟨fun h9 => (by first | rfl | (exfalso; omega)), fun h9 => (by first | rfl | (exfalso; omega))⟩, ⟨(1), ⟨by rw [ht]; exact hP9, va_K.moved hW.alike hK9, hD9⟩, (by first | rfl | assumption | omega | exact fun _ => rfl | exact fun h9 => absurd (by omega) h9 | exact fun h9 => absurd h9 (by omega)), (by first | rfl | assumption | omega | exact fun _ => rfl | exact fun h9 => absurd (by omega) h9 | exact fun h9 => absurd h9 (by omega))⟩⟩, hS.F ht⟩) hS.2.2 dX8_card_109
              · exact absurd c_17 (by decide)
            · exact absurd c_15 (by decide)
          · have hw := hw.2 t_14
            rw [hw]
            refine lv_if_ne (tgt := 43) hx hb dX8_card_18 (by decide) (fun c_18 => ?_) (fun c_18 => ?_)
            · exact absurd (by decide) c_18
            · refine lv_iload hx hb dX8_card_21 (lv_at hl 4 rfl) ?_
              have hPc := hP.sub (ws' := []) [] rfl
              have hDc := hD.sub (ws' := []) [] (by decide) rfl
              have hKc := hK.sub (tys' := []) [] rfl
              have hFc := va_free (wc := []) hD hS hA [] rfl
              refine va_calli (va_runS (As := [.int p3]) (rest := []) ⟨hx, hb, hml, hown, hts⟩ (c_X8_isNoColour l em dC dI p3 H.size) (va_cwS 1 hts gX8_card_X8_isNoColour rfl rfl rfl (by decide +kernel) ⟨Nat.le_of_ble_eq_true rfl, Nat.le_of_ble_eq_true rfl⟩) ⟨Pw.blind _ _ _ _ _ _ _, fun U hU hW => ⟨rfl, Pw.go hPc hKc hDc hamb hS hFc hU hW⟩⟩ rfl rfl hl.1 rfl (lv_room (Nat.le_of_ble_eq_true rfl)) dX8_card_23 ⟨Nat.le_of_ble_eq_true rfl, Nat.le_of_ble_eq_true rfl⟩) hS (fun q _ h => hFc q h) hFc (fun r_19 u t H1 locs1 ht hvm hw hB hz1 hk1 hS => ?_)
              obtain ⟨hP, hD⟩ := va_rest (wr := [(m0, .inr (14, [.ref lc, .ref lp, g2, g3, g4, g5, g6, g7, g8])), (lc, .inr (5, [.int 0, .ref (em 0), .int 0])), (lp, .inr (5, [.int 0, .ref (em 0), .int 0]))]) hP hD [] [0, 1, 2] rfl rfl (by decide) (by decide) hk1 hFc
              generalize H1 = H at hP hS ⊢
              refine W.widen (k := 0) (n := 0) (Nat.le_of_ble_eq_true rfl) (Nat.le_of_ble_eq_true rfl) ?_
              have hw : ((p3.toInt < 0 ∨ 7 < p3.toInt) → r_19 = 1) ∧ (¬ (p3.toInt < 0 ∨ 7 < p3.toInt) → r_19 = 0) := hw
              rcases Classical.em (p3.toInt < 0 ∨ 7 < p3.toInt) with t_20 | t_20
              · have hw := hw.1 t_20
                rw [hw]
                refine lv_if_ne (tgt := 43) hx hb dX8_card_26 (by decide) (fun c_21 => ?_) (fun c_21 => ?_)
                · refine lv_iconst (v := 1) hx hb dX8_card_43 (by decide) ?_
                  refine lv_goto (tgt := 48) hx hb dX8_card_44 (by decide) ?_
                  refine lv_istore (lv' := [(6, .int 1), (0, .ref m0), (1, .int p0), (2, .int p1), (3, .int p2), (4, .int p3), (5, .int p4)]) hx hb dX8_card_48 hl (by decide) rfl (fun ls hl => ?_)
                  refine lv_aload_n hx hb dX8_card_50 rfl (lv_at hl 1 rfl) ?_
                  refine lv_iload hx hb dX8_card_51 (lv_at hl 0 rfl) ?_
                  refine lv_iconst (v := 1) hx hb dX8_card_53 (by decide) ?_
                  have hPc := hP.sub (ws' := [(m0, .inr (14, [.ref lc, .ref lp, g2, g3, g4, g5, g6, g7, g8]))]) [0] rfl
                  have hDc := hD.sub (ws' := [(m0, .inr (14, [.ref lc, .ref lp, g2, g3, g4, g5, g6, g7, g8]))]) [0] (by decide) rfl
                  have hKc := hK.sub (tys' := []) [] rfl
                  have hFc := va_free (wc := [(m0, .inr (14, [.ref lc, .ref lp, g2, g3, g4, g5, g6, g7, g8]))]) hD hS hA [0] rfl
                  refine va_calli (va_runV (As := [.int 1, .int 1]) (rest := []) ⟨hx, hb, hml, hown, hts⟩ (c_X8_isThrown_1 l em dC dI m0 1 (.ref lc) (.ref lp) g2 g3 g4 g5 g6 g7 g8 H.size) (cwV 2 hts gX8_card_X8_isThrown rfl rfl rfl (by decide +kernel) ⟨Nat.le_of_ble_eq_true rfl, Nat.le_of_ble_eq_true rfl⟩) ⟨Pw.blind _ _ _ _ _ _ _, va_recv hKc hPc (ci := 14) (q0 := 0) rfl rfl, fun U hU hW => ⟨rfl, Pw.go hPc hKc hDc hamb hS hFc hU hW⟩⟩ rfl rfl hl.1 rfl (lv_room (Nat.le_of_ble_eq_true rfl)) dX8_card_54 ⟨Nat.le_of_ble_eq_true rfl, Nat.le_of_ble_eq_true rfl⟩) hS (fun q _ h => hFc q h) hFc (fun r_22 u t H1 locs1 ht hvm hw hB hz1 hk1 hS => ?_)
                  obtain ⟨hP1, hK1, hD1⟩ := hB
                  rw [ht] at hP1
                  have hK1 := va_K.moved hvm.symm hK1
                  obtain ⟨hP, hD⟩ := va_join (wr := [(lc, .inr (5, [.int 0, .ref (em 0), .int 0])), (lp, .inr (5, [.int 0, .ref (em 0), .int 0]))]) (w1 := [(m0, .inr (14, [.ref lc, .ref lp, g2, g3, g4, g5, g6, g7, .int 1]))]) hP hD [0] [1, 2] rfl rfl (by decide) (by decide) hk1 hFc hP1 hD1
                  have hK := (hK.sub (tys' := []) [] rfl).app hK1
                  generalize H1 = H at hP hS ⊢
                  have hP : va_P (dC, dI) vwCl [(lc, .inr (5, [.int 0, .ref (em 0), .int 0])), (lp, .inr (5, [.int 0, .ref (em 0), .int 0])), (m0, .inr (14, [.ref lc, .ref lp, g2, g3, g4, g5, g6, g7, .int 1]))] H := hP
                  have hD : va_D A [(lc, .inr (5, [.int 0, .ref (em 0), .int 0])), (lp, .inr (5, [.int 0, .ref (em 0), .int 0])), (m0, .inr (14, [.ref lc, .ref lp, g2, g3, g4, g5, g6, g7, .int 1]))] := hD
                  have hK : va_K (dC, dI) vwCl [] s := hK
                  refine W.widen (k := 0) (n := 0) (Nat.le_of_ble_eq_true rfl) (Nat.le_of_ble_eq_true rfl) ?_
                  have hw : r_22 = 1 := hw
                  rw [hw]
                  refine lv_if_ne (tgt := 108) hx hb dX8_card_57 (by decide) (fun c_23 => ?_) (fun c_23 => ?_)
                  · refine lv_iconst (v := 0) hx hb dX8_card_108 (by decide) ?_
                    refine W.widen (k := 3) (n := 19) (Nat.le_of_ble_eq_true rfl) (Nat.le_of_ble_eq_true rfl) ?_
                    have hP9 := hP.sub (ws' := [(m0, .inr (14, [.ref lc, .ref lp, g2, g3, g4, g5, g6, g7, .int 1]))]) [2] rfl
                    have hD9 := hD.sub (ws' := [(m0, .inr (14, [.ref lc, .ref lp, g2, g3, g4, g5, g6, g7, .int 1]))]) [2] (by decide) rfl
                    have hK9 := hK.sub (tys' := []) [] rfl
                    exact W.iret (v := 0) hx hb hr (fun t ht hW => ⟨⟨0, (), rfl, ⟨fun h9 => (by first | rfl | (exfalso; omega)), fun h9 => (by first | rfl | (exfalso; omega))⟩, ⟨(1), ⟨by rw [ht]; exact hP9, va_K.moved hW.alike hK9, hD9⟩, (by first | rfl | assumption | omega | exact fun _ => rfl | exact fun h9 => absurd (by omega) h9 | exact fun h9 => absurd h9 (by omega)), (by first | rfl | assumption | omega | exact fun _ => rfl | exact fun h9 => absurd (by omega) h9 | exact fun h9 => absurd h9 (by omega))⟩⟩, hS.F ht⟩) hS.2.2 dX8_card_109
                  · exact absurd c_23 (by decide)
                · exact absurd c_21 (by decide)
              · have hw := hw.2 t_20
                rw [hw]
                refine lv_if_ne (tgt := 43) hx hb dX8_card_26 (by decide) (fun c_24 => ?_) (fun c_24 => ?_)
                · exact absurd (by decide) c_24
                · refine lv_iload hx hb dX8_card_29 (lv_at hl 5 rfl) ?_
                  refine lv_bipush (v := 115) hx hb dX8_card_31 (by decide) ?_
                  refine lv_icmp_eq (tgt := 47) hx hb dX8_card_33 (by decide) (fun c_25 => ?_) (fun c_25 => ?_)
                  · have t_26 := b_eq (k := 115) rfl c_25
                    refine lv_iconst (v := 0) hx hb dX8_card_47 (by decide) ?_
                    refine lv_istore (lv' := [(6, .int 0), (0, .ref m0), (1, .int p0), (2, .int p1), (3, .int p2), (4, .int p3), (5, .int p4)]) hx hb dX8_card_48 hl (by decide) rfl (fun ls hl => ?_)
                    refine lv_aload_n hx hb dX8_card_50 rfl (lv_at hl 1 rfl) ?_
                    refine lv_iload hx hb dX8_card_51 (lv_at hl 0 rfl) ?_
                    refine lv_iconst (v := 1) hx hb dX8_card_53 (by decide) ?_
                    have hPc := hP.sub (ws' := [(m0, .inr (14, [.ref lc, .ref lp, g2, g3, g4, g5, g6, g7, g8]))]) [0] rfl
                    have hDc := hD.sub (ws' := [(m0, .inr (14, [.ref lc, .ref lp, g2, g3, g4, g5, g6, g7, g8]))]) [0] (by decide) rfl
                    have hKc := hK.sub (tys' := []) [] rfl
                    have hFc := va_free (wc := [(m0, .inr (14, [.ref lc, .ref lp, g2, g3, g4, g5, g6, g7, g8]))]) hD hS hA [0] rfl
                    refine va_calli (va_runV (As := [.int 0, .int 1]) (rest := []) ⟨hx, hb, hml, hown, hts⟩ (c_X8_isThrown_0 l em dC dI m0 1 (.ref lc) (.ref lp) g2 g3 g4 g5 g6 g7 g8 H.size) (cwV 2 hts gX8_card_X8_isThrown rfl rfl rfl (by decide +kernel) ⟨Nat.le_of_ble_eq_true rfl, Nat.le_of_ble_eq_true rfl⟩) ⟨Pw.blind _ _ _ _ _ _ _, va_recv hKc hPc (ci := 14) (q0 := 0) rfl rfl, fun U hU hW => ⟨rfl, Pw.go hPc hKc hDc hamb hS hFc hU hW⟩⟩ rfl rfl hl.1 rfl (lv_room (Nat.le_of_ble_eq_true rfl)) dX8_card_54 ⟨Nat.le_of_ble_eq_true rfl, Nat.le_of_ble_eq_true rfl⟩) hS (fun q _ h => hFc q h) hFc (fun r_27 u t H1 locs1 ht hvm hw hB hz1 hk1 hS => ?_)
                    obtain ⟨hP1, hK1, hD1⟩ := hB
                    rw [ht] at hP1
                    have hK1 := va_K.moved hvm.symm hK1
                    obtain ⟨hP, hD⟩ := va_join (wr := [(lc, .inr (5, [.int 0, .ref (em 0), .int 0])), (lp, .inr (5, [.int 0, .ref (em 0), .int 0]))]) (w1 := [(m0, .inr (14, [.ref lc, .ref lp, g2, g3, g4, g5, g6, g7, .int 0]))]) hP hD [0] [1, 2] rfl rfl (by decide) (by decide) hk1 hFc hP1 hD1
                    have hK := (hK.sub (tys' := []) [] rfl).app hK1
                    generalize H1 = H at hP hS ⊢
                    have hP : va_P (dC, dI) vwCl [(lc, .inr (5, [.int 0, .ref (em 0), .int 0])), (lp, .inr (5, [.int 0, .ref (em 0), .int 0])), (m0, .inr (14, [.ref lc, .ref lp, g2, g3, g4, g5, g6, g7, .int 0]))] H := hP
                    have hD : va_D A [(lc, .inr (5, [.int 0, .ref (em 0), .int 0])), (lp, .inr (5, [.int 0, .ref (em 0), .int 0])), (m0, .inr (14, [.ref lc, .ref lp, g2, g3, g4, g5, g6, g7, .int 0]))] := hD
                    have hK : va_K (dC, dI) vwCl [] s := hK
                    refine W.widen (k := 0) (n := 0) (Nat.le_of_ble_eq_true rfl) (Nat.le_of_ble_eq_true rfl) ?_
                    have hw : r_27 = 0 := hw
                    rw [hw]
                    refine lv_if_ne (tgt := 108) hx hb dX8_card_57 (by decide) (fun c_28 => ?_) (fun c_28 => ?_)
                    · exact absurd (by decide) c_28
                    · refine lv_aload_n hx hb dX8_card_60 rfl (lv_at hl 1 rfl) ?_
                      refine lv_aload_n hx hb dX8_card_61 rfl (lv_at hl 1 rfl) ?_
                      refine va_get (D := (dC, dI)) (ci := 14) (v := .ref lp) (C := RX8) (T := TX8) (N := 9) hx hb hts (by decide +kernel) hown hK hP 2 rfl rfl 1 (by decide) (hts (.fieldLink RX8 16 "BothfacesModel" "picks" "Ljava/util/ArrayList;") (by decide +kernel)) (fun _ h9 => h9) rfl dX8_card_62 ?_
                      have hPc := hP.sub (ws' := [(lp, .inr (5, [.int 0, .ref (em 0), .int 0]))]) [1] rfl
                      have hDc := hD.sub (ws' := [(lp, .inr (5, [.int 0, .ref (em 0), .int 0]))]) [1] (by decide) rfl
                      have hKc := hK.sub (tys' := []) [] rfl
                      have hFc := va_free (wc := [(lp, .inr (5, [.int 0, .ref (em 0), .int 0]))]) hD hS hA [1] rfl
                      refine va_calli (va_runV (As := []) (rest := [.ref m0]) ⟨hx, hb, hml, hown, hts⟩ (c_Jx4a65c_isEmpty_aae02 l em dC dI lp (.int 0) (.ref (em 0)) H.size) (cwV 0 hts gX8_card_Jx4a65c_isEmpty_aae02 rfl rfl rfl (by decide +kernel) ⟨Nat.le_of_ble_eq_true rfl, Nat.le_of_ble_eq_true rfl⟩) ⟨Pw.blind _ _ _ _ _ _ _, va_recv hKc hPc (ci := 5) (q0 := 0) rfl rfl, fun U hU hW => ⟨rfl, Pw.go hPc hKc hDc hamb hS hFc hU hW⟩⟩ rfl rfl hl.1 rfl (lv_room (Nat.le_of_ble_eq_true rfl)) dX8_card_65 ⟨Nat.le_of_ble_eq_true rfl, Nat.le_of_ble_eq_true rfl⟩) hS (fun q _ h => hFc q h) hFc (fun r_29 u t H1 locs1 ht hvm hw hB hz1 hk1 hS => ?_)
                      obtain ⟨hP1, hK1, hD1⟩ := hB
                      rw [ht] at hP1
                      have hK1 := va_K.moved hvm.symm hK1
                      obtain ⟨hP, hD⟩ := va_join (wr := [(lc, .inr (5, [.int 0, .ref (em 0), .int 0])), (m0, .inr (14, [.ref lc, .ref lp, g2, g3, g4, g5, g6, g7, .int 0]))]) (w1 := [(lp, .inr (5, [.int 0, .ref (em 0), .int 0]))]) hP hD [1] [0, 2] rfl rfl (by decide) (by decide) hk1 hFc hP1 hD1
                      have hK := (hK.sub (tys' := []) [] rfl).app hK1
                      generalize H1 = H at hP hS ⊢
                      have hP : va_P (dC, dI) vwCl [(lc, .inr (5, [.int 0, .ref (em 0), .int 0])), (m0, .inr (14, [.ref lc, .ref lp, g2, g3, g4, g5, g6, g7, .int 0])), (lp, .inr (5, [.int 0, .ref (em 0), .int 0]))] H := hP
                      have hD : va_D A [(lc, .inr (5, [.int 0, .ref (em 0), .int 0])), (m0, .inr (14, [.ref lc, .ref lp, g2, g3, g4, g5, g6, g7, .int 0])), (lp, .inr (5, [.int 0, .ref (em 0), .int 0]))] := hD
                      have hK : va_K (dC, dI) vwCl [] s := hK
                      refine W.widen (k := 0) (n := 0) (Nat.le_of_ble_eq_true rfl) (Nat.le_of_ble_eq_true rfl) ?_
                      have hw : r_29 = 1 := hw
                      rw [hw]
                      refine lv_if_ne (tgt := 75) hx hb dX8_card_68 (by decide) (fun c_30 => ?_) (fun c_30 => ?_)
                      · refine lv_iconst (v := 0) hx hb dX8_card_75 (by decide) ?_
                        refine lv_iconst (v := 2) hx hb dX8_card_76 (by decide) ?_
                        have hPc := hP.sub (ws' := [(m0, .inr (14, [.ref lc, .ref lp, g2, g3, g4, g5, g6, g7, .int 0]))]) [1] rfl
                        have hDc := hD.sub (ws' := [(m0, .inr (14, [.ref lc, .ref lp, g2, g3, g4, g5, g6, g7, .int 0]))]) [1] (by decide) rfl
                        have hKc := hK.sub (tys' := []) [] rfl
                        have hFc := va_free (wc := [(m0, .inr (14, [.ref lc, .ref lp, g2, g3, g4, g5, g6, g7, .int 0]))]) hD hS hA [1] rfl
                        refine va_calli (va_runV (As := [.int 0, .int 2]) (rest := []) ⟨hx, hb, hml, hown, hts⟩ (c_X8_isThrown_0 l em dC dI m0 2 (.ref lc) (.ref lp) g2 g3 g4 g5 g6 g7 (.int 0) H.size) (cwV 2 hts gX8_card_X8_isThrown rfl rfl rfl (by decide +kernel) ⟨Nat.le_of_ble_eq_true rfl, Nat.le_of_ble_eq_true rfl⟩) ⟨Pw.blind _ _ _ _ _ _ _, va_recv hKc hPc (ci := 14) (q0 := 0) rfl rfl, fun U hU hW => ⟨rfl, Pw.go hPc hKc hDc hamb hS hFc hU hW⟩⟩ rfl rfl hl.1 rfl (lv_room (Nat.le_of_ble_eq_true rfl)) dX8_card_77 ⟨Nat.le_of_ble_eq_true rfl, Nat.le_of_ble_eq_true rfl⟩) hS (fun q _ h => hFc q h) hFc (fun r_31 u t H1 locs1 ht hvm hw hB hz1 hk1 hS => ?_)
                        obtain ⟨hP1, hK1, hD1⟩ := hB
                        rw [ht] at hP1
                        have hK1 := va_K.moved hvm.symm hK1
                        obtain ⟨hP, hD⟩ := va_join (wr := [(lc, .inr (5, [.int 0, .ref (em 0), .int 0])), (lp, .inr (5, [.int 0, .ref (em 0), .int 0]))]) (w1 := [(m0, .inr (14, [.ref lc, .ref lp, g2, g3, g4, g5, g6, g7, .int 0]))]) hP hD [1] [0, 2] rfl rfl (by decide) (by decide) hk1 hFc hP1 hD1
                        have hK := (hK.sub (tys' := []) [] rfl).app hK1
                        generalize H1 = H at hP hS ⊢
                        have hP : va_P (dC, dI) vwCl [(lc, .inr (5, [.int 0, .ref (em 0), .int 0])), (lp, .inr (5, [.int 0, .ref (em 0), .int 0])), (m0, .inr (14, [.ref lc, .ref lp, g2, g3, g4, g5, g6, g7, .int 0]))] H := hP
                        have hD : va_D A [(lc, .inr (5, [.int 0, .ref (em 0), .int 0])), (lp, .inr (5, [.int 0, .ref (em 0), .int 0])), (m0, .inr (14, [.ref lc, .ref lp, g2, g3, g4, g5, g6, g7, .int 0]))] := hD
                        have hK : va_K (dC, dI) vwCl [] s := hK
                        refine W.widen (k := 0) (n := 0) (Nat.le_of_ble_eq_true rfl) (Nat.le_of_ble_eq_true rfl) ?_
                        have hw : r_31 = 0 := hw
                        rw [hw]
                        refine lv_if_ne (tgt := 108) hx hb dX8_card_80 (by decide) (fun c_32 => ?_) (fun c_32 => ?_)
                        · exact absurd (by decide) c_32
                        · refine lv_aload_n hx hb dX8_card_83 rfl (lv_at hl 1 rfl) ?_
                          refine lv_aload_n hx hb dX8_card_84 rfl (lv_at hl 1 rfl) ?_
                          refine va_get (D := (dC, dI)) (ci := 14) (v := .ref lc) (C := RX8) (T := TX8) (N := 9) hx hb hts (by decide +kernel) hown hK hP 2 rfl rfl 0 (by decide) (hts (.fieldLink RX8 10 "BothfacesModel" "cards" "Ljava/util/ArrayList;") (by decide +kernel)) (fun _ h9 => h9) rfl dX8_card_85 ?_
                          have hPc := hP.sub (ws' := [(lc, .inr (5, [.int 0, .ref (em 0), .int 0]))]) [0] rfl
                          have hDc := hD.sub (ws' := [(lc, .inr (5, [.int 0, .ref (em 0), .int 0]))]) [0] (by decide) rfl
                          have hKc := hK.sub (tys' := []) [] rfl
                          have hFc := va_free (wc := [(lc, .inr (5, [.int 0, .ref (em 0), .int 0]))]) hD hS hA [0] rfl
                          refine va_calli (va_runV (As := []) (rest := [.ref m0]) ⟨hx, hb, hml, hown, hts⟩ (c_Jx4a65c_size_8abf5 l em dC dI lc (.int 0) (.ref (em 0)) H.size) (cwV 0 hts gX8_card_Jx4a65c_size_8abf5 rfl rfl rfl (by decide +kernel) ⟨Nat.le_of_ble_eq_true rfl, Nat.le_of_ble_eq_true rfl⟩) ⟨Pw.blind _ _ _ _ _ _ _, va_recv hKc hPc (ci := 5) (q0 := 0) rfl rfl, fun U hU hW => ⟨rfl, Pw.go hPc hKc hDc hamb hS hFc hU hW⟩⟩ rfl rfl hl.1 rfl (lv_room (Nat.le_of_ble_eq_true rfl)) dX8_card_88 ⟨Nat.le_of_ble_eq_true rfl, Nat.le_of_ble_eq_true rfl⟩) hS (fun q _ h => hFc q h) hFc (fun r_33 u t H1 locs1 ht hvm hw hB hz1 hk1 hS => ?_)
                          obtain ⟨hP1, hK1, hD1⟩ := hB
                          rw [ht] at hP1
                          have hK1 := va_K.moved hvm.symm hK1
                          obtain ⟨hP, hD⟩ := va_join (wr := [(lp, .inr (5, [.int 0, .ref (em 0), .int 0])), (m0, .inr (14, [.ref lc, .ref lp, g2, g3, g4, g5, g6, g7, .int 0]))]) (w1 := [(lc, .inr (5, [.int 0, .ref (em 0), .int 0]))]) hP hD [0] [1, 2] rfl rfl (by decide) (by decide) hk1 hFc hP1 hD1
                          have hK := (hK.sub (tys' := []) [] rfl).app hK1
                          generalize H1 = H at hP hS ⊢
                          have hP : va_P (dC, dI) vwCl [(lp, .inr (5, [.int 0, .ref (em 0), .int 0])), (m0, .inr (14, [.ref lc, .ref lp, g2, g3, g4, g5, g6, g7, .int 0])), (lc, .inr (5, [.int 0, .ref (em 0), .int 0]))] H := hP
                          have hD : va_D A [(lp, .inr (5, [.int 0, .ref (em 0), .int 0])), (m0, .inr (14, [.ref lc, .ref lp, g2, g3, g4, g5, g6, g7, .int 0])), (lc, .inr (5, [.int 0, .ref (em 0), .int 0]))] := hD
                          have hK : va_K (dC, dI) vwCl [] s := hK
                          refine W.widen (k := 0) (n := 0) (Nat.le_of_ble_eq_true rfl) (Nat.le_of_ble_eq_true rfl) ?_
                          have hw : r_33 = 0 := hw
                          rw [hw]
                          refine lv_bipush (v := 16) hx hb dX8_card_91 (by decide) ?_
                          refine lv_icmp_ne (tgt := 100) hx hb dX8_card_93 (by decide) (fun c_34 => ?_) (fun c_34 => ?_)
                          · refine lv_iconst (v := 0) hx hb dX8_card_100 (by decide) ?_
                            refine lv_iconst (v := 3) hx hb dX8_card_101 (by decide) ?_
                            have hPc := hP.sub (ws' := [(m0, .inr (14, [.ref lc, .ref lp, g2, g3, g4, g5, g6, g7, .int 0]))]) [1] rfl
                            have hDc := hD.sub (ws' := [(m0, .inr (14, [.ref lc, .ref lp, g2, g3, g4, g5, g6, g7, .int 0]))]) [1] (by decide) rfl
                            have hKc := hK.sub (tys' := []) [] rfl
                            have hFc := va_free (wc := [(m0, .inr (14, [.ref lc, .ref lp, g2, g3, g4, g5, g6, g7, .int 0]))]) hD hS hA [1] rfl
                            refine va_calli (va_runV (As := [.int 0, .int 3]) (rest := []) ⟨hx, hb, hml, hown, hts⟩ (c_X8_isThrown_0 l em dC dI m0 3 (.ref lc) (.ref lp) g2 g3 g4 g5 g6 g7 (.int 0) H.size) (cwV 2 hts gX8_card_X8_isThrown rfl rfl rfl (by decide +kernel) ⟨Nat.le_of_ble_eq_true rfl, Nat.le_of_ble_eq_true rfl⟩) ⟨Pw.blind _ _ _ _ _ _ _, va_recv hKc hPc (ci := 14) (q0 := 0) rfl rfl, fun U hU hW => ⟨rfl, Pw.go hPc hKc hDc hamb hS hFc hU hW⟩⟩ rfl rfl hl.1 rfl (lv_room (Nat.le_of_ble_eq_true rfl)) dX8_card_102 ⟨Nat.le_of_ble_eq_true rfl, Nat.le_of_ble_eq_true rfl⟩) hS (fun q _ h => hFc q h) hFc (fun r_35 u t H1 locs1 ht hvm hw hB hz1 hk1 hS => ?_)
                            obtain ⟨hP1, hK1, hD1⟩ := hB
                            rw [ht] at hP1
                            have hK1 := va_K.moved hvm.symm hK1
                            obtain ⟨hP, hD⟩ := va_join (wr := [(lp, .inr (5, [.int 0, .ref (em 0), .int 0])), (lc, .inr (5, [.int 0, .ref (em 0), .int 0]))]) (w1 := [(m0, .inr (14, [.ref lc, .ref lp, g2, g3, g4, g5, g6, g7, .int 0]))]) hP hD [1] [0, 2] rfl rfl (by decide) (by decide) hk1 hFc hP1 hD1
                            have hK := (hK.sub (tys' := []) [] rfl).app hK1
                            generalize H1 = H at hP hS ⊢
                            have hP : va_P (dC, dI) vwCl [(lp, .inr (5, [.int 0, .ref (em 0), .int 0])), (lc, .inr (5, [.int 0, .ref (em 0), .int 0])), (m0, .inr (14, [.ref lc, .ref lp, g2, g3, g4, g5, g6, g7, .int 0]))] H := hP
                            have hD : va_D A [(lp, .inr (5, [.int 0, .ref (em 0), .int 0])), (lc, .inr (5, [.int 0, .ref (em 0), .int 0])), (m0, .inr (14, [.ref lc, .ref lp, g2, g3, g4, g5, g6, g7, .int 0]))] := hD
                            have hK : va_K (dC, dI) vwCl [] s := hK
                            refine W.widen (k := 0) (n := 0) (Nat.le_of_ble_eq_true rfl) (Nat.le_of_ble_eq_true rfl) ?_
                            have hw : r_35 = 0 := hw
                            rw [hw]
                            refine lv_if_eq (tgt := 110) hx hb dX8_card_105 (by decide) (fun c_36 => ?_) (fun c_36 => ?_)
                            · refine lv_aload_n hx hb dX8_card_110 rfl (lv_at hl 1 rfl) ?_
                              refine va_get (D := (dC, dI)) (ci := 14) (v := .ref lc) (C := RX8) (T := TX8) (N := 9) hx hb hts (by decide +kernel) hown hK hP 2 rfl rfl 0 (by decide) (hts (.fieldLink RX8 10 "BothfacesModel" "cards" "Ljava/util/ArrayList;") (by decide +kernel)) (fun _ h9 => h9) rfl dX8_card_111 ?_
                              refine va_new (ci := 12) (fs := [.null, .int 0, .int 0, .int 0, .int 0]) (C := RX6) (T := TX6) (N := 5) hx hb hts (by decide +kernel) tyX6 tyX6_ok hown (hts (.classLink RX8 70 RX6) (by decide +kernel)) (hts (.instantiable RX6 5) (by decide +kernel)) (hts (.initialized RX6) (by decide +kernel)) hK hP hD hS hA rfl (fun j hj => by rcases (show j = 0 ∨ j = 1 ∨ j = 2 ∨ j = 3 ∨ j = 4 by omega) with rfl | rfl | rfl | rfl | rfl <;> rfl) (Nat.le_of_ble_eq_true rfl) (Nat.le_of_ble_eq_true rfl) dX8_card_114 (fun q_37 H hP hD hS => ?_)
                              have hP : va_P (dC, dI) vwCl [(lp, .inr (5, [.int 0, .ref (em 0), .int 0])), (lc, .inr (5, [.int 0, .ref (em 0), .int 0])), (m0, .inr (14, [.ref lc, .ref lp, g2, g3, g4, g5, g6, g7, .int 0])), (q_37, .inr (12, [.null, .int 0, .int 0, .int 0, .int 0]))] H := hP
                              have hD : va_D A [(lp, .inr (5, [.int 0, .ref (em 0), .int 0])), (lc, .inr (5, [.int 0, .ref (em 0), .int 0])), (m0, .inr (14, [.ref lc, .ref lp, g2, g3, g4, g5, g6, g7, .int 0])), (q_37, .inr (12, [.null, .int 0, .int 0, .int 0, .int 0]))] := hD
                              refine W.widen (k := 1) (n := 5) (Nat.le_of_ble_eq_true rfl) (Nat.le_of_ble_eq_true rfl) ?_
                              refine lv_dup hx hb dX8_card_117 rfl ?_
                              refine lv_iconst (v := 4) hx hb dX8_card_118 (by decide) ?_
                              refine va_newa (atype := .int) (ty := .int) (a0 := (4, .inl (fun _ => 0))) hx hb (hts (.arrayClass .int) (by decide +kernel)) rfl hK hP hD hS hA (fun _ => rfl) (by decide) rfl (Nat.le_of_ble_eq_true rfl) (Nat.le_of_ble_eq_true rfl) (Nat.le_of_ble_eq_true rfl) dX8_card_119 (fun q_38 cA_39 H hK hP hD hS => ?_)
                              have hP : va_P (dC, dI) vwCl [(lp, .inr (5, [.int 0, .ref (em 0), .int 0])), (lc, .inr (5, [.int 0, .ref (em 0), .int 0])), (m0, .inr (14, [.ref lc, .ref lp, g2, g3, g4, g5, g6, g7, .int 0])), (q_37, .inr (12, [.null, .int 0, .int 0, .int 0, .int 0])), (q_38, .inl (cA_39, 4, .inl (fun _ => 0)))] H := hP
                              have hD : va_D A [(lp, .inr (5, [.int 0, .ref (em 0), .int 0])), (lc, .inr (5, [.int 0, .ref (em 0), .int 0])), (m0, .inr (14, [.ref lc, .ref lp, g2, g3, g4, g5, g6, g7, .int 0])), (q_37, .inr (12, [.null, .int 0, .int 0, .int 0, .int 0])), (q_38, .inl (cA_39, 4, .inl (fun _ => 0)))] := hD
                              have hK : va_K (dC, dI) vwCl [(cA_39, .int)] s := hK
                              refine W.widen (k := 2) (n := 9) (Nat.le_of_ble_eq_true rfl) (Nat.le_of_ble_eq_true rfl) ?_
                              refine lv_dup hx hb dX8_card_121 rfl ?_
                              refine lv_iconst (v := 0) hx hb dX8_card_122 (by decide) ?_
                              refine lv_iload_n hx hb dX8_card_123 rfl (lv_at hl 2 rfl) ?_
                              refine va_iast hx hb hK hP hD hS 4 0 rfl rfl (vp_in_iff.mpr ⟨by decide, by decide⟩) dX8_card_124 (fun H locs hP hD hS => ?_)
                              have hP : va_P (dC, dI) vwCl [(lp, .inr (5, [.int 0, .ref (em 0), .int 0])), (lc, .inr (5, [.int 0, .ref (em 0), .int 0])), (m0, .inr (14, [.ref lc, .ref lp, g2, g3, g4, g5, g6, g7, .int 0])), (q_37, .inr (12, [.null, .int 0, .int 0, .int 0, .int 0])), (q_38, .inl (cA_39, 4, .inl (upd (fun _ => 0) 0 p0)))] H := hP
                              have hD : va_D A [(lp, .inr (5, [.int 0, .ref (em 0), .int 0])), (lc, .inr (5, [.int 0, .ref (em 0), .int 0])), (m0, .inr (14, [.ref lc, .ref lp, g2, g3, g4, g5, g6, g7, .int 0])), (q_37, .inr (12, [.null, .int 0, .int 0, .int 0, .int 0])), (q_38, .inl (cA_39, 4, .inl (upd (fun _ => 0) 0 p0)))] := hD
                              refine lv_dup hx hb dX8_card_125 rfl ?_
                              refine lv_iconst (v := 1) hx hb dX8_card_126 (by decide) ?_
                              refine lv_iload_n hx hb dX8_card_127 rfl (lv_at hl 3 rfl) ?_
                              refine va_iast hx hb hK hP hD hS 4 0 rfl rfl (vp_in_iff.mpr ⟨by decide, by decide⟩) dX8_card_128 (fun H locs hP hD hS => ?_)
                              have hP : va_P (dC, dI) vwCl [(lp, .inr (5, [.int 0, .ref (em 0), .int 0])), (lc, .inr (5, [.int 0, .ref (em 0), .int 0])), (m0, .inr (14, [.ref lc, .ref lp, g2, g3, g4, g5, g6, g7, .int 0])), (q_37, .inr (12, [.null, .int 0, .int 0, .int 0, .int 0])), (q_38, .inl (cA_39, 4, .inl (upd (upd (fun _ => 0) 0 p0) 1 p1)))] H := hP
                              have hD : va_D A [(lp, .inr (5, [.int 0, .ref (em 0), .int 0])), (lc, .inr (5, [.int 0, .ref (em 0), .int 0])), (m0, .inr (14, [.ref lc, .ref lp, g2, g3, g4, g5, g6, g7, .int 0])), (q_37, .inr (12, [.null, .int 0, .int 0, .int 0, .int 0])), (q_38, .inl (cA_39, 4, .inl (upd (upd (fun _ => 0) 0 p0) 1 p1)))] := hD
                              refine lv_dup hx hb dX8_card_129 rfl ?_
                              refine lv_iconst (v := 2) hx hb dX8_card_130 (by decide) ?_
                              refine lv_iload_n hx hb dX8_card_131 rfl (lv_at hl 4 rfl) ?_
                              refine va_iast hx hb hK hP hD hS 4 0 rfl rfl (vp_in_iff.mpr ⟨by decide, by decide⟩) dX8_card_132 (fun H locs hP hD hS => ?_)
                              have hP : va_P (dC, dI) vwCl [(lp, .inr (5, [.int 0, .ref (em 0), .int 0])), (lc, .inr (5, [.int 0, .ref (em 0), .int 0])), (m0, .inr (14, [.ref lc, .ref lp, g2, g3, g4, g5, g6, g7, .int 0])), (q_37, .inr (12, [.null, .int 0, .int 0, .int 0, .int 0])), (q_38, .inl (cA_39, 4, .inl (upd (upd (upd (fun _ => 0) 0 p0) 1 p1) 2 p2)))] H := hP
                              have hD : va_D A [(lp, .inr (5, [.int 0, .ref (em 0), .int 0])), (lc, .inr (5, [.int 0, .ref (em 0), .int 0])), (m0, .inr (14, [.ref lc, .ref lp, g2, g3, g4, g5, g6, g7, .int 0])), (q_37, .inr (12, [.null, .int 0, .int 0, .int 0, .int 0])), (q_38, .inl (cA_39, 4, .inl (upd (upd (upd (fun _ => 0) 0 p0) 1 p1) 2 p2)))] := hD
                              refine lv_dup hx hb dX8_card_133 rfl ?_
                              refine lv_iconst (v := 3) hx hb dX8_card_134 (by decide) ?_
                              refine lv_iload hx hb dX8_card_135 (lv_at hl 5 rfl) ?_
                              refine va_iast hx hb hK hP hD hS 4 0 rfl rfl (vp_in_iff.mpr ⟨by decide, by decide⟩) dX8_card_137 (fun H locs hP hD hS => ?_)
                              have hP : va_P (dC, dI) vwCl [(lp, .inr (5, [.int 0, .ref (em 0), .int 0])), (lc, .inr (5, [.int 0, .ref (em 0), .int 0])), (m0, .inr (14, [.ref lc, .ref lp, g2, g3, g4, g5, g6, g7, .int 0])), (q_37, .inr (12, [.null, .int 0, .int 0, .int 0, .int 0])), (q_38, .inl (cA_39, 4, .inl (upd (upd (upd (upd (fun _ => 0) 0 p0) 1 p1) 2 p2) 3 p3)))] H := hP
                              have hD : va_D A [(lp, .inr (5, [.int 0, .ref (em 0), .int 0])), (lc, .inr (5, [.int 0, .ref (em 0), .int 0])), (m0, .inr (14, [.ref lc, .ref lp, g2, g3, g4, g5, g6, g7, .int 0])), (q_37, .inr (12, [.null, .int 0, .int 0, .int 0, .int 0])), (q_38, .inl (cA_39, 4, .inl (upd (upd (upd (upd (fun _ => 0) 0 p0) 1 p1) 2 p2) 3 p3)))] := hD
                              refine lv_iload hx hb dX8_card_138 (lv_at hl 6 rfl) ?_
                              refine lv_bipush (v := 115) hx hb dX8_card_140 (by decide) ?_
                              refine lv_icmp_ne (tgt := 149) hx hb dX8_card_142 (by decide) (fun c_40 => ?_) (fun c_40 => ?_)
                              · have t_41 := b_ne (k := 115) rfl c_40
                                exfalso; omega
                              · have t_42 := b_eq (k := 115) rfl c_40
                                refine lv_iconst (v := 1) hx hb dX8_card_145 (by decide) ?_
                                refine lv_goto (tgt := 150) hx hb dX8_card_146 (by decide) ?_
                                have hPc := hP.sub (ws' := [(q_37, .inr (12, [.null, .int 0, .int 0, .int 0, .int 0]))]) [3] rfl
                                have hDc := hD.sub (ws' := [(q_37, .inr (12, [.null, .int 0, .int 0, .int 0, .int 0]))]) [3] (by decide) rfl
                                have hKc := hK.sub (tys' := []) [] rfl
                                have hFc := va_free (wc := [(q_37, .inr (12, [.null, .int 0, .int 0, .int 0, .int 0]))]) hD hS hA [3] rfl
                                refine va_callv (va_runI (As := [.ref q_38, .int 1]) (rest := [.ref q_37, .ref lc]) ⟨hx, hb, hml, hown, hts⟩ (c_X6_init_1 l em dC dI q_37 q_38 H.size) (cwI 2 hts gX8_card_X6_init rfl rfl rfl (hts (.initialized RX6) (by decide +kernel)) (hts (.methodLink RX8 72 yX6_init) (by decide +kernel)) (hts (.instanceMethod yX6_init) (by decide +kernel)) rfl (by decide +kernel) ⟨Nat.le_of_ble_eq_true rfl, Nat.le_of_ble_eq_true rfl⟩) ⟨Pw.blind _ _ _ _ _ _ _, fun U hU hW => ⟨rfl, Pw.go hPc hKc hDc hamb hS hFc hU hW⟩⟩ rfl rfl hl.1 rfl (lv_room (Nat.le_of_ble_eq_true rfl)) dX8_card_150 ⟨Nat.le_of_ble_eq_true rfl, Nat.le_of_ble_eq_true rfl⟩) hS (fun q _ h => hFc q h) hFc (fun u t H1 locs1 ht hvm hw hB hz1 hk1 hS => ?_)
                                obtain ⟨hP1, hK1, hD1⟩ := hB
                                rw [ht] at hP1
                                have hK1 := va_K.moved hvm.symm hK1
                                obtain ⟨hP, hD⟩ := va_join (wr := [(lp, .inr (5, [.int 0, .ref (em 0), .int 0])), (lc, .inr (5, [.int 0, .ref (em 0), .int 0])), (m0, .inr (14, [.ref lc, .ref lp, g2, g3, g4, g5, g6, g7, .int 0])), (q_38, .inl (cA_39, 4, .inl (upd (upd (upd (upd (fun _ => 0) 0 p0) 1 p1) 2 p2) 3 p3)))]) (w1 := [(q_37, .inr (12, [.ref q_38, .int 1, .int 0, .int 0, .int 0]))]) hP hD [3] [0, 1, 2, 4] rfl rfl (by decide) (by decide) hk1 hFc hP1 hD1
                                have hK := (hK.sub (tys' := [(cA_39, .int)]) [0] rfl).app hK1
                                generalize H1 = H at hP hS ⊢
                                have hP : va_P (dC, dI) vwCl [(lp, .inr (5, [.int 0, .ref (em 0), .int 0])), (lc, .inr (5, [.int 0, .ref (em 0), .int 0])), (m0, .inr (14, [.ref lc, .ref lp, g2, g3, g4, g5, g6, g7, .int 0])), (q_38, .inl (cA_39, 4, .inl (upd (upd (upd (upd (fun _ => 0) 0 p0) 1 p1) 2 p2) 3 p3))), (q_37, .inr (12, [.ref q_38, .int 1, .int 0, .int 0, .int 0]))] H := hP
                                have hD : va_D A [(lp, .inr (5, [.int 0, .ref (em 0), .int 0])), (lc, .inr (5, [.int 0, .ref (em 0), .int 0])), (m0, .inr (14, [.ref lc, .ref lp, g2, g3, g4, g5, g6, g7, .int 0])), (q_38, .inl (cA_39, 4, .inl (upd (upd (upd (upd (fun _ => 0) 0 p0) 1 p1) 2 p2) 3 p3))), (q_37, .inr (12, [.ref q_38, .int 1, .int 0, .int 0, .int 0]))] := hD
                                have hK : va_K (dC, dI) vwCl [(cA_39, .int)] s := hK
                                refine W.widen (k := 2) (n := 9) (Nat.le_of_ble_eq_true rfl) (Nat.le_of_ble_eq_true rfl) ?_
                                have hPc := hP.sub (ws' := [(lc, .inr (5, [.int 0, .ref (em 0), .int 0])), (q_37, .inr (12, [.ref q_38, .int 1, .int 0, .int 0, .int 0]))]) [1, 4] rfl
                                have hDc := hD.sub (ws' := [(lc, .inr (5, [.int 0, .ref (em 0), .int 0])), (q_37, .inr (12, [.ref q_38, .int 1, .int 0, .int 0, .int 0]))]) [1, 4] (by decide) rfl
                                have hKc := hK.sub (tys' := []) [] rfl
                                have hFc := va_free (wc := [(lc, .inr (5, [.int 0, .ref (em 0), .int 0])), (q_37, .inr (12, [.ref q_38, .int 1, .int 0, .int 0, .int 0]))]) hD hS hA [1, 4] rfl
                                refine va_calli (va_runV (As := [.ref q_37]) (rest := []) ⟨hx, hb, hml, hown, hts⟩ (c_Jx4a65c_add_9ea2d_obj l em dC dI lc q_37 (.ref q_38) (.int 1) (.int 0) (.int 0) (.int 0) H.size) (cwV 1 hts gX8_card_Jx4a65c_add_9ea2d rfl rfl rfl (by decide +kernel) ⟨Nat.le_of_ble_eq_true rfl, Nat.le_of_ble_eq_true rfl⟩) ⟨Pw.blind _ _ _ _ _ _ _, va_recv hKc hPc (ci := 5) (q0 := 0) rfl rfl, fun U hU hW => ⟨rfl, Pw.go hPc hKc hDc hamb hS hFc hU hW⟩⟩ rfl rfl hl.1 rfl (lv_room (Nat.le_of_ble_eq_true rfl)) dX8_card_153 ⟨Nat.le_of_ble_eq_true rfl, Nat.le_of_ble_eq_true rfl⟩) hS (fun q _ h => hFc q h) hFc (fun r_44 u t H1 locs1 ht hvm hw hB hz1 hk1 hS => ?_)
                                obtain ⟨ux_45, hP1, hK1, hD1⟩ := hB
                                rw [ht] at hP1
                                have hK1 := va_K.moved hvm.symm hK1
                                obtain ⟨hP, hD⟩ := va_join (wr := [(lp, .inr (5, [.int 0, .ref (em 0), .int 0])), (m0, .inr (14, [.ref lc, .ref lp, g2, g3, g4, g5, g6, g7, .int 0])), (q_38, .inl (cA_39, 4, .inl (upd (upd (upd (upd (fun _ => 0) 0 p0) 1 p1) 2 p2) 3 p3)))]) (w1 := [(lc, .inr (5, [.int 1, ux_45, .int 1]))]) hP hD [1, 4] [0, 2, 3] rfl rfl (by decide) (by decide) hk1 hFc hP1 hD1
                                have hK := (hK.sub (tys' := [(cA_39, .int)]) [0] rfl).app hK1
                                generalize H1 = H at hP hS ⊢
                                have hP : va_P (dC, dI) vwCl [(lp, .inr (5, [.int 0, .ref (em 0), .int 0])), (m0, .inr (14, [.ref lc, .ref lp, g2, g3, g4, g5, g6, g7, .int 0])), (q_38, .inl (cA_39, 4, .inl (upd (upd (upd (upd (fun _ => 0) 0 p0) 1 p1) 2 p2) 3 p3))), (lc, .inr (5, [.int 1, ux_45, .int 1]))] H := hP
                                have hD : va_D A [(lp, .inr (5, [.int 0, .ref (em 0), .int 0])), (m0, .inr (14, [.ref lc, .ref lp, g2, g3, g4, g5, g6, g7, .int 0])), (q_38, .inl (cA_39, 4, .inl (upd (upd (upd (upd (fun _ => 0) 0 p0) 1 p1) 2 p2) 3 p3))), (lc, .inr (5, [.int 1, ux_45, .int 1]))] := hD
                                have hK : va_K (dC, dI) vwCl [(cA_39, .int)] s := hK
                                refine W.widen (k := 3) (n := 19) (Nat.le_of_ble_eq_true rfl) (Nat.le_of_ble_eq_true rfl) ?_
                                have hw : r_44 = 1 := hw
                                rw [hw]
                                refine lv_pop hx hb dX8_card_156 rfl ?_
                                refine lv_aload_n hx hb dX8_card_157 rfl (lv_at hl 1 rfl) ?_
                                refine va_get (D := (dC, dI)) (ci := 14) (v := .ref lc) (C := RX8) (T := TX8) (N := 9) hx hb hts (by decide +kernel) hown hK hP 1 rfl rfl 0 (by decide) (hts (.fieldLink RX8 10 "BothfacesModel" "cards" "Ljava/util/ArrayList;") (by decide +kernel)) (fun _ h9 => h9) rfl dX8_card_158 ?_
                                have hPc := hP.sub (ws' := [(lc, .inr (5, [.int 1, ux_45, .int 1]))]) [3] rfl
                                have hDc := hD.sub (ws' := [(lc, .inr (5, [.int 1, ux_45, .int 1]))]) [3] (by decide) rfl
                                have hKc := hK.sub (tys' := []) [] rfl
                                have hFc := va_free (wc := [(lc, .inr (5, [.int 1, ux_45, .int 1]))]) hD hS hA [3] rfl
                                refine va_calli (va_runV (As := []) (rest := []) ⟨hx, hb, hml, hown, hts⟩ (c_Jx4a65c_size_8abf5_1 l em dC dI lc (.int 1) ux_45 H.size) (cwV 0 hts gX8_card_Jx4a65c_size_8abf5 rfl rfl rfl (by decide +kernel) ⟨Nat.le_of_ble_eq_true rfl, Nat.le_of_ble_eq_true rfl⟩) ⟨Pw.blind _ _ _ _ _ _ _, va_recv hKc hPc (ci := 5) (q0 := 0) rfl rfl, fun U hU hW => ⟨rfl, Pw.go hPc hKc hDc hamb hS hFc hU hW⟩⟩ rfl rfl hl.1 rfl (lv_room (Nat.le_of_ble_eq_true rfl)) dX8_card_161 ⟨Nat.le_of_ble_eq_true rfl, Nat.le_of_ble_eq_true rfl⟩) hS (fun q _ h => hFc q h) hFc (fun r_46 u t H1 locs1 ht hvm hw hB hz1 hk1 hS => ?_)
                                obtain ⟨hP1, hK1, hD1⟩ := hB
                                rw [ht] at hP1
                                have hK1 := va_K.moved hvm.symm hK1
                                obtain ⟨hP, hD⟩ := va_join (wr := [(lp, .inr (5, [.int 0, .ref (em 0), .int 0])), (m0, .inr (14, [.ref lc, .ref lp, g2, g3, g4, g5, g6, g7, .int 0])), (q_38, .inl (cA_39, 4, .inl (upd (upd (upd (upd (fun _ => 0) 0 p0) 1 p1) 2 p2) 3 p3)))]) (w1 := [(lc, .inr (5, [.int 1, ux_45, .int 1]))]) hP hD [3] [0, 1, 2] rfl rfl (by decide) (by decide) hk1 hFc hP1 hD1
                                have hK := (hK.sub (tys' := [(cA_39, .int)]) [0] rfl).app hK1
                                generalize H1 = H at hP hS ⊢
                                have hP : va_P (dC, dI) vwCl [(lp, .inr (5, [.int 0, .ref (em 0), .int 0])), (m0, .inr (14, [.ref lc, .ref lp, g2, g3, g4, g5, g6, g7, .int 0])), (q_38, .inl (cA_39, 4, .inl (upd (upd (upd (upd (fun _ => 0) 0 p0) 1 p1) 2 p2) 3 p3))), (lc, .inr (5, [.int 1, ux_45, .int 1]))] H := hP
                                have hD : va_D A [(lp, .inr (5, [.int 0, .ref (em 0), .int 0])), (m0, .inr (14, [.ref lc, .ref lp, g2, g3, g4, g5, g6, g7, .int 0])), (q_38, .inl (cA_39, 4, .inl (upd (upd (upd (upd (fun _ => 0) 0 p0) 1 p1) 2 p2) 3 p3))), (lc, .inr (5, [.int 1, ux_45, .int 1]))] := hD
                                have hK : va_K (dC, dI) vwCl [(cA_39, .int)] s := hK
                                refine W.widen (k := 3) (n := 19) (Nat.le_of_ble_eq_true rfl) (Nat.le_of_ble_eq_true rfl) ?_
                                have hw : r_46 = 1 := hw
                                rw [hw]
                                refine lv_iconst (v := 1) hx hb dX8_card_164 (by decide) ?_
                                refine lv_isub hx hb dX8_card_165 ?_
                                refine lv_topi (fun k_47 ek_47 => ?_)
                                obtain rfl : k_47 = 0 := ek_47.trans (by decide)
                                refine W.widen (k := 3) (n := 19) (Nat.le_of_ble_eq_true rfl) (Nat.le_of_ble_eq_true rfl) ?_
                                have hP9 := hP.sub (ws' := [(m0, .inr (14, [.ref lc, .ref lp, g2, g3, g4, g5, g6, g7, .int 0]))]) [1] rfl
                                have hD9 := hD.sub (ws' := [(m0, .inr (14, [.ref lc, .ref lp, g2, g3, g4, g5, g6, g7, .int 0]))]) [1] (by decide) rfl
                                have hK9 := hK.sub (tys' := []) [] rfl
                                exact W.iret (v := 0) hx hb hr (fun t ht hW => ⟨⟨0, (), rfl, ⟨fun h9 => (by first | rfl | (exfalso; omega)), fun h9 => (by first | rfl | (exfalso; omega))⟩, ⟨(0), ⟨by rw [ht]; exact hP9, va_K.moved hW.alike hK9, hD9⟩, (by first | rfl | assumption | omega | exact fun _ => rfl | exact fun h9 => absurd (by omega) h9 | exact fun h9 => absurd h9 (by omega)), (by first | rfl | assumption | omega | exact fun _ => rfl | exact fun h9 => absurd (by omega) h9 | exact fun h9 => absurd h9 (by omega))⟩⟩, hS.F ht⟩) hS.2.2 dX8_card_166
                            · exact absurd (by decide) c_36
                          · exact absurd c_34 (by decide)
                      · exact absurd c_30 (by decide)
                  · have t_48 := b_ne (k := 115) rfl c_25
                    refine lv_iload hx hb dX8_card_36 (lv_at hl 5 rfl) ?_
                    refine lv_bipush (v := 122) hx hb dX8_card_38 (by decide) ?_
                    refine lv_icmp_eq (tgt := 47) hx hb dX8_card_40 (by decide) (fun c_49 => ?_) (fun c_49 => ?_)
                    · have t_50 := b_eq (k := 122) rfl c_49
                      refine lv_iconst (v := 0) hx hb dX8_card_47 (by decide) ?_
                      refine lv_istore (lv' := [(6, .int 0), (0, .ref m0), (1, .int p0), (2, .int p1), (3, .int p2), (4, .int p3), (5, .int p4)]) hx hb dX8_card_48 hl (by decide) rfl (fun ls hl => ?_)
                      refine lv_aload_n hx hb dX8_card_50 rfl (lv_at hl 1 rfl) ?_
                      refine lv_iload hx hb dX8_card_51 (lv_at hl 0 rfl) ?_
                      refine lv_iconst (v := 1) hx hb dX8_card_53 (by decide) ?_
                      have hPc := hP.sub (ws' := [(m0, .inr (14, [.ref lc, .ref lp, g2, g3, g4, g5, g6, g7, g8]))]) [0] rfl
                      have hDc := hD.sub (ws' := [(m0, .inr (14, [.ref lc, .ref lp, g2, g3, g4, g5, g6, g7, g8]))]) [0] (by decide) rfl
                      have hKc := hK.sub (tys' := []) [] rfl
                      have hFc := va_free (wc := [(m0, .inr (14, [.ref lc, .ref lp, g2, g3, g4, g5, g6, g7, g8]))]) hD hS hA [0] rfl
                      refine va_calli (va_runV (As := [.int 0, .int 1]) (rest := []) ⟨hx, hb, hml, hown, hts⟩ (c_X8_isThrown_0 l em dC dI m0 1 (.ref lc) (.ref lp) g2 g3 g4 g5 g6 g7 g8 H.size) (cwV 2 hts gX8_card_X8_isThrown rfl rfl rfl (by decide +kernel) ⟨Nat.le_of_ble_eq_true rfl, Nat.le_of_ble_eq_true rfl⟩) ⟨Pw.blind _ _ _ _ _ _ _, va_recv hKc hPc (ci := 14) (q0 := 0) rfl rfl, fun U hU hW => ⟨rfl, Pw.go hPc hKc hDc hamb hS hFc hU hW⟩⟩ rfl rfl hl.1 rfl (lv_room (Nat.le_of_ble_eq_true rfl)) dX8_card_54 ⟨Nat.le_of_ble_eq_true rfl, Nat.le_of_ble_eq_true rfl⟩) hS (fun q _ h => hFc q h) hFc (fun r_51 u t H1 locs1 ht hvm hw hB hz1 hk1 hS => ?_)
                      obtain ⟨hP1, hK1, hD1⟩ := hB
                      rw [ht] at hP1
                      have hK1 := va_K.moved hvm.symm hK1
                      obtain ⟨hP, hD⟩ := va_join (wr := [(lc, .inr (5, [.int 0, .ref (em 0), .int 0])), (lp, .inr (5, [.int 0, .ref (em 0), .int 0]))]) (w1 := [(m0, .inr (14, [.ref lc, .ref lp, g2, g3, g4, g5, g6, g7, .int 0]))]) hP hD [0] [1, 2] rfl rfl (by decide) (by decide) hk1 hFc hP1 hD1
                      have hK := (hK.sub (tys' := []) [] rfl).app hK1
                      generalize H1 = H at hP hS ⊢
                      have hP : va_P (dC, dI) vwCl [(lc, .inr (5, [.int 0, .ref (em 0), .int 0])), (lp, .inr (5, [.int 0, .ref (em 0), .int 0])), (m0, .inr (14, [.ref lc, .ref lp, g2, g3, g4, g5, g6, g7, .int 0]))] H := hP
                      have hD : va_D A [(lc, .inr (5, [.int 0, .ref (em 0), .int 0])), (lp, .inr (5, [.int 0, .ref (em 0), .int 0])), (m0, .inr (14, [.ref lc, .ref lp, g2, g3, g4, g5, g6, g7, .int 0]))] := hD
                      have hK : va_K (dC, dI) vwCl [] s := hK
                      refine W.widen (k := 0) (n := 0) (Nat.le_of_ble_eq_true rfl) (Nat.le_of_ble_eq_true rfl) ?_
                      have hw : r_51 = 0 := hw
                      rw [hw]
                      refine lv_if_ne (tgt := 108) hx hb dX8_card_57 (by decide) (fun c_52 => ?_) (fun c_52 => ?_)
                      · exact absurd (by decide) c_52
                      · refine lv_aload_n hx hb dX8_card_60 rfl (lv_at hl 1 rfl) ?_
                        refine lv_aload_n hx hb dX8_card_61 rfl (lv_at hl 1 rfl) ?_
                        refine va_get (D := (dC, dI)) (ci := 14) (v := .ref lp) (C := RX8) (T := TX8) (N := 9) hx hb hts (by decide +kernel) hown hK hP 2 rfl rfl 1 (by decide) (hts (.fieldLink RX8 16 "BothfacesModel" "picks" "Ljava/util/ArrayList;") (by decide +kernel)) (fun _ h9 => h9) rfl dX8_card_62 ?_
                        have hPc := hP.sub (ws' := [(lp, .inr (5, [.int 0, .ref (em 0), .int 0]))]) [1] rfl
                        have hDc := hD.sub (ws' := [(lp, .inr (5, [.int 0, .ref (em 0), .int 0]))]) [1] (by decide) rfl
                        have hKc := hK.sub (tys' := []) [] rfl
                        have hFc := va_free (wc := [(lp, .inr (5, [.int 0, .ref (em 0), .int 0]))]) hD hS hA [1] rfl
                        refine va_calli (va_runV (As := []) (rest := [.ref m0]) ⟨hx, hb, hml, hown, hts⟩ (c_Jx4a65c_isEmpty_aae02 l em dC dI lp (.int 0) (.ref (em 0)) H.size) (cwV 0 hts gX8_card_Jx4a65c_isEmpty_aae02 rfl rfl rfl (by decide +kernel) ⟨Nat.le_of_ble_eq_true rfl, Nat.le_of_ble_eq_true rfl⟩) ⟨Pw.blind _ _ _ _ _ _ _, va_recv hKc hPc (ci := 5) (q0 := 0) rfl rfl, fun U hU hW => ⟨rfl, Pw.go hPc hKc hDc hamb hS hFc hU hW⟩⟩ rfl rfl hl.1 rfl (lv_room (Nat.le_of_ble_eq_true rfl)) dX8_card_65 ⟨Nat.le_of_ble_eq_true rfl, Nat.le_of_ble_eq_true rfl⟩) hS (fun q _ h => hFc q h) hFc (fun r_53 u t H1 locs1 ht hvm hw hB hz1 hk1 hS => ?_)
                        obtain ⟨hP1, hK1, hD1⟩ := hB
                        rw [ht] at hP1
                        have hK1 := va_K.moved hvm.symm hK1
                        obtain ⟨hP, hD⟩ := va_join (wr := [(lc, .inr (5, [.int 0, .ref (em 0), .int 0])), (m0, .inr (14, [.ref lc, .ref lp, g2, g3, g4, g5, g6, g7, .int 0]))]) (w1 := [(lp, .inr (5, [.int 0, .ref (em 0), .int 0]))]) hP hD [1] [0, 2] rfl rfl (by decide) (by decide) hk1 hFc hP1 hD1
                        have hK := (hK.sub (tys' := []) [] rfl).app hK1
                        generalize H1 = H at hP hS ⊢
                        have hP : va_P (dC, dI) vwCl [(lc, .inr (5, [.int 0, .ref (em 0), .int 0])), (m0, .inr (14, [.ref lc, .ref lp, g2, g3, g4, g5, g6, g7, .int 0])), (lp, .inr (5, [.int 0, .ref (em 0), .int 0]))] H := hP
                        have hD : va_D A [(lc, .inr (5, [.int 0, .ref (em 0), .int 0])), (m0, .inr (14, [.ref lc, .ref lp, g2, g3, g4, g5, g6, g7, .int 0])), (lp, .inr (5, [.int 0, .ref (em 0), .int 0]))] := hD
                        have hK : va_K (dC, dI) vwCl [] s := hK
                        refine W.widen (k := 0) (n := 0) (Nat.le_of_ble_eq_true rfl) (Nat.le_of_ble_eq_true rfl) ?_
                        have hw : r_53 = 1 := hw
                        rw [hw]
                        refine lv_if_ne (tgt := 75) hx hb dX8_card_68 (by decide) (fun c_54 => ?_) (fun c_54 => ?_)
                        · refine lv_iconst (v := 0) hx hb dX8_card_75 (by decide) ?_
                          refine lv_iconst (v := 2) hx hb dX8_card_76 (by decide) ?_
                          have hPc := hP.sub (ws' := [(m0, .inr (14, [.ref lc, .ref lp, g2, g3, g4, g5, g6, g7, .int 0]))]) [1] rfl
                          have hDc := hD.sub (ws' := [(m0, .inr (14, [.ref lc, .ref lp, g2, g3, g4, g5, g6, g7, .int 0]))]) [1] (by decide) rfl
                          have hKc := hK.sub (tys' := []) [] rfl
                          have hFc := va_free (wc := [(m0, .inr (14, [.ref lc, .ref lp, g2, g3, g4, g5, g6, g7, .int 0]))]) hD hS hA [1] rfl
                          refine va_calli (va_runV (As := [.int 0, .int 2]) (rest := []) ⟨hx, hb, hml, hown, hts⟩ (c_X8_isThrown_0 l em dC dI m0 2 (.ref lc) (.ref lp) g2 g3 g4 g5 g6 g7 (.int 0) H.size) (cwV 2 hts gX8_card_X8_isThrown rfl rfl rfl (by decide +kernel) ⟨Nat.le_of_ble_eq_true rfl, Nat.le_of_ble_eq_true rfl⟩) ⟨Pw.blind _ _ _ _ _ _ _, va_recv hKc hPc (ci := 14) (q0 := 0) rfl rfl, fun U hU hW => ⟨rfl, Pw.go hPc hKc hDc hamb hS hFc hU hW⟩⟩ rfl rfl hl.1 rfl (lv_room (Nat.le_of_ble_eq_true rfl)) dX8_card_77 ⟨Nat.le_of_ble_eq_true rfl, Nat.le_of_ble_eq_true rfl⟩) hS (fun q _ h => hFc q h) hFc (fun r_55 u t H1 locs1 ht hvm hw hB hz1 hk1 hS => ?_)
                          obtain ⟨hP1, hK1, hD1⟩ := hB
                          rw [ht] at hP1
                          have hK1 := va_K.moved hvm.symm hK1
                          obtain ⟨hP, hD⟩ := va_join (wr := [(lc, .inr (5, [.int 0, .ref (em 0), .int 0])), (lp, .inr (5, [.int 0, .ref (em 0), .int 0]))]) (w1 := [(m0, .inr (14, [.ref lc, .ref lp, g2, g3, g4, g5, g6, g7, .int 0]))]) hP hD [1] [0, 2] rfl rfl (by decide) (by decide) hk1 hFc hP1 hD1
                          have hK := (hK.sub (tys' := []) [] rfl).app hK1
                          generalize H1 = H at hP hS ⊢
                          have hP : va_P (dC, dI) vwCl [(lc, .inr (5, [.int 0, .ref (em 0), .int 0])), (lp, .inr (5, [.int 0, .ref (em 0), .int 0])), (m0, .inr (14, [.ref lc, .ref lp, g2, g3, g4, g5, g6, g7, .int 0]))] H := hP
                          have hD : va_D A [(lc, .inr (5, [.int 0, .ref (em 0), .int 0])), (lp, .inr (5, [.int 0, .ref (em 0), .int 0])), (m0, .inr (14, [.ref lc, .ref lp, g2, g3, g4, g5, g6, g7, .int 0]))] := hD
                          have hK : va_K (dC, dI) vwCl [] s := hK
                          refine W.widen (k := 0) (n := 0) (Nat.le_of_ble_eq_true rfl) (Nat.le_of_ble_eq_true rfl) ?_
                          have hw : r_55 = 0 := hw
                          rw [hw]
                          refine lv_if_ne (tgt := 108) hx hb dX8_card_80 (by decide) (fun c_56 => ?_) (fun c_56 => ?_)
                          · exact absurd (by decide) c_56
                          · refine lv_aload_n hx hb dX8_card_83 rfl (lv_at hl 1 rfl) ?_
                            refine lv_aload_n hx hb dX8_card_84 rfl (lv_at hl 1 rfl) ?_
                            refine va_get (D := (dC, dI)) (ci := 14) (v := .ref lc) (C := RX8) (T := TX8) (N := 9) hx hb hts (by decide +kernel) hown hK hP 2 rfl rfl 0 (by decide) (hts (.fieldLink RX8 10 "BothfacesModel" "cards" "Ljava/util/ArrayList;") (by decide +kernel)) (fun _ h9 => h9) rfl dX8_card_85 ?_
                            have hPc := hP.sub (ws' := [(lc, .inr (5, [.int 0, .ref (em 0), .int 0]))]) [0] rfl
                            have hDc := hD.sub (ws' := [(lc, .inr (5, [.int 0, .ref (em 0), .int 0]))]) [0] (by decide) rfl
                            have hKc := hK.sub (tys' := []) [] rfl
                            have hFc := va_free (wc := [(lc, .inr (5, [.int 0, .ref (em 0), .int 0]))]) hD hS hA [0] rfl
                            refine va_calli (va_runV (As := []) (rest := [.ref m0]) ⟨hx, hb, hml, hown, hts⟩ (c_Jx4a65c_size_8abf5 l em dC dI lc (.int 0) (.ref (em 0)) H.size) (cwV 0 hts gX8_card_Jx4a65c_size_8abf5 rfl rfl rfl (by decide +kernel) ⟨Nat.le_of_ble_eq_true rfl, Nat.le_of_ble_eq_true rfl⟩) ⟨Pw.blind _ _ _ _ _ _ _, va_recv hKc hPc (ci := 5) (q0 := 0) rfl rfl, fun U hU hW => ⟨rfl, Pw.go hPc hKc hDc hamb hS hFc hU hW⟩⟩ rfl rfl hl.1 rfl (lv_room (Nat.le_of_ble_eq_true rfl)) dX8_card_88 ⟨Nat.le_of_ble_eq_true rfl, Nat.le_of_ble_eq_true rfl⟩) hS (fun q _ h => hFc q h) hFc (fun r_57 u t H1 locs1 ht hvm hw hB hz1 hk1 hS => ?_)
                            obtain ⟨hP1, hK1, hD1⟩ := hB
                            rw [ht] at hP1
                            have hK1 := va_K.moved hvm.symm hK1
                            obtain ⟨hP, hD⟩ := va_join (wr := [(lp, .inr (5, [.int 0, .ref (em 0), .int 0])), (m0, .inr (14, [.ref lc, .ref lp, g2, g3, g4, g5, g6, g7, .int 0]))]) (w1 := [(lc, .inr (5, [.int 0, .ref (em 0), .int 0]))]) hP hD [0] [1, 2] rfl rfl (by decide) (by decide) hk1 hFc hP1 hD1
                            have hK := (hK.sub (tys' := []) [] rfl).app hK1
                            generalize H1 = H at hP hS ⊢
                            have hP : va_P (dC, dI) vwCl [(lp, .inr (5, [.int 0, .ref (em 0), .int 0])), (m0, .inr (14, [.ref lc, .ref lp, g2, g3, g4, g5, g6, g7, .int 0])), (lc, .inr (5, [.int 0, .ref (em 0), .int 0]))] H := hP
                            have hD : va_D A [(lp, .inr (5, [.int 0, .ref (em 0), .int 0])), (m0, .inr (14, [.ref lc, .ref lp, g2, g3, g4, g5, g6, g7, .int 0])), (lc, .inr (5, [.int 0, .ref (em 0), .int 0]))] := hD
                            have hK : va_K (dC, dI) vwCl [] s := hK
                            refine W.widen (k := 0) (n := 0) (Nat.le_of_ble_eq_true rfl) (Nat.le_of_ble_eq_true rfl) ?_
                            have hw : r_57 = 0 := hw
                            rw [hw]
                            refine lv_bipush (v := 16) hx hb dX8_card_91 (by decide) ?_
                            refine lv_icmp_ne (tgt := 100) hx hb dX8_card_93 (by decide) (fun c_58 => ?_) (fun c_58 => ?_)
                            · refine lv_iconst (v := 0) hx hb dX8_card_100 (by decide) ?_
                              refine lv_iconst (v := 3) hx hb dX8_card_101 (by decide) ?_
                              have hPc := hP.sub (ws' := [(m0, .inr (14, [.ref lc, .ref lp, g2, g3, g4, g5, g6, g7, .int 0]))]) [1] rfl
                              have hDc := hD.sub (ws' := [(m0, .inr (14, [.ref lc, .ref lp, g2, g3, g4, g5, g6, g7, .int 0]))]) [1] (by decide) rfl
                              have hKc := hK.sub (tys' := []) [] rfl
                              have hFc := va_free (wc := [(m0, .inr (14, [.ref lc, .ref lp, g2, g3, g4, g5, g6, g7, .int 0]))]) hD hS hA [1] rfl
                              refine va_calli (va_runV (As := [.int 0, .int 3]) (rest := []) ⟨hx, hb, hml, hown, hts⟩ (c_X8_isThrown_0 l em dC dI m0 3 (.ref lc) (.ref lp) g2 g3 g4 g5 g6 g7 (.int 0) H.size) (cwV 2 hts gX8_card_X8_isThrown rfl rfl rfl (by decide +kernel) ⟨Nat.le_of_ble_eq_true rfl, Nat.le_of_ble_eq_true rfl⟩) ⟨Pw.blind _ _ _ _ _ _ _, va_recv hKc hPc (ci := 14) (q0 := 0) rfl rfl, fun U hU hW => ⟨rfl, Pw.go hPc hKc hDc hamb hS hFc hU hW⟩⟩ rfl rfl hl.1 rfl (lv_room (Nat.le_of_ble_eq_true rfl)) dX8_card_102 ⟨Nat.le_of_ble_eq_true rfl, Nat.le_of_ble_eq_true rfl⟩) hS (fun q _ h => hFc q h) hFc (fun r_59 u t H1 locs1 ht hvm hw hB hz1 hk1 hS => ?_)
                              obtain ⟨hP1, hK1, hD1⟩ := hB
                              rw [ht] at hP1
                              have hK1 := va_K.moved hvm.symm hK1
                              obtain ⟨hP, hD⟩ := va_join (wr := [(lp, .inr (5, [.int 0, .ref (em 0), .int 0])), (lc, .inr (5, [.int 0, .ref (em 0), .int 0]))]) (w1 := [(m0, .inr (14, [.ref lc, .ref lp, g2, g3, g4, g5, g6, g7, .int 0]))]) hP hD [1] [0, 2] rfl rfl (by decide) (by decide) hk1 hFc hP1 hD1
                              have hK := (hK.sub (tys' := []) [] rfl).app hK1
                              generalize H1 = H at hP hS ⊢
                              have hP : va_P (dC, dI) vwCl [(lp, .inr (5, [.int 0, .ref (em 0), .int 0])), (lc, .inr (5, [.int 0, .ref (em 0), .int 0])), (m0, .inr (14, [.ref lc, .ref lp, g2, g3, g4, g5, g6, g7, .int 0]))] H := hP
                              have hD : va_D A [(lp, .inr (5, [.int 0, .ref (em 0), .int 0])), (lc, .inr (5, [.int 0, .ref (em 0), .int 0])), (m0, .inr (14, [.ref lc, .ref lp, g2, g3, g4, g5, g6, g7, .int 0]))] := hD
                              have hK : va_K (dC, dI) vwCl [] s := hK
                              refine W.widen (k := 0) (n := 0) (Nat.le_of_ble_eq_true rfl) (Nat.le_of_ble_eq_true rfl) ?_
                              have hw : r_59 = 0 := hw
                              rw [hw]
                              refine lv_if_eq (tgt := 110) hx hb dX8_card_105 (by decide) (fun c_60 => ?_) (fun c_60 => ?_)
                              · refine lv_aload_n hx hb dX8_card_110 rfl (lv_at hl 1 rfl) ?_
                                refine va_get (D := (dC, dI)) (ci := 14) (v := .ref lc) (C := RX8) (T := TX8) (N := 9) hx hb hts (by decide +kernel) hown hK hP 2 rfl rfl 0 (by decide) (hts (.fieldLink RX8 10 "BothfacesModel" "cards" "Ljava/util/ArrayList;") (by decide +kernel)) (fun _ h9 => h9) rfl dX8_card_111 ?_
                                refine va_new (ci := 12) (fs := [.null, .int 0, .int 0, .int 0, .int 0]) (C := RX6) (T := TX6) (N := 5) hx hb hts (by decide +kernel) tyX6 tyX6_ok hown (hts (.classLink RX8 70 RX6) (by decide +kernel)) (hts (.instantiable RX6 5) (by decide +kernel)) (hts (.initialized RX6) (by decide +kernel)) hK hP hD hS hA rfl (fun j hj => by rcases (show j = 0 ∨ j = 1 ∨ j = 2 ∨ j = 3 ∨ j = 4 by omega) with rfl | rfl | rfl | rfl | rfl <;> rfl) (Nat.le_of_ble_eq_true rfl) (Nat.le_of_ble_eq_true rfl) dX8_card_114 (fun q_61 H hP hD hS => ?_)
                                have hP : va_P (dC, dI) vwCl [(lp, .inr (5, [.int 0, .ref (em 0), .int 0])), (lc, .inr (5, [.int 0, .ref (em 0), .int 0])), (m0, .inr (14, [.ref lc, .ref lp, g2, g3, g4, g5, g6, g7, .int 0])), (q_61, .inr (12, [.null, .int 0, .int 0, .int 0, .int 0]))] H := hP
                                have hD : va_D A [(lp, .inr (5, [.int 0, .ref (em 0), .int 0])), (lc, .inr (5, [.int 0, .ref (em 0), .int 0])), (m0, .inr (14, [.ref lc, .ref lp, g2, g3, g4, g5, g6, g7, .int 0])), (q_61, .inr (12, [.null, .int 0, .int 0, .int 0, .int 0]))] := hD
                                refine W.widen (k := 1) (n := 5) (Nat.le_of_ble_eq_true rfl) (Nat.le_of_ble_eq_true rfl) ?_
                                refine lv_dup hx hb dX8_card_117 rfl ?_
                                refine lv_iconst (v := 4) hx hb dX8_card_118 (by decide) ?_
                                refine va_newa (atype := .int) (ty := .int) (a0 := (4, .inl (fun _ => 0))) hx hb (hts (.arrayClass .int) (by decide +kernel)) rfl hK hP hD hS hA (fun _ => rfl) (by decide) rfl (Nat.le_of_ble_eq_true rfl) (Nat.le_of_ble_eq_true rfl) (Nat.le_of_ble_eq_true rfl) dX8_card_119 (fun q_62 cA_63 H hK hP hD hS => ?_)
                                have hP : va_P (dC, dI) vwCl [(lp, .inr (5, [.int 0, .ref (em 0), .int 0])), (lc, .inr (5, [.int 0, .ref (em 0), .int 0])), (m0, .inr (14, [.ref lc, .ref lp, g2, g3, g4, g5, g6, g7, .int 0])), (q_61, .inr (12, [.null, .int 0, .int 0, .int 0, .int 0])), (q_62, .inl (cA_63, 4, .inl (fun _ => 0)))] H := hP
                                have hD : va_D A [(lp, .inr (5, [.int 0, .ref (em 0), .int 0])), (lc, .inr (5, [.int 0, .ref (em 0), .int 0])), (m0, .inr (14, [.ref lc, .ref lp, g2, g3, g4, g5, g6, g7, .int 0])), (q_61, .inr (12, [.null, .int 0, .int 0, .int 0, .int 0])), (q_62, .inl (cA_63, 4, .inl (fun _ => 0)))] := hD
                                have hK : va_K (dC, dI) vwCl [(cA_63, .int)] s := hK
                                refine W.widen (k := 2) (n := 9) (Nat.le_of_ble_eq_true rfl) (Nat.le_of_ble_eq_true rfl) ?_
                                refine lv_dup hx hb dX8_card_121 rfl ?_
                                refine lv_iconst (v := 0) hx hb dX8_card_122 (by decide) ?_
                                refine lv_iload_n hx hb dX8_card_123 rfl (lv_at hl 2 rfl) ?_
                                refine va_iast hx hb hK hP hD hS 4 0 rfl rfl (vp_in_iff.mpr ⟨by decide, by decide⟩) dX8_card_124 (fun H locs hP hD hS => ?_)
                                have hP : va_P (dC, dI) vwCl [(lp, .inr (5, [.int 0, .ref (em 0), .int 0])), (lc, .inr (5, [.int 0, .ref (em 0), .int 0])), (m0, .inr (14, [.ref lc, .ref lp, g2, g3, g4, g5, g6, g7, .int 0])), (q_61, .inr (12, [.null, .int 0, .int 0, .int 0, .int 0])), (q_62, .inl (cA_63, 4, .inl (upd (fun _ => 0) 0 p0)))] H := hP
                                have hD : va_D A [(lp, .inr (5, [.int 0, .ref (em 0), .int 0])), (lc, .inr (5, [.int 0, .ref (em 0), .int 0])), (m0, .inr (14, [.ref lc, .ref lp, g2, g3, g4, g5, g6, g7, .int 0])), (q_61, .inr (12, [.null, .int 0, .int 0, .int 0, .int 0])), (q_62, .inl (cA_63, 4, .inl (upd (fun _ => 0) 0 p0)))] := hD
                                refine lv_dup hx hb dX8_card_125 rfl ?_
                                refine lv_iconst (v := 1) hx hb dX8_card_126 (by decide) ?_
                                refine lv_iload_n hx hb dX8_card_127 rfl (lv_at hl 3 rfl) ?_
                                refine va_iast hx hb hK hP hD hS 4 0 rfl rfl (vp_in_iff.mpr ⟨by decide, by decide⟩) dX8_card_128 (fun H locs hP hD hS => ?_)
                                have hP : va_P (dC, dI) vwCl [(lp, .inr (5, [.int 0, .ref (em 0), .int 0])), (lc, .inr (5, [.int 0, .ref (em 0), .int 0])), (m0, .inr (14, [.ref lc, .ref lp, g2, g3, g4, g5, g6, g7, .int 0])), (q_61, .inr (12, [.null, .int 0, .int 0, .int 0, .int 0])), (q_62, .inl (cA_63, 4, .inl (upd (upd (fun _ => 0) 0 p0) 1 p1)))] H := hP
                                have hD : va_D A [(lp, .inr (5, [.int 0, .ref (em 0), .int 0])), (lc, .inr (5, [.int 0, .ref (em 0), .int 0])), (m0, .inr (14, [.ref lc, .ref lp, g2, g3, g4, g5, g6, g7, .int 0])), (q_61, .inr (12, [.null, .int 0, .int 0, .int 0, .int 0])), (q_62, .inl (cA_63, 4, .inl (upd (upd (fun _ => 0) 0 p0) 1 p1)))] := hD
                                refine lv_dup hx hb dX8_card_129 rfl ?_
                                refine lv_iconst (v := 2) hx hb dX8_card_130 (by decide) ?_
                                refine lv_iload_n hx hb dX8_card_131 rfl (lv_at hl 4 rfl) ?_
                                refine va_iast hx hb hK hP hD hS 4 0 rfl rfl (vp_in_iff.mpr ⟨by decide, by decide⟩) dX8_card_132 (fun H locs hP hD hS => ?_)
                                have hP : va_P (dC, dI) vwCl [(lp, .inr (5, [.int 0, .ref (em 0), .int 0])), (lc, .inr (5, [.int 0, .ref (em 0), .int 0])), (m0, .inr (14, [.ref lc, .ref lp, g2, g3, g4, g5, g6, g7, .int 0])), (q_61, .inr (12, [.null, .int 0, .int 0, .int 0, .int 0])), (q_62, .inl (cA_63, 4, .inl (upd (upd (upd (fun _ => 0) 0 p0) 1 p1) 2 p2)))] H := hP
                                have hD : va_D A [(lp, .inr (5, [.int 0, .ref (em 0), .int 0])), (lc, .inr (5, [.int 0, .ref (em 0), .int 0])), (m0, .inr (14, [.ref lc, .ref lp, g2, g3, g4, g5, g6, g7, .int 0])), (q_61, .inr (12, [.null, .int 0, .int 0, .int 0, .int 0])), (q_62, .inl (cA_63, 4, .inl (upd (upd (upd (fun _ => 0) 0 p0) 1 p1) 2 p2)))] := hD
                                refine lv_dup hx hb dX8_card_133 rfl ?_
                                refine lv_iconst (v := 3) hx hb dX8_card_134 (by decide) ?_
                                refine lv_iload hx hb dX8_card_135 (lv_at hl 5 rfl) ?_
                                refine va_iast hx hb hK hP hD hS 4 0 rfl rfl (vp_in_iff.mpr ⟨by decide, by decide⟩) dX8_card_137 (fun H locs hP hD hS => ?_)
                                have hP : va_P (dC, dI) vwCl [(lp, .inr (5, [.int 0, .ref (em 0), .int 0])), (lc, .inr (5, [.int 0, .ref (em 0), .int 0])), (m0, .inr (14, [.ref lc, .ref lp, g2, g3, g4, g5, g6, g7, .int 0])), (q_61, .inr (12, [.null, .int 0, .int 0, .int 0, .int 0])), (q_62, .inl (cA_63, 4, .inl (upd (upd (upd (upd (fun _ => 0) 0 p0) 1 p1) 2 p2) 3 p3)))] H := hP
                                have hD : va_D A [(lp, .inr (5, [.int 0, .ref (em 0), .int 0])), (lc, .inr (5, [.int 0, .ref (em 0), .int 0])), (m0, .inr (14, [.ref lc, .ref lp, g2, g3, g4, g5, g6, g7, .int 0])), (q_61, .inr (12, [.null, .int 0, .int 0, .int 0, .int 0])), (q_62, .inl (cA_63, 4, .inl (upd (upd (upd (upd (fun _ => 0) 0 p0) 1 p1) 2 p2) 3 p3)))] := hD
                                refine lv_iload hx hb dX8_card_138 (lv_at hl 6 rfl) ?_
                                refine lv_bipush (v := 115) hx hb dX8_card_140 (by decide) ?_
                                refine lv_icmp_ne (tgt := 149) hx hb dX8_card_142 (by decide) (fun c_64 => ?_) (fun c_64 => ?_)
                                · have t_65 := b_ne (k := 115) rfl c_64
                                  refine lv_iconst (v := 0) hx hb dX8_card_149 (by decide) ?_
                                  have hPc := hP.sub (ws' := [(q_61, .inr (12, [.null, .int 0, .int 0, .int 0, .int 0]))]) [3] rfl
                                  have hDc := hD.sub (ws' := [(q_61, .inr (12, [.null, .int 0, .int 0, .int 0, .int 0]))]) [3] (by decide) rfl
                                  have hKc := hK.sub (tys' := []) [] rfl
                                  have hFc := va_free (wc := [(q_61, .inr (12, [.null, .int 0, .int 0, .int 0, .int 0]))]) hD hS hA [3] rfl
                                  refine va_callv (va_runI (As := [.ref q_62, .int 0]) (rest := [.ref q_61, .ref lc]) ⟨hx, hb, hml, hown, hts⟩ (c_X6_init_0 l em dC dI q_61 q_62 H.size) (cwI 2 hts gX8_card_X6_init rfl rfl rfl (hts (.initialized RX6) (by decide +kernel)) (hts (.methodLink RX8 72 yX6_init) (by decide +kernel)) (hts (.instanceMethod yX6_init) (by decide +kernel)) rfl (by decide +kernel) ⟨Nat.le_of_ble_eq_true rfl, Nat.le_of_ble_eq_true rfl⟩) ⟨Pw.blind _ _ _ _ _ _ _, fun U hU hW => ⟨rfl, Pw.go hPc hKc hDc hamb hS hFc hU hW⟩⟩ rfl rfl hl.1 rfl (lv_room (Nat.le_of_ble_eq_true rfl)) dX8_card_150 ⟨Nat.le_of_ble_eq_true rfl, Nat.le_of_ble_eq_true rfl⟩) hS (fun q _ h => hFc q h) hFc (fun u t H1 locs1 ht hvm hw hB hz1 hk1 hS => ?_)
                                  obtain ⟨hP1, hK1, hD1⟩ := hB
                                  rw [ht] at hP1
                                  have hK1 := va_K.moved hvm.symm hK1
                                  obtain ⟨hP, hD⟩ := va_join (wr := [(lp, .inr (5, [.int 0, .ref (em 0), .int 0])), (lc, .inr (5, [.int 0, .ref (em 0), .int 0])), (m0, .inr (14, [.ref lc, .ref lp, g2, g3, g4, g5, g6, g7, .int 0])), (q_62, .inl (cA_63, 4, .inl (upd (upd (upd (upd (fun _ => 0) 0 p0) 1 p1) 2 p2) 3 p3)))]) (w1 := [(q_61, .inr (12, [.ref q_62, .int 0, .int 0, .int 0, .int 0]))]) hP hD [3] [0, 1, 2, 4] rfl rfl (by decide) (by decide) hk1 hFc hP1 hD1
                                  have hK := (hK.sub (tys' := [(cA_63, .int)]) [0] rfl).app hK1
                                  generalize H1 = H at hP hS ⊢
                                  have hP : va_P (dC, dI) vwCl [(lp, .inr (5, [.int 0, .ref (em 0), .int 0])), (lc, .inr (5, [.int 0, .ref (em 0), .int 0])), (m0, .inr (14, [.ref lc, .ref lp, g2, g3, g4, g5, g6, g7, .int 0])), (q_62, .inl (cA_63, 4, .inl (upd (upd (upd (upd (fun _ => 0) 0 p0) 1 p1) 2 p2) 3 p3))), (q_61, .inr (12, [.ref q_62, .int 0, .int 0, .int 0, .int 0]))] H := hP
                                  have hD : va_D A [(lp, .inr (5, [.int 0, .ref (em 0), .int 0])), (lc, .inr (5, [.int 0, .ref (em 0), .int 0])), (m0, .inr (14, [.ref lc, .ref lp, g2, g3, g4, g5, g6, g7, .int 0])), (q_62, .inl (cA_63, 4, .inl (upd (upd (upd (upd (fun _ => 0) 0 p0) 1 p1) 2 p2) 3 p3))), (q_61, .inr (12, [.ref q_62, .int 0, .int 0, .int 0, .int 0]))] := hD
                                  have hK : va_K (dC, dI) vwCl [(cA_63, .int)] s := hK
                                  refine W.widen (k := 2) (n := 9) (Nat.le_of_ble_eq_true rfl) (Nat.le_of_ble_eq_true rfl) ?_
                                  have hPc := hP.sub (ws' := [(lc, .inr (5, [.int 0, .ref (em 0), .int 0])), (q_61, .inr (12, [.ref q_62, .int 0, .int 0, .int 0, .int 0]))]) [1, 4] rfl
                                  have hDc := hD.sub (ws' := [(lc, .inr (5, [.int 0, .ref (em 0), .int 0])), (q_61, .inr (12, [.ref q_62, .int 0, .int 0, .int 0, .int 0]))]) [1, 4] (by decide) rfl
                                  have hKc := hK.sub (tys' := []) [] rfl
                                  have hFc := va_free (wc := [(lc, .inr (5, [.int 0, .ref (em 0), .int 0])), (q_61, .inr (12, [.ref q_62, .int 0, .int 0, .int 0, .int 0]))]) hD hS hA [1, 4] rfl
                                  refine va_calli (va_runV (As := [.ref q_61]) (rest := []) ⟨hx, hb, hml, hown, hts⟩ (c_Jx4a65c_add_9ea2d_obj l em dC dI lc q_61 (.ref q_62) (.int 0) (.int 0) (.int 0) (.int 0) H.size) (cwV 1 hts gX8_card_Jx4a65c_add_9ea2d rfl rfl rfl (by decide +kernel) ⟨Nat.le_of_ble_eq_true rfl, Nat.le_of_ble_eq_true rfl⟩) ⟨Pw.blind _ _ _ _ _ _ _, va_recv hKc hPc (ci := 5) (q0 := 0) rfl rfl, fun U hU hW => ⟨rfl, Pw.go hPc hKc hDc hamb hS hFc hU hW⟩⟩ rfl rfl hl.1 rfl (lv_room (Nat.le_of_ble_eq_true rfl)) dX8_card_153 ⟨Nat.le_of_ble_eq_true rfl, Nat.le_of_ble_eq_true rfl⟩) hS (fun q _ h => hFc q h) hFc (fun r_67 u t H1 locs1 ht hvm hw hB hz1 hk1 hS => ?_)
                                  obtain ⟨ux_68, hP1, hK1, hD1⟩ := hB
                                  rw [ht] at hP1
                                  have hK1 := va_K.moved hvm.symm hK1
                                  obtain ⟨hP, hD⟩ := va_join (wr := [(lp, .inr (5, [.int 0, .ref (em 0), .int 0])), (m0, .inr (14, [.ref lc, .ref lp, g2, g3, g4, g5, g6, g7, .int 0])), (q_62, .inl (cA_63, 4, .inl (upd (upd (upd (upd (fun _ => 0) 0 p0) 1 p1) 2 p2) 3 p3)))]) (w1 := [(lc, .inr (5, [.int 1, ux_68, .int 1]))]) hP hD [1, 4] [0, 2, 3] rfl rfl (by decide) (by decide) hk1 hFc hP1 hD1
                                  have hK := (hK.sub (tys' := [(cA_63, .int)]) [0] rfl).app hK1
                                  generalize H1 = H at hP hS ⊢
                                  have hP : va_P (dC, dI) vwCl [(lp, .inr (5, [.int 0, .ref (em 0), .int 0])), (m0, .inr (14, [.ref lc, .ref lp, g2, g3, g4, g5, g6, g7, .int 0])), (q_62, .inl (cA_63, 4, .inl (upd (upd (upd (upd (fun _ => 0) 0 p0) 1 p1) 2 p2) 3 p3))), (lc, .inr (5, [.int 1, ux_68, .int 1]))] H := hP
                                  have hD : va_D A [(lp, .inr (5, [.int 0, .ref (em 0), .int 0])), (m0, .inr (14, [.ref lc, .ref lp, g2, g3, g4, g5, g6, g7, .int 0])), (q_62, .inl (cA_63, 4, .inl (upd (upd (upd (upd (fun _ => 0) 0 p0) 1 p1) 2 p2) 3 p3))), (lc, .inr (5, [.int 1, ux_68, .int 1]))] := hD
                                  have hK : va_K (dC, dI) vwCl [(cA_63, .int)] s := hK
                                  refine W.widen (k := 3) (n := 19) (Nat.le_of_ble_eq_true rfl) (Nat.le_of_ble_eq_true rfl) ?_
                                  have hw : r_67 = 1 := hw
                                  rw [hw]
                                  refine lv_pop hx hb dX8_card_156 rfl ?_
                                  refine lv_aload_n hx hb dX8_card_157 rfl (lv_at hl 1 rfl) ?_
                                  refine va_get (D := (dC, dI)) (ci := 14) (v := .ref lc) (C := RX8) (T := TX8) (N := 9) hx hb hts (by decide +kernel) hown hK hP 1 rfl rfl 0 (by decide) (hts (.fieldLink RX8 10 "BothfacesModel" "cards" "Ljava/util/ArrayList;") (by decide +kernel)) (fun _ h9 => h9) rfl dX8_card_158 ?_
                                  have hPc := hP.sub (ws' := [(lc, .inr (5, [.int 1, ux_68, .int 1]))]) [3] rfl
                                  have hDc := hD.sub (ws' := [(lc, .inr (5, [.int 1, ux_68, .int 1]))]) [3] (by decide) rfl
                                  have hKc := hK.sub (tys' := []) [] rfl
                                  have hFc := va_free (wc := [(lc, .inr (5, [.int 1, ux_68, .int 1]))]) hD hS hA [3] rfl
                                  refine va_calli (va_runV (As := []) (rest := []) ⟨hx, hb, hml, hown, hts⟩ (c_Jx4a65c_size_8abf5_1 l em dC dI lc (.int 1) ux_68 H.size) (cwV 0 hts gX8_card_Jx4a65c_size_8abf5 rfl rfl rfl (by decide +kernel) ⟨Nat.le_of_ble_eq_true rfl, Nat.le_of_ble_eq_true rfl⟩) ⟨Pw.blind _ _ _ _ _ _ _, va_recv hKc hPc (ci := 5) (q0 := 0) rfl rfl, fun U hU hW => ⟨rfl, Pw.go hPc hKc hDc hamb hS hFc hU hW⟩⟩ rfl rfl hl.1 rfl (lv_room (Nat.le_of_ble_eq_true rfl)) dX8_card_161 ⟨Nat.le_of_ble_eq_true rfl, Nat.le_of_ble_eq_true rfl⟩) hS (fun q _ h => hFc q h) hFc (fun r_69 u t H1 locs1 ht hvm hw hB hz1 hk1 hS => ?_)
                                  obtain ⟨hP1, hK1, hD1⟩ := hB
                                  rw [ht] at hP1
                                  have hK1 := va_K.moved hvm.symm hK1
                                  obtain ⟨hP, hD⟩ := va_join (wr := [(lp, .inr (5, [.int 0, .ref (em 0), .int 0])), (m0, .inr (14, [.ref lc, .ref lp, g2, g3, g4, g5, g6, g7, .int 0])), (q_62, .inl (cA_63, 4, .inl (upd (upd (upd (upd (fun _ => 0) 0 p0) 1 p1) 2 p2) 3 p3)))]) (w1 := [(lc, .inr (5, [.int 1, ux_68, .int 1]))]) hP hD [3] [0, 1, 2] rfl rfl (by decide) (by decide) hk1 hFc hP1 hD1
                                  have hK := (hK.sub (tys' := [(cA_63, .int)]) [0] rfl).app hK1
                                  generalize H1 = H at hP hS ⊢
                                  have hP : va_P (dC, dI) vwCl [(lp, .inr (5, [.int 0, .ref (em 0), .int 0])), (m0, .inr (14, [.ref lc, .ref lp, g2, g3, g4, g5, g6, g7, .int 0])), (q_62, .inl (cA_63, 4, .inl (upd (upd (upd (upd (fun _ => 0) 0 p0) 1 p1) 2 p2) 3 p3))), (lc, .inr (5, [.int 1, ux_68, .int 1]))] H := hP
                                  have hD : va_D A [(lp, .inr (5, [.int 0, .ref (em 0), .int 0])), (m0, .inr (14, [.ref lc, .ref lp, g2, g3, g4, g5, g6, g7, .int 0])), (q_62, .inl (cA_63, 4, .inl (upd (upd (upd (upd (fun _ => 0) 0 p0) 1 p1) 2 p2) 3 p3))), (lc, .inr (5, [.int 1, ux_68, .int 1]))] := hD
                                  have hK : va_K (dC, dI) vwCl [(cA_63, .int)] s := hK
                                  refine W.widen (k := 3) (n := 19) (Nat.le_of_ble_eq_true rfl) (Nat.le_of_ble_eq_true rfl) ?_
                                  have hw : r_69 = 1 := hw
                                  rw [hw]
                                  refine lv_iconst (v := 1) hx hb dX8_card_164 (by decide) ?_
                                  refine lv_isub hx hb dX8_card_165 ?_
                                  refine lv_topi (fun k_70 ek_70 => ?_)
                                  obtain rfl : k_70 = 0 := ek_70.trans (by decide)
                                  refine W.widen (k := 3) (n := 19) (Nat.le_of_ble_eq_true rfl) (Nat.le_of_ble_eq_true rfl) ?_
                                  have hP9 := hP.sub (ws' := [(m0, .inr (14, [.ref lc, .ref lp, g2, g3, g4, g5, g6, g7, .int 0]))]) [1] rfl
                                  have hD9 := hD.sub (ws' := [(m0, .inr (14, [.ref lc, .ref lp, g2, g3, g4, g5, g6, g7, .int 0]))]) [1] (by decide) rfl
                                  have hK9 := hK.sub (tys' := []) [] rfl
                                  exact W.iret (v := 0) hx hb hr (fun t ht hW => ⟨⟨0, (), rfl, ⟨fun h9 => (by first | rfl | (exfalso; omega)), fun h9 => (by first | rfl | (exfalso; omega))⟩, ⟨(0), ⟨by rw [ht]; exact hP9, va_K.moved hW.alike hK9, hD9⟩, (by first | rfl | assumption | omega | exact fun _ => rfl | exact fun h9 => absurd (by omega) h9 | exact fun h9 => absurd h9 (by omega)), (by first | rfl | assumption | omega | exact fun _ => rfl | exact fun h9 => absurd (by omega) h9 | exact fun h9 => absurd h9 (by omega))⟩⟩, hS.F ht⟩) hS.2.2 dX8_card_166
                                · have t_71 := b_eq (k := 115) rfl c_64
                                  exfalso; omega
                              · exact absurd (by decide) c_60
                            · exact absurd c_58 (by decide)
                        · exact absurd c_54 (by decide)
                    · have t_72 := b_ne (k := 122) rfl c_49
                      refine lv_iconst (v := 1) hx hb dX8_card_43 (by decide) ?_
                      refine lv_goto (tgt := 48) hx hb dX8_card_44 (by decide) ?_
                      refine lv_istore (lv' := [(6, .int 1), (0, .ref m0), (1, .int p0), (2, .int p1), (3, .int p2), (4, .int p3), (5, .int p4)]) hx hb dX8_card_48 hl (by decide) rfl (fun ls hl => ?_)
                      refine lv_aload_n hx hb dX8_card_50 rfl (lv_at hl 1 rfl) ?_
                      refine lv_iload hx hb dX8_card_51 (lv_at hl 0 rfl) ?_
                      refine lv_iconst (v := 1) hx hb dX8_card_53 (by decide) ?_
                      have hPc := hP.sub (ws' := [(m0, .inr (14, [.ref lc, .ref lp, g2, g3, g4, g5, g6, g7, g8]))]) [0] rfl
                      have hDc := hD.sub (ws' := [(m0, .inr (14, [.ref lc, .ref lp, g2, g3, g4, g5, g6, g7, g8]))]) [0] (by decide) rfl
                      have hKc := hK.sub (tys' := []) [] rfl
                      have hFc := va_free (wc := [(m0, .inr (14, [.ref lc, .ref lp, g2, g3, g4, g5, g6, g7, g8]))]) hD hS hA [0] rfl
                      refine va_calli (va_runV (As := [.int 1, .int 1]) (rest := []) ⟨hx, hb, hml, hown, hts⟩ (c_X8_isThrown_1 l em dC dI m0 1 (.ref lc) (.ref lp) g2 g3 g4 g5 g6 g7 g8 H.size) (cwV 2 hts gX8_card_X8_isThrown rfl rfl rfl (by decide +kernel) ⟨Nat.le_of_ble_eq_true rfl, Nat.le_of_ble_eq_true rfl⟩) ⟨Pw.blind _ _ _ _ _ _ _, va_recv hKc hPc (ci := 14) (q0 := 0) rfl rfl, fun U hU hW => ⟨rfl, Pw.go hPc hKc hDc hamb hS hFc hU hW⟩⟩ rfl rfl hl.1 rfl (lv_room (Nat.le_of_ble_eq_true rfl)) dX8_card_54 ⟨Nat.le_of_ble_eq_true rfl, Nat.le_of_ble_eq_true rfl⟩) hS (fun q _ h => hFc q h) hFc (fun r_73 u t H1 locs1 ht hvm hw hB hz1 hk1 hS => ?_)
                      obtain ⟨hP1, hK1, hD1⟩ := hB
                      rw [ht] at hP1
                      have hK1 := va_K.moved hvm.symm hK1
                      obtain ⟨hP, hD⟩ := va_join (wr := [(lc, .inr (5, [.int 0, .ref (em 0), .int 0])), (lp, .inr (5, [.int 0, .ref (em 0), .int 0]))]) (w1 := [(m0, .inr (14, [.ref lc, .ref lp, g2, g3, g4, g5, g6, g7, .int 1]))]) hP hD [0] [1, 2] rfl rfl (by decide) (by decide) hk1 hFc hP1 hD1
                      have hK := (hK.sub (tys' := []) [] rfl).app hK1
                      generalize H1 = H at hP hS ⊢
                      have hP : va_P (dC, dI) vwCl [(lc, .inr (5, [.int 0, .ref (em 0), .int 0])), (lp, .inr (5, [.int 0, .ref (em 0), .int 0])), (m0, .inr (14, [.ref lc, .ref lp, g2, g3, g4, g5, g6, g7, .int 1]))] H := hP
                      have hD : va_D A [(lc, .inr (5, [.int 0, .ref (em 0), .int 0])), (lp, .inr (5, [.int 0, .ref (em 0), .int 0])), (m0, .inr (14, [.ref lc, .ref lp, g2, g3, g4, g5, g6, g7, .int 1]))] := hD
                      have hK : va_K (dC, dI) vwCl [] s := hK
                      refine W.widen (k := 0) (n := 0) (Nat.le_of_ble_eq_true rfl) (Nat.le_of_ble_eq_true rfl) ?_
                      have hw : r_73 = 1 := hw
                      rw [hw]
                      refine lv_if_ne (tgt := 108) hx hb dX8_card_57 (by decide) (fun c_74 => ?_) (fun c_74 => ?_)
                      · refine lv_iconst (v := 0) hx hb dX8_card_108 (by decide) ?_
                        refine W.widen (k := 3) (n := 19) (Nat.le_of_ble_eq_true rfl) (Nat.le_of_ble_eq_true rfl) ?_
                        have hP9 := hP.sub (ws' := [(m0, .inr (14, [.ref lc, .ref lp, g2, g3, g4, g5, g6, g7, .int 1]))]) [2] rfl
                        have hD9 := hD.sub (ws' := [(m0, .inr (14, [.ref lc, .ref lp, g2, g3, g4, g5, g6, g7, .int 1]))]) [2] (by decide) rfl
                        have hK9 := hK.sub (tys' := []) [] rfl
                        exact W.iret (v := 0) hx hb hr (fun t ht hW => ⟨⟨0, (), rfl, ⟨fun h9 => (by first | rfl | (exfalso; omega)), fun h9 => (by first | rfl | (exfalso; omega))⟩, ⟨(1), ⟨by rw [ht]; exact hP9, va_K.moved hW.alike hK9, hD9⟩, (by first | rfl | assumption | omega | exact fun _ => rfl | exact fun h9 => absurd (by omega) h9 | exact fun h9 => absurd h9 (by omega)), (by first | rfl | assumption | omega | exact fun _ => rfl | exact fun h9 => absurd (by omega) h9 | exact fun h9 => absurd h9 (by omega))⟩⟩, hS.F ht⟩) hS.2.2 dX8_card_109
                      · exact absurd c_74 (by decide)
