set_option maxHeartbeats 4000000 in
set_option maxRecDepth 100000 in
theorem c_L_setPack (l : Launch) (hlt : l.stackTraces = false) (em : Nat → Nat) (dC : Nat → ClassId) (dI : Nat → Nat → Nat) (h0 : Nat) (p0 : Int32) (p1 : Int32) (g0 : Value) (g2 : Value) (g3 : Value) (g4 : Value) (g5 : Value) (g6 : Value) (g7 : Value) (g8 : Value) (g9 : Value) (g10 : Value) (g11 : Value) (g12 : Value) (ou : Nat) (cOut : ClassId) (fO : Nat → Int64) (sz : Nat) : Met l yL_setPack wsL_setPack ({ frames := 8, cells := 1, slots := 6, locals := 126 }) (va_Pc [.ref h0, .int p0, .int p1, .ref ou] (Pw em dC dI sz [(h0, .inr (11, [g0, .int 0, g2, g3, g4, g5, g6, g7, g8, g9, g10, g11, g12])), (ou, .inl (cOut, 1, .inr (.inl fO)))] [(cOut, .long)])) (va_Qi (fun (r : Int32) (_ : Unit) => r = 1) (fun _ t => Qw dC dI (va_A [(h0, .inr (11, [g0, .int 0, g2, g3, g4, g5, g6, g7, g8, g9, g10, g11, g12])), (ou, .inl (cOut, 1, .inr (.inl fO)))] sz) [(ou, .inl (cOut, 1, .inr (.inl fO)))] [(cOut, .long)] t) (va_A [(h0, .inr (11, [g0, .int 0, g2, g3, g4, g5, g6, g7, g8, g9, g10, g11, g12])), (ou, .inl (cOut, 1, .inr (.inl fO)))] sz)) 1 6 (va_A [(h0, .inr (11, [g0, .int 0, g2, g3, g4, g5, g6, g7, g8, g9, g10, g11, g12])), (ou, .inl (cOut, 1, .inr (.inl fO)))] sz) := by
  refine va_MetW (cc := cL_setPack) (maxL := 5) (ret := (some .int)) (hh := [(0, 10, 13, 23), (0, 10, 17, 13)]) (by decide) rfl ?_
  intro p e s m args below meth c s₁ B hml hv
  obtain ⟨rfl, hsz, hP, hK, hD0, hamb⟩ := hv
  have hx := B.exec
  have hb := B.bytes
  have hr := B.returns
  have hts := atoms_spec (ws := wsL_setPack) B.pre
  have hown : s.vm.findClass RL = some m.cls := findClass_of_methodNamed B.named
  have hlocks := B.notSynchronized
  have htbl : c.exceptionTable.toList = tableOf [(0, 10, 13, 23), (0, 10, 17, 13)] := vx_table (x := yL_setPack) B (hts (.codeWith yL_setPack cL_setPack 5 (some .int) [(0, 10, 13, 23), (0, 10, 17, 13)]) List.mem_cons_self)
  subst hsz
  have hD := hD0.self (sz := s.heap.size)
  generalize hAe : va_A [(h0, .inr (11, [g0, .int 0, g2, g3, g4, g5, g6, g7, g8, g9, g10, g11, g12])), (ou, .inl (cOut, 1, .inr (.inl fO)))] s.heap.size = A at hD hamb ⊢
  have hA : ∀ q : Nat, s.heap.size ≤ q → A q := fun q h => by rw [← hAe]; exact Or.inr h
  have hS : va_S A s.heap s.heap [] := va_S.rf
  have hP : va_P (dC, dI) vwCl [(h0, .inr (11, [g0, .int 0, g2, g3, g4, g5, g6, g7, g8, g9, g10, g11, g12])), (ou, .inl (cOut, 1, .inr (.inl fO)))] s.heap := hP
  have hl := lv_entry ([.ref h0, .int p0, .int p1, .ref ou]) (n := 5) (Nat.le_of_ble_eq_true rfl)
  rw [lg_entry_eq]
  generalize (lg_sl ([.ref h0, .int p0, .int p1, .ref ou]) ++ List.replicate (5 - (lg_sl ([.ref h0, .int p0, .int p1, .ref ou])).length) Slot.unset).toArray = ls at hl ⊢
  have hl : lv_has ls 5 [(0, .ref h0), (1, .int p0), (2, .int p1), (3, .ref ou)] := hl
  refine lv_aload_n hx hb dL_setPack_0 rfl (lv_at hl 3 rfl) ?_
  refine lv_iconst (v := 0) hx hb dL_setPack_1 (by decide) ?_
  refine lv_aload_n hx hb dL_setPack_2 rfl (lv_at hl 0 rfl) ?_
  refine lv_iload_n hx hb dL_setPack_3 rfl (lv_at hl 1 rfl) ?_
  refine lv_iload_n hx hb dL_setPack_4 rfl (lv_at hl 2 rfl) ?_
  have hPc := hP.sub (ws' := [(h0, .inr (11, [g0, .int 0, g2, g3, g4, g5, g6, g7, g8, g9, g10, g11, g12]))]) [0] rfl
  have hDc := hD.sub (ws' := [(h0, .inr (11, [g0, .int 0, g2, g3, g4, g5, g6, g7, g8, g9, g10, g11, g12]))]) [0] (by decide) rfl
  have hKc := hK.sub (tys' := []) [] rfl
  have hFc := va_free (wc := [(h0, .inr (11, [g0, .int 0, g2, g3, g4, g5, g6, g7, g8, g9, g10, g11, g12]))]) hD hS hA [0] rfl
  refine vx_calli (vx_runV (As := [.int p0, .int p1]) (rest := [.int 0, .ref ou]) ⟨hx, hb, hml, hown, hts⟩ (c_X5_setPack l hlt em dC dI h0 p0 p1 g0 g2 g3 g4 g5 g6 g7 g8 g9 g10 g11 g12 s.heap.size) (cwV 2 hts gL_setPack_X5_setPack rfl rfl rfl (by decide +kernel) ⟨Nat.le_of_ble_eq_true rfl, Nat.le_of_ble_eq_true rfl⟩) ⟨Pw.blind _ _ _ _ _ _ _, va_recv hKc hPc (ci := 11) (q0 := 0) rfl rfl, fun U hU hW => ⟨rfl, Pw.go hPc hKc hDc hamb hS hFc hU hW⟩⟩ rfl rfl hl.1 rfl (lv_room (Nat.le_of_ble_eq_true rfl)) dL_setPack_5 ⟨Nat.le_of_ble_eq_true rfl, Nat.le_of_ble_eq_true rfl⟩) hS (fun q _ h => hFc q h) hFc (fun q _ h => hFc q h) (fun E ce q9 ux tx H1 locs1 htx hvm hpx hBX hz1 hk1 hS hce hcv hcl => ?_) (fun r_1 u t H1 locs1 ht hvm hw hB hz1 hk1 hS => ?_)
  · obtain ⟨rfl, t_2⟩ := hBX
    obtain ⟨hP, hD⟩ := va_rest (wr := [(ou, .inl (cOut, 1, .inr (.inl fO)))]) hP hD [0] [1] rfl rfl (by decide) (by decide) hk1 hFc
    generalize H1 = H at hP hS hce ⊢
    refine vx_widen (k := 1) (n := 6) (Nat.le_of_ble_eq_true rfl) (Nat.le_of_ble_eq_true rfl) ?_
    refine vx_catch (name := "java/lang/IndexOutOfBoundsException") hown [] ⟨0, 10, 13, 23⟩ [⟨0, 10, 17, 13⟩] (by rw [htbl]; rfl) (fun z hz => nomatch hz) (by decide) (by decide) (hts (.classLink RL 23 "java/lang/IndexOutOfBoundsException") (by decide +kernel)) (hamb.use (w := .castable "java/lang/IndexOutOfBoundsException" "java/lang/IndexOutOfBoundsException") (by decide +kernel)) hce hcv hcl ?_
    refine lv_astore (lv' := [(4, .ref q9), (0, .ref h0), (1, .int p0), (2, .int p1), (3, .ref ou)]) hx hb dL_setPack_13 hl (by decide) rfl (fun ls hl => ?_)
    refine lv_iconst (v := 1) hx hb dL_setPack_15 (by decide) ?_
    refine W.widen (k := 1) (n := 6) (Nat.le_of_ble_eq_true rfl) (Nat.le_of_ble_eq_true rfl) ?_
    have hP9 := hP.sub (ws' := [(ou, .inl (cOut, 1, .inr (.inl fO)))]) [0] rfl
    have hD9 := hD.sub (ws' := [(ou, .inl (cOut, 1, .inr (.inl fO)))]) [0] (by decide) rfl
    have hK9 := hK.sub (tys' := [(cOut, .long)]) [0] rfl
    exact W.iret (v := 1) hx hb hr (fun t ht hW => ⟨⟨1, (), rfl, rfl, ⟨by rw [ht]; exact hP9, va_K.moved hW.alike hK9, hD9⟩⟩, hS.F ht⟩) hS.2.2 dL_setPack_16
  · exact hw.elim

set_option maxHeartbeats 4000000 in
set_option maxRecDepth 100000 in
theorem c_L_at (l : Launch) (hlt : l.stackTraces = false) (em : Nat → Nat) (dC : Nat → ClassId) (dI : Nat → Nat → Nat) (h0 : Nat) (p0 : Int32) (g0 : Value) (g2 : Value) (g3 : Value) (g4 : Value) (g5 : Value) (g6 : Value) (g7 : Value) (g8 : Value) (g9 : Value) (g10 : Value) (g11 : Value) (g12 : Value) (ou : Nat) (cOut : ClassId) (fO : Nat → Int64) (sz : Nat) : Met l yL_at wsL_at ({ frames := 8, cells := 1, slots := 6, locals := 124 }) (va_Pc [.ref h0, .int p0, .ref ou] (Pw em dC dI sz [(h0, .inr (11, [g0, .int 0, g2, g3, g4, g5, g6, g7, g8, g9, g10, g11, g12])), (ou, .inl (cOut, 1, .inr (.inl fO)))] [(cOut, .long)])) (va_Qi (fun (r : Int32) (_ : Unit) => r = 1) (fun _ t => Qw dC dI (va_A [(h0, .inr (11, [g0, .int 0, g2, g3, g4, g5, g6, g7, g8, g9, g10, g11, g12])), (ou, .inl (cOut, 1, .inr (.inl fO)))] sz) [(ou, .inl (cOut, 1, .inr (.inl fO)))] [(cOut, .long)] t) (va_A [(h0, .inr (11, [g0, .int 0, g2, g3, g4, g5, g6, g7, g8, g9, g10, g11, g12])), (ou, .inl (cOut, 1, .inr (.inl fO)))] sz)) 1 6 (va_A [(h0, .inr (11, [g0, .int 0, g2, g3, g4, g5, g6, g7, g8, g9, g10, g11, g12])), (ou, .inl (cOut, 1, .inr (.inl fO)))] sz) := by
  refine va_MetW (cc := cL_at) (maxL := 4) (ret := (some .int)) (hh := [(0, 9, 12, 23)]) (by decide) rfl ?_
  intro p e s m args below meth c s₁ B hml hv
  obtain ⟨rfl, hsz, hP, hK, hD0, hamb⟩ := hv
  have hx := B.exec
  have hb := B.bytes
  have hr := B.returns
  have hts := atoms_spec (ws := wsL_at) B.pre
  have hown : s.vm.findClass RL = some m.cls := findClass_of_methodNamed B.named
  have hlocks := B.notSynchronized
  have htbl : c.exceptionTable.toList = tableOf [(0, 9, 12, 23)] := vx_table (x := yL_at) B (hts (.codeWith yL_at cL_at 4 (some .int) [(0, 9, 12, 23)]) List.mem_cons_self)
  subst hsz
  have hD := hD0.self (sz := s.heap.size)
  generalize hAe : va_A [(h0, .inr (11, [g0, .int 0, g2, g3, g4, g5, g6, g7, g8, g9, g10, g11, g12])), (ou, .inl (cOut, 1, .inr (.inl fO)))] s.heap.size = A at hD hamb ⊢
  have hA : ∀ q : Nat, s.heap.size ≤ q → A q := fun q h => by rw [← hAe]; exact Or.inr h
  have hS : va_S A s.heap s.heap [] := va_S.rf
  have hP : va_P (dC, dI) vwCl [(h0, .inr (11, [g0, .int 0, g2, g3, g4, g5, g6, g7, g8, g9, g10, g11, g12])), (ou, .inl (cOut, 1, .inr (.inl fO)))] s.heap := hP
  have hl := lv_entry ([.ref h0, .int p0, .ref ou]) (n := 4) (Nat.le_of_ble_eq_true rfl)
  rw [lg_entry_eq]
  generalize (lg_sl ([.ref h0, .int p0, .ref ou]) ++ List.replicate (4 - (lg_sl ([.ref h0, .int p0, .ref ou])).length) Slot.unset).toArray = ls at hl ⊢
  have hl : lv_has ls 4 [(0, .ref h0), (1, .int p0), (2, .ref ou)] := hl
  refine lv_aload_n hx hb dL_at_0 rfl (lv_at hl 2 rfl) ?_
  refine lv_iconst (v := 0) hx hb dL_at_1 (by decide) ?_
  refine lv_aload_n hx hb dL_at_2 rfl (lv_at hl 0 rfl) ?_
  refine lv_iload_n hx hb dL_at_3 rfl (lv_at hl 1 rfl) ?_
  have hPc := hP.sub (ws' := [(h0, .inr (11, [g0, .int 0, g2, g3, g4, g5, g6, g7, g8, g9, g10, g11, g12]))]) [0] rfl
  have hDc := hD.sub (ws' := [(h0, .inr (11, [g0, .int 0, g2, g3, g4, g5, g6, g7, g8, g9, g10, g11, g12]))]) [0] (by decide) rfl
  have hKc := hK.sub (tys' := []) [] rfl
  have hFc := va_free (wc := [(h0, .inr (11, [g0, .int 0, g2, g3, g4, g5, g6, g7, g8, g9, g10, g11, g12]))]) hD hS hA [0] rfl
  refine vx_calli (vx_runV (As := [.int p0]) (rest := [.int 0, .ref ou]) ⟨hx, hb, hml, hown, hts⟩ (c_X5_at l hlt em dC dI h0 p0 g0 g2 g3 g4 g5 g6 g7 g8 g9 g10 g11 g12 s.heap.size) (cwV 1 hts gL_at_X5_at rfl rfl rfl (by decide +kernel) ⟨Nat.le_of_ble_eq_true rfl, Nat.le_of_ble_eq_true rfl⟩) ⟨Pw.blind _ _ _ _ _ _ _, va_recv hKc hPc (ci := 11) (q0 := 0) rfl rfl, fun U hU hW => ⟨rfl, Pw.go hPc hKc hDc hamb hS hFc hU hW⟩⟩ rfl rfl hl.1 rfl (lv_room (Nat.le_of_ble_eq_true rfl)) dL_at_4 ⟨Nat.le_of_ble_eq_true rfl, Nat.le_of_ble_eq_true rfl⟩) hS (fun q _ h => hFc q h) hFc (fun q _ h => hFc q h) (fun E ce q9 ux tx H1 locs1 htx hvm hpx hBX hz1 hk1 hS hce hcv hcl => ?_) (fun r_1 u t H1 locs1 ht hvm hw hB hz1 hk1 hS => ?_)
  · obtain ⟨rfl, t_2⟩ := hBX
    obtain ⟨hP, hD⟩ := va_rest (wr := [(ou, .inl (cOut, 1, .inr (.inl fO)))]) hP hD [0] [1] rfl rfl (by decide) (by decide) hk1 hFc
    generalize H1 = H at hP hS hce ⊢
    refine vx_widen (k := 1) (n := 6) (Nat.le_of_ble_eq_true rfl) (Nat.le_of_ble_eq_true rfl) ?_
    refine vx_catch (name := "java/lang/IndexOutOfBoundsException") hown [] ⟨0, 9, 12, 23⟩ [] (by rw [htbl]; rfl) (fun z hz => nomatch hz) (by decide) (by decide) (hts (.classLink RL 23 "java/lang/IndexOutOfBoundsException") (by decide +kernel)) (hamb.use (w := .castable "java/lang/IndexOutOfBoundsException" "java/lang/IndexOutOfBoundsException") (by decide +kernel)) hce hcv hcl ?_
    refine lv_astore_n (lv' := [(3, .ref q9), (0, .ref h0), (1, .int p0), (2, .ref ou)]) hx hb dL_at_12 rfl hl (by decide) rfl (fun ls hl => ?_)
    refine lv_iconst (v := 1) hx hb dL_at_13 (by decide) ?_
    refine W.widen (k := 1) (n := 6) (Nat.le_of_ble_eq_true rfl) (Nat.le_of_ble_eq_true rfl) ?_
    have hP9 := hP.sub (ws' := [(ou, .inl (cOut, 1, .inr (.inl fO)))]) [0] rfl
    have hD9 := hD.sub (ws' := [(ou, .inl (cOut, 1, .inr (.inl fO)))]) [0] (by decide) rfl
    have hK9 := hK.sub (tys' := [(cOut, .long)]) [0] rfl
    exact W.iret (v := 1) hx hb hr (fun t ht hW => ⟨⟨1, (), rfl, rfl, ⟨by rw [ht]; exact hP9, va_K.moved hW.alike hK9, hD9⟩⟩, hS.F ht⟩) hS.2.2 dL_at_14
  · exact hw.elim

set_option maxHeartbeats 4000000 in
set_option maxRecDepth 100000 in
theorem c_L_twist (l : Launch) (hlt : l.stackTraces = false) (em : Nat → Nat) (dC : Nat → ClassId) (dI : Nat → Nat → Nat) (h0 : Nat) (p0 : Int32) (g0 : Value) (g2 : Value) (g3 : Value) (g4 : Value) (g5 : Value) (g6 : Value) (g7 : Value) (g8 : Value) (g9 : Value) (g10 : Value) (g11 : Value) (g12 : Value) (ou : Nat) (cOut : ClassId) (fO : Nat → Int64) (sz : Nat) : Met l yL_twist wsL_twist ({ frames := 8, cells := 1, slots := 6, locals := 124 }) (va_Pc [.ref h0, .int p0, .ref ou] (Pw em dC dI sz [(h0, .inr (11, [g0, .int 0, g2, g3, g4, g5, g6, g7, g8, g9, g10, g11, g12])), (ou, .inl (cOut, 1, .inr (.inl fO)))] [(cOut, .long)])) (va_Qi (fun (r : Int32) (_ : Unit) => r = 1) (fun _ t => Qw dC dI (va_A [(h0, .inr (11, [g0, .int 0, g2, g3, g4, g5, g6, g7, g8, g9, g10, g11, g12])), (ou, .inl (cOut, 1, .inr (.inl fO)))] sz) [(ou, .inl (cOut, 1, .inr (.inl fO)))] [(cOut, .long)] t) (va_A [(h0, .inr (11, [g0, .int 0, g2, g3, g4, g5, g6, g7, g8, g9, g10, g11, g12])), (ou, .inl (cOut, 1, .inr (.inl fO)))] sz)) 1 6 (va_A [(h0, .inr (11, [g0, .int 0, g2, g3, g4, g5, g6, g7, g8, g9, g10, g11, g12])), (ou, .inl (cOut, 1, .inr (.inl fO)))] sz) := by
  refine va_MetW (cc := cL_twist) (maxL := 4) (ret := (some .int)) (hh := [(0, 9, 12, 23)]) (by decide) rfl ?_
  intro p e s m args below meth c s₁ B hml hv
  obtain ⟨rfl, hsz, hP, hK, hD0, hamb⟩ := hv
  have hx := B.exec
  have hb := B.bytes
  have hr := B.returns
  have hts := atoms_spec (ws := wsL_twist) B.pre
  have hown : s.vm.findClass RL = some m.cls := findClass_of_methodNamed B.named
  have hlocks := B.notSynchronized
  have htbl : c.exceptionTable.toList = tableOf [(0, 9, 12, 23)] := vx_table (x := yL_twist) B (hts (.codeWith yL_twist cL_twist 4 (some .int) [(0, 9, 12, 23)]) List.mem_cons_self)
  subst hsz
  have hD := hD0.self (sz := s.heap.size)
  generalize hAe : va_A [(h0, .inr (11, [g0, .int 0, g2, g3, g4, g5, g6, g7, g8, g9, g10, g11, g12])), (ou, .inl (cOut, 1, .inr (.inl fO)))] s.heap.size = A at hD hamb ⊢
  have hA : ∀ q : Nat, s.heap.size ≤ q → A q := fun q h => by rw [← hAe]; exact Or.inr h
  have hS : va_S A s.heap s.heap [] := va_S.rf
  have hP : va_P (dC, dI) vwCl [(h0, .inr (11, [g0, .int 0, g2, g3, g4, g5, g6, g7, g8, g9, g10, g11, g12])), (ou, .inl (cOut, 1, .inr (.inl fO)))] s.heap := hP
  have hl := lv_entry ([.ref h0, .int p0, .ref ou]) (n := 4) (Nat.le_of_ble_eq_true rfl)
  rw [lg_entry_eq]
  generalize (lg_sl ([.ref h0, .int p0, .ref ou]) ++ List.replicate (4 - (lg_sl ([.ref h0, .int p0, .ref ou])).length) Slot.unset).toArray = ls at hl ⊢
  have hl : lv_has ls 4 [(0, .ref h0), (1, .int p0), (2, .ref ou)] := hl
  refine lv_aload_n hx hb dL_twist_0 rfl (lv_at hl 2 rfl) ?_
  refine lv_iconst (v := 0) hx hb dL_twist_1 (by decide) ?_
  refine lv_aload_n hx hb dL_twist_2 rfl (lv_at hl 0 rfl) ?_
  refine lv_iload_n hx hb dL_twist_3 rfl (lv_at hl 1 rfl) ?_
  have hPc := hP.sub (ws' := [(h0, .inr (11, [g0, .int 0, g2, g3, g4, g5, g6, g7, g8, g9, g10, g11, g12]))]) [0] rfl
  have hDc := hD.sub (ws' := [(h0, .inr (11, [g0, .int 0, g2, g3, g4, g5, g6, g7, g8, g9, g10, g11, g12]))]) [0] (by decide) rfl
  have hKc := hK.sub (tys' := []) [] rfl
  have hFc := va_free (wc := [(h0, .inr (11, [g0, .int 0, g2, g3, g4, g5, g6, g7, g8, g9, g10, g11, g12]))]) hD hS hA [0] rfl
  refine vx_calli (vx_runV (As := [.int p0]) (rest := [.int 0, .ref ou]) ⟨hx, hb, hml, hown, hts⟩ (c_X5_twist l hlt em dC dI h0 p0 g0 g2 g3 g4 g5 g6 g7 g8 g9 g10 g11 g12 s.heap.size) (cwV 1 hts gL_twist_X5_twist rfl rfl rfl (by decide +kernel) ⟨Nat.le_of_ble_eq_true rfl, Nat.le_of_ble_eq_true rfl⟩) ⟨Pw.blind _ _ _ _ _ _ _, va_recv hKc hPc (ci := 11) (q0 := 0) rfl rfl, fun U hU hW => ⟨rfl, Pw.go hPc hKc hDc hamb hS hFc hU hW⟩⟩ rfl rfl hl.1 rfl (lv_room (Nat.le_of_ble_eq_true rfl)) dL_twist_4 ⟨Nat.le_of_ble_eq_true rfl, Nat.le_of_ble_eq_true rfl⟩) hS (fun q _ h => hFc q h) hFc (fun q _ h => hFc q h) (fun E ce q9 ux tx H1 locs1 htx hvm hpx hBX hz1 hk1 hS hce hcv hcl => ?_) (fun r_1 u t H1 locs1 ht hvm hw hB hz1 hk1 hS => ?_)
  · obtain ⟨rfl, t_2⟩ := hBX
    obtain ⟨hP, hD⟩ := va_rest (wr := [(ou, .inl (cOut, 1, .inr (.inl fO)))]) hP hD [0] [1] rfl rfl (by decide) (by decide) hk1 hFc
    generalize H1 = H at hP hS hce ⊢
    refine vx_widen (k := 1) (n := 6) (Nat.le_of_ble_eq_true rfl) (Nat.le_of_ble_eq_true rfl) ?_
    refine vx_catch (name := "java/lang/IndexOutOfBoundsException") hown [] ⟨0, 9, 12, 23⟩ [] (by rw [htbl]; rfl) (fun z hz => nomatch hz) (by decide) (by decide) (hts (.classLink RL 23 "java/lang/IndexOutOfBoundsException") (by decide +kernel)) (hamb.use (w := .castable "java/lang/IndexOutOfBoundsException" "java/lang/IndexOutOfBoundsException") (by decide +kernel)) hce hcv hcl ?_
    refine lv_astore_n (lv' := [(3, .ref q9), (0, .ref h0), (1, .int p0), (2, .ref ou)]) hx hb dL_twist_12 rfl hl (by decide) rfl (fun ls hl => ?_)
    refine lv_iconst (v := 1) hx hb dL_twist_13 (by decide) ?_
    refine W.widen (k := 1) (n := 6) (Nat.le_of_ble_eq_true rfl) (Nat.le_of_ble_eq_true rfl) ?_
    have hP9 := hP.sub (ws' := [(ou, .inl (cOut, 1, .inr (.inl fO)))]) [0] rfl
    have hD9 := hD.sub (ws' := [(ou, .inl (cOut, 1, .inr (.inl fO)))]) [0] (by decide) rfl
    have hK9 := hK.sub (tys' := [(cOut, .long)]) [0] rfl
    exact W.iret (v := 1) hx hb hr (fun t ht hW => ⟨⟨1, (), rfl, rfl, ⟨by rw [ht]; exact hP9, va_K.moved hW.alike hK9, hD9⟩⟩, hS.F ht⟩) hS.2.2 dL_twist_14
  · exact hw.elim

set_option maxHeartbeats 4000000 in
set_option maxRecDepth 100000 in
theorem c_L_slip (l : Launch) (hlt : l.stackTraces = false) (em : Nat → Nat) (dC : Nat → ClassId) (dI : Nat → Nat → Nat) (h0 : Nat) (p0 : Int32) (p1 : Int32) (g0 : Value) (g2 : Value) (g3 : Value) (g4 : Value) (g5 : Value) (g6 : Value) (g7 : Value) (g8 : Value) (g9 : Value) (g10 : Value) (g11 : Value) (g12 : Value) (ou : Nat) (cOut : ClassId) (fO : Nat → Int64) (sz : Nat) : Met l yL_slip wsL_slip ({ frames := 8, cells := 1, slots := 6, locals := 125 }) (va_Pc [.ref h0, .int p0, .int p1, .ref ou] (Pw em dC dI sz [(h0, .inr (11, [g0, .int 0, g2, g3, g4, g5, g6, g7, g8, g9, g10, g11, g12])), (ou, .inl (cOut, 1, .inr (.inl fO)))] [(cOut, .long)])) (va_Qi (fun (r : Int32) (_ : Unit) => r = 1) (fun _ t => Qw dC dI (va_A [(h0, .inr (11, [g0, .int 0, g2, g3, g4, g5, g6, g7, g8, g9, g10, g11, g12])), (ou, .inl (cOut, 1, .inr (.inl fO)))] sz) [(ou, .inl (cOut, 1, .inr (.inl fO)))] [(cOut, .long)] t) (va_A [(h0, .inr (11, [g0, .int 0, g2, g3, g4, g5, g6, g7, g8, g9, g10, g11, g12])), (ou, .inl (cOut, 1, .inr (.inl fO)))] sz)) 1 6 (va_A [(h0, .inr (11, [g0, .int 0, g2, g3, g4, g5, g6, g7, g8, g9, g10, g11, g12])), (ou, .inl (cOut, 1, .inr (.inl fO)))] sz) := by
  refine va_MetW (cc := cL_slip) (maxL := 5) (ret := (some .int)) (hh := [(0, 10, 13, 23), (0, 10, 17, 13)]) (by decide) rfl ?_
  intro p e s m args below meth c s₁ B hml hv
  obtain ⟨rfl, hsz, hP, hK, hD0, hamb⟩ := hv
  have hx := B.exec
  have hb := B.bytes
  have hr := B.returns
  have hts := atoms_spec (ws := wsL_slip) B.pre
  have hown : s.vm.findClass RL = some m.cls := findClass_of_methodNamed B.named
  have hlocks := B.notSynchronized
  have htbl : c.exceptionTable.toList = tableOf [(0, 10, 13, 23), (0, 10, 17, 13)] := vx_table (x := yL_slip) B (hts (.codeWith yL_slip cL_slip 5 (some .int) [(0, 10, 13, 23), (0, 10, 17, 13)]) List.mem_cons_self)
  subst hsz
  have hD := hD0.self (sz := s.heap.size)
  generalize hAe : va_A [(h0, .inr (11, [g0, .int 0, g2, g3, g4, g5, g6, g7, g8, g9, g10, g11, g12])), (ou, .inl (cOut, 1, .inr (.inl fO)))] s.heap.size = A at hD hamb ⊢
  have hA : ∀ q : Nat, s.heap.size ≤ q → A q := fun q h => by rw [← hAe]; exact Or.inr h
  have hS : va_S A s.heap s.heap [] := va_S.rf
  have hP : va_P (dC, dI) vwCl [(h0, .inr (11, [g0, .int 0, g2, g3, g4, g5, g6, g7, g8, g9, g10, g11, g12])), (ou, .inl (cOut, 1, .inr (.inl fO)))] s.heap := hP
  have hl := lv_entry ([.ref h0, .int p0, .int p1, .ref ou]) (n := 5) (Nat.le_of_ble_eq_true rfl)
  rw [lg_entry_eq]
  generalize (lg_sl ([.ref h0, .int p0, .int p1, .ref ou]) ++ List.replicate (5 - (lg_sl ([.ref h0, .int p0, .int p1, .ref ou])).length) Slot.unset).toArray = ls at hl ⊢
  have hl : lv_has ls 5 [(0, .ref h0), (1, .int p0), (2, .int p1), (3, .ref ou)] := hl
  refine lv_aload_n hx hb dL_slip_0 rfl (lv_at hl 3 rfl) ?_
  refine lv_iconst (v := 0) hx hb dL_slip_1 (by decide) ?_
  refine lv_aload_n hx hb dL_slip_2 rfl (lv_at hl 0 rfl) ?_
  refine lv_iload_n hx hb dL_slip_3 rfl (lv_at hl 1 rfl) ?_
  refine lv_iload_n hx hb dL_slip_4 rfl (lv_at hl 2 rfl) ?_
  have hPc := hP.sub (ws' := [(h0, .inr (11, [g0, .int 0, g2, g3, g4, g5, g6, g7, g8, g9, g10, g11, g12]))]) [0] rfl
  have hDc := hD.sub (ws' := [(h0, .inr (11, [g0, .int 0, g2, g3, g4, g5, g6, g7, g8, g9, g10, g11, g12]))]) [0] (by decide) rfl
  have hKc := hK.sub (tys' := []) [] rfl
  have hFc := va_free (wc := [(h0, .inr (11, [g0, .int 0, g2, g3, g4, g5, g6, g7, g8, g9, g10, g11, g12]))]) hD hS hA [0] rfl
  refine vx_calli (vx_runV (As := [.int p0, .int p1]) (rest := [.int 0, .ref ou]) ⟨hx, hb, hml, hown, hts⟩ (c_X5_slip l hlt em dC dI h0 p0 p1 g0 g2 g3 g4 g5 g6 g7 g8 g9 g10 g11 g12 s.heap.size) (cwV 2 hts gL_slip_X5_slip rfl rfl rfl (by decide +kernel) ⟨Nat.le_of_ble_eq_true rfl, Nat.le_of_ble_eq_true rfl⟩) ⟨Pw.blind _ _ _ _ _ _ _, va_recv hKc hPc (ci := 11) (q0 := 0) rfl rfl, fun U hU hW => ⟨rfl, Pw.go hPc hKc hDc hamb hS hFc hU hW⟩⟩ rfl rfl hl.1 rfl (lv_room (Nat.le_of_ble_eq_true rfl)) dL_slip_5 ⟨Nat.le_of_ble_eq_true rfl, Nat.le_of_ble_eq_true rfl⟩) hS (fun q _ h => hFc q h) hFc (fun q _ h => hFc q h) (fun E ce q9 ux tx H1 locs1 htx hvm hpx hBX hz1 hk1 hS hce hcv hcl => ?_) (fun r_1 u t H1 locs1 ht hvm hw hB hz1 hk1 hS => ?_)
  · obtain ⟨rfl, t_2⟩ := hBX
    obtain ⟨hP, hD⟩ := va_rest (wr := [(ou, .inl (cOut, 1, .inr (.inl fO)))]) hP hD [0] [1] rfl rfl (by decide) (by decide) hk1 hFc
    generalize H1 = H at hP hS hce ⊢
    refine vx_widen (k := 1) (n := 6) (Nat.le_of_ble_eq_true rfl) (Nat.le_of_ble_eq_true rfl) ?_
    refine vx_catch (name := "java/lang/IndexOutOfBoundsException") hown [] ⟨0, 10, 13, 23⟩ [⟨0, 10, 17, 13⟩] (by rw [htbl]; rfl) (fun z hz => nomatch hz) (by decide) (by decide) (hts (.classLink RL 23 "java/lang/IndexOutOfBoundsException") (by decide +kernel)) (hamb.use (w := .castable "java/lang/IndexOutOfBoundsException" "java/lang/IndexOutOfBoundsException") (by decide +kernel)) hce hcv hcl ?_
    refine lv_astore (lv' := [(4, .ref q9), (0, .ref h0), (1, .int p0), (2, .int p1), (3, .ref ou)]) hx hb dL_slip_13 hl (by decide) rfl (fun ls hl => ?_)
    refine lv_iconst (v := 1) hx hb dL_slip_15 (by decide) ?_
    refine W.widen (k := 1) (n := 6) (Nat.le_of_ble_eq_true rfl) (Nat.le_of_ble_eq_true rfl) ?_
    have hP9 := hP.sub (ws' := [(ou, .inl (cOut, 1, .inr (.inl fO)))]) [0] rfl
    have hD9 := hD.sub (ws' := [(ou, .inl (cOut, 1, .inr (.inl fO)))]) [0] (by decide) rfl
    have hK9 := hK.sub (tys' := [(cOut, .long)]) [0] rfl
    exact W.iret (v := 1) hx hb hr (fun t ht hW => ⟨⟨1, (), rfl, rfl, ⟨by rw [ht]; exact hP9, va_K.moved hW.alike hK9, hD9⟩⟩, hS.F ht⟩) hS.2.2 dL_slip_16
  · exact hw.elim

set_option maxHeartbeats 4000000 in
set_option maxRecDepth 100000 in
theorem c_L_pick (l : Launch) (hlt : l.stackTraces = false) (em : Nat → Nat) (dC : Nat → ClassId) (dI : Nat → Nat → Nat) (h0 : Nat) (g0 : Value) (g2 : Value) (g3 : Value) (g4 : Value) (g5 : Value) (g6 : Value) (g7 : Value) (g8 : Value) (g9 : Value) (g10 : Value) (g11 : Value) (g12 : Value) (ou : Nat) (cOut : ClassId) (fO : Nat → Int64) (sz : Nat) : Met l yL_pick wsL_pick ({ frames := 7, cells := 1, slots := 6, locals := 102 }) (va_Pc [.ref h0, .ref ou] (Pw em dC dI sz [(h0, .inr (11, [g0, .int 0, g2, g3, g4, g5, g6, g7, g8, g9, g10, g11, g12])), (ou, .inl (cOut, 1, .inr (.inl fO)))] [(cOut, .long)])) (va_Qi (fun (r : Int32) (_ : Unit) => r = 1) (fun _ t => Qw dC dI (va_A [(h0, .inr (11, [g0, .int 0, g2, g3, g4, g5, g6, g7, g8, g9, g10, g11, g12])), (ou, .inl (cOut, 1, .inr (.inl fO)))] sz) [(ou, .inl (cOut, 1, .inr (.inl fO)))] [(cOut, .long)] t) (va_A [(h0, .inr (11, [g0, .int 0, g2, g3, g4, g5, g6, g7, g8, g9, g10, g11, g12])), (ou, .inl (cOut, 1, .inr (.inl fO)))] sz)) 1 6 (va_A [(h0, .inr (11, [g0, .int 0, g2, g3, g4, g5, g6, g7, g8, g9, g10, g11, g12])), (ou, .inl (cOut, 1, .inr (.inl fO)))] sz) := by
  refine va_MetW (cc := cL_pick) (maxL := 3) (ret := (some .int)) (hh := [(0, 8, 11, 15), (0, 8, 14, 17)]) (by decide) rfl ?_
  intro p e s m args below meth c s₁ B hml hv
  obtain ⟨rfl, hsz, hP, hK, hD0, hamb⟩ := hv
  have hx := B.exec
  have hb := B.bytes
  have hr := B.returns
  have hts := atoms_spec (ws := wsL_pick) B.pre
  have hown : s.vm.findClass RL = some m.cls := findClass_of_methodNamed B.named
  have hlocks := B.notSynchronized
  have htbl : c.exceptionTable.toList = tableOf [(0, 8, 11, 15), (0, 8, 14, 17)] := vx_table (x := yL_pick) B (hts (.codeWith yL_pick cL_pick 3 (some .int) [(0, 8, 11, 15), (0, 8, 14, 17)]) List.mem_cons_self)
  subst hsz
  have hD := hD0.self (sz := s.heap.size)
  generalize hAe : va_A [(h0, .inr (11, [g0, .int 0, g2, g3, g4, g5, g6, g7, g8, g9, g10, g11, g12])), (ou, .inl (cOut, 1, .inr (.inl fO)))] s.heap.size = A at hD hamb ⊢
  have hA : ∀ q : Nat, s.heap.size ≤ q → A q := fun q h => by rw [← hAe]; exact Or.inr h
  have hS : va_S A s.heap s.heap [] := va_S.rf
  have hP : va_P (dC, dI) vwCl [(h0, .inr (11, [g0, .int 0, g2, g3, g4, g5, g6, g7, g8, g9, g10, g11, g12])), (ou, .inl (cOut, 1, .inr (.inl fO)))] s.heap := hP
  have hl := lv_entry ([.ref h0, .ref ou]) (n := 3) (Nat.le_of_ble_eq_true rfl)
  rw [lg_entry_eq]
  generalize (lg_sl ([.ref h0, .ref ou]) ++ List.replicate (3 - (lg_sl ([.ref h0, .ref ou])).length) Slot.unset).toArray = ls at hl ⊢
  have hl : lv_has ls 3 [(0, .ref h0), (1, .ref ou)] := hl
  refine lv_aload_n hx hb dL_pick_0 rfl (lv_at hl 1 rfl) ?_
  refine lv_iconst (v := 0) hx hb dL_pick_1 (by decide) ?_
  refine lv_aload_n hx hb dL_pick_2 rfl (lv_at hl 0 rfl) ?_
  have hPc := hP.sub (ws' := [(h0, .inr (11, [g0, .int 0, g2, g3, g4, g5, g6, g7, g8, g9, g10, g11, g12]))]) [0] rfl
  have hDc := hD.sub (ws' := [(h0, .inr (11, [g0, .int 0, g2, g3, g4, g5, g6, g7, g8, g9, g10, g11, g12]))]) [0] (by decide) rfl
  have hKc := hK.sub (tys' := []) [] rfl
  have hFc := va_free (wc := [(h0, .inr (11, [g0, .int 0, g2, g3, g4, g5, g6, g7, g8, g9, g10, g11, g12]))]) hD hS hA [0] rfl
  refine vx_calli (vx_runV (As := []) (rest := [.int 0, .ref ou]) ⟨hx, hb, hml, hown, hts⟩ (c_X5_pick l hlt em dC dI h0 g0 g2 g3 g4 g5 g6 g7 g8 g9 g10 g11 g12 s.heap.size) (cwV 0 hts gL_pick_X5_pick rfl rfl rfl (by decide +kernel) ⟨Nat.le_of_ble_eq_true rfl, Nat.le_of_ble_eq_true rfl⟩) ⟨Pw.blind _ _ _ _ _ _ _, va_recv hKc hPc (ci := 11) (q0 := 0) rfl rfl, fun U hU hW => ⟨rfl, Pw.go hPc hKc hDc hamb hS hFc hU hW⟩⟩ rfl rfl hl.1 rfl (lv_room (Nat.le_of_ble_eq_true rfl)) dL_pick_3 ⟨Nat.le_of_ble_eq_true rfl, Nat.le_of_ble_eq_true rfl⟩) hS (fun q _ h => hFc q h) hFc (fun q _ h => hFc q h) (fun E ce q9 ux tx H1 locs1 htx hvm hpx hBX hz1 hk1 hS hce hcv hcl => ?_) (fun r_1 u t H1 locs1 ht hvm hw hB hz1 hk1 hS => ?_)
  · obtain ⟨rfl, t_2⟩ := hBX
    obtain ⟨hP, hD⟩ := va_rest (wr := [(ou, .inl (cOut, 1, .inr (.inl fO)))]) hP hD [0] [1] rfl rfl (by decide) (by decide) hk1 hFc
    generalize H1 = H at hP hS hce ⊢
    refine vx_widen (k := 1) (n := 6) (Nat.le_of_ble_eq_true rfl) (Nat.le_of_ble_eq_true rfl) ?_
    refine vx_catch (name := "java/lang/UnsupportedOperationException") hown [] ⟨0, 8, 11, 15⟩ [⟨0, 8, 14, 17⟩] (by rw [htbl]; rfl) (fun z hz => nomatch hz) (by decide) (by decide) (hts (.classLink RL 15 "java/lang/UnsupportedOperationException") (by decide +kernel)) (hamb.use (w := .castable "java/lang/UnsupportedOperationException" "java/lang/UnsupportedOperationException") (by decide +kernel)) hce hcv hcl ?_
    refine lv_astore_n (lv' := [(2, .ref q9), (0, .ref h0), (1, .ref ou)]) hx hb dL_pick_11 rfl hl (by decide) rfl (fun ls hl => ?_)
    refine lv_iconst (v := 1) hx hb dL_pick_12 (by decide) ?_
    refine W.widen (k := 1) (n := 6) (Nat.le_of_ble_eq_true rfl) (Nat.le_of_ble_eq_true rfl) ?_
    have hP9 := hP.sub (ws' := [(ou, .inl (cOut, 1, .inr (.inl fO)))]) [0] rfl
    have hD9 := hD.sub (ws' := [(ou, .inl (cOut, 1, .inr (.inl fO)))]) [0] (by decide) rfl
    have hK9 := hK.sub (tys' := [(cOut, .long)]) [0] rfl
    exact W.iret (v := 1) hx hb hr (fun t ht hW => ⟨⟨1, (), rfl, rfl, ⟨by rw [ht]; exact hP9, va_K.moved hW.alike hK9, hD9⟩⟩, hS.F ht⟩) hS.2.2 dL_pick_13
  · exact hw.elim

set_option maxHeartbeats 4000000 in
set_option maxRecDepth 100000 in
theorem c_L_unweave (l : Launch) (hlt : l.stackTraces = false) (em : Nat → Nat) (dC : Nat → ClassId) (dI : Nat → Nat → Nat) (h0 : Nat) (g0 : Value) (g1 : Value) (g3 : Value) (g4 : Value) (g5 : Value) (g6 : Value) (g7 : Value) (g8 : Value) (g9 : Value) (g10 : Value) (g11 : Value) (g12 : Value) (ou : Nat) (cOut : ClassId) (fO : Nat → Int64) (sz : Nat) : Met l yL_unweave wsL_unweave ({ frames := 7, cells := 1, slots := 6, locals := 103 }) (va_Pc [.ref h0, .ref ou] (Pw em dC dI sz [(h0, .inr (11, [g0, g1, .int 0, g3, g4, g5, g6, g7, g8, g9, g10, g11, g12])), (ou, .inl (cOut, 1, .inr (.inl fO)))] [(cOut, .long)])) (va_Qi (fun (r : Int32) (_ : Unit) => r = 1) (fun _ t => Qw dC dI (va_A [(h0, .inr (11, [g0, g1, .int 0, g3, g4, g5, g6, g7, g8, g9, g10, g11, g12])), (ou, .inl (cOut, 1, .inr (.inl fO)))] sz) [(ou, .inl (cOut, 1, .inr (.inl fO)))] [(cOut, .long)] t) (va_A [(h0, .inr (11, [g0, g1, .int 0, g3, g4, g5, g6, g7, g8, g9, g10, g11, g12])), (ou, .inl (cOut, 1, .inr (.inl fO)))] sz)) 1 6 (va_A [(h0, .inr (11, [g0, g1, .int 0, g3, g4, g5, g6, g7, g8, g9, g10, g11, g12])), (ou, .inl (cOut, 1, .inr (.inl fO)))] sz) := by
  refine va_MetW (cc := cL_unweave) (maxL := 3) (ret := (some .int)) (hh := [(0, 8, 11, 15)]) (by decide) rfl ?_
  intro p e s m args below meth c s₁ B hml hv
  obtain ⟨rfl, hsz, hP, hK, hD0, hamb⟩ := hv
  have hx := B.exec
  have hb := B.bytes
  have hr := B.returns
  have hts := atoms_spec (ws := wsL_unweave) B.pre
  have hown : s.vm.findClass RL = some m.cls := findClass_of_methodNamed B.named
  have hlocks := B.notSynchronized
  have htbl : c.exceptionTable.toList = tableOf [(0, 8, 11, 15)] := vx_table (x := yL_unweave) B (hts (.codeWith yL_unweave cL_unweave 3 (some .int) [(0, 8, 11, 15)]) List.mem_cons_self)
  subst hsz
  have hD := hD0.self (sz := s.heap.size)
  generalize hAe : va_A [(h0, .inr (11, [g0, g1, .int 0, g3, g4, g5, g6, g7, g8, g9, g10, g11, g12])), (ou, .inl (cOut, 1, .inr (.inl fO)))] s.heap.size = A at hD hamb ⊢
  have hA : ∀ q : Nat, s.heap.size ≤ q → A q := fun q h => by rw [← hAe]; exact Or.inr h
  have hS : va_S A s.heap s.heap [] := va_S.rf
  have hP : va_P (dC, dI) vwCl [(h0, .inr (11, [g0, g1, .int 0, g3, g4, g5, g6, g7, g8, g9, g10, g11, g12])), (ou, .inl (cOut, 1, .inr (.inl fO)))] s.heap := hP
  have hl := lv_entry ([.ref h0, .ref ou]) (n := 3) (Nat.le_of_ble_eq_true rfl)
  rw [lg_entry_eq]
  generalize (lg_sl ([.ref h0, .ref ou]) ++ List.replicate (3 - (lg_sl ([.ref h0, .ref ou])).length) Slot.unset).toArray = ls at hl ⊢
  have hl : lv_has ls 3 [(0, .ref h0), (1, .ref ou)] := hl
  refine lv_aload_n hx hb dL_unweave_0 rfl (lv_at hl 1 rfl) ?_
  refine lv_iconst (v := 0) hx hb dL_unweave_1 (by decide) ?_
  refine lv_aload_n hx hb dL_unweave_2 rfl (lv_at hl 0 rfl) ?_
  have hPc := hP.sub (ws' := [(h0, .inr (11, [g0, g1, .int 0, g3, g4, g5, g6, g7, g8, g9, g10, g11, g12]))]) [0] rfl
  have hDc := hD.sub (ws' := [(h0, .inr (11, [g0, g1, .int 0, g3, g4, g5, g6, g7, g8, g9, g10, g11, g12]))]) [0] (by decide) rfl
  have hKc := hK.sub (tys' := []) [] rfl
  have hFc := va_free (wc := [(h0, .inr (11, [g0, g1, .int 0, g3, g4, g5, g6, g7, g8, g9, g10, g11, g12]))]) hD hS hA [0] rfl
  refine vx_calli (vx_runV (As := []) (rest := [.int 0, .ref ou]) ⟨hx, hb, hml, hown, hts⟩ (c_X5_unweave l hlt em dC dI h0 g0 g1 g3 g4 g5 g6 g7 g8 g9 g10 g11 g12 s.heap.size) (cwV 0 hts gL_unweave_X5_unweave rfl rfl rfl (by decide +kernel) ⟨Nat.le_of_ble_eq_true rfl, Nat.le_of_ble_eq_true rfl⟩) ⟨Pw.blind _ _ _ _ _ _ _, va_recv hKc hPc (ci := 11) (q0 := 0) rfl rfl, fun U hU hW => ⟨rfl, Pw.go hPc hKc hDc hamb hS hFc hU hW⟩⟩ rfl rfl hl.1 rfl (lv_room (Nat.le_of_ble_eq_true rfl)) dL_unweave_3 ⟨Nat.le_of_ble_eq_true rfl, Nat.le_of_ble_eq_true rfl⟩) hS (fun q _ h => hFc q h) hFc (fun q _ h => hFc q h) (fun E ce q9 ux tx H1 locs1 htx hvm hpx hBX hz1 hk1 hS hce hcv hcl => ?_) (fun r_1 u t H1 locs1 ht hvm hw hB hz1 hk1 hS => ?_)
  · obtain ⟨rfl, t_2⟩ := hBX
    obtain ⟨hP, hD⟩ := va_rest (wr := [(ou, .inl (cOut, 1, .inr (.inl fO)))]) hP hD [0] [1] rfl rfl (by decide) (by decide) hk1 hFc
    generalize H1 = H at hP hS hce ⊢
    refine vx_widen (k := 1) (n := 6) (Nat.le_of_ble_eq_true rfl) (Nat.le_of_ble_eq_true rfl) ?_
    refine vx_catch (name := "java/lang/UnsupportedOperationException") hown [] ⟨0, 8, 11, 15⟩ [] (by rw [htbl]; rfl) (fun z hz => nomatch hz) (by decide) (by decide) (hts (.classLink RL 15 "java/lang/UnsupportedOperationException") (by decide +kernel)) (hamb.use (w := .castable "java/lang/UnsupportedOperationException" "java/lang/UnsupportedOperationException") (by decide +kernel)) hce hcv hcl ?_
    refine lv_astore_n (lv' := [(2, .ref q9), (0, .ref h0), (1, .ref ou)]) hx hb dL_unweave_11 rfl hl (by decide) rfl (fun ls hl => ?_)
    refine lv_iconst (v := 1) hx hb dL_unweave_12 (by decide) ?_
    refine W.widen (k := 1) (n := 6) (Nat.le_of_ble_eq_true rfl) (Nat.le_of_ble_eq_true rfl) ?_
    have hP9 := hP.sub (ws' := [(ou, .inl (cOut, 1, .inr (.inl fO)))]) [0] rfl
    have hD9 := hD.sub (ws' := [(ou, .inl (cOut, 1, .inr (.inl fO)))]) [0] (by decide) rfl
    have hK9 := hK.sub (tys' := [(cOut, .long)]) [0] rfl
    exact W.iret (v := 1) hx hb hr (fun t ht hW => ⟨⟨1, (), rfl, rfl, ⟨by rw [ht]; exact hP9, va_K.moved hW.alike hK9, hD9⟩⟩, hS.F ht⟩) hS.2.2 dL_unweave_13
  · exact hw.elim

set_option maxHeartbeats 4000000 in
set_option maxRecDepth 100000 in
theorem c_L_colour (l : Launch) (hlt : l.stackTraces = false) (em : Nat → Nat) (dC : Nat → ClassId) (dI : Nat → Nat → Nat) (h0 : Nat) (p0 : Int32) (p1 : Int32) (p2 : Int32) (g0 : Value) (g2 : Value) (g3 : Value) (g4 : Value) (g5 : Value) (g6 : Value) (g7 : Value) (g8 : Value) (g9 : Value) (g10 : Value) (g11 : Value) (g12 : Value) (ou : Nat) (cOut : ClassId) (fO : Nat → Int64) (sz : Nat) : Met l yL_colour wsL_colour ({ frames := 8, cells := 1, slots := 6, locals := 126 }) (va_Pc [.ref h0, .int p0, .int p1, .int p2, .ref ou] (Pw em dC dI sz [(h0, .inr (11, [g0, .int 0, g2, g3, g4, g5, g6, g7, g8, g9, g10, g11, g12])), (ou, .inl (cOut, 1, .inr (.inl fO)))] [(cOut, .long)])) (va_Qi (fun (r : Int32) (_ : Unit) => r = 1) (fun _ t => Qw dC dI (va_A [(h0, .inr (11, [g0, .int 0, g2, g3, g4, g5, g6, g7, g8, g9, g10, g11, g12])), (ou, .inl (cOut, 1, .inr (.inl fO)))] sz) [(ou, .inl (cOut, 1, .inr (.inl fO)))] [(cOut, .long)] t) (va_A [(h0, .inr (11, [g0, .int 0, g2, g3, g4, g5, g6, g7, g8, g9, g10, g11, g12])), (ou, .inl (cOut, 1, .inr (.inl fO)))] sz)) 1 6 (va_A [(h0, .inr (11, [g0, .int 0, g2, g3, g4, g5, g6, g7, g8, g9, g10, g11, g12])), (ou, .inl (cOut, 1, .inr (.inl fO)))] sz) := by
  refine va_MetW (cc := cL_colour) (maxL := 6) (ret := (some .int)) (hh := [(0, 12, 15, 23)]) (by decide) rfl ?_
  intro p e s m args below meth c s₁ B hml hv
  obtain ⟨rfl, hsz, hP, hK, hD0, hamb⟩ := hv
  have hx := B.exec
  have hb := B.bytes
  have hr := B.returns
  have hts := atoms_spec (ws := wsL_colour) B.pre
  have hown : s.vm.findClass RL = some m.cls := findClass_of_methodNamed B.named
  have hlocks := B.notSynchronized
  have htbl : c.exceptionTable.toList = tableOf [(0, 12, 15, 23)] := vx_table (x := yL_colour) B (hts (.codeWith yL_colour cL_colour 6 (some .int) [(0, 12, 15, 23)]) List.mem_cons_self)
  subst hsz
  have hD := hD0.self (sz := s.heap.size)
  generalize hAe : va_A [(h0, .inr (11, [g0, .int 0, g2, g3, g4, g5, g6, g7, g8, g9, g10, g11, g12])), (ou, .inl (cOut, 1, .inr (.inl fO)))] s.heap.size = A at hD hamb ⊢
  have hA : ∀ q : Nat, s.heap.size ≤ q → A q := fun q h => by rw [← hAe]; exact Or.inr h
  have hS : va_S A s.heap s.heap [] := va_S.rf
  have hP : va_P (dC, dI) vwCl [(h0, .inr (11, [g0, .int 0, g2, g3, g4, g5, g6, g7, g8, g9, g10, g11, g12])), (ou, .inl (cOut, 1, .inr (.inl fO)))] s.heap := hP
  have hl := lv_entry ([.ref h0, .int p0, .int p1, .int p2, .ref ou]) (n := 6) (Nat.le_of_ble_eq_true rfl)
  rw [lg_entry_eq]
  generalize (lg_sl ([.ref h0, .int p0, .int p1, .int p2, .ref ou]) ++ List.replicate (6 - (lg_sl ([.ref h0, .int p0, .int p1, .int p2, .ref ou])).length) Slot.unset).toArray = ls at hl ⊢
  have hl : lv_has ls 6 [(0, .ref h0), (1, .int p0), (2, .int p1), (3, .int p2), (4, .ref ou)] := hl
  refine lv_aload hx hb dL_colour_0 (lv_at hl 4 rfl) ?_
  refine lv_iconst (v := 0) hx hb dL_colour_2 (by decide) ?_
  refine lv_aload_n hx hb dL_colour_3 rfl (lv_at hl 0 rfl) ?_
  refine lv_iload_n hx hb dL_colour_4 rfl (lv_at hl 1 rfl) ?_
  refine lv_iload_n hx hb dL_colour_5 rfl (lv_at hl 2 rfl) ?_
  refine lv_iload_n hx hb dL_colour_6 rfl (lv_at hl 3 rfl) ?_
  have hPc := hP.sub (ws' := [(h0, .inr (11, [g0, .int 0, g2, g3, g4, g5, g6, g7, g8, g9, g10, g11, g12]))]) [0] rfl
  have hDc := hD.sub (ws' := [(h0, .inr (11, [g0, .int 0, g2, g3, g4, g5, g6, g7, g8, g9, g10, g11, g12]))]) [0] (by decide) rfl
  have hKc := hK.sub (tys' := []) [] rfl
  have hFc := va_free (wc := [(h0, .inr (11, [g0, .int 0, g2, g3, g4, g5, g6, g7, g8, g9, g10, g11, g12]))]) hD hS hA [0] rfl
  refine vx_calli (vx_runV (As := [.int p0, .int p1, .int p2]) (rest := [.int 0, .ref ou]) ⟨hx, hb, hml, hown, hts⟩ (c_X5_colour l hlt em dC dI h0 p0 p1 p2 g0 g2 g3 g4 g5 g6 g7 g8 g9 g10 g11 g12 s.heap.size) (cwV 3 hts gL_colour_X5_colour rfl rfl rfl (by decide +kernel) ⟨Nat.le_of_ble_eq_true rfl, Nat.le_of_ble_eq_true rfl⟩) ⟨Pw.blind _ _ _ _ _ _ _, va_recv hKc hPc (ci := 11) (q0 := 0) rfl rfl, fun U hU hW => ⟨rfl, Pw.go hPc hKc hDc hamb hS hFc hU hW⟩⟩ rfl rfl hl.1 rfl (lv_room (Nat.le_of_ble_eq_true rfl)) dL_colour_7 ⟨Nat.le_of_ble_eq_true rfl, Nat.le_of_ble_eq_true rfl⟩) hS (fun q _ h => hFc q h) hFc (fun q _ h => hFc q h) (fun E ce q9 ux tx H1 locs1 htx hvm hpx hBX hz1 hk1 hS hce hcv hcl => ?_) (fun r_1 u t H1 locs1 ht hvm hw hB hz1 hk1 hS => ?_)
  · obtain ⟨rfl, t_2⟩ := hBX
    obtain ⟨hP, hD⟩ := va_rest (wr := [(ou, .inl (cOut, 1, .inr (.inl fO)))]) hP hD [0] [1] rfl rfl (by decide) (by decide) hk1 hFc
    generalize H1 = H at hP hS hce ⊢
    refine vx_widen (k := 1) (n := 6) (Nat.le_of_ble_eq_true rfl) (Nat.le_of_ble_eq_true rfl) ?_
    refine vx_catch (name := "java/lang/IndexOutOfBoundsException") hown [] ⟨0, 12, 15, 23⟩ [] (by rw [htbl]; rfl) (fun z hz => nomatch hz) (by decide) (by decide) (hts (.classLink RL 23 "java/lang/IndexOutOfBoundsException") (by decide +kernel)) (hamb.use (w := .castable "java/lang/IndexOutOfBoundsException" "java/lang/IndexOutOfBoundsException") (by decide +kernel)) hce hcv hcl ?_
    refine lv_astore (lv' := [(5, .ref q9), (0, .ref h0), (1, .int p0), (2, .int p1), (3, .int p2), (4, .ref ou)]) hx hb dL_colour_15 hl (by decide) rfl (fun ls hl => ?_)
    refine lv_iconst (v := 1) hx hb dL_colour_17 (by decide) ?_
    refine W.widen (k := 1) (n := 6) (Nat.le_of_ble_eq_true rfl) (Nat.le_of_ble_eq_true rfl) ?_
    have hP9 := hP.sub (ws' := [(ou, .inl (cOut, 1, .inr (.inl fO)))]) [0] rfl
    have hD9 := hD.sub (ws' := [(ou, .inl (cOut, 1, .inr (.inl fO)))]) [0] (by decide) rfl
    have hK9 := hK.sub (tys' := [(cOut, .long)]) [0] rfl
    exact W.iret (v := 1) hx hb hr (fun t ht hW => ⟨⟨1, (), rfl, rfl, ⟨by rw [ht]; exact hP9, va_K.moved hW.alike hK9, hD9⟩⟩, hS.F ht⟩) hS.2.2 dL_colour_18
  · exact hw.elim

set_option maxHeartbeats 4000000 in
set_option maxRecDepth 100000 in
theorem c_L_isIdle (l : Launch) (hlt : l.stackTraces = false) (em : Nat → Nat) (dC : Nat → ClassId) (dI : Nat → Nat → Nat) (h0 : Nat) (p0 : Int32) (p1 : Int32) (g0 : Value) (g2 : Value) (g3 : Value) (g4 : Value) (g5 : Value) (g6 : Value) (g7 : Value) (g8 : Value) (g9 : Value) (g10 : Value) (g11 : Value) (g12 : Value) (ou : Nat) (cOut : ClassId) (fO : Nat → Int64) (sz : Nat) : Met l yL_isIdle wsL_isIdle ({ frames := 8, cells := 1, slots := 6, locals := 125 }) (va_Pc [.ref h0, .int p0, .int p1, .ref ou] (Pw em dC dI sz [(h0, .inr (11, [g0, .int 0, g2, g3, g4, g5, g6, g7, g8, g9, g10, g11, g12])), (ou, .inl (cOut, 1, .inr (.inl fO)))] [(cOut, .long)])) (va_Qi (fun (r : Int32) (_ : Unit) => r = 1) (fun _ t => Qw dC dI (va_A [(h0, .inr (11, [g0, .int 0, g2, g3, g4, g5, g6, g7, g8, g9, g10, g11, g12])), (ou, .inl (cOut, 1, .inr (.inl fO)))] sz) [(ou, .inl (cOut, 1, .inr (.inl fO)))] [(cOut, .long)] t) (va_A [(h0, .inr (11, [g0, .int 0, g2, g3, g4, g5, g6, g7, g8, g9, g10, g11, g12])), (ou, .inl (cOut, 1, .inr (.inl fO)))] sz)) 1 6 (va_A [(h0, .inr (11, [g0, .int 0, g2, g3, g4, g5, g6, g7, g8, g9, g10, g11, g12])), (ou, .inl (cOut, 1, .inr (.inl fO)))] sz) := by
  refine va_MetW (cc := cL_isIdle) (maxL := 5) (ret := (some .int)) (hh := [(0, 17, 20, 23)]) (by decide) rfl ?_
  intro p e s m args below meth c s₁ B hml hv
  obtain ⟨rfl, hsz, hP, hK, hD0, hamb⟩ := hv
  have hx := B.exec
  have hb := B.bytes
  have hr := B.returns
  have hts := atoms_spec (ws := wsL_isIdle) B.pre
  have hown : s.vm.findClass RL = some m.cls := findClass_of_methodNamed B.named
  have hlocks := B.notSynchronized
  have htbl : c.exceptionTable.toList = tableOf [(0, 17, 20, 23)] := vx_table (x := yL_isIdle) B (hts (.codeWith yL_isIdle cL_isIdle 5 (some .int) [(0, 17, 20, 23)]) List.mem_cons_self)
  subst hsz
  have hD := hD0.self (sz := s.heap.size)
  generalize hAe : va_A [(h0, .inr (11, [g0, .int 0, g2, g3, g4, g5, g6, g7, g8, g9, g10, g11, g12])), (ou, .inl (cOut, 1, .inr (.inl fO)))] s.heap.size = A at hD hamb ⊢
  have hA : ∀ q : Nat, s.heap.size ≤ q → A q := fun q h => by rw [← hAe]; exact Or.inr h
  have hS : va_S A s.heap s.heap [] := va_S.rf
  have hP : va_P (dC, dI) vwCl [(h0, .inr (11, [g0, .int 0, g2, g3, g4, g5, g6, g7, g8, g9, g10, g11, g12])), (ou, .inl (cOut, 1, .inr (.inl fO)))] s.heap := hP
  have hl := lv_entry ([.ref h0, .int p0, .int p1, .ref ou]) (n := 5) (Nat.le_of_ble_eq_true rfl)
  rw [lg_entry_eq]
  generalize (lg_sl ([.ref h0, .int p0, .int p1, .ref ou]) ++ List.replicate (5 - (lg_sl ([.ref h0, .int p0, .int p1, .ref ou])).length) Slot.unset).toArray = ls at hl ⊢
  have hl : lv_has ls 5 [(0, .ref h0), (1, .int p0), (2, .int p1), (3, .ref ou)] := hl
  refine lv_aload_n hx hb dL_isIdle_0 rfl (lv_at hl 3 rfl) ?_
  refine lv_iconst (v := 0) hx hb dL_isIdle_1 (by decide) ?_
  refine lv_aload_n hx hb dL_isIdle_2 rfl (lv_at hl 0 rfl) ?_
  refine lv_iload_n hx hb dL_isIdle_3 rfl (lv_at hl 1 rfl) ?_
  refine lv_iload_n hx hb dL_isIdle_4 rfl (lv_at hl 2 rfl) ?_
  have hPc := hP.sub (ws' := [(h0, .inr (11, [g0, .int 0, g2, g3, g4, g5, g6, g7, g8, g9, g10, g11, g12]))]) [0] rfl
  have hDc := hD.sub (ws' := [(h0, .inr (11, [g0, .int 0, g2, g3, g4, g5, g6, g7, g8, g9, g10, g11, g12]))]) [0] (by decide) rfl
  have hKc := hK.sub (tys' := []) [] rfl
  have hFc := va_free (wc := [(h0, .inr (11, [g0, .int 0, g2, g3, g4, g5, g6, g7, g8, g9, g10, g11, g12]))]) hD hS hA [0] rfl
  refine vx_calli (vx_runV (As := [.int p0, .int p1]) (rest := [.int 0, .ref ou]) ⟨hx, hb, hml, hown, hts⟩ (c_X5_isIdle l hlt em dC dI h0 p0 p1 g0 g2 g3 g4 g5 g6 g7 g8 g9 g10 g11 g12 s.heap.size) (cwV 2 hts gL_isIdle_X5_isIdle rfl rfl rfl (by decide +kernel) ⟨Nat.le_of_ble_eq_true rfl, Nat.le_of_ble_eq_true rfl⟩) ⟨Pw.blind _ _ _ _ _ _ _, va_recv hKc hPc (ci := 11) (q0 := 0) rfl rfl, fun U hU hW => ⟨rfl, Pw.go hPc hKc hDc hamb hS hFc hU hW⟩⟩ rfl rfl hl.1 rfl (lv_room (Nat.le_of_ble_eq_true rfl)) dL_isIdle_5 ⟨Nat.le_of_ble_eq_true rfl, Nat.le_of_ble_eq_true rfl⟩) hS (fun q _ h => hFc q h) hFc (fun q _ h => hFc q h) (fun E ce q9 ux tx H1 locs1 htx hvm hpx hBX hz1 hk1 hS hce hcv hcl => ?_) (fun r_1 u t H1 locs1 ht hvm hw hB hz1 hk1 hS => ?_)
  · obtain ⟨rfl, t_2⟩ := hBX
    obtain ⟨hP, hD⟩ := va_rest (wr := [(ou, .inl (cOut, 1, .inr (.inl fO)))]) hP hD [0] [1] rfl rfl (by decide) (by decide) hk1 hFc
    generalize H1 = H at hP hS hce ⊢
    refine vx_widen (k := 1) (n := 6) (Nat.le_of_ble_eq_true rfl) (Nat.le_of_ble_eq_true rfl) ?_
    refine vx_catch (name := "java/lang/IndexOutOfBoundsException") hown [] ⟨0, 17, 20, 23⟩ [] (by rw [htbl]; rfl) (fun z hz => nomatch hz) (by decide) (by decide) (hts (.classLink RL 23 "java/lang/IndexOutOfBoundsException") (by decide +kernel)) (hamb.use (w := .castable "java/lang/IndexOutOfBoundsException" "java/lang/IndexOutOfBoundsException") (by decide +kernel)) hce hcv hcl ?_
    refine lv_astore (lv' := [(4, .ref q9), (0, .ref h0), (1, .int p0), (2, .int p1), (3, .ref ou)]) hx hb dL_isIdle_20 hl (by decide) rfl (fun ls hl => ?_)
    refine lv_iconst (v := 1) hx hb dL_isIdle_22 (by decide) ?_
    refine W.widen (k := 1) (n := 6) (Nat.le_of_ble_eq_true rfl) (Nat.le_of_ble_eq_true rfl) ?_
    have hP9 := hP.sub (ws' := [(ou, .inl (cOut, 1, .inr (.inl fO)))]) [0] rfl
    have hD9 := hD.sub (ws' := [(ou, .inl (cOut, 1, .inr (.inl fO)))]) [0] (by decide) rfl
    have hK9 := hK.sub (tys' := [(cOut, .long)]) [0] rfl
    exact W.iret (v := 1) hx hb hr (fun t ht hW => ⟨⟨1, (), rfl, rfl, ⟨by rw [ht]; exact hP9, va_K.moved hW.alike hK9, hD9⟩⟩, hS.F ht⟩) hS.2.2 dL_isIdle_23
  · exact hw.elim

set_option maxHeartbeats 4000000 in
set_option maxRecDepth 100000 in
theorem c_L_longestFloat (l : Launch) (hlt : l.stackTraces = false) (em : Nat → Nat) (dC : Nat → ClassId) (dI : Nat → Nat → Nat) (h0 : Nat) (p0 : Int32) (g0 : Value) (g2 : Value) (g3 : Value) (g4 : Value) (g5 : Value) (g6 : Value) (g7 : Value) (g8 : Value) (g9 : Value) (g10 : Value) (g11 : Value) (g12 : Value) (ou : Nat) (cOut : ClassId) (fO : Nat → Int64) (sz : Nat) : Met l yL_longestFloat wsL_longestFloat ({ frames := 8, cells := 1, slots := 6, locals := 127 }) (va_Pc [.ref h0, .int p0, .ref ou] (Pw em dC dI sz [(h0, .inr (11, [g0, .int 0, g2, g3, g4, g5, g6, g7, g8, g9, g10, g11, g12])), (ou, .inl (cOut, 1, .inr (.inl fO)))] [(cOut, .long)])) (va_Qi (fun (r : Int32) (_ : Unit) => r = 1) (fun _ t => Qw dC dI (va_A [(h0, .inr (11, [g0, .int 0, g2, g3, g4, g5, g6, g7, g8, g9, g10, g11, g12])), (ou, .inl (cOut, 1, .inr (.inl fO)))] sz) [(ou, .inl (cOut, 1, .inr (.inl fO)))] [(cOut, .long)] t) (va_A [(h0, .inr (11, [g0, .int 0, g2, g3, g4, g5, g6, g7, g8, g9, g10, g11, g12])), (ou, .inl (cOut, 1, .inr (.inl fO)))] sz)) 1 6 (va_A [(h0, .inr (11, [g0, .int 0, g2, g3, g4, g5, g6, g7, g8, g9, g10, g11, g12])), (ou, .inl (cOut, 1, .inr (.inl fO)))] sz) := by
  refine va_MetW (cc := cL_longestFloat) (maxL := 4) (ret := (some .int)) (hh := [(0, 9, 12, 23)]) (by decide) rfl ?_
  intro p e s m args below meth c s₁ B hml hv
  obtain ⟨rfl, hsz, hP, hK, hD0, hamb⟩ := hv
  have hx := B.exec
  have hb := B.bytes
  have hr := B.returns
  have hts := atoms_spec (ws := wsL_longestFloat) B.pre
  have hown : s.vm.findClass RL = some m.cls := findClass_of_methodNamed B.named
  have hlocks := B.notSynchronized
  have htbl : c.exceptionTable.toList = tableOf [(0, 9, 12, 23)] := vx_table (x := yL_longestFloat) B (hts (.codeWith yL_longestFloat cL_longestFloat 4 (some .int) [(0, 9, 12, 23)]) List.mem_cons_self)
  subst hsz
  have hD := hD0.self (sz := s.heap.size)
  generalize hAe : va_A [(h0, .inr (11, [g0, .int 0, g2, g3, g4, g5, g6, g7, g8, g9, g10, g11, g12])), (ou, .inl (cOut, 1, .inr (.inl fO)))] s.heap.size = A at hD hamb ⊢
  have hA : ∀ q : Nat, s.heap.size ≤ q → A q := fun q h => by rw [← hAe]; exact Or.inr h
  have hS : va_S A s.heap s.heap [] := va_S.rf
  have hP : va_P (dC, dI) vwCl [(h0, .inr (11, [g0, .int 0, g2, g3, g4, g5, g6, g7, g8, g9, g10, g11, g12])), (ou, .inl (cOut, 1, .inr (.inl fO)))] s.heap := hP
  have hl := lv_entry ([.ref h0, .int p0, .ref ou]) (n := 4) (Nat.le_of_ble_eq_true rfl)
  rw [lg_entry_eq]
  generalize (lg_sl ([.ref h0, .int p0, .ref ou]) ++ List.replicate (4 - (lg_sl ([.ref h0, .int p0, .ref ou])).length) Slot.unset).toArray = ls at hl ⊢
  have hl : lv_has ls 4 [(0, .ref h0), (1, .int p0), (2, .ref ou)] := hl
  refine lv_aload_n hx hb dL_longestFloat_0 rfl (lv_at hl 2 rfl) ?_
  refine lv_iconst (v := 0) hx hb dL_longestFloat_1 (by decide) ?_
  refine lv_aload_n hx hb dL_longestFloat_2 rfl (lv_at hl 0 rfl) ?_
  refine lv_iload_n hx hb dL_longestFloat_3 rfl (lv_at hl 1 rfl) ?_
  have hPc := hP.sub (ws' := [(h0, .inr (11, [g0, .int 0, g2, g3, g4, g5, g6, g7, g8, g9, g10, g11, g12]))]) [0] rfl
  have hDc := hD.sub (ws' := [(h0, .inr (11, [g0, .int 0, g2, g3, g4, g5, g6, g7, g8, g9, g10, g11, g12]))]) [0] (by decide) rfl
  have hKc := hK.sub (tys' := []) [] rfl
  have hFc := va_free (wc := [(h0, .inr (11, [g0, .int 0, g2, g3, g4, g5, g6, g7, g8, g9, g10, g11, g12]))]) hD hS hA [0] rfl
  refine vx_calli (vx_runV (As := [.int p0]) (rest := [.int 0, .ref ou]) ⟨hx, hb, hml, hown, hts⟩ (c_X5_longestFloat l hlt em dC dI h0 p0 g0 g2 g3 g4 g5 g6 g7 g8 g9 g10 g11 g12 s.heap.size) (cwV 1 hts gL_longestFloat_X5_longestFloat rfl rfl rfl (by decide +kernel) ⟨Nat.le_of_ble_eq_true rfl, Nat.le_of_ble_eq_true rfl⟩) ⟨Pw.blind _ _ _ _ _ _ _, va_recv hKc hPc (ci := 11) (q0 := 0) rfl rfl, fun U hU hW => ⟨rfl, Pw.go hPc hKc hDc hamb hS hFc hU hW⟩⟩ rfl rfl hl.1 rfl (lv_room (Nat.le_of_ble_eq_true rfl)) dL_longestFloat_4 ⟨Nat.le_of_ble_eq_true rfl, Nat.le_of_ble_eq_true rfl⟩) hS (fun q _ h => hFc q h) hFc (fun q _ h => hFc q h) (fun E ce q9 ux tx H1 locs1 htx hvm hpx hBX hz1 hk1 hS hce hcv hcl => ?_) (fun r_1 u t H1 locs1 ht hvm hw hB hz1 hk1 hS => ?_)
  · obtain ⟨rfl, t_2⟩ := hBX
    obtain ⟨hP, hD⟩ := va_rest (wr := [(ou, .inl (cOut, 1, .inr (.inl fO)))]) hP hD [0] [1] rfl rfl (by decide) (by decide) hk1 hFc
    generalize H1 = H at hP hS hce ⊢
    refine vx_widen (k := 1) (n := 6) (Nat.le_of_ble_eq_true rfl) (Nat.le_of_ble_eq_true rfl) ?_
    refine vx_catch (name := "java/lang/IndexOutOfBoundsException") hown [] ⟨0, 9, 12, 23⟩ [] (by rw [htbl]; rfl) (fun z hz => nomatch hz) (by decide) (by decide) (hts (.classLink RL 23 "java/lang/IndexOutOfBoundsException") (by decide +kernel)) (hamb.use (w := .castable "java/lang/IndexOutOfBoundsException" "java/lang/IndexOutOfBoundsException") (by decide +kernel)) hce hcv hcl ?_
    refine lv_astore_n (lv' := [(3, .ref q9), (0, .ref h0), (1, .int p0), (2, .ref ou)]) hx hb dL_longestFloat_12 rfl hl (by decide) rfl (fun ls hl => ?_)
    refine lv_iconst (v := 1) hx hb dL_longestFloat_13 (by decide) ?_
    refine W.widen (k := 1) (n := 6) (Nat.le_of_ble_eq_true rfl) (Nat.le_of_ble_eq_true rfl) ?_
    have hP9 := hP.sub (ws' := [(ou, .inl (cOut, 1, .inr (.inl fO)))]) [0] rfl
    have hD9 := hD.sub (ws' := [(ou, .inl (cOut, 1, .inr (.inl fO)))]) [0] (by decide) rfl
    have hK9 := hK.sub (tys' := [(cOut, .long)]) [0] rfl
    exact W.iret (v := 1) hx hb hr (fun t ht hW => ⟨⟨1, (), rfl, rfl, ⟨by rw [ht]; exact hP9, va_K.moved hW.alike hK9, hD9⟩⟩, hS.F ht⟩) hS.2.2 dL_longestFloat_14
  · exact hw.elim

set_option maxHeartbeats 4000000 in
set_option maxRecDepth 100000 in
theorem c_L_motto (l : Launch) (hlt : l.stackTraces = false) (em : Nat → Nat) (dC : Nat → ClassId) (dI : Nat → Nat → Nat) (h0 : Nat) (p0 : Int32) (p1 : Int32) (p2 : Int32) (g0 : Value) (g2 : Value) (g3 : Value) (g4 : Value) (g5 : Value) (g6 : Value) (g7 : Value) (g8 : Value) (g9 : Value) (g10 : Value) (g11 : Value) (g12 : Value) (ou : Nat) (cOut : ClassId) (fO : Nat → Int64) (sz : Nat) : Met l yL_motto wsL_motto ({ frames := 8, cells := 1, slots := 6, locals := 127 }) (va_Pc [.ref h0, .int p0, .int p1, .int p2, .ref ou] (Pw em dC dI sz [(h0, .inr (11, [g0, .int 0, g2, g3, g4, g5, g6, g7, g8, g9, g10, g11, g12])), (ou, .inl (cOut, 1, .inr (.inl fO)))] [(cOut, .long)])) (va_Qi (fun (r : Int32) (_ : Unit) => r = 1) (fun _ t => Qw dC dI (va_A [(h0, .inr (11, [g0, .int 0, g2, g3, g4, g5, g6, g7, g8, g9, g10, g11, g12])), (ou, .inl (cOut, 1, .inr (.inl fO)))] sz) [(ou, .inl (cOut, 1, .inr (.inl fO)))] [(cOut, .long)] t) (va_A [(h0, .inr (11, [g0, .int 0, g2, g3, g4, g5, g6, g7, g8, g9, g10, g11, g12])), (ou, .inl (cOut, 1, .inr (.inl fO)))] sz)) 1 6 (va_A [(h0, .inr (11, [g0, .int 0, g2, g3, g4, g5, g6, g7, g8, g9, g10, g11, g12])), (ou, .inl (cOut, 1, .inr (.inl fO)))] sz) := by
  refine va_MetW (cc := cL_motto) (maxL := 6) (ret := (some .int)) (hh := [(0, 12, 15, 23), (0, 12, 19, 13), (0, 12, 23, 15)]) (by decide) rfl ?_
  intro p e s m args below meth c s₁ B hml hv
  obtain ⟨rfl, hsz, hP, hK, hD0, hamb⟩ := hv
  have hx := B.exec
  have hb := B.bytes
  have hr := B.returns
  have hts := atoms_spec (ws := wsL_motto) B.pre
  have hown : s.vm.findClass RL = some m.cls := findClass_of_methodNamed B.named
  have hlocks := B.notSynchronized
  have htbl : c.exceptionTable.toList = tableOf [(0, 12, 15, 23), (0, 12, 19, 13), (0, 12, 23, 15)] := vx_table (x := yL_motto) B (hts (.codeWith yL_motto cL_motto 6 (some .int) [(0, 12, 15, 23), (0, 12, 19, 13), (0, 12, 23, 15)]) List.mem_cons_self)
  subst hsz
  have hD := hD0.self (sz := s.heap.size)
  generalize hAe : va_A [(h0, .inr (11, [g0, .int 0, g2, g3, g4, g5, g6, g7, g8, g9, g10, g11, g12])), (ou, .inl (cOut, 1, .inr (.inl fO)))] s.heap.size = A at hD hamb ⊢
  have hA : ∀ q : Nat, s.heap.size ≤ q → A q := fun q h => by rw [← hAe]; exact Or.inr h
  have hS : va_S A s.heap s.heap [] := va_S.rf
  have hP : va_P (dC, dI) vwCl [(h0, .inr (11, [g0, .int 0, g2, g3, g4, g5, g6, g7, g8, g9, g10, g11, g12])), (ou, .inl (cOut, 1, .inr (.inl fO)))] s.heap := hP
  have hl := lv_entry ([.ref h0, .int p0, .int p1, .int p2, .ref ou]) (n := 6) (Nat.le_of_ble_eq_true rfl)
  rw [lg_entry_eq]
  generalize (lg_sl ([.ref h0, .int p0, .int p1, .int p2, .ref ou]) ++ List.replicate (6 - (lg_sl ([.ref h0, .int p0, .int p1, .int p2, .ref ou])).length) Slot.unset).toArray = ls at hl ⊢
  have hl : lv_has ls 6 [(0, .ref h0), (1, .int p0), (2, .int p1), (3, .int p2), (4, .ref ou)] := hl
  refine lv_aload hx hb dL_motto_0 (lv_at hl 4 rfl) ?_
  refine lv_iconst (v := 0) hx hb dL_motto_2 (by decide) ?_
  refine lv_aload_n hx hb dL_motto_3 rfl (lv_at hl 0 rfl) ?_
  refine lv_iload_n hx hb dL_motto_4 rfl (lv_at hl 1 rfl) ?_
  refine lv_iload_n hx hb dL_motto_5 rfl (lv_at hl 2 rfl) ?_
  refine lv_iload_n hx hb dL_motto_6 rfl (lv_at hl 3 rfl) ?_
  have hPc := hP.sub (ws' := [(h0, .inr (11, [g0, .int 0, g2, g3, g4, g5, g6, g7, g8, g9, g10, g11, g12]))]) [0] rfl
  have hDc := hD.sub (ws' := [(h0, .inr (11, [g0, .int 0, g2, g3, g4, g5, g6, g7, g8, g9, g10, g11, g12]))]) [0] (by decide) rfl
  have hKc := hK.sub (tys' := []) [] rfl
  have hFc := va_free (wc := [(h0, .inr (11, [g0, .int 0, g2, g3, g4, g5, g6, g7, g8, g9, g10, g11, g12]))]) hD hS hA [0] rfl
  refine vx_calli (vx_runV (As := [.int p0, .int p1, .int p2]) (rest := [.int 0, .ref ou]) ⟨hx, hb, hml, hown, hts⟩ (c_X5_motto l hlt em dC dI h0 p0 p1 p2 g0 g2 g3 g4 g5 g6 g7 g8 g9 g10 g11 g12 s.heap.size) (cwV 3 hts gL_motto_X5_motto rfl rfl rfl (by decide +kernel) ⟨Nat.le_of_ble_eq_true rfl, Nat.le_of_ble_eq_true rfl⟩) ⟨Pw.blind _ _ _ _ _ _ _, va_recv hKc hPc (ci := 11) (q0 := 0) rfl rfl, fun U hU hW => ⟨rfl, Pw.go hPc hKc hDc hamb hS hFc hU hW⟩⟩ rfl rfl hl.1 rfl (lv_room (Nat.le_of_ble_eq_true rfl)) dL_motto_7 ⟨Nat.le_of_ble_eq_true rfl, Nat.le_of_ble_eq_true rfl⟩) hS (fun q _ h => hFc q h) hFc (fun q _ h => hFc q h) (fun E ce q9 ux tx H1 locs1 htx hvm hpx hBX hz1 hk1 hS hce hcv hcl => ?_) (fun r_1 u t H1 locs1 ht hvm hw hB hz1 hk1 hS => ?_)
  · obtain ⟨rfl, t_2⟩ := hBX
    obtain ⟨hP, hD⟩ := va_rest (wr := [(ou, .inl (cOut, 1, .inr (.inl fO)))]) hP hD [0] [1] rfl rfl (by decide) (by decide) hk1 hFc
    generalize H1 = H at hP hS hce ⊢
    refine vx_widen (k := 1) (n := 6) (Nat.le_of_ble_eq_true rfl) (Nat.le_of_ble_eq_true rfl) ?_
    refine vx_catch (name := "java/lang/IndexOutOfBoundsException") hown [] ⟨0, 12, 15, 23⟩ [⟨0, 12, 19, 13⟩, ⟨0, 12, 23, 15⟩] (by rw [htbl]; rfl) (fun z hz => nomatch hz) (by decide) (by decide) (hts (.classLink RL 23 "java/lang/IndexOutOfBoundsException") (by decide +kernel)) (hamb.use (w := .castable "java/lang/IndexOutOfBoundsException" "java/lang/IndexOutOfBoundsException") (by decide +kernel)) hce hcv hcl ?_
    refine lv_astore (lv' := [(5, .ref q9), (0, .ref h0), (1, .int p0), (2, .int p1), (3, .int p2), (4, .ref ou)]) hx hb dL_motto_15 hl (by decide) rfl (fun ls hl => ?_)
    refine lv_iconst (v := 1) hx hb dL_motto_17 (by decide) ?_
    refine W.widen (k := 1) (n := 6) (Nat.le_of_ble_eq_true rfl) (Nat.le_of_ble_eq_true rfl) ?_
    have hP9 := hP.sub (ws' := [(ou, .inl (cOut, 1, .inr (.inl fO)))]) [0] rfl
    have hD9 := hD.sub (ws' := [(ou, .inl (cOut, 1, .inr (.inl fO)))]) [0] (by decide) rfl
    have hK9 := hK.sub (tys' := [(cOut, .long)]) [0] rfl
    exact W.iret (v := 1) hx hb hr (fun t ht hW => ⟨⟨1, (), rfl, rfl, ⟨by rw [ht]; exact hP9, va_K.moved hW.alike hK9, hD9⟩⟩, hS.F ht⟩) hS.2.2 dL_motto_18
  · exact hw.elim

set_option maxHeartbeats 4000000 in
set_option maxRecDepth 100000 in
theorem c_L_wanted (l : Launch) (hlt : l.stackTraces = false) (em : Nat → Nat) (dC : Nat → ClassId) (dI : Nat → Nat → Nat) (h0 : Nat) (p0 : Int32) (p1 : Int32) (p2 : Int32) (g0 : Value) (g2 : Value) (g3 : Value) (g4 : Value) (g5 : Value) (g6 : Value) (g7 : Value) (g8 : Value) (g9 : Value) (g10 : Value) (g11 : Value) (g12 : Value) (ou : Nat) (cOut : ClassId) (fO : Nat → Int64) (sz : Nat) : Met l yL_wanted wsL_wanted ({ frames := 8, cells := 1, slots := 6, locals := 126 }) (va_Pc [.ref h0, .int p0, .int p1, .int p2, .ref ou] (Pw em dC dI sz [(h0, .inr (11, [g0, .int 0, g2, g3, g4, g5, g6, g7, g8, g9, g10, g11, g12])), (ou, .inl (cOut, 1, .inr (.inl fO)))] [(cOut, .long)])) (va_Qi (fun (r : Int32) (_ : Unit) => r = 1) (fun _ t => Qw dC dI (va_A [(h0, .inr (11, [g0, .int 0, g2, g3, g4, g5, g6, g7, g8, g9, g10, g11, g12])), (ou, .inl (cOut, 1, .inr (.inl fO)))] sz) [(ou, .inl (cOut, 1, .inr (.inl fO)))] [(cOut, .long)] t) (va_A [(h0, .inr (11, [g0, .int 0, g2, g3, g4, g5, g6, g7, g8, g9, g10, g11, g12])), (ou, .inl (cOut, 1, .inr (.inl fO)))] sz)) 1 6 (va_A [(h0, .inr (11, [g0, .int 0, g2, g3, g4, g5, g6, g7, g8, g9, g10, g11, g12])), (ou, .inl (cOut, 1, .inr (.inl fO)))] sz) := by
  refine va_MetW (cc := cL_wanted) (maxL := 6) (ret := (some .int)) (hh := [(0, 12, 15, 23), (0, 12, 19, 13)]) (by decide) rfl ?_
  intro p e s m args below meth c s₁ B hml hv
  obtain ⟨rfl, hsz, hP, hK, hD0, hamb⟩ := hv
  have hx := B.exec
  have hb := B.bytes
  have hr := B.returns
  have hts := atoms_spec (ws := wsL_wanted) B.pre
  have hown : s.vm.findClass RL = some m.cls := findClass_of_methodNamed B.named
  have hlocks := B.notSynchronized
  have htbl : c.exceptionTable.toList = tableOf [(0, 12, 15, 23), (0, 12, 19, 13)] := vx_table (x := yL_wanted) B (hts (.codeWith yL_wanted cL_wanted 6 (some .int) [(0, 12, 15, 23), (0, 12, 19, 13)]) List.mem_cons_self)
  subst hsz
  have hD := hD0.self (sz := s.heap.size)
  generalize hAe : va_A [(h0, .inr (11, [g0, .int 0, g2, g3, g4, g5, g6, g7, g8, g9, g10, g11, g12])), (ou, .inl (cOut, 1, .inr (.inl fO)))] s.heap.size = A at hD hamb ⊢
  have hA : ∀ q : Nat, s.heap.size ≤ q → A q := fun q h => by rw [← hAe]; exact Or.inr h
  have hS : va_S A s.heap s.heap [] := va_S.rf
  have hP : va_P (dC, dI) vwCl [(h0, .inr (11, [g0, .int 0, g2, g3, g4, g5, g6, g7, g8, g9, g10, g11, g12])), (ou, .inl (cOut, 1, .inr (.inl fO)))] s.heap := hP
  have hl := lv_entry ([.ref h0, .int p0, .int p1, .int p2, .ref ou]) (n := 6) (Nat.le_of_ble_eq_true rfl)
  rw [lg_entry_eq]
  generalize (lg_sl ([.ref h0, .int p0, .int p1, .int p2, .ref ou]) ++ List.replicate (6 - (lg_sl ([.ref h0, .int p0, .int p1, .int p2, .ref ou])).length) Slot.unset).toArray = ls at hl ⊢
  have hl : lv_has ls 6 [(0, .ref h0), (1, .int p0), (2, .int p1), (3, .int p2), (4, .ref ou)] := hl
  refine lv_aload hx hb dL_wanted_0 (lv_at hl 4 rfl) ?_
  refine lv_iconst (v := 0) hx hb dL_wanted_2 (by decide) ?_
  refine lv_aload_n hx hb dL_wanted_3 rfl (lv_at hl 0 rfl) ?_
  refine lv_iload_n hx hb dL_wanted_4 rfl (lv_at hl 1 rfl) ?_
  refine lv_iload_n hx hb dL_wanted_5 rfl (lv_at hl 2 rfl) ?_
  refine lv_iload_n hx hb dL_wanted_6 rfl (lv_at hl 3 rfl) ?_
  have hPc := hP.sub (ws' := [(h0, .inr (11, [g0, .int 0, g2, g3, g4, g5, g6, g7, g8, g9, g10, g11, g12]))]) [0] rfl
  have hDc := hD.sub (ws' := [(h0, .inr (11, [g0, .int 0, g2, g3, g4, g5, g6, g7, g8, g9, g10, g11, g12]))]) [0] (by decide) rfl
  have hKc := hK.sub (tys' := []) [] rfl
  have hFc := va_free (wc := [(h0, .inr (11, [g0, .int 0, g2, g3, g4, g5, g6, g7, g8, g9, g10, g11, g12]))]) hD hS hA [0] rfl
  refine vx_calli (vx_runV (As := [.int p0, .int p1, .int p2]) (rest := [.int 0, .ref ou]) ⟨hx, hb, hml, hown, hts⟩ (c_X5_wanted l hlt em dC dI h0 p0 p1 p2 g0 g2 g3 g4 g5 g6 g7 g8 g9 g10 g11 g12 s.heap.size) (cwV 3 hts gL_wanted_X5_wanted rfl rfl rfl (by decide +kernel) ⟨Nat.le_of_ble_eq_true rfl, Nat.le_of_ble_eq_true rfl⟩) ⟨Pw.blind _ _ _ _ _ _ _, va_recv hKc hPc (ci := 11) (q0 := 0) rfl rfl, fun U hU hW => ⟨rfl, Pw.go hPc hKc hDc hamb hS hFc hU hW⟩⟩ rfl rfl hl.1 rfl (lv_room (Nat.le_of_ble_eq_true rfl)) dL_wanted_7 ⟨Nat.le_of_ble_eq_true rfl, Nat.le_of_ble_eq_true rfl⟩) hS (fun q _ h => hFc q h) hFc (fun q _ h => hFc q h) (fun E ce q9 ux tx H1 locs1 htx hvm hpx hBX hz1 hk1 hS hce hcv hcl => ?_) (fun r_1 u t H1 locs1 ht hvm hw hB hz1 hk1 hS => ?_)
  · obtain ⟨rfl, t_2⟩ := hBX
    obtain ⟨hP, hD⟩ := va_rest (wr := [(ou, .inl (cOut, 1, .inr (.inl fO)))]) hP hD [0] [1] rfl rfl (by decide) (by decide) hk1 hFc
    generalize H1 = H at hP hS hce ⊢
    refine vx_widen (k := 1) (n := 6) (Nat.le_of_ble_eq_true rfl) (Nat.le_of_ble_eq_true rfl) ?_
    refine vx_catch (name := "java/lang/IndexOutOfBoundsException") hown [] ⟨0, 12, 15, 23⟩ [⟨0, 12, 19, 13⟩] (by rw [htbl]; rfl) (fun z hz => nomatch hz) (by decide) (by decide) (hts (.classLink RL 23 "java/lang/IndexOutOfBoundsException") (by decide +kernel)) (hamb.use (w := .castable "java/lang/IndexOutOfBoundsException" "java/lang/IndexOutOfBoundsException") (by decide +kernel)) hce hcv hcl ?_
    refine lv_astore (lv' := [(5, .ref q9), (0, .ref h0), (1, .int p0), (2, .int p1), (3, .int p2), (4, .ref ou)]) hx hb dL_wanted_15 hl (by decide) rfl (fun ls hl => ?_)
    refine lv_iconst (v := 1) hx hb dL_wanted_17 (by decide) ?_
    refine W.widen (k := 1) (n := 6) (Nat.le_of_ble_eq_true rfl) (Nat.le_of_ble_eq_true rfl) ?_
    have hP9 := hP.sub (ws' := [(ou, .inl (cOut, 1, .inr (.inl fO)))]) [0] rfl
    have hD9 := hD.sub (ws' := [(ou, .inl (cOut, 1, .inr (.inl fO)))]) [0] (by decide) rfl
    have hK9 := hK.sub (tys' := [(cOut, .long)]) [0] rfl
    exact W.iret (v := 1) hx hb hr (fun t ht hW => ⟨⟨1, (), rfl, rfl, ⟨by rw [ht]; exact hP9, va_K.moved hW.alike hK9, hD9⟩⟩, hS.F ht⟩) hS.2.2 dL_wanted_18
  · exact hw.elim

set_option maxHeartbeats 4000000 in
set_option maxRecDepth 100000 in
theorem c_L_pairs (l : Launch) (hlt : l.stackTraces = false) (em : Nat → Nat) (dC : Nat → ClassId) (dI : Nat → Nat → Nat) (h0 : Nat) (p0 : Int32) (g0 : Value) (g2 : Value) (g3 : Value) (g4 : Value) (g5 : Value) (g6 : Value) (g7 : Value) (g8 : Value) (g9 : Value) (g10 : Value) (g11 : Value) (g12 : Value) (ou : Nat) (cOut : ClassId) (fO : Nat → Int64) (sz : Nat) : Met l yL_pairs wsL_pairs ({ frames := 8, cells := 1, slots := 6, locals := 126 }) (va_Pc [.ref h0, .int p0, .ref ou] (Pw em dC dI sz [(h0, .inr (11, [g0, .int 0, g2, g3, g4, g5, g6, g7, g8, g9, g10, g11, g12])), (ou, .inl (cOut, 1, .inr (.inl fO)))] [(cOut, .long)])) (va_Qi (fun (r : Int32) (_ : Unit) => r = 1) (fun _ t => Qw dC dI (va_A [(h0, .inr (11, [g0, .int 0, g2, g3, g4, g5, g6, g7, g8, g9, g10, g11, g12])), (ou, .inl (cOut, 1, .inr (.inl fO)))] sz) [(ou, .inl (cOut, 1, .inr (.inl fO)))] [(cOut, .long)] t) (va_A [(h0, .inr (11, [g0, .int 0, g2, g3, g4, g5, g6, g7, g8, g9, g10, g11, g12])), (ou, .inl (cOut, 1, .inr (.inl fO)))] sz)) 1 6 (va_A [(h0, .inr (11, [g0, .int 0, g2, g3, g4, g5, g6, g7, g8, g9, g10, g11, g12])), (ou, .inl (cOut, 1, .inr (.inl fO)))] sz) := by
  refine va_MetW (cc := cL_pairs) (maxL := 4) (ret := (some .int)) (hh := [(0, 9, 12, 23)]) (by decide) rfl ?_
  intro p e s m args below meth c s₁ B hml hv
  obtain ⟨rfl, hsz, hP, hK, hD0, hamb⟩ := hv
  have hx := B.exec
  have hb := B.bytes
  have hr := B.returns
  have hts := atoms_spec (ws := wsL_pairs) B.pre
  have hown : s.vm.findClass RL = some m.cls := findClass_of_methodNamed B.named
  have hlocks := B.notSynchronized
  have htbl : c.exceptionTable.toList = tableOf [(0, 9, 12, 23)] := vx_table (x := yL_pairs) B (hts (.codeWith yL_pairs cL_pairs 4 (some .int) [(0, 9, 12, 23)]) List.mem_cons_self)
  subst hsz
  have hD := hD0.self (sz := s.heap.size)
  generalize hAe : va_A [(h0, .inr (11, [g0, .int 0, g2, g3, g4, g5, g6, g7, g8, g9, g10, g11, g12])), (ou, .inl (cOut, 1, .inr (.inl fO)))] s.heap.size = A at hD hamb ⊢
  have hA : ∀ q : Nat, s.heap.size ≤ q → A q := fun q h => by rw [← hAe]; exact Or.inr h
  have hS : va_S A s.heap s.heap [] := va_S.rf
  have hP : va_P (dC, dI) vwCl [(h0, .inr (11, [g0, .int 0, g2, g3, g4, g5, g6, g7, g8, g9, g10, g11, g12])), (ou, .inl (cOut, 1, .inr (.inl fO)))] s.heap := hP
  have hl := lv_entry ([.ref h0, .int p0, .ref ou]) (n := 4) (Nat.le_of_ble_eq_true rfl)
  rw [lg_entry_eq]
  generalize (lg_sl ([.ref h0, .int p0, .ref ou]) ++ List.replicate (4 - (lg_sl ([.ref h0, .int p0, .ref ou])).length) Slot.unset).toArray = ls at hl ⊢
  have hl : lv_has ls 4 [(0, .ref h0), (1, .int p0), (2, .ref ou)] := hl
  refine lv_aload_n hx hb dL_pairs_0 rfl (lv_at hl 2 rfl) ?_
  refine lv_iconst (v := 0) hx hb dL_pairs_1 (by decide) ?_
  refine lv_aload_n hx hb dL_pairs_2 rfl (lv_at hl 0 rfl) ?_
  refine lv_iload_n hx hb dL_pairs_3 rfl (lv_at hl 1 rfl) ?_
  have hPc := hP.sub (ws' := [(h0, .inr (11, [g0, .int 0, g2, g3, g4, g5, g6, g7, g8, g9, g10, g11, g12]))]) [0] rfl
  have hDc := hD.sub (ws' := [(h0, .inr (11, [g0, .int 0, g2, g3, g4, g5, g6, g7, g8, g9, g10, g11, g12]))]) [0] (by decide) rfl
  have hKc := hK.sub (tys' := []) [] rfl
  have hFc := va_free (wc := [(h0, .inr (11, [g0, .int 0, g2, g3, g4, g5, g6, g7, g8, g9, g10, g11, g12]))]) hD hS hA [0] rfl
  refine vx_calli (vx_runV (As := [.int p0]) (rest := [.int 0, .ref ou]) ⟨hx, hb, hml, hown, hts⟩ (c_X5_pairs l hlt em dC dI h0 p0 g0 g2 g3 g4 g5 g6 g7 g8 g9 g10 g11 g12 s.heap.size) (cwV 1 hts gL_pairs_X5_pairs rfl rfl rfl (by decide +kernel) ⟨Nat.le_of_ble_eq_true rfl, Nat.le_of_ble_eq_true rfl⟩) ⟨Pw.blind _ _ _ _ _ _ _, va_recv hKc hPc (ci := 11) (q0 := 0) rfl rfl, fun U hU hW => ⟨rfl, Pw.go hPc hKc hDc hamb hS hFc hU hW⟩⟩ rfl rfl hl.1 rfl (lv_room (Nat.le_of_ble_eq_true rfl)) dL_pairs_4 ⟨Nat.le_of_ble_eq_true rfl, Nat.le_of_ble_eq_true rfl⟩) hS (fun q _ h => hFc q h) hFc (fun q _ h => hFc q h) (fun E ce q9 ux tx H1 locs1 htx hvm hpx hBX hz1 hk1 hS hce hcv hcl => ?_) (fun r_1 u t H1 locs1 ht hvm hw hB hz1 hk1 hS => ?_)
  · obtain ⟨rfl, t_2⟩ := hBX
    obtain ⟨hP, hD⟩ := va_rest (wr := [(ou, .inl (cOut, 1, .inr (.inl fO)))]) hP hD [0] [1] rfl rfl (by decide) (by decide) hk1 hFc
    generalize H1 = H at hP hS hce ⊢
    refine vx_widen (k := 1) (n := 6) (Nat.le_of_ble_eq_true rfl) (Nat.le_of_ble_eq_true rfl) ?_
    refine vx_catch (name := "java/lang/IndexOutOfBoundsException") hown [] ⟨0, 9, 12, 23⟩ [] (by rw [htbl]; rfl) (fun z hz => nomatch hz) (by decide) (by decide) (hts (.classLink RL 23 "java/lang/IndexOutOfBoundsException") (by decide +kernel)) (hamb.use (w := .castable "java/lang/IndexOutOfBoundsException" "java/lang/IndexOutOfBoundsException") (by decide +kernel)) hce hcv hcl ?_
    refine lv_astore_n (lv' := [(3, .ref q9), (0, .ref h0), (1, .int p0), (2, .ref ou)]) hx hb dL_pairs_12 rfl hl (by decide) rfl (fun ls hl => ?_)
    refine lv_iconst (v := 1) hx hb dL_pairs_13 (by decide) ?_
    refine W.widen (k := 1) (n := 6) (Nat.le_of_ble_eq_true rfl) (Nat.le_of_ble_eq_true rfl) ?_
    have hP9 := hP.sub (ws' := [(ou, .inl (cOut, 1, .inr (.inl fO)))]) [0] rfl
    have hD9 := hD.sub (ws' := [(ou, .inl (cOut, 1, .inr (.inl fO)))]) [0] (by decide) rfl
    have hK9 := hK.sub (tys' := [(cOut, .long)]) [0] rfl
    exact W.iret (v := 1) hx hb hr (fun t ht hW => ⟨⟨1, (), rfl, rfl, ⟨by rw [ht]; exact hP9, va_K.moved hW.alike hK9, hD9⟩⟩, hS.F ht⟩) hS.2.2 dL_pairs_14
  · exact hw.elim

set_option maxHeartbeats 4000000 in
set_option maxRecDepth 100000 in
theorem c_L_canPlan (l : Launch) (hlt : l.stackTraces = false) (em : Nat → Nat) (dC : Nat → ClassId) (dI : Nat → Nat → Nat) (h0 : Nat) (p0 : Int32) (p1 : Int32) (g0 : Value) (g2 : Value) (g3 : Value) (g4 : Value) (g5 : Value) (g6 : Value) (g7 : Value) (g8 : Value) (g9 : Value) (g10 : Value) (g11 : Value) (g12 : Value) (ou : Nat) (cOut : ClassId) (fO : Nat → Int64) (sz : Nat) : Met l yL_canPlan wsL_canPlan ({ frames := 8, cells := 1, slots := 6, locals := 125 }) (va_Pc [.ref h0, .int p0, .int p1, .ref ou] (Pw em dC dI sz [(h0, .inr (11, [g0, .int 0, g2, g3, g4, g5, g6, g7, g8, g9, g10, g11, g12])), (ou, .inl (cOut, 1, .inr (.inl fO)))] [(cOut, .long)])) (va_Qi (fun (r : Int32) (_ : Unit) => r = 1) (fun _ t => Qw dC dI (va_A [(h0, .inr (11, [g0, .int 0, g2, g3, g4, g5, g6, g7, g8, g9, g10, g11, g12])), (ou, .inl (cOut, 1, .inr (.inl fO)))] sz) [(ou, .inl (cOut, 1, .inr (.inl fO)))] [(cOut, .long)] t) (va_A [(h0, .inr (11, [g0, .int 0, g2, g3, g4, g5, g6, g7, g8, g9, g10, g11, g12])), (ou, .inl (cOut, 1, .inr (.inl fO)))] sz)) 1 6 (va_A [(h0, .inr (11, [g0, .int 0, g2, g3, g4, g5, g6, g7, g8, g9, g10, g11, g12])), (ou, .inl (cOut, 1, .inr (.inl fO)))] sz) := by
  refine va_MetW (cc := cL_canPlan) (maxL := 5) (ret := (some .int)) (hh := [(0, 17, 20, 23), (0, 17, 24, 13)]) (by decide) rfl ?_
  intro p e s m args below meth c s₁ B hml hv
  obtain ⟨rfl, hsz, hP, hK, hD0, hamb⟩ := hv
  have hx := B.exec
  have hb := B.bytes
  have hr := B.returns
  have hts := atoms_spec (ws := wsL_canPlan) B.pre
  have hown : s.vm.findClass RL = some m.cls := findClass_of_methodNamed B.named
  have hlocks := B.notSynchronized
  have htbl : c.exceptionTable.toList = tableOf [(0, 17, 20, 23), (0, 17, 24, 13)] := vx_table (x := yL_canPlan) B (hts (.codeWith yL_canPlan cL_canPlan 5 (some .int) [(0, 17, 20, 23), (0, 17, 24, 13)]) List.mem_cons_self)
  subst hsz
  have hD := hD0.self (sz := s.heap.size)
  generalize hAe : va_A [(h0, .inr (11, [g0, .int 0, g2, g3, g4, g5, g6, g7, g8, g9, g10, g11, g12])), (ou, .inl (cOut, 1, .inr (.inl fO)))] s.heap.size = A at hD hamb ⊢
  have hA : ∀ q : Nat, s.heap.size ≤ q → A q := fun q h => by rw [← hAe]; exact Or.inr h
  have hS : va_S A s.heap s.heap [] := va_S.rf
  have hP : va_P (dC, dI) vwCl [(h0, .inr (11, [g0, .int 0, g2, g3, g4, g5, g6, g7, g8, g9, g10, g11, g12])), (ou, .inl (cOut, 1, .inr (.inl fO)))] s.heap := hP
  have hl := lv_entry ([.ref h0, .int p0, .int p1, .ref ou]) (n := 5) (Nat.le_of_ble_eq_true rfl)
  rw [lg_entry_eq]
  generalize (lg_sl ([.ref h0, .int p0, .int p1, .ref ou]) ++ List.replicate (5 - (lg_sl ([.ref h0, .int p0, .int p1, .ref ou])).length) Slot.unset).toArray = ls at hl ⊢
  have hl : lv_has ls 5 [(0, .ref h0), (1, .int p0), (2, .int p1), (3, .ref ou)] := hl
  refine lv_aload_n hx hb dL_canPlan_0 rfl (lv_at hl 3 rfl) ?_
  refine lv_iconst (v := 0) hx hb dL_canPlan_1 (by decide) ?_
  refine lv_aload_n hx hb dL_canPlan_2 rfl (lv_at hl 0 rfl) ?_
  refine lv_iload_n hx hb dL_canPlan_3 rfl (lv_at hl 1 rfl) ?_
  refine lv_iload_n hx hb dL_canPlan_4 rfl (lv_at hl 2 rfl) ?_
  have hPc := hP.sub (ws' := [(h0, .inr (11, [g0, .int 0, g2, g3, g4, g5, g6, g7, g8, g9, g10, g11, g12]))]) [0] rfl
  have hDc := hD.sub (ws' := [(h0, .inr (11, [g0, .int 0, g2, g3, g4, g5, g6, g7, g8, g9, g10, g11, g12]))]) [0] (by decide) rfl
  have hKc := hK.sub (tys' := []) [] rfl
  have hFc := va_free (wc := [(h0, .inr (11, [g0, .int 0, g2, g3, g4, g5, g6, g7, g8, g9, g10, g11, g12]))]) hD hS hA [0] rfl
  refine vx_calli (vx_runV (As := [.int p0, .int p1]) (rest := [.int 0, .ref ou]) ⟨hx, hb, hml, hown, hts⟩ (c_X5_canPlan l hlt em dC dI h0 p0 p1 g0 g2 g3 g4 g5 g6 g7 g8 g9 g10 g11 g12 s.heap.size) (cwV 2 hts gL_canPlan_X5_canPlan rfl rfl rfl (by decide +kernel) ⟨Nat.le_of_ble_eq_true rfl, Nat.le_of_ble_eq_true rfl⟩) ⟨Pw.blind _ _ _ _ _ _ _, va_recv hKc hPc (ci := 11) (q0 := 0) rfl rfl, fun U hU hW => ⟨rfl, Pw.go hPc hKc hDc hamb hS hFc hU hW⟩⟩ rfl rfl hl.1 rfl (lv_room (Nat.le_of_ble_eq_true rfl)) dL_canPlan_5 ⟨Nat.le_of_ble_eq_true rfl, Nat.le_of_ble_eq_true rfl⟩) hS (fun q _ h => hFc q h) hFc (fun q _ h => hFc q h) (fun E ce q9 ux tx H1 locs1 htx hvm hpx hBX hz1 hk1 hS hce hcv hcl => ?_) (fun r_1 u t H1 locs1 ht hvm hw hB hz1 hk1 hS => ?_)
  · obtain ⟨rfl, t_2⟩ := hBX
    obtain ⟨hP, hD⟩ := va_rest (wr := [(ou, .inl (cOut, 1, .inr (.inl fO)))]) hP hD [0] [1] rfl rfl (by decide) (by decide) hk1 hFc
    generalize H1 = H at hP hS hce ⊢
    refine vx_widen (k := 1) (n := 6) (Nat.le_of_ble_eq_true rfl) (Nat.le_of_ble_eq_true rfl) ?_
    refine vx_catch (name := "java/lang/IndexOutOfBoundsException") hown [] ⟨0, 17, 20, 23⟩ [⟨0, 17, 24, 13⟩] (by rw [htbl]; rfl) (fun z hz => nomatch hz) (by decide) (by decide) (hts (.classLink RL 23 "java/lang/IndexOutOfBoundsException") (by decide +kernel)) (hamb.use (w := .castable "java/lang/IndexOutOfBoundsException" "java/lang/IndexOutOfBoundsException") (by decide +kernel)) hce hcv hcl ?_
    refine lv_astore (lv' := [(4, .ref q9), (0, .ref h0), (1, .int p0), (2, .int p1), (3, .ref ou)]) hx hb dL_canPlan_20 hl (by decide) rfl (fun ls hl => ?_)
    refine lv_iconst (v := 1) hx hb dL_canPlan_22 (by decide) ?_
    refine W.widen (k := 1) (n := 6) (Nat.le_of_ble_eq_true rfl) (Nat.le_of_ble_eq_true rfl) ?_
    have hP9 := hP.sub (ws' := [(ou, .inl (cOut, 1, .inr (.inl fO)))]) [0] rfl
    have hD9 := hD.sub (ws' := [(ou, .inl (cOut, 1, .inr (.inl fO)))]) [0] (by decide) rfl
    have hK9 := hK.sub (tys' := [(cOut, .long)]) [0] rfl
    exact W.iret (v := 1) hx hb hr (fun t ht hW => ⟨⟨1, (), rfl, rfl, ⟨by rw [ht]; exact hP9, va_K.moved hW.alike hK9, hD9⟩⟩, hS.F ht⟩) hS.2.2 dL_canPlan_23
  · exact hw.elim

set_option maxHeartbeats 4000000 in
set_option maxRecDepth 100000 in
theorem c_L_reversals (l : Launch) (hlt : l.stackTraces = false) (em : Nat → Nat) (dC : Nat → ClassId) (dI : Nat → Nat → Nat) (h0 : Nat) (p0 : Int32) (p1 : Int32) (g0 : Value) (g2 : Value) (g3 : Value) (g4 : Value) (g5 : Value) (g6 : Value) (g7 : Value) (g8 : Value) (g9 : Value) (g10 : Value) (g11 : Value) (g12 : Value) (ou : Nat) (cOut : ClassId) (fO : Nat → Int64) (sz : Nat) : Met l yL_reversals wsL_reversals ({ frames := 8, cells := 1, slots := 6, locals := 127 }) (va_Pc [.ref h0, .int p0, .int p1, .ref ou] (Pw em dC dI sz [(h0, .inr (11, [g0, .int 0, g2, g3, g4, g5, g6, g7, g8, g9, g10, g11, g12])), (ou, .inl (cOut, 1, .inr (.inl fO)))] [(cOut, .long)])) (va_Qi (fun (r : Int32) (_ : Unit) => r = 1) (fun _ t => Qw dC dI (va_A [(h0, .inr (11, [g0, .int 0, g2, g3, g4, g5, g6, g7, g8, g9, g10, g11, g12])), (ou, .inl (cOut, 1, .inr (.inl fO)))] sz) [(ou, .inl (cOut, 1, .inr (.inl fO)))] [(cOut, .long)] t) (va_A [(h0, .inr (11, [g0, .int 0, g2, g3, g4, g5, g6, g7, g8, g9, g10, g11, g12])), (ou, .inl (cOut, 1, .inr (.inl fO)))] sz)) 1 6 (va_A [(h0, .inr (11, [g0, .int 0, g2, g3, g4, g5, g6, g7, g8, g9, g10, g11, g12])), (ou, .inl (cOut, 1, .inr (.inl fO)))] sz) := by
  refine va_MetW (cc := cL_reversals) (maxL := 5) (ret := (some .int)) (hh := [(0, 10, 13, 23), (0, 10, 17, 13), (0, 10, 21, 88)]) (by decide) rfl ?_
  intro p e s m args below meth c s₁ B hml hv
  obtain ⟨rfl, hsz, hP, hK, hD0, hamb⟩ := hv
  have hx := B.exec
  have hb := B.bytes
  have hr := B.returns
  have hts := atoms_spec (ws := wsL_reversals) B.pre
  have hown : s.vm.findClass RL = some m.cls := findClass_of_methodNamed B.named
  have hlocks := B.notSynchronized
  have htbl : c.exceptionTable.toList = tableOf [(0, 10, 13, 23), (0, 10, 17, 13), (0, 10, 21, 88)] := vx_table (x := yL_reversals) B (hts (.codeWith yL_reversals cL_reversals 5 (some .int) [(0, 10, 13, 23), (0, 10, 17, 13), (0, 10, 21, 88)]) List.mem_cons_self)
  subst hsz
  have hD := hD0.self (sz := s.heap.size)
  generalize hAe : va_A [(h0, .inr (11, [g0, .int 0, g2, g3, g4, g5, g6, g7, g8, g9, g10, g11, g12])), (ou, .inl (cOut, 1, .inr (.inl fO)))] s.heap.size = A at hD hamb ⊢
  have hA : ∀ q : Nat, s.heap.size ≤ q → A q := fun q h => by rw [← hAe]; exact Or.inr h
  have hS : va_S A s.heap s.heap [] := va_S.rf
  have hP : va_P (dC, dI) vwCl [(h0, .inr (11, [g0, .int 0, g2, g3, g4, g5, g6, g7, g8, g9, g10, g11, g12])), (ou, .inl (cOut, 1, .inr (.inl fO)))] s.heap := hP
  have hl := lv_entry ([.ref h0, .int p0, .int p1, .ref ou]) (n := 5) (Nat.le_of_ble_eq_true rfl)
  rw [lg_entry_eq]
  generalize (lg_sl ([.ref h0, .int p0, .int p1, .ref ou]) ++ List.replicate (5 - (lg_sl ([.ref h0, .int p0, .int p1, .ref ou])).length) Slot.unset).toArray = ls at hl ⊢
  have hl : lv_has ls 5 [(0, .ref h0), (1, .int p0), (2, .int p1), (3, .ref ou)] := hl
  refine lv_aload_n hx hb dL_reversals_0 rfl (lv_at hl 3 rfl) ?_
  refine lv_iconst (v := 0) hx hb dL_reversals_1 (by decide) ?_
  refine lv_aload_n hx hb dL_reversals_2 rfl (lv_at hl 0 rfl) ?_
  refine lv_iload_n hx hb dL_reversals_3 rfl (lv_at hl 1 rfl) ?_
  refine lv_iload_n hx hb dL_reversals_4 rfl (lv_at hl 2 rfl) ?_
  have hPc := hP.sub (ws' := [(h0, .inr (11, [g0, .int 0, g2, g3, g4, g5, g6, g7, g8, g9, g10, g11, g12]))]) [0] rfl
  have hDc := hD.sub (ws' := [(h0, .inr (11, [g0, .int 0, g2, g3, g4, g5, g6, g7, g8, g9, g10, g11, g12]))]) [0] (by decide) rfl
  have hKc := hK.sub (tys' := []) [] rfl
  have hFc := va_free (wc := [(h0, .inr (11, [g0, .int 0, g2, g3, g4, g5, g6, g7, g8, g9, g10, g11, g12]))]) hD hS hA [0] rfl
  refine vx_calli (vx_runV (As := [.int p0, .int p1]) (rest := [.int 0, .ref ou]) ⟨hx, hb, hml, hown, hts⟩ (c_X5_reversals l hlt em dC dI h0 p0 p1 g0 g2 g3 g4 g5 g6 g7 g8 g9 g10 g11 g12 s.heap.size) (cwV 2 hts gL_reversals_X5_reversals rfl rfl rfl (by decide +kernel) ⟨Nat.le_of_ble_eq_true rfl, Nat.le_of_ble_eq_true rfl⟩) ⟨Pw.blind _ _ _ _ _ _ _, va_recv hKc hPc (ci := 11) (q0 := 0) rfl rfl, fun U hU hW => ⟨rfl, Pw.go hPc hKc hDc hamb hS hFc hU hW⟩⟩ rfl rfl hl.1 rfl (lv_room (Nat.le_of_ble_eq_true rfl)) dL_reversals_5 ⟨Nat.le_of_ble_eq_true rfl, Nat.le_of_ble_eq_true rfl⟩) hS (fun q _ h => hFc q h) hFc (fun q _ h => hFc q h) (fun E ce q9 ux tx H1 locs1 htx hvm hpx hBX hz1 hk1 hS hce hcv hcl => ?_) (fun r_1 u t H1 locs1 ht hvm hw hB hz1 hk1 hS => ?_)
  · obtain ⟨rfl, t_2⟩ := hBX
    obtain ⟨hP, hD⟩ := va_rest (wr := [(ou, .inl (cOut, 1, .inr (.inl fO)))]) hP hD [0] [1] rfl rfl (by decide) (by decide) hk1 hFc
    generalize H1 = H at hP hS hce ⊢
    refine vx_widen (k := 1) (n := 6) (Nat.le_of_ble_eq_true rfl) (Nat.le_of_ble_eq_true rfl) ?_
    refine vx_catch (name := "java/lang/IndexOutOfBoundsException") hown [] ⟨0, 10, 13, 23⟩ [⟨0, 10, 17, 13⟩, ⟨0, 10, 21, 88⟩] (by rw [htbl]; rfl) (fun z hz => nomatch hz) (by decide) (by decide) (hts (.classLink RL 23 "java/lang/IndexOutOfBoundsException") (by decide +kernel)) (hamb.use (w := .castable "java/lang/IndexOutOfBoundsException" "java/lang/IndexOutOfBoundsException") (by decide +kernel)) hce hcv hcl ?_
    refine lv_astore (lv' := [(4, .ref q9), (0, .ref h0), (1, .int p0), (2, .int p1), (3, .ref ou)]) hx hb dL_reversals_13 hl (by decide) rfl (fun ls hl => ?_)
    refine lv_iconst (v := 1) hx hb dL_reversals_15 (by decide) ?_
    refine W.widen (k := 1) (n := 6) (Nat.le_of_ble_eq_true rfl) (Nat.le_of_ble_eq_true rfl) ?_
    have hP9 := hP.sub (ws' := [(ou, .inl (cOut, 1, .inr (.inl fO)))]) [0] rfl
    have hD9 := hD.sub (ws' := [(ou, .inl (cOut, 1, .inr (.inl fO)))]) [0] (by decide) rfl
    have hK9 := hK.sub (tys' := [(cOut, .long)]) [0] rfl
    exact W.iret (v := 1) hx hb hr (fun t ht hW => ⟨⟨1, (), rfl, rfl, ⟨by rw [ht]; exact hP9, va_K.moved hW.alike hK9, hD9⟩⟩, hS.F ht⟩) hS.2.2 dL_reversals_16
  · exact hw.elim

set_option maxHeartbeats 4000000 in
set_option maxRecDepth 100000 in
theorem c_L_planAt (l : Launch) (hlt : l.stackTraces = false) (em : Nat → Nat) (dC : Nat → ClassId) (dI : Nat → Nat → Nat) (h0 : Nat) (p0 : Int32) (p1 : Int32) (p2 : Int32) (g0 : Value) (g2 : Value) (g3 : Value) (g4 : Value) (g5 : Value) (g6 : Value) (g7 : Value) (g8 : Value) (g9 : Value) (g10 : Value) (g11 : Value) (g12 : Value) (ou : Nat) (cOut : ClassId) (fO : Nat → Int64) (sz : Nat) : Met l yL_planAt wsL_planAt ({ frames := 8, cells := 1, slots := 6, locals := 128 }) (va_Pc [.ref h0, .int p0, .int p1, .int p2, .ref ou] (Pw em dC dI sz [(h0, .inr (11, [g0, .int 0, g2, g3, g4, g5, g6, g7, g8, g9, g10, g11, g12])), (ou, .inl (cOut, 1, .inr (.inl fO)))] [(cOut, .long)])) (va_Qi (fun (r : Int32) (_ : Unit) => r = 1) (fun _ t => Qw dC dI (va_A [(h0, .inr (11, [g0, .int 0, g2, g3, g4, g5, g6, g7, g8, g9, g10, g11, g12])), (ou, .inl (cOut, 1, .inr (.inl fO)))] sz) [(ou, .inl (cOut, 1, .inr (.inl fO)))] [(cOut, .long)] t) (va_A [(h0, .inr (11, [g0, .int 0, g2, g3, g4, g5, g6, g7, g8, g9, g10, g11, g12])), (ou, .inl (cOut, 1, .inr (.inl fO)))] sz)) 1 6 (va_A [(h0, .inr (11, [g0, .int 0, g2, g3, g4, g5, g6, g7, g8, g9, g10, g11, g12])), (ou, .inl (cOut, 1, .inr (.inl fO)))] sz) := by
  refine va_MetW (cc := cL_planAt) (maxL := 6) (ret := (some .int)) (hh := [(0, 12, 15, 23), (0, 12, 19, 13), (0, 12, 23, 88)]) (by decide) rfl ?_
  intro p e s m args below meth c s₁ B hml hv
  obtain ⟨rfl, hsz, hP, hK, hD0, hamb⟩ := hv
  have hx := B.exec
  have hb := B.bytes
  have hr := B.returns
  have hts := atoms_spec (ws := wsL_planAt) B.pre
  have hown : s.vm.findClass RL = some m.cls := findClass_of_methodNamed B.named
  have hlocks := B.notSynchronized
  have htbl : c.exceptionTable.toList = tableOf [(0, 12, 15, 23), (0, 12, 19, 13), (0, 12, 23, 88)] := vx_table (x := yL_planAt) B (hts (.codeWith yL_planAt cL_planAt 6 (some .int) [(0, 12, 15, 23), (0, 12, 19, 13), (0, 12, 23, 88)]) List.mem_cons_self)
  subst hsz
  have hD := hD0.self (sz := s.heap.size)
  generalize hAe : va_A [(h0, .inr (11, [g0, .int 0, g2, g3, g4, g5, g6, g7, g8, g9, g10, g11, g12])), (ou, .inl (cOut, 1, .inr (.inl fO)))] s.heap.size = A at hD hamb ⊢
  have hA : ∀ q : Nat, s.heap.size ≤ q → A q := fun q h => by rw [← hAe]; exact Or.inr h
  have hS : va_S A s.heap s.heap [] := va_S.rf
  have hP : va_P (dC, dI) vwCl [(h0, .inr (11, [g0, .int 0, g2, g3, g4, g5, g6, g7, g8, g9, g10, g11, g12])), (ou, .inl (cOut, 1, .inr (.inl fO)))] s.heap := hP
  have hl := lv_entry ([.ref h0, .int p0, .int p1, .int p2, .ref ou]) (n := 6) (Nat.le_of_ble_eq_true rfl)
  rw [lg_entry_eq]
  generalize (lg_sl ([.ref h0, .int p0, .int p1, .int p2, .ref ou]) ++ List.replicate (6 - (lg_sl ([.ref h0, .int p0, .int p1, .int p2, .ref ou])).length) Slot.unset).toArray = ls at hl ⊢
  have hl : lv_has ls 6 [(0, .ref h0), (1, .int p0), (2, .int p1), (3, .int p2), (4, .ref ou)] := hl
  refine lv_aload hx hb dL_planAt_0 (lv_at hl 4 rfl) ?_
  refine lv_iconst (v := 0) hx hb dL_planAt_2 (by decide) ?_
  refine lv_aload_n hx hb dL_planAt_3 rfl (lv_at hl 0 rfl) ?_
  refine lv_iload_n hx hb dL_planAt_4 rfl (lv_at hl 1 rfl) ?_
  refine lv_iload_n hx hb dL_planAt_5 rfl (lv_at hl 2 rfl) ?_
  refine lv_iload_n hx hb dL_planAt_6 rfl (lv_at hl 3 rfl) ?_
  have hPc := hP.sub (ws' := [(h0, .inr (11, [g0, .int 0, g2, g3, g4, g5, g6, g7, g8, g9, g10, g11, g12]))]) [0] rfl
  have hDc := hD.sub (ws' := [(h0, .inr (11, [g0, .int 0, g2, g3, g4, g5, g6, g7, g8, g9, g10, g11, g12]))]) [0] (by decide) rfl
  have hKc := hK.sub (tys' := []) [] rfl
  have hFc := va_free (wc := [(h0, .inr (11, [g0, .int 0, g2, g3, g4, g5, g6, g7, g8, g9, g10, g11, g12]))]) hD hS hA [0] rfl
  refine vx_calli (vx_runV (As := [.int p0, .int p1, .int p2]) (rest := [.int 0, .ref ou]) ⟨hx, hb, hml, hown, hts⟩ (c_X5_planAt l hlt em dC dI h0 p0 p1 p2 g0 g2 g3 g4 g5 g6 g7 g8 g9 g10 g11 g12 s.heap.size) (cwV 3 hts gL_planAt_X5_planAt rfl rfl rfl (by decide +kernel) ⟨Nat.le_of_ble_eq_true rfl, Nat.le_of_ble_eq_true rfl⟩) ⟨Pw.blind _ _ _ _ _ _ _, va_recv hKc hPc (ci := 11) (q0 := 0) rfl rfl, fun U hU hW => ⟨rfl, Pw.go hPc hKc hDc hamb hS hFc hU hW⟩⟩ rfl rfl hl.1 rfl (lv_room (Nat.le_of_ble_eq_true rfl)) dL_planAt_7 ⟨Nat.le_of_ble_eq_true rfl, Nat.le_of_ble_eq_true rfl⟩) hS (fun q _ h => hFc q h) hFc (fun q _ h => hFc q h) (fun E ce q9 ux tx H1 locs1 htx hvm hpx hBX hz1 hk1 hS hce hcv hcl => ?_) (fun r_1 u t H1 locs1 ht hvm hw hB hz1 hk1 hS => ?_)
  · obtain ⟨rfl, t_2⟩ := hBX
    obtain ⟨hP, hD⟩ := va_rest (wr := [(ou, .inl (cOut, 1, .inr (.inl fO)))]) hP hD [0] [1] rfl rfl (by decide) (by decide) hk1 hFc
    generalize H1 = H at hP hS hce ⊢
    refine vx_widen (k := 1) (n := 6) (Nat.le_of_ble_eq_true rfl) (Nat.le_of_ble_eq_true rfl) ?_
    refine vx_catch (name := "java/lang/IndexOutOfBoundsException") hown [] ⟨0, 12, 15, 23⟩ [⟨0, 12, 19, 13⟩, ⟨0, 12, 23, 88⟩] (by rw [htbl]; rfl) (fun z hz => nomatch hz) (by decide) (by decide) (hts (.classLink RL 23 "java/lang/IndexOutOfBoundsException") (by decide +kernel)) (hamb.use (w := .castable "java/lang/IndexOutOfBoundsException" "java/lang/IndexOutOfBoundsException") (by decide +kernel)) hce hcv hcl ?_
    refine lv_astore (lv' := [(5, .ref q9), (0, .ref h0), (1, .int p0), (2, .int p1), (3, .int p2), (4, .ref ou)]) hx hb dL_planAt_15 hl (by decide) rfl (fun ls hl => ?_)
    refine lv_iconst (v := 1) hx hb dL_planAt_17 (by decide) ?_
    refine W.widen (k := 1) (n := 6) (Nat.le_of_ble_eq_true rfl) (Nat.le_of_ble_eq_true rfl) ?_
    have hP9 := hP.sub (ws' := [(ou, .inl (cOut, 1, .inr (.inl fO)))]) [0] rfl
    have hD9 := hD.sub (ws' := [(ou, .inl (cOut, 1, .inr (.inl fO)))]) [0] (by decide) rfl
    have hK9 := hK.sub (tys' := [(cOut, .long)]) [0] rfl
    exact W.iret (v := 1) hx hb hr (fun t ht hW => ⟨⟨1, (), rfl, rfl, ⟨by rw [ht]; exact hP9, va_K.moved hW.alike hK9, hD9⟩⟩, hS.F ht⟩) hS.2.2 dL_planAt_18
  · exact hw.elim

set_option maxHeartbeats 4000000 in
set_option maxRecDepth 100000 in
theorem c_L_faultsOf (l : Launch) (hlt : l.stackTraces = false) (em : Nat → Nat) (dC : Nat → ClassId) (dI : Nat → Nat → Nat) (h0 : Nat) (p0 : Int32) (g0 : Value) (g2 : Value) (g3 : Value) (g4 : Value) (g5 : Value) (g6 : Value) (g7 : Value) (g8 : Value) (g9 : Value) (g10 : Value) (g11 : Value) (g12 : Value) (ou : Nat) (cOut : ClassId) (fO : Nat → Int64) (sz : Nat) : Met l yL_faultsOf wsL_faultsOf ({ frames := 8, cells := 1, slots := 6, locals := 124 }) (va_Pc [.ref h0, .int p0, .ref ou] (Pw em dC dI sz [(h0, .inr (11, [g0, .int 0, g2, g3, g4, g5, g6, g7, g8, g9, g10, g11, g12])), (ou, .inl (cOut, 1, .inr (.inl fO)))] [(cOut, .long)])) (va_Qi (fun (r : Int32) (_ : Unit) => r = 1) (fun _ t => Qw dC dI (va_A [(h0, .inr (11, [g0, .int 0, g2, g3, g4, g5, g6, g7, g8, g9, g10, g11, g12])), (ou, .inl (cOut, 1, .inr (.inl fO)))] sz) [(ou, .inl (cOut, 1, .inr (.inl fO)))] [(cOut, .long)] t) (va_A [(h0, .inr (11, [g0, .int 0, g2, g3, g4, g5, g6, g7, g8, g9, g10, g11, g12])), (ou, .inl (cOut, 1, .inr (.inl fO)))] sz)) 1 6 (va_A [(h0, .inr (11, [g0, .int 0, g2, g3, g4, g5, g6, g7, g8, g9, g10, g11, g12])), (ou, .inl (cOut, 1, .inr (.inl fO)))] sz) := by
  refine va_MetW (cc := cL_faultsOf) (maxL := 4) (ret := (some .int)) (hh := [(0, 9, 12, 23)]) (by decide) rfl ?_
  intro p e s m args below meth c s₁ B hml hv
  obtain ⟨rfl, hsz, hP, hK, hD0, hamb⟩ := hv
  have hx := B.exec
  have hb := B.bytes
  have hr := B.returns
  have hts := atoms_spec (ws := wsL_faultsOf) B.pre
  have hown : s.vm.findClass RL = some m.cls := findClass_of_methodNamed B.named
  have hlocks := B.notSynchronized
  have htbl : c.exceptionTable.toList = tableOf [(0, 9, 12, 23)] := vx_table (x := yL_faultsOf) B (hts (.codeWith yL_faultsOf cL_faultsOf 4 (some .int) [(0, 9, 12, 23)]) List.mem_cons_self)
  subst hsz
  have hD := hD0.self (sz := s.heap.size)
  generalize hAe : va_A [(h0, .inr (11, [g0, .int 0, g2, g3, g4, g5, g6, g7, g8, g9, g10, g11, g12])), (ou, .inl (cOut, 1, .inr (.inl fO)))] s.heap.size = A at hD hamb ⊢
  have hA : ∀ q : Nat, s.heap.size ≤ q → A q := fun q h => by rw [← hAe]; exact Or.inr h
  have hS : va_S A s.heap s.heap [] := va_S.rf
  have hP : va_P (dC, dI) vwCl [(h0, .inr (11, [g0, .int 0, g2, g3, g4, g5, g6, g7, g8, g9, g10, g11, g12])), (ou, .inl (cOut, 1, .inr (.inl fO)))] s.heap := hP
  have hl := lv_entry ([.ref h0, .int p0, .ref ou]) (n := 4) (Nat.le_of_ble_eq_true rfl)
  rw [lg_entry_eq]
  generalize (lg_sl ([.ref h0, .int p0, .ref ou]) ++ List.replicate (4 - (lg_sl ([.ref h0, .int p0, .ref ou])).length) Slot.unset).toArray = ls at hl ⊢
  have hl : lv_has ls 4 [(0, .ref h0), (1, .int p0), (2, .ref ou)] := hl
  refine lv_aload_n hx hb dL_faultsOf_0 rfl (lv_at hl 2 rfl) ?_
  refine lv_iconst (v := 0) hx hb dL_faultsOf_1 (by decide) ?_
  refine lv_aload_n hx hb dL_faultsOf_2 rfl (lv_at hl 0 rfl) ?_
  refine lv_iload_n hx hb dL_faultsOf_3 rfl (lv_at hl 1 rfl) ?_
  have hPc := hP.sub (ws' := [(h0, .inr (11, [g0, .int 0, g2, g3, g4, g5, g6, g7, g8, g9, g10, g11, g12]))]) [0] rfl
  have hDc := hD.sub (ws' := [(h0, .inr (11, [g0, .int 0, g2, g3, g4, g5, g6, g7, g8, g9, g10, g11, g12]))]) [0] (by decide) rfl
  have hKc := hK.sub (tys' := []) [] rfl
  have hFc := va_free (wc := [(h0, .inr (11, [g0, .int 0, g2, g3, g4, g5, g6, g7, g8, g9, g10, g11, g12]))]) hD hS hA [0] rfl
  refine vx_calli (vx_runV (As := [.int p0]) (rest := [.int 0, .ref ou]) ⟨hx, hb, hml, hown, hts⟩ (c_X5_faultsOf l hlt em dC dI h0 p0 g0 g2 g3 g4 g5 g6 g7 g8 g9 g10 g11 g12 s.heap.size) (cwV 1 hts gL_faultsOf_X5_faultsOf rfl rfl rfl (by decide +kernel) ⟨Nat.le_of_ble_eq_true rfl, Nat.le_of_ble_eq_true rfl⟩) ⟨Pw.blind _ _ _ _ _ _ _, va_recv hKc hPc (ci := 11) (q0 := 0) rfl rfl, fun U hU hW => ⟨rfl, Pw.go hPc hKc hDc hamb hS hFc hU hW⟩⟩ rfl rfl hl.1 rfl (lv_room (Nat.le_of_ble_eq_true rfl)) dL_faultsOf_4 ⟨Nat.le_of_ble_eq_true rfl, Nat.le_of_ble_eq_true rfl⟩) hS (fun q _ h => hFc q h) hFc (fun q _ h => hFc q h) (fun E ce q9 ux tx H1 locs1 htx hvm hpx hBX hz1 hk1 hS hce hcv hcl => ?_) (fun r_1 u t H1 locs1 ht hvm hw hB hz1 hk1 hS => ?_)
  · obtain ⟨rfl, t_2⟩ := hBX
    obtain ⟨hP, hD⟩ := va_rest (wr := [(ou, .inl (cOut, 1, .inr (.inl fO)))]) hP hD [0] [1] rfl rfl (by decide) (by decide) hk1 hFc
    generalize H1 = H at hP hS hce ⊢
    refine vx_widen (k := 1) (n := 6) (Nat.le_of_ble_eq_true rfl) (Nat.le_of_ble_eq_true rfl) ?_
    refine vx_catch (name := "java/lang/IndexOutOfBoundsException") hown [] ⟨0, 9, 12, 23⟩ [] (by rw [htbl]; rfl) (fun z hz => nomatch hz) (by decide) (by decide) (hts (.classLink RL 23 "java/lang/IndexOutOfBoundsException") (by decide +kernel)) (hamb.use (w := .castable "java/lang/IndexOutOfBoundsException" "java/lang/IndexOutOfBoundsException") (by decide +kernel)) hce hcv hcl ?_
    refine lv_astore_n (lv' := [(3, .ref q9), (0, .ref h0), (1, .int p0), (2, .ref ou)]) hx hb dL_faultsOf_12 rfl hl (by decide) rfl (fun ls hl => ?_)
    refine lv_iconst (v := 1) hx hb dL_faultsOf_13 (by decide) ?_
    refine W.widen (k := 1) (n := 6) (Nat.le_of_ble_eq_true rfl) (Nat.le_of_ble_eq_true rfl) ?_
    have hP9 := hP.sub (ws' := [(ou, .inl (cOut, 1, .inr (.inl fO)))]) [0] rfl
    have hD9 := hD.sub (ws' := [(ou, .inl (cOut, 1, .inr (.inl fO)))]) [0] (by decide) rfl
    have hK9 := hK.sub (tys' := [(cOut, .long)]) [0] rfl
    exact W.iret (v := 1) hx hb hr (fun t ht hW => ⟨⟨1, (), rfl, rfl, ⟨by rw [ht]; exact hP9, va_K.moved hW.alike hK9, hD9⟩⟩, hS.F ht⟩) hS.2.2 dL_faultsOf_14
  · exact hw.elim

set_option maxHeartbeats 4000000 in
set_option maxRecDepth 100000 in
theorem c_L_firstFault (l : Launch) (hlt : l.stackTraces = false) (em : Nat → Nat) (dC : Nat → ClassId) (dI : Nat → Nat → Nat) (h0 : Nat) (g0 : Value) (g1 : Value) (g3 : Value) (g4 : Value) (g5 : Value) (g6 : Value) (g7 : Value) (g8 : Value) (g9 : Value) (g10 : Value) (g11 : Value) (g12 : Value) (ou : Nat) (cOut : ClassId) (fO : Nat → Int64) (sz : Nat) : Met l yL_firstFault wsL_firstFault ({ frames := 7, cells := 1, slots := 6, locals := 104 }) (va_Pc [.ref h0, .ref ou] (Pw em dC dI sz [(h0, .inr (11, [g0, g1, .int 0, g3, g4, g5, g6, g7, g8, g9, g10, g11, g12])), (ou, .inl (cOut, 1, .inr (.inl fO)))] [(cOut, .long)])) (va_Qi (fun (r : Int32) (_ : Unit) => r = 1) (fun _ t => Qw dC dI (va_A [(h0, .inr (11, [g0, g1, .int 0, g3, g4, g5, g6, g7, g8, g9, g10, g11, g12])), (ou, .inl (cOut, 1, .inr (.inl fO)))] sz) [(ou, .inl (cOut, 1, .inr (.inl fO)))] [(cOut, .long)] t) (va_A [(h0, .inr (11, [g0, g1, .int 0, g3, g4, g5, g6, g7, g8, g9, g10, g11, g12])), (ou, .inl (cOut, 1, .inr (.inl fO)))] sz)) 1 6 (va_A [(h0, .inr (11, [g0, g1, .int 0, g3, g4, g5, g6, g7, g8, g9, g10, g11, g12])), (ou, .inl (cOut, 1, .inr (.inl fO)))] sz) := by
  refine va_MetW (cc := cL_firstFault) (maxL := 3) (ret := (some .int)) (hh := [(0, 8, 11, 88)]) (by decide) rfl ?_
  intro p e s m args below meth c s₁ B hml hv
  obtain ⟨rfl, hsz, hP, hK, hD0, hamb⟩ := hv
  have hx := B.exec
  have hb := B.bytes
  have hr := B.returns
  have hts := atoms_spec (ws := wsL_firstFault) B.pre
  have hown : s.vm.findClass RL = some m.cls := findClass_of_methodNamed B.named
  have hlocks := B.notSynchronized
  have htbl : c.exceptionTable.toList = tableOf [(0, 8, 11, 88)] := vx_table (x := yL_firstFault) B (hts (.codeWith yL_firstFault cL_firstFault 3 (some .int) [(0, 8, 11, 88)]) List.mem_cons_self)
  subst hsz
  have hD := hD0.self (sz := s.heap.size)
  generalize hAe : va_A [(h0, .inr (11, [g0, g1, .int 0, g3, g4, g5, g6, g7, g8, g9, g10, g11, g12])), (ou, .inl (cOut, 1, .inr (.inl fO)))] s.heap.size = A at hD hamb ⊢
  have hA : ∀ q : Nat, s.heap.size ≤ q → A q := fun q h => by rw [← hAe]; exact Or.inr h
  have hS : va_S A s.heap s.heap [] := va_S.rf
  have hP : va_P (dC, dI) vwCl [(h0, .inr (11, [g0, g1, .int 0, g3, g4, g5, g6, g7, g8, g9, g10, g11, g12])), (ou, .inl (cOut, 1, .inr (.inl fO)))] s.heap := hP
  have hl := lv_entry ([.ref h0, .ref ou]) (n := 3) (Nat.le_of_ble_eq_true rfl)
  rw [lg_entry_eq]
  generalize (lg_sl ([.ref h0, .ref ou]) ++ List.replicate (3 - (lg_sl ([.ref h0, .ref ou])).length) Slot.unset).toArray = ls at hl ⊢
  have hl : lv_has ls 3 [(0, .ref h0), (1, .ref ou)] := hl
  refine lv_aload_n hx hb dL_firstFault_0 rfl (lv_at hl 1 rfl) ?_
  refine lv_iconst (v := 0) hx hb dL_firstFault_1 (by decide) ?_
  refine lv_aload_n hx hb dL_firstFault_2 rfl (lv_at hl 0 rfl) ?_
  have hPc := hP.sub (ws' := [(h0, .inr (11, [g0, g1, .int 0, g3, g4, g5, g6, g7, g8, g9, g10, g11, g12]))]) [0] rfl
  have hDc := hD.sub (ws' := [(h0, .inr (11, [g0, g1, .int 0, g3, g4, g5, g6, g7, g8, g9, g10, g11, g12]))]) [0] (by decide) rfl
  have hKc := hK.sub (tys' := []) [] rfl
  have hFc := va_free (wc := [(h0, .inr (11, [g0, g1, .int 0, g3, g4, g5, g6, g7, g8, g9, g10, g11, g12]))]) hD hS hA [0] rfl
  refine vx_calli (vx_runV (As := []) (rest := [.int 0, .ref ou]) ⟨hx, hb, hml, hown, hts⟩ (c_X5_firstFault l hlt em dC dI h0 g0 g1 g3 g4 g5 g6 g7 g8 g9 g10 g11 g12 s.heap.size) (cwV 0 hts gL_firstFault_X5_firstFault rfl rfl rfl (by decide +kernel) ⟨Nat.le_of_ble_eq_true rfl, Nat.le_of_ble_eq_true rfl⟩) ⟨Pw.blind _ _ _ _ _ _ _, va_recv hKc hPc (ci := 11) (q0 := 0) rfl rfl, fun U hU hW => ⟨rfl, Pw.go hPc hKc hDc hamb hS hFc hU hW⟩⟩ rfl rfl hl.1 rfl (lv_room (Nat.le_of_ble_eq_true rfl)) dL_firstFault_3 ⟨Nat.le_of_ble_eq_true rfl, Nat.le_of_ble_eq_true rfl⟩) hS (fun q _ h => hFc q h) hFc (fun q _ h => hFc q h) (fun E ce q9 ux tx H1 locs1 htx hvm hpx hBX hz1 hk1 hS hce hcv hcl => ?_) (fun r_1 u t H1 locs1 ht hvm hw hB hz1 hk1 hS => ?_)
  · obtain ⟨rfl, t_2⟩ := hBX
    obtain ⟨hP, hD⟩ := va_rest (wr := [(ou, .inl (cOut, 1, .inr (.inl fO)))]) hP hD [0] [1] rfl rfl (by decide) (by decide) hk1 hFc
    generalize H1 = H at hP hS hce ⊢
    refine vx_widen (k := 1) (n := 6) (Nat.le_of_ble_eq_true rfl) (Nat.le_of_ble_eq_true rfl) ?_
    refine vx_catch (name := "java/util/NoSuchElementException") hown [] ⟨0, 8, 11, 88⟩ [] (by rw [htbl]; rfl) (fun z hz => nomatch hz) (by decide) (by decide) (hts (.classLink RL 88 "java/util/NoSuchElementException") (by decide +kernel)) (hamb.use (w := .castable "java/util/NoSuchElementException" "java/util/NoSuchElementException") (by decide +kernel)) hce hcv hcl ?_
    refine lv_astore_n (lv' := [(2, .ref q9), (0, .ref h0), (1, .ref ou)]) hx hb dL_firstFault_11 rfl hl (by decide) rfl (fun ls hl => ?_)
    refine lv_iconst (v := 1) hx hb dL_firstFault_12 (by decide) ?_
    refine W.widen (k := 1) (n := 6) (Nat.le_of_ble_eq_true rfl) (Nat.le_of_ble_eq_true rfl) ?_
    have hP9 := hP.sub (ws' := [(ou, .inl (cOut, 1, .inr (.inl fO)))]) [0] rfl
    have hD9 := hD.sub (ws' := [(ou, .inl (cOut, 1, .inr (.inl fO)))]) [0] (by decide) rfl
    have hK9 := hK.sub (tys' := [(cOut, .long)]) [0] rfl
    exact W.iret (v := 1) hx hb hr (fun t ht hW => ⟨⟨1, (), rfl, rfl, ⟨by rw [ht]; exact hP9, va_K.moved hW.alike hK9, hD9⟩⟩, hS.F ht⟩) hS.2.2 dL_firstFault_13
  · exact hw.elim

set_option maxHeartbeats 4000000 in
set_option maxRecDepth 100000 in
theorem c_L_suspect (l : Launch) (hlt : l.stackTraces = false) (em : Nat → Nat) (dC : Nat → ClassId) (dI : Nat → Nat → Nat) (h0 : Nat) (g0 : Value) (g2 : Value) (g3 : Value) (g4 : Value) (g5 : Value) (g6 : Value) (g7 : Value) (g8 : Value) (g9 : Value) (g10 : Value) (g11 : Value) (g12 : Value) (ou : Nat) (cOut : ClassId) (fO : Nat → Int64) (sz : Nat) : Met l yL_suspect wsL_suspect ({ frames := 7, cells := 1, slots := 6, locals := 106 }) (va_Pc [.ref h0, .ref ou] (Pw em dC dI sz [(h0, .inr (11, [g0, .int 0, g2, g3, g4, g5, g6, g7, g8, g9, g10, g11, g12])), (ou, .inl (cOut, 1, .inr (.inl fO)))] [(cOut, .long)])) (va_Qi (fun (r : Int32) (_ : Unit) => r = 1) (fun _ t => Qw dC dI (va_A [(h0, .inr (11, [g0, .int 0, g2, g3, g4, g5, g6, g7, g8, g9, g10, g11, g12])), (ou, .inl (cOut, 1, .inr (.inl fO)))] sz) [(ou, .inl (cOut, 1, .inr (.inl fO)))] [(cOut, .long)] t) (va_A [(h0, .inr (11, [g0, .int 0, g2, g3, g4, g5, g6, g7, g8, g9, g10, g11, g12])), (ou, .inl (cOut, 1, .inr (.inl fO)))] sz)) 1 6 (va_A [(h0, .inr (11, [g0, .int 0, g2, g3, g4, g5, g6, g7, g8, g9, g10, g11, g12])), (ou, .inl (cOut, 1, .inr (.inl fO)))] sz) := by
  refine va_MetW (cc := cL_suspect) (maxL := 3) (ret := (some .int)) (hh := [(0, 8, 11, 88)]) (by decide) rfl ?_
  intro p e s m args below meth c s₁ B hml hv
  obtain ⟨rfl, hsz, hP, hK, hD0, hamb⟩ := hv
  have hx := B.exec
  have hb := B.bytes
  have hr := B.returns
  have hts := atoms_spec (ws := wsL_suspect) B.pre
  have hown : s.vm.findClass RL = some m.cls := findClass_of_methodNamed B.named
  have hlocks := B.notSynchronized
  have htbl : c.exceptionTable.toList = tableOf [(0, 8, 11, 88)] := vx_table (x := yL_suspect) B (hts (.codeWith yL_suspect cL_suspect 3 (some .int) [(0, 8, 11, 88)]) List.mem_cons_self)
  subst hsz
  have hD := hD0.self (sz := s.heap.size)
  generalize hAe : va_A [(h0, .inr (11, [g0, .int 0, g2, g3, g4, g5, g6, g7, g8, g9, g10, g11, g12])), (ou, .inl (cOut, 1, .inr (.inl fO)))] s.heap.size = A at hD hamb ⊢
  have hA : ∀ q : Nat, s.heap.size ≤ q → A q := fun q h => by rw [← hAe]; exact Or.inr h
  have hS : va_S A s.heap s.heap [] := va_S.rf
  have hP : va_P (dC, dI) vwCl [(h0, .inr (11, [g0, .int 0, g2, g3, g4, g5, g6, g7, g8, g9, g10, g11, g12])), (ou, .inl (cOut, 1, .inr (.inl fO)))] s.heap := hP
  have hl := lv_entry ([.ref h0, .ref ou]) (n := 3) (Nat.le_of_ble_eq_true rfl)
  rw [lg_entry_eq]
  generalize (lg_sl ([.ref h0, .ref ou]) ++ List.replicate (3 - (lg_sl ([.ref h0, .ref ou])).length) Slot.unset).toArray = ls at hl ⊢
  have hl : lv_has ls 3 [(0, .ref h0), (1, .ref ou)] := hl
  refine lv_aload_n hx hb dL_suspect_0 rfl (lv_at hl 1 rfl) ?_
  refine lv_iconst (v := 0) hx hb dL_suspect_1 (by decide) ?_
  refine lv_aload_n hx hb dL_suspect_2 rfl (lv_at hl 0 rfl) ?_
  have hPc := hP.sub (ws' := [(h0, .inr (11, [g0, .int 0, g2, g3, g4, g5, g6, g7, g8, g9, g10, g11, g12]))]) [0] rfl
  have hDc := hD.sub (ws' := [(h0, .inr (11, [g0, .int 0, g2, g3, g4, g5, g6, g7, g8, g9, g10, g11, g12]))]) [0] (by decide) rfl
  have hKc := hK.sub (tys' := []) [] rfl
  have hFc := va_free (wc := [(h0, .inr (11, [g0, .int 0, g2, g3, g4, g5, g6, g7, g8, g9, g10, g11, g12]))]) hD hS hA [0] rfl
  refine vx_calli (vx_runV (As := []) (rest := [.int 0, .ref ou]) ⟨hx, hb, hml, hown, hts⟩ (c_X5_suspect l hlt em dC dI h0 g0 g2 g3 g4 g5 g6 g7 g8 g9 g10 g11 g12 s.heap.size) (cwV 0 hts gL_suspect_X5_suspect rfl rfl rfl (by decide +kernel) ⟨Nat.le_of_ble_eq_true rfl, Nat.le_of_ble_eq_true rfl⟩) ⟨Pw.blind _ _ _ _ _ _ _, va_recv hKc hPc (ci := 11) (q0 := 0) rfl rfl, fun U hU hW => ⟨rfl, Pw.go hPc hKc hDc hamb hS hFc hU hW⟩⟩ rfl rfl hl.1 rfl (lv_room (Nat.le_of_ble_eq_true rfl)) dL_suspect_3 ⟨Nat.le_of_ble_eq_true rfl, Nat.le_of_ble_eq_true rfl⟩) hS (fun q _ h => hFc q h) hFc (fun q _ h => hFc q h) (fun E ce q9 ux tx H1 locs1 htx hvm hpx hBX hz1 hk1 hS hce hcv hcl => ?_) (fun r_1 u t H1 locs1 ht hvm hw hB hz1 hk1 hS => ?_)
  · obtain ⟨rfl, t_2⟩ := hBX
    obtain ⟨hP, hD⟩ := va_rest (wr := [(ou, .inl (cOut, 1, .inr (.inl fO)))]) hP hD [0] [1] rfl rfl (by decide) (by decide) hk1 hFc
    generalize H1 = H at hP hS hce ⊢
    refine vx_widen (k := 1) (n := 6) (Nat.le_of_ble_eq_true rfl) (Nat.le_of_ble_eq_true rfl) ?_
    refine vx_catch (name := "java/util/NoSuchElementException") hown [] ⟨0, 8, 11, 88⟩ [] (by rw [htbl]; rfl) (fun z hz => nomatch hz) (by decide) (by decide) (hts (.classLink RL 88 "java/util/NoSuchElementException") (by decide +kernel)) (hamb.use (w := .castable "java/util/NoSuchElementException" "java/util/NoSuchElementException") (by decide +kernel)) hce hcv hcl ?_
    refine lv_astore_n (lv' := [(2, .ref q9), (0, .ref h0), (1, .ref ou)]) hx hb dL_suspect_11 rfl hl (by decide) rfl (fun ls hl => ?_)
    refine lv_iconst (v := 1) hx hb dL_suspect_12 (by decide) ?_
    refine W.widen (k := 1) (n := 6) (Nat.le_of_ble_eq_true rfl) (Nat.le_of_ble_eq_true rfl) ?_
    have hP9 := hP.sub (ws' := [(ou, .inl (cOut, 1, .inr (.inl fO)))]) [0] rfl
    have hD9 := hD.sub (ws' := [(ou, .inl (cOut, 1, .inr (.inl fO)))]) [0] (by decide) rfl
    have hK9 := hK.sub (tys' := [(cOut, .long)]) [0] rfl
    exact W.iret (v := 1) hx hb hr (fun t ht hW => ⟨⟨1, (), rfl, rfl, ⟨by rw [ht]; exact hP9, va_K.moved hW.alike hK9, hD9⟩⟩, hS.F ht⟩) hS.2.2 dL_suspect_13
  · exact hw.elim

set_option maxHeartbeats 4000000 in
set_option maxRecDepth 100000 in
theorem c_L_ways (l : Launch) (hlt : l.stackTraces = false) (em : Nat → Nat) (dC : Nat → ClassId) (dI : Nat → Nat → Nat) (h0 : Nat) (p0 : Int32) (p1 : Int32) (p2 : Int32) (p3 : Int32) (g0 : Value) (g2 : Value) (g3 : Value) (g4 : Value) (g5 : Value) (g6 : Value) (g7 : Value) (g8 : Value) (g9 : Value) (g10 : Value) (g11 : Value) (g12 : Value) (ou : Nat) (cOut : ClassId) (fO : Nat → Int64) (sz : Nat) : Met l yL_ways wsL_ways ({ frames := 8, cells := 1, slots := 6, locals := 127 }) (va_Pc [.ref h0, .int p0, .int p1, .int p2, .int p3, .ref ou] (Pw em dC dI sz [(h0, .inr (11, [g0, .int 0, g2, g3, g4, g5, g6, g7, g8, g9, g10, g11, g12])), (ou, .inl (cOut, 1, .inr (.inl fO)))] [(cOut, .long)])) (va_Qi (fun (r : Int32) (_ : Unit) => r = 1) (fun _ t => Qw dC dI (va_A [(h0, .inr (11, [g0, .int 0, g2, g3, g4, g5, g6, g7, g8, g9, g10, g11, g12])), (ou, .inl (cOut, 1, .inr (.inl fO)))] sz) [(ou, .inl (cOut, 1, .inr (.inl fO)))] [(cOut, .long)] t) (va_A [(h0, .inr (11, [g0, .int 0, g2, g3, g4, g5, g6, g7, g8, g9, g10, g11, g12])), (ou, .inl (cOut, 1, .inr (.inl fO)))] sz)) 1 6 (va_A [(h0, .inr (11, [g0, .int 0, g2, g3, g4, g5, g6, g7, g8, g9, g10, g11, g12])), (ou, .inl (cOut, 1, .inr (.inl fO)))] sz) := by
  refine va_MetW (cc := cL_ways) (maxL := 7) (ret := (some .int)) (hh := [(0, 13, 16, 23), (0, 13, 20, 13)]) (by decide) rfl ?_
  intro p e s m args below meth c s₁ B hml hv
  obtain ⟨rfl, hsz, hP, hK, hD0, hamb⟩ := hv
  have hx := B.exec
  have hb := B.bytes
  have hr := B.returns
  have hts := atoms_spec (ws := wsL_ways) B.pre
  have hown : s.vm.findClass RL = some m.cls := findClass_of_methodNamed B.named
  have hlocks := B.notSynchronized
  have htbl : c.exceptionTable.toList = tableOf [(0, 13, 16, 23), (0, 13, 20, 13)] := vx_table (x := yL_ways) B (hts (.codeWith yL_ways cL_ways 7 (some .int) [(0, 13, 16, 23), (0, 13, 20, 13)]) List.mem_cons_self)
  subst hsz
  have hD := hD0.self (sz := s.heap.size)
  generalize hAe : va_A [(h0, .inr (11, [g0, .int 0, g2, g3, g4, g5, g6, g7, g8, g9, g10, g11, g12])), (ou, .inl (cOut, 1, .inr (.inl fO)))] s.heap.size = A at hD hamb ⊢
  have hA : ∀ q : Nat, s.heap.size ≤ q → A q := fun q h => by rw [← hAe]; exact Or.inr h
  have hS : va_S A s.heap s.heap [] := va_S.rf
  have hP : va_P (dC, dI) vwCl [(h0, .inr (11, [g0, .int 0, g2, g3, g4, g5, g6, g7, g8, g9, g10, g11, g12])), (ou, .inl (cOut, 1, .inr (.inl fO)))] s.heap := hP
  have hl := lv_entry ([.ref h0, .int p0, .int p1, .int p2, .int p3, .ref ou]) (n := 7) (Nat.le_of_ble_eq_true rfl)
  rw [lg_entry_eq]
  generalize (lg_sl ([.ref h0, .int p0, .int p1, .int p2, .int p3, .ref ou]) ++ List.replicate (7 - (lg_sl ([.ref h0, .int p0, .int p1, .int p2, .int p3, .ref ou])).length) Slot.unset).toArray = ls at hl ⊢
  have hl : lv_has ls 7 [(0, .ref h0), (1, .int p0), (2, .int p1), (3, .int p2), (4, .int p3), (5, .ref ou)] := hl
  refine lv_aload hx hb dL_ways_0 (lv_at hl 5 rfl) ?_
  refine lv_iconst (v := 0) hx hb dL_ways_2 (by decide) ?_
  refine lv_aload_n hx hb dL_ways_3 rfl (lv_at hl 0 rfl) ?_
  refine lv_iload_n hx hb dL_ways_4 rfl (lv_at hl 1 rfl) ?_
  refine lv_iload_n hx hb dL_ways_5 rfl (lv_at hl 2 rfl) ?_
  refine lv_iload_n hx hb dL_ways_6 rfl (lv_at hl 3 rfl) ?_
  refine lv_iload hx hb dL_ways_7 (lv_at hl 4 rfl) ?_
  have hPc := hP.sub (ws' := [(h0, .inr (11, [g0, .int 0, g2, g3, g4, g5, g6, g7, g8, g9, g10, g11, g12]))]) [0] rfl
  have hDc := hD.sub (ws' := [(h0, .inr (11, [g0, .int 0, g2, g3, g4, g5, g6, g7, g8, g9, g10, g11, g12]))]) [0] (by decide) rfl
  have hKc := hK.sub (tys' := []) [] rfl
  have hFc := va_free (wc := [(h0, .inr (11, [g0, .int 0, g2, g3, g4, g5, g6, g7, g8, g9, g10, g11, g12]))]) hD hS hA [0] rfl
  refine vx_calll (vx_runV (As := [.int p0, .int p1, .int p2, .int p3]) (rest := [.int 0, .ref ou]) ⟨hx, hb, hml, hown, hts⟩ (c_X5_ways l hlt em dC dI h0 p0 p1 p2 p3 g0 g2 g3 g4 g5 g6 g7 g8 g9 g10 g11 g12 s.heap.size) (cwV 4 hts gL_ways_X5_ways rfl rfl rfl (by decide +kernel) ⟨Nat.le_of_ble_eq_true rfl, Nat.le_of_ble_eq_true rfl⟩) ⟨Pw.blind _ _ _ _ _ _ _, va_recv hKc hPc (ci := 11) (q0 := 0) rfl rfl, fun U hU hW => ⟨rfl, Pw.go hPc hKc hDc hamb hS hFc hU hW⟩⟩ rfl rfl hl.1 rfl (lv_room (Nat.le_of_ble_eq_true rfl)) dL_ways_9 ⟨Nat.le_of_ble_eq_true rfl, Nat.le_of_ble_eq_true rfl⟩) hS (fun q _ h => hFc q h) hFc (fun q _ h => hFc q h) (fun E ce q9 ux tx H1 locs1 htx hvm hpx hBX hz1 hk1 hS hce hcv hcl => ?_) (fun r_1 u t H1 locs1 ht hvm hw hB hz1 hk1 hS => ?_)
  · obtain ⟨rfl, t_2⟩ := hBX
    obtain ⟨hP, hD⟩ := va_rest (wr := [(ou, .inl (cOut, 1, .inr (.inl fO)))]) hP hD [0] [1] rfl rfl (by decide) (by decide) hk1 hFc
    generalize H1 = H at hP hS hce ⊢
    refine vx_widen (k := 1) (n := 6) (Nat.le_of_ble_eq_true rfl) (Nat.le_of_ble_eq_true rfl) ?_
    refine vx_catch (name := "java/lang/IndexOutOfBoundsException") hown [] ⟨0, 13, 16, 23⟩ [⟨0, 13, 20, 13⟩] (by rw [htbl]; rfl) (fun z hz => nomatch hz) (by decide) (by decide) (hts (.classLink RL 23 "java/lang/IndexOutOfBoundsException") (by decide +kernel)) (hamb.use (w := .castable "java/lang/IndexOutOfBoundsException" "java/lang/IndexOutOfBoundsException") (by decide +kernel)) hce hcv hcl ?_
    refine lv_astore (lv' := [(6, .ref q9), (0, .ref h0), (1, .int p0), (2, .int p1), (3, .int p2), (4, .int p3), (5, .ref ou)]) hx hb dL_ways_16 hl (by decide) rfl (fun ls hl => ?_)
    refine lv_iconst (v := 1) hx hb dL_ways_18 (by decide) ?_
    refine W.widen (k := 1) (n := 6) (Nat.le_of_ble_eq_true rfl) (Nat.le_of_ble_eq_true rfl) ?_
    have hP9 := hP.sub (ws' := [(ou, .inl (cOut, 1, .inr (.inl fO)))]) [0] rfl
    have hD9 := hD.sub (ws' := [(ou, .inl (cOut, 1, .inr (.inl fO)))]) [0] (by decide) rfl
    have hK9 := hK.sub (tys' := [(cOut, .long)]) [0] rfl
    exact W.iret (v := 1) hx hb hr (fun t ht hW => ⟨⟨1, (), rfl, rfl, ⟨by rw [ht]; exact hP9, va_K.moved hW.alike hK9, hD9⟩⟩, hS.F ht⟩) hS.2.2 dL_ways_19
  · exact hw.elim

set_option maxHeartbeats 4000000 in
set_option maxRecDepth 100000 in
theorem c_L_hand (l : Launch) (hlt : l.stackTraces = false) (em : Nat → Nat) (dC : Nat → ClassId) (dI : Nat → Nat → Nat) (h0 : Nat) (g0 : Value) (g1 : Value) (g2 : Value) (g3 : Value) (g4 : Value) (g5 : Value) (g6 : Value) (g7 : Value) (g8 : Value) (g9 : Value) (g10 : Value) (g12 : Value) (ou : Nat) (cOut : ClassId) (fO : Nat → Int64) (sz : Nat) : Met l yL_hand wsL_hand ({ frames := 7, cells := 1, slots := 6, locals := 107 }) (va_Pc [.ref h0, .ref ou] (Pw em dC dI sz [(h0, .inr (11, [g0, g1, g2, g3, g4, g5, g6, g7, g8, g9, g10, .int 0, g12])), (ou, .inl (cOut, 1, .inr (.inl fO)))] [(cOut, .long)])) (va_Qi (fun (r : Int32) (_ : Unit) => r = 1) (fun _ t => Qw dC dI (va_A [(h0, .inr (11, [g0, g1, g2, g3, g4, g5, g6, g7, g8, g9, g10, .int 0, g12])), (ou, .inl (cOut, 1, .inr (.inl fO)))] sz) [(ou, .inl (cOut, 1, .inr (.inl fO)))] [(cOut, .long)] t) (va_A [(h0, .inr (11, [g0, g1, g2, g3, g4, g5, g6, g7, g8, g9, g10, .int 0, g12])), (ou, .inl (cOut, 1, .inr (.inl fO)))] sz)) 1 6 (va_A [(h0, .inr (11, [g0, g1, g2, g3, g4, g5, g6, g7, g8, g9, g10, .int 0, g12])), (ou, .inl (cOut, 1, .inr (.inl fO)))] sz) := by
  refine va_MetW (cc := cL_hand) (maxL := 3) (ret := (some .int)) (hh := [(0, 8, 11, 88)]) (by decide) rfl ?_
  intro p e s m args below meth c s₁ B hml hv
  obtain ⟨rfl, hsz, hP, hK, hD0, hamb⟩ := hv
  have hx := B.exec
  have hb := B.bytes
  have hr := B.returns
  have hts := atoms_spec (ws := wsL_hand) B.pre
  have hown : s.vm.findClass RL = some m.cls := findClass_of_methodNamed B.named
  have hlocks := B.notSynchronized
  have htbl : c.exceptionTable.toList = tableOf [(0, 8, 11, 88)] := vx_table (x := yL_hand) B (hts (.codeWith yL_hand cL_hand 3 (some .int) [(0, 8, 11, 88)]) List.mem_cons_self)
  subst hsz
  have hD := hD0.self (sz := s.heap.size)
  generalize hAe : va_A [(h0, .inr (11, [g0, g1, g2, g3, g4, g5, g6, g7, g8, g9, g10, .int 0, g12])), (ou, .inl (cOut, 1, .inr (.inl fO)))] s.heap.size = A at hD hamb ⊢
  have hA : ∀ q : Nat, s.heap.size ≤ q → A q := fun q h => by rw [← hAe]; exact Or.inr h
  have hS : va_S A s.heap s.heap [] := va_S.rf
  have hP : va_P (dC, dI) vwCl [(h0, .inr (11, [g0, g1, g2, g3, g4, g5, g6, g7, g8, g9, g10, .int 0, g12])), (ou, .inl (cOut, 1, .inr (.inl fO)))] s.heap := hP
  have hl := lv_entry ([.ref h0, .ref ou]) (n := 3) (Nat.le_of_ble_eq_true rfl)
  rw [lg_entry_eq]
  generalize (lg_sl ([.ref h0, .ref ou]) ++ List.replicate (3 - (lg_sl ([.ref h0, .ref ou])).length) Slot.unset).toArray = ls at hl ⊢
  have hl : lv_has ls 3 [(0, .ref h0), (1, .ref ou)] := hl
  refine lv_aload_n hx hb dL_hand_0 rfl (lv_at hl 1 rfl) ?_
  refine lv_iconst (v := 0) hx hb dL_hand_1 (by decide) ?_
  refine lv_aload_n hx hb dL_hand_2 rfl (lv_at hl 0 rfl) ?_
  have hPc := hP.sub (ws' := [(h0, .inr (11, [g0, g1, g2, g3, g4, g5, g6, g7, g8, g9, g10, .int 0, g12]))]) [0] rfl
  have hDc := hD.sub (ws' := [(h0, .inr (11, [g0, g1, g2, g3, g4, g5, g6, g7, g8, g9, g10, .int 0, g12]))]) [0] (by decide) rfl
  have hKc := hK.sub (tys' := []) [] rfl
  have hFc := va_free (wc := [(h0, .inr (11, [g0, g1, g2, g3, g4, g5, g6, g7, g8, g9, g10, .int 0, g12]))]) hD hS hA [0] rfl
  refine vx_calli (vx_runV (As := []) (rest := [.int 0, .ref ou]) ⟨hx, hb, hml, hown, hts⟩ (c_X5_hand l hlt em dC dI h0 g0 g1 g2 g3 g4 g5 g6 g7 g8 g9 g10 g12 s.heap.size) (cwV 0 hts gL_hand_X5_hand rfl rfl rfl (by decide +kernel) ⟨Nat.le_of_ble_eq_true rfl, Nat.le_of_ble_eq_true rfl⟩) ⟨Pw.blind _ _ _ _ _ _ _, va_recv hKc hPc (ci := 11) (q0 := 0) rfl rfl, fun U hU hW => ⟨rfl, Pw.go hPc hKc hDc hamb hS hFc hU hW⟩⟩ rfl rfl hl.1 rfl (lv_room (Nat.le_of_ble_eq_true rfl)) dL_hand_3 ⟨Nat.le_of_ble_eq_true rfl, Nat.le_of_ble_eq_true rfl⟩) hS (fun q _ h => hFc q h) hFc (fun q _ h => hFc q h) (fun E ce q9 ux tx H1 locs1 htx hvm hpx hBX hz1 hk1 hS hce hcv hcl => ?_) (fun r_1 u t H1 locs1 ht hvm hw hB hz1 hk1 hS => ?_)
  · obtain ⟨rfl, t_2⟩ := hBX
    obtain ⟨hP, hD⟩ := va_rest (wr := [(ou, .inl (cOut, 1, .inr (.inl fO)))]) hP hD [0] [1] rfl rfl (by decide) (by decide) hk1 hFc
    generalize H1 = H at hP hS hce ⊢
    refine vx_widen (k := 1) (n := 6) (Nat.le_of_ble_eq_true rfl) (Nat.le_of_ble_eq_true rfl) ?_
    refine vx_catch (name := "java/util/NoSuchElementException") hown [] ⟨0, 8, 11, 88⟩ [] (by rw [htbl]; rfl) (fun z hz => nomatch hz) (by decide) (by decide) (hts (.classLink RL 88 "java/util/NoSuchElementException") (by decide +kernel)) (hamb.use (w := .castable "java/util/NoSuchElementException" "java/util/NoSuchElementException") (by decide +kernel)) hce hcv hcl ?_
    refine lv_astore_n (lv' := [(2, .ref q9), (0, .ref h0), (1, .ref ou)]) hx hb dL_hand_11 rfl hl (by decide) rfl (fun ls hl => ?_)
    refine lv_iconst (v := 1) hx hb dL_hand_12 (by decide) ?_
    refine W.widen (k := 1) (n := 6) (Nat.le_of_ble_eq_true rfl) (Nat.le_of_ble_eq_true rfl) ?_
    have hP9 := hP.sub (ws' := [(ou, .inl (cOut, 1, .inr (.inl fO)))]) [0] rfl
    have hD9 := hD.sub (ws' := [(ou, .inl (cOut, 1, .inr (.inl fO)))]) [0] (by decide) rfl
    have hK9 := hK.sub (tys' := [(cOut, .long)]) [0] rfl
    exact W.iret (v := 1) hx hb hr (fun t ht hW => ⟨⟨1, (), rfl, rfl, ⟨by rw [ht]; exact hP9, va_K.moved hW.alike hK9, hD9⟩⟩, hS.F ht⟩) hS.2.2 dL_hand_13
  · exact hw.elim

set_option maxHeartbeats 4000000 in
set_option maxRecDepth 100000 in
theorem c_L_readyOn (l : Launch) (hlt : l.stackTraces = false) (em : Nat → Nat) (dC : Nat → ClassId) (dI : Nat → Nat → Nat) (h0 : Nat) (p0 : Int32) (g0 : Value) (g1 : Value) (g2 : Value) (g3 : Value) (g4 : Value) (g5 : Value) (g6 : Value) (g7 : Value) (g8 : Value) (g9 : Value) (g10 : Value) (g11 : Value) (bk : Nat) (d0 : Value) (d1 : Value) (d2 : Value) (d3 : Value) (ou : Nat) (cOut : ClassId) (fO : Nat → Int64) (sz : Nat) : Met l yL_readyOn wsL_readyOn ({ frames := 7, cells := 1, slots := 6, locals := 103 }) (va_Pc [.ref h0, .int p0, .ref ou] (Pw em dC dI sz [(h0, .inr (11, [g0, g1, g2, g3, g4, g5, g6, g7, g8, g9, g10, g11, .ref bk])), (bk, .inr (6, [d0, d1, d2, d3, .int 0])), (ou, .inl (cOut, 1, .inr (.inl fO)))] [(cOut, .long)])) (va_Qi (fun (r : Int32) (_ : Unit) => r = 1) (fun _ t => Qw dC dI (va_A [(h0, .inr (11, [g0, g1, g2, g3, g4, g5, g6, g7, g8, g9, g10, g11, .ref bk])), (bk, .inr (6, [d0, d1, d2, d3, .int 0])), (ou, .inl (cOut, 1, .inr (.inl fO)))] sz) [(ou, .inl (cOut, 1, .inr (.inl fO)))] [(cOut, .long)] t) (va_A [(h0, .inr (11, [g0, g1, g2, g3, g4, g5, g6, g7, g8, g9, g10, g11, .ref bk])), (bk, .inr (6, [d0, d1, d2, d3, .int 0])), (ou, .inl (cOut, 1, .inr (.inl fO)))] sz)) 1 6 (va_A [(h0, .inr (11, [g0, g1, g2, g3, g4, g5, g6, g7, g8, g9, g10, g11, .ref bk])), (bk, .inr (6, [d0, d1, d2, d3, .int 0])), (ou, .inl (cOut, 1, .inr (.inl fO)))] sz) := by
  refine va_MetW (cc := cL_readyOn) (maxL := 4) (ret := (some .int)) (hh := [(0, 9, 12, 23)]) (by decide) rfl ?_
  intro p e s m args below meth c s₁ B hml hv
  obtain ⟨rfl, hsz, hP, hK, hD0, hamb⟩ := hv
  have hx := B.exec
  have hb := B.bytes
  have hr := B.returns
  have hts := atoms_spec (ws := wsL_readyOn) B.pre
  have hown : s.vm.findClass RL = some m.cls := findClass_of_methodNamed B.named
  have hlocks := B.notSynchronized
  have htbl : c.exceptionTable.toList = tableOf [(0, 9, 12, 23)] := vx_table (x := yL_readyOn) B (hts (.codeWith yL_readyOn cL_readyOn 4 (some .int) [(0, 9, 12, 23)]) List.mem_cons_self)
  subst hsz
  have hD := hD0.self (sz := s.heap.size)
  generalize hAe : va_A [(h0, .inr (11, [g0, g1, g2, g3, g4, g5, g6, g7, g8, g9, g10, g11, .ref bk])), (bk, .inr (6, [d0, d1, d2, d3, .int 0])), (ou, .inl (cOut, 1, .inr (.inl fO)))] s.heap.size = A at hD hamb ⊢
  have hA : ∀ q : Nat, s.heap.size ≤ q → A q := fun q h => by rw [← hAe]; exact Or.inr h
  have hS : va_S A s.heap s.heap [] := va_S.rf
  have hP : va_P (dC, dI) vwCl [(h0, .inr (11, [g0, g1, g2, g3, g4, g5, g6, g7, g8, g9, g10, g11, .ref bk])), (bk, .inr (6, [d0, d1, d2, d3, .int 0])), (ou, .inl (cOut, 1, .inr (.inl fO)))] s.heap := hP
  have hl := lv_entry ([.ref h0, .int p0, .ref ou]) (n := 4) (Nat.le_of_ble_eq_true rfl)
  rw [lg_entry_eq]
  generalize (lg_sl ([.ref h0, .int p0, .ref ou]) ++ List.replicate (4 - (lg_sl ([.ref h0, .int p0, .ref ou])).length) Slot.unset).toArray = ls at hl ⊢
  have hl : lv_has ls 4 [(0, .ref h0), (1, .int p0), (2, .ref ou)] := hl
  refine lv_aload_n hx hb dL_readyOn_0 rfl (lv_at hl 2 rfl) ?_
  refine lv_iconst (v := 0) hx hb dL_readyOn_1 (by decide) ?_
  refine lv_aload_n hx hb dL_readyOn_2 rfl (lv_at hl 0 rfl) ?_
  refine lv_iload_n hx hb dL_readyOn_3 rfl (lv_at hl 1 rfl) ?_
  have hPc := hP.sub (ws' := [(h0, .inr (11, [g0, g1, g2, g3, g4, g5, g6, g7, g8, g9, g10, g11, .ref bk])), (bk, .inr (6, [d0, d1, d2, d3, .int 0]))]) [0, 1] rfl
  have hDc := hD.sub (ws' := [(h0, .inr (11, [g0, g1, g2, g3, g4, g5, g6, g7, g8, g9, g10, g11, .ref bk])), (bk, .inr (6, [d0, d1, d2, d3, .int 0]))]) [0, 1] (by decide) rfl
  have hKc := hK.sub (tys' := []) [] rfl
  have hFc := va_free (wc := [(h0, .inr (11, [g0, g1, g2, g3, g4, g5, g6, g7, g8, g9, g10, g11, .ref bk])), (bk, .inr (6, [d0, d1, d2, d3, .int 0]))]) hD hS hA [0, 1] rfl
  refine vx_calli (vx_runV (As := [.int p0]) (rest := [.int 0, .ref ou]) ⟨hx, hb, hml, hown, hts⟩ (c_X5_readyOn l hlt em dC dI h0 p0 g0 g1 g2 g3 g4 g5 g6 g7 g8 g9 g10 g11 bk d0 d1 d2 d3 s.heap.size) (cwV 1 hts gL_readyOn_X5_readyOn rfl rfl rfl (by decide +kernel) ⟨Nat.le_of_ble_eq_true rfl, Nat.le_of_ble_eq_true rfl⟩) ⟨Pw.blind _ _ _ _ _ _ _, va_recv hKc hPc (ci := 11) (q0 := 0) rfl rfl, fun U hU hW => ⟨rfl, Pw.go hPc hKc hDc hamb hS hFc hU hW⟩⟩ rfl rfl hl.1 rfl (lv_room (Nat.le_of_ble_eq_true rfl)) dL_readyOn_4 ⟨Nat.le_of_ble_eq_true rfl, Nat.le_of_ble_eq_true rfl⟩) hS (fun q _ h => hFc q h) hFc (fun q _ h => hFc q h) (fun E ce q9 ux tx H1 locs1 htx hvm hpx hBX hz1 hk1 hS hce hcv hcl => ?_) (fun r_1 u t H1 locs1 ht hvm hw hB hz1 hk1 hS => ?_)
  · obtain ⟨rfl, t_2⟩ := hBX
    obtain ⟨hP, hD⟩ := va_rest (wr := [(ou, .inl (cOut, 1, .inr (.inl fO)))]) hP hD [0, 1] [2] rfl rfl (by decide) (by decide) hk1 hFc
    generalize H1 = H at hP hS hce ⊢
    refine vx_widen (k := 1) (n := 6) (Nat.le_of_ble_eq_true rfl) (Nat.le_of_ble_eq_true rfl) ?_
    refine vx_catch (name := "java/lang/IndexOutOfBoundsException") hown [] ⟨0, 9, 12, 23⟩ [] (by rw [htbl]; rfl) (fun z hz => nomatch hz) (by decide) (by decide) (hts (.classLink RL 23 "java/lang/IndexOutOfBoundsException") (by decide +kernel)) (hamb.use (w := .castable "java/lang/IndexOutOfBoundsException" "java/lang/IndexOutOfBoundsException") (by decide +kernel)) hce hcv hcl ?_
    refine lv_astore_n (lv' := [(3, .ref q9), (0, .ref h0), (1, .int p0), (2, .ref ou)]) hx hb dL_readyOn_12 rfl hl (by decide) rfl (fun ls hl => ?_)
    refine lv_iconst (v := 1) hx hb dL_readyOn_13 (by decide) ?_
    refine W.widen (k := 1) (n := 6) (Nat.le_of_ble_eq_true rfl) (Nat.le_of_ble_eq_true rfl) ?_
    have hP9 := hP.sub (ws' := [(ou, .inl (cOut, 1, .inr (.inl fO)))]) [0] rfl
    have hD9 := hD.sub (ws' := [(ou, .inl (cOut, 1, .inr (.inl fO)))]) [0] (by decide) rfl
    have hK9 := hK.sub (tys' := [(cOut, .long)]) [0] rfl
    exact W.iret (v := 1) hx hb hr (fun t ht hW => ⟨⟨1, (), rfl, rfl, ⟨by rw [ht]; exact hP9, va_K.moved hW.alike hK9, hD9⟩⟩, hS.F ht⟩) hS.2.2 dL_readyOn_14
  · exact hw.elim

set_option maxHeartbeats 4000000 in
set_option maxRecDepth 100000 in
theorem c_L_rightShare (l : Launch) (hlt : l.stackTraces = false) (em : Nat → Nat) (dC : Nat → ClassId) (dI : Nat → Nat → Nat) (h0 : Nat) (g0 : Value) (g3 : Value) (g4 : Value) (g5 : Value) (g6 : Value) (g7 : Value) (g8 : Value) (g9 : Value) (g10 : Value) (g11 : Value) (g12 : Value) (ou : Nat) (cOut : ClassId) (fO : Nat → UInt64) (sz : Nat) : Met l yL_rightShare wsL_rightShare ({ frames := 7, cells := 1, slots := 6, locals := 106 }) (va_Pc [.ref h0, .ref ou] (Pw em dC dI sz [(h0, .inr (11, [g0, .int 0, .int 0, g3, g4, g5, g6, g7, g8, g9, g10, g11, g12])), (ou, .inl (cOut, 1, .inr (.inr (.inr (.inl fO)))))] [(cOut, .double)])) (va_Qi (fun (r : Int32) (_ : Unit) => r = 1) (fun _ t => Qw dC dI (va_A [(h0, .inr (11, [g0, .int 0, .int 0, g3, g4, g5, g6, g7, g8, g9, g10, g11, g12])), (ou, .inl (cOut, 1, .inr (.inr (.inr (.inl fO)))))] sz) [(ou, .inl (cOut, 1, .inr (.inr (.inr (.inl fO)))))] [(cOut, .double)] t) (va_A [(h0, .inr (11, [g0, .int 0, .int 0, g3, g4, g5, g6, g7, g8, g9, g10, g11, g12])), (ou, .inl (cOut, 1, .inr (.inr (.inr (.inl fO)))))] sz)) 1 6 (va_A [(h0, .inr (11, [g0, .int 0, .int 0, g3, g4, g5, g6, g7, g8, g9, g10, g11, g12])), (ou, .inl (cOut, 1, .inr (.inr (.inr (.inl fO)))))] sz) := by
  refine va_MetW (cc := cL_rightShare) (maxL := 3) (ret := (some .int)) (hh := [(0, 8, 11, 130)]) (by decide) rfl ?_
  intro p e s m args below meth c s₁ B hml hv
  obtain ⟨rfl, hsz, hP, hK, hD0, hamb⟩ := hv
  have hx := B.exec
  have hb := B.bytes
  have hr := B.returns
  have hts := atoms_spec (ws := wsL_rightShare) B.pre
  have hown : s.vm.findClass RL = some m.cls := findClass_of_methodNamed B.named
  have hlocks := B.notSynchronized
  have htbl : c.exceptionTable.toList = tableOf [(0, 8, 11, 130)] := vx_table (x := yL_rightShare) B (hts (.codeWith yL_rightShare cL_rightShare 3 (some .int) [(0, 8, 11, 130)]) List.mem_cons_self)
  subst hsz
  have hD := hD0.self (sz := s.heap.size)
  generalize hAe : va_A [(h0, .inr (11, [g0, .int 0, .int 0, g3, g4, g5, g6, g7, g8, g9, g10, g11, g12])), (ou, .inl (cOut, 1, .inr (.inr (.inr (.inl fO)))))] s.heap.size = A at hD hamb ⊢
  have hA : ∀ q : Nat, s.heap.size ≤ q → A q := fun q h => by rw [← hAe]; exact Or.inr h
  have hS : va_S A s.heap s.heap [] := va_S.rf
  have hP : va_P (dC, dI) vwCl [(h0, .inr (11, [g0, .int 0, .int 0, g3, g4, g5, g6, g7, g8, g9, g10, g11, g12])), (ou, .inl (cOut, 1, .inr (.inr (.inr (.inl fO)))))] s.heap := hP
  have hl := lv_entry ([.ref h0, .ref ou]) (n := 3) (Nat.le_of_ble_eq_true rfl)
  rw [lg_entry_eq]
  generalize (lg_sl ([.ref h0, .ref ou]) ++ List.replicate (3 - (lg_sl ([.ref h0, .ref ou])).length) Slot.unset).toArray = ls at hl ⊢
  have hl : lv_has ls 3 [(0, .ref h0), (1, .ref ou)] := hl
  refine lv_aload_n hx hb dL_rightShare_0 rfl (lv_at hl 1 rfl) ?_
  refine lv_iconst (v := 0) hx hb dL_rightShare_1 (by decide) ?_
  refine lv_aload_n hx hb dL_rightShare_2 rfl (lv_at hl 0 rfl) ?_
  have hPc := hP.sub (ws' := [(h0, .inr (11, [g0, .int 0, .int 0, g3, g4, g5, g6, g7, g8, g9, g10, g11, g12]))]) [0] rfl
  have hDc := hD.sub (ws' := [(h0, .inr (11, [g0, .int 0, .int 0, g3, g4, g5, g6, g7, g8, g9, g10, g11, g12]))]) [0] (by decide) rfl
  have hKc := hK.sub (tys' := []) [] rfl
  have hFc := va_free (wc := [(h0, .inr (11, [g0, .int 0, .int 0, g3, g4, g5, g6, g7, g8, g9, g10, g11, g12]))]) hD hS hA [0] rfl
  refine vx_callf (vx_runV (As := []) (rest := [.int 0, .ref ou]) ⟨hx, hb, hml, hown, hts⟩ (c_X5_rightShare l hlt em dC dI h0 g0 g3 g4 g5 g6 g7 g8 g9 g10 g11 g12 s.heap.size) (cwV 0 hts gL_rightShare_X5_rightShare rfl rfl rfl (by decide +kernel) ⟨Nat.le_of_ble_eq_true rfl, Nat.le_of_ble_eq_true rfl⟩) ⟨Pw.blind _ _ _ _ _ _ _, va_recv hKc hPc (ci := 11) (q0 := 0) rfl rfl, fun U hU hW => ⟨rfl, Pw.go hPc hKc hDc hamb hS hFc hU hW⟩⟩ rfl rfl hl.1 rfl (lv_room (Nat.le_of_ble_eq_true rfl)) dL_rightShare_3 ⟨Nat.le_of_ble_eq_true rfl, Nat.le_of_ble_eq_true rfl⟩) hS (fun q _ h => hFc q h) hFc (fun q _ h => hFc q h) (fun E ce q9 ux tx H1 locs1 htx hvm hpx hBX hz1 hk1 hS hce hcv hcl => ?_) (fun r_1 u t H1 locs1 ht hvm hw hB hz1 hk1 hS => ?_)
  · obtain ⟨rfl, t_2⟩ := hBX
    obtain ⟨hP, hD⟩ := va_rest (wr := [(ou, .inl (cOut, 1, .inr (.inr (.inr (.inl fO)))))]) hP hD [0] [1] rfl rfl (by decide) (by decide) hk1 hFc
    generalize H1 = H at hP hS hce ⊢
    refine vx_widen (k := 1) (n := 6) (Nat.le_of_ble_eq_true rfl) (Nat.le_of_ble_eq_true rfl) ?_
    refine vx_catch (name := "java/lang/ArithmeticException") hown [] ⟨0, 8, 11, 130⟩ [] (by rw [htbl]; rfl) (fun z hz => nomatch hz) (by decide) (by decide) (hts (.classLink RL 130 "java/lang/ArithmeticException") (by decide +kernel)) (hamb.use (w := .castable "java/lang/ArithmeticException" "java/lang/ArithmeticException") (by decide +kernel)) hce hcv hcl ?_
    refine lv_astore_n (lv' := [(2, .ref q9), (0, .ref h0), (1, .ref ou)]) hx hb dL_rightShare_11 rfl hl (by decide) rfl (fun ls hl => ?_)
    refine lv_iconst (v := 1) hx hb dL_rightShare_12 (by decide) ?_
    refine W.widen (k := 1) (n := 6) (Nat.le_of_ble_eq_true rfl) (Nat.le_of_ble_eq_true rfl) ?_
    have hP9 := hP.sub (ws' := [(ou, .inl (cOut, 1, .inr (.inr (.inr (.inl fO)))))]) [0] rfl
    have hD9 := hD.sub (ws' := [(ou, .inl (cOut, 1, .inr (.inr (.inr (.inl fO)))))]) [0] (by decide) rfl
    have hK9 := hK.sub (tys' := [(cOut, .double)]) [0] rfl
    exact W.iret (v := 1) hx hb hr (fun t ht hW => ⟨⟨1, (), rfl, rfl, ⟨by rw [ht]; exact hP9, va_K.moved hW.alike hK9, hD9⟩⟩, hS.F ht⟩) hS.2.2 dL_rightShare_13
  · exact hw.elim

set_option maxHeartbeats 4000000 in
set_option maxRecDepth 100000 in
theorem c_L_meanTwist (l : Launch) (hlt : l.stackTraces = false) (em : Nat → Nat) (dC : Nat → ClassId) (dI : Nat → Nat → Nat) (h0 : Nat) (g0 : Value) (g2 : Value) (g3 : Value) (g4 : Value) (g5 : Value) (g6 : Value) (g7 : Value) (g8 : Value) (g9 : Value) (g10 : Value) (g11 : Value) (g12 : Value) (ou : Nat) (cOut : ClassId) (fO : Nat → UInt64) (sz : Nat) : Met l yL_meanTwist wsL_meanTwist ({ frames := 7, cells := 1, slots := 6, locals := 104 }) (va_Pc [.ref h0, .ref ou] (Pw em dC dI sz [(h0, .inr (11, [g0, .int 0, g2, g3, g4, g5, g6, g7, g8, g9, g10, g11, g12])), (ou, .inl (cOut, 1, .inr (.inr (.inr (.inl fO)))))] [(cOut, .double)])) (va_Qi (fun (r : Int32) (_ : Unit) => r = 1) (fun _ t => Qw dC dI (va_A [(h0, .inr (11, [g0, .int 0, g2, g3, g4, g5, g6, g7, g8, g9, g10, g11, g12])), (ou, .inl (cOut, 1, .inr (.inr (.inr (.inl fO)))))] sz) [(ou, .inl (cOut, 1, .inr (.inr (.inr (.inl fO)))))] [(cOut, .double)] t) (va_A [(h0, .inr (11, [g0, .int 0, g2, g3, g4, g5, g6, g7, g8, g9, g10, g11, g12])), (ou, .inl (cOut, 1, .inr (.inr (.inr (.inl fO)))))] sz)) 1 6 (va_A [(h0, .inr (11, [g0, .int 0, g2, g3, g4, g5, g6, g7, g8, g9, g10, g11, g12])), (ou, .inl (cOut, 1, .inr (.inr (.inr (.inl fO)))))] sz) := by
  refine va_MetW (cc := cL_meanTwist) (maxL := 3) (ret := (some .int)) (hh := [(0, 7, 10, 130)]) (by decide) rfl ?_
  intro p e s m args below meth c s₁ B hml hv
  obtain ⟨rfl, hsz, hP, hK, hD0, hamb⟩ := hv
  have hx := B.exec
  have hb := B.bytes
  have hr := B.returns
  have hts := atoms_spec (ws := wsL_meanTwist) B.pre
  have hown : s.vm.findClass RL = some m.cls := findClass_of_methodNamed B.named
  have hlocks := B.notSynchronized
  have htbl : c.exceptionTable.toList = tableOf [(0, 7, 10, 130)] := vx_table (x := yL_meanTwist) B (hts (.codeWith yL_meanTwist cL_meanTwist 3 (some .int) [(0, 7, 10, 130)]) List.mem_cons_self)
  subst hsz
  have hD := hD0.self (sz := s.heap.size)
  generalize hAe : va_A [(h0, .inr (11, [g0, .int 0, g2, g3, g4, g5, g6, g7, g8, g9, g10, g11, g12])), (ou, .inl (cOut, 1, .inr (.inr (.inr (.inl fO)))))] s.heap.size = A at hD hamb ⊢
  have hA : ∀ q : Nat, s.heap.size ≤ q → A q := fun q h => by rw [← hAe]; exact Or.inr h
  have hS : va_S A s.heap s.heap [] := va_S.rf
  have hP : va_P (dC, dI) vwCl [(h0, .inr (11, [g0, .int 0, g2, g3, g4, g5, g6, g7, g8, g9, g10, g11, g12])), (ou, .inl (cOut, 1, .inr (.inr (.inr (.inl fO)))))] s.heap := hP
  have hl := lv_entry ([.ref h0, .ref ou]) (n := 3) (Nat.le_of_ble_eq_true rfl)
  rw [lg_entry_eq]
  generalize (lg_sl ([.ref h0, .ref ou]) ++ List.replicate (3 - (lg_sl ([.ref h0, .ref ou])).length) Slot.unset).toArray = ls at hl ⊢
  have hl : lv_has ls 3 [(0, .ref h0), (1, .ref ou)] := hl
  refine lv_aload_n hx hb dL_meanTwist_0 rfl (lv_at hl 1 rfl) ?_
  refine lv_iconst (v := 0) hx hb dL_meanTwist_1 (by decide) ?_
  refine lv_aload_n hx hb dL_meanTwist_2 rfl (lv_at hl 0 rfl) ?_
  have hPc := hP.sub (ws' := [(h0, .inr (11, [g0, .int 0, g2, g3, g4, g5, g6, g7, g8, g9, g10, g11, g12]))]) [0] rfl
  have hDc := hD.sub (ws' := [(h0, .inr (11, [g0, .int 0, g2, g3, g4, g5, g6, g7, g8, g9, g10, g11, g12]))]) [0] (by decide) rfl
  have hKc := hK.sub (tys' := []) [] rfl
  have hFc := va_free (wc := [(h0, .inr (11, [g0, .int 0, g2, g3, g4, g5, g6, g7, g8, g9, g10, g11, g12]))]) hD hS hA [0] rfl
  refine vx_calld (vx_runV (As := []) (rest := [.int 0, .ref ou]) ⟨hx, hb, hml, hown, hts⟩ (c_X5_meanTwist l hlt em dC dI h0 g0 g2 g3 g4 g5 g6 g7 g8 g9 g10 g11 g12 s.heap.size) (cwV 0 hts gL_meanTwist_X5_meanTwist rfl rfl rfl (by decide +kernel) ⟨Nat.le_of_ble_eq_true rfl, Nat.le_of_ble_eq_true rfl⟩) ⟨Pw.blind _ _ _ _ _ _ _, va_recv hKc hPc (ci := 11) (q0 := 0) rfl rfl, fun U hU hW => ⟨rfl, Pw.go hPc hKc hDc hamb hS hFc hU hW⟩⟩ rfl rfl hl.1 rfl (lv_room (Nat.le_of_ble_eq_true rfl)) dL_meanTwist_3 ⟨Nat.le_of_ble_eq_true rfl, Nat.le_of_ble_eq_true rfl⟩) hS (fun q _ h => hFc q h) hFc (fun q _ h => hFc q h) (fun E ce q9 ux tx H1 locs1 htx hvm hpx hBX hz1 hk1 hS hce hcv hcl => ?_) (fun r_1 u t H1 locs1 ht hvm hw hB hz1 hk1 hS => ?_)
  · obtain ⟨rfl, t_2⟩ := hBX
    obtain ⟨hP, hD⟩ := va_rest (wr := [(ou, .inl (cOut, 1, .inr (.inr (.inr (.inl fO)))))]) hP hD [0] [1] rfl rfl (by decide) (by decide) hk1 hFc
    generalize H1 = H at hP hS hce ⊢
    refine vx_widen (k := 1) (n := 6) (Nat.le_of_ble_eq_true rfl) (Nat.le_of_ble_eq_true rfl) ?_
    refine vx_catch (name := "java/lang/ArithmeticException") hown [] ⟨0, 7, 10, 130⟩ [] (by rw [htbl]; rfl) (fun z hz => nomatch hz) (by decide) (by decide) (hts (.classLink RL 130 "java/lang/ArithmeticException") (by decide +kernel)) (hamb.use (w := .castable "java/lang/ArithmeticException" "java/lang/ArithmeticException") (by decide +kernel)) hce hcv hcl ?_
    refine lv_astore_n (lv' := [(2, .ref q9), (0, .ref h0), (1, .ref ou)]) hx hb dL_meanTwist_10 rfl hl (by decide) rfl (fun ls hl => ?_)
    refine lv_iconst (v := 1) hx hb dL_meanTwist_11 (by decide) ?_
    refine W.widen (k := 1) (n := 6) (Nat.le_of_ble_eq_true rfl) (Nat.le_of_ble_eq_true rfl) ?_
    have hP9 := hP.sub (ws' := [(ou, .inl (cOut, 1, .inr (.inr (.inr (.inl fO)))))]) [0] rfl
    have hD9 := hD.sub (ws' := [(ou, .inl (cOut, 1, .inr (.inr (.inr (.inl fO)))))]) [0] (by decide) rfl
    have hK9 := hK.sub (tys' := [(cOut, .double)]) [0] rfl
    exact W.iret (v := 1) hx hb hr (fun t ht hW => ⟨⟨1, (), rfl, rfl, ⟨by rw [ht]; exact hP9, va_K.moved hW.alike hK9, hD9⟩⟩, hS.F ht⟩) hS.2.2 dL_meanTwist_12
  · exact hw.elim

set_option maxHeartbeats 4000000 in
set_option maxRecDepth 100000 in
theorem c_L_card (l : Launch) (hlt : l.stackTraces = false) (em : Nat → Nat) (dC : Nat → ClassId) (dI : Nat → Nat → Nat) (h0 : Nat) (ca : Nat) (cC : ClassId) (fC : Nat → Option Nat) (c0 : Nat) (th : Nat) (u1 : Value) (u2 : Value) (u4 : Value) (u5 : Value) (u6 : Value) (cH : ClassId) (p0 : Int32) (p1 : Int32) (p2 : Int32) (p3 : Int32) (p4 : Int32) (g3 : Value) (g4 : Value) (g5 : Value) (g6 : Value) (g7 : Value) (g8 : Value) (g9 : Value) (g10 : Value) (g11 : Value) (g12 : Value) (ou : Nat) (cOut : ClassId) (fO : Nat → Int64) (hC : fC 0 = some c0) (sz : Nat) : Met l yL_card wsL_card ({ frames := 8, cells := 5, slots := 30, locals := 127 }) (va_Pc [.ref h0, .int p0, .int p1, .int p2, .int p3, .int p4, .ref ou] (Pw em dC dI sz [(h0, .inr (11, [.ref ca, .int 0, .int 0, g3, g4, g5, g6, g7, g8, g9, g10, g11, g12])), (ca, .inl (cC, 16, .inr (.inr (.inr (.inr fC))))), (c0, .inr (7, [.ref th, u1, u2, .int 0, u4, u5, u6])), (th, .inl (cH, 4, .inl (fun _ => 0))), (ou, .inl (cOut, 1, .inr (.inl fO)))] [(cC, (.object "Bothfaces$Card")), (cH, .int), (cOut, .long)])) (va_Qi (fun (r : Int32) (_ : Unit) => ((p0.toInt < 0 ∨ 7 < p0.toInt ∨ p1.toInt < 0 ∨ 7 < p1.toInt ∨ p2.toInt < 0 ∨ 7 < p2.toInt ∨ p3.toInt < 0 ∨ 7 < p3.toInt ∨ (p4.toInt ≠ 115 ∧ p4.toInt ≠ 122)) → r = 1) ∧ (¬ (p0.toInt < 0 ∨ 7 < p0.toInt ∨ p1.toInt < 0 ∨ 7 < p1.toInt ∨ p2.toInt < 0 ∨ 7 < p2.toInt ∨ p3.toInt < 0 ∨ 7 < p3.toInt ∨ (p4.toInt ≠ 115 ∧ p4.toInt ≠ 122)) → r = 0)) (fun _ t => ∃ (gO : Nat → Int64), Qw dC dI (va_A [(h0, .inr (11, [.ref ca, .int 0, .int 0, g3, g4, g5, g6, g7, g8, g9, g10, g11, g12])), (ca, .inl (cC, 16, .inr (.inr (.inr (.inr fC))))), (c0, .inr (7, [.ref th, u1, u2, .int 0, u4, u5, u6])), (th, .inl (cH, 4, .inl (fun _ => 0))), (ou, .inl (cOut, 1, .inr (.inl fO)))] sz) [(ou, .inl (cOut, 1, .inr (.inl gO)))] [(cOut, .long)] t ∧ (¬ (p0.toInt < 0 ∨ 7 < p0.toInt ∨ p1.toInt < 0 ∨ 7 < p1.toInt ∨ p2.toInt < 0 ∨ 7 < p2.toInt ∨ p3.toInt < 0 ∨ 7 < p3.toInt ∨ (p4.toInt ≠ 115 ∧ p4.toInt ≠ 122)) → gO 0 = 0)) (va_A [(h0, .inr (11, [.ref ca, .int 0, .int 0, g3, g4, g5, g6, g7, g8, g9, g10, g11, g12])), (ca, .inl (cC, 16, .inr (.inr (.inr (.inr fC))))), (c0, .inr (7, [.ref th, u1, u2, .int 0, u4, u5, u6])), (th, .inl (cH, 4, .inl (fun _ => 0))), (ou, .inl (cOut, 1, .inr (.inl fO)))] sz)) 5 30 (va_A [(h0, .inr (11, [.ref ca, .int 0, .int 0, g3, g4, g5, g6, g7, g8, g9, g10, g11, g12])), (ca, .inl (cC, 16, .inr (.inr (.inr (.inr fC))))), (c0, .inr (7, [.ref th, u1, u2, .int 0, u4, u5, u6])), (th, .inl (cH, 4, .inl (fun _ => 0))), (ou, .inl (cOut, 1, .inr (.inl fO)))] sz) := by
  refine va_MetW (cc := cL_card) (maxL := 8) (ret := (some .int)) (hh := [(0, 16, 19, 13), (0, 16, 23, 15), (0, 16, 27, 17)]) (by decide) rfl ?_
  intro p e s m args below meth c s₁ B hml hv
  obtain ⟨rfl, hsz, hP, hK, hD0, hamb⟩ := hv
  have hx := B.exec
  have hb := B.bytes
  have hr := B.returns
  have hts := atoms_spec (ws := wsL_card) B.pre
  have hown : s.vm.findClass RL = some m.cls := findClass_of_methodNamed B.named
  have hlocks := B.notSynchronized
  have htbl : c.exceptionTable.toList = tableOf [(0, 16, 19, 13), (0, 16, 23, 15), (0, 16, 27, 17)] := vx_table (x := yL_card) B (hts (.codeWith yL_card cL_card 8 (some .int) [(0, 16, 19, 13), (0, 16, 23, 15), (0, 16, 27, 17)]) List.mem_cons_self)
  subst hsz
  have hD := hD0.self (sz := s.heap.size)
  generalize hAe : va_A [(h0, .inr (11, [.ref ca, .int 0, .int 0, g3, g4, g5, g6, g7, g8, g9, g10, g11, g12])), (ca, .inl (cC, 16, .inr (.inr (.inr (.inr fC))))), (c0, .inr (7, [.ref th, u1, u2, .int 0, u4, u5, u6])), (th, .inl (cH, 4, .inl (fun _ => 0))), (ou, .inl (cOut, 1, .inr (.inl fO)))] s.heap.size = A at hD hamb ⊢
  have hA : ∀ q : Nat, s.heap.size ≤ q → A q := fun q h => by rw [← hAe]; exact Or.inr h
  have hS : va_S A s.heap s.heap [] := va_S.rf
  have hP : va_P (dC, dI) vwCl [(h0, .inr (11, [.ref ca, .int 0, .int 0, g3, g4, g5, g6, g7, g8, g9, g10, g11, g12])), (ca, .inl (cC, 16, .inr (.inr (.inr (.inr fC))))), (c0, .inr (7, [.ref th, u1, u2, .int 0, u4, u5, u6])), (th, .inl (cH, 4, .inl (fun _ => 0))), (ou, .inl (cOut, 1, .inr (.inl fO)))] s.heap := hP
  have hl := lv_entry ([.ref h0, .int p0, .int p1, .int p2, .int p3, .int p4, .ref ou]) (n := 8) (Nat.le_of_ble_eq_true rfl)
  rw [lg_entry_eq]
  generalize (lg_sl ([.ref h0, .int p0, .int p1, .int p2, .int p3, .int p4, .ref ou]) ++ List.replicate (8 - (lg_sl ([.ref h0, .int p0, .int p1, .int p2, .int p3, .int p4, .ref ou])).length) Slot.unset).toArray = ls at hl ⊢
  have hl : lv_has ls 8 [(0, .ref h0), (1, .int p0), (2, .int p1), (3, .int p2), (4, .int p3), (5, .int p4), (6, .ref ou)] := hl
  refine lv_aload hx hb dL_card_0 (lv_at hl 6 rfl) ?_
  refine lv_iconst (v := 0) hx hb dL_card_2 (by decide) ?_
  refine lv_aload_n hx hb dL_card_3 rfl (lv_at hl 0 rfl) ?_
  refine lv_iload_n hx hb dL_card_4 rfl (lv_at hl 1 rfl) ?_
  refine lv_iload_n hx hb dL_card_5 rfl (lv_at hl 2 rfl) ?_
  refine lv_iload_n hx hb dL_card_6 rfl (lv_at hl 3 rfl) ?_
  refine lv_iload hx hb dL_card_7 (lv_at hl 4 rfl) ?_
  refine lv_iload hx hb dL_card_9 (lv_at hl 5 rfl) ?_
  have hPc := hP.sub (ws' := [(h0, .inr (11, [.ref ca, .int 0, .int 0, g3, g4, g5, g6, g7, g8, g9, g10, g11, g12])), (ca, .inl (cC, 16, .inr (.inr (.inr (.inr fC))))), (c0, .inr (7, [.ref th, u1, u2, .int 0, u4, u5, u6])), (th, .inl (cH, 4, .inl (fun _ => 0)))]) [0, 1, 2, 3] rfl
  have hDc := hD.sub (ws' := [(h0, .inr (11, [.ref ca, .int 0, .int 0, g3, g4, g5, g6, g7, g8, g9, g10, g11, g12])), (ca, .inl (cC, 16, .inr (.inr (.inr (.inr fC))))), (c0, .inr (7, [.ref th, u1, u2, .int 0, u4, u5, u6])), (th, .inl (cH, 4, .inl (fun _ => 0)))]) [0, 1, 2, 3] (by decide) rfl
  have hKc := hK.sub (tys' := [(cC, (.object "Bothfaces$Card")), (cH, .int)]) [0, 1] rfl
  have hFc := va_free (wc := [(h0, .inr (11, [.ref ca, .int 0, .int 0, g3, g4, g5, g6, g7, g8, g9, g10, g11, g12])), (ca, .inl (cC, 16, .inr (.inr (.inr (.inr fC))))), (c0, .inr (7, [.ref th, u1, u2, .int 0, u4, u5, u6])), (th, .inl (cH, 4, .inl (fun _ => 0)))]) hD hS hA [0, 1, 2, 3] rfl
  refine vx_calli (vx_runV (As := [.int p0, .int p1, .int p2, .int p3, .int p4]) (rest := [.int 0, .ref ou]) ⟨hx, hb, hml, hown, hts⟩ (c_X5_card l hlt em dC dI h0 ca cC fC c0 th u1 u2 u4 u5 u6 cH p0 p1 p2 p3 p4 g3 g4 g5 g6 g7 g8 g9 g10 g11 g12 hC s.heap.size) (cwV 5 hts gL_card_X5_card rfl rfl rfl (by decide +kernel) ⟨Nat.le_of_ble_eq_true rfl, Nat.le_of_ble_eq_true rfl⟩) ⟨Pw.blind _ _ _ _ _ _ _, va_recv hKc hPc (ci := 11) (q0 := 0) rfl rfl, fun U hU hW => ⟨rfl, Pw.go hPc hKc hDc hamb hS hFc hU hW⟩⟩ rfl rfl hl.1 rfl (lv_room (Nat.le_of_ble_eq_true rfl)) dL_card_11 ⟨Nat.le_of_ble_eq_true rfl, Nat.le_of_ble_eq_true rfl⟩) hS (fun q _ h => hFc q h) hFc (fun q _ h => hFc q h) (fun E ce q9 ux tx H1 locs1 htx hvm hpx hBX hz1 hk1 hS hce hcv hcl => ?_) (fun r_1 u t H1 locs1 ht hvm hw hB hz1 hk1 hS => ?_)
  · obtain ⟨rfl, t_2⟩ := hBX
    obtain ⟨hP, hD⟩ := va_rest (wr := [(ou, .inl (cOut, 1, .inr (.inl fO)))]) hP hD [0, 1, 2, 3] [4] rfl rfl (by decide) (by decide) hk1 hFc
    generalize H1 = H at hP hS hce ⊢
    refine vx_widen (k := 5) (n := 30) (Nat.le_of_ble_eq_true rfl) (Nat.le_of_ble_eq_true rfl) ?_
    refine vx_catch (name := "java/lang/IllegalArgumentException") hown [] ⟨0, 16, 19, 13⟩ [⟨0, 16, 23, 15⟩, ⟨0, 16, 27, 17⟩] (by rw [htbl]; rfl) (fun z hz => nomatch hz) (by decide) (by decide) (hts (.classLink RL 13 "java/lang/IllegalArgumentException") (by decide +kernel)) (hamb.use (w := .castable "java/lang/IllegalArgumentException" "java/lang/IllegalArgumentException") (by decide +kernel)) hce hcv hcl ?_
    refine lv_astore (lv' := [(7, .ref q9), (0, .ref h0), (1, .int p0), (2, .int p1), (3, .int p2), (4, .int p3), (5, .int p4), (6, .ref ou)]) hx hb dL_card_19 hl (by decide) rfl (fun ls hl => ?_)
    refine lv_iconst (v := 1) hx hb dL_card_21 (by decide) ?_
    refine W.widen (k := 5) (n := 30) (Nat.le_of_ble_eq_true rfl) (Nat.le_of_ble_eq_true rfl) ?_
    have hP9 := hP.sub (ws' := [(ou, .inl (cOut, 1, .inr (.inl fO)))]) [0] rfl
    have hD9 := hD.sub (ws' := [(ou, .inl (cOut, 1, .inr (.inl fO)))]) [0] (by decide) rfl
    have hK9 := hK.sub (tys' := [(cOut, .long)]) [2] rfl
    exact W.iret (v := 1) hx hb hr (fun t ht hW => ⟨⟨1, (), rfl, ⟨fun h9 => (by first | rfl | (exfalso; omega)), fun h9 => (by first | rfl | (exfalso; omega))⟩, ⟨(fO), ⟨by rw [ht]; exact hP9, va_K.moved hW.alike hK9, hD9⟩, (by first | rfl | assumption | omega | exact fun _ => rfl | exact fun h9 => absurd (by omega) h9 | exact fun h9 => absurd h9 (by omega))⟩⟩, hS.F ht⟩) hS.2.2 dL_card_22
  · obtain ⟨hP, hD⟩ := va_rest (wr := [(ou, .inl (cOut, 1, .inr (.inl fO)))]) hP hD [0, 1, 2, 3] [4] rfl rfl (by decide) (by decide) hk1 hFc
    generalize H1 = H at hP hS ⊢
    refine W.widen (k := 5) (n := 30) (Nat.le_of_ble_eq_true rfl) (Nat.le_of_ble_eq_true rfl) ?_
    have hw : ¬ (p0.toInt < 0 ∨ 7 < p0.toInt ∨ p1.toInt < 0 ∨ 7 < p1.toInt ∨ p2.toInt < 0 ∨ 7 < p2.toInt ∨ p3.toInt < 0 ∨ 7 < p3.toInt ∨ (p4.toInt ≠ 115 ∧ p4.toInt ≠ 122)) ∧ r_1 = 0 := hw
    obtain ⟨t_3, hw⟩ := hw
    rw [hw]
    refine lv_i2l (v := 0) hx hb dL_card_14 (by decide) ?_
    refine va_last hx hb hK hP hD hS 0 2 rfl rfl (vp_in_iff.mpr ⟨by decide, by decide⟩) dL_card_15 (fun H locs hP hD hS => ?_)
    have hP : va_P (dC, dI) vwCl [(ou, .inl (cOut, 1, .inr (.inl (vp_updL fO 0 0))))] H := hP
    have hD : va_D A [(ou, .inl (cOut, 1, .inr (.inl (vp_updL fO 0 0))))] := hD
    refine lv_goto (tgt := 31) hx hb dL_card_16 (by decide) ?_
    refine lv_iconst (v := 0) hx hb dL_card_31 (by decide) ?_
    refine W.widen (k := 5) (n := 30) (Nat.le_of_ble_eq_true rfl) (Nat.le_of_ble_eq_true rfl) ?_
    have hP9 := hP.sub (ws' := [(ou, .inl (cOut, 1, .inr (.inl (vp_updL fO 0 0))))]) [0] rfl
    have hD9 := hD.sub (ws' := [(ou, .inl (cOut, 1, .inr (.inl (vp_updL fO 0 0))))]) [0] (by decide) rfl
    have hK9 := hK.sub (tys' := [(cOut, .long)]) [2] rfl
    exact W.iret (v := 0) hx hb hr (fun t ht hW => ⟨⟨0, (), rfl, ⟨fun h9 => (by first | rfl | (exfalso; omega)), fun h9 => (by first | rfl | (exfalso; omega))⟩, ⟨((vp_updL fO 0 0)), ⟨by rw [ht]; exact hP9, va_K.moved hW.alike hK9, hD9⟩, (by first | rfl | assumption | omega | exact fun _ => rfl | exact fun h9 => absurd (by omega) h9 | exact fun h9 => absurd h9 (by omega))⟩⟩, hS.F ht⟩) hS.2.2 dL_card_32

set_option maxHeartbeats 4000000 in
set_option maxRecDepth 100000 in
theorem c_L_turn (l : Launch) (hlt : l.stackTraces = false) (em : Nat → Nat) (dC : Nat → ClassId) (dI : Nat → Nat → Nat) (h0 : Nat) (p0 : Int32) (p1 : Int32) (g0 : Value) (g2 : Value) (g3 : Value) (g4 : Value) (g5 : Value) (g6 : Value) (g7 : Value) (g8 : Value) (g9 : Value) (g10 : Value) (g11 : Value) (g12 : Value) (ou : Nat) (cOut : ClassId) (fO : Nat → Int64) (sz : Nat) : Met l yL_turn wsL_turn ({ frames := 8, cells := 1, slots := 6, locals := 126 }) (va_Pc [.ref h0, .int p0, .int p1, .ref ou] (Pw em dC dI sz [(h0, .inr (11, [g0, .int 0, g2, g3, g4, g5, g6, g7, g8, g9, g10, g11, g12])), (ou, .inl (cOut, 1, .inr (.inl fO)))] [(cOut, .long)])) (va_Qi (fun (r : Int32) (_ : Unit) => ((p0.toInt < 0 ∨ 3 < p0.toInt) → r = 1) ∧ (¬ (p0.toInt < 0 ∨ 3 < p0.toInt) → r = 0)) (fun _ t => ∃ (gO : Nat → Int64), Qw dC dI (va_A [(h0, .inr (11, [g0, .int 0, g2, g3, g4, g5, g6, g7, g8, g9, g10, g11, g12])), (ou, .inl (cOut, 1, .inr (.inl fO)))] sz) [(ou, .inl (cOut, 1, .inr (.inl gO)))] [(cOut, .long)] t ∧ (¬ (p0.toInt < 0 ∨ 3 < p0.toInt) → gO 0 = 0)) (va_A [(h0, .inr (11, [g0, .int 0, g2, g3, g4, g5, g6, g7, g8, g9, g10, g11, g12])), (ou, .inl (cOut, 1, .inr (.inl fO)))] sz)) 1 6 (va_A [(h0, .inr (11, [g0, .int 0, g2, g3, g4, g5, g6, g7, g8, g9, g10, g11, g12])), (ou, .inl (cOut, 1, .inr (.inl fO)))] sz) := by
  refine va_MetW (cc := cL_turn) (maxL := 5) (ret := (some .int)) (hh := [(0, 10, 13, 13)]) (by decide) rfl ?_
  intro p e s m args below meth c s₁ B hml hv
  obtain ⟨rfl, hsz, hP, hK, hD0, hamb⟩ := hv
  have hx := B.exec
  have hb := B.bytes
  have hr := B.returns
  have hts := atoms_spec (ws := wsL_turn) B.pre
  have hown : s.vm.findClass RL = some m.cls := findClass_of_methodNamed B.named
  have hlocks := B.notSynchronized
  have htbl : c.exceptionTable.toList = tableOf [(0, 10, 13, 13)] := vx_table (x := yL_turn) B (hts (.codeWith yL_turn cL_turn 5 (some .int) [(0, 10, 13, 13)]) List.mem_cons_self)
  subst hsz
  have hD := hD0.self (sz := s.heap.size)
  generalize hAe : va_A [(h0, .inr (11, [g0, .int 0, g2, g3, g4, g5, g6, g7, g8, g9, g10, g11, g12])), (ou, .inl (cOut, 1, .inr (.inl fO)))] s.heap.size = A at hD hamb ⊢
  have hA : ∀ q : Nat, s.heap.size ≤ q → A q := fun q h => by rw [← hAe]; exact Or.inr h
  have hS : va_S A s.heap s.heap [] := va_S.rf
  have hP : va_P (dC, dI) vwCl [(h0, .inr (11, [g0, .int 0, g2, g3, g4, g5, g6, g7, g8, g9, g10, g11, g12])), (ou, .inl (cOut, 1, .inr (.inl fO)))] s.heap := hP
  have hl := lv_entry ([.ref h0, .int p0, .int p1, .ref ou]) (n := 5) (Nat.le_of_ble_eq_true rfl)
  rw [lg_entry_eq]
  generalize (lg_sl ([.ref h0, .int p0, .int p1, .ref ou]) ++ List.replicate (5 - (lg_sl ([.ref h0, .int p0, .int p1, .ref ou])).length) Slot.unset).toArray = ls at hl ⊢
  have hl : lv_has ls 5 [(0, .ref h0), (1, .int p0), (2, .int p1), (3, .ref ou)] := hl
  refine lv_aload_n hx hb dL_turn_0 rfl (lv_at hl 3 rfl) ?_
  refine lv_iconst (v := 0) hx hb dL_turn_1 (by decide) ?_
  refine lv_aload_n hx hb dL_turn_2 rfl (lv_at hl 0 rfl) ?_
  refine lv_iload_n hx hb dL_turn_3 rfl (lv_at hl 1 rfl) ?_
  refine lv_iload_n hx hb dL_turn_4 rfl (lv_at hl 2 rfl) ?_
  have hPc := hP.sub (ws' := [(h0, .inr (11, [g0, .int 0, g2, g3, g4, g5, g6, g7, g8, g9, g10, g11, g12]))]) [0] rfl
  have hDc := hD.sub (ws' := [(h0, .inr (11, [g0, .int 0, g2, g3, g4, g5, g6, g7, g8, g9, g10, g11, g12]))]) [0] (by decide) rfl
  have hKc := hK.sub (tys' := []) [] rfl
  have hFc := va_free (wc := [(h0, .inr (11, [g0, .int 0, g2, g3, g4, g5, g6, g7, g8, g9, g10, g11, g12]))]) hD hS hA [0] rfl
  refine vx_calli (vx_runV (As := [.int p0, .int p1]) (rest := [.int 0, .ref ou]) ⟨hx, hb, hml, hown, hts⟩ (c_X5_turn l hlt em dC dI h0 p0 p1 g0 g2 g3 g4 g5 g6 g7 g8 g9 g10 g11 g12 s.heap.size) (cwV 2 hts gL_turn_X5_turn rfl rfl rfl (by decide +kernel) ⟨Nat.le_of_ble_eq_true rfl, Nat.le_of_ble_eq_true rfl⟩) ⟨Pw.blind _ _ _ _ _ _ _, va_recv hKc hPc (ci := 11) (q0 := 0) rfl rfl, fun U hU hW => ⟨rfl, Pw.go hPc hKc hDc hamb hS hFc hU hW⟩⟩ rfl rfl hl.1 rfl (lv_room (Nat.le_of_ble_eq_true rfl)) dL_turn_5 ⟨Nat.le_of_ble_eq_true rfl, Nat.le_of_ble_eq_true rfl⟩) hS (fun q _ h => hFc q h) hFc (fun q _ h => hFc q h) (fun E ce q9 ux tx H1 locs1 htx hvm hpx hBX hz1 hk1 hS hce hcv hcl => ?_) (fun r_1 u t H1 locs1 ht hvm hw hB hz1 hk1 hS => ?_)
  · obtain ⟨rfl, t_2⟩ := hBX
    obtain ⟨hP, hD⟩ := va_rest (wr := [(ou, .inl (cOut, 1, .inr (.inl fO)))]) hP hD [0] [1] rfl rfl (by decide) (by decide) hk1 hFc
    generalize H1 = H at hP hS hce ⊢
    refine vx_widen (k := 1) (n := 6) (Nat.le_of_ble_eq_true rfl) (Nat.le_of_ble_eq_true rfl) ?_
    refine vx_catch (name := "java/lang/IllegalArgumentException") hown [] ⟨0, 10, 13, 13⟩ [] (by rw [htbl]; rfl) (fun z hz => nomatch hz) (by decide) (by decide) (hts (.classLink RL 13 "java/lang/IllegalArgumentException") (by decide +kernel)) (hamb.use (w := .castable "java/lang/IllegalArgumentException" "java/lang/IllegalArgumentException") (by decide +kernel)) hce hcv hcl ?_
    refine lv_astore (lv' := [(4, .ref q9), (0, .ref h0), (1, .int p0), (2, .int p1), (3, .ref ou)]) hx hb dL_turn_13 hl (by decide) rfl (fun ls hl => ?_)
    refine lv_iconst (v := 1) hx hb dL_turn_15 (by decide) ?_
    refine W.widen (k := 1) (n := 6) (Nat.le_of_ble_eq_true rfl) (Nat.le_of_ble_eq_true rfl) ?_
    have hP9 := hP.sub (ws' := [(ou, .inl (cOut, 1, .inr (.inl fO)))]) [0] rfl
    have hD9 := hD.sub (ws' := [(ou, .inl (cOut, 1, .inr (.inl fO)))]) [0] (by decide) rfl
    have hK9 := hK.sub (tys' := [(cOut, .long)]) [0] rfl
    exact W.iret (v := 1) hx hb hr (fun t ht hW => ⟨⟨1, (), rfl, ⟨fun h9 => (by first | rfl | (exfalso; omega)), fun h9 => (by first | rfl | (exfalso; omega))⟩, ⟨(fO), ⟨by rw [ht]; exact hP9, va_K.moved hW.alike hK9, hD9⟩, (by first | rfl | assumption | omega | exact fun _ => rfl | exact fun h9 => absurd (by omega) h9 | exact fun h9 => absurd h9 (by omega))⟩⟩, hS.F ht⟩) hS.2.2 dL_turn_16
  · obtain ⟨hP, hD⟩ := va_rest (wr := [(ou, .inl (cOut, 1, .inr (.inl fO)))]) hP hD [0] [1] rfl rfl (by decide) (by decide) hk1 hFc
    generalize H1 = H at hP hS ⊢
    refine W.widen (k := 1) (n := 6) (Nat.le_of_ble_eq_true rfl) (Nat.le_of_ble_eq_true rfl) ?_
    have hw : ¬ (p0.toInt < 0 ∨ 3 < p0.toInt) ∧ r_1 = 0 := hw
    obtain ⟨t_3, hw⟩ := hw
    rw [hw]
    refine lv_i2l (v := 0) hx hb dL_turn_8 (by decide) ?_
    refine va_last hx hb hK hP hD hS 0 0 rfl rfl (vp_in_iff.mpr ⟨by decide, by decide⟩) dL_turn_9 (fun H locs hP hD hS => ?_)
    have hP : va_P (dC, dI) vwCl [(ou, .inl (cOut, 1, .inr (.inl (vp_updL fO 0 0))))] H := hP
    have hD : va_D A [(ou, .inl (cOut, 1, .inr (.inl (vp_updL fO 0 0))))] := hD
    refine lv_goto (tgt := 17) hx hb dL_turn_10 (by decide) ?_
    refine lv_iconst (v := 0) hx hb dL_turn_17 (by decide) ?_
    refine W.widen (k := 1) (n := 6) (Nat.le_of_ble_eq_true rfl) (Nat.le_of_ble_eq_true rfl) ?_
    have hP9 := hP.sub (ws' := [(ou, .inl (cOut, 1, .inr (.inl (vp_updL fO 0 0))))]) [0] rfl
    have hD9 := hD.sub (ws' := [(ou, .inl (cOut, 1, .inr (.inl (vp_updL fO 0 0))))]) [0] (by decide) rfl
    have hK9 := hK.sub (tys' := [(cOut, .long)]) [0] rfl
    exact W.iret (v := 0) hx hb hr (fun t ht hW => ⟨⟨0, (), rfl, ⟨fun h9 => (by first | rfl | (exfalso; omega)), fun h9 => (by first | rfl | (exfalso; omega))⟩, ⟨((vp_updL fO 0 0)), ⟨by rw [ht]; exact hP9, va_K.moved hW.alike hK9, hD9⟩, (by first | rfl | assumption | omega | exact fun _ => rfl | exact fun h9 => absurd (by omega) h9 | exact fun h9 => absurd h9 (by omega))⟩⟩, hS.F ht⟩) hS.2.2 dL_turn_18

set_option maxHeartbeats 4000000 in
set_option maxRecDepth 100000 in
theorem c_L_type (l : Launch) (hlt : l.stackTraces = false) (em : Nat → Nat) (dC : Nat → ClassId) (dI : Nat → Nat → Nat) (h0 : Nat) (ty0 : Nat) (cT : ClassId) (p0 : Int32) (g0 : Value) (g1 : Value) (g2 : Value) (g3 : Value) (g6 : Value) (g7 : Value) (g8 : Value) (g9 : Value) (g10 : Value) (g11 : Value) (g12 : Value) (ou : Nat) (cOut : ClassId) (fO : Nat → Int64) (sz : Nat) : Met l yL_type wsL_type ({ frames := 8, cells := 1, slots := 6, locals := 123 }) (va_Pc [.ref h0, .int p0, .ref ou] (Pw em dC dI sz [(h0, .inr (11, [g0, g1, g2, g3, .ref ty0, .int 0, g6, g7, g8, g9, g10, g11, g12])), (ty0, .inl (cT, 8, .inl (fun _ => 0))), (ou, .inl (cOut, 1, .inr (.inl fO)))] [(cT, .int), (cOut, .long)])) (va_Qi (fun (r : Int32) (_ : Unit) => ((p0.toInt < 97 ∨ 122 < p0.toInt) → r = 1) ∧ (¬ (p0.toInt < 97 ∨ 122 < p0.toInt) → r = 0)) (fun _ t => ∃ (gO : Nat → Int64), Qw dC dI (va_A [(h0, .inr (11, [g0, g1, g2, g3, .ref ty0, .int 0, g6, g7, g8, g9, g10, g11, g12])), (ty0, .inl (cT, 8, .inl (fun _ => 0))), (ou, .inl (cOut, 1, .inr (.inl fO)))] sz) [(ou, .inl (cOut, 1, .inr (.inl gO)))] [(cOut, .long)] t ∧ (¬ (p0.toInt < 97 ∨ 122 < p0.toInt) → gO 0 = 1)) (va_A [(h0, .inr (11, [g0, g1, g2, g3, .ref ty0, .int 0, g6, g7, g8, g9, g10, g11, g12])), (ty0, .inl (cT, 8, .inl (fun _ => 0))), (ou, .inl (cOut, 1, .inr (.inl fO)))] sz)) 1 6 (va_A [(h0, .inr (11, [g0, g1, g2, g3, .ref ty0, .int 0, g6, g7, g8, g9, g10, g11, g12])), (ty0, .inl (cT, 8, .inl (fun _ => 0))), (ou, .inl (cOut, 1, .inr (.inl fO)))] sz) := by
  refine va_MetW (cc := cL_type) (maxL := 4) (ret := (some .int)) (hh := [(0, 9, 12, 13), (0, 9, 15, 17)]) (by decide) rfl ?_
  intro p e s m args below meth c s₁ B hml hv
  obtain ⟨rfl, hsz, hP, hK, hD0, hamb⟩ := hv
  have hx := B.exec
  have hb := B.bytes
  have hr := B.returns
  have hts := atoms_spec (ws := wsL_type) B.pre
  have hown : s.vm.findClass RL = some m.cls := findClass_of_methodNamed B.named
  have hlocks := B.notSynchronized
  have htbl : c.exceptionTable.toList = tableOf [(0, 9, 12, 13), (0, 9, 15, 17)] := vx_table (x := yL_type) B (hts (.codeWith yL_type cL_type 4 (some .int) [(0, 9, 12, 13), (0, 9, 15, 17)]) List.mem_cons_self)
  subst hsz
  have hD := hD0.self (sz := s.heap.size)
  generalize hAe : va_A [(h0, .inr (11, [g0, g1, g2, g3, .ref ty0, .int 0, g6, g7, g8, g9, g10, g11, g12])), (ty0, .inl (cT, 8, .inl (fun _ => 0))), (ou, .inl (cOut, 1, .inr (.inl fO)))] s.heap.size = A at hD hamb ⊢
  have hA : ∀ q : Nat, s.heap.size ≤ q → A q := fun q h => by rw [← hAe]; exact Or.inr h
  have hS : va_S A s.heap s.heap [] := va_S.rf
  have hP : va_P (dC, dI) vwCl [(h0, .inr (11, [g0, g1, g2, g3, .ref ty0, .int 0, g6, g7, g8, g9, g10, g11, g12])), (ty0, .inl (cT, 8, .inl (fun _ => 0))), (ou, .inl (cOut, 1, .inr (.inl fO)))] s.heap := hP
  have hl := lv_entry ([.ref h0, .int p0, .ref ou]) (n := 4) (Nat.le_of_ble_eq_true rfl)
  rw [lg_entry_eq]
  generalize (lg_sl ([.ref h0, .int p0, .ref ou]) ++ List.replicate (4 - (lg_sl ([.ref h0, .int p0, .ref ou])).length) Slot.unset).toArray = ls at hl ⊢
  have hl : lv_has ls 4 [(0, .ref h0), (1, .int p0), (2, .ref ou)] := hl
  refine lv_aload_n hx hb dL_type_0 rfl (lv_at hl 2 rfl) ?_
  refine lv_iconst (v := 0) hx hb dL_type_1 (by decide) ?_
  refine lv_aload_n hx hb dL_type_2 rfl (lv_at hl 0 rfl) ?_
  refine lv_iload_n hx hb dL_type_3 rfl (lv_at hl 1 rfl) ?_
  have hPc := hP.sub (ws' := [(h0, .inr (11, [g0, g1, g2, g3, .ref ty0, .int 0, g6, g7, g8, g9, g10, g11, g12])), (ty0, .inl (cT, 8, .inl (fun _ => 0)))]) [0, 1] rfl
  have hDc := hD.sub (ws' := [(h0, .inr (11, [g0, g1, g2, g3, .ref ty0, .int 0, g6, g7, g8, g9, g10, g11, g12])), (ty0, .inl (cT, 8, .inl (fun _ => 0)))]) [0, 1] (by decide) rfl
  have hKc := hK.sub (tys' := [(cT, .int)]) [0] rfl
  have hFc := va_free (wc := [(h0, .inr (11, [g0, g1, g2, g3, .ref ty0, .int 0, g6, g7, g8, g9, g10, g11, g12])), (ty0, .inl (cT, 8, .inl (fun _ => 0)))]) hD hS hA [0, 1] rfl
  refine vx_calli (vx_runV (As := [.int p0]) (rest := [.int 0, .ref ou]) ⟨hx, hb, hml, hown, hts⟩ (c_X5_type l hlt em dC dI h0 ty0 cT p0 g0 g1 g2 g3 g6 g7 g8 g9 g10 g11 g12 s.heap.size) (cwV 1 hts gL_type_X5_type rfl rfl rfl (by decide +kernel) ⟨Nat.le_of_ble_eq_true rfl, Nat.le_of_ble_eq_true rfl⟩) ⟨Pw.blind _ _ _ _ _ _ _, va_recv hKc hPc (ci := 11) (q0 := 0) rfl rfl, fun U hU hW => ⟨rfl, Pw.go hPc hKc hDc hamb hS hFc hU hW⟩⟩ rfl rfl hl.1 rfl (lv_room (Nat.le_of_ble_eq_true rfl)) dL_type_4 ⟨Nat.le_of_ble_eq_true rfl, Nat.le_of_ble_eq_true rfl⟩) hS (fun q _ h => hFc q h) hFc (fun q _ h => hFc q h) (fun E ce q9 ux tx H1 locs1 htx hvm hpx hBX hz1 hk1 hS hce hcv hcl => ?_) (fun r_1 u t H1 locs1 ht hvm hw hB hz1 hk1 hS => ?_)
  · obtain ⟨rfl, t_2⟩ := hBX
    obtain ⟨hP, hD⟩ := va_rest (wr := [(ou, .inl (cOut, 1, .inr (.inl fO)))]) hP hD [0, 1] [2] rfl rfl (by decide) (by decide) hk1 hFc
    generalize H1 = H at hP hS hce ⊢
    refine vx_widen (k := 1) (n := 6) (Nat.le_of_ble_eq_true rfl) (Nat.le_of_ble_eq_true rfl) ?_
    refine vx_catch (name := "java/lang/IllegalArgumentException") hown [] ⟨0, 9, 12, 13⟩ [⟨0, 9, 15, 17⟩] (by rw [htbl]; rfl) (fun z hz => nomatch hz) (by decide) (by decide) (hts (.classLink RL 13 "java/lang/IllegalArgumentException") (by decide +kernel)) (hamb.use (w := .castable "java/lang/IllegalArgumentException" "java/lang/IllegalArgumentException") (by decide +kernel)) hce hcv hcl ?_
    refine lv_astore_n (lv' := [(3, .ref q9), (0, .ref h0), (1, .int p0), (2, .ref ou)]) hx hb dL_type_12 rfl hl (by decide) rfl (fun ls hl => ?_)
    refine lv_iconst (v := 1) hx hb dL_type_13 (by decide) ?_
    refine W.widen (k := 1) (n := 6) (Nat.le_of_ble_eq_true rfl) (Nat.le_of_ble_eq_true rfl) ?_
    have hP9 := hP.sub (ws' := [(ou, .inl (cOut, 1, .inr (.inl fO)))]) [0] rfl
    have hD9 := hD.sub (ws' := [(ou, .inl (cOut, 1, .inr (.inl fO)))]) [0] (by decide) rfl
    have hK9 := hK.sub (tys' := [(cOut, .long)]) [1] rfl
    exact W.iret (v := 1) hx hb hr (fun t ht hW => ⟨⟨1, (), rfl, ⟨fun h9 => (by first | rfl | (exfalso; omega)), fun h9 => (by first | rfl | (exfalso; omega))⟩, ⟨(fO), ⟨by rw [ht]; exact hP9, va_K.moved hW.alike hK9, hD9⟩, (by first | rfl | assumption | omega | exact fun _ => rfl | exact fun h9 => absurd (by omega) h9 | exact fun h9 => absurd h9 (by omega))⟩⟩, hS.F ht⟩) hS.2.2 dL_type_14
  · obtain ⟨hP, hD⟩ := va_rest (wr := [(ou, .inl (cOut, 1, .inr (.inl fO)))]) hP hD [0, 1] [2] rfl rfl (by decide) (by decide) hk1 hFc
    generalize H1 = H at hP hS ⊢
    refine W.widen (k := 1) (n := 6) (Nat.le_of_ble_eq_true rfl) (Nat.le_of_ble_eq_true rfl) ?_
    have hw : ¬ (p0.toInt < 97 ∨ 122 < p0.toInt) ∧ r_1 = 1 := hw
    obtain ⟨t_3, hw⟩ := hw
    rw [hw]
    refine lv_i2l (v := 1) hx hb dL_type_7 (by decide) ?_
    refine va_last hx hb hK hP hD hS 0 1 rfl rfl (vp_in_iff.mpr ⟨by decide, by decide⟩) dL_type_8 (fun H locs hP hD hS => ?_)
    have hP : va_P (dC, dI) vwCl [(ou, .inl (cOut, 1, .inr (.inl (vp_updL fO 0 1))))] H := hP
    have hD : va_D A [(ou, .inl (cOut, 1, .inr (.inl (vp_updL fO 0 1))))] := hD
    refine lv_goto (tgt := 18) hx hb dL_type_9 (by decide) ?_
    refine lv_iconst (v := 0) hx hb dL_type_18 (by decide) ?_
    refine W.widen (k := 1) (n := 6) (Nat.le_of_ble_eq_true rfl) (Nat.le_of_ble_eq_true rfl) ?_
    have hP9 := hP.sub (ws' := [(ou, .inl (cOut, 1, .inr (.inl (vp_updL fO 0 1))))]) [0] rfl
    have hD9 := hD.sub (ws' := [(ou, .inl (cOut, 1, .inr (.inl (vp_updL fO 0 1))))]) [0] (by decide) rfl
    have hK9 := hK.sub (tys' := [(cOut, .long)]) [1] rfl
    exact W.iret (v := 0) hx hb hr (fun t ht hW => ⟨⟨0, (), rfl, ⟨fun h9 => (by first | rfl | (exfalso; omega)), fun h9 => (by first | rfl | (exfalso; omega))⟩, ⟨((vp_updL fO 0 1)), ⟨by rw [ht]; exact hP9, va_K.moved hW.alike hK9, hD9⟩, (by first | rfl | assumption | omega | exact fun _ => rfl | exact fun h9 => absurd (by omega) h9 | exact fun h9 => absurd h9 (by omega))⟩⟩, hS.F ht⟩) hS.2.2 dL_type_19

set_option maxHeartbeats 4000000 in
set_option maxRecDepth 100000 in
theorem c_L_setInk_0 (l : Launch) (hlt : l.stackTraces = false) (em : Nat → Nat) (dC : Nat → ClassId) (dI : Nat → Nat → Nat) (h0 : Nat) (sf : Nat) (sb : Nat) (p0 : Int32) (g0 : Value) (g1 : Value) (g2 : Value) (g3 : Value) (g4 : Value) (g5 : Value) (g8 : Value) (g9 : Value) (g10 : Value) (g11 : Value) (g12 : Value) (sf0 : Value) (sf1 : Value) (sf2 : Value) (sf3 : Value) (sf4 : Value) (sb0 : Value) (sb1 : Value) (sb2 : Value) (sb3 : Value) (sb4 : Value) (ou : Nat) (cOut : ClassId) (fO : Nat → Int64) (sz : Nat) : Met l yL_setInk wsL_setInk ({ frames := 8, cells := 1, slots := 6, locals := 126 }) (va_Pc [.ref h0, .int 0, .int p0, .ref ou] (Pw em dC dI sz [(h0, .inr (11, [g0, g1, g2, g3, g4, g5, .ref sf, .ref sb, g8, g9, g10, g11, g12])), (sf, .inr (10, [sf0, sf1, sf2, sf3, sf4, .int 1, .int 0])), (sb, .inr (10, [sb0, sb1, sb2, sb3, sb4, .int 1, .int 0])), (ou, .inl (cOut, 1, .inr (.inl fO)))] [(cOut, .long)])) (va_Qi (fun (r : Int32) (_ : Unit) => ((p0.toInt < 0 ∨ 7 < p0.toInt) → r = 1) ∧ (¬ (p0.toInt < 0 ∨ 7 < p0.toInt) → r = 0)) (fun _ t => ∃ (gO : Nat → Int64), Qw dC dI (va_A [(h0, .inr (11, [g0, g1, g2, g3, g4, g5, .ref sf, .ref sb, g8, g9, g10, g11, g12])), (sf, .inr (10, [sf0, sf1, sf2, sf3, sf4, .int 1, .int 0])), (sb, .inr (10, [sb0, sb1, sb2, sb3, sb4, .int 1, .int 0])), (ou, .inl (cOut, 1, .inr (.inl fO)))] sz) [(ou, .inl (cOut, 1, .inr (.inl gO)))] [(cOut, .long)] t ∧ (¬ (p0.toInt < 0 ∨ 7 < p0.toInt) → gO 0 = 1)) (va_A [(h0, .inr (11, [g0, g1, g2, g3, g4, g5, .ref sf, .ref sb, g8, g9, g10, g11, g12])), (sf, .inr (10, [sf0, sf1, sf2, sf3, sf4, .int 1, .int 0])), (sb, .inr (10, [sb0, sb1, sb2, sb3, sb4, .int 1, .int 0])), (ou, .inl (cOut, 1, .inr (.inl fO)))] sz)) 1 6 (va_A [(h0, .inr (11, [g0, g1, g2, g3, g4, g5, .ref sf, .ref sb, g8, g9, g10, g11, g12])), (sf, .inr (10, [sf0, sf1, sf2, sf3, sf4, .int 1, .int 0])), (sb, .inr (10, [sb0, sb1, sb2, sb3, sb4, .int 1, .int 0])), (ou, .inl (cOut, 1, .inr (.inl fO)))] sz) := by
  refine va_MetW (cc := cL_setInk) (maxL := 5) (ret := (some .int)) (hh := [(0, 10, 13, 13)]) (by decide) rfl ?_
  intro p e s m args below meth c s₁ B hml hv
  obtain ⟨rfl, hsz, hP, hK, hD0, hamb⟩ := hv
  have hx := B.exec
  have hb := B.bytes
  have hr := B.returns
  have hts := atoms_spec (ws := wsL_setInk) B.pre
  have hown : s.vm.findClass RL = some m.cls := findClass_of_methodNamed B.named
  have hlocks := B.notSynchronized
  have htbl : c.exceptionTable.toList = tableOf [(0, 10, 13, 13)] := vx_table (x := yL_setInk) B (hts (.codeWith yL_setInk cL_setInk 5 (some .int) [(0, 10, 13, 13)]) List.mem_cons_self)
  subst hsz
  have hD := hD0.self (sz := s.heap.size)
  generalize hAe : va_A [(h0, .inr (11, [g0, g1, g2, g3, g4, g5, .ref sf, .ref sb, g8, g9, g10, g11, g12])), (sf, .inr (10, [sf0, sf1, sf2, sf3, sf4, .int 1, .int 0])), (sb, .inr (10, [sb0, sb1, sb2, sb3, sb4, .int 1, .int 0])), (ou, .inl (cOut, 1, .inr (.inl fO)))] s.heap.size = A at hD hamb ⊢
  have hA : ∀ q : Nat, s.heap.size ≤ q → A q := fun q h => by rw [← hAe]; exact Or.inr h
  have hS : va_S A s.heap s.heap [] := va_S.rf
  have hP : va_P (dC, dI) vwCl [(h0, .inr (11, [g0, g1, g2, g3, g4, g5, .ref sf, .ref sb, g8, g9, g10, g11, g12])), (sf, .inr (10, [sf0, sf1, sf2, sf3, sf4, .int 1, .int 0])), (sb, .inr (10, [sb0, sb1, sb2, sb3, sb4, .int 1, .int 0])), (ou, .inl (cOut, 1, .inr (.inl fO)))] s.heap := hP
  have hl := lv_entry ([.ref h0, .int 0, .int p0, .ref ou]) (n := 5) (Nat.le_of_ble_eq_true rfl)
  rw [lg_entry_eq]
  generalize (lg_sl ([.ref h0, .int 0, .int p0, .ref ou]) ++ List.replicate (5 - (lg_sl ([.ref h0, .int 0, .int p0, .ref ou])).length) Slot.unset).toArray = ls at hl ⊢
  have hl : lv_has ls 5 [(0, .ref h0), (1, .int 0), (2, .int p0), (3, .ref ou)] := hl
  refine lv_aload_n hx hb dL_setInk_0 rfl (lv_at hl 3 rfl) ?_
  refine lv_iconst (v := 0) hx hb dL_setInk_1 (by decide) ?_
  refine lv_aload_n hx hb dL_setInk_2 rfl (lv_at hl 0 rfl) ?_
  refine lv_iload_n hx hb dL_setInk_3 rfl (lv_at hl 1 rfl) ?_
  refine lv_iload_n hx hb dL_setInk_4 rfl (lv_at hl 2 rfl) ?_
  have hPc := hP.sub (ws' := [(h0, .inr (11, [g0, g1, g2, g3, g4, g5, .ref sf, .ref sb, g8, g9, g10, g11, g12])), (sf, .inr (10, [sf0, sf1, sf2, sf3, sf4, .int 1, .int 0])), (sb, .inr (10, [sb0, sb1, sb2, sb3, sb4, .int 1, .int 0]))]) [0, 1, 2] rfl
  have hDc := hD.sub (ws' := [(h0, .inr (11, [g0, g1, g2, g3, g4, g5, .ref sf, .ref sb, g8, g9, g10, g11, g12])), (sf, .inr (10, [sf0, sf1, sf2, sf3, sf4, .int 1, .int 0])), (sb, .inr (10, [sb0, sb1, sb2, sb3, sb4, .int 1, .int 0]))]) [0, 1, 2] (by decide) rfl
  have hKc := hK.sub (tys' := []) [] rfl
  have hFc := va_free (wc := [(h0, .inr (11, [g0, g1, g2, g3, g4, g5, .ref sf, .ref sb, g8, g9, g10, g11, g12])), (sf, .inr (10, [sf0, sf1, sf2, sf3, sf4, .int 1, .int 0])), (sb, .inr (10, [sb0, sb1, sb2, sb3, sb4, .int 1, .int 0]))]) hD hS hA [0, 1, 2] rfl
  refine vx_calli (vx_runV (As := [.int 0, .int p0]) (rest := [.int 0, .ref ou]) ⟨hx, hb, hml, hown, hts⟩ (c_X5_setInk_0 l hlt em dC dI h0 sf sb p0 g0 g1 g2 g3 g4 g5 g8 g9 g10 g11 g12 sf0 sf1 sf2 sf3 sf4 sb0 sb1 sb2 sb3 sb4 s.heap.size) (cwV 2 hts gL_setInk_X5_setInk rfl rfl rfl (by decide +kernel) ⟨Nat.le_of_ble_eq_true rfl, Nat.le_of_ble_eq_true rfl⟩) ⟨Pw.blind _ _ _ _ _ _ _, va_recv hKc hPc (ci := 11) (q0 := 0) rfl rfl, fun U hU hW => ⟨rfl, Pw.go hPc hKc hDc hamb hS hFc hU hW⟩⟩ rfl rfl hl.1 rfl (lv_room (Nat.le_of_ble_eq_true rfl)) dL_setInk_5 ⟨Nat.le_of_ble_eq_true rfl, Nat.le_of_ble_eq_true rfl⟩) hS (fun q _ h => hFc q h) hFc (fun q _ h => hFc q h) (fun E ce q9 ux tx H1 locs1 htx hvm hpx hBX hz1 hk1 hS hce hcv hcl => ?_) (fun r_1 u t H1 locs1 ht hvm hw hB hz1 hk1 hS => ?_)
  · obtain ⟨rfl, t_2⟩ := hBX
    obtain ⟨hP, hD⟩ := va_rest (wr := [(ou, .inl (cOut, 1, .inr (.inl fO)))]) hP hD [0, 1, 2] [3] rfl rfl (by decide) (by decide) hk1 hFc
    generalize H1 = H at hP hS hce ⊢
    refine vx_widen (k := 1) (n := 6) (Nat.le_of_ble_eq_true rfl) (Nat.le_of_ble_eq_true rfl) ?_
    refine vx_catch (name := "java/lang/IllegalArgumentException") hown [] ⟨0, 10, 13, 13⟩ [] (by rw [htbl]; rfl) (fun z hz => nomatch hz) (by decide) (by decide) (hts (.classLink RL 13 "java/lang/IllegalArgumentException") (by decide +kernel)) (hamb.use (w := .castable "java/lang/IllegalArgumentException" "java/lang/IllegalArgumentException") (by decide +kernel)) hce hcv hcl ?_
    refine lv_astore (lv' := [(4, .ref q9), (0, .ref h0), (1, .int 0), (2, .int p0), (3, .ref ou)]) hx hb dL_setInk_13 hl (by decide) rfl (fun ls hl => ?_)
    refine lv_iconst (v := 1) hx hb dL_setInk_15 (by decide) ?_
    refine W.widen (k := 1) (n := 6) (Nat.le_of_ble_eq_true rfl) (Nat.le_of_ble_eq_true rfl) ?_
    have hP9 := hP.sub (ws' := [(ou, .inl (cOut, 1, .inr (.inl fO)))]) [0] rfl
    have hD9 := hD.sub (ws' := [(ou, .inl (cOut, 1, .inr (.inl fO)))]) [0] (by decide) rfl
    have hK9 := hK.sub (tys' := [(cOut, .long)]) [0] rfl
    exact W.iret (v := 1) hx hb hr (fun t ht hW => ⟨⟨1, (), rfl, ⟨fun h9 => (by first | rfl | (exfalso; omega)), fun h9 => (by first | rfl | (exfalso; omega))⟩, ⟨(fO), ⟨by rw [ht]; exact hP9, va_K.moved hW.alike hK9, hD9⟩, (by first | rfl | assumption | omega | exact fun _ => rfl | exact fun h9 => absurd (by omega) h9 | exact fun h9 => absurd h9 (by omega))⟩⟩, hS.F ht⟩) hS.2.2 dL_setInk_16
  · obtain ⟨hP, hD⟩ := va_rest (wr := [(ou, .inl (cOut, 1, .inr (.inl fO)))]) hP hD [0, 1, 2] [3] rfl rfl (by decide) (by decide) hk1 hFc
    generalize H1 = H at hP hS ⊢
    refine W.widen (k := 1) (n := 6) (Nat.le_of_ble_eq_true rfl) (Nat.le_of_ble_eq_true rfl) ?_
    have hw : ¬ (p0.toInt < 0 ∨ 7 < p0.toInt) ∧ r_1 = 1 := hw
    obtain ⟨t_3, hw⟩ := hw
    rw [hw]
    refine lv_i2l (v := 1) hx hb dL_setInk_8 (by decide) ?_
    refine va_last hx hb hK hP hD hS 0 0 rfl rfl (vp_in_iff.mpr ⟨by decide, by decide⟩) dL_setInk_9 (fun H locs hP hD hS => ?_)
    have hP : va_P (dC, dI) vwCl [(ou, .inl (cOut, 1, .inr (.inl (vp_updL fO 0 1))))] H := hP
    have hD : va_D A [(ou, .inl (cOut, 1, .inr (.inl (vp_updL fO 0 1))))] := hD
    refine lv_goto (tgt := 17) hx hb dL_setInk_10 (by decide) ?_
    refine lv_iconst (v := 0) hx hb dL_setInk_17 (by decide) ?_
    refine W.widen (k := 1) (n := 6) (Nat.le_of_ble_eq_true rfl) (Nat.le_of_ble_eq_true rfl) ?_
    have hP9 := hP.sub (ws' := [(ou, .inl (cOut, 1, .inr (.inl (vp_updL fO 0 1))))]) [0] rfl
    have hD9 := hD.sub (ws' := [(ou, .inl (cOut, 1, .inr (.inl (vp_updL fO 0 1))))]) [0] (by decide) rfl
    have hK9 := hK.sub (tys' := [(cOut, .long)]) [0] rfl
    exact W.iret (v := 0) hx hb hr (fun t ht hW => ⟨⟨0, (), rfl, ⟨fun h9 => (by first | rfl | (exfalso; omega)), fun h9 => (by first | rfl | (exfalso; omega))⟩, ⟨((vp_updL fO 0 1)), ⟨by rw [ht]; exact hP9, va_K.moved hW.alike hK9, hD9⟩, (by first | rfl | assumption | omega | exact fun _ => rfl | exact fun h9 => absurd (by omega) h9 | exact fun h9 => absurd h9 (by omega))⟩⟩, hS.F ht⟩) hS.2.2 dL_setInk_18

set_option maxHeartbeats 4000000 in
set_option maxRecDepth 100000 in
theorem c_L_setInk_1 (l : Launch) (hlt : l.stackTraces = false) (em : Nat → Nat) (dC : Nat → ClassId) (dI : Nat → Nat → Nat) (h0 : Nat) (sf : Nat) (sb : Nat) (p0 : Int32) (g0 : Value) (g1 : Value) (g2 : Value) (g3 : Value) (g4 : Value) (g5 : Value) (g8 : Value) (g9 : Value) (g10 : Value) (g11 : Value) (g12 : Value) (sf0 : Value) (sf1 : Value) (sf2 : Value) (sf3 : Value) (sf4 : Value) (sb0 : Value) (sb1 : Value) (sb2 : Value) (sb3 : Value) (sb4 : Value) (ou : Nat) (cOut : ClassId) (fO : Nat → Int64) (sz : Nat) : Met l yL_setInk wsL_setInk ({ frames := 8, cells := 1, slots := 6, locals := 126 }) (va_Pc [.ref h0, .int 1, .int p0, .ref ou] (Pw em dC dI sz [(h0, .inr (11, [g0, g1, g2, g3, g4, g5, .ref sf, .ref sb, g8, g9, g10, g11, g12])), (sf, .inr (10, [sf0, sf1, sf2, sf3, sf4, .int 1, .int 0])), (sb, .inr (10, [sb0, sb1, sb2, sb3, sb4, .int 1, .int 0])), (ou, .inl (cOut, 1, .inr (.inl fO)))] [(cOut, .long)])) (va_Qi (fun (r : Int32) (_ : Unit) => ((p0.toInt < 0 ∨ 7 < p0.toInt) → r = 1) ∧ (¬ (p0.toInt < 0 ∨ 7 < p0.toInt) → r = 0)) (fun _ t => ∃ (gO : Nat → Int64), Qw dC dI (va_A [(h0, .inr (11, [g0, g1, g2, g3, g4, g5, .ref sf, .ref sb, g8, g9, g10, g11, g12])), (sf, .inr (10, [sf0, sf1, sf2, sf3, sf4, .int 1, .int 0])), (sb, .inr (10, [sb0, sb1, sb2, sb3, sb4, .int 1, .int 0])), (ou, .inl (cOut, 1, .inr (.inl fO)))] sz) [(ou, .inl (cOut, 1, .inr (.inl gO)))] [(cOut, .long)] t ∧ (¬ (p0.toInt < 0 ∨ 7 < p0.toInt) → gO 0 = 1)) (va_A [(h0, .inr (11, [g0, g1, g2, g3, g4, g5, .ref sf, .ref sb, g8, g9, g10, g11, g12])), (sf, .inr (10, [sf0, sf1, sf2, sf3, sf4, .int 1, .int 0])), (sb, .inr (10, [sb0, sb1, sb2, sb3, sb4, .int 1, .int 0])), (ou, .inl (cOut, 1, .inr (.inl fO)))] sz)) 1 6 (va_A [(h0, .inr (11, [g0, g1, g2, g3, g4, g5, .ref sf, .ref sb, g8, g9, g10, g11, g12])), (sf, .inr (10, [sf0, sf1, sf2, sf3, sf4, .int 1, .int 0])), (sb, .inr (10, [sb0, sb1, sb2, sb3, sb4, .int 1, .int 0])), (ou, .inl (cOut, 1, .inr (.inl fO)))] sz) := by
  refine va_MetW (cc := cL_setInk) (maxL := 5) (ret := (some .int)) (hh := [(0, 10, 13, 13)]) (by decide) rfl ?_
  intro p e s m args below meth c s₁ B hml hv
  obtain ⟨rfl, hsz, hP, hK, hD0, hamb⟩ := hv
  have hx := B.exec
  have hb := B.bytes
  have hr := B.returns
  have hts := atoms_spec (ws := wsL_setInk) B.pre
  have hown : s.vm.findClass RL = some m.cls := findClass_of_methodNamed B.named
  have hlocks := B.notSynchronized
  have htbl : c.exceptionTable.toList = tableOf [(0, 10, 13, 13)] := vx_table (x := yL_setInk) B (hts (.codeWith yL_setInk cL_setInk 5 (some .int) [(0, 10, 13, 13)]) List.mem_cons_self)
  subst hsz
  have hD := hD0.self (sz := s.heap.size)
  generalize hAe : va_A [(h0, .inr (11, [g0, g1, g2, g3, g4, g5, .ref sf, .ref sb, g8, g9, g10, g11, g12])), (sf, .inr (10, [sf0, sf1, sf2, sf3, sf4, .int 1, .int 0])), (sb, .inr (10, [sb0, sb1, sb2, sb3, sb4, .int 1, .int 0])), (ou, .inl (cOut, 1, .inr (.inl fO)))] s.heap.size = A at hD hamb ⊢
  have hA : ∀ q : Nat, s.heap.size ≤ q → A q := fun q h => by rw [← hAe]; exact Or.inr h
  have hS : va_S A s.heap s.heap [] := va_S.rf
  have hP : va_P (dC, dI) vwCl [(h0, .inr (11, [g0, g1, g2, g3, g4, g5, .ref sf, .ref sb, g8, g9, g10, g11, g12])), (sf, .inr (10, [sf0, sf1, sf2, sf3, sf4, .int 1, .int 0])), (sb, .inr (10, [sb0, sb1, sb2, sb3, sb4, .int 1, .int 0])), (ou, .inl (cOut, 1, .inr (.inl fO)))] s.heap := hP
  have hl := lv_entry ([.ref h0, .int 1, .int p0, .ref ou]) (n := 5) (Nat.le_of_ble_eq_true rfl)
  rw [lg_entry_eq]
  generalize (lg_sl ([.ref h0, .int 1, .int p0, .ref ou]) ++ List.replicate (5 - (lg_sl ([.ref h0, .int 1, .int p0, .ref ou])).length) Slot.unset).toArray = ls at hl ⊢
  have hl : lv_has ls 5 [(0, .ref h0), (1, .int 1), (2, .int p0), (3, .ref ou)] := hl
  refine lv_aload_n hx hb dL_setInk_0 rfl (lv_at hl 3 rfl) ?_
  refine lv_iconst (v := 0) hx hb dL_setInk_1 (by decide) ?_
  refine lv_aload_n hx hb dL_setInk_2 rfl (lv_at hl 0 rfl) ?_
  refine lv_iload_n hx hb dL_setInk_3 rfl (lv_at hl 1 rfl) ?_
  refine lv_iload_n hx hb dL_setInk_4 rfl (lv_at hl 2 rfl) ?_
  have hPc := hP.sub (ws' := [(h0, .inr (11, [g0, g1, g2, g3, g4, g5, .ref sf, .ref sb, g8, g9, g10, g11, g12])), (sf, .inr (10, [sf0, sf1, sf2, sf3, sf4, .int 1, .int 0])), (sb, .inr (10, [sb0, sb1, sb2, sb3, sb4, .int 1, .int 0]))]) [0, 1, 2] rfl
  have hDc := hD.sub (ws' := [(h0, .inr (11, [g0, g1, g2, g3, g4, g5, .ref sf, .ref sb, g8, g9, g10, g11, g12])), (sf, .inr (10, [sf0, sf1, sf2, sf3, sf4, .int 1, .int 0])), (sb, .inr (10, [sb0, sb1, sb2, sb3, sb4, .int 1, .int 0]))]) [0, 1, 2] (by decide) rfl
  have hKc := hK.sub (tys' := []) [] rfl
  have hFc := va_free (wc := [(h0, .inr (11, [g0, g1, g2, g3, g4, g5, .ref sf, .ref sb, g8, g9, g10, g11, g12])), (sf, .inr (10, [sf0, sf1, sf2, sf3, sf4, .int 1, .int 0])), (sb, .inr (10, [sb0, sb1, sb2, sb3, sb4, .int 1, .int 0]))]) hD hS hA [0, 1, 2] rfl
  refine vx_calli (vx_runV (As := [.int 1, .int p0]) (rest := [.int 0, .ref ou]) ⟨hx, hb, hml, hown, hts⟩ (c_X5_setInk_1 l hlt em dC dI h0 sf sb p0 g0 g1 g2 g3 g4 g5 g8 g9 g10 g11 g12 sf0 sf1 sf2 sf3 sf4 sb0 sb1 sb2 sb3 sb4 s.heap.size) (cwV 2 hts gL_setInk_X5_setInk rfl rfl rfl (by decide +kernel) ⟨Nat.le_of_ble_eq_true rfl, Nat.le_of_ble_eq_true rfl⟩) ⟨Pw.blind _ _ _ _ _ _ _, va_recv hKc hPc (ci := 11) (q0 := 0) rfl rfl, fun U hU hW => ⟨rfl, Pw.go hPc hKc hDc hamb hS hFc hU hW⟩⟩ rfl rfl hl.1 rfl (lv_room (Nat.le_of_ble_eq_true rfl)) dL_setInk_5 ⟨Nat.le_of_ble_eq_true rfl, Nat.le_of_ble_eq_true rfl⟩) hS (fun q _ h => hFc q h) hFc (fun q _ h => hFc q h) (fun E ce q9 ux tx H1 locs1 htx hvm hpx hBX hz1 hk1 hS hce hcv hcl => ?_) (fun r_1 u t H1 locs1 ht hvm hw hB hz1 hk1 hS => ?_)
  · obtain ⟨rfl, t_2⟩ := hBX
    obtain ⟨hP, hD⟩ := va_rest (wr := [(ou, .inl (cOut, 1, .inr (.inl fO)))]) hP hD [0, 1, 2] [3] rfl rfl (by decide) (by decide) hk1 hFc
    generalize H1 = H at hP hS hce ⊢
    refine vx_widen (k := 1) (n := 6) (Nat.le_of_ble_eq_true rfl) (Nat.le_of_ble_eq_true rfl) ?_
    refine vx_catch (name := "java/lang/IllegalArgumentException") hown [] ⟨0, 10, 13, 13⟩ [] (by rw [htbl]; rfl) (fun z hz => nomatch hz) (by decide) (by decide) (hts (.classLink RL 13 "java/lang/IllegalArgumentException") (by decide +kernel)) (hamb.use (w := .castable "java/lang/IllegalArgumentException" "java/lang/IllegalArgumentException") (by decide +kernel)) hce hcv hcl ?_
    refine lv_astore (lv' := [(4, .ref q9), (0, .ref h0), (1, .int 1), (2, .int p0), (3, .ref ou)]) hx hb dL_setInk_13 hl (by decide) rfl (fun ls hl => ?_)
    refine lv_iconst (v := 1) hx hb dL_setInk_15 (by decide) ?_
    refine W.widen (k := 1) (n := 6) (Nat.le_of_ble_eq_true rfl) (Nat.le_of_ble_eq_true rfl) ?_
    have hP9 := hP.sub (ws' := [(ou, .inl (cOut, 1, .inr (.inl fO)))]) [0] rfl
    have hD9 := hD.sub (ws' := [(ou, .inl (cOut, 1, .inr (.inl fO)))]) [0] (by decide) rfl
    have hK9 := hK.sub (tys' := [(cOut, .long)]) [0] rfl
    exact W.iret (v := 1) hx hb hr (fun t ht hW => ⟨⟨1, (), rfl, ⟨fun h9 => (by first | rfl | (exfalso; omega)), fun h9 => (by first | rfl | (exfalso; omega))⟩, ⟨(fO), ⟨by rw [ht]; exact hP9, va_K.moved hW.alike hK9, hD9⟩, (by first | rfl | assumption | omega | exact fun _ => rfl | exact fun h9 => absurd (by omega) h9 | exact fun h9 => absurd h9 (by omega))⟩⟩, hS.F ht⟩) hS.2.2 dL_setInk_16
  · obtain ⟨hP, hD⟩ := va_rest (wr := [(ou, .inl (cOut, 1, .inr (.inl fO)))]) hP hD [0, 1, 2] [3] rfl rfl (by decide) (by decide) hk1 hFc
    generalize H1 = H at hP hS ⊢
    refine W.widen (k := 1) (n := 6) (Nat.le_of_ble_eq_true rfl) (Nat.le_of_ble_eq_true rfl) ?_
    have hw : ¬ (p0.toInt < 0 ∨ 7 < p0.toInt) ∧ r_1 = 1 := hw
    obtain ⟨t_3, hw⟩ := hw
    rw [hw]
    refine lv_i2l (v := 1) hx hb dL_setInk_8 (by decide) ?_
    refine va_last hx hb hK hP hD hS 0 0 rfl rfl (vp_in_iff.mpr ⟨by decide, by decide⟩) dL_setInk_9 (fun H locs hP hD hS => ?_)
    have hP : va_P (dC, dI) vwCl [(ou, .inl (cOut, 1, .inr (.inl (vp_updL fO 0 1))))] H := hP
    have hD : va_D A [(ou, .inl (cOut, 1, .inr (.inl (vp_updL fO 0 1))))] := hD
    refine lv_goto (tgt := 17) hx hb dL_setInk_10 (by decide) ?_
    refine lv_iconst (v := 0) hx hb dL_setInk_17 (by decide) ?_
    refine W.widen (k := 1) (n := 6) (Nat.le_of_ble_eq_true rfl) (Nat.le_of_ble_eq_true rfl) ?_
    have hP9 := hP.sub (ws' := [(ou, .inl (cOut, 1, .inr (.inl (vp_updL fO 0 1))))]) [0] rfl
    have hD9 := hD.sub (ws' := [(ou, .inl (cOut, 1, .inr (.inl (vp_updL fO 0 1))))]) [0] (by decide) rfl
    have hK9 := hK.sub (tys' := [(cOut, .long)]) [0] rfl
    exact W.iret (v := 0) hx hb hr (fun t ht hW => ⟨⟨0, (), rfl, ⟨fun h9 => (by first | rfl | (exfalso; omega)), fun h9 => (by first | rfl | (exfalso; omega))⟩, ⟨((vp_updL fO 0 1)), ⟨by rw [ht]; exact hP9, va_K.moved hW.alike hK9, hD9⟩, (by first | rfl | assumption | omega | exact fun _ => rfl | exact fun h9 => absurd (by omega) h9 | exact fun h9 => absurd h9 (by omega))⟩⟩, hS.F ht⟩) hS.2.2 dL_setInk_18

set_option maxHeartbeats 4000000 in
set_option maxRecDepth 100000 in
theorem c_L_setGround_0 (l : Launch) (hlt : l.stackTraces = false) (em : Nat → Nat) (dC : Nat → ClassId) (dI : Nat → Nat → Nat) (h0 : Nat) (sf : Nat) (sb : Nat) (p0 : Int32) (g0 : Value) (g1 : Value) (g2 : Value) (g3 : Value) (g4 : Value) (g5 : Value) (g8 : Value) (g9 : Value) (g10 : Value) (g11 : Value) (g12 : Value) (sf0 : Value) (sf1 : Value) (sf2 : Value) (sf3 : Value) (sf4 : Value) (sb0 : Value) (sb1 : Value) (sb2 : Value) (sb3 : Value) (sb4 : Value) (ou : Nat) (cOut : ClassId) (fO : Nat → Int64) (sz : Nat) : Met l yL_setGround wsL_setGround ({ frames := 8, cells := 1, slots := 6, locals := 126 }) (va_Pc [.ref h0, .int 0, .int p0, .ref ou] (Pw em dC dI sz [(h0, .inr (11, [g0, g1, g2, g3, g4, g5, .ref sf, .ref sb, g8, g9, g10, g11, g12])), (sf, .inr (10, [sf0, sf1, sf2, sf3, sf4, .int 1, .int 0])), (sb, .inr (10, [sb0, sb1, sb2, sb3, sb4, .int 1, .int 0])), (ou, .inl (cOut, 1, .inr (.inl fO)))] [(cOut, .long)])) (va_Qi (fun (r : Int32) (_ : Unit) => ((p0.toInt < 0 ∨ 7 < p0.toInt) → r = 1) ∧ (¬ (p0.toInt < 0 ∨ 7 < p0.toInt) → r = 0)) (fun _ t => ∃ (gO : Nat → Int64), Qw dC dI (va_A [(h0, .inr (11, [g0, g1, g2, g3, g4, g5, .ref sf, .ref sb, g8, g9, g10, g11, g12])), (sf, .inr (10, [sf0, sf1, sf2, sf3, sf4, .int 1, .int 0])), (sb, .inr (10, [sb0, sb1, sb2, sb3, sb4, .int 1, .int 0])), (ou, .inl (cOut, 1, .inr (.inl fO)))] sz) [(ou, .inl (cOut, 1, .inr (.inl gO)))] [(cOut, .long)] t ∧ (¬ (p0.toInt < 0 ∨ 7 < p0.toInt) → gO 0 = 0)) (va_A [(h0, .inr (11, [g0, g1, g2, g3, g4, g5, .ref sf, .ref sb, g8, g9, g10, g11, g12])), (sf, .inr (10, [sf0, sf1, sf2, sf3, sf4, .int 1, .int 0])), (sb, .inr (10, [sb0, sb1, sb2, sb3, sb4, .int 1, .int 0])), (ou, .inl (cOut, 1, .inr (.inl fO)))] sz)) 1 6 (va_A [(h0, .inr (11, [g0, g1, g2, g3, g4, g5, .ref sf, .ref sb, g8, g9, g10, g11, g12])), (sf, .inr (10, [sf0, sf1, sf2, sf3, sf4, .int 1, .int 0])), (sb, .inr (10, [sb0, sb1, sb2, sb3, sb4, .int 1, .int 0])), (ou, .inl (cOut, 1, .inr (.inl fO)))] sz) := by
  refine va_MetW (cc := cL_setGround) (maxL := 5) (ret := (some .int)) (hh := [(0, 10, 13, 13)]) (by decide) rfl ?_
  intro p e s m args below meth c s₁ B hml hv
  obtain ⟨rfl, hsz, hP, hK, hD0, hamb⟩ := hv
  have hx := B.exec
  have hb := B.bytes
  have hr := B.returns
  have hts := atoms_spec (ws := wsL_setGround) B.pre
  have hown : s.vm.findClass RL = some m.cls := findClass_of_methodNamed B.named
  have hlocks := B.notSynchronized
  have htbl : c.exceptionTable.toList = tableOf [(0, 10, 13, 13)] := vx_table (x := yL_setGround) B (hts (.codeWith yL_setGround cL_setGround 5 (some .int) [(0, 10, 13, 13)]) List.mem_cons_self)
  subst hsz
  have hD := hD0.self (sz := s.heap.size)
  generalize hAe : va_A [(h0, .inr (11, [g0, g1, g2, g3, g4, g5, .ref sf, .ref sb, g8, g9, g10, g11, g12])), (sf, .inr (10, [sf0, sf1, sf2, sf3, sf4, .int 1, .int 0])), (sb, .inr (10, [sb0, sb1, sb2, sb3, sb4, .int 1, .int 0])), (ou, .inl (cOut, 1, .inr (.inl fO)))] s.heap.size = A at hD hamb ⊢
  have hA : ∀ q : Nat, s.heap.size ≤ q → A q := fun q h => by rw [← hAe]; exact Or.inr h
  have hS : va_S A s.heap s.heap [] := va_S.rf
  have hP : va_P (dC, dI) vwCl [(h0, .inr (11, [g0, g1, g2, g3, g4, g5, .ref sf, .ref sb, g8, g9, g10, g11, g12])), (sf, .inr (10, [sf0, sf1, sf2, sf3, sf4, .int 1, .int 0])), (sb, .inr (10, [sb0, sb1, sb2, sb3, sb4, .int 1, .int 0])), (ou, .inl (cOut, 1, .inr (.inl fO)))] s.heap := hP
  have hl := lv_entry ([.ref h0, .int 0, .int p0, .ref ou]) (n := 5) (Nat.le_of_ble_eq_true rfl)
  rw [lg_entry_eq]
  generalize (lg_sl ([.ref h0, .int 0, .int p0, .ref ou]) ++ List.replicate (5 - (lg_sl ([.ref h0, .int 0, .int p0, .ref ou])).length) Slot.unset).toArray = ls at hl ⊢
  have hl : lv_has ls 5 [(0, .ref h0), (1, .int 0), (2, .int p0), (3, .ref ou)] := hl
  refine lv_aload_n hx hb dL_setGround_0 rfl (lv_at hl 3 rfl) ?_
  refine lv_iconst (v := 0) hx hb dL_setGround_1 (by decide) ?_
  refine lv_aload_n hx hb dL_setGround_2 rfl (lv_at hl 0 rfl) ?_
  refine lv_iload_n hx hb dL_setGround_3 rfl (lv_at hl 1 rfl) ?_
  refine lv_iload_n hx hb dL_setGround_4 rfl (lv_at hl 2 rfl) ?_
  have hPc := hP.sub (ws' := [(h0, .inr (11, [g0, g1, g2, g3, g4, g5, .ref sf, .ref sb, g8, g9, g10, g11, g12])), (sf, .inr (10, [sf0, sf1, sf2, sf3, sf4, .int 1, .int 0])), (sb, .inr (10, [sb0, sb1, sb2, sb3, sb4, .int 1, .int 0]))]) [0, 1, 2] rfl
  have hDc := hD.sub (ws' := [(h0, .inr (11, [g0, g1, g2, g3, g4, g5, .ref sf, .ref sb, g8, g9, g10, g11, g12])), (sf, .inr (10, [sf0, sf1, sf2, sf3, sf4, .int 1, .int 0])), (sb, .inr (10, [sb0, sb1, sb2, sb3, sb4, .int 1, .int 0]))]) [0, 1, 2] (by decide) rfl
  have hKc := hK.sub (tys' := []) [] rfl
  have hFc := va_free (wc := [(h0, .inr (11, [g0, g1, g2, g3, g4, g5, .ref sf, .ref sb, g8, g9, g10, g11, g12])), (sf, .inr (10, [sf0, sf1, sf2, sf3, sf4, .int 1, .int 0])), (sb, .inr (10, [sb0, sb1, sb2, sb3, sb4, .int 1, .int 0]))]) hD hS hA [0, 1, 2] rfl
  refine vx_calli (vx_runV (As := [.int 0, .int p0]) (rest := [.int 0, .ref ou]) ⟨hx, hb, hml, hown, hts⟩ (c_X5_setGround_0 l hlt em dC dI h0 sf sb p0 g0 g1 g2 g3 g4 g5 g8 g9 g10 g11 g12 sf0 sf1 sf2 sf3 sf4 sb0 sb1 sb2 sb3 sb4 s.heap.size) (cwV 2 hts gL_setGround_X5_setGround rfl rfl rfl (by decide +kernel) ⟨Nat.le_of_ble_eq_true rfl, Nat.le_of_ble_eq_true rfl⟩) ⟨Pw.blind _ _ _ _ _ _ _, va_recv hKc hPc (ci := 11) (q0 := 0) rfl rfl, fun U hU hW => ⟨rfl, Pw.go hPc hKc hDc hamb hS hFc hU hW⟩⟩ rfl rfl hl.1 rfl (lv_room (Nat.le_of_ble_eq_true rfl)) dL_setGround_5 ⟨Nat.le_of_ble_eq_true rfl, Nat.le_of_ble_eq_true rfl⟩) hS (fun q _ h => hFc q h) hFc (fun q _ h => hFc q h) (fun E ce q9 ux tx H1 locs1 htx hvm hpx hBX hz1 hk1 hS hce hcv hcl => ?_) (fun r_1 u t H1 locs1 ht hvm hw hB hz1 hk1 hS => ?_)
  · obtain ⟨rfl, t_2⟩ := hBX
    obtain ⟨hP, hD⟩ := va_rest (wr := [(ou, .inl (cOut, 1, .inr (.inl fO)))]) hP hD [0, 1, 2] [3] rfl rfl (by decide) (by decide) hk1 hFc
    generalize H1 = H at hP hS hce ⊢
    refine vx_widen (k := 1) (n := 6) (Nat.le_of_ble_eq_true rfl) (Nat.le_of_ble_eq_true rfl) ?_
    refine vx_catch (name := "java/lang/IllegalArgumentException") hown [] ⟨0, 10, 13, 13⟩ [] (by rw [htbl]; rfl) (fun z hz => nomatch hz) (by decide) (by decide) (hts (.classLink RL 13 "java/lang/IllegalArgumentException") (by decide +kernel)) (hamb.use (w := .castable "java/lang/IllegalArgumentException" "java/lang/IllegalArgumentException") (by decide +kernel)) hce hcv hcl ?_
    refine lv_astore (lv' := [(4, .ref q9), (0, .ref h0), (1, .int 0), (2, .int p0), (3, .ref ou)]) hx hb dL_setGround_13 hl (by decide) rfl (fun ls hl => ?_)
    refine lv_iconst (v := 1) hx hb dL_setGround_15 (by decide) ?_
    refine W.widen (k := 1) (n := 6) (Nat.le_of_ble_eq_true rfl) (Nat.le_of_ble_eq_true rfl) ?_
    have hP9 := hP.sub (ws' := [(ou, .inl (cOut, 1, .inr (.inl fO)))]) [0] rfl
    have hD9 := hD.sub (ws' := [(ou, .inl (cOut, 1, .inr (.inl fO)))]) [0] (by decide) rfl
    have hK9 := hK.sub (tys' := [(cOut, .long)]) [0] rfl
    exact W.iret (v := 1) hx hb hr (fun t ht hW => ⟨⟨1, (), rfl, ⟨fun h9 => (by first | rfl | (exfalso; omega)), fun h9 => (by first | rfl | (exfalso; omega))⟩, ⟨(fO), ⟨by rw [ht]; exact hP9, va_K.moved hW.alike hK9, hD9⟩, (by first | rfl | assumption | omega | exact fun _ => rfl | exact fun h9 => absurd (by omega) h9 | exact fun h9 => absurd h9 (by omega))⟩⟩, hS.F ht⟩) hS.2.2 dL_setGround_16
  · obtain ⟨hP, hD⟩ := va_rest (wr := [(ou, .inl (cOut, 1, .inr (.inl fO)))]) hP hD [0, 1, 2] [3] rfl rfl (by decide) (by decide) hk1 hFc
    generalize H1 = H at hP hS ⊢
    refine W.widen (k := 1) (n := 6) (Nat.le_of_ble_eq_true rfl) (Nat.le_of_ble_eq_true rfl) ?_
    have hw : ¬ (p0.toInt < 0 ∨ 7 < p0.toInt) ∧ r_1 = 0 := hw
    obtain ⟨t_3, hw⟩ := hw
    rw [hw]
    refine lv_i2l (v := 0) hx hb dL_setGround_8 (by decide) ?_
    refine va_last hx hb hK hP hD hS 0 0 rfl rfl (vp_in_iff.mpr ⟨by decide, by decide⟩) dL_setGround_9 (fun H locs hP hD hS => ?_)
    have hP : va_P (dC, dI) vwCl [(ou, .inl (cOut, 1, .inr (.inl (vp_updL fO 0 0))))] H := hP
    have hD : va_D A [(ou, .inl (cOut, 1, .inr (.inl (vp_updL fO 0 0))))] := hD
    refine lv_goto (tgt := 17) hx hb dL_setGround_10 (by decide) ?_
    refine lv_iconst (v := 0) hx hb dL_setGround_17 (by decide) ?_
    refine W.widen (k := 1) (n := 6) (Nat.le_of_ble_eq_true rfl) (Nat.le_of_ble_eq_true rfl) ?_
    have hP9 := hP.sub (ws' := [(ou, .inl (cOut, 1, .inr (.inl (vp_updL fO 0 0))))]) [0] rfl
    have hD9 := hD.sub (ws' := [(ou, .inl (cOut, 1, .inr (.inl (vp_updL fO 0 0))))]) [0] (by decide) rfl
    have hK9 := hK.sub (tys' := [(cOut, .long)]) [0] rfl
    exact W.iret (v := 0) hx hb hr (fun t ht hW => ⟨⟨0, (), rfl, ⟨fun h9 => (by first | rfl | (exfalso; omega)), fun h9 => (by first | rfl | (exfalso; omega))⟩, ⟨((vp_updL fO 0 0)), ⟨by rw [ht]; exact hP9, va_K.moved hW.alike hK9, hD9⟩, (by first | rfl | assumption | omega | exact fun _ => rfl | exact fun h9 => absurd (by omega) h9 | exact fun h9 => absurd h9 (by omega))⟩⟩, hS.F ht⟩) hS.2.2 dL_setGround_18

set_option maxHeartbeats 4000000 in
set_option maxRecDepth 100000 in
theorem c_L_setGround_1 (l : Launch) (hlt : l.stackTraces = false) (em : Nat → Nat) (dC : Nat → ClassId) (dI : Nat → Nat → Nat) (h0 : Nat) (sf : Nat) (sb : Nat) (p0 : Int32) (g0 : Value) (g1 : Value) (g2 : Value) (g3 : Value) (g4 : Value) (g5 : Value) (g8 : Value) (g9 : Value) (g10 : Value) (g11 : Value) (g12 : Value) (sf0 : Value) (sf1 : Value) (sf2 : Value) (sf3 : Value) (sf4 : Value) (sb0 : Value) (sb1 : Value) (sb2 : Value) (sb3 : Value) (sb4 : Value) (ou : Nat) (cOut : ClassId) (fO : Nat → Int64) (sz : Nat) : Met l yL_setGround wsL_setGround ({ frames := 8, cells := 1, slots := 6, locals := 126 }) (va_Pc [.ref h0, .int 1, .int p0, .ref ou] (Pw em dC dI sz [(h0, .inr (11, [g0, g1, g2, g3, g4, g5, .ref sf, .ref sb, g8, g9, g10, g11, g12])), (sf, .inr (10, [sf0, sf1, sf2, sf3, sf4, .int 1, .int 0])), (sb, .inr (10, [sb0, sb1, sb2, sb3, sb4, .int 1, .int 0])), (ou, .inl (cOut, 1, .inr (.inl fO)))] [(cOut, .long)])) (va_Qi (fun (r : Int32) (_ : Unit) => ((p0.toInt < 0 ∨ 7 < p0.toInt) → r = 1) ∧ (¬ (p0.toInt < 0 ∨ 7 < p0.toInt) → r = 0)) (fun _ t => ∃ (gO : Nat → Int64), Qw dC dI (va_A [(h0, .inr (11, [g0, g1, g2, g3, g4, g5, .ref sf, .ref sb, g8, g9, g10, g11, g12])), (sf, .inr (10, [sf0, sf1, sf2, sf3, sf4, .int 1, .int 0])), (sb, .inr (10, [sb0, sb1, sb2, sb3, sb4, .int 1, .int 0])), (ou, .inl (cOut, 1, .inr (.inl fO)))] sz) [(ou, .inl (cOut, 1, .inr (.inl gO)))] [(cOut, .long)] t ∧ (¬ (p0.toInt < 0 ∨ 7 < p0.toInt) → gO 0 = 0)) (va_A [(h0, .inr (11, [g0, g1, g2, g3, g4, g5, .ref sf, .ref sb, g8, g9, g10, g11, g12])), (sf, .inr (10, [sf0, sf1, sf2, sf3, sf4, .int 1, .int 0])), (sb, .inr (10, [sb0, sb1, sb2, sb3, sb4, .int 1, .int 0])), (ou, .inl (cOut, 1, .inr (.inl fO)))] sz)) 1 6 (va_A [(h0, .inr (11, [g0, g1, g2, g3, g4, g5, .ref sf, .ref sb, g8, g9, g10, g11, g12])), (sf, .inr (10, [sf0, sf1, sf2, sf3, sf4, .int 1, .int 0])), (sb, .inr (10, [sb0, sb1, sb2, sb3, sb4, .int 1, .int 0])), (ou, .inl (cOut, 1, .inr (.inl fO)))] sz) := by
  refine va_MetW (cc := cL_setGround) (maxL := 5) (ret := (some .int)) (hh := [(0, 10, 13, 13)]) (by decide) rfl ?_
  intro p e s m args below meth c s₁ B hml hv
  obtain ⟨rfl, hsz, hP, hK, hD0, hamb⟩ := hv
  have hx := B.exec
  have hb := B.bytes
  have hr := B.returns
  have hts := atoms_spec (ws := wsL_setGround) B.pre
  have hown : s.vm.findClass RL = some m.cls := findClass_of_methodNamed B.named
  have hlocks := B.notSynchronized
  have htbl : c.exceptionTable.toList = tableOf [(0, 10, 13, 13)] := vx_table (x := yL_setGround) B (hts (.codeWith yL_setGround cL_setGround 5 (some .int) [(0, 10, 13, 13)]) List.mem_cons_self)
  subst hsz
  have hD := hD0.self (sz := s.heap.size)
  generalize hAe : va_A [(h0, .inr (11, [g0, g1, g2, g3, g4, g5, .ref sf, .ref sb, g8, g9, g10, g11, g12])), (sf, .inr (10, [sf0, sf1, sf2, sf3, sf4, .int 1, .int 0])), (sb, .inr (10, [sb0, sb1, sb2, sb3, sb4, .int 1, .int 0])), (ou, .inl (cOut, 1, .inr (.inl fO)))] s.heap.size = A at hD hamb ⊢
  have hA : ∀ q : Nat, s.heap.size ≤ q → A q := fun q h => by rw [← hAe]; exact Or.inr h
  have hS : va_S A s.heap s.heap [] := va_S.rf
  have hP : va_P (dC, dI) vwCl [(h0, .inr (11, [g0, g1, g2, g3, g4, g5, .ref sf, .ref sb, g8, g9, g10, g11, g12])), (sf, .inr (10, [sf0, sf1, sf2, sf3, sf4, .int 1, .int 0])), (sb, .inr (10, [sb0, sb1, sb2, sb3, sb4, .int 1, .int 0])), (ou, .inl (cOut, 1, .inr (.inl fO)))] s.heap := hP
  have hl := lv_entry ([.ref h0, .int 1, .int p0, .ref ou]) (n := 5) (Nat.le_of_ble_eq_true rfl)
  rw [lg_entry_eq]
  generalize (lg_sl ([.ref h0, .int 1, .int p0, .ref ou]) ++ List.replicate (5 - (lg_sl ([.ref h0, .int 1, .int p0, .ref ou])).length) Slot.unset).toArray = ls at hl ⊢
  have hl : lv_has ls 5 [(0, .ref h0), (1, .int 1), (2, .int p0), (3, .ref ou)] := hl
  refine lv_aload_n hx hb dL_setGround_0 rfl (lv_at hl 3 rfl) ?_
  refine lv_iconst (v := 0) hx hb dL_setGround_1 (by decide) ?_
  refine lv_aload_n hx hb dL_setGround_2 rfl (lv_at hl 0 rfl) ?_
  refine lv_iload_n hx hb dL_setGround_3 rfl (lv_at hl 1 rfl) ?_
  refine lv_iload_n hx hb dL_setGround_4 rfl (lv_at hl 2 rfl) ?_
  have hPc := hP.sub (ws' := [(h0, .inr (11, [g0, g1, g2, g3, g4, g5, .ref sf, .ref sb, g8, g9, g10, g11, g12])), (sf, .inr (10, [sf0, sf1, sf2, sf3, sf4, .int 1, .int 0])), (sb, .inr (10, [sb0, sb1, sb2, sb3, sb4, .int 1, .int 0]))]) [0, 1, 2] rfl
  have hDc := hD.sub (ws' := [(h0, .inr (11, [g0, g1, g2, g3, g4, g5, .ref sf, .ref sb, g8, g9, g10, g11, g12])), (sf, .inr (10, [sf0, sf1, sf2, sf3, sf4, .int 1, .int 0])), (sb, .inr (10, [sb0, sb1, sb2, sb3, sb4, .int 1, .int 0]))]) [0, 1, 2] (by decide) rfl
  have hKc := hK.sub (tys' := []) [] rfl
  have hFc := va_free (wc := [(h0, .inr (11, [g0, g1, g2, g3, g4, g5, .ref sf, .ref sb, g8, g9, g10, g11, g12])), (sf, .inr (10, [sf0, sf1, sf2, sf3, sf4, .int 1, .int 0])), (sb, .inr (10, [sb0, sb1, sb2, sb3, sb4, .int 1, .int 0]))]) hD hS hA [0, 1, 2] rfl
  refine vx_calli (vx_runV (As := [.int 1, .int p0]) (rest := [.int 0, .ref ou]) ⟨hx, hb, hml, hown, hts⟩ (c_X5_setGround_1 l hlt em dC dI h0 sf sb p0 g0 g1 g2 g3 g4 g5 g8 g9 g10 g11 g12 sf0 sf1 sf2 sf3 sf4 sb0 sb1 sb2 sb3 sb4 s.heap.size) (cwV 2 hts gL_setGround_X5_setGround rfl rfl rfl (by decide +kernel) ⟨Nat.le_of_ble_eq_true rfl, Nat.le_of_ble_eq_true rfl⟩) ⟨Pw.blind _ _ _ _ _ _ _, va_recv hKc hPc (ci := 11) (q0 := 0) rfl rfl, fun U hU hW => ⟨rfl, Pw.go hPc hKc hDc hamb hS hFc hU hW⟩⟩ rfl rfl hl.1 rfl (lv_room (Nat.le_of_ble_eq_true rfl)) dL_setGround_5 ⟨Nat.le_of_ble_eq_true rfl, Nat.le_of_ble_eq_true rfl⟩) hS (fun q _ h => hFc q h) hFc (fun q _ h => hFc q h) (fun E ce q9 ux tx H1 locs1 htx hvm hpx hBX hz1 hk1 hS hce hcv hcl => ?_) (fun r_1 u t H1 locs1 ht hvm hw hB hz1 hk1 hS => ?_)
  · obtain ⟨rfl, t_2⟩ := hBX
    obtain ⟨hP, hD⟩ := va_rest (wr := [(ou, .inl (cOut, 1, .inr (.inl fO)))]) hP hD [0, 1, 2] [3] rfl rfl (by decide) (by decide) hk1 hFc
    generalize H1 = H at hP hS hce ⊢
    refine vx_widen (k := 1) (n := 6) (Nat.le_of_ble_eq_true rfl) (Nat.le_of_ble_eq_true rfl) ?_
    refine vx_catch (name := "java/lang/IllegalArgumentException") hown [] ⟨0, 10, 13, 13⟩ [] (by rw [htbl]; rfl) (fun z hz => nomatch hz) (by decide) (by decide) (hts (.classLink RL 13 "java/lang/IllegalArgumentException") (by decide +kernel)) (hamb.use (w := .castable "java/lang/IllegalArgumentException" "java/lang/IllegalArgumentException") (by decide +kernel)) hce hcv hcl ?_
    refine lv_astore (lv' := [(4, .ref q9), (0, .ref h0), (1, .int 1), (2, .int p0), (3, .ref ou)]) hx hb dL_setGround_13 hl (by decide) rfl (fun ls hl => ?_)
    refine lv_iconst (v := 1) hx hb dL_setGround_15 (by decide) ?_
    refine W.widen (k := 1) (n := 6) (Nat.le_of_ble_eq_true rfl) (Nat.le_of_ble_eq_true rfl) ?_
    have hP9 := hP.sub (ws' := [(ou, .inl (cOut, 1, .inr (.inl fO)))]) [0] rfl
    have hD9 := hD.sub (ws' := [(ou, .inl (cOut, 1, .inr (.inl fO)))]) [0] (by decide) rfl
    have hK9 := hK.sub (tys' := [(cOut, .long)]) [0] rfl
    exact W.iret (v := 1) hx hb hr (fun t ht hW => ⟨⟨1, (), rfl, ⟨fun h9 => (by first | rfl | (exfalso; omega)), fun h9 => (by first | rfl | (exfalso; omega))⟩, ⟨(fO), ⟨by rw [ht]; exact hP9, va_K.moved hW.alike hK9, hD9⟩, (by first | rfl | assumption | omega | exact fun _ => rfl | exact fun h9 => absurd (by omega) h9 | exact fun h9 => absurd h9 (by omega))⟩⟩, hS.F ht⟩) hS.2.2 dL_setGround_16
  · obtain ⟨hP, hD⟩ := va_rest (wr := [(ou, .inl (cOut, 1, .inr (.inl fO)))]) hP hD [0, 1, 2] [3] rfl rfl (by decide) (by decide) hk1 hFc
    generalize H1 = H at hP hS ⊢
    refine W.widen (k := 1) (n := 6) (Nat.le_of_ble_eq_true rfl) (Nat.le_of_ble_eq_true rfl) ?_
    have hw : ¬ (p0.toInt < 0 ∨ 7 < p0.toInt) ∧ r_1 = 0 := hw
    obtain ⟨t_3, hw⟩ := hw
    rw [hw]
    refine lv_i2l (v := 0) hx hb dL_setGround_8 (by decide) ?_
    refine va_last hx hb hK hP hD hS 0 0 rfl rfl (vp_in_iff.mpr ⟨by decide, by decide⟩) dL_setGround_9 (fun H locs hP hD hS => ?_)
    have hP : va_P (dC, dI) vwCl [(ou, .inl (cOut, 1, .inr (.inl (vp_updL fO 0 0))))] H := hP
    have hD : va_D A [(ou, .inl (cOut, 1, .inr (.inl (vp_updL fO 0 0))))] := hD
    refine lv_goto (tgt := 17) hx hb dL_setGround_10 (by decide) ?_
    refine lv_iconst (v := 0) hx hb dL_setGround_17 (by decide) ?_
    refine W.widen (k := 1) (n := 6) (Nat.le_of_ble_eq_true rfl) (Nat.le_of_ble_eq_true rfl) ?_
    have hP9 := hP.sub (ws' := [(ou, .inl (cOut, 1, .inr (.inl (vp_updL fO 0 0))))]) [0] rfl
    have hD9 := hD.sub (ws' := [(ou, .inl (cOut, 1, .inr (.inl (vp_updL fO 0 0))))]) [0] (by decide) rfl
    have hK9 := hK.sub (tys' := [(cOut, .long)]) [0] rfl
    exact W.iret (v := 0) hx hb hr (fun t ht hW => ⟨⟨0, (), rfl, ⟨fun h9 => (by first | rfl | (exfalso; omega)), fun h9 => (by first | rfl | (exfalso; omega))⟩, ⟨((vp_updL fO 0 0)), ⟨by rw [ht]; exact hP9, va_K.moved hW.alike hK9, hD9⟩, (by first | rfl | assumption | omega | exact fun _ => rfl | exact fun h9 => absurd (by omega) h9 | exact fun h9 => absurd h9 (by omega))⟩⟩, hS.F ht⟩) hS.2.2 dL_setGround_18

set_option maxHeartbeats 4000000 in
set_option maxRecDepth 100000 in
theorem c_L_yarn (l : Launch) (hlt : l.stackTraces = false) (em : Nat → Nat) (dC : Nat → ClassId) (dI : Nat → Nat → Nat) (h0 : Nat) (p0 : Int32) (g0 : Value) (g2 : Value) (g3 : Value) (g4 : Value) (g5 : Value) (g6 : Value) (g7 : Value) (g8 : Value) (g9 : Value) (g10 : Value) (g11 : Value) (g12 : Value) (ou : Nat) (cOut : ClassId) (fO : Nat → Int64) (sz : Nat) : Met l yL_yarn wsL_yarn ({ frames := 8, cells := 1, slots := 6, locals := 123 }) (va_Pc [.ref h0, .int p0, .ref ou] (Pw em dC dI sz [(h0, .inr (11, [g0, .int 0, g2, g3, g4, g5, g6, g7, g8, g9, g10, g11, g12])), (ou, .inl (cOut, 1, .inr (.inl fO)))] [(cOut, .long)])) (va_Qi (fun (r : Int32) (_ : Unit) => ((p0.toInt < 0 ∨ 7 < p0.toInt) → r = 1) ∧ (¬ (p0.toInt < 0 ∨ 7 < p0.toInt) → r = 0)) (fun _ t => ∃ (gO : Nat → Int64), Qw dC dI (va_A [(h0, .inr (11, [g0, .int 0, g2, g3, g4, g5, g6, g7, g8, g9, g10, g11, g12])), (ou, .inl (cOut, 1, .inr (.inl fO)))] sz) [(ou, .inl (cOut, 1, .inr (.inl gO)))] [(cOut, .long)] t ∧ (¬ (p0.toInt < 0 ∨ 7 < p0.toInt) → gO 0 = 0)) (va_A [(h0, .inr (11, [g0, .int 0, g2, g3, g4, g5, g6, g7, g8, g9, g10, g11, g12])), (ou, .inl (cOut, 1, .inr (.inl fO)))] sz)) 1 6 (va_A [(h0, .inr (11, [g0, .int 0, g2, g3, g4, g5, g6, g7, g8, g9, g10, g11, g12])), (ou, .inl (cOut, 1, .inr (.inl fO)))] sz) := by
  refine va_MetW (cc := cL_yarn) (maxL := 4) (ret := (some .int)) (hh := [(0, 9, 12, 13)]) (by decide) rfl ?_
  intro p e s m args below meth c s₁ B hml hv
  obtain ⟨rfl, hsz, hP, hK, hD0, hamb⟩ := hv
  have hx := B.exec
  have hb := B.bytes
  have hr := B.returns
  have hts := atoms_spec (ws := wsL_yarn) B.pre
  have hown : s.vm.findClass RL = some m.cls := findClass_of_methodNamed B.named
  have hlocks := B.notSynchronized
  have htbl : c.exceptionTable.toList = tableOf [(0, 9, 12, 13)] := vx_table (x := yL_yarn) B (hts (.codeWith yL_yarn cL_yarn 4 (some .int) [(0, 9, 12, 13)]) List.mem_cons_self)
  subst hsz
  have hD := hD0.self (sz := s.heap.size)
  generalize hAe : va_A [(h0, .inr (11, [g0, .int 0, g2, g3, g4, g5, g6, g7, g8, g9, g10, g11, g12])), (ou, .inl (cOut, 1, .inr (.inl fO)))] s.heap.size = A at hD hamb ⊢
  have hA : ∀ q : Nat, s.heap.size ≤ q → A q := fun q h => by rw [← hAe]; exact Or.inr h
  have hS : va_S A s.heap s.heap [] := va_S.rf
  have hP : va_P (dC, dI) vwCl [(h0, .inr (11, [g0, .int 0, g2, g3, g4, g5, g6, g7, g8, g9, g10, g11, g12])), (ou, .inl (cOut, 1, .inr (.inl fO)))] s.heap := hP
  have hl := lv_entry ([.ref h0, .int p0, .ref ou]) (n := 4) (Nat.le_of_ble_eq_true rfl)
  rw [lg_entry_eq]
  generalize (lg_sl ([.ref h0, .int p0, .ref ou]) ++ List.replicate (4 - (lg_sl ([.ref h0, .int p0, .ref ou])).length) Slot.unset).toArray = ls at hl ⊢
  have hl : lv_has ls 4 [(0, .ref h0), (1, .int p0), (2, .ref ou)] := hl
  refine lv_aload_n hx hb dL_yarn_0 rfl (lv_at hl 2 rfl) ?_
  refine lv_iconst (v := 0) hx hb dL_yarn_1 (by decide) ?_
  refine lv_aload_n hx hb dL_yarn_2 rfl (lv_at hl 0 rfl) ?_
  refine lv_iload_n hx hb dL_yarn_3 rfl (lv_at hl 1 rfl) ?_
  have hPc := hP.sub (ws' := [(h0, .inr (11, [g0, .int 0, g2, g3, g4, g5, g6, g7, g8, g9, g10, g11, g12]))]) [0] rfl
  have hDc := hD.sub (ws' := [(h0, .inr (11, [g0, .int 0, g2, g3, g4, g5, g6, g7, g8, g9, g10, g11, g12]))]) [0] (by decide) rfl
  have hKc := hK.sub (tys' := []) [] rfl
  have hFc := va_free (wc := [(h0, .inr (11, [g0, .int 0, g2, g3, g4, g5, g6, g7, g8, g9, g10, g11, g12]))]) hD hS hA [0] rfl
  refine vx_calli (vx_runV (As := [.int p0]) (rest := [.int 0, .ref ou]) ⟨hx, hb, hml, hown, hts⟩ (c_X5_yarn l hlt em dC dI h0 p0 g0 g2 g3 g4 g5 g6 g7 g8 g9 g10 g11 g12 s.heap.size) (cwV 1 hts gL_yarn_X5_yarn rfl rfl rfl (by decide +kernel) ⟨Nat.le_of_ble_eq_true rfl, Nat.le_of_ble_eq_true rfl⟩) ⟨Pw.blind _ _ _ _ _ _ _, va_recv hKc hPc (ci := 11) (q0 := 0) rfl rfl, fun U hU hW => ⟨rfl, Pw.go hPc hKc hDc hamb hS hFc hU hW⟩⟩ rfl rfl hl.1 rfl (lv_room (Nat.le_of_ble_eq_true rfl)) dL_yarn_4 ⟨Nat.le_of_ble_eq_true rfl, Nat.le_of_ble_eq_true rfl⟩) hS (fun q _ h => hFc q h) hFc (fun q _ h => hFc q h) (fun E ce q9 ux tx H1 locs1 htx hvm hpx hBX hz1 hk1 hS hce hcv hcl => ?_) (fun r_1 u t H1 locs1 ht hvm hw hB hz1 hk1 hS => ?_)
  · obtain ⟨rfl, t_2⟩ := hBX
    obtain ⟨hP, hD⟩ := va_rest (wr := [(ou, .inl (cOut, 1, .inr (.inl fO)))]) hP hD [0] [1] rfl rfl (by decide) (by decide) hk1 hFc
    generalize H1 = H at hP hS hce ⊢
    refine vx_widen (k := 1) (n := 6) (Nat.le_of_ble_eq_true rfl) (Nat.le_of_ble_eq_true rfl) ?_
    refine vx_catch (name := "java/lang/IllegalArgumentException") hown [] ⟨0, 9, 12, 13⟩ [] (by rw [htbl]; rfl) (fun z hz => nomatch hz) (by decide) (by decide) (hts (.classLink RL 13 "java/lang/IllegalArgumentException") (by decide +kernel)) (hamb.use (w := .castable "java/lang/IllegalArgumentException" "java/lang/IllegalArgumentException") (by decide +kernel)) hce hcv hcl ?_
    refine lv_astore_n (lv' := [(3, .ref q9), (0, .ref h0), (1, .int p0), (2, .ref ou)]) hx hb dL_yarn_12 rfl hl (by decide) rfl (fun ls hl => ?_)
    refine lv_iconst (v := 1) hx hb dL_yarn_13 (by decide) ?_
    refine W.widen (k := 1) (n := 6) (Nat.le_of_ble_eq_true rfl) (Nat.le_of_ble_eq_true rfl) ?_
    have hP9 := hP.sub (ws' := [(ou, .inl (cOut, 1, .inr (.inl fO)))]) [0] rfl
    have hD9 := hD.sub (ws' := [(ou, .inl (cOut, 1, .inr (.inl fO)))]) [0] (by decide) rfl
    have hK9 := hK.sub (tys' := [(cOut, .long)]) [0] rfl
    exact W.iret (v := 1) hx hb hr (fun t ht hW => ⟨⟨1, (), rfl, ⟨fun h9 => (by first | rfl | (exfalso; omega)), fun h9 => (by first | rfl | (exfalso; omega))⟩, ⟨(fO), ⟨by rw [ht]; exact hP9, va_K.moved hW.alike hK9, hD9⟩, (by first | rfl | assumption | omega | exact fun _ => rfl | exact fun h9 => absurd (by omega) h9 | exact fun h9 => absurd h9 (by omega))⟩⟩, hS.F ht⟩) hS.2.2 dL_yarn_14
  · obtain ⟨hP, hD⟩ := va_rest (wr := [(ou, .inl (cOut, 1, .inr (.inl fO)))]) hP hD [0] [1] rfl rfl (by decide) (by decide) hk1 hFc
    generalize H1 = H at hP hS ⊢
    refine W.widen (k := 1) (n := 6) (Nat.le_of_ble_eq_true rfl) (Nat.le_of_ble_eq_true rfl) ?_
    have hw : ¬ (p0.toInt < 0 ∨ 7 < p0.toInt) ∧ r_1 = 0 := hw
    obtain ⟨t_3, hw⟩ := hw
    rw [hw]
    refine lv_i2l (v := 0) hx hb dL_yarn_7 (by decide) ?_
    refine va_last hx hb hK hP hD hS 0 0 rfl rfl (vp_in_iff.mpr ⟨by decide, by decide⟩) dL_yarn_8 (fun H locs hP hD hS => ?_)
    have hP : va_P (dC, dI) vwCl [(ou, .inl (cOut, 1, .inr (.inl (vp_updL fO 0 0))))] H := hP
    have hD : va_D A [(ou, .inl (cOut, 1, .inr (.inl (vp_updL fO 0 0))))] := hD
    refine lv_goto (tgt := 15) hx hb dL_yarn_9 (by decide) ?_
    refine lv_iconst (v := 0) hx hb dL_yarn_15 (by decide) ?_
    refine W.widen (k := 1) (n := 6) (Nat.le_of_ble_eq_true rfl) (Nat.le_of_ble_eq_true rfl) ?_
    have hP9 := hP.sub (ws' := [(ou, .inl (cOut, 1, .inr (.inl (vp_updL fO 0 0))))]) [0] rfl
    have hD9 := hD.sub (ws' := [(ou, .inl (cOut, 1, .inr (.inl (vp_updL fO 0 0))))]) [0] (by decide) rfl
    have hK9 := hK.sub (tys' := [(cOut, .long)]) [0] rfl
    exact W.iret (v := 0) hx hb hr (fun t ht hW => ⟨⟨0, (), rfl, ⟨fun h9 => (by first | rfl | (exfalso; omega)), fun h9 => (by first | rfl | (exfalso; omega))⟩, ⟨((vp_updL fO 0 0)), ⟨by rw [ht]; exact hP9, va_K.moved hW.alike hK9, hD9⟩, (by first | rfl | assumption | omega | exact fun _ => rfl | exact fun h9 => absurd (by omega) h9 | exact fun h9 => absurd h9 (by omega))⟩⟩, hS.F ht⟩) hS.2.2 dL_yarn_16

set_option maxHeartbeats 4000000 in
set_option maxRecDepth 100000 in
theorem c_L_weaver (l : Launch) (hlt : l.stackTraces = false) (em : Nat → Nat) (dC : Nat → ClassId) (dI : Nat → Nat → Nat) (h0 : Nat) (ra0 : Nat) (cR : ClassId) (p0 : Int32) (g0 : Value) (g1 : Value) (g2 : Value) (g3 : Value) (g4 : Value) (g5 : Value) (g6 : Value) (g7 : Value) (g8 : Value) (g9 : Value) (g12 : Value) (ou : Nat) (cOut : ClassId) (fO : Nat → Int64) (sz : Nat) : Met l yL_weaver wsL_weaver ({ frames := 7, cells := 1, slots := 6, locals := 103 }) (va_Pc [.ref h0, .int p0, .ref ou] (Pw em dC dI sz [(h0, .inr (11, [g0, g1, g2, g3, g4, g5, g6, g7, g8, g9, .ref ra0, .int 0, g12])), (ra0, .inl (cR, 6, .inl (fun _ => 0))), (ou, .inl (cOut, 1, .inr (.inl fO)))] [(cR, .int), (cOut, .long)])) (va_Qi (fun (r : Int32) (_ : Unit) => ((p0.toInt < 0 ∨ 99 < p0.toInt) → r = 1) ∧ (¬ (p0.toInt < 0 ∨ 99 < p0.toInt) → r = 0)) (fun _ t => ∃ (gO : Nat → Int64), Qw dC dI (va_A [(h0, .inr (11, [g0, g1, g2, g3, g4, g5, g6, g7, g8, g9, .ref ra0, .int 0, g12])), (ra0, .inl (cR, 6, .inl (fun _ => 0))), (ou, .inl (cOut, 1, .inr (.inl fO)))] sz) [(ou, .inl (cOut, 1, .inr (.inl gO)))] [(cOut, .long)] t ∧ (¬ (p0.toInt < 0 ∨ 99 < p0.toInt) → gO 0 = 0)) (va_A [(h0, .inr (11, [g0, g1, g2, g3, g4, g5, g6, g7, g8, g9, .ref ra0, .int 0, g12])), (ra0, .inl (cR, 6, .inl (fun _ => 0))), (ou, .inl (cOut, 1, .inr (.inl fO)))] sz)) 1 6 (va_A [(h0, .inr (11, [g0, g1, g2, g3, g4, g5, g6, g7, g8, g9, .ref ra0, .int 0, g12])), (ra0, .inl (cR, 6, .inl (fun _ => 0))), (ou, .inl (cOut, 1, .inr (.inl fO)))] sz) := by
  refine va_MetW (cc := cL_weaver) (maxL := 4) (ret := (some .int)) (hh := [(0, 9, 12, 13), (0, 9, 15, 17)]) (by decide) rfl ?_
  intro p e s m args below meth c s₁ B hml hv
  obtain ⟨rfl, hsz, hP, hK, hD0, hamb⟩ := hv
  have hx := B.exec
  have hb := B.bytes
  have hr := B.returns
  have hts := atoms_spec (ws := wsL_weaver) B.pre
  have hown : s.vm.findClass RL = some m.cls := findClass_of_methodNamed B.named
  have hlocks := B.notSynchronized
  have htbl : c.exceptionTable.toList = tableOf [(0, 9, 12, 13), (0, 9, 15, 17)] := vx_table (x := yL_weaver) B (hts (.codeWith yL_weaver cL_weaver 4 (some .int) [(0, 9, 12, 13), (0, 9, 15, 17)]) List.mem_cons_self)
  subst hsz
  have hD := hD0.self (sz := s.heap.size)
  generalize hAe : va_A [(h0, .inr (11, [g0, g1, g2, g3, g4, g5, g6, g7, g8, g9, .ref ra0, .int 0, g12])), (ra0, .inl (cR, 6, .inl (fun _ => 0))), (ou, .inl (cOut, 1, .inr (.inl fO)))] s.heap.size = A at hD hamb ⊢
  have hA : ∀ q : Nat, s.heap.size ≤ q → A q := fun q h => by rw [← hAe]; exact Or.inr h
  have hS : va_S A s.heap s.heap [] := va_S.rf
  have hP : va_P (dC, dI) vwCl [(h0, .inr (11, [g0, g1, g2, g3, g4, g5, g6, g7, g8, g9, .ref ra0, .int 0, g12])), (ra0, .inl (cR, 6, .inl (fun _ => 0))), (ou, .inl (cOut, 1, .inr (.inl fO)))] s.heap := hP
  have hl := lv_entry ([.ref h0, .int p0, .ref ou]) (n := 4) (Nat.le_of_ble_eq_true rfl)
  rw [lg_entry_eq]
  generalize (lg_sl ([.ref h0, .int p0, .ref ou]) ++ List.replicate (4 - (lg_sl ([.ref h0, .int p0, .ref ou])).length) Slot.unset).toArray = ls at hl ⊢
  have hl : lv_has ls 4 [(0, .ref h0), (1, .int p0), (2, .ref ou)] := hl
  refine lv_aload_n hx hb dL_weaver_0 rfl (lv_at hl 2 rfl) ?_
  refine lv_iconst (v := 0) hx hb dL_weaver_1 (by decide) ?_
  refine lv_aload_n hx hb dL_weaver_2 rfl (lv_at hl 0 rfl) ?_
  refine lv_iload_n hx hb dL_weaver_3 rfl (lv_at hl 1 rfl) ?_
  have hPc := hP.sub (ws' := [(h0, .inr (11, [g0, g1, g2, g3, g4, g5, g6, g7, g8, g9, .ref ra0, .int 0, g12])), (ra0, .inl (cR, 6, .inl (fun _ => 0)))]) [0, 1] rfl
  have hDc := hD.sub (ws' := [(h0, .inr (11, [g0, g1, g2, g3, g4, g5, g6, g7, g8, g9, .ref ra0, .int 0, g12])), (ra0, .inl (cR, 6, .inl (fun _ => 0)))]) [0, 1] (by decide) rfl
  have hKc := hK.sub (tys' := [(cR, .int)]) [0] rfl
  have hFc := va_free (wc := [(h0, .inr (11, [g0, g1, g2, g3, g4, g5, g6, g7, g8, g9, .ref ra0, .int 0, g12])), (ra0, .inl (cR, 6, .inl (fun _ => 0)))]) hD hS hA [0, 1] rfl
  refine vx_calli (vx_runV (As := [.int p0]) (rest := [.int 0, .ref ou]) ⟨hx, hb, hml, hown, hts⟩ (c_X5_weaver l hlt em dC dI h0 ra0 cR p0 g0 g1 g2 g3 g4 g5 g6 g7 g8 g9 g12 s.heap.size) (cwV 1 hts gL_weaver_X5_weaver rfl rfl rfl (by decide +kernel) ⟨Nat.le_of_ble_eq_true rfl, Nat.le_of_ble_eq_true rfl⟩) ⟨Pw.blind _ _ _ _ _ _ _, va_recv hKc hPc (ci := 11) (q0 := 0) rfl rfl, fun U hU hW => ⟨rfl, Pw.go hPc hKc hDc hamb hS hFc hU hW⟩⟩ rfl rfl hl.1 rfl (lv_room (Nat.le_of_ble_eq_true rfl)) dL_weaver_4 ⟨Nat.le_of_ble_eq_true rfl, Nat.le_of_ble_eq_true rfl⟩) hS (fun q _ h => hFc q h) hFc (fun q _ h => hFc q h) (fun E ce q9 ux tx H1 locs1 htx hvm hpx hBX hz1 hk1 hS hce hcv hcl => ?_) (fun r_1 u t H1 locs1 ht hvm hw hB hz1 hk1 hS => ?_)
  · obtain ⟨rfl, t_2⟩ := hBX
    obtain ⟨hP, hD⟩ := va_rest (wr := [(ou, .inl (cOut, 1, .inr (.inl fO)))]) hP hD [0, 1] [2] rfl rfl (by decide) (by decide) hk1 hFc
    generalize H1 = H at hP hS hce ⊢
    refine vx_widen (k := 1) (n := 6) (Nat.le_of_ble_eq_true rfl) (Nat.le_of_ble_eq_true rfl) ?_
    refine vx_catch (name := "java/lang/IllegalArgumentException") hown [] ⟨0, 9, 12, 13⟩ [⟨0, 9, 15, 17⟩] (by rw [htbl]; rfl) (fun z hz => nomatch hz) (by decide) (by decide) (hts (.classLink RL 13 "java/lang/IllegalArgumentException") (by decide +kernel)) (hamb.use (w := .castable "java/lang/IllegalArgumentException" "java/lang/IllegalArgumentException") (by decide +kernel)) hce hcv hcl ?_
    refine lv_astore_n (lv' := [(3, .ref q9), (0, .ref h0), (1, .int p0), (2, .ref ou)]) hx hb dL_weaver_12 rfl hl (by decide) rfl (fun ls hl => ?_)
    refine lv_iconst (v := 1) hx hb dL_weaver_13 (by decide) ?_
    refine W.widen (k := 1) (n := 6) (Nat.le_of_ble_eq_true rfl) (Nat.le_of_ble_eq_true rfl) ?_
    have hP9 := hP.sub (ws' := [(ou, .inl (cOut, 1, .inr (.inl fO)))]) [0] rfl
    have hD9 := hD.sub (ws' := [(ou, .inl (cOut, 1, .inr (.inl fO)))]) [0] (by decide) rfl
    have hK9 := hK.sub (tys' := [(cOut, .long)]) [1] rfl
    exact W.iret (v := 1) hx hb hr (fun t ht hW => ⟨⟨1, (), rfl, ⟨fun h9 => (by first | rfl | (exfalso; omega)), fun h9 => (by first | rfl | (exfalso; omega))⟩, ⟨(fO), ⟨by rw [ht]; exact hP9, va_K.moved hW.alike hK9, hD9⟩, (by first | rfl | assumption | omega | exact fun _ => rfl | exact fun h9 => absurd (by omega) h9 | exact fun h9 => absurd h9 (by omega))⟩⟩, hS.F ht⟩) hS.2.2 dL_weaver_14
  · obtain ⟨hP, hD⟩ := va_rest (wr := [(ou, .inl (cOut, 1, .inr (.inl fO)))]) hP hD [0, 1] [2] rfl rfl (by decide) (by decide) hk1 hFc
    generalize H1 = H at hP hS ⊢
    refine W.widen (k := 1) (n := 6) (Nat.le_of_ble_eq_true rfl) (Nat.le_of_ble_eq_true rfl) ?_
    have hw : ¬ (p0.toInt < 0 ∨ 99 < p0.toInt) ∧ r_1 = 0 := hw
    obtain ⟨t_3, hw⟩ := hw
    rw [hw]
    refine lv_i2l (v := 0) hx hb dL_weaver_7 (by decide) ?_
    refine va_last hx hb hK hP hD hS 0 1 rfl rfl (vp_in_iff.mpr ⟨by decide, by decide⟩) dL_weaver_8 (fun H locs hP hD hS => ?_)
    have hP : va_P (dC, dI) vwCl [(ou, .inl (cOut, 1, .inr (.inl (vp_updL fO 0 0))))] H := hP
    have hD : va_D A [(ou, .inl (cOut, 1, .inr (.inl (vp_updL fO 0 0))))] := hD
    refine lv_goto (tgt := 18) hx hb dL_weaver_9 (by decide) ?_
    refine lv_iconst (v := 0) hx hb dL_weaver_18 (by decide) ?_
    refine W.widen (k := 1) (n := 6) (Nat.le_of_ble_eq_true rfl) (Nat.le_of_ble_eq_true rfl) ?_
    have hP9 := hP.sub (ws' := [(ou, .inl (cOut, 1, .inr (.inl (vp_updL fO 0 0))))]) [0] rfl
    have hD9 := hD.sub (ws' := [(ou, .inl (cOut, 1, .inr (.inl (vp_updL fO 0 0))))]) [0] (by decide) rfl
    have hK9 := hK.sub (tys' := [(cOut, .long)]) [1] rfl
    exact W.iret (v := 0) hx hb hr (fun t ht hW => ⟨⟨0, (), rfl, ⟨fun h9 => (by first | rfl | (exfalso; omega)), fun h9 => (by first | rfl | (exfalso; omega))⟩, ⟨((vp_updL fO 0 0)), ⟨by rw [ht]; exact hP9, va_K.moved hW.alike hK9, hD9⟩, (by first | rfl | assumption | omega | exact fun _ => rfl | exact fun h9 => absurd (by omega) h9 | exact fun h9 => absurd h9 (by omega))⟩⟩, hS.F ht⟩) hS.2.2 dL_weaver_19

set_option maxHeartbeats 4000000 in
set_option maxRecDepth 100000 in
theorem c_L_order (l : Launch) (hlt : l.stackTraces = false) (em : Nat → Nat) (dC : Nat → ClassId) (dI : Nat → Nat → Nat) (h0 : Nat) (p0 : Int32) (p1 : Int32) (p2 : Int32) (g0 : Value) (g1 : Value) (g2 : Value) (g3 : Value) (g4 : Value) (g5 : Value) (g6 : Value) (g7 : Value) (g8 : Value) (g9 : Value) (g10 : Value) (g11 : Value) (bk : Nat) (a0 : Nat) (a1 : Nat) (a2 : Nat) (cB0 : ClassId) (cB1 : ClassId) (cB2 : ClassId) (d3 : Value) (ou : Nat) (cOut : ClassId) (fO : Nat → Int64) (sz : Nat) : Met l yL_order wsL_order ({ frames := 7, cells := 1, slots := 6, locals := 105 }) (va_Pc [.ref h0, .int p0, .int p1, .int p2, .ref ou] (Pw em dC dI sz [(h0, .inr (11, [g0, g1, g2, g3, g4, g5, g6, g7, g8, g9, g10, g11, .ref bk])), (bk, .inr (6, [.ref a0, .ref a1, .ref a2, d3, .int 0])), (a0, .inl (cB0, 8, .inl (fun _ => 0))), (a1, .inl (cB1, 8, .inl (fun _ => 0))), (a2, .inl (cB2, 8, .inl (fun _ => 0))), (ou, .inl (cOut, 1, .inr (.inl fO)))] [(cB0, .int), (cB1, .int), (cB2, .int), (cOut, .long)])) (va_Qi (fun (r : Int32) (_ : Unit) => ((p0.toInt < 1 ∨ 200 < p0.toInt ∨ p1.toInt < 1 ∨ 999 < p1.toInt ∨ p2.toInt < 1 ∨ 99 < p2.toInt) → r = 1) ∧ (¬ (p0.toInt < 1 ∨ 200 < p0.toInt ∨ p1.toInt < 1 ∨ 999 < p1.toInt ∨ p2.toInt < 1 ∨ 99 < p2.toInt) → r = 0)) (fun _ t => ∃ (gO : Nat → Int64), Qw dC dI (va_A [(h0, .inr (11, [g0, g1, g2, g3, g4, g5, g6, g7, g8, g9, g10, g11, .ref bk])), (bk, .inr (6, [.ref a0, .ref a1, .ref a2, d3, .int 0])), (a0, .inl (cB0, 8, .inl (fun _ => 0))), (a1, .inl (cB1, 8, .inl (fun _ => 0))), (a2, .inl (cB2, 8, .inl (fun _ => 0))), (ou, .inl (cOut, 1, .inr (.inl fO)))] sz) [(ou, .inl (cOut, 1, .inr (.inl gO)))] [(cOut, .long)] t ∧ (¬ (p0.toInt < 1 ∨ 200 < p0.toInt ∨ p1.toInt < 1 ∨ 999 < p1.toInt ∨ p2.toInt < 1 ∨ 99 < p2.toInt) → gO 0 = 0)) (va_A [(h0, .inr (11, [g0, g1, g2, g3, g4, g5, g6, g7, g8, g9, g10, g11, .ref bk])), (bk, .inr (6, [.ref a0, .ref a1, .ref a2, d3, .int 0])), (a0, .inl (cB0, 8, .inl (fun _ => 0))), (a1, .inl (cB1, 8, .inl (fun _ => 0))), (a2, .inl (cB2, 8, .inl (fun _ => 0))), (ou, .inl (cOut, 1, .inr (.inl fO)))] sz)) 1 6 (va_A [(h0, .inr (11, [g0, g1, g2, g3, g4, g5, g6, g7, g8, g9, g10, g11, .ref bk])), (bk, .inr (6, [.ref a0, .ref a1, .ref a2, d3, .int 0])), (a0, .inl (cB0, 8, .inl (fun _ => 0))), (a1, .inl (cB1, 8, .inl (fun _ => 0))), (a2, .inl (cB2, 8, .inl (fun _ => 0))), (ou, .inl (cOut, 1, .inr (.inl fO)))] sz) := by
  refine va_MetW (cc := cL_order) (maxL := 6) (ret := (some .int)) (hh := [(0, 12, 15, 13), (0, 12, 19, 17)]) (by decide) rfl ?_
  intro p e s m args below meth c s₁ B hml hv
  obtain ⟨rfl, hsz, hP, hK, hD0, hamb⟩ := hv
  have hx := B.exec
  have hb := B.bytes
  have hr := B.returns
  have hts := atoms_spec (ws := wsL_order) B.pre
  have hown : s.vm.findClass RL = some m.cls := findClass_of_methodNamed B.named
  have hlocks := B.notSynchronized
  have htbl : c.exceptionTable.toList = tableOf [(0, 12, 15, 13), (0, 12, 19, 17)] := vx_table (x := yL_order) B (hts (.codeWith yL_order cL_order 6 (some .int) [(0, 12, 15, 13), (0, 12, 19, 17)]) List.mem_cons_self)
  subst hsz
  have hD := hD0.self (sz := s.heap.size)
  generalize hAe : va_A [(h0, .inr (11, [g0, g1, g2, g3, g4, g5, g6, g7, g8, g9, g10, g11, .ref bk])), (bk, .inr (6, [.ref a0, .ref a1, .ref a2, d3, .int 0])), (a0, .inl (cB0, 8, .inl (fun _ => 0))), (a1, .inl (cB1, 8, .inl (fun _ => 0))), (a2, .inl (cB2, 8, .inl (fun _ => 0))), (ou, .inl (cOut, 1, .inr (.inl fO)))] s.heap.size = A at hD hamb ⊢
  have hA : ∀ q : Nat, s.heap.size ≤ q → A q := fun q h => by rw [← hAe]; exact Or.inr h
  have hS : va_S A s.heap s.heap [] := va_S.rf
  have hP : va_P (dC, dI) vwCl [(h0, .inr (11, [g0, g1, g2, g3, g4, g5, g6, g7, g8, g9, g10, g11, .ref bk])), (bk, .inr (6, [.ref a0, .ref a1, .ref a2, d3, .int 0])), (a0, .inl (cB0, 8, .inl (fun _ => 0))), (a1, .inl (cB1, 8, .inl (fun _ => 0))), (a2, .inl (cB2, 8, .inl (fun _ => 0))), (ou, .inl (cOut, 1, .inr (.inl fO)))] s.heap := hP
  have hl := lv_entry ([.ref h0, .int p0, .int p1, .int p2, .ref ou]) (n := 6) (Nat.le_of_ble_eq_true rfl)
  rw [lg_entry_eq]
  generalize (lg_sl ([.ref h0, .int p0, .int p1, .int p2, .ref ou]) ++ List.replicate (6 - (lg_sl ([.ref h0, .int p0, .int p1, .int p2, .ref ou])).length) Slot.unset).toArray = ls at hl ⊢
  have hl : lv_has ls 6 [(0, .ref h0), (1, .int p0), (2, .int p1), (3, .int p2), (4, .ref ou)] := hl
  refine lv_aload hx hb dL_order_0 (lv_at hl 4 rfl) ?_
  refine lv_iconst (v := 0) hx hb dL_order_2 (by decide) ?_
  refine lv_aload_n hx hb dL_order_3 rfl (lv_at hl 0 rfl) ?_
  refine lv_iload_n hx hb dL_order_4 rfl (lv_at hl 1 rfl) ?_
  refine lv_iload_n hx hb dL_order_5 rfl (lv_at hl 2 rfl) ?_
  refine lv_iload_n hx hb dL_order_6 rfl (lv_at hl 3 rfl) ?_
  have hPc := hP.sub (ws' := [(h0, .inr (11, [g0, g1, g2, g3, g4, g5, g6, g7, g8, g9, g10, g11, .ref bk])), (bk, .inr (6, [.ref a0, .ref a1, .ref a2, d3, .int 0])), (a0, .inl (cB0, 8, .inl (fun _ => 0))), (a1, .inl (cB1, 8, .inl (fun _ => 0))), (a2, .inl (cB2, 8, .inl (fun _ => 0)))]) [0, 1, 2, 3, 4] rfl
  have hDc := hD.sub (ws' := [(h0, .inr (11, [g0, g1, g2, g3, g4, g5, g6, g7, g8, g9, g10, g11, .ref bk])), (bk, .inr (6, [.ref a0, .ref a1, .ref a2, d3, .int 0])), (a0, .inl (cB0, 8, .inl (fun _ => 0))), (a1, .inl (cB1, 8, .inl (fun _ => 0))), (a2, .inl (cB2, 8, .inl (fun _ => 0)))]) [0, 1, 2, 3, 4] (by decide) rfl
  have hKc := hK.sub (tys' := [(cB0, .int), (cB1, .int), (cB2, .int)]) [0, 1, 2] rfl
  have hFc := va_free (wc := [(h0, .inr (11, [g0, g1, g2, g3, g4, g5, g6, g7, g8, g9, g10, g11, .ref bk])), (bk, .inr (6, [.ref a0, .ref a1, .ref a2, d3, .int 0])), (a0, .inl (cB0, 8, .inl (fun _ => 0))), (a1, .inl (cB1, 8, .inl (fun _ => 0))), (a2, .inl (cB2, 8, .inl (fun _ => 0)))]) hD hS hA [0, 1, 2, 3, 4] rfl
  refine vx_calli (vx_runV (As := [.int p0, .int p1, .int p2]) (rest := [.int 0, .ref ou]) ⟨hx, hb, hml, hown, hts⟩ (c_X5_order l hlt em dC dI h0 p0 p1 p2 g0 g1 g2 g3 g4 g5 g6 g7 g8 g9 g10 g11 bk a0 a1 a2 cB0 cB1 cB2 d3 s.heap.size) (cwV 3 hts gL_order_X5_order rfl rfl rfl (by decide +kernel) ⟨Nat.le_of_ble_eq_true rfl, Nat.le_of_ble_eq_true rfl⟩) ⟨Pw.blind _ _ _ _ _ _ _, va_recv hKc hPc (ci := 11) (q0 := 0) rfl rfl, fun U hU hW => ⟨rfl, Pw.go hPc hKc hDc hamb hS hFc hU hW⟩⟩ rfl rfl hl.1 rfl (lv_room (Nat.le_of_ble_eq_true rfl)) dL_order_7 ⟨Nat.le_of_ble_eq_true rfl, Nat.le_of_ble_eq_true rfl⟩) hS (fun q _ h => hFc q h) hFc (fun q _ h => hFc q h) (fun E ce q9 ux tx H1 locs1 htx hvm hpx hBX hz1 hk1 hS hce hcv hcl => ?_) (fun r_1 u t H1 locs1 ht hvm hw hB hz1 hk1 hS => ?_)
  · obtain ⟨rfl, t_2⟩ := hBX
    obtain ⟨hP, hD⟩ := va_rest (wr := [(ou, .inl (cOut, 1, .inr (.inl fO)))]) hP hD [0, 1, 2, 3, 4] [5] rfl rfl (by decide) (by decide) hk1 hFc
    generalize H1 = H at hP hS hce ⊢
    refine vx_widen (k := 1) (n := 6) (Nat.le_of_ble_eq_true rfl) (Nat.le_of_ble_eq_true rfl) ?_
    refine vx_catch (name := "java/lang/IllegalArgumentException") hown [] ⟨0, 12, 15, 13⟩ [⟨0, 12, 19, 17⟩] (by rw [htbl]; rfl) (fun z hz => nomatch hz) (by decide) (by decide) (hts (.classLink RL 13 "java/lang/IllegalArgumentException") (by decide +kernel)) (hamb.use (w := .castable "java/lang/IllegalArgumentException" "java/lang/IllegalArgumentException") (by decide +kernel)) hce hcv hcl ?_
    refine lv_astore (lv' := [(5, .ref q9), (0, .ref h0), (1, .int p0), (2, .int p1), (3, .int p2), (4, .ref ou)]) hx hb dL_order_15 hl (by decide) rfl (fun ls hl => ?_)
    refine lv_iconst (v := 1) hx hb dL_order_17 (by decide) ?_
    refine W.widen (k := 1) (n := 6) (Nat.le_of_ble_eq_true rfl) (Nat.le_of_ble_eq_true rfl) ?_
    have hP9 := hP.sub (ws' := [(ou, .inl (cOut, 1, .inr (.inl fO)))]) [0] rfl
    have hD9 := hD.sub (ws' := [(ou, .inl (cOut, 1, .inr (.inl fO)))]) [0] (by decide) rfl
    have hK9 := hK.sub (tys' := [(cOut, .long)]) [3] rfl
    exact W.iret (v := 1) hx hb hr (fun t ht hW => ⟨⟨1, (), rfl, ⟨fun h9 => (by first | rfl | (exfalso; omega)), fun h9 => (by first | rfl | (exfalso; omega))⟩, ⟨(fO), ⟨by rw [ht]; exact hP9, va_K.moved hW.alike hK9, hD9⟩, (by first | rfl | assumption | omega | exact fun _ => rfl | exact fun h9 => absurd (by omega) h9 | exact fun h9 => absurd h9 (by omega))⟩⟩, hS.F ht⟩) hS.2.2 dL_order_18
  · obtain ⟨hP, hD⟩ := va_rest (wr := [(ou, .inl (cOut, 1, .inr (.inl fO)))]) hP hD [0, 1, 2, 3, 4] [5] rfl rfl (by decide) (by decide) hk1 hFc
    generalize H1 = H at hP hS ⊢
    refine W.widen (k := 1) (n := 6) (Nat.le_of_ble_eq_true rfl) (Nat.le_of_ble_eq_true rfl) ?_
    have hw : ¬ (p0.toInt < 1 ∨ 200 < p0.toInt ∨ p1.toInt < 1 ∨ 999 < p1.toInt ∨ p2.toInt < 1 ∨ 99 < p2.toInt) ∧ r_1 = 0 := hw
    obtain ⟨t_3, hw⟩ := hw
    rw [hw]
    refine lv_i2l (v := 0) hx hb dL_order_10 (by decide) ?_
    refine va_last hx hb hK hP hD hS 0 3 rfl rfl (vp_in_iff.mpr ⟨by decide, by decide⟩) dL_order_11 (fun H locs hP hD hS => ?_)
    have hP : va_P (dC, dI) vwCl [(ou, .inl (cOut, 1, .inr (.inl (vp_updL fO 0 0))))] H := hP
    have hD : va_D A [(ou, .inl (cOut, 1, .inr (.inl (vp_updL fO 0 0))))] := hD
    refine lv_goto (tgt := 23) hx hb dL_order_12 (by decide) ?_
    refine lv_iconst (v := 0) hx hb dL_order_23 (by decide) ?_
    refine W.widen (k := 1) (n := 6) (Nat.le_of_ble_eq_true rfl) (Nat.le_of_ble_eq_true rfl) ?_
    have hP9 := hP.sub (ws' := [(ou, .inl (cOut, 1, .inr (.inl (vp_updL fO 0 0))))]) [0] rfl
    have hD9 := hD.sub (ws' := [(ou, .inl (cOut, 1, .inr (.inl (vp_updL fO 0 0))))]) [0] (by decide) rfl
    have hK9 := hK.sub (tys' := [(cOut, .long)]) [3] rfl
    exact W.iret (v := 0) hx hb hr (fun t ht hW => ⟨⟨0, (), rfl, ⟨fun h9 => (by first | rfl | (exfalso; omega)), fun h9 => (by first | rfl | (exfalso; omega))⟩, ⟨((vp_updL fO 0 0)), ⟨by rw [ht]; exact hP9, va_K.moved hW.alike hK9, hD9⟩, (by first | rfl | assumption | omega | exact fun _ => rfl | exact fun h9 => absurd (by omega) h9 | exact fun h9 => absurd h9 (by omega))⟩⟩, hS.F ht⟩) hS.2.2 dL_order_24

set_option maxHeartbeats 4000000 in
set_option maxRecDepth 100000 in
theorem c_L_weave (l : Launch) (hlt : l.stackTraces = false) (em : Nat → Nat) (dC : Nat → ClassId) (dI : Nat → Nat → Nat) (h0 : Nat) (p0 : Int32) (g0 : Value) (g3 : Value) (g4 : Value) (g5 : Value) (g6 : Value) (g7 : Value) (g8 : Value) (g9 : Value) (g10 : Value) (g11 : Value) (g12 : Value) (ou : Nat) (cOut : ClassId) (fO : Nat → Int64) (sz : Nat) : Met l yL_weave wsL_weave ({ frames := 8, cells := 2, slots := 12, locals := 128 }) (va_Pc [.ref h0, .int p0, .ref ou] (Pw em dC dI sz [(h0, .inr (11, [g0, .int 0, .int 0, g3, g4, g5, g6, g7, g8, g9, g10, g11, g12])), (ou, .inl (cOut, 1, .inr (.inl fO)))] [(cOut, .long)])) (va_Qi (fun (r : Int32) (_ : Unit) => ((p0.toInt < 0 ∨ 39 < p0.toInt) → r = 1) ∧ (¬ (p0.toInt < 0 ∨ 39 < p0.toInt) → r = 2)) (fun _ t => Qw dC dI (va_A [(h0, .inr (11, [g0, .int 0, .int 0, g3, g4, g5, g6, g7, g8, g9, g10, g11, g12])), (ou, .inl (cOut, 1, .inr (.inl fO)))] sz) [(ou, .inl (cOut, 1, .inr (.inl fO)))] [(cOut, .long)] t) (va_A [(h0, .inr (11, [g0, .int 0, .int 0, g3, g4, g5, g6, g7, g8, g9, g10, g11, g12])), (ou, .inl (cOut, 1, .inr (.inl fO)))] sz)) 2 12 (va_A [(h0, .inr (11, [g0, .int 0, .int 0, g3, g4, g5, g6, g7, g8, g9, g10, g11, g12])), (ou, .inl (cOut, 1, .inr (.inl fO)))] sz) := by
  refine va_MetW (cc := cL_weave) (maxL := 4) (ret := (some .int)) (hh := [(0, 9, 12, 13), (0, 9, 15, 15)]) (by decide) rfl ?_
  intro p e s m args below meth c s₁ B hml hv
  obtain ⟨rfl, hsz, hP, hK, hD0, hamb⟩ := hv
  have hx := B.exec
  have hb := B.bytes
  have hr := B.returns
  have hts := atoms_spec (ws := wsL_weave) B.pre
  have hown : s.vm.findClass RL = some m.cls := findClass_of_methodNamed B.named
  have hlocks := B.notSynchronized
  have htbl : c.exceptionTable.toList = tableOf [(0, 9, 12, 13), (0, 9, 15, 15)] := vx_table (x := yL_weave) B (hts (.codeWith yL_weave cL_weave 4 (some .int) [(0, 9, 12, 13), (0, 9, 15, 15)]) List.mem_cons_self)
  subst hsz
  have hD := hD0.self (sz := s.heap.size)
  generalize hAe : va_A [(h0, .inr (11, [g0, .int 0, .int 0, g3, g4, g5, g6, g7, g8, g9, g10, g11, g12])), (ou, .inl (cOut, 1, .inr (.inl fO)))] s.heap.size = A at hD hamb ⊢
  have hA : ∀ q : Nat, s.heap.size ≤ q → A q := fun q h => by rw [← hAe]; exact Or.inr h
  have hS : va_S A s.heap s.heap [] := va_S.rf
  have hP : va_P (dC, dI) vwCl [(h0, .inr (11, [g0, .int 0, .int 0, g3, g4, g5, g6, g7, g8, g9, g10, g11, g12])), (ou, .inl (cOut, 1, .inr (.inl fO)))] s.heap := hP
  have hl := lv_entry ([.ref h0, .int p0, .ref ou]) (n := 4) (Nat.le_of_ble_eq_true rfl)
  rw [lg_entry_eq]
  generalize (lg_sl ([.ref h0, .int p0, .ref ou]) ++ List.replicate (4 - (lg_sl ([.ref h0, .int p0, .ref ou])).length) Slot.unset).toArray = ls at hl ⊢
  have hl : lv_has ls 4 [(0, .ref h0), (1, .int p0), (2, .ref ou)] := hl
  refine lv_aload_n hx hb dL_weave_0 rfl (lv_at hl 2 rfl) ?_
  refine lv_iconst (v := 0) hx hb dL_weave_1 (by decide) ?_
  refine lv_aload_n hx hb dL_weave_2 rfl (lv_at hl 0 rfl) ?_
  refine lv_iload_n hx hb dL_weave_3 rfl (lv_at hl 1 rfl) ?_
  have hPc := hP.sub (ws' := [(h0, .inr (11, [g0, .int 0, .int 0, g3, g4, g5, g6, g7, g8, g9, g10, g11, g12]))]) [0] rfl
  have hDc := hD.sub (ws' := [(h0, .inr (11, [g0, .int 0, .int 0, g3, g4, g5, g6, g7, g8, g9, g10, g11, g12]))]) [0] (by decide) rfl
  have hKc := hK.sub (tys' := []) [] rfl
  have hFc := va_free (wc := [(h0, .inr (11, [g0, .int 0, .int 0, g3, g4, g5, g6, g7, g8, g9, g10, g11, g12]))]) hD hS hA [0] rfl
  refine vx_calli (vx_runV (As := [.int p0]) (rest := [.int 0, .ref ou]) ⟨hx, hb, hml, hown, hts⟩ (c_X5_weave l hlt em dC dI h0 p0 g0 g3 g4 g5 g6 g7 g8 g9 g10 g11 g12 s.heap.size) (cwV 1 hts gL_weave_X5_weave rfl rfl rfl (by decide +kernel) ⟨Nat.le_of_ble_eq_true rfl, Nat.le_of_ble_eq_true rfl⟩) ⟨Pw.blind _ _ _ _ _ _ _, va_recv hKc hPc (ci := 11) (q0 := 0) rfl rfl, fun U hU hW => ⟨rfl, Pw.go hPc hKc hDc hamb hS hFc hU hW⟩⟩ rfl rfl hl.1 rfl (lv_room (Nat.le_of_ble_eq_true rfl)) dL_weave_4 ⟨Nat.le_of_ble_eq_true rfl, Nat.le_of_ble_eq_true rfl⟩) hS (fun q _ h => hFc q h) hFc (fun q _ h => hFc q h) (fun E ce q9 ux tx H1 locs1 htx hvm hpx hBX hz1 hk1 hS hce hcv hcl => ?_) (fun r_1 u t H1 locs1 ht hvm hw hB hz1 hk1 hS => ?_)
  · rcases hBX with ⟨rfl, t_2⟩ | ⟨rfl, t_3⟩
    · obtain ⟨hP, hD⟩ := va_rest (wr := [(ou, .inl (cOut, 1, .inr (.inl fO)))]) hP hD [0] [1] rfl rfl (by decide) (by decide) hk1 hFc
      generalize H1 = H at hP hS hce ⊢
      refine vx_widen (k := 2) (n := 12) (Nat.le_of_ble_eq_true rfl) (Nat.le_of_ble_eq_true rfl) ?_
      refine vx_catch (name := "java/lang/IllegalArgumentException") hown [] ⟨0, 9, 12, 13⟩ [⟨0, 9, 15, 15⟩] (by rw [htbl]; rfl) (fun z hz => nomatch hz) (by decide) (by decide) (hts (.classLink RL 13 "java/lang/IllegalArgumentException") (by decide +kernel)) (hamb.use (w := .castable "java/lang/IllegalArgumentException" "java/lang/IllegalArgumentException") (by decide +kernel)) hce hcv hcl ?_
      refine lv_astore_n (lv' := [(3, .ref q9), (0, .ref h0), (1, .int p0), (2, .ref ou)]) hx hb dL_weave_12 rfl hl (by decide) rfl (fun ls hl => ?_)
      refine lv_iconst (v := 1) hx hb dL_weave_13 (by decide) ?_
      refine W.widen (k := 2) (n := 12) (Nat.le_of_ble_eq_true rfl) (Nat.le_of_ble_eq_true rfl) ?_
      have hP9 := hP.sub (ws' := [(ou, .inl (cOut, 1, .inr (.inl fO)))]) [0] rfl
      have hD9 := hD.sub (ws' := [(ou, .inl (cOut, 1, .inr (.inl fO)))]) [0] (by decide) rfl
      have hK9 := hK.sub (tys' := [(cOut, .long)]) [0] rfl
      exact W.iret (v := 1) hx hb hr (fun t ht hW => ⟨⟨1, (), rfl, ⟨fun h9 => (by first | rfl | (exfalso; omega)), fun h9 => (by first | rfl | (exfalso; omega))⟩, ⟨by rw [ht]; exact hP9, va_K.moved hW.alike hK9, hD9⟩⟩, hS.F ht⟩) hS.2.2 dL_weave_14
    · obtain ⟨hP, hD⟩ := va_rest (wr := [(ou, .inl (cOut, 1, .inr (.inl fO)))]) hP hD [0] [1] rfl rfl (by decide) (by decide) hk1 hFc
      generalize H1 = H at hP hS hce ⊢
      refine vx_widen (k := 2) (n := 12) (Nat.le_of_ble_eq_true rfl) (Nat.le_of_ble_eq_true rfl) ?_
      refine vx_catch (name := "java/lang/UnsupportedOperationException") hown [⟨0, 9, 12, 13⟩] ⟨0, 9, 15, 15⟩ [] (by rw [htbl]; rfl) (fun z hz => by
          simp only [List.mem_cons, List.not_mem_nil, or_false] at hz
          subst hz
          exact Or.inr ⟨by decide, "java/lang/IllegalArgumentException", (hts (.classLink RL 13 "java/lang/IllegalArgumentException") (by decide +kernel)), hamb.nots ("java/lang/UnsupportedOperationException", "java/lang/IllegalArgumentException") (by decide +kernel)⟩) (by decide) (by decide) (hts (.classLink RL 15 "java/lang/UnsupportedOperationException") (by decide +kernel)) (hamb.use (w := .castable "java/lang/UnsupportedOperationException" "java/lang/UnsupportedOperationException") (by decide +kernel)) hce hcv hcl ?_
      refine lv_astore_n (lv' := [(3, .ref q9), (0, .ref h0), (1, .int p0), (2, .ref ou)]) hx hb dL_weave_15 rfl hl (by decide) rfl (fun ls hl => ?_)
      refine lv_iconst (v := 2) hx hb dL_weave_16 (by decide) ?_
      refine W.widen (k := 2) (n := 12) (Nat.le_of_ble_eq_true rfl) (Nat.le_of_ble_eq_true rfl) ?_
      have hP9 := hP.sub (ws' := [(ou, .inl (cOut, 1, .inr (.inl fO)))]) [0] rfl
      have hD9 := hD.sub (ws' := [(ou, .inl (cOut, 1, .inr (.inl fO)))]) [0] (by decide) rfl
      have hK9 := hK.sub (tys' := [(cOut, .long)]) [0] rfl
      exact W.iret (v := 2) hx hb hr (fun t ht hW => ⟨⟨2, (), rfl, ⟨fun h9 => (by first | rfl | (exfalso; omega)), fun h9 => (by first | rfl | (exfalso; omega))⟩, ⟨by rw [ht]; exact hP9, va_K.moved hW.alike hK9, hD9⟩⟩, hS.F ht⟩) hS.2.2 dL_weave_17
  · exact hw.elim

set_option maxHeartbeats 4000000 in
set_option maxRecDepth 100000 in
theorem c_L_draw_bad (l : Launch) (hlt : l.stackTraces = false) (em : Nat → Nat) (dC : Nat → ClassId) (dI : Nat → Nat → Nat) (h0 : Nat) (p0 : Int32) (p1 : Int32) (p2 : Int32) (g0 : Value) (g1 : Value) (g2 : Value) (g4 : Value) (g5 : Value) (g6 : Value) (g7 : Value) (g8 : Value) (g9 : Value) (g10 : Value) (g11 : Value) (g12 : Value) (dr : Nat) (ou : Nat) (cOut : ClassId) (fO : Nat → Int64) (hb9 : p0.toInt < 97 ∨ 122 < p0.toInt ∨ p1.toInt < 0 ∨ 4 < p1.toInt ∨ p2.toInt < 0 ∨ 7 < p2.toInt) (sz : Nat) : Met l yL_draw wsL_draw ({ frames := 8, cells := 2, slots := 12, locals := 126 }) (va_Pc [.ref h0, .int p0, .int p1, .int p2, .ref ou] (Pw em dC dI sz [(h0, .inr (11, [g0, g1, g2, .ref dr, g4, g5, g6, g7, g8, g9, g10, g11, g12])), (ou, .inl (cOut, 1, .inr (.inl fO)))] [(cOut, .long)])) (va_Qi (fun (r : Int32) (_ : Unit) => r = 1) (fun _ t => Qw dC dI (va_A [(h0, .inr (11, [g0, g1, g2, .ref dr, g4, g5, g6, g7, g8, g9, g10, g11, g12])), (ou, .inl (cOut, 1, .inr (.inl fO)))] sz) [(ou, .inl (cOut, 1, .inr (.inl fO)))] [(cOut, .long)] t) (va_A [(h0, .inr (11, [g0, g1, g2, .ref dr, g4, g5, g6, g7, g8, g9, g10, g11, g12])), (ou, .inl (cOut, 1, .inr (.inl fO)))] sz)) 2 12 (va_A [(h0, .inr (11, [g0, g1, g2, .ref dr, g4, g5, g6, g7, g8, g9, g10, g11, g12])), (ou, .inl (cOut, 1, .inr (.inl fO)))] sz) := by
  refine va_MetW (cc := cL_draw) (maxL := 6) (ret := (some .int)) (hh := [(0, 12, 15, 13)]) (by decide) rfl ?_
  intro p e s m args below meth c s₁ B hml hv
  obtain ⟨rfl, hsz, hP, hK, hD0, hamb⟩ := hv
  have hx := B.exec
  have hb := B.bytes
  have hr := B.returns
  have hts := atoms_spec (ws := wsL_draw) B.pre
  have hown : s.vm.findClass RL = some m.cls := findClass_of_methodNamed B.named
  have hlocks := B.notSynchronized
  have htbl : c.exceptionTable.toList = tableOf [(0, 12, 15, 13)] := vx_table (x := yL_draw) B (hts (.codeWith yL_draw cL_draw 6 (some .int) [(0, 12, 15, 13)]) List.mem_cons_self)
  subst hsz
  have hD := hD0.self (sz := s.heap.size)
  generalize hAe : va_A [(h0, .inr (11, [g0, g1, g2, .ref dr, g4, g5, g6, g7, g8, g9, g10, g11, g12])), (ou, .inl (cOut, 1, .inr (.inl fO)))] s.heap.size = A at hD hamb ⊢
  have hA : ∀ q : Nat, s.heap.size ≤ q → A q := fun q h => by rw [← hAe]; exact Or.inr h
  have hS : va_S A s.heap s.heap [] := va_S.rf
  have hP : va_P (dC, dI) vwCl [(h0, .inr (11, [g0, g1, g2, .ref dr, g4, g5, g6, g7, g8, g9, g10, g11, g12])), (ou, .inl (cOut, 1, .inr (.inl fO)))] s.heap := hP
  have hl := lv_entry ([.ref h0, .int p0, .int p1, .int p2, .ref ou]) (n := 6) (Nat.le_of_ble_eq_true rfl)
  rw [lg_entry_eq]
  generalize (lg_sl ([.ref h0, .int p0, .int p1, .int p2, .ref ou]) ++ List.replicate (6 - (lg_sl ([.ref h0, .int p0, .int p1, .int p2, .ref ou])).length) Slot.unset).toArray = ls at hl ⊢
  have hl : lv_has ls 6 [(0, .ref h0), (1, .int p0), (2, .int p1), (3, .int p2), (4, .ref ou)] := hl
  refine lv_aload hx hb dL_draw_0 (lv_at hl 4 rfl) ?_
  refine lv_iconst (v := 0) hx hb dL_draw_2 (by decide) ?_
  refine lv_aload_n hx hb dL_draw_3 rfl (lv_at hl 0 rfl) ?_
  refine lv_iload_n hx hb dL_draw_4 rfl (lv_at hl 1 rfl) ?_
  refine lv_iload_n hx hb dL_draw_5 rfl (lv_at hl 2 rfl) ?_
  refine lv_iload_n hx hb dL_draw_6 rfl (lv_at hl 3 rfl) ?_
  have hPc := hP.sub (ws' := [(h0, .inr (11, [g0, g1, g2, .ref dr, g4, g5, g6, g7, g8, g9, g10, g11, g12]))]) [0] rfl
  have hDc := hD.sub (ws' := [(h0, .inr (11, [g0, g1, g2, .ref dr, g4, g5, g6, g7, g8, g9, g10, g11, g12]))]) [0] (by decide) rfl
  have hKc := hK.sub (tys' := []) [] rfl
  have hFc := va_free (wc := [(h0, .inr (11, [g0, g1, g2, .ref dr, g4, g5, g6, g7, g8, g9, g10, g11, g12]))]) hD hS hA [0] rfl
  refine vx_calli (vx_runV (As := [.int p0, .int p1, .int p2]) (rest := [.int 0, .ref ou]) ⟨hx, hb, hml, hown, hts⟩ (c_X5_draw_bad l hlt em dC dI h0 p0 p1 p2 g0 g1 g2 g4 g5 g6 g7 g8 g9 g10 g11 g12 dr hb9 s.heap.size) (cwV 3 hts gL_draw_X5_draw rfl rfl rfl (by decide +kernel) ⟨Nat.le_of_ble_eq_true rfl, Nat.le_of_ble_eq_true rfl⟩) ⟨Pw.blind _ _ _ _ _ _ _, va_recv hKc hPc (ci := 11) (q0 := 0) rfl rfl, fun U hU hW => ⟨rfl, Pw.go hPc hKc hDc hamb hS hFc hU hW⟩⟩ rfl rfl hl.1 rfl (lv_room (Nat.le_of_ble_eq_true rfl)) dL_draw_7 ⟨Nat.le_of_ble_eq_true rfl, Nat.le_of_ble_eq_true rfl⟩) hS (fun q _ h => hFc q h) hFc (fun q _ h => hFc q h) (fun E ce q9 ux tx H1 locs1 htx hvm hpx hBX hz1 hk1 hS hce hcv hcl => ?_) (fun r_1 u t H1 locs1 ht hvm hw hB hz1 hk1 hS => ?_)
  · obtain ⟨rfl, t_2⟩ := hBX
    obtain ⟨hP, hD⟩ := va_rest (wr := [(ou, .inl (cOut, 1, .inr (.inl fO)))]) hP hD [0] [1] rfl rfl (by decide) (by decide) hk1 hFc
    generalize H1 = H at hP hS hce ⊢
    refine vx_widen (k := 2) (n := 12) (Nat.le_of_ble_eq_true rfl) (Nat.le_of_ble_eq_true rfl) ?_
    refine vx_catch (name := "java/lang/IllegalArgumentException") hown [] ⟨0, 12, 15, 13⟩ [] (by rw [htbl]; rfl) (fun z hz => nomatch hz) (by decide) (by decide) (hts (.classLink RL 13 "java/lang/IllegalArgumentException") (by decide +kernel)) (hamb.use (w := .castable "java/lang/IllegalArgumentException" "java/lang/IllegalArgumentException") (by decide +kernel)) hce hcv hcl ?_
    refine lv_astore (lv' := [(5, .ref q9), (0, .ref h0), (1, .int p0), (2, .int p1), (3, .int p2), (4, .ref ou)]) hx hb dL_draw_15 hl (by decide) rfl (fun ls hl => ?_)
    refine lv_iconst (v := 1) hx hb dL_draw_17 (by decide) ?_
    refine W.widen (k := 2) (n := 12) (Nat.le_of_ble_eq_true rfl) (Nat.le_of_ble_eq_true rfl) ?_
    have hP9 := hP.sub (ws' := [(ou, .inl (cOut, 1, .inr (.inl fO)))]) [0] rfl
    have hD9 := hD.sub (ws' := [(ou, .inl (cOut, 1, .inr (.inl fO)))]) [0] (by decide) rfl
    have hK9 := hK.sub (tys' := [(cOut, .long)]) [0] rfl
    exact W.iret (v := 1) hx hb hr (fun t ht hW => ⟨⟨1, (), rfl, rfl, ⟨by rw [ht]; exact hP9, va_K.moved hW.alike hK9, hD9⟩⟩, hS.F ht⟩) hS.2.2 dL_draw_18
  · exact hw.elim

set_option maxHeartbeats 4000000 in
set_option maxRecDepth 100000 in
theorem c_L_draw_ok (l : Launch) (hlt : l.stackTraces = false) (em : Nat → Nat) (dC : Nat → ClassId) (dI : Nat → Nat → Nat) (h0 : Nat) (p0 : Int32) (p1 : Int32) (p2 : Int32) (g0 : Value) (g1 : Value) (g2 : Value) (g4 : Value) (g5 : Value) (g6 : Value) (g7 : Value) (g8 : Value) (g9 : Value) (g10 : Value) (g11 : Value) (g12 : Value) (dr : Nat) (rr : Nat) (cO : ClassId) (cI : ClassId) (fD : Nat → Option Nat) (ou : Nat) (cOut : ClassId) (fO : Nat → Int64) (hok : ¬ (p0.toInt < 97 ∨ 122 < p0.toInt ∨ p1.toInt < 0 ∨ 4 < p1.toInt ∨ p2.toInt < 0 ∨ 7 < p2.toInt)) (hrow : fD (p0 - 97).toNatClampNeg = some rr) (sz : Nat) : Met l yL_draw wsL_draw ({ frames := 8, cells := 2, slots := 12, locals := 126 }) (va_Pc [.ref h0, .int p0, .int p1, .int p2, .ref ou] (Pw em dC dI sz [(h0, .inr (11, [g0, g1, g2, .ref dr, g4, g5, g6, g7, g8, g9, g10, g11, g12])), (dr, .inl (cO, 26, .inr (.inr (.inr (.inr fD))))), (rr, .inl (cI, 5, .inl (fun _ => 0))), (ou, .inl (cOut, 1, .inr (.inl fO)))] [(cO, (.array .int)), (cI, .int), (cOut, .long)])) (va_Qi (fun (r : Int32) (_ : Unit) => r = 0) (fun _ t => ∃ (gO : Nat → Int64), Qw dC dI (va_A [(h0, .inr (11, [g0, g1, g2, .ref dr, g4, g5, g6, g7, g8, g9, g10, g11, g12])), (dr, .inl (cO, 26, .inr (.inr (.inr (.inr fD))))), (rr, .inl (cI, 5, .inl (fun _ => 0))), (ou, .inl (cOut, 1, .inr (.inl fO)))] sz) [(ou, .inl (cOut, 1, .inr (.inl gO)))] [(cOut, .long)] t ∧ gO 0 = 0) (va_A [(h0, .inr (11, [g0, g1, g2, .ref dr, g4, g5, g6, g7, g8, g9, g10, g11, g12])), (dr, .inl (cO, 26, .inr (.inr (.inr (.inr fD))))), (rr, .inl (cI, 5, .inl (fun _ => 0))), (ou, .inl (cOut, 1, .inr (.inl fO)))] sz)) 2 12 (va_A [(h0, .inr (11, [g0, g1, g2, .ref dr, g4, g5, g6, g7, g8, g9, g10, g11, g12])), (dr, .inl (cO, 26, .inr (.inr (.inr (.inr fD))))), (rr, .inl (cI, 5, .inl (fun _ => 0))), (ou, .inl (cOut, 1, .inr (.inl fO)))] sz) := by
  refine va_MetW (cc := cL_draw) (maxL := 6) (ret := (some .int)) (hh := [(0, 12, 15, 13)]) (by decide) rfl ?_
  intro p e s m args below meth c s₁ B hml hv
  obtain ⟨rfl, hsz, hP, hK, hD0, hamb⟩ := hv
  have hx := B.exec
  have hb := B.bytes
  have hr := B.returns
  have hts := atoms_spec (ws := wsL_draw) B.pre
  have hown : s.vm.findClass RL = some m.cls := findClass_of_methodNamed B.named
  have hlocks := B.notSynchronized
  have htbl : c.exceptionTable.toList = tableOf [(0, 12, 15, 13)] := vx_table (x := yL_draw) B (hts (.codeWith yL_draw cL_draw 6 (some .int) [(0, 12, 15, 13)]) List.mem_cons_self)
  subst hsz
  have hD := hD0.self (sz := s.heap.size)
  generalize hAe : va_A [(h0, .inr (11, [g0, g1, g2, .ref dr, g4, g5, g6, g7, g8, g9, g10, g11, g12])), (dr, .inl (cO, 26, .inr (.inr (.inr (.inr fD))))), (rr, .inl (cI, 5, .inl (fun _ => 0))), (ou, .inl (cOut, 1, .inr (.inl fO)))] s.heap.size = A at hD hamb ⊢
  have hA : ∀ q : Nat, s.heap.size ≤ q → A q := fun q h => by rw [← hAe]; exact Or.inr h
  have hS : va_S A s.heap s.heap [] := va_S.rf
  have hP : va_P (dC, dI) vwCl [(h0, .inr (11, [g0, g1, g2, .ref dr, g4, g5, g6, g7, g8, g9, g10, g11, g12])), (dr, .inl (cO, 26, .inr (.inr (.inr (.inr fD))))), (rr, .inl (cI, 5, .inl (fun _ => 0))), (ou, .inl (cOut, 1, .inr (.inl fO)))] s.heap := hP
  have hl := lv_entry ([.ref h0, .int p0, .int p1, .int p2, .ref ou]) (n := 6) (Nat.le_of_ble_eq_true rfl)
  rw [lg_entry_eq]
  generalize (lg_sl ([.ref h0, .int p0, .int p1, .int p2, .ref ou]) ++ List.replicate (6 - (lg_sl ([.ref h0, .int p0, .int p1, .int p2, .ref ou])).length) Slot.unset).toArray = ls at hl ⊢
  have hl : lv_has ls 6 [(0, .ref h0), (1, .int p0), (2, .int p1), (3, .int p2), (4, .ref ou)] := hl
  refine lv_aload hx hb dL_draw_0 (lv_at hl 4 rfl) ?_
  refine lv_iconst (v := 0) hx hb dL_draw_2 (by decide) ?_
  refine lv_aload_n hx hb dL_draw_3 rfl (lv_at hl 0 rfl) ?_
  refine lv_iload_n hx hb dL_draw_4 rfl (lv_at hl 1 rfl) ?_
  refine lv_iload_n hx hb dL_draw_5 rfl (lv_at hl 2 rfl) ?_
  refine lv_iload_n hx hb dL_draw_6 rfl (lv_at hl 3 rfl) ?_
  have hPc := hP.sub (ws' := [(h0, .inr (11, [g0, g1, g2, .ref dr, g4, g5, g6, g7, g8, g9, g10, g11, g12])), (dr, .inl (cO, 26, .inr (.inr (.inr (.inr fD))))), (rr, .inl (cI, 5, .inl (fun _ => 0)))]) [0, 1, 2] rfl
  have hDc := hD.sub (ws' := [(h0, .inr (11, [g0, g1, g2, .ref dr, g4, g5, g6, g7, g8, g9, g10, g11, g12])), (dr, .inl (cO, 26, .inr (.inr (.inr (.inr fD))))), (rr, .inl (cI, 5, .inl (fun _ => 0)))]) [0, 1, 2] (by decide) rfl
  have hKc := hK.sub (tys' := [(cO, (.array .int)), (cI, .int)]) [0, 1] rfl
  have hFc := va_free (wc := [(h0, .inr (11, [g0, g1, g2, .ref dr, g4, g5, g6, g7, g8, g9, g10, g11, g12])), (dr, .inl (cO, 26, .inr (.inr (.inr (.inr fD))))), (rr, .inl (cI, 5, .inl (fun _ => 0)))]) hD hS hA [0, 1, 2] rfl
  refine vx_calli (vx_runV (As := [.int p0, .int p1, .int p2]) (rest := [.int 0, .ref ou]) ⟨hx, hb, hml, hown, hts⟩ (c_X5_draw_ok l hlt em dC dI h0 p0 p1 p2 g0 g1 g2 g4 g5 g6 g7 g8 g9 g10 g11 g12 dr rr cO cI fD hok hrow s.heap.size) (cwV 3 hts gL_draw_X5_draw rfl rfl rfl (by decide +kernel) ⟨Nat.le_of_ble_eq_true rfl, Nat.le_of_ble_eq_true rfl⟩) ⟨Pw.blind _ _ _ _ _ _ _, va_recv hKc hPc (ci := 11) (q0 := 0) rfl rfl, fun U hU hW => ⟨rfl, Pw.go hPc hKc hDc hamb hS hFc hU hW⟩⟩ rfl rfl hl.1 rfl (lv_room (Nat.le_of_ble_eq_true rfl)) dL_draw_7 ⟨Nat.le_of_ble_eq_true rfl, Nat.le_of_ble_eq_true rfl⟩) hS (fun q _ h => hFc q h) hFc (fun q _ h => hFc q h) (fun E ce q9 ux tx H1 locs1 htx hvm hpx hBX hz1 hk1 hS hce hcv hcl => ?_) (fun r_1 u t H1 locs1 ht hvm hw hB hz1 hk1 hS => ?_)
  · obtain ⟨rfl, t_2⟩ := hBX
    obtain ⟨hP, hD⟩ := va_rest (wr := [(ou, .inl (cOut, 1, .inr (.inl fO)))]) hP hD [0, 1, 2] [3] rfl rfl (by decide) (by decide) hk1 hFc
    generalize H1 = H at hP hS hce ⊢
    refine vx_widen (k := 2) (n := 12) (Nat.le_of_ble_eq_true rfl) (Nat.le_of_ble_eq_true rfl) ?_
    refine vx_catch (name := "java/lang/IllegalArgumentException") hown [] ⟨0, 12, 15, 13⟩ [] (by rw [htbl]; rfl) (fun z hz => nomatch hz) (by decide) (by decide) (hts (.classLink RL 13 "java/lang/IllegalArgumentException") (by decide +kernel)) (hamb.use (w := .castable "java/lang/IllegalArgumentException" "java/lang/IllegalArgumentException") (by decide +kernel)) hce hcv hcl ?_
    refine lv_astore (lv' := [(5, .ref q9), (0, .ref h0), (1, .int p0), (2, .int p1), (3, .int p2), (4, .ref ou)]) hx hb dL_draw_15 hl (by decide) rfl (fun ls hl => ?_)
    refine lv_iconst (v := 1) hx hb dL_draw_17 (by decide) ?_
    refine W.widen (k := 2) (n := 12) (Nat.le_of_ble_eq_true rfl) (Nat.le_of_ble_eq_true rfl) ?_
    have hP9 := hP.sub (ws' := [(ou, .inl (cOut, 1, .inr (.inl fO)))]) [0] rfl
    have hD9 := hD.sub (ws' := [(ou, .inl (cOut, 1, .inr (.inl fO)))]) [0] (by decide) rfl
    have hK9 := hK.sub (tys' := [(cOut, .long)]) [2] rfl
    exact W.iret (v := 1) hx hb hr (fun t ht hW => ⟨⟨1, (), rfl, (by first | rfl | assumption | omega), ⟨(fO), ⟨by rw [ht]; exact hP9, va_K.moved hW.alike hK9, hD9⟩, (by first | rfl | assumption | omega | exact fun _ => rfl | exact fun h9 => absurd (by omega) h9 | exact fun h9 => absurd h9 (by omega))⟩⟩, hS.F ht⟩) hS.2.2 dL_draw_18
  · obtain ⟨hP, hD⟩ := va_rest (wr := [(ou, .inl (cOut, 1, .inr (.inl fO)))]) hP hD [0, 1, 2] [3] rfl rfl (by decide) (by decide) hk1 hFc
    generalize H1 = H at hP hS ⊢
    refine W.widen (k := 2) (n := 12) (Nat.le_of_ble_eq_true rfl) (Nat.le_of_ble_eq_true rfl) ?_
    have hw : r_1 = 0 := hw
    rw [hw]
    refine lv_i2l (v := 0) hx hb dL_draw_10 (by decide) ?_
    refine va_last hx hb hK hP hD hS 0 2 rfl rfl (vp_in_iff.mpr ⟨by decide, by decide⟩) dL_draw_11 (fun H locs hP hD hS => ?_)
    have hP : va_P (dC, dI) vwCl [(ou, .inl (cOut, 1, .inr (.inl (vp_updL fO 0 0))))] H := hP
    have hD : va_D A [(ou, .inl (cOut, 1, .inr (.inl (vp_updL fO 0 0))))] := hD
    refine lv_goto (tgt := 19) hx hb dL_draw_12 (by decide) ?_
    refine lv_iconst (v := 0) hx hb dL_draw_19 (by decide) ?_
    refine W.widen (k := 2) (n := 12) (Nat.le_of_ble_eq_true rfl) (Nat.le_of_ble_eq_true rfl) ?_
    have hP9 := hP.sub (ws' := [(ou, .inl (cOut, 1, .inr (.inl (vp_updL fO 0 0))))]) [0] rfl
    have hD9 := hD.sub (ws' := [(ou, .inl (cOut, 1, .inr (.inl (vp_updL fO 0 0))))]) [0] (by decide) rfl
    have hK9 := hK.sub (tys' := [(cOut, .long)]) [2] rfl
    exact W.iret (v := 0) hx hb hr (fun t ht hW => ⟨⟨0, (), rfl, rfl, ⟨((vp_updL fO 0 0)), ⟨by rw [ht]; exact hP9, va_K.moved hW.alike hK9, hD9⟩, (by first | rfl | assumption | omega | exact fun _ => rfl | exact fun h9 => absurd (by omega) h9 | exact fun h9 => absurd h9 (by omega))⟩⟩, hS.F ht⟩) hS.2.2 dL_draw_20
