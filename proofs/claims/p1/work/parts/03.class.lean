set_option maxHeartbeats 4000000 in
set_option maxRecDepth 100000 in
theorem c_X5_needColour (l : Launch) (hlt : l.stackTraces = false) (em : Nat → Nat) (dC : Nat → ClassId) (dI : Nat → Nat → Nat) (p0 : Int32) (sz : Nat) : vx_Met l yX5_needColour wsX5_needColour ({ frames := 6, cells := 1, slots := 6, locals := 82 }) (va_Pc [.int p0] (Pw em dC dI sz [] [])) (va_Qv (fun _ : Unit => ¬ (p0.toInt < 0 ∨ 7 < p0.toInt)) (fun _ t => True) (va_A [] sz)) (vx_X (fun _ : Unit => True) (fun E _ _ => (E = "java/lang/IllegalArgumentException" ∧ (p0.toInt < 0 ∨ 7 < p0.toInt))) (va_A [] sz)) 1 6 (va_A [] sz) := by
  refine vx_ofW (cc := cX5_needColour) (maxL := 1) (ret := none) (by decide) rfl ?_
  intro p e s m args below meth c s₁ B hml htab hv
  obtain ⟨rfl, hsz, hP, hK, hD0, hamb⟩ := hv
  have hx := B.exec
  have hb := B.bytes
  have hr := B.returns
  have hts := atoms_spec (ws := wsX5_needColour) B.pre
  have hown : s.vm.findClass RX5 = some m.cls := findClass_of_methodNamed B.named
  have hlocks := B.notSynchronized
  subst hsz
  have hD := hD0.self (sz := s.heap.size)
  generalize hAe : va_A [] s.heap.size = A at hD hamb ⊢
  have hA : ∀ q : Nat, s.heap.size ≤ q → A q := fun q h => by rw [← hAe]; exact Or.inr h
  have hS : va_S A s.heap s.heap [] := va_S.rf
  have hP : va_P (dC, dI) vwCl [] s.heap := hP
  have hl := lv_entry ([.int p0]) (n := 1) (Nat.le_of_ble_eq_true rfl)
  rw [lg_entry_eq]
  generalize (lg_sl ([.int p0]) ++ List.replicate (1 - (lg_sl ([.int p0])).length) Slot.unset).toArray = ls at hl ⊢
  have hl : lv_has ls 1 [(0, .int p0)] := hl
  refine lv_iload_n hx hb dX5_needColour_0 rfl (lv_at hl 0 rfl) ?_
  refine lv_if_lt (tgt := 10) hx hb dX5_needColour_1 (by decide) (fun c_1 => ?_) (fun c_1 => ?_)
  · have t_2 := b_lt (k := 0) rfl c_1
    obtain ⟨sa, hsa⟩ := hamb.strs (RX5, 301, "no such colour") (by decide +kernel)
    exact vx_throwSW (names := ["java/lang/RuntimeException", "java/lang/Exception"]) hx hb hlt hown (by decide +kernel) (by decide +kernel) (hts (.classLink RX5 67 "java/lang/IllegalArgumentException") (by decide +kernel)) (hts (.initialized "java/lang/IllegalArgumentException") (by decide +kernel)) hsa (vx_hat (B := ambW) (fun w hw => hts w (List.mem_cons_of_mem _ (List.mem_append_right _ hw))) (by decide +kernel) (fun w hw => hamb.use hw)) (by decide +kernel) hamb.us hamb.ss hS (by rw [hml]; exact hl.1) dX5_needColour_10 dX5_needColour_13 dX5_needColour_14 dX5_needColour_17 dX5_needColour_20 (fun x hxx => (htab x hxx).elim) (Nat.le_of_ble_eq_true rfl) (Nat.le_of_ble_eq_true rfl) (Nat.le_of_ble_eq_true rfl) (Nat.le_of_ble_eq_true rfl) hlocks (fun t ha h1 h2 => ⟨(), trivial, (⟨rfl, by omega⟩), xc_F hS h1 h2⟩) hS.2.2 (Nat.le_of_ble_eq_true rfl) (Nat.le_of_ble_eq_true rfl)
  · have t_3 := b_nlt (k := 0) rfl c_1
    refine lv_iload_n hx hb dX5_needColour_4 rfl (lv_at hl 0 rfl) ?_
    refine lv_bipush (v := 8) hx hb dX5_needColour_5 (by decide) ?_
    refine lv_icmp_lt (tgt := 21) hx hb dX5_needColour_7 (by decide) (fun c_4 => ?_) (fun c_4 => ?_)
    · have t_5 := b_lt (k := 8) rfl c_4
      refine W.widen (k := 1) (n := 6) (Nat.le_of_ble_eq_true rfl) (Nat.le_of_ble_eq_true rfl) ?_
      refine vx_ret ?_
      exact W.vret hx hb hr (fun t ht hW => ⟨⟨(), rfl, (by omega), trivial⟩, hS.F ht⟩) hS.2.2 dX5_needColour_21
    · have t_6 := b_nlt (k := 8) rfl c_4
      obtain ⟨sa, hsa⟩ := hamb.strs (RX5, 301, "no such colour") (by decide +kernel)
      exact vx_throwSW (names := ["java/lang/RuntimeException", "java/lang/Exception"]) hx hb hlt hown (by decide +kernel) (by decide +kernel) (hts (.classLink RX5 67 "java/lang/IllegalArgumentException") (by decide +kernel)) (hts (.initialized "java/lang/IllegalArgumentException") (by decide +kernel)) hsa (vx_hat (B := ambW) (fun w hw => hts w (List.mem_cons_of_mem _ (List.mem_append_right _ hw))) (by decide +kernel) (fun w hw => hamb.use hw)) (by decide +kernel) hamb.us hamb.ss hS (by rw [hml]; exact hl.1) dX5_needColour_10 dX5_needColour_13 dX5_needColour_14 dX5_needColour_17 dX5_needColour_20 (fun x hxx => (htab x hxx).elim) (Nat.le_of_ble_eq_true rfl) (Nat.le_of_ble_eq_true rfl) (Nat.le_of_ble_eq_true rfl) (Nat.le_of_ble_eq_true rfl) hlocks (fun t ha h1 h2 => ⟨(), trivial, (⟨rfl, by omega⟩), xc_F hS h1 h2⟩) hS.2.2 (Nat.le_of_ble_eq_true rfl) (Nat.le_of_ble_eq_true rfl)

set_option maxHeartbeats 4000000 in
set_option maxRecDepth 100000 in
theorem c_X5_needPack (l : Launch) (hlt : l.stackTraces = false) (em : Nat → Nat) (dC : Nat → ClassId) (dI : Nat → Nat → Nat) (p0 : Int32) (sz : Nat) : vx_Met l yX5_needPack wsX5_needPack ({ frames := 6, cells := 1, slots := 6, locals := 82 }) (va_Pc [.int p0] (Pw em dC dI sz [] [])) (va_Qv (fun _ : Unit => ¬ (p0.toInt < 0 ∨ 3 < p0.toInt)) (fun _ t => True) (va_A [] sz)) (vx_X (fun _ : Unit => True) (fun E _ _ => (E = "java/lang/IllegalArgumentException" ∧ (p0.toInt < 0 ∨ 3 < p0.toInt))) (va_A [] sz)) 1 6 (va_A [] sz) := by
  refine vx_ofW (cc := cX5_needPack) (maxL := 1) (ret := none) (by decide) rfl ?_
  intro p e s m args below meth c s₁ B hml htab hv
  obtain ⟨rfl, hsz, hP, hK, hD0, hamb⟩ := hv
  have hx := B.exec
  have hb := B.bytes
  have hr := B.returns
  have hts := atoms_spec (ws := wsX5_needPack) B.pre
  have hown : s.vm.findClass RX5 = some m.cls := findClass_of_methodNamed B.named
  have hlocks := B.notSynchronized
  subst hsz
  have hD := hD0.self (sz := s.heap.size)
  generalize hAe : va_A [] s.heap.size = A at hD hamb ⊢
  have hA : ∀ q : Nat, s.heap.size ≤ q → A q := fun q h => by rw [← hAe]; exact Or.inr h
  have hS : va_S A s.heap s.heap [] := va_S.rf
  have hP : va_P (dC, dI) vwCl [] s.heap := hP
  have hl := lv_entry ([.int p0]) (n := 1) (Nat.le_of_ble_eq_true rfl)
  rw [lg_entry_eq]
  generalize (lg_sl ([.int p0]) ++ List.replicate (1 - (lg_sl ([.int p0])).length) Slot.unset).toArray = ls at hl ⊢
  have hl : lv_has ls 1 [(0, .int p0)] := hl
  refine lv_iload_n hx hb dX5_needPack_0 rfl (lv_at hl 0 rfl) ?_
  refine lv_if_lt (tgt := 9) hx hb dX5_needPack_1 (by decide) (fun c_1 => ?_) (fun c_1 => ?_)
  · have t_2 := b_lt (k := 0) rfl c_1
    obtain ⟨sa, hsa⟩ := hamb.strs (RX5, 303, "no such pack") (by decide +kernel)
    exact vx_throwSW (names := ["java/lang/RuntimeException", "java/lang/Exception"]) hx hb hlt hown (by decide +kernel) (by decide +kernel) (hts (.classLink RX5 67 "java/lang/IllegalArgumentException") (by decide +kernel)) (hts (.initialized "java/lang/IllegalArgumentException") (by decide +kernel)) hsa (vx_hat (B := ambW) (fun w hw => hts w (List.mem_cons_of_mem _ (List.mem_append_right _ hw))) (by decide +kernel) (fun w hw => hamb.use hw)) (by decide +kernel) hamb.us hamb.ss hS (by rw [hml]; exact hl.1) dX5_needPack_9 dX5_needPack_12 dX5_needPack_13 dX5_needPack_16 dX5_needPack_19 (fun x hxx => (htab x hxx).elim) (Nat.le_of_ble_eq_true rfl) (Nat.le_of_ble_eq_true rfl) (Nat.le_of_ble_eq_true rfl) (Nat.le_of_ble_eq_true rfl) hlocks (fun t ha h1 h2 => ⟨(), trivial, (⟨rfl, by omega⟩), xc_F hS h1 h2⟩) hS.2.2 (Nat.le_of_ble_eq_true rfl) (Nat.le_of_ble_eq_true rfl)
  · have t_3 := b_nlt (k := 0) rfl c_1
    refine lv_iload_n hx hb dX5_needPack_4 rfl (lv_at hl 0 rfl) ?_
    refine lv_iconst (v := 4) hx hb dX5_needPack_5 (by decide) ?_
    refine lv_icmp_lt (tgt := 20) hx hb dX5_needPack_6 (by decide) (fun c_4 => ?_) (fun c_4 => ?_)
    · have t_5 := b_lt (k := 4) rfl c_4
      refine W.widen (k := 1) (n := 6) (Nat.le_of_ble_eq_true rfl) (Nat.le_of_ble_eq_true rfl) ?_
      refine vx_ret ?_
      exact W.vret hx hb hr (fun t ht hW => ⟨⟨(), rfl, (by omega), trivial⟩, hS.F ht⟩) hS.2.2 dX5_needPack_20
    · have t_6 := b_nlt (k := 4) rfl c_4
      obtain ⟨sa, hsa⟩ := hamb.strs (RX5, 303, "no such pack") (by decide +kernel)
      exact vx_throwSW (names := ["java/lang/RuntimeException", "java/lang/Exception"]) hx hb hlt hown (by decide +kernel) (by decide +kernel) (hts (.classLink RX5 67 "java/lang/IllegalArgumentException") (by decide +kernel)) (hts (.initialized "java/lang/IllegalArgumentException") (by decide +kernel)) hsa (vx_hat (B := ambW) (fun w hw => hts w (List.mem_cons_of_mem _ (List.mem_append_right _ hw))) (by decide +kernel) (fun w hw => hamb.use hw)) (by decide +kernel) hamb.us hamb.ss hS (by rw [hml]; exact hl.1) dX5_needPack_9 dX5_needPack_12 dX5_needPack_13 dX5_needPack_16 dX5_needPack_19 (fun x hxx => (htab x hxx).elim) (Nat.le_of_ble_eq_true rfl) (Nat.le_of_ble_eq_true rfl) (Nat.le_of_ble_eq_true rfl) (Nat.le_of_ble_eq_true rfl) hlocks (fun t ha h1 h2 => ⟨(), trivial, (⟨rfl, by omega⟩), xc_F hS h1 h2⟩) hS.2.2 (Nat.le_of_ble_eq_true rfl) (Nat.le_of_ble_eq_true rfl)

set_option maxHeartbeats 4000000 in
set_option maxRecDepth 100000 in
theorem c_X5_needLetter (l : Launch) (hlt : l.stackTraces = false) (em : Nat → Nat) (dC : Nat → ClassId) (dI : Nat → Nat → Nat) (p0 : Int32) (sz : Nat) : vx_Met l yX5_needLetter wsX5_needLetter ({ frames := 6, cells := 1, slots := 6, locals := 82 }) (va_Pc [.int p0] (Pw em dC dI sz [] [])) (va_Qv (fun _ : Unit => ¬ (p0.toInt < 97 ∨ 122 < p0.toInt)) (fun _ t => True) (va_A [] sz)) (vx_X (fun _ : Unit => True) (fun E _ _ => (E = "java/lang/IllegalArgumentException" ∧ (p0.toInt < 97 ∨ 122 < p0.toInt))) (va_A [] sz)) 1 6 (va_A [] sz) := by
  refine vx_ofW (cc := cX5_needLetter) (maxL := 1) (ret := none) (by decide) rfl ?_
  intro p e s m args below meth c s₁ B hml htab hv
  obtain ⟨rfl, hsz, hP, hK, hD0, hamb⟩ := hv
  have hx := B.exec
  have hb := B.bytes
  have hr := B.returns
  have hts := atoms_spec (ws := wsX5_needLetter) B.pre
  have hown : s.vm.findClass RX5 = some m.cls := findClass_of_methodNamed B.named
  have hlocks := B.notSynchronized
  subst hsz
  have hD := hD0.self (sz := s.heap.size)
  generalize hAe : va_A [] s.heap.size = A at hD hamb ⊢
  have hA : ∀ q : Nat, s.heap.size ≤ q → A q := fun q h => by rw [← hAe]; exact Or.inr h
  have hS : va_S A s.heap s.heap [] := va_S.rf
  have hP : va_P (dC, dI) vwCl [] s.heap := hP
  have hl := lv_entry ([.int p0]) (n := 1) (Nat.le_of_ble_eq_true rfl)
  rw [lg_entry_eq]
  generalize (lg_sl ([.int p0]) ++ List.replicate (1 - (lg_sl ([.int p0])).length) Slot.unset).toArray = ls at hl ⊢
  have hl : lv_has ls 1 [(0, .int p0)] := hl
  refine lv_iload_n hx hb dX5_needLetter_0 rfl (lv_at hl 0 rfl) ?_
  refine lv_bipush (v := 97) hx hb dX5_needLetter_1 (by decide) ?_
  refine lv_icmp_lt (tgt := 12) hx hb dX5_needLetter_3 (by decide) (fun c_1 => ?_) (fun c_1 => ?_)
  · have t_2 := b_lt (k := 97) rfl c_1
    obtain ⟨sa, hsa⟩ := hamb.strs (RX5, 305, "no such letter") (by decide +kernel)
    exact vx_throwSW (names := ["java/lang/RuntimeException", "java/lang/Exception"]) hx hb hlt hown (by decide +kernel) (by decide +kernel) (hts (.classLink RX5 67 "java/lang/IllegalArgumentException") (by decide +kernel)) (hts (.initialized "java/lang/IllegalArgumentException") (by decide +kernel)) hsa (vx_hat (B := ambW) (fun w hw => hts w (List.mem_cons_of_mem _ (List.mem_append_right _ hw))) (by decide +kernel) (fun w hw => hamb.use hw)) (by decide +kernel) hamb.us hamb.ss hS (by rw [hml]; exact hl.1) dX5_needLetter_12 dX5_needLetter_15 dX5_needLetter_16 dX5_needLetter_19 dX5_needLetter_22 (fun x hxx => (htab x hxx).elim) (Nat.le_of_ble_eq_true rfl) (Nat.le_of_ble_eq_true rfl) (Nat.le_of_ble_eq_true rfl) (Nat.le_of_ble_eq_true rfl) hlocks (fun t ha h1 h2 => ⟨(), trivial, (⟨rfl, by omega⟩), xc_F hS h1 h2⟩) hS.2.2 (Nat.le_of_ble_eq_true rfl) (Nat.le_of_ble_eq_true rfl)
  · have t_3 := b_nlt (k := 97) rfl c_1
    refine lv_iload_n hx hb dX5_needLetter_6 rfl (lv_at hl 0 rfl) ?_
    refine lv_bipush (v := 122) hx hb dX5_needLetter_7 (by decide) ?_
    refine lv_icmp_le (tgt := 23) hx hb dX5_needLetter_9 (by decide) (fun c_4 => ?_) (fun c_4 => ?_)
    · have t_5 := b_le (k := 122) rfl c_4
      refine W.widen (k := 1) (n := 6) (Nat.le_of_ble_eq_true rfl) (Nat.le_of_ble_eq_true rfl) ?_
      refine vx_ret ?_
      exact W.vret hx hb hr (fun t ht hW => ⟨⟨(), rfl, (by omega), trivial⟩, hS.F ht⟩) hS.2.2 dX5_needLetter_23
    · have t_6 := b_nle (k := 122) rfl c_4
      obtain ⟨sa, hsa⟩ := hamb.strs (RX5, 305, "no such letter") (by decide +kernel)
      exact vx_throwSW (names := ["java/lang/RuntimeException", "java/lang/Exception"]) hx hb hlt hown (by decide +kernel) (by decide +kernel) (hts (.classLink RX5 67 "java/lang/IllegalArgumentException") (by decide +kernel)) (hts (.initialized "java/lang/IllegalArgumentException") (by decide +kernel)) hsa (vx_hat (B := ambW) (fun w hw => hts w (List.mem_cons_of_mem _ (List.mem_append_right _ hw))) (by decide +kernel) (fun w hw => hamb.use hw)) (by decide +kernel) hamb.us hamb.ss hS (by rw [hml]; exact hl.1) dX5_needLetter_12 dX5_needLetter_15 dX5_needLetter_16 dX5_needLetter_19 dX5_needLetter_22 (fun x hxx => (htab x hxx).elim) (Nat.le_of_ble_eq_true rfl) (Nat.le_of_ble_eq_true rfl) (Nat.le_of_ble_eq_true rfl) (Nat.le_of_ble_eq_true rfl) hlocks (fun t ha h1 h2 => ⟨(), trivial, (⟨rfl, by omega⟩), xc_F hS h1 h2⟩) hS.2.2 (Nat.le_of_ble_eq_true rfl) (Nat.le_of_ble_eq_true rfl)

set_option maxHeartbeats 4000000 in
set_option maxRecDepth 100000 in
theorem c_X5_needCard (l : Launch) (hlt : l.stackTraces = false) (em : Nat → Nat) (dC : Nat → ClassId) (dI : Nat → Nat → Nat) (h0 : Nat) (p0 : Int32) (g0 : Value) (g2 : Value) (g3 : Value) (g4 : Value) (g5 : Value) (g6 : Value) (g7 : Value) (g8 : Value) (g9 : Value) (g10 : Value) (g11 : Value) (g12 : Value) (sz : Nat) : vx_Met l yX5_needCard wsX5_needCard ({ frames := 6, cells := 1, slots := 6, locals := 82 }) (va_Pc [.ref h0, .int p0] (Pw em dC dI sz [(h0, .inr (11, [g0, .int 0, g2, g3, g4, g5, g6, g7, g8, g9, g10, g11, g12]))] [])) (va_Qv (fun _ : Unit => False) (fun _ t => True) (va_A [(h0, .inr (11, [g0, .int 0, g2, g3, g4, g5, g6, g7, g8, g9, g10, g11, g12]))] sz)) (vx_X (fun _ : Unit => True) (fun E _ _ => (E = "java/lang/IndexOutOfBoundsException" ∧ True)) (va_A [(h0, .inr (11, [g0, .int 0, g2, g3, g4, g5, g6, g7, g8, g9, g10, g11, g12]))] sz)) 1 6 (va_A [(h0, .inr (11, [g0, .int 0, g2, g3, g4, g5, g6, g7, g8, g9, g10, g11, g12]))] sz) := by
  refine vx_ofW (cc := cX5_needCard) (maxL := 2) (ret := none) (by decide) rfl ?_
  intro p e s m args below meth c s₁ B hml htab hv
  obtain ⟨rfl, hsz, hP, hK, hD0, hamb⟩ := hv
  have hx := B.exec
  have hb := B.bytes
  have hr := B.returns
  have hts := atoms_spec (ws := wsX5_needCard) B.pre
  have hown : s.vm.findClass RX5 = some m.cls := findClass_of_methodNamed B.named
  have hlocks := B.notSynchronized
  subst hsz
  have hD := hD0.self (sz := s.heap.size)
  generalize hAe : va_A [(h0, .inr (11, [g0, .int 0, g2, g3, g4, g5, g6, g7, g8, g9, g10, g11, g12]))] s.heap.size = A at hD hamb ⊢
  have hA : ∀ q : Nat, s.heap.size ≤ q → A q := fun q h => by rw [← hAe]; exact Or.inr h
  have hS : va_S A s.heap s.heap [] := va_S.rf
  have hP : va_P (dC, dI) vwCl [(h0, .inr (11, [g0, .int 0, g2, g3, g4, g5, g6, g7, g8, g9, g10, g11, g12]))] s.heap := hP
  have hl := lv_entry ([.ref h0, .int p0]) (n := 2) (Nat.le_of_ble_eq_true rfl)
  rw [lg_entry_eq]
  generalize (lg_sl ([.ref h0, .int p0]) ++ List.replicate (2 - (lg_sl ([.ref h0, .int p0])).length) Slot.unset).toArray = ls at hl ⊢
  have hl : lv_has ls 2 [(0, .ref h0), (1, .int p0)] := hl
  refine lv_iload_n hx hb dX5_needCard_0 rfl (lv_at hl 1 rfl) ?_
  refine lv_if_lt (tgt := 12) hx hb dX5_needCard_1 (by decide) (fun c_1 => ?_) (fun c_1 => ?_)
  · have t_2 := b_lt (k := 0) rfl c_1
    obtain ⟨sa, hsa⟩ := hamb.strs (RX5, 309, "no such card") (by decide +kernel)
    exact vx_throwSW (names := ["java/lang/RuntimeException", "java/lang/Exception"]) hx hb hlt hown (by decide +kernel) (by decide +kernel) (hts (.classLink RX5 264 "java/lang/IndexOutOfBoundsException") (by decide +kernel)) (hts (.initialized "java/lang/IndexOutOfBoundsException") (by decide +kernel)) hsa (vx_hat (B := ambW) (fun w hw => hts w (List.mem_cons_of_mem _ (List.mem_append_right _ hw))) (by decide +kernel) (fun w hw => hamb.use hw)) (by decide +kernel) hamb.us hamb.ss hS (by rw [hml]; exact hl.1) dX5_needCard_12 dX5_needCard_15 dX5_needCard_16 dX5_needCard_19 dX5_needCard_22 (fun x hxx => (htab x hxx).elim) (Nat.le_of_ble_eq_true rfl) (Nat.le_of_ble_eq_true rfl) (Nat.le_of_ble_eq_true rfl) (Nat.le_of_ble_eq_true rfl) hlocks (fun t ha h1 h2 => ⟨(), trivial, (⟨rfl, trivial⟩), xc_F hS h1 h2⟩) hS.2.2 (Nat.le_of_ble_eq_true rfl) (Nat.le_of_ble_eq_true rfl)
  · have t_3 := b_nlt (k := 0) rfl c_1
    refine lv_iload_n hx hb dX5_needCard_4 rfl (lv_at hl 1 rfl) ?_
    refine lv_aload_n hx hb dX5_needCard_5 rfl (lv_at hl 0 rfl) ?_
    refine va_get (D := (dC, dI)) (ci := 11) (v := .int 0) (C := RX5) (T := TX5) (N := 13) hx hb hts (by decide +kernel) hown hK hP 0 rfl rfl 1 (by decide) (hts (.fieldLink RX5 83 "Bothfaces" "cardCount" "I") (by decide +kernel)) (fun _ h9 => h9) rfl dX5_needCard_6 ?_
    refine lv_icmp_lt (tgt := 23) hx hb dX5_needCard_9 (by decide) (fun c_4 => ?_) (fun c_4 => ?_)
    · have t_5 := b_lt (k := 0) rfl c_4
      exfalso; omega
    · have t_6 := b_nlt (k := 0) rfl c_4
      obtain ⟨sa, hsa⟩ := hamb.strs (RX5, 309, "no such card") (by decide +kernel)
      exact vx_throwSW (names := ["java/lang/RuntimeException", "java/lang/Exception"]) hx hb hlt hown (by decide +kernel) (by decide +kernel) (hts (.classLink RX5 264 "java/lang/IndexOutOfBoundsException") (by decide +kernel)) (hts (.initialized "java/lang/IndexOutOfBoundsException") (by decide +kernel)) hsa (vx_hat (B := ambW) (fun w hw => hts w (List.mem_cons_of_mem _ (List.mem_append_right _ hw))) (by decide +kernel) (fun w hw => hamb.use hw)) (by decide +kernel) hamb.us hamb.ss hS (by rw [hml]; exact hl.1) dX5_needCard_12 dX5_needCard_15 dX5_needCard_16 dX5_needCard_19 dX5_needCard_22 (fun x hxx => (htab x hxx).elim) (Nat.le_of_ble_eq_true rfl) (Nat.le_of_ble_eq_true rfl) (Nat.le_of_ble_eq_true rfl) (Nat.le_of_ble_eq_true rfl) hlocks (fun t ha h1 h2 => ⟨(), trivial, (⟨rfl, trivial⟩), xc_F hS h1 h2⟩) hS.2.2 (Nat.le_of_ble_eq_true rfl) (Nat.le_of_ble_eq_true rfl)

set_option maxHeartbeats 4000000 in
set_option maxRecDepth 100000 in
theorem c_X5_needLast (l : Launch) (hlt : l.stackTraces = false) (em : Nat → Nat) (dC : Nat → ClassId) (dI : Nat → Nat → Nat) (h0 : Nat) (p0 : Int32) (g0 : Value) (g1 : Value) (g3 : Value) (g4 : Value) (g5 : Value) (g6 : Value) (g7 : Value) (g8 : Value) (g9 : Value) (g10 : Value) (g11 : Value) (g12 : Value) (sz : Nat) : vx_Met l yX5_needLast wsX5_needLast ({ frames := 6, cells := 1, slots := 6, locals := 82 }) (va_Pc [.ref h0, .int p0] (Pw em dC dI sz [(h0, .inr (11, [g0, g1, .int 0, g3, g4, g5, g6, g7, g8, g9, g10, g11, g12]))] [])) (va_Qv (fun _ : Unit => ¬ (p0.toInt < 0 ∨ 39 < p0.toInt)) (fun _ t => Qw dC dI (va_A [(h0, .inr (11, [g0, g1, .int 0, g3, g4, g5, g6, g7, g8, g9, g10, g11, g12]))] sz) [(h0, .inr (11, [g0, g1, .int 0, g3, g4, g5, g6, g7, g8, g9, g10, g11, g12]))] [] t) (va_A [(h0, .inr (11, [g0, g1, .int 0, g3, g4, g5, g6, g7, g8, g9, g10, g11, g12]))] sz)) (vx_X (fun _ : Unit => True) (fun E _ _ => (E = "java/lang/IllegalArgumentException" ∧ (p0.toInt < 0 ∨ 39 < p0.toInt))) (va_A [(h0, .inr (11, [g0, g1, .int 0, g3, g4, g5, g6, g7, g8, g9, g10, g11, g12]))] sz)) 1 6 (va_A [(h0, .inr (11, [g0, g1, .int 0, g3, g4, g5, g6, g7, g8, g9, g10, g11, g12]))] sz) := by
  refine vx_ofW (cc := cX5_needLast) (maxL := 2) (ret := none) (by decide) rfl ?_
  intro p e s m args below meth c s₁ B hml htab hv
  obtain ⟨rfl, hsz, hP, hK, hD0, hamb⟩ := hv
  have hx := B.exec
  have hb := B.bytes
  have hr := B.returns
  have hts := atoms_spec (ws := wsX5_needLast) B.pre
  have hown : s.vm.findClass RX5 = some m.cls := findClass_of_methodNamed B.named
  have hlocks := B.notSynchronized
  subst hsz
  have hD := hD0.self (sz := s.heap.size)
  generalize hAe : va_A [(h0, .inr (11, [g0, g1, .int 0, g3, g4, g5, g6, g7, g8, g9, g10, g11, g12]))] s.heap.size = A at hD hamb ⊢
  have hA : ∀ q : Nat, s.heap.size ≤ q → A q := fun q h => by rw [← hAe]; exact Or.inr h
  have hS : va_S A s.heap s.heap [] := va_S.rf
  have hP : va_P (dC, dI) vwCl [(h0, .inr (11, [g0, g1, .int 0, g3, g4, g5, g6, g7, g8, g9, g10, g11, g12]))] s.heap := hP
  have hl := lv_entry ([.ref h0, .int p0]) (n := 2) (Nat.le_of_ble_eq_true rfl)
  rw [lg_entry_eq]
  generalize (lg_sl ([.ref h0, .int p0]) ++ List.replicate (2 - (lg_sl ([.ref h0, .int p0])).length) Slot.unset).toArray = ls at hl ⊢
  have hl : lv_has ls 2 [(0, .ref h0), (1, .int p0)] := hl
  refine lv_iload_n hx hb dX5_needLast_0 rfl (lv_at hl 1 rfl) ?_
  refine lv_aload_n hx hb dX5_needLast_1 rfl (lv_at hl 0 rfl) ?_
  refine va_get (D := (dC, dI)) (ci := 11) (v := .int 0) (C := RX5) (T := TX5) (N := 13) hx hb hts (by decide +kernel) hown hK hP 0 rfl rfl 2 (by decide) (hts (.fieldLink RX5 74 "Bothfaces" "pickCount" "I") (by decide +kernel)) (fun _ h9 => h9) rfl dX5_needLast_2 ?_
  refine lv_icmp_lt (tgt := 14) hx hb dX5_needLast_5 (by decide) (fun c_1 => ?_) (fun c_1 => ?_)
  · have t_2 := b_lt (k := 0) rfl c_1
    obtain ⟨sa, hsa⟩ := hamb.strs (RX5, 313, "no such last pick of a plan") (by decide +kernel)
    exact vx_throwSW (names := ["java/lang/RuntimeException", "java/lang/Exception"]) hx hb hlt hown (by decide +kernel) (by decide +kernel) (hts (.classLink RX5 67 "java/lang/IllegalArgumentException") (by decide +kernel)) (hts (.initialized "java/lang/IllegalArgumentException") (by decide +kernel)) hsa (vx_hat (B := ambW) (fun w hw => hts w (List.mem_cons_of_mem _ (List.mem_append_right _ hw))) (by decide +kernel) (fun w hw => hamb.use hw)) (by decide +kernel) hamb.us hamb.ss hS (by rw [hml]; exact hl.1) dX5_needLast_14 dX5_needLast_17 dX5_needLast_18 dX5_needLast_21 dX5_needLast_24 (fun x hxx => (htab x hxx).elim) (Nat.le_of_ble_eq_true rfl) (Nat.le_of_ble_eq_true rfl) (Nat.le_of_ble_eq_true rfl) (Nat.le_of_ble_eq_true rfl) hlocks (fun t ha h1 h2 => ⟨(), trivial, (⟨rfl, by omega⟩), xc_F hS h1 h2⟩) hS.2.2 (Nat.le_of_ble_eq_true rfl) (Nat.le_of_ble_eq_true rfl)
  · have t_3 := b_nlt (k := 0) rfl c_1
    refine lv_iload_n hx hb dX5_needLast_8 rfl (lv_at hl 1 rfl) ?_
    refine lv_bipush (v := 40) hx hb dX5_needLast_9 (by decide) ?_
    refine lv_icmp_lt (tgt := 25) hx hb dX5_needLast_11 (by decide) (fun c_4 => ?_) (fun c_4 => ?_)
    · have t_5 := b_lt (k := 40) rfl c_4
      refine W.widen (k := 1) (n := 6) (Nat.le_of_ble_eq_true rfl) (Nat.le_of_ble_eq_true rfl) ?_
      have hP9 := hP.sub (ws' := [(h0, .inr (11, [g0, g1, .int 0, g3, g4, g5, g6, g7, g8, g9, g10, g11, g12]))]) [0] rfl
      have hD9 := hD.sub (ws' := [(h0, .inr (11, [g0, g1, .int 0, g3, g4, g5, g6, g7, g8, g9, g10, g11, g12]))]) [0] (by decide) rfl
      have hK9 := hK.sub (tys' := []) [] rfl
      refine vx_ret ?_
      exact W.vret hx hb hr (fun t ht hW => ⟨⟨(), rfl, (by omega), ⟨by rw [ht]; exact hP9, va_K.moved hW.alike hK9, hD9⟩⟩, hS.F ht⟩) hS.2.2 dX5_needLast_25
    · have t_6 := b_nlt (k := 40) rfl c_4
      obtain ⟨sa, hsa⟩ := hamb.strs (RX5, 313, "no such last pick of a plan") (by decide +kernel)
      exact vx_throwSW (names := ["java/lang/RuntimeException", "java/lang/Exception"]) hx hb hlt hown (by decide +kernel) (by decide +kernel) (hts (.classLink RX5 67 "java/lang/IllegalArgumentException") (by decide +kernel)) (hts (.initialized "java/lang/IllegalArgumentException") (by decide +kernel)) hsa (vx_hat (B := ambW) (fun w hw => hts w (List.mem_cons_of_mem _ (List.mem_append_right _ hw))) (by decide +kernel) (fun w hw => hamb.use hw)) (by decide +kernel) hamb.us hamb.ss hS (by rw [hml]; exact hl.1) dX5_needLast_14 dX5_needLast_17 dX5_needLast_18 dX5_needLast_21 dX5_needLast_24 (fun x hxx => (htab x hxx).elim) (Nat.le_of_ble_eq_true rfl) (Nat.le_of_ble_eq_true rfl) (Nat.le_of_ble_eq_true rfl) (Nat.le_of_ble_eq_true rfl) hlocks (fun t ha h1 h2 => ⟨(), trivial, (⟨rfl, by omega⟩), xc_F hS h1 h2⟩) hS.2.2 (Nat.le_of_ble_eq_true rfl) (Nat.le_of_ble_eq_true rfl)

set_option maxHeartbeats 4000000 in
set_option maxRecDepth 100000 in
theorem c_X5_setPack (l : Launch) (hlt : l.stackTraces = false) (em : Nat → Nat) (dC : Nat → ClassId) (dI : Nat → Nat → Nat) (h0 : Nat) (p0 : Int32) (p1 : Int32) (g0 : Value) (g2 : Value) (g3 : Value) (g4 : Value) (g5 : Value) (g6 : Value) (g7 : Value) (g8 : Value) (g9 : Value) (g10 : Value) (g11 : Value) (g12 : Value) (sz : Nat) : vx_Met l yX5_setPack wsX5_setPack ({ frames := 7, cells := 1, slots := 6, locals := 103 }) (va_Pc [.ref h0, .int p0, .int p1] (Pw em dC dI sz [(h0, .inr (11, [g0, .int 0, g2, g3, g4, g5, g6, g7, g8, g9, g10, g11, g12]))] [])) (va_Qi (fun (r : Int32) (_ : Unit) => False) (fun _ t => True) (va_A [(h0, .inr (11, [g0, .int 0, g2, g3, g4, g5, g6, g7, g8, g9, g10, g11, g12]))] sz)) (vx_X (fun _ : Unit => True) (fun E _ _ => (E = "java/lang/IndexOutOfBoundsException" ∧ True)) (va_A [(h0, .inr (11, [g0, .int 0, g2, g3, g4, g5, g6, g7, g8, g9, g10, g11, g12]))] sz)) 1 6 (va_A [(h0, .inr (11, [g0, .int 0, g2, g3, g4, g5, g6, g7, g8, g9, g10, g11, g12]))] sz) := by
  refine vx_ofW (cc := cX5_setPack) (maxL := 4) (ret := (some .int)) (by decide) rfl ?_
  intro p e s m args below meth c s₁ B hml htab hv
  obtain ⟨rfl, hsz, hP, hK, hD0, hamb⟩ := hv
  have hx := B.exec
  have hb := B.bytes
  have hr := B.returns
  have hts := atoms_spec (ws := wsX5_setPack) B.pre
  have hown : s.vm.findClass RX5 = some m.cls := findClass_of_methodNamed B.named
  have hlocks := B.notSynchronized
  subst hsz
  have hD := hD0.self (sz := s.heap.size)
  generalize hAe : va_A [(h0, .inr (11, [g0, .int 0, g2, g3, g4, g5, g6, g7, g8, g9, g10, g11, g12]))] s.heap.size = A at hD hamb ⊢
  have hA : ∀ q : Nat, s.heap.size ≤ q → A q := fun q h => by rw [← hAe]; exact Or.inr h
  have hS : va_S A s.heap s.heap [] := va_S.rf
  have hP : va_P (dC, dI) vwCl [(h0, .inr (11, [g0, .int 0, g2, g3, g4, g5, g6, g7, g8, g9, g10, g11, g12]))] s.heap := hP
  have hl := lv_entry ([.ref h0, .int p0, .int p1]) (n := 4) (Nat.le_of_ble_eq_true rfl)
  rw [lg_entry_eq]
  generalize (lg_sl ([.ref h0, .int p0, .int p1]) ++ List.replicate (4 - (lg_sl ([.ref h0, .int p0, .int p1])).length) Slot.unset).toArray = ls at hl ⊢
  have hl : lv_has ls 4 [(0, .ref h0), (1, .int p0), (2, .int p1)] := hl
  refine lv_aload_n hx hb dX5_setPack_0 rfl (lv_at hl 0 rfl) ?_
  refine lv_iload_n hx hb dX5_setPack_1 rfl (lv_at hl 1 rfl) ?_
  have hPc := hP.sub (ws' := [(h0, .inr (11, [g0, .int 0, g2, g3, g4, g5, g6, g7, g8, g9, g10, g11, g12]))]) [0] rfl
  have hDc := hD.sub (ws' := [(h0, .inr (11, [g0, .int 0, g2, g3, g4, g5, g6, g7, g8, g9, g10, g11, g12]))]) [0] (by decide) rfl
  have hKc := hK.sub (tys' := []) [] rfl
  have hFc := va_free (wc := [(h0, .inr (11, [g0, .int 0, g2, g3, g4, g5, g6, g7, g8, g9, g10, g11, g12]))]) hD hS hA [0] rfl
  refine vx_callv (vx_runV (As := [.int p0]) (rest := []) ⟨hx, hb, hml, hown, hts⟩ (c_X5_needCard l hlt em dC dI h0 p0 g0 g2 g3 g4 g5 g6 g7 g8 g9 g10 g11 g12 s.heap.size) (cwV 1 hts gX5_setPack_X5_needCard rfl rfl rfl (by decide +kernel) ⟨Nat.le_of_ble_eq_true rfl, Nat.le_of_ble_eq_true rfl⟩) ⟨Pw.blind _ _ _ _ _ _ _, va_recv hKc hPc (ci := 11) (q0 := 0) rfl rfl, fun U hU hW => ⟨rfl, Pw.go hPc hKc hDc hamb hS hFc hU hW⟩⟩ rfl rfl hl.1 rfl (lv_room (Nat.le_of_ble_eq_true rfl)) dX5_setPack_2 ⟨Nat.le_of_ble_eq_true rfl, Nat.le_of_ble_eq_true rfl⟩) hS (fun q _ h => hFc q h) hFc (fun q _ h => hFc q h) (fun E ce q9 ux tx H1 locs1 htx hvm hpx hBX hz1 hk1 hS hce hcv hcl => ?_) (fun u t H1 locs1 ht hvm hw hB hz1 hk1 hS => ?_)
  · obtain ⟨rfl, t_2⟩ := hBX
    exact vx_out (fun x hxx => (htab x hxx).elim) hlocks hce hcv hcl (fun t ht2 ha => ⟨(), trivial, (⟨rfl, trivial⟩), hS.F ht2⟩) hS.2.2 (Nat.le_of_ble_eq_true rfl) (Nat.le_of_ble_eq_true rfl)
  · exact hw.elim

set_option maxHeartbeats 4000000 in
set_option maxRecDepth 100000 in
theorem c_X5_at (l : Launch) (hlt : l.stackTraces = false) (em : Nat → Nat) (dC : Nat → ClassId) (dI : Nat → Nat → Nat) (h0 : Nat) (p0 : Int32) (g0 : Value) (g2 : Value) (g3 : Value) (g4 : Value) (g5 : Value) (g6 : Value) (g7 : Value) (g8 : Value) (g9 : Value) (g10 : Value) (g11 : Value) (g12 : Value) (sz : Nat) : vx_Met l yX5_at wsX5_at ({ frames := 7, cells := 1, slots := 6, locals := 103 }) (va_Pc [.ref h0, .int p0] (Pw em dC dI sz [(h0, .inr (11, [g0, .int 0, g2, g3, g4, g5, g6, g7, g8, g9, g10, g11, g12]))] [])) (va_Qi (fun (r : Int32) (_ : Unit) => False) (fun _ t => True) (va_A [(h0, .inr (11, [g0, .int 0, g2, g3, g4, g5, g6, g7, g8, g9, g10, g11, g12]))] sz)) (vx_X (fun _ : Unit => True) (fun E _ _ => (E = "java/lang/IndexOutOfBoundsException" ∧ True)) (va_A [(h0, .inr (11, [g0, .int 0, g2, g3, g4, g5, g6, g7, g8, g9, g10, g11, g12]))] sz)) 1 6 (va_A [(h0, .inr (11, [g0, .int 0, g2, g3, g4, g5, g6, g7, g8, g9, g10, g11, g12]))] sz) := by
  refine vx_ofW (cc := cX5_at) (maxL := 2) (ret := (some .int)) (by decide) rfl ?_
  intro p e s m args below meth c s₁ B hml htab hv
  obtain ⟨rfl, hsz, hP, hK, hD0, hamb⟩ := hv
  have hx := B.exec
  have hb := B.bytes
  have hr := B.returns
  have hts := atoms_spec (ws := wsX5_at) B.pre
  have hown : s.vm.findClass RX5 = some m.cls := findClass_of_methodNamed B.named
  have hlocks := B.notSynchronized
  subst hsz
  have hD := hD0.self (sz := s.heap.size)
  generalize hAe : va_A [(h0, .inr (11, [g0, .int 0, g2, g3, g4, g5, g6, g7, g8, g9, g10, g11, g12]))] s.heap.size = A at hD hamb ⊢
  have hA : ∀ q : Nat, s.heap.size ≤ q → A q := fun q h => by rw [← hAe]; exact Or.inr h
  have hS : va_S A s.heap s.heap [] := va_S.rf
  have hP : va_P (dC, dI) vwCl [(h0, .inr (11, [g0, .int 0, g2, g3, g4, g5, g6, g7, g8, g9, g10, g11, g12]))] s.heap := hP
  have hl := lv_entry ([.ref h0, .int p0]) (n := 2) (Nat.le_of_ble_eq_true rfl)
  rw [lg_entry_eq]
  generalize (lg_sl ([.ref h0, .int p0]) ++ List.replicate (2 - (lg_sl ([.ref h0, .int p0])).length) Slot.unset).toArray = ls at hl ⊢
  have hl : lv_has ls 2 [(0, .ref h0), (1, .int p0)] := hl
  refine lv_aload_n hx hb dX5_at_0 rfl (lv_at hl 0 rfl) ?_
  refine lv_iload_n hx hb dX5_at_1 rfl (lv_at hl 1 rfl) ?_
  have hPc := hP.sub (ws' := [(h0, .inr (11, [g0, .int 0, g2, g3, g4, g5, g6, g7, g8, g9, g10, g11, g12]))]) [0] rfl
  have hDc := hD.sub (ws' := [(h0, .inr (11, [g0, .int 0, g2, g3, g4, g5, g6, g7, g8, g9, g10, g11, g12]))]) [0] (by decide) rfl
  have hKc := hK.sub (tys' := []) [] rfl
  have hFc := va_free (wc := [(h0, .inr (11, [g0, .int 0, g2, g3, g4, g5, g6, g7, g8, g9, g10, g11, g12]))]) hD hS hA [0] rfl
  refine vx_callv (vx_runV (As := [.int p0]) (rest := []) ⟨hx, hb, hml, hown, hts⟩ (c_X5_needCard l hlt em dC dI h0 p0 g0 g2 g3 g4 g5 g6 g7 g8 g9 g10 g11 g12 s.heap.size) (cwV 1 hts gX5_at_X5_needCard rfl rfl rfl (by decide +kernel) ⟨Nat.le_of_ble_eq_true rfl, Nat.le_of_ble_eq_true rfl⟩) ⟨Pw.blind _ _ _ _ _ _ _, va_recv hKc hPc (ci := 11) (q0 := 0) rfl rfl, fun U hU hW => ⟨rfl, Pw.go hPc hKc hDc hamb hS hFc hU hW⟩⟩ rfl rfl hl.1 rfl (lv_room (Nat.le_of_ble_eq_true rfl)) dX5_at_2 ⟨Nat.le_of_ble_eq_true rfl, Nat.le_of_ble_eq_true rfl⟩) hS (fun q _ h => hFc q h) hFc (fun q _ h => hFc q h) (fun E ce q9 ux tx H1 locs1 htx hvm hpx hBX hz1 hk1 hS hce hcv hcl => ?_) (fun u t H1 locs1 ht hvm hw hB hz1 hk1 hS => ?_)
  · obtain ⟨rfl, t_2⟩ := hBX
    exact vx_out (fun x hxx => (htab x hxx).elim) hlocks hce hcv hcl (fun t ht2 ha => ⟨(), trivial, (⟨rfl, trivial⟩), hS.F ht2⟩) hS.2.2 (Nat.le_of_ble_eq_true rfl) (Nat.le_of_ble_eq_true rfl)
  · exact hw.elim

set_option maxHeartbeats 4000000 in
set_option maxRecDepth 100000 in
theorem c_X5_twist (l : Launch) (hlt : l.stackTraces = false) (em : Nat → Nat) (dC : Nat → ClassId) (dI : Nat → Nat → Nat) (h0 : Nat) (p0 : Int32) (g0 : Value) (g2 : Value) (g3 : Value) (g4 : Value) (g5 : Value) (g6 : Value) (g7 : Value) (g8 : Value) (g9 : Value) (g10 : Value) (g11 : Value) (g12 : Value) (sz : Nat) : vx_Met l yX5_twist wsX5_twist ({ frames := 7, cells := 1, slots := 6, locals := 103 }) (va_Pc [.ref h0, .int p0] (Pw em dC dI sz [(h0, .inr (11, [g0, .int 0, g2, g3, g4, g5, g6, g7, g8, g9, g10, g11, g12]))] [])) (va_Qi (fun (r : Int32) (_ : Unit) => False) (fun _ t => True) (va_A [(h0, .inr (11, [g0, .int 0, g2, g3, g4, g5, g6, g7, g8, g9, g10, g11, g12]))] sz)) (vx_X (fun _ : Unit => True) (fun E _ _ => (E = "java/lang/IndexOutOfBoundsException" ∧ True)) (va_A [(h0, .inr (11, [g0, .int 0, g2, g3, g4, g5, g6, g7, g8, g9, g10, g11, g12]))] sz)) 1 6 (va_A [(h0, .inr (11, [g0, .int 0, g2, g3, g4, g5, g6, g7, g8, g9, g10, g11, g12]))] sz) := by
  refine vx_ofW (cc := cX5_twist) (maxL := 2) (ret := (some .int)) (by decide) rfl ?_
  intro p e s m args below meth c s₁ B hml htab hv
  obtain ⟨rfl, hsz, hP, hK, hD0, hamb⟩ := hv
  have hx := B.exec
  have hb := B.bytes
  have hr := B.returns
  have hts := atoms_spec (ws := wsX5_twist) B.pre
  have hown : s.vm.findClass RX5 = some m.cls := findClass_of_methodNamed B.named
  have hlocks := B.notSynchronized
  subst hsz
  have hD := hD0.self (sz := s.heap.size)
  generalize hAe : va_A [(h0, .inr (11, [g0, .int 0, g2, g3, g4, g5, g6, g7, g8, g9, g10, g11, g12]))] s.heap.size = A at hD hamb ⊢
  have hA : ∀ q : Nat, s.heap.size ≤ q → A q := fun q h => by rw [← hAe]; exact Or.inr h
  have hS : va_S A s.heap s.heap [] := va_S.rf
  have hP : va_P (dC, dI) vwCl [(h0, .inr (11, [g0, .int 0, g2, g3, g4, g5, g6, g7, g8, g9, g10, g11, g12]))] s.heap := hP
  have hl := lv_entry ([.ref h0, .int p0]) (n := 2) (Nat.le_of_ble_eq_true rfl)
  rw [lg_entry_eq]
  generalize (lg_sl ([.ref h0, .int p0]) ++ List.replicate (2 - (lg_sl ([.ref h0, .int p0])).length) Slot.unset).toArray = ls at hl ⊢
  have hl : lv_has ls 2 [(0, .ref h0), (1, .int p0)] := hl
  refine lv_aload_n hx hb dX5_twist_0 rfl (lv_at hl 0 rfl) ?_
  refine lv_iload_n hx hb dX5_twist_1 rfl (lv_at hl 1 rfl) ?_
  have hPc := hP.sub (ws' := [(h0, .inr (11, [g0, .int 0, g2, g3, g4, g5, g6, g7, g8, g9, g10, g11, g12]))]) [0] rfl
  have hDc := hD.sub (ws' := [(h0, .inr (11, [g0, .int 0, g2, g3, g4, g5, g6, g7, g8, g9, g10, g11, g12]))]) [0] (by decide) rfl
  have hKc := hK.sub (tys' := []) [] rfl
  have hFc := va_free (wc := [(h0, .inr (11, [g0, .int 0, g2, g3, g4, g5, g6, g7, g8, g9, g10, g11, g12]))]) hD hS hA [0] rfl
  refine vx_callv (vx_runV (As := [.int p0]) (rest := []) ⟨hx, hb, hml, hown, hts⟩ (c_X5_needCard l hlt em dC dI h0 p0 g0 g2 g3 g4 g5 g6 g7 g8 g9 g10 g11 g12 s.heap.size) (cwV 1 hts gX5_twist_X5_needCard rfl rfl rfl (by decide +kernel) ⟨Nat.le_of_ble_eq_true rfl, Nat.le_of_ble_eq_true rfl⟩) ⟨Pw.blind _ _ _ _ _ _ _, va_recv hKc hPc (ci := 11) (q0 := 0) rfl rfl, fun U hU hW => ⟨rfl, Pw.go hPc hKc hDc hamb hS hFc hU hW⟩⟩ rfl rfl hl.1 rfl (lv_room (Nat.le_of_ble_eq_true rfl)) dX5_twist_2 ⟨Nat.le_of_ble_eq_true rfl, Nat.le_of_ble_eq_true rfl⟩) hS (fun q _ h => hFc q h) hFc (fun q _ h => hFc q h) (fun E ce q9 ux tx H1 locs1 htx hvm hpx hBX hz1 hk1 hS hce hcv hcl => ?_) (fun u t H1 locs1 ht hvm hw hB hz1 hk1 hS => ?_)
  · obtain ⟨rfl, t_2⟩ := hBX
    exact vx_out (fun x hxx => (htab x hxx).elim) hlocks hce hcv hcl (fun t ht2 ha => ⟨(), trivial, (⟨rfl, trivial⟩), hS.F ht2⟩) hS.2.2 (Nat.le_of_ble_eq_true rfl) (Nat.le_of_ble_eq_true rfl)
  · exact hw.elim

set_option maxHeartbeats 4000000 in
set_option maxRecDepth 100000 in
theorem c_X5_slip (l : Launch) (hlt : l.stackTraces = false) (em : Nat → Nat) (dC : Nat → ClassId) (dI : Nat → Nat → Nat) (h0 : Nat) (p0 : Int32) (p1 : Int32) (g0 : Value) (g2 : Value) (g3 : Value) (g4 : Value) (g5 : Value) (g6 : Value) (g7 : Value) (g8 : Value) (g9 : Value) (g10 : Value) (g11 : Value) (g12 : Value) (sz : Nat) : vx_Met l yX5_slip wsX5_slip ({ frames := 7, cells := 1, slots := 6, locals := 103 }) (va_Pc [.ref h0, .int p0, .int p1] (Pw em dC dI sz [(h0, .inr (11, [g0, .int 0, g2, g3, g4, g5, g6, g7, g8, g9, g10, g11, g12]))] [])) (va_Qi (fun (r : Int32) (_ : Unit) => False) (fun _ t => True) (va_A [(h0, .inr (11, [g0, .int 0, g2, g3, g4, g5, g6, g7, g8, g9, g10, g11, g12]))] sz)) (vx_X (fun _ : Unit => True) (fun E _ _ => (E = "java/lang/IndexOutOfBoundsException" ∧ True)) (va_A [(h0, .inr (11, [g0, .int 0, g2, g3, g4, g5, g6, g7, g8, g9, g10, g11, g12]))] sz)) 1 6 (va_A [(h0, .inr (11, [g0, .int 0, g2, g3, g4, g5, g6, g7, g8, g9, g10, g11, g12]))] sz) := by
  refine vx_ofW (cc := cX5_slip) (maxL := 3) (ret := (some .int)) (by decide) rfl ?_
  intro p e s m args below meth c s₁ B hml htab hv
  obtain ⟨rfl, hsz, hP, hK, hD0, hamb⟩ := hv
  have hx := B.exec
  have hb := B.bytes
  have hr := B.returns
  have hts := atoms_spec (ws := wsX5_slip) B.pre
  have hown : s.vm.findClass RX5 = some m.cls := findClass_of_methodNamed B.named
  have hlocks := B.notSynchronized
  subst hsz
  have hD := hD0.self (sz := s.heap.size)
  generalize hAe : va_A [(h0, .inr (11, [g0, .int 0, g2, g3, g4, g5, g6, g7, g8, g9, g10, g11, g12]))] s.heap.size = A at hD hamb ⊢
  have hA : ∀ q : Nat, s.heap.size ≤ q → A q := fun q h => by rw [← hAe]; exact Or.inr h
  have hS : va_S A s.heap s.heap [] := va_S.rf
  have hP : va_P (dC, dI) vwCl [(h0, .inr (11, [g0, .int 0, g2, g3, g4, g5, g6, g7, g8, g9, g10, g11, g12]))] s.heap := hP
  have hl := lv_entry ([.ref h0, .int p0, .int p1]) (n := 3) (Nat.le_of_ble_eq_true rfl)
  rw [lg_entry_eq]
  generalize (lg_sl ([.ref h0, .int p0, .int p1]) ++ List.replicate (3 - (lg_sl ([.ref h0, .int p0, .int p1])).length) Slot.unset).toArray = ls at hl ⊢
  have hl : lv_has ls 3 [(0, .ref h0), (1, .int p0), (2, .int p1)] := hl
  refine lv_aload_n hx hb dX5_slip_0 rfl (lv_at hl 0 rfl) ?_
  refine lv_iload_n hx hb dX5_slip_1 rfl (lv_at hl 1 rfl) ?_
  have hPc := hP.sub (ws' := [(h0, .inr (11, [g0, .int 0, g2, g3, g4, g5, g6, g7, g8, g9, g10, g11, g12]))]) [0] rfl
  have hDc := hD.sub (ws' := [(h0, .inr (11, [g0, .int 0, g2, g3, g4, g5, g6, g7, g8, g9, g10, g11, g12]))]) [0] (by decide) rfl
  have hKc := hK.sub (tys' := []) [] rfl
  have hFc := va_free (wc := [(h0, .inr (11, [g0, .int 0, g2, g3, g4, g5, g6, g7, g8, g9, g10, g11, g12]))]) hD hS hA [0] rfl
  refine vx_callv (vx_runV (As := [.int p0]) (rest := []) ⟨hx, hb, hml, hown, hts⟩ (c_X5_needCard l hlt em dC dI h0 p0 g0 g2 g3 g4 g5 g6 g7 g8 g9 g10 g11 g12 s.heap.size) (cwV 1 hts gX5_slip_X5_needCard rfl rfl rfl (by decide +kernel) ⟨Nat.le_of_ble_eq_true rfl, Nat.le_of_ble_eq_true rfl⟩) ⟨Pw.blind _ _ _ _ _ _ _, va_recv hKc hPc (ci := 11) (q0 := 0) rfl rfl, fun U hU hW => ⟨rfl, Pw.go hPc hKc hDc hamb hS hFc hU hW⟩⟩ rfl rfl hl.1 rfl (lv_room (Nat.le_of_ble_eq_true rfl)) dX5_slip_2 ⟨Nat.le_of_ble_eq_true rfl, Nat.le_of_ble_eq_true rfl⟩) hS (fun q _ h => hFc q h) hFc (fun q _ h => hFc q h) (fun E ce q9 ux tx H1 locs1 htx hvm hpx hBX hz1 hk1 hS hce hcv hcl => ?_) (fun u t H1 locs1 ht hvm hw hB hz1 hk1 hS => ?_)
  · obtain ⟨rfl, t_2⟩ := hBX
    exact vx_out (fun x hxx => (htab x hxx).elim) hlocks hce hcv hcl (fun t ht2 ha => ⟨(), trivial, (⟨rfl, trivial⟩), hS.F ht2⟩) hS.2.2 (Nat.le_of_ble_eq_true rfl) (Nat.le_of_ble_eq_true rfl)
  · exact hw.elim

set_option maxHeartbeats 4000000 in
set_option maxRecDepth 100000 in
theorem c_X5_colour (l : Launch) (hlt : l.stackTraces = false) (em : Nat → Nat) (dC : Nat → ClassId) (dI : Nat → Nat → Nat) (h0 : Nat) (p0 : Int32) (p1 : Int32) (p2 : Int32) (g0 : Value) (g2 : Value) (g3 : Value) (g4 : Value) (g5 : Value) (g6 : Value) (g7 : Value) (g8 : Value) (g9 : Value) (g10 : Value) (g11 : Value) (g12 : Value) (sz : Nat) : vx_Met l yX5_colour wsX5_colour ({ frames := 7, cells := 1, slots := 6, locals := 103 }) (va_Pc [.ref h0, .int p0, .int p1, .int p2] (Pw em dC dI sz [(h0, .inr (11, [g0, .int 0, g2, g3, g4, g5, g6, g7, g8, g9, g10, g11, g12]))] [])) (va_Qi (fun (r : Int32) (_ : Unit) => False) (fun _ t => True) (va_A [(h0, .inr (11, [g0, .int 0, g2, g3, g4, g5, g6, g7, g8, g9, g10, g11, g12]))] sz)) (vx_X (fun _ : Unit => True) (fun E _ _ => (E = "java/lang/IndexOutOfBoundsException" ∧ True)) (va_A [(h0, .inr (11, [g0, .int 0, g2, g3, g4, g5, g6, g7, g8, g9, g10, g11, g12]))] sz)) 1 6 (va_A [(h0, .inr (11, [g0, .int 0, g2, g3, g4, g5, g6, g7, g8, g9, g10, g11, g12]))] sz) := by
  refine vx_ofW (cc := cX5_colour) (maxL := 4) (ret := (some .int)) (by decide) rfl ?_
  intro p e s m args below meth c s₁ B hml htab hv
  obtain ⟨rfl, hsz, hP, hK, hD0, hamb⟩ := hv
  have hx := B.exec
  have hb := B.bytes
  have hr := B.returns
  have hts := atoms_spec (ws := wsX5_colour) B.pre
  have hown : s.vm.findClass RX5 = some m.cls := findClass_of_methodNamed B.named
  have hlocks := B.notSynchronized
  subst hsz
  have hD := hD0.self (sz := s.heap.size)
  generalize hAe : va_A [(h0, .inr (11, [g0, .int 0, g2, g3, g4, g5, g6, g7, g8, g9, g10, g11, g12]))] s.heap.size = A at hD hamb ⊢
  have hA : ∀ q : Nat, s.heap.size ≤ q → A q := fun q h => by rw [← hAe]; exact Or.inr h
  have hS : va_S A s.heap s.heap [] := va_S.rf
  have hP : va_P (dC, dI) vwCl [(h0, .inr (11, [g0, .int 0, g2, g3, g4, g5, g6, g7, g8, g9, g10, g11, g12]))] s.heap := hP
  have hl := lv_entry ([.ref h0, .int p0, .int p1, .int p2]) (n := 4) (Nat.le_of_ble_eq_true rfl)
  rw [lg_entry_eq]
  generalize (lg_sl ([.ref h0, .int p0, .int p1, .int p2]) ++ List.replicate (4 - (lg_sl ([.ref h0, .int p0, .int p1, .int p2])).length) Slot.unset).toArray = ls at hl ⊢
  have hl : lv_has ls 4 [(0, .ref h0), (1, .int p0), (2, .int p1), (3, .int p2)] := hl
  refine lv_aload_n hx hb dX5_colour_0 rfl (lv_at hl 0 rfl) ?_
  refine lv_iload_n hx hb dX5_colour_1 rfl (lv_at hl 1 rfl) ?_
  have hPc := hP.sub (ws' := [(h0, .inr (11, [g0, .int 0, g2, g3, g4, g5, g6, g7, g8, g9, g10, g11, g12]))]) [0] rfl
  have hDc := hD.sub (ws' := [(h0, .inr (11, [g0, .int 0, g2, g3, g4, g5, g6, g7, g8, g9, g10, g11, g12]))]) [0] (by decide) rfl
  have hKc := hK.sub (tys' := []) [] rfl
  have hFc := va_free (wc := [(h0, .inr (11, [g0, .int 0, g2, g3, g4, g5, g6, g7, g8, g9, g10, g11, g12]))]) hD hS hA [0] rfl
  refine vx_callv (vx_runV (As := [.int p0]) (rest := []) ⟨hx, hb, hml, hown, hts⟩ (c_X5_needCard l hlt em dC dI h0 p0 g0 g2 g3 g4 g5 g6 g7 g8 g9 g10 g11 g12 s.heap.size) (cwV 1 hts gX5_colour_X5_needCard rfl rfl rfl (by decide +kernel) ⟨Nat.le_of_ble_eq_true rfl, Nat.le_of_ble_eq_true rfl⟩) ⟨Pw.blind _ _ _ _ _ _ _, va_recv hKc hPc (ci := 11) (q0 := 0) rfl rfl, fun U hU hW => ⟨rfl, Pw.go hPc hKc hDc hamb hS hFc hU hW⟩⟩ rfl rfl hl.1 rfl (lv_room (Nat.le_of_ble_eq_true rfl)) dX5_colour_2 ⟨Nat.le_of_ble_eq_true rfl, Nat.le_of_ble_eq_true rfl⟩) hS (fun q _ h => hFc q h) hFc (fun q _ h => hFc q h) (fun E ce q9 ux tx H1 locs1 htx hvm hpx hBX hz1 hk1 hS hce hcv hcl => ?_) (fun u t H1 locs1 ht hvm hw hB hz1 hk1 hS => ?_)
  · obtain ⟨rfl, t_2⟩ := hBX
    exact vx_out (fun x hxx => (htab x hxx).elim) hlocks hce hcv hcl (fun t ht2 ha => ⟨(), trivial, (⟨rfl, trivial⟩), hS.F ht2⟩) hS.2.2 (Nat.le_of_ble_eq_true rfl) (Nat.le_of_ble_eq_true rfl)
  · exact hw.elim

set_option maxHeartbeats 4000000 in
set_option maxRecDepth 100000 in
theorem c_X5_isIdle (l : Launch) (hlt : l.stackTraces = false) (em : Nat → Nat) (dC : Nat → ClassId) (dI : Nat → Nat → Nat) (h0 : Nat) (p0 : Int32) (p1 : Int32) (g0 : Value) (g2 : Value) (g3 : Value) (g4 : Value) (g5 : Value) (g6 : Value) (g7 : Value) (g8 : Value) (g9 : Value) (g10 : Value) (g11 : Value) (g12 : Value) (sz : Nat) : vx_Met l yX5_isIdle wsX5_isIdle ({ frames := 7, cells := 1, slots := 6, locals := 103 }) (va_Pc [.ref h0, .int p0, .int p1] (Pw em dC dI sz [(h0, .inr (11, [g0, .int 0, g2, g3, g4, g5, g6, g7, g8, g9, g10, g11, g12]))] [])) (va_Qi (fun (r : Int32) (_ : Unit) => False) (fun _ t => True) (va_A [(h0, .inr (11, [g0, .int 0, g2, g3, g4, g5, g6, g7, g8, g9, g10, g11, g12]))] sz)) (vx_X (fun _ : Unit => True) (fun E _ _ => (E = "java/lang/IndexOutOfBoundsException" ∧ True)) (va_A [(h0, .inr (11, [g0, .int 0, g2, g3, g4, g5, g6, g7, g8, g9, g10, g11, g12]))] sz)) 1 6 (va_A [(h0, .inr (11, [g0, .int 0, g2, g3, g4, g5, g6, g7, g8, g9, g10, g11, g12]))] sz) := by
  refine vx_ofW (cc := cX5_isIdle) (maxL := 3) (ret := (some .boolean)) (by decide) rfl ?_
  intro p e s m args below meth c s₁ B hml htab hv
  obtain ⟨rfl, hsz, hP, hK, hD0, hamb⟩ := hv
  have hx := B.exec
  have hb := B.bytes
  have hr := B.returns
  have hts := atoms_spec (ws := wsX5_isIdle) B.pre
  have hown : s.vm.findClass RX5 = some m.cls := findClass_of_methodNamed B.named
  have hlocks := B.notSynchronized
  subst hsz
  have hD := hD0.self (sz := s.heap.size)
  generalize hAe : va_A [(h0, .inr (11, [g0, .int 0, g2, g3, g4, g5, g6, g7, g8, g9, g10, g11, g12]))] s.heap.size = A at hD hamb ⊢
  have hA : ∀ q : Nat, s.heap.size ≤ q → A q := fun q h => by rw [← hAe]; exact Or.inr h
  have hS : va_S A s.heap s.heap [] := va_S.rf
  have hP : va_P (dC, dI) vwCl [(h0, .inr (11, [g0, .int 0, g2, g3, g4, g5, g6, g7, g8, g9, g10, g11, g12]))] s.heap := hP
  have hl := lv_entry ([.ref h0, .int p0, .int p1]) (n := 3) (Nat.le_of_ble_eq_true rfl)
  rw [lg_entry_eq]
  generalize (lg_sl ([.ref h0, .int p0, .int p1]) ++ List.replicate (3 - (lg_sl ([.ref h0, .int p0, .int p1])).length) Slot.unset).toArray = ls at hl ⊢
  have hl : lv_has ls 3 [(0, .ref h0), (1, .int p0), (2, .int p1)] := hl
  refine lv_aload_n hx hb dX5_isIdle_0 rfl (lv_at hl 0 rfl) ?_
  refine lv_iload_n hx hb dX5_isIdle_1 rfl (lv_at hl 1 rfl) ?_
  have hPc := hP.sub (ws' := [(h0, .inr (11, [g0, .int 0, g2, g3, g4, g5, g6, g7, g8, g9, g10, g11, g12]))]) [0] rfl
  have hDc := hD.sub (ws' := [(h0, .inr (11, [g0, .int 0, g2, g3, g4, g5, g6, g7, g8, g9, g10, g11, g12]))]) [0] (by decide) rfl
  have hKc := hK.sub (tys' := []) [] rfl
  have hFc := va_free (wc := [(h0, .inr (11, [g0, .int 0, g2, g3, g4, g5, g6, g7, g8, g9, g10, g11, g12]))]) hD hS hA [0] rfl
  refine vx_callv (vx_runV (As := [.int p0]) (rest := []) ⟨hx, hb, hml, hown, hts⟩ (c_X5_needCard l hlt em dC dI h0 p0 g0 g2 g3 g4 g5 g6 g7 g8 g9 g10 g11 g12 s.heap.size) (cwV 1 hts gX5_isIdle_X5_needCard rfl rfl rfl (by decide +kernel) ⟨Nat.le_of_ble_eq_true rfl, Nat.le_of_ble_eq_true rfl⟩) ⟨Pw.blind _ _ _ _ _ _ _, va_recv hKc hPc (ci := 11) (q0 := 0) rfl rfl, fun U hU hW => ⟨rfl, Pw.go hPc hKc hDc hamb hS hFc hU hW⟩⟩ rfl rfl hl.1 rfl (lv_room (Nat.le_of_ble_eq_true rfl)) dX5_isIdle_2 ⟨Nat.le_of_ble_eq_true rfl, Nat.le_of_ble_eq_true rfl⟩) hS (fun q _ h => hFc q h) hFc (fun q _ h => hFc q h) (fun E ce q9 ux tx H1 locs1 htx hvm hpx hBX hz1 hk1 hS hce hcv hcl => ?_) (fun u t H1 locs1 ht hvm hw hB hz1 hk1 hS => ?_)
  · obtain ⟨rfl, t_2⟩ := hBX
    exact vx_out (fun x hxx => (htab x hxx).elim) hlocks hce hcv hcl (fun t ht2 ha => ⟨(), trivial, (⟨rfl, trivial⟩), hS.F ht2⟩) hS.2.2 (Nat.le_of_ble_eq_true rfl) (Nat.le_of_ble_eq_true rfl)
  · exact hw.elim

set_option maxHeartbeats 4000000 in
set_option maxRecDepth 100000 in
theorem c_X5_longestFloat (l : Launch) (hlt : l.stackTraces = false) (em : Nat → Nat) (dC : Nat → ClassId) (dI : Nat → Nat → Nat) (h0 : Nat) (p0 : Int32) (g0 : Value) (g2 : Value) (g3 : Value) (g4 : Value) (g5 : Value) (g6 : Value) (g7 : Value) (g8 : Value) (g9 : Value) (g10 : Value) (g11 : Value) (g12 : Value) (sz : Nat) : vx_Met l yX5_longestFloat wsX5_longestFloat ({ frames := 7, cells := 1, slots := 6, locals := 103 }) (va_Pc [.ref h0, .int p0] (Pw em dC dI sz [(h0, .inr (11, [g0, .int 0, g2, g3, g4, g5, g6, g7, g8, g9, g10, g11, g12]))] [])) (va_Qi (fun (r : Int32) (_ : Unit) => False) (fun _ t => True) (va_A [(h0, .inr (11, [g0, .int 0, g2, g3, g4, g5, g6, g7, g8, g9, g10, g11, g12]))] sz)) (vx_X (fun _ : Unit => True) (fun E _ _ => (E = "java/lang/IndexOutOfBoundsException" ∧ True)) (va_A [(h0, .inr (11, [g0, .int 0, g2, g3, g4, g5, g6, g7, g8, g9, g10, g11, g12]))] sz)) 1 6 (va_A [(h0, .inr (11, [g0, .int 0, g2, g3, g4, g5, g6, g7, g8, g9, g10, g11, g12]))] sz) := by
  refine vx_ofW (cc := cX5_longestFloat) (maxL := 5) (ret := (some .int)) (by decide) rfl ?_
  intro p e s m args below meth c s₁ B hml htab hv
  obtain ⟨rfl, hsz, hP, hK, hD0, hamb⟩ := hv
  have hx := B.exec
  have hb := B.bytes
  have hr := B.returns
  have hts := atoms_spec (ws := wsX5_longestFloat) B.pre
  have hown : s.vm.findClass RX5 = some m.cls := findClass_of_methodNamed B.named
  have hlocks := B.notSynchronized
  subst hsz
  have hD := hD0.self (sz := s.heap.size)
  generalize hAe : va_A [(h0, .inr (11, [g0, .int 0, g2, g3, g4, g5, g6, g7, g8, g9, g10, g11, g12]))] s.heap.size = A at hD hamb ⊢
  have hA : ∀ q : Nat, s.heap.size ≤ q → A q := fun q h => by rw [← hAe]; exact Or.inr h
  have hS : va_S A s.heap s.heap [] := va_S.rf
  have hP : va_P (dC, dI) vwCl [(h0, .inr (11, [g0, .int 0, g2, g3, g4, g5, g6, g7, g8, g9, g10, g11, g12]))] s.heap := hP
  have hl := lv_entry ([.ref h0, .int p0]) (n := 5) (Nat.le_of_ble_eq_true rfl)
  rw [lg_entry_eq]
  generalize (lg_sl ([.ref h0, .int p0]) ++ List.replicate (5 - (lg_sl ([.ref h0, .int p0])).length) Slot.unset).toArray = ls at hl ⊢
  have hl : lv_has ls 5 [(0, .ref h0), (1, .int p0)] := hl
  refine lv_aload_n hx hb dX5_longestFloat_0 rfl (lv_at hl 0 rfl) ?_
  refine lv_iload_n hx hb dX5_longestFloat_1 rfl (lv_at hl 1 rfl) ?_
  have hPc := hP.sub (ws' := [(h0, .inr (11, [g0, .int 0, g2, g3, g4, g5, g6, g7, g8, g9, g10, g11, g12]))]) [0] rfl
  have hDc := hD.sub (ws' := [(h0, .inr (11, [g0, .int 0, g2, g3, g4, g5, g6, g7, g8, g9, g10, g11, g12]))]) [0] (by decide) rfl
  have hKc := hK.sub (tys' := []) [] rfl
  have hFc := va_free (wc := [(h0, .inr (11, [g0, .int 0, g2, g3, g4, g5, g6, g7, g8, g9, g10, g11, g12]))]) hD hS hA [0] rfl
  refine vx_callv (vx_runV (As := [.int p0]) (rest := []) ⟨hx, hb, hml, hown, hts⟩ (c_X5_needCard l hlt em dC dI h0 p0 g0 g2 g3 g4 g5 g6 g7 g8 g9 g10 g11 g12 s.heap.size) (cwV 1 hts gX5_longestFloat_X5_needCard rfl rfl rfl (by decide +kernel) ⟨Nat.le_of_ble_eq_true rfl, Nat.le_of_ble_eq_true rfl⟩) ⟨Pw.blind _ _ _ _ _ _ _, va_recv hKc hPc (ci := 11) (q0 := 0) rfl rfl, fun U hU hW => ⟨rfl, Pw.go hPc hKc hDc hamb hS hFc hU hW⟩⟩ rfl rfl hl.1 rfl (lv_room (Nat.le_of_ble_eq_true rfl)) dX5_longestFloat_2 ⟨Nat.le_of_ble_eq_true rfl, Nat.le_of_ble_eq_true rfl⟩) hS (fun q _ h => hFc q h) hFc (fun q _ h => hFc q h) (fun E ce q9 ux tx H1 locs1 htx hvm hpx hBX hz1 hk1 hS hce hcv hcl => ?_) (fun u t H1 locs1 ht hvm hw hB hz1 hk1 hS => ?_)
  · obtain ⟨rfl, t_2⟩ := hBX
    exact vx_out (fun x hxx => (htab x hxx).elim) hlocks hce hcv hcl (fun t ht2 ha => ⟨(), trivial, (⟨rfl, trivial⟩), hS.F ht2⟩) hS.2.2 (Nat.le_of_ble_eq_true rfl) (Nat.le_of_ble_eq_true rfl)
  · exact hw.elim

set_option maxHeartbeats 4000000 in
set_option maxRecDepth 100000 in
theorem c_X5_wanted (l : Launch) (hlt : l.stackTraces = false) (em : Nat → Nat) (dC : Nat → ClassId) (dI : Nat → Nat → Nat) (h0 : Nat) (p0 : Int32) (p1 : Int32) (p2 : Int32) (g0 : Value) (g2 : Value) (g3 : Value) (g4 : Value) (g5 : Value) (g6 : Value) (g7 : Value) (g8 : Value) (g9 : Value) (g10 : Value) (g11 : Value) (g12 : Value) (sz : Nat) : vx_Met l yX5_wanted wsX5_wanted ({ frames := 7, cells := 1, slots := 6, locals := 103 }) (va_Pc [.ref h0, .int p0, .int p1, .int p2] (Pw em dC dI sz [(h0, .inr (11, [g0, .int 0, g2, g3, g4, g5, g6, g7, g8, g9, g10, g11, g12]))] [])) (va_Qi (fun (r : Int32) (_ : Unit) => False) (fun _ t => True) (va_A [(h0, .inr (11, [g0, .int 0, g2, g3, g4, g5, g6, g7, g8, g9, g10, g11, g12]))] sz)) (vx_X (fun _ : Unit => True) (fun E _ _ => (E = "java/lang/IndexOutOfBoundsException" ∧ True)) (va_A [(h0, .inr (11, [g0, .int 0, g2, g3, g4, g5, g6, g7, g8, g9, g10, g11, g12]))] sz)) 1 6 (va_A [(h0, .inr (11, [g0, .int 0, g2, g3, g4, g5, g6, g7, g8, g9, g10, g11, g12]))] sz) := by
  refine vx_ofW (cc := cX5_wanted) (maxL := 4) (ret := (some .int)) (by decide) rfl ?_
  intro p e s m args below meth c s₁ B hml htab hv
  obtain ⟨rfl, hsz, hP, hK, hD0, hamb⟩ := hv
  have hx := B.exec
  have hb := B.bytes
  have hr := B.returns
  have hts := atoms_spec (ws := wsX5_wanted) B.pre
  have hown : s.vm.findClass RX5 = some m.cls := findClass_of_methodNamed B.named
  have hlocks := B.notSynchronized
  subst hsz
  have hD := hD0.self (sz := s.heap.size)
  generalize hAe : va_A [(h0, .inr (11, [g0, .int 0, g2, g3, g4, g5, g6, g7, g8, g9, g10, g11, g12]))] s.heap.size = A at hD hamb ⊢
  have hA : ∀ q : Nat, s.heap.size ≤ q → A q := fun q h => by rw [← hAe]; exact Or.inr h
  have hS : va_S A s.heap s.heap [] := va_S.rf
  have hP : va_P (dC, dI) vwCl [(h0, .inr (11, [g0, .int 0, g2, g3, g4, g5, g6, g7, g8, g9, g10, g11, g12]))] s.heap := hP
  have hl := lv_entry ([.ref h0, .int p0, .int p1, .int p2]) (n := 4) (Nat.le_of_ble_eq_true rfl)
  rw [lg_entry_eq]
  generalize (lg_sl ([.ref h0, .int p0, .int p1, .int p2]) ++ List.replicate (4 - (lg_sl ([.ref h0, .int p0, .int p1, .int p2])).length) Slot.unset).toArray = ls at hl ⊢
  have hl : lv_has ls 4 [(0, .ref h0), (1, .int p0), (2, .int p1), (3, .int p2)] := hl
  refine lv_aload_n hx hb dX5_wanted_0 rfl (lv_at hl 0 rfl) ?_
  refine lv_iload_n hx hb dX5_wanted_1 rfl (lv_at hl 1 rfl) ?_
  have hPc := hP.sub (ws' := [(h0, .inr (11, [g0, .int 0, g2, g3, g4, g5, g6, g7, g8, g9, g10, g11, g12]))]) [0] rfl
  have hDc := hD.sub (ws' := [(h0, .inr (11, [g0, .int 0, g2, g3, g4, g5, g6, g7, g8, g9, g10, g11, g12]))]) [0] (by decide) rfl
  have hKc := hK.sub (tys' := []) [] rfl
  have hFc := va_free (wc := [(h0, .inr (11, [g0, .int 0, g2, g3, g4, g5, g6, g7, g8, g9, g10, g11, g12]))]) hD hS hA [0] rfl
  refine vx_callv (vx_runV (As := [.int p0]) (rest := []) ⟨hx, hb, hml, hown, hts⟩ (c_X5_needCard l hlt em dC dI h0 p0 g0 g2 g3 g4 g5 g6 g7 g8 g9 g10 g11 g12 s.heap.size) (cwV 1 hts gX5_wanted_X5_needCard rfl rfl rfl (by decide +kernel) ⟨Nat.le_of_ble_eq_true rfl, Nat.le_of_ble_eq_true rfl⟩) ⟨Pw.blind _ _ _ _ _ _ _, va_recv hKc hPc (ci := 11) (q0 := 0) rfl rfl, fun U hU hW => ⟨rfl, Pw.go hPc hKc hDc hamb hS hFc hU hW⟩⟩ rfl rfl hl.1 rfl (lv_room (Nat.le_of_ble_eq_true rfl)) dX5_wanted_2 ⟨Nat.le_of_ble_eq_true rfl, Nat.le_of_ble_eq_true rfl⟩) hS (fun q _ h => hFc q h) hFc (fun q _ h => hFc q h) (fun E ce q9 ux tx H1 locs1 htx hvm hpx hBX hz1 hk1 hS hce hcv hcl => ?_) (fun u t H1 locs1 ht hvm hw hB hz1 hk1 hS => ?_)
  · obtain ⟨rfl, t_2⟩ := hBX
    exact vx_out (fun x hxx => (htab x hxx).elim) hlocks hce hcv hcl (fun t ht2 ha => ⟨(), trivial, (⟨rfl, trivial⟩), hS.F ht2⟩) hS.2.2 (Nat.le_of_ble_eq_true rfl) (Nat.le_of_ble_eq_true rfl)
  · exact hw.elim

set_option maxHeartbeats 4000000 in
set_option maxRecDepth 100000 in
theorem c_X5_pairs (l : Launch) (hlt : l.stackTraces = false) (em : Nat → Nat) (dC : Nat → ClassId) (dI : Nat → Nat → Nat) (h0 : Nat) (p0 : Int32) (g0 : Value) (g2 : Value) (g3 : Value) (g4 : Value) (g5 : Value) (g6 : Value) (g7 : Value) (g8 : Value) (g9 : Value) (g10 : Value) (g11 : Value) (g12 : Value) (sz : Nat) : vx_Met l yX5_pairs wsX5_pairs ({ frames := 7, cells := 1, slots := 6, locals := 103 }) (va_Pc [.ref h0, .int p0] (Pw em dC dI sz [(h0, .inr (11, [g0, .int 0, g2, g3, g4, g5, g6, g7, g8, g9, g10, g11, g12]))] [])) (va_Qi (fun (r : Int32) (_ : Unit) => False) (fun _ t => True) (va_A [(h0, .inr (11, [g0, .int 0, g2, g3, g4, g5, g6, g7, g8, g9, g10, g11, g12]))] sz)) (vx_X (fun _ : Unit => True) (fun E _ _ => (E = "java/lang/IndexOutOfBoundsException" ∧ True)) (va_A [(h0, .inr (11, [g0, .int 0, g2, g3, g4, g5, g6, g7, g8, g9, g10, g11, g12]))] sz)) 1 6 (va_A [(h0, .inr (11, [g0, .int 0, g2, g3, g4, g5, g6, g7, g8, g9, g10, g11, g12]))] sz) := by
  refine vx_ofW (cc := cX5_pairs) (maxL := 4) (ret := (some .int)) (by decide) rfl ?_
  intro p e s m args below meth c s₁ B hml htab hv
  obtain ⟨rfl, hsz, hP, hK, hD0, hamb⟩ := hv
  have hx := B.exec
  have hb := B.bytes
  have hr := B.returns
  have hts := atoms_spec (ws := wsX5_pairs) B.pre
  have hown : s.vm.findClass RX5 = some m.cls := findClass_of_methodNamed B.named
  have hlocks := B.notSynchronized
  subst hsz
  have hD := hD0.self (sz := s.heap.size)
  generalize hAe : va_A [(h0, .inr (11, [g0, .int 0, g2, g3, g4, g5, g6, g7, g8, g9, g10, g11, g12]))] s.heap.size = A at hD hamb ⊢
  have hA : ∀ q : Nat, s.heap.size ≤ q → A q := fun q h => by rw [← hAe]; exact Or.inr h
  have hS : va_S A s.heap s.heap [] := va_S.rf
  have hP : va_P (dC, dI) vwCl [(h0, .inr (11, [g0, .int 0, g2, g3, g4, g5, g6, g7, g8, g9, g10, g11, g12]))] s.heap := hP
  have hl := lv_entry ([.ref h0, .int p0]) (n := 4) (Nat.le_of_ble_eq_true rfl)
  rw [lg_entry_eq]
  generalize (lg_sl ([.ref h0, .int p0]) ++ List.replicate (4 - (lg_sl ([.ref h0, .int p0])).length) Slot.unset).toArray = ls at hl ⊢
  have hl : lv_has ls 4 [(0, .ref h0), (1, .int p0)] := hl
  refine lv_aload_n hx hb dX5_pairs_0 rfl (lv_at hl 0 rfl) ?_
  refine lv_iload_n hx hb dX5_pairs_1 rfl (lv_at hl 1 rfl) ?_
  have hPc := hP.sub (ws' := [(h0, .inr (11, [g0, .int 0, g2, g3, g4, g5, g6, g7, g8, g9, g10, g11, g12]))]) [0] rfl
  have hDc := hD.sub (ws' := [(h0, .inr (11, [g0, .int 0, g2, g3, g4, g5, g6, g7, g8, g9, g10, g11, g12]))]) [0] (by decide) rfl
  have hKc := hK.sub (tys' := []) [] rfl
  have hFc := va_free (wc := [(h0, .inr (11, [g0, .int 0, g2, g3, g4, g5, g6, g7, g8, g9, g10, g11, g12]))]) hD hS hA [0] rfl
  refine vx_callv (vx_runV (As := [.int p0]) (rest := []) ⟨hx, hb, hml, hown, hts⟩ (c_X5_needCard l hlt em dC dI h0 p0 g0 g2 g3 g4 g5 g6 g7 g8 g9 g10 g11 g12 s.heap.size) (cwV 1 hts gX5_pairs_X5_needCard rfl rfl rfl (by decide +kernel) ⟨Nat.le_of_ble_eq_true rfl, Nat.le_of_ble_eq_true rfl⟩) ⟨Pw.blind _ _ _ _ _ _ _, va_recv hKc hPc (ci := 11) (q0 := 0) rfl rfl, fun U hU hW => ⟨rfl, Pw.go hPc hKc hDc hamb hS hFc hU hW⟩⟩ rfl rfl hl.1 rfl (lv_room (Nat.le_of_ble_eq_true rfl)) dX5_pairs_2 ⟨Nat.le_of_ble_eq_true rfl, Nat.le_of_ble_eq_true rfl⟩) hS (fun q _ h => hFc q h) hFc (fun q _ h => hFc q h) (fun E ce q9 ux tx H1 locs1 htx hvm hpx hBX hz1 hk1 hS hce hcv hcl => ?_) (fun u t H1 locs1 ht hvm hw hB hz1 hk1 hS => ?_)
  · obtain ⟨rfl, t_2⟩ := hBX
    exact vx_out (fun x hxx => (htab x hxx).elim) hlocks hce hcv hcl (fun t ht2 ha => ⟨(), trivial, (⟨rfl, trivial⟩), hS.F ht2⟩) hS.2.2 (Nat.le_of_ble_eq_true rfl) (Nat.le_of_ble_eq_true rfl)
  · exact hw.elim

set_option maxHeartbeats 4000000 in
set_option maxRecDepth 100000 in
theorem c_X5_canPlan (l : Launch) (hlt : l.stackTraces = false) (em : Nat → Nat) (dC : Nat → ClassId) (dI : Nat → Nat → Nat) (h0 : Nat) (p0 : Int32) (p1 : Int32) (g0 : Value) (g2 : Value) (g3 : Value) (g4 : Value) (g5 : Value) (g6 : Value) (g7 : Value) (g8 : Value) (g9 : Value) (g10 : Value) (g11 : Value) (g12 : Value) (sz : Nat) : vx_Met l yX5_canPlan wsX5_canPlan ({ frames := 7, cells := 1, slots := 6, locals := 103 }) (va_Pc [.ref h0, .int p0, .int p1] (Pw em dC dI sz [(h0, .inr (11, [g0, .int 0, g2, g3, g4, g5, g6, g7, g8, g9, g10, g11, g12]))] [])) (va_Qi (fun (r : Int32) (_ : Unit) => False) (fun _ t => True) (va_A [(h0, .inr (11, [g0, .int 0, g2, g3, g4, g5, g6, g7, g8, g9, g10, g11, g12]))] sz)) (vx_X (fun _ : Unit => True) (fun E _ _ => (E = "java/lang/IndexOutOfBoundsException" ∧ True)) (va_A [(h0, .inr (11, [g0, .int 0, g2, g3, g4, g5, g6, g7, g8, g9, g10, g11, g12]))] sz)) 1 6 (va_A [(h0, .inr (11, [g0, .int 0, g2, g3, g4, g5, g6, g7, g8, g9, g10, g11, g12]))] sz) := by
  refine vx_ofW (cc := cX5_canPlan) (maxL := 3) (ret := (some .boolean)) (by decide) rfl ?_
  intro p e s m args below meth c s₁ B hml htab hv
  obtain ⟨rfl, hsz, hP, hK, hD0, hamb⟩ := hv
  have hx := B.exec
  have hb := B.bytes
  have hr := B.returns
  have hts := atoms_spec (ws := wsX5_canPlan) B.pre
  have hown : s.vm.findClass RX5 = some m.cls := findClass_of_methodNamed B.named
  have hlocks := B.notSynchronized
  subst hsz
  have hD := hD0.self (sz := s.heap.size)
  generalize hAe : va_A [(h0, .inr (11, [g0, .int 0, g2, g3, g4, g5, g6, g7, g8, g9, g10, g11, g12]))] s.heap.size = A at hD hamb ⊢
  have hA : ∀ q : Nat, s.heap.size ≤ q → A q := fun q h => by rw [← hAe]; exact Or.inr h
  have hS : va_S A s.heap s.heap [] := va_S.rf
  have hP : va_P (dC, dI) vwCl [(h0, .inr (11, [g0, .int 0, g2, g3, g4, g5, g6, g7, g8, g9, g10, g11, g12]))] s.heap := hP
  have hl := lv_entry ([.ref h0, .int p0, .int p1]) (n := 3) (Nat.le_of_ble_eq_true rfl)
  rw [lg_entry_eq]
  generalize (lg_sl ([.ref h0, .int p0, .int p1]) ++ List.replicate (3 - (lg_sl ([.ref h0, .int p0, .int p1])).length) Slot.unset).toArray = ls at hl ⊢
  have hl : lv_has ls 3 [(0, .ref h0), (1, .int p0), (2, .int p1)] := hl
  refine lv_aload_n hx hb dX5_canPlan_0 rfl (lv_at hl 0 rfl) ?_
  refine lv_iload_n hx hb dX5_canPlan_1 rfl (lv_at hl 1 rfl) ?_
  have hPc := hP.sub (ws' := [(h0, .inr (11, [g0, .int 0, g2, g3, g4, g5, g6, g7, g8, g9, g10, g11, g12]))]) [0] rfl
  have hDc := hD.sub (ws' := [(h0, .inr (11, [g0, .int 0, g2, g3, g4, g5, g6, g7, g8, g9, g10, g11, g12]))]) [0] (by decide) rfl
  have hKc := hK.sub (tys' := []) [] rfl
  have hFc := va_free (wc := [(h0, .inr (11, [g0, .int 0, g2, g3, g4, g5, g6, g7, g8, g9, g10, g11, g12]))]) hD hS hA [0] rfl
  refine vx_callv (vx_runV (As := [.int p0]) (rest := []) ⟨hx, hb, hml, hown, hts⟩ (c_X5_needCard l hlt em dC dI h0 p0 g0 g2 g3 g4 g5 g6 g7 g8 g9 g10 g11 g12 s.heap.size) (cwV 1 hts gX5_canPlan_X5_needCard rfl rfl rfl (by decide +kernel) ⟨Nat.le_of_ble_eq_true rfl, Nat.le_of_ble_eq_true rfl⟩) ⟨Pw.blind _ _ _ _ _ _ _, va_recv hKc hPc (ci := 11) (q0 := 0) rfl rfl, fun U hU hW => ⟨rfl, Pw.go hPc hKc hDc hamb hS hFc hU hW⟩⟩ rfl rfl hl.1 rfl (lv_room (Nat.le_of_ble_eq_true rfl)) dX5_canPlan_2 ⟨Nat.le_of_ble_eq_true rfl, Nat.le_of_ble_eq_true rfl⟩) hS (fun q _ h => hFc q h) hFc (fun q _ h => hFc q h) (fun E ce q9 ux tx H1 locs1 htx hvm hpx hBX hz1 hk1 hS hce hcv hcl => ?_) (fun u t H1 locs1 ht hvm hw hB hz1 hk1 hS => ?_)
  · obtain ⟨rfl, t_2⟩ := hBX
    exact vx_out (fun x hxx => (htab x hxx).elim) hlocks hce hcv hcl (fun t ht2 ha => ⟨(), trivial, (⟨rfl, trivial⟩), hS.F ht2⟩) hS.2.2 (Nat.le_of_ble_eq_true rfl) (Nat.le_of_ble_eq_true rfl)
  · exact hw.elim

set_option maxHeartbeats 4000000 in
set_option maxRecDepth 100000 in
theorem c_X5_reversals (l : Launch) (hlt : l.stackTraces = false) (em : Nat → Nat) (dC : Nat → ClassId) (dI : Nat → Nat → Nat) (h0 : Nat) (p0 : Int32) (p1 : Int32) (g0 : Value) (g2 : Value) (g3 : Value) (g4 : Value) (g5 : Value) (g6 : Value) (g7 : Value) (g8 : Value) (g9 : Value) (g10 : Value) (g11 : Value) (g12 : Value) (sz : Nat) : vx_Met l yX5_reversals wsX5_reversals ({ frames := 7, cells := 1, slots := 6, locals := 103 }) (va_Pc [.ref h0, .int p0, .int p1] (Pw em dC dI sz [(h0, .inr (11, [g0, .int 0, g2, g3, g4, g5, g6, g7, g8, g9, g10, g11, g12]))] [])) (va_Qi (fun (r : Int32) (_ : Unit) => False) (fun _ t => True) (va_A [(h0, .inr (11, [g0, .int 0, g2, g3, g4, g5, g6, g7, g8, g9, g10, g11, g12]))] sz)) (vx_X (fun _ : Unit => True) (fun E _ _ => (E = "java/lang/IndexOutOfBoundsException" ∧ True)) (va_A [(h0, .inr (11, [g0, .int 0, g2, g3, g4, g5, g6, g7, g8, g9, g10, g11, g12]))] sz)) 1 6 (va_A [(h0, .inr (11, [g0, .int 0, g2, g3, g4, g5, g6, g7, g8, g9, g10, g11, g12]))] sz) := by
  refine vx_ofW (cc := cX5_reversals) (maxL := 5) (ret := (some .int)) (by decide) rfl ?_
  intro p e s m args below meth c s₁ B hml htab hv
  obtain ⟨rfl, hsz, hP, hK, hD0, hamb⟩ := hv
  have hx := B.exec
  have hb := B.bytes
  have hr := B.returns
  have hts := atoms_spec (ws := wsX5_reversals) B.pre
  have hown : s.vm.findClass RX5 = some m.cls := findClass_of_methodNamed B.named
  have hlocks := B.notSynchronized
  subst hsz
  have hD := hD0.self (sz := s.heap.size)
  generalize hAe : va_A [(h0, .inr (11, [g0, .int 0, g2, g3, g4, g5, g6, g7, g8, g9, g10, g11, g12]))] s.heap.size = A at hD hamb ⊢
  have hA : ∀ q : Nat, s.heap.size ≤ q → A q := fun q h => by rw [← hAe]; exact Or.inr h
  have hS : va_S A s.heap s.heap [] := va_S.rf
  have hP : va_P (dC, dI) vwCl [(h0, .inr (11, [g0, .int 0, g2, g3, g4, g5, g6, g7, g8, g9, g10, g11, g12]))] s.heap := hP
  have hl := lv_entry ([.ref h0, .int p0, .int p1]) (n := 5) (Nat.le_of_ble_eq_true rfl)
  rw [lg_entry_eq]
  generalize (lg_sl ([.ref h0, .int p0, .int p1]) ++ List.replicate (5 - (lg_sl ([.ref h0, .int p0, .int p1])).length) Slot.unset).toArray = ls at hl ⊢
  have hl : lv_has ls 5 [(0, .ref h0), (1, .int p0), (2, .int p1)] := hl
  refine lv_aload_n hx hb dX5_reversals_0 rfl (lv_at hl 0 rfl) ?_
  refine lv_iload_n hx hb dX5_reversals_1 rfl (lv_at hl 1 rfl) ?_
  have hPc := hP.sub (ws' := [(h0, .inr (11, [g0, .int 0, g2, g3, g4, g5, g6, g7, g8, g9, g10, g11, g12]))]) [0] rfl
  have hDc := hD.sub (ws' := [(h0, .inr (11, [g0, .int 0, g2, g3, g4, g5, g6, g7, g8, g9, g10, g11, g12]))]) [0] (by decide) rfl
  have hKc := hK.sub (tys' := []) [] rfl
  have hFc := va_free (wc := [(h0, .inr (11, [g0, .int 0, g2, g3, g4, g5, g6, g7, g8, g9, g10, g11, g12]))]) hD hS hA [0] rfl
  refine vx_callv (vx_runV (As := [.int p0]) (rest := []) ⟨hx, hb, hml, hown, hts⟩ (c_X5_needCard l hlt em dC dI h0 p0 g0 g2 g3 g4 g5 g6 g7 g8 g9 g10 g11 g12 s.heap.size) (cwV 1 hts gX5_reversals_X5_needCard rfl rfl rfl (by decide +kernel) ⟨Nat.le_of_ble_eq_true rfl, Nat.le_of_ble_eq_true rfl⟩) ⟨Pw.blind _ _ _ _ _ _ _, va_recv hKc hPc (ci := 11) (q0 := 0) rfl rfl, fun U hU hW => ⟨rfl, Pw.go hPc hKc hDc hamb hS hFc hU hW⟩⟩ rfl rfl hl.1 rfl (lv_room (Nat.le_of_ble_eq_true rfl)) dX5_reversals_2 ⟨Nat.le_of_ble_eq_true rfl, Nat.le_of_ble_eq_true rfl⟩) hS (fun q _ h => hFc q h) hFc (fun q _ h => hFc q h) (fun E ce q9 ux tx H1 locs1 htx hvm hpx hBX hz1 hk1 hS hce hcv hcl => ?_) (fun u t H1 locs1 ht hvm hw hB hz1 hk1 hS => ?_)
  · obtain ⟨rfl, t_2⟩ := hBX
    exact vx_out (fun x hxx => (htab x hxx).elim) hlocks hce hcv hcl (fun t ht2 ha => ⟨(), trivial, (⟨rfl, trivial⟩), hS.F ht2⟩) hS.2.2 (Nat.le_of_ble_eq_true rfl) (Nat.le_of_ble_eq_true rfl)
  · exact hw.elim

set_option maxHeartbeats 4000000 in
set_option maxRecDepth 100000 in
theorem c_X5_planAt (l : Launch) (hlt : l.stackTraces = false) (em : Nat → Nat) (dC : Nat → ClassId) (dI : Nat → Nat → Nat) (h0 : Nat) (p0 : Int32) (p1 : Int32) (p2 : Int32) (g0 : Value) (g2 : Value) (g3 : Value) (g4 : Value) (g5 : Value) (g6 : Value) (g7 : Value) (g8 : Value) (g9 : Value) (g10 : Value) (g11 : Value) (g12 : Value) (sz : Nat) : vx_Met l yX5_planAt wsX5_planAt ({ frames := 7, cells := 1, slots := 6, locals := 103 }) (va_Pc [.ref h0, .int p0, .int p1, .int p2] (Pw em dC dI sz [(h0, .inr (11, [g0, .int 0, g2, g3, g4, g5, g6, g7, g8, g9, g10, g11, g12]))] [])) (va_Qi (fun (r : Int32) (_ : Unit) => False) (fun _ t => True) (va_A [(h0, .inr (11, [g0, .int 0, g2, g3, g4, g5, g6, g7, g8, g9, g10, g11, g12]))] sz)) (vx_X (fun _ : Unit => True) (fun E _ _ => (E = "java/lang/IndexOutOfBoundsException" ∧ True)) (va_A [(h0, .inr (11, [g0, .int 0, g2, g3, g4, g5, g6, g7, g8, g9, g10, g11, g12]))] sz)) 1 6 (va_A [(h0, .inr (11, [g0, .int 0, g2, g3, g4, g5, g6, g7, g8, g9, g10, g11, g12]))] sz) := by
  refine vx_ofW (cc := cX5_planAt) (maxL := 6) (ret := (some .char)) (by decide) rfl ?_
  intro p e s m args below meth c s₁ B hml htab hv
  obtain ⟨rfl, hsz, hP, hK, hD0, hamb⟩ := hv
  have hx := B.exec
  have hb := B.bytes
  have hr := B.returns
  have hts := atoms_spec (ws := wsX5_planAt) B.pre
  have hown : s.vm.findClass RX5 = some m.cls := findClass_of_methodNamed B.named
  have hlocks := B.notSynchronized
  subst hsz
  have hD := hD0.self (sz := s.heap.size)
  generalize hAe : va_A [(h0, .inr (11, [g0, .int 0, g2, g3, g4, g5, g6, g7, g8, g9, g10, g11, g12]))] s.heap.size = A at hD hamb ⊢
  have hA : ∀ q : Nat, s.heap.size ≤ q → A q := fun q h => by rw [← hAe]; exact Or.inr h
  have hS : va_S A s.heap s.heap [] := va_S.rf
  have hP : va_P (dC, dI) vwCl [(h0, .inr (11, [g0, .int 0, g2, g3, g4, g5, g6, g7, g8, g9, g10, g11, g12]))] s.heap := hP
  have hl := lv_entry ([.ref h0, .int p0, .int p1, .int p2]) (n := 6) (Nat.le_of_ble_eq_true rfl)
  rw [lg_entry_eq]
  generalize (lg_sl ([.ref h0, .int p0, .int p1, .int p2]) ++ List.replicate (6 - (lg_sl ([.ref h0, .int p0, .int p1, .int p2])).length) Slot.unset).toArray = ls at hl ⊢
  have hl : lv_has ls 6 [(0, .ref h0), (1, .int p0), (2, .int p1), (3, .int p2)] := hl
  refine lv_aload_n hx hb dX5_planAt_0 rfl (lv_at hl 0 rfl) ?_
  refine lv_iload_n hx hb dX5_planAt_1 rfl (lv_at hl 1 rfl) ?_
  have hPc := hP.sub (ws' := [(h0, .inr (11, [g0, .int 0, g2, g3, g4, g5, g6, g7, g8, g9, g10, g11, g12]))]) [0] rfl
  have hDc := hD.sub (ws' := [(h0, .inr (11, [g0, .int 0, g2, g3, g4, g5, g6, g7, g8, g9, g10, g11, g12]))]) [0] (by decide) rfl
  have hKc := hK.sub (tys' := []) [] rfl
  have hFc := va_free (wc := [(h0, .inr (11, [g0, .int 0, g2, g3, g4, g5, g6, g7, g8, g9, g10, g11, g12]))]) hD hS hA [0] rfl
  refine vx_callv (vx_runV (As := [.int p0]) (rest := []) ⟨hx, hb, hml, hown, hts⟩ (c_X5_needCard l hlt em dC dI h0 p0 g0 g2 g3 g4 g5 g6 g7 g8 g9 g10 g11 g12 s.heap.size) (cwV 1 hts gX5_planAt_X5_needCard rfl rfl rfl (by decide +kernel) ⟨Nat.le_of_ble_eq_true rfl, Nat.le_of_ble_eq_true rfl⟩) ⟨Pw.blind _ _ _ _ _ _ _, va_recv hKc hPc (ci := 11) (q0 := 0) rfl rfl, fun U hU hW => ⟨rfl, Pw.go hPc hKc hDc hamb hS hFc hU hW⟩⟩ rfl rfl hl.1 rfl (lv_room (Nat.le_of_ble_eq_true rfl)) dX5_planAt_2 ⟨Nat.le_of_ble_eq_true rfl, Nat.le_of_ble_eq_true rfl⟩) hS (fun q _ h => hFc q h) hFc (fun q _ h => hFc q h) (fun E ce q9 ux tx H1 locs1 htx hvm hpx hBX hz1 hk1 hS hce hcv hcl => ?_) (fun u t H1 locs1 ht hvm hw hB hz1 hk1 hS => ?_)
  · obtain ⟨rfl, t_2⟩ := hBX
    exact vx_out (fun x hxx => (htab x hxx).elim) hlocks hce hcv hcl (fun t ht2 ha => ⟨(), trivial, (⟨rfl, trivial⟩), hS.F ht2⟩) hS.2.2 (Nat.le_of_ble_eq_true rfl) (Nat.le_of_ble_eq_true rfl)
  · exact hw.elim

set_option maxHeartbeats 4000000 in
set_option maxRecDepth 100000 in
theorem c_X5_faultsOf (l : Launch) (hlt : l.stackTraces = false) (em : Nat → Nat) (dC : Nat → ClassId) (dI : Nat → Nat → Nat) (h0 : Nat) (p0 : Int32) (g0 : Value) (g2 : Value) (g3 : Value) (g4 : Value) (g5 : Value) (g6 : Value) (g7 : Value) (g8 : Value) (g9 : Value) (g10 : Value) (g11 : Value) (g12 : Value) (sz : Nat) : vx_Met l yX5_faultsOf wsX5_faultsOf ({ frames := 7, cells := 1, slots := 6, locals := 103 }) (va_Pc [.ref h0, .int p0] (Pw em dC dI sz [(h0, .inr (11, [g0, .int 0, g2, g3, g4, g5, g6, g7, g8, g9, g10, g11, g12]))] [])) (va_Qi (fun (r : Int32) (_ : Unit) => False) (fun _ t => True) (va_A [(h0, .inr (11, [g0, .int 0, g2, g3, g4, g5, g6, g7, g8, g9, g10, g11, g12]))] sz)) (vx_X (fun _ : Unit => True) (fun E _ _ => (E = "java/lang/IndexOutOfBoundsException" ∧ True)) (va_A [(h0, .inr (11, [g0, .int 0, g2, g3, g4, g5, g6, g7, g8, g9, g10, g11, g12]))] sz)) 1 6 (va_A [(h0, .inr (11, [g0, .int 0, g2, g3, g4, g5, g6, g7, g8, g9, g10, g11, g12]))] sz) := by
  refine vx_ofW (cc := cX5_faultsOf) (maxL := 2) (ret := (some .int)) (by decide) rfl ?_
  intro p e s m args below meth c s₁ B hml htab hv
  obtain ⟨rfl, hsz, hP, hK, hD0, hamb⟩ := hv
  have hx := B.exec
  have hb := B.bytes
  have hr := B.returns
  have hts := atoms_spec (ws := wsX5_faultsOf) B.pre
  have hown : s.vm.findClass RX5 = some m.cls := findClass_of_methodNamed B.named
  have hlocks := B.notSynchronized
  subst hsz
  have hD := hD0.self (sz := s.heap.size)
  generalize hAe : va_A [(h0, .inr (11, [g0, .int 0, g2, g3, g4, g5, g6, g7, g8, g9, g10, g11, g12]))] s.heap.size = A at hD hamb ⊢
  have hA : ∀ q : Nat, s.heap.size ≤ q → A q := fun q h => by rw [← hAe]; exact Or.inr h
  have hS : va_S A s.heap s.heap [] := va_S.rf
  have hP : va_P (dC, dI) vwCl [(h0, .inr (11, [g0, .int 0, g2, g3, g4, g5, g6, g7, g8, g9, g10, g11, g12]))] s.heap := hP
  have hl := lv_entry ([.ref h0, .int p0]) (n := 2) (Nat.le_of_ble_eq_true rfl)
  rw [lg_entry_eq]
  generalize (lg_sl ([.ref h0, .int p0]) ++ List.replicate (2 - (lg_sl ([.ref h0, .int p0])).length) Slot.unset).toArray = ls at hl ⊢
  have hl : lv_has ls 2 [(0, .ref h0), (1, .int p0)] := hl
  refine lv_aload_n hx hb dX5_faultsOf_0 rfl (lv_at hl 0 rfl) ?_
  refine lv_iload_n hx hb dX5_faultsOf_1 rfl (lv_at hl 1 rfl) ?_
  have hPc := hP.sub (ws' := [(h0, .inr (11, [g0, .int 0, g2, g3, g4, g5, g6, g7, g8, g9, g10, g11, g12]))]) [0] rfl
  have hDc := hD.sub (ws' := [(h0, .inr (11, [g0, .int 0, g2, g3, g4, g5, g6, g7, g8, g9, g10, g11, g12]))]) [0] (by decide) rfl
  have hKc := hK.sub (tys' := []) [] rfl
  have hFc := va_free (wc := [(h0, .inr (11, [g0, .int 0, g2, g3, g4, g5, g6, g7, g8, g9, g10, g11, g12]))]) hD hS hA [0] rfl
  refine vx_callv (vx_runV (As := [.int p0]) (rest := []) ⟨hx, hb, hml, hown, hts⟩ (c_X5_needCard l hlt em dC dI h0 p0 g0 g2 g3 g4 g5 g6 g7 g8 g9 g10 g11 g12 s.heap.size) (cwV 1 hts gX5_faultsOf_X5_needCard rfl rfl rfl (by decide +kernel) ⟨Nat.le_of_ble_eq_true rfl, Nat.le_of_ble_eq_true rfl⟩) ⟨Pw.blind _ _ _ _ _ _ _, va_recv hKc hPc (ci := 11) (q0 := 0) rfl rfl, fun U hU hW => ⟨rfl, Pw.go hPc hKc hDc hamb hS hFc hU hW⟩⟩ rfl rfl hl.1 rfl (lv_room (Nat.le_of_ble_eq_true rfl)) dX5_faultsOf_2 ⟨Nat.le_of_ble_eq_true rfl, Nat.le_of_ble_eq_true rfl⟩) hS (fun q _ h => hFc q h) hFc (fun q _ h => hFc q h) (fun E ce q9 ux tx H1 locs1 htx hvm hpx hBX hz1 hk1 hS hce hcv hcl => ?_) (fun u t H1 locs1 ht hvm hw hB hz1 hk1 hS => ?_)
  · obtain ⟨rfl, t_2⟩ := hBX
    exact vx_out (fun x hxx => (htab x hxx).elim) hlocks hce hcv hcl (fun t ht2 ha => ⟨(), trivial, (⟨rfl, trivial⟩), hS.F ht2⟩) hS.2.2 (Nat.le_of_ble_eq_true rfl) (Nat.le_of_ble_eq_true rfl)
  · exact hw.elim

set_option maxHeartbeats 4000000 in
set_option maxRecDepth 100000 in
theorem c_X5_ways (l : Launch) (hlt : l.stackTraces = false) (em : Nat → Nat) (dC : Nat → ClassId) (dI : Nat → Nat → Nat) (h0 : Nat) (p0 : Int32) (p1 : Int32) (p2 : Int32) (p3 : Int32) (g0 : Value) (g2 : Value) (g3 : Value) (g4 : Value) (g5 : Value) (g6 : Value) (g7 : Value) (g8 : Value) (g9 : Value) (g10 : Value) (g11 : Value) (g12 : Value) (sz : Nat) : vx_Met l yX5_ways wsX5_ways ({ frames := 7, cells := 1, slots := 6, locals := 103 }) (va_Pc [.ref h0, .int p0, .int p1, .int p2, .int p3] (Pw em dC dI sz [(h0, .inr (11, [g0, .int 0, g2, g3, g4, g5, g6, g7, g8, g9, g10, g11, g12]))] [])) (va_Ql (fun (r : Int64) (_ : Unit) => False) (fun _ t => True) (va_A [(h0, .inr (11, [g0, .int 0, g2, g3, g4, g5, g6, g7, g8, g9, g10, g11, g12]))] sz)) (vx_X (fun _ : Unit => True) (fun E _ _ => (E = "java/lang/IndexOutOfBoundsException" ∧ True)) (va_A [(h0, .inr (11, [g0, .int 0, g2, g3, g4, g5, g6, g7, g8, g9, g10, g11, g12]))] sz)) 1 6 (va_A [(h0, .inr (11, [g0, .int 0, g2, g3, g4, g5, g6, g7, g8, g9, g10, g11, g12]))] sz) := by
  refine vx_ofW (cc := cX5_ways) (maxL := 5) (ret := (some .long)) (by decide) rfl ?_
  intro p e s m args below meth c s₁ B hml htab hv
  obtain ⟨rfl, hsz, hP, hK, hD0, hamb⟩ := hv
  have hx := B.exec
  have hb := B.bytes
  have hr := B.returns
  have hts := atoms_spec (ws := wsX5_ways) B.pre
  have hown : s.vm.findClass RX5 = some m.cls := findClass_of_methodNamed B.named
  have hlocks := B.notSynchronized
  subst hsz
  have hD := hD0.self (sz := s.heap.size)
  generalize hAe : va_A [(h0, .inr (11, [g0, .int 0, g2, g3, g4, g5, g6, g7, g8, g9, g10, g11, g12]))] s.heap.size = A at hD hamb ⊢
  have hA : ∀ q : Nat, s.heap.size ≤ q → A q := fun q h => by rw [← hAe]; exact Or.inr h
  have hS : va_S A s.heap s.heap [] := va_S.rf
  have hP : va_P (dC, dI) vwCl [(h0, .inr (11, [g0, .int 0, g2, g3, g4, g5, g6, g7, g8, g9, g10, g11, g12]))] s.heap := hP
  have hl := lv_entry ([.ref h0, .int p0, .int p1, .int p2, .int p3]) (n := 5) (Nat.le_of_ble_eq_true rfl)
  rw [lg_entry_eq]
  generalize (lg_sl ([.ref h0, .int p0, .int p1, .int p2, .int p3]) ++ List.replicate (5 - (lg_sl ([.ref h0, .int p0, .int p1, .int p2, .int p3])).length) Slot.unset).toArray = ls at hl ⊢
  have hl : lv_has ls 5 [(0, .ref h0), (1, .int p0), (2, .int p1), (3, .int p2), (4, .int p3)] := hl
  refine lv_aload_n hx hb dX5_ways_0 rfl (lv_at hl 0 rfl) ?_
  refine lv_iload_n hx hb dX5_ways_1 rfl (lv_at hl 1 rfl) ?_
  have hPc := hP.sub (ws' := [(h0, .inr (11, [g0, .int 0, g2, g3, g4, g5, g6, g7, g8, g9, g10, g11, g12]))]) [0] rfl
  have hDc := hD.sub (ws' := [(h0, .inr (11, [g0, .int 0, g2, g3, g4, g5, g6, g7, g8, g9, g10, g11, g12]))]) [0] (by decide) rfl
  have hKc := hK.sub (tys' := []) [] rfl
  have hFc := va_free (wc := [(h0, .inr (11, [g0, .int 0, g2, g3, g4, g5, g6, g7, g8, g9, g10, g11, g12]))]) hD hS hA [0] rfl
  refine vx_callv (vx_runV (As := [.int p0]) (rest := []) ⟨hx, hb, hml, hown, hts⟩ (c_X5_needCard l hlt em dC dI h0 p0 g0 g2 g3 g4 g5 g6 g7 g8 g9 g10 g11 g12 s.heap.size) (cwV 1 hts gX5_ways_X5_needCard rfl rfl rfl (by decide +kernel) ⟨Nat.le_of_ble_eq_true rfl, Nat.le_of_ble_eq_true rfl⟩) ⟨Pw.blind _ _ _ _ _ _ _, va_recv hKc hPc (ci := 11) (q0 := 0) rfl rfl, fun U hU hW => ⟨rfl, Pw.go hPc hKc hDc hamb hS hFc hU hW⟩⟩ rfl rfl hl.1 rfl (lv_room (Nat.le_of_ble_eq_true rfl)) dX5_ways_2 ⟨Nat.le_of_ble_eq_true rfl, Nat.le_of_ble_eq_true rfl⟩) hS (fun q _ h => hFc q h) hFc (fun q _ h => hFc q h) (fun E ce q9 ux tx H1 locs1 htx hvm hpx hBX hz1 hk1 hS hce hcv hcl => ?_) (fun u t H1 locs1 ht hvm hw hB hz1 hk1 hS => ?_)
  · obtain ⟨rfl, t_2⟩ := hBX
    exact vx_out (fun x hxx => (htab x hxx).elim) hlocks hce hcv hcl (fun t ht2 ha => ⟨(), trivial, (⟨rfl, trivial⟩), hS.F ht2⟩) hS.2.2 (Nat.le_of_ble_eq_true rfl) (Nat.le_of_ble_eq_true rfl)
  · exact hw.elim

set_option maxHeartbeats 4000000 in
set_option maxRecDepth 100000 in
theorem c_X5_motto (l : Launch) (hlt : l.stackTraces = false) (em : Nat → Nat) (dC : Nat → ClassId) (dI : Nat → Nat → Nat) (h0 : Nat) (p0 : Int32) (p1 : Int32) (p2 : Int32) (g0 : Value) (g2 : Value) (g3 : Value) (g4 : Value) (g5 : Value) (g6 : Value) (g7 : Value) (g8 : Value) (g9 : Value) (g10 : Value) (g11 : Value) (g12 : Value) (sz : Nat) : vx_Met l yX5_motto wsX5_motto ({ frames := 7, cells := 1, slots := 6, locals := 103 }) (va_Pc [.ref h0, .int p0, .int p1, .int p2] (Pw em dC dI sz [(h0, .inr (11, [g0, .int 0, g2, g3, g4, g5, g6, g7, g8, g9, g10, g11, g12]))] [])) (va_Qi (fun (r : Int32) (_ : Unit) => False) (fun _ t => True) (va_A [(h0, .inr (11, [g0, .int 0, g2, g3, g4, g5, g6, g7, g8, g9, g10, g11, g12]))] sz)) (vx_X (fun _ : Unit => True) (fun E _ _ => (E = "java/lang/IndexOutOfBoundsException" ∧ True)) (va_A [(h0, .inr (11, [g0, .int 0, g2, g3, g4, g5, g6, g7, g8, g9, g10, g11, g12]))] sz)) 1 6 (va_A [(h0, .inr (11, [g0, .int 0, g2, g3, g4, g5, g6, g7, g8, g9, g10, g11, g12]))] sz) := by
  refine vx_ofW (cc := cX5_motto) (maxL := 5) (ret := (some .int)) (by decide) rfl ?_
  intro p e s m args below meth c s₁ B hml htab hv
  obtain ⟨rfl, hsz, hP, hK, hD0, hamb⟩ := hv
  have hx := B.exec
  have hb := B.bytes
  have hr := B.returns
  have hts := atoms_spec (ws := wsX5_motto) B.pre
  have hown : s.vm.findClass RX5 = some m.cls := findClass_of_methodNamed B.named
  have hlocks := B.notSynchronized
  subst hsz
  have hD := hD0.self (sz := s.heap.size)
  generalize hAe : va_A [(h0, .inr (11, [g0, .int 0, g2, g3, g4, g5, g6, g7, g8, g9, g10, g11, g12]))] s.heap.size = A at hD hamb ⊢
  have hA : ∀ q : Nat, s.heap.size ≤ q → A q := fun q h => by rw [← hAe]; exact Or.inr h
  have hS : va_S A s.heap s.heap [] := va_S.rf
  have hP : va_P (dC, dI) vwCl [(h0, .inr (11, [g0, .int 0, g2, g3, g4, g5, g6, g7, g8, g9, g10, g11, g12]))] s.heap := hP
  have hl := lv_entry ([.ref h0, .int p0, .int p1, .int p2]) (n := 5) (Nat.le_of_ble_eq_true rfl)
  rw [lg_entry_eq]
  generalize (lg_sl ([.ref h0, .int p0, .int p1, .int p2]) ++ List.replicate (5 - (lg_sl ([.ref h0, .int p0, .int p1, .int p2])).length) Slot.unset).toArray = ls at hl ⊢
  have hl : lv_has ls 5 [(0, .ref h0), (1, .int p0), (2, .int p1), (3, .int p2)] := hl
  refine lv_aload_n hx hb dX5_motto_0 rfl (lv_at hl 0 rfl) ?_
  refine lv_iload_n hx hb dX5_motto_1 rfl (lv_at hl 2 rfl) ?_
  have hPc := hP.sub (ws' := [(h0, .inr (11, [g0, .int 0, g2, g3, g4, g5, g6, g7, g8, g9, g10, g11, g12]))]) [0] rfl
  have hDc := hD.sub (ws' := [(h0, .inr (11, [g0, .int 0, g2, g3, g4, g5, g6, g7, g8, g9, g10, g11, g12]))]) [0] (by decide) rfl
  have hKc := hK.sub (tys' := []) [] rfl
  have hFc := va_free (wc := [(h0, .inr (11, [g0, .int 0, g2, g3, g4, g5, g6, g7, g8, g9, g10, g11, g12]))]) hD hS hA [0] rfl
  refine vx_callv (vx_runV (As := [.int p1]) (rest := []) ⟨hx, hb, hml, hown, hts⟩ (c_X5_needCard l hlt em dC dI h0 p1 g0 g2 g3 g4 g5 g6 g7 g8 g9 g10 g11 g12 s.heap.size) (cwV 1 hts gX5_motto_X5_needCard rfl rfl rfl (by decide +kernel) ⟨Nat.le_of_ble_eq_true rfl, Nat.le_of_ble_eq_true rfl⟩) ⟨Pw.blind _ _ _ _ _ _ _, va_recv hKc hPc (ci := 11) (q0 := 0) rfl rfl, fun U hU hW => ⟨rfl, Pw.go hPc hKc hDc hamb hS hFc hU hW⟩⟩ rfl rfl hl.1 rfl (lv_room (Nat.le_of_ble_eq_true rfl)) dX5_motto_2 ⟨Nat.le_of_ble_eq_true rfl, Nat.le_of_ble_eq_true rfl⟩) hS (fun q _ h => hFc q h) hFc (fun q _ h => hFc q h) (fun E ce q9 ux tx H1 locs1 htx hvm hpx hBX hz1 hk1 hS hce hcv hcl => ?_) (fun u t H1 locs1 ht hvm hw hB hz1 hk1 hS => ?_)
  · obtain ⟨rfl, t_2⟩ := hBX
    exact vx_out (fun x hxx => (htab x hxx).elim) hlocks hce hcv hcl (fun t ht2 ha => ⟨(), trivial, (⟨rfl, trivial⟩), hS.F ht2⟩) hS.2.2 (Nat.le_of_ble_eq_true rfl) (Nat.le_of_ble_eq_true rfl)
  · exact hw.elim

set_option maxHeartbeats 4000000 in
set_option maxRecDepth 100000 in
theorem c_X5_turn (l : Launch) (hlt : l.stackTraces = false) (em : Nat → Nat) (dC : Nat → ClassId) (dI : Nat → Nat → Nat) (h0 : Nat) (p0 : Int32) (p1 : Int32) (g0 : Value) (g2 : Value) (g3 : Value) (g4 : Value) (g5 : Value) (g6 : Value) (g7 : Value) (g8 : Value) (g9 : Value) (g10 : Value) (g11 : Value) (g12 : Value) (sz : Nat) : vx_Met l yX5_turn wsX5_turn ({ frames := 7, cells := 1, slots := 6, locals := 102 }) (va_Pc [.ref h0, .int p0, .int p1] (Pw em dC dI sz [(h0, .inr (11, [g0, .int 0, g2, g3, g4, g5, g6, g7, g8, g9, g10, g11, g12]))] [])) (va_Qi (fun (r : Int32) (_ : Unit) => ¬ (p0.toInt < 0 ∨ 3 < p0.toInt) ∧ r = 0) (fun _ t => True) (va_A [(h0, .inr (11, [g0, .int 0, g2, g3, g4, g5, g6, g7, g8, g9, g10, g11, g12]))] sz)) (vx_X (fun _ : Unit => True) (fun E _ _ => (E = "java/lang/IllegalArgumentException" ∧ (p0.toInt < 0 ∨ 3 < p0.toInt))) (va_A [(h0, .inr (11, [g0, .int 0, g2, g3, g4, g5, g6, g7, g8, g9, g10, g11, g12]))] sz)) 1 6 (va_A [(h0, .inr (11, [g0, .int 0, g2, g3, g4, g5, g6, g7, g8, g9, g10, g11, g12]))] sz) := by
  refine vx_ofW (cc := cX5_turn) (maxL := 5) (ret := (some .int)) (by decide) rfl ?_
  intro p e s m args below meth c s₁ B hml htab hv
  obtain ⟨rfl, hsz, hP, hK, hD0, hamb⟩ := hv
  have hx := B.exec
  have hb := B.bytes
  have hr := B.returns
  have hts := atoms_spec (ws := wsX5_turn) B.pre
  have hown : s.vm.findClass RX5 = some m.cls := findClass_of_methodNamed B.named
  have hlocks := B.notSynchronized
  subst hsz
  have hD := hD0.self (sz := s.heap.size)
  generalize hAe : va_A [(h0, .inr (11, [g0, .int 0, g2, g3, g4, g5, g6, g7, g8, g9, g10, g11, g12]))] s.heap.size = A at hD hamb ⊢
  have hA : ∀ q : Nat, s.heap.size ≤ q → A q := fun q h => by rw [← hAe]; exact Or.inr h
  have hS : va_S A s.heap s.heap [] := va_S.rf
  have hP : va_P (dC, dI) vwCl [(h0, .inr (11, [g0, .int 0, g2, g3, g4, g5, g6, g7, g8, g9, g10, g11, g12]))] s.heap := hP
  have hl := lv_entry ([.ref h0, .int p0, .int p1]) (n := 5) (Nat.le_of_ble_eq_true rfl)
  rw [lg_entry_eq]
  generalize (lg_sl ([.ref h0, .int p0, .int p1]) ++ List.replicate (5 - (lg_sl ([.ref h0, .int p0, .int p1])).length) Slot.unset).toArray = ls at hl ⊢
  have hl : lv_has ls 5 [(0, .ref h0), (1, .int p0), (2, .int p1)] := hl
  refine lv_iload_n hx hb dX5_turn_0 rfl (lv_at hl 1 rfl) ?_
  have hPc := hP.sub (ws' := []) [] rfl
  have hDc := hD.sub (ws' := []) [] (by decide) rfl
  have hKc := hK.sub (tys' := []) [] rfl
  have hFc := va_free (wc := []) hD hS hA [] rfl
  refine vx_callv (vx_runS (As := [.int p0]) (rest := []) ⟨hx, hb, hml, hown, hts⟩ (c_X5_needPack l hlt em dC dI p0 s.heap.size) (va_cwS 1 hts gX5_turn_X5_needPack rfl rfl rfl (by decide +kernel) ⟨Nat.le_of_ble_eq_true rfl, Nat.le_of_ble_eq_true rfl⟩) ⟨Pw.blind _ _ _ _ _ _ _, fun U hU hW => ⟨rfl, Pw.go hPc hKc hDc hamb hS hFc hU hW⟩⟩ rfl rfl hl.1 rfl (lv_room (Nat.le_of_ble_eq_true rfl)) dX5_turn_1 ⟨Nat.le_of_ble_eq_true rfl, Nat.le_of_ble_eq_true rfl⟩) hS (fun q _ h => hFc q h) hFc (fun q _ h => hFc q h) (fun E ce q9 ux tx H1 locs1 htx hvm hpx hBX hz1 hk1 hS hce hcv hcl => ?_) (fun u t H1 locs1 ht hvm hw hB hz1 hk1 hS => ?_)
  · obtain ⟨rfl, t_2⟩ := hBX
    exact vx_out (fun x hxx => (htab x hxx).elim) hlocks hce hcv hcl (fun t ht2 ha => ⟨(), trivial, (⟨rfl, by omega⟩), hS.F ht2⟩) hS.2.2 (Nat.le_of_ble_eq_true rfl) (Nat.le_of_ble_eq_true rfl)
  · obtain ⟨hP, hD⟩ := va_rest (wr := [(h0, .inr (11, [g0, .int 0, g2, g3, g4, g5, g6, g7, g8, g9, g10, g11, g12]))]) hP hD [] [0] rfl rfl (by decide) (by decide) hk1 hFc
    generalize H1 = H at hP hS ⊢
    refine W.widen (k := 1) (n := 6) (Nat.le_of_ble_eq_true rfl) (Nat.le_of_ble_eq_true rfl) ?_
    have t_3 : ¬ (p0.toInt < 0 ∨ 3 < p0.toInt) := hw
    refine lv_iconst (v := 0) hx hb dX5_turn_4 (by decide) ?_
    refine lv_istore_n (lv' := [(3, .int 0), (0, .ref h0), (1, .int p0), (2, .int p1)]) hx hb dX5_turn_5 rfl hl (by decide) rfl (fun ls hl => ?_)
    refine lv_iconst (v := 0) hx hb dX5_turn_6 (by decide) ?_
    refine lv_istore (lv' := [(4, .int 0), (3, .int 0), (0, .ref h0), (1, .int p0), (2, .int p1)]) hx hb dX5_turn_7 hl (by decide) rfl (fun ls hl => ?_)
    refine lv_iload hx hb dX5_turn_9 (lv_at hl 0 rfl) ?_
    refine lv_aload_n hx hb dX5_turn_11 rfl (lv_at hl 2 rfl) ?_
    refine va_get (D := (dC, dI)) (ci := 11) (v := .int 0) (C := RX5) (T := TX5) (N := 13) hx hb hts (by decide +kernel) hown hK hP 0 rfl rfl 1 (by decide) (hts (.fieldLink RX5 83 "Bothfaces" "cardCount" "I") (by decide +kernel)) (fun _ h9 => h9) rfl dX5_turn_12 ?_
    refine lv_icmp_ge (tgt := 52) hx hb dX5_turn_15 (by decide) (fun c_4 => ?_) (fun c_4 => ?_)
    · refine lv_iload_n hx hb dX5_turn_52 rfl (lv_at hl 1 rfl) ?_
      refine W.widen (k := 1) (n := 6) (Nat.le_of_ble_eq_true rfl) (Nat.le_of_ble_eq_true rfl) ?_
      refine vx_ret ?_
      exact W.iret (v := 0) hx hb hr (fun t ht hW => ⟨⟨0, (), rfl, ⟨(by omega), rfl⟩, trivial⟩, hS.F ht⟩) hS.2.2 dX5_turn_53
    · exact absurd (by decide) c_4

set_option maxHeartbeats 4000000 in
set_option maxRecDepth 100000 in
theorem c_X5_mostTwist (l : Launch) (em : Nat → Nat) (dC : Nat → ClassId) (dI : Nat → Nat → Nat) (h0 : Nat) (g0 : Value) (g2 : Value) (g3 : Value) (g4 : Value) (g5 : Value) (g6 : Value) (g7 : Value) (g8 : Value) (g9 : Value) (g10 : Value) (g11 : Value) (g12 : Value) (sz : Nat) : Met l yX5_mostTwist wsX5_mostTwist ({ frames := 0, cells := 0, slots := 0, locals := 0 }) (va_Pc [.ref h0] (Pw em dC dI sz [(h0, .inr (11, [g0, .int 0, g2, g3, g4, g5, g6, g7, g8, g9, g10, g11, g12]))] [])) (va_Qi (fun (r : Int32) (_ : Unit) => r = 0) (fun _ t => True) (va_A [(h0, .inr (11, [g0, .int 0, g2, g3, g4, g5, g6, g7, g8, g9, g10, g11, g12]))] sz)) 0 0 (va_A [(h0, .inr (11, [g0, .int 0, g2, g3, g4, g5, g6, g7, g8, g9, g10, g11, g12]))] sz) := by
  refine Met.ofW (cc := cX5_mostTwist) (maxL := 3) (ret := (some .int)) (by decide) rfl ?_
  intro p e s m args below meth c s₁ B hml hv
  obtain ⟨rfl, hsz, hP, hK, hD0, hamb⟩ := hv
  have hx := B.exec
  have hb := B.bytes
  have hr := B.returns
  have hts := atoms_spec (ws := wsX5_mostTwist) B.pre
  have hown : s.vm.findClass RX5 = some m.cls := findClass_of_methodNamed B.named
  have hlocks := B.notSynchronized
  subst hsz
  have hD := hD0.self (sz := s.heap.size)
  generalize hAe : va_A [(h0, .inr (11, [g0, .int 0, g2, g3, g4, g5, g6, g7, g8, g9, g10, g11, g12]))] s.heap.size = A at hD hamb ⊢
  have hA : ∀ q : Nat, s.heap.size ≤ q → A q := fun q h => by rw [← hAe]; exact Or.inr h
  have hS : va_S A s.heap s.heap [] := va_S.rf
  have hP : va_P (dC, dI) vwCl [(h0, .inr (11, [g0, .int 0, g2, g3, g4, g5, g6, g7, g8, g9, g10, g11, g12]))] s.heap := hP
  have hl := lv_entry ([.ref h0]) (n := 3) (Nat.le_of_ble_eq_true rfl)
  rw [lg_entry_eq]
  generalize (lg_sl ([.ref h0]) ++ List.replicate (3 - (lg_sl ([.ref h0])).length) Slot.unset).toArray = ls at hl ⊢
  have hl : lv_has ls 3 [(0, .ref h0)] := hl
  refine lv_iconst (v := 0) hx hb dX5_mostTwist_0 (by decide) ?_
  refine lv_istore_n (lv' := [(1, .int 0), (0, .ref h0)]) hx hb dX5_mostTwist_1 rfl hl (by decide) rfl (fun ls hl => ?_)
  refine lv_iconst (v := 0) hx hb dX5_mostTwist_2 (by decide) ?_
  refine lv_istore_n (lv' := [(2, .int 0), (1, .int 0), (0, .ref h0)]) hx hb dX5_mostTwist_3 rfl hl (by decide) rfl (fun ls hl => ?_)
  refine lv_iload_n hx hb dX5_mostTwist_4 rfl (lv_at hl 0 rfl) ?_
  refine lv_aload_n hx hb dX5_mostTwist_5 rfl (lv_at hl 2 rfl) ?_
  refine va_get (D := (dC, dI)) (ci := 11) (v := .int 0) (C := RX5) (T := TX5) (N := 13) hx hb hts (by decide +kernel) hown hK hP 0 rfl rfl 1 (by decide) (hts (.fieldLink RX5 83 "Bothfaces" "cardCount" "I") (by decide +kernel)) (fun _ h9 => h9) rfl dX5_mostTwist_6 ?_
  refine lv_icmp_ge (tgt := 35) hx hb dX5_mostTwist_9 (by decide) (fun c_1 => ?_) (fun c_1 => ?_)
  · refine lv_iload_n hx hb dX5_mostTwist_35 rfl (lv_at hl 1 rfl) ?_
    refine W.widen (k := 0) (n := 0) (Nat.le_of_ble_eq_true rfl) (Nat.le_of_ble_eq_true rfl) ?_
    exact W.iret (v := 0) hx hb hr (fun t ht hW => ⟨⟨0, (), rfl, rfl, trivial⟩, hS.F ht⟩) hS.2.2 dX5_mostTwist_36
  · exact absurd (by decide) c_1

set_option maxHeartbeats 4000000 in
set_option maxRecDepth 100000 in
theorem c_X5_picks (l : Launch) (em : Nat → Nat) (dC : Nat → ClassId) (dI : Nat → Nat → Nat) (h0 : Nat) (g0 : Value) (g1 : Value) (g3 : Value) (g4 : Value) (g5 : Value) (g6 : Value) (g7 : Value) (g8 : Value) (g9 : Value) (g10 : Value) (g11 : Value) (g12 : Value) (sz : Nat) : Met l yX5_picks wsX5_picks ({ frames := 0, cells := 0, slots := 0, locals := 0 }) (va_Pc [.ref h0] (Pw em dC dI sz [(h0, .inr (11, [g0, g1, .int 0, g3, g4, g5, g6, g7, g8, g9, g10, g11, g12]))] [])) (va_Qi (fun (r : Int32) (_ : Unit) => r = 0) (fun _ t => True) (va_A [(h0, .inr (11, [g0, g1, .int 0, g3, g4, g5, g6, g7, g8, g9, g10, g11, g12]))] sz)) 0 0 (va_A [(h0, .inr (11, [g0, g1, .int 0, g3, g4, g5, g6, g7, g8, g9, g10, g11, g12]))] sz) := by
  refine Met.ofW (cc := cX5_picks) (maxL := 1) (ret := (some .int)) (by decide) rfl ?_
  intro p e s m args below meth c s₁ B hml hv
  obtain ⟨rfl, hsz, hP, hK, hD0, hamb⟩ := hv
  have hx := B.exec
  have hb := B.bytes
  have hr := B.returns
  have hts := atoms_spec (ws := wsX5_picks) B.pre
  have hown : s.vm.findClass RX5 = some m.cls := findClass_of_methodNamed B.named
  have hlocks := B.notSynchronized
  subst hsz
  have hD := hD0.self (sz := s.heap.size)
  generalize hAe : va_A [(h0, .inr (11, [g0, g1, .int 0, g3, g4, g5, g6, g7, g8, g9, g10, g11, g12]))] s.heap.size = A at hD hamb ⊢
  have hA : ∀ q : Nat, s.heap.size ≤ q → A q := fun q h => by rw [← hAe]; exact Or.inr h
  have hS : va_S A s.heap s.heap [] := va_S.rf
  have hP : va_P (dC, dI) vwCl [(h0, .inr (11, [g0, g1, .int 0, g3, g4, g5, g6, g7, g8, g9, g10, g11, g12]))] s.heap := hP
  have hl := lv_entry ([.ref h0]) (n := 1) (Nat.le_of_ble_eq_true rfl)
  rw [lg_entry_eq]
  generalize (lg_sl ([.ref h0]) ++ List.replicate (1 - (lg_sl ([.ref h0])).length) Slot.unset).toArray = ls at hl ⊢
  have hl : lv_has ls 1 [(0, .ref h0)] := hl
  refine lv_aload_n hx hb dX5_picks_0 rfl (lv_at hl 0 rfl) ?_
  refine va_get (D := (dC, dI)) (ci := 11) (v := .int 0) (C := RX5) (T := TX5) (N := 13) hx hb hts (by decide +kernel) hown hK hP 0 rfl rfl 2 (by decide) (hts (.fieldLink RX5 74 "Bothfaces" "pickCount" "I") (by decide +kernel)) (fun _ h9 => h9) rfl dX5_picks_1 ?_
  refine W.widen (k := 0) (n := 0) (Nat.le_of_ble_eq_true rfl) (Nat.le_of_ble_eq_true rfl) ?_
  exact W.iret (v := 0) hx hb hr (fun t ht hW => ⟨⟨0, (), rfl, rfl, trivial⟩, hS.F ht⟩) hS.2.2 dX5_picks_4

set_option maxHeartbeats 4000000 in
set_option maxRecDepth 100000 in
theorem c_X5_wipe (l : Launch) (em : Nat → Nat) (dC : Nat → ClassId) (dI : Nat → Nat → Nat) (h0 : Nat) (g0 : Value) (g1 : Value) (g2 : Value) (g3 : Value) (g4 : Value) (g6 : Value) (g7 : Value) (g8 : Value) (g9 : Value) (g10 : Value) (g11 : Value) (g12 : Value) (sz : Nat) : Met l yX5_wipe wsX5_wipe ({ frames := 0, cells := 0, slots := 0, locals := 0 }) (va_Pc [.ref h0] (Pw em dC dI sz [(h0, .inr (11, [g0, g1, g2, g3, g4, .int 0, g6, g7, g8, g9, g10, g11, g12]))] [])) (va_Qi (fun (r : Int32) (_ : Unit) => r = 0) (fun _ t => True) (va_A [(h0, .inr (11, [g0, g1, g2, g3, g4, .int 0, g6, g7, g8, g9, g10, g11, g12]))] sz)) 0 0 (va_A [(h0, .inr (11, [g0, g1, g2, g3, g4, .int 0, g6, g7, g8, g9, g10, g11, g12]))] sz) := by
  refine Met.ofW (cc := cX5_wipe) (maxL := 2) (ret := (some .int)) (by decide) rfl ?_
  intro p e s m args below meth c s₁ B hml hv
  obtain ⟨rfl, hsz, hP, hK, hD0, hamb⟩ := hv
  have hx := B.exec
  have hb := B.bytes
  have hr := B.returns
  have hts := atoms_spec (ws := wsX5_wipe) B.pre
  have hown : s.vm.findClass RX5 = some m.cls := findClass_of_methodNamed B.named
  have hlocks := B.notSynchronized
  subst hsz
  have hD := hD0.self (sz := s.heap.size)
  generalize hAe : va_A [(h0, .inr (11, [g0, g1, g2, g3, g4, .int 0, g6, g7, g8, g9, g10, g11, g12]))] s.heap.size = A at hD hamb ⊢
  have hA : ∀ q : Nat, s.heap.size ≤ q → A q := fun q h => by rw [← hAe]; exact Or.inr h
  have hS : va_S A s.heap s.heap [] := va_S.rf
  have hP : va_P (dC, dI) vwCl [(h0, .inr (11, [g0, g1, g2, g3, g4, .int 0, g6, g7, g8, g9, g10, g11, g12]))] s.heap := hP
  have hl := lv_entry ([.ref h0]) (n := 2) (Nat.le_of_ble_eq_true rfl)
  rw [lg_entry_eq]
  generalize (lg_sl ([.ref h0]) ++ List.replicate (2 - (lg_sl ([.ref h0])).length) Slot.unset).toArray = ls at hl ⊢
  have hl : lv_has ls 2 [(0, .ref h0)] := hl
  refine lv_aload_n hx hb dX5_wipe_0 rfl (lv_at hl 0 rfl) ?_
  refine va_get (D := (dC, dI)) (ci := 11) (v := .int 0) (C := RX5) (T := TX5) (N := 13) hx hb hts (by decide +kernel) hown hK hP 0 rfl rfl 5 (by decide) (hts (.fieldLink RX5 157 "Bothfaces" "typedCount" "I") (by decide +kernel)) (fun _ h9 => h9) rfl dX5_wipe_1 ?_
  refine lv_istore_n (lv' := [(1, .int 0), (0, .ref h0)]) hx hb dX5_wipe_4 rfl hl (by decide) rfl (fun ls hl => ?_)
  refine lv_aload_n hx hb dX5_wipe_5 rfl (lv_at hl 1 rfl) ?_
  refine lv_iconst (v := 0) hx hb dX5_wipe_6 (by decide) ?_
  refine va_put (D := (dC, dI)) (ci := 11) (v := .int 0) (ty := .int) (C := RX5) (T := TX5) (N := 13) hx hb hts (by decide +kernel) tyX5 tyX5_ok nmX5 hown hK hP hD hS 0 rfl rfl 5 (by decide) (hts (.fieldLink RX5 157 "Bothfaces" "typedCount" "I") (by decide +kernel)) (fun _ h9 => h9) rfl (by decide +kernel) rfl rfl (Nat.le_of_ble_eq_true rfl) dX5_wipe_7 (fun H locs hP hD hS => ?_)
  have hP : va_P (dC, dI) vwCl [(h0, .inr (11, [g0, g1, g2, g3, g4, .int 0, g6, g7, g8, g9, g10, g11, g12]))] H := hP
  have hD : va_D A [(h0, .inr (11, [g0, g1, g2, g3, g4, .int 0, g6, g7, g8, g9, g10, g11, g12]))] := hD
  refine lv_iload_n hx hb dX5_wipe_10 rfl (lv_at hl 0 rfl) ?_
  refine W.widen (k := 0) (n := 0) (Nat.le_of_ble_eq_true rfl) (Nat.le_of_ble_eq_true rfl) ?_
  exact W.iret (v := 0) hx hb hr (fun t ht hW => ⟨⟨0, (), rfl, rfl, trivial⟩, hS.F ht⟩) hS.2.2 dX5_wipe_11

set_option maxHeartbeats 4000000 in
set_option maxRecDepth 100000 in
theorem c_X5_faults (l : Launch) (em : Nat → Nat) (dC : Nat → ClassId) (dI : Nat → Nat → Nat) (h0 : Nat) (p0 : Int32) (g0 : Value) (g2 : Value) (g3 : Value) (g4 : Value) (g5 : Value) (g6 : Value) (g7 : Value) (g8 : Value) (g9 : Value) (g10 : Value) (g11 : Value) (g12 : Value) (sz : Nat) : Met l yX5_faults wsX5_faults ({ frames := 0, cells := 0, slots := 0, locals := 0 }) (va_Pc [.ref h0, .int p0] (Pw em dC dI sz [(h0, .inr (11, [g0, .int 0, g2, g3, g4, g5, g6, g7, g8, g9, g10, g11, g12]))] [])) (va_Qi (fun (r : Int32) (_ : Unit) => r = 0) (fun _ t => True) (va_A [(h0, .inr (11, [g0, .int 0, g2, g3, g4, g5, g6, g7, g8, g9, g10, g11, g12]))] sz)) 0 0 (va_A [(h0, .inr (11, [g0, .int 0, g2, g3, g4, g5, g6, g7, g8, g9, g10, g11, g12]))] sz) := by
  refine Met.ofW (cc := cX5_faults) (maxL := 4) (ret := (some .int)) (by decide) rfl ?_
  intro p e s m args below meth c s₁ B hml hv
  obtain ⟨rfl, hsz, hP, hK, hD0, hamb⟩ := hv
  have hx := B.exec
  have hb := B.bytes
  have hr := B.returns
  have hts := atoms_spec (ws := wsX5_faults) B.pre
  have hown : s.vm.findClass RX5 = some m.cls := findClass_of_methodNamed B.named
  have hlocks := B.notSynchronized
  subst hsz
  have hD := hD0.self (sz := s.heap.size)
  generalize hAe : va_A [(h0, .inr (11, [g0, .int 0, g2, g3, g4, g5, g6, g7, g8, g9, g10, g11, g12]))] s.heap.size = A at hD hamb ⊢
  have hA : ∀ q : Nat, s.heap.size ≤ q → A q := fun q h => by rw [← hAe]; exact Or.inr h
  have hS : va_S A s.heap s.heap [] := va_S.rf
  have hP : va_P (dC, dI) vwCl [(h0, .inr (11, [g0, .int 0, g2, g3, g4, g5, g6, g7, g8, g9, g10, g11, g12]))] s.heap := hP
  have hl := lv_entry ([.ref h0, .int p0]) (n := 4) (Nat.le_of_ble_eq_true rfl)
  rw [lg_entry_eq]
  generalize (lg_sl ([.ref h0, .int p0]) ++ List.replicate (4 - (lg_sl ([.ref h0, .int p0])).length) Slot.unset).toArray = ls at hl ⊢
  have hl : lv_has ls 4 [(0, .ref h0), (1, .int p0)] := hl
  refine lv_iconst (v := 0) hx hb dX5_faults_0 (by decide) ?_
  refine lv_istore_n (lv' := [(2, .int 0), (0, .ref h0), (1, .int p0)]) hx hb dX5_faults_1 rfl hl (by decide) rfl (fun ls hl => ?_)
  refine lv_iconst (v := 0) hx hb dX5_faults_2 (by decide) ?_
  refine lv_istore_n (lv' := [(3, .int 0), (2, .int 0), (0, .ref h0), (1, .int p0)]) hx hb dX5_faults_3 rfl hl (by decide) rfl (fun ls hl => ?_)
  refine lv_iload_n hx hb dX5_faults_4 rfl (lv_at hl 0 rfl) ?_
  refine lv_aload_n hx hb dX5_faults_5 rfl (lv_at hl 2 rfl) ?_
  refine va_get (D := (dC, dI)) (ci := 11) (v := .int 0) (C := RX5) (T := TX5) (N := 13) hx hb hts (by decide +kernel) hown hK hP 0 rfl rfl 1 (by decide) (hts (.fieldLink RX5 83 "Bothfaces" "cardCount" "I") (by decide +kernel)) (fun _ h9 => h9) rfl dX5_faults_6 ?_
  refine lv_icmp_ge (tgt := 27) hx hb dX5_faults_9 (by decide) (fun c_1 => ?_) (fun c_1 => ?_)
  · refine lv_iload_n hx hb dX5_faults_27 rfl (lv_at hl 1 rfl) ?_
    refine W.widen (k := 0) (n := 0) (Nat.le_of_ble_eq_true rfl) (Nat.le_of_ble_eq_true rfl) ?_
    exact W.iret (v := 0) hx hb hr (fun t ht hW => ⟨⟨0, (), rfl, rfl, trivial⟩, hS.F ht⟩) hS.2.2 dX5_faults_28
  · exact absurd (by decide) c_1

set_option maxHeartbeats 4000000 in
set_option maxRecDepth 100000 in
theorem c_X5_kinds (l : Launch) (em : Nat → Nat) (dC : Nat → ClassId) (dI : Nat → Nat → Nat) (h0 : Nat) (g0 : Value) (g2 : Value) (g3 : Value) (g4 : Value) (g5 : Value) (g6 : Value) (g7 : Value) (g8 : Value) (g9 : Value) (g10 : Value) (g11 : Value) (g12 : Value) (sz : Nat) : Met l yX5_kinds wsX5_kinds ({ frames := 0, cells := 0, slots := 0, locals := 0 }) (va_Pc [.ref h0] (Pw em dC dI sz [(h0, .inr (11, [g0, .int 0, g2, g3, g4, g5, g6, g7, g8, g9, g10, g11, g12]))] [])) (va_Qi (fun (r : Int32) (_ : Unit) => r = 0) (fun _ t => True) (va_A [(h0, .inr (11, [g0, .int 0, g2, g3, g4, g5, g6, g7, g8, g9, g10, g11, g12]))] sz)) 0 0 (va_A [(h0, .inr (11, [g0, .int 0, g2, g3, g4, g5, g6, g7, g8, g9, g10, g11, g12]))] sz) := by
  refine Met.ofW (cc := cX5_kinds) (maxL := 3) (ret := (some .int)) (by decide) rfl ?_
  intro p e s m args below meth c s₁ B hml hv
  obtain ⟨rfl, hsz, hP, hK, hD0, hamb⟩ := hv
  have hx := B.exec
  have hb := B.bytes
  have hr := B.returns
  have hts := atoms_spec (ws := wsX5_kinds) B.pre
  have hown : s.vm.findClass RX5 = some m.cls := findClass_of_methodNamed B.named
  have hlocks := B.notSynchronized
  subst hsz
  have hD := hD0.self (sz := s.heap.size)
  generalize hAe : va_A [(h0, .inr (11, [g0, .int 0, g2, g3, g4, g5, g6, g7, g8, g9, g10, g11, g12]))] s.heap.size = A at hD hamb ⊢
  have hA : ∀ q : Nat, s.heap.size ≤ q → A q := fun q h => by rw [← hAe]; exact Or.inr h
  have hS : va_S A s.heap s.heap [] := va_S.rf
  have hP : va_P (dC, dI) vwCl [(h0, .inr (11, [g0, .int 0, g2, g3, g4, g5, g6, g7, g8, g9, g10, g11, g12]))] s.heap := hP
  have hl := lv_entry ([.ref h0]) (n := 3) (Nat.le_of_ble_eq_true rfl)
  rw [lg_entry_eq]
  generalize (lg_sl ([.ref h0]) ++ List.replicate (3 - (lg_sl ([.ref h0])).length) Slot.unset).toArray = ls at hl ⊢
  have hl : lv_has ls 3 [(0, .ref h0)] := hl
  refine lv_iconst (v := 0) hx hb dX5_kinds_0 (by decide) ?_
  refine lv_istore_n (lv' := [(1, .int 0), (0, .ref h0)]) hx hb dX5_kinds_1 rfl hl (by decide) rfl (fun ls hl => ?_)
  refine lv_iconst (v := 0) hx hb dX5_kinds_2 (by decide) ?_
  refine lv_istore_n (lv' := [(2, .int 0), (1, .int 0), (0, .ref h0)]) hx hb dX5_kinds_3 rfl hl (by decide) rfl (fun ls hl => ?_)
  refine lv_iload_n hx hb dX5_kinds_4 rfl (lv_at hl 0 rfl) ?_
  refine lv_aload_n hx hb dX5_kinds_5 rfl (lv_at hl 2 rfl) ?_
  refine va_get (D := (dC, dI)) (ci := 11) (v := .int 0) (C := RX5) (T := TX5) (N := 13) hx hb hts (by decide +kernel) hown hK hP 0 rfl rfl 1 (by decide) (hts (.fieldLink RX5 83 "Bothfaces" "cardCount" "I") (by decide +kernel)) (fun _ h9 => h9) rfl dX5_kinds_6 ?_
  refine lv_icmp_ge (tgt := 29) hx hb dX5_kinds_9 (by decide) (fun c_1 => ?_) (fun c_1 => ?_)
  · refine lv_iload_n hx hb dX5_kinds_29 rfl (lv_at hl 1 rfl) ?_
    refine W.widen (k := 0) (n := 0) (Nat.le_of_ble_eq_true rfl) (Nat.le_of_ble_eq_true rfl) ?_
    exact W.iret (v := 0) hx hb hr (fun t ht hW => ⟨⟨0, (), rfl, rfl, trivial⟩, hS.F ht⟩) hS.2.2 dX5_kinds_30
  · exact absurd (by decide) c_1

set_option maxHeartbeats 4000000 in
set_option maxRecDepth 100000 in
theorem c_X5_pick (l : Launch) (hlt : l.stackTraces = false) (em : Nat → Nat) (dC : Nat → ClassId) (dI : Nat → Nat → Nat) (h0 : Nat) (g0 : Value) (g2 : Value) (g3 : Value) (g4 : Value) (g5 : Value) (g6 : Value) (g7 : Value) (g8 : Value) (g9 : Value) (g10 : Value) (g11 : Value) (g12 : Value) (sz : Nat) : vx_Met l yX5_pick wsX5_pick ({ frames := 6, cells := 1, slots := 6, locals := 82 }) (va_Pc [.ref h0] (Pw em dC dI sz [(h0, .inr (11, [g0, .int 0, g2, g3, g4, g5, g6, g7, g8, g9, g10, g11, g12]))] [])) (va_Qi (fun (r : Int32) (_ : Unit) => False) (fun _ t => True) (va_A [(h0, .inr (11, [g0, .int 0, g2, g3, g4, g5, g6, g7, g8, g9, g10, g11, g12]))] sz)) (vx_X (fun _ : Unit => True) (fun E _ _ => (E = "java/lang/UnsupportedOperationException" ∧ True)) (va_A [(h0, .inr (11, [g0, .int 0, g2, g3, g4, g5, g6, g7, g8, g9, g10, g11, g12]))] sz)) 1 6 (va_A [(h0, .inr (11, [g0, .int 0, g2, g3, g4, g5, g6, g7, g8, g9, g10, g11, g12]))] sz) := by
  refine vx_ofW (cc := cX5_pick) (maxL := 1) (ret := (some .int)) (by decide) rfl ?_
  intro p e s m args below meth c s₁ B hml htab hv
  obtain ⟨rfl, hsz, hP, hK, hD0, hamb⟩ := hv
  have hx := B.exec
  have hb := B.bytes
  have hr := B.returns
  have hts := atoms_spec (ws := wsX5_pick) B.pre
  have hown : s.vm.findClass RX5 = some m.cls := findClass_of_methodNamed B.named
  have hlocks := B.notSynchronized
  subst hsz
  have hD := hD0.self (sz := s.heap.size)
  generalize hAe : va_A [(h0, .inr (11, [g0, .int 0, g2, g3, g4, g5, g6, g7, g8, g9, g10, g11, g12]))] s.heap.size = A at hD hamb ⊢
  have hA : ∀ q : Nat, s.heap.size ≤ q → A q := fun q h => by rw [← hAe]; exact Or.inr h
  have hS : va_S A s.heap s.heap [] := va_S.rf
  have hP : va_P (dC, dI) vwCl [(h0, .inr (11, [g0, .int 0, g2, g3, g4, g5, g6, g7, g8, g9, g10, g11, g12]))] s.heap := hP
  have hl := lv_entry ([.ref h0]) (n := 1) (Nat.le_of_ble_eq_true rfl)
  rw [lg_entry_eq]
  generalize (lg_sl ([.ref h0]) ++ List.replicate (1 - (lg_sl ([.ref h0])).length) Slot.unset).toArray = ls at hl ⊢
  have hl : lv_has ls 1 [(0, .ref h0)] := hl
  refine lv_aload_n hx hb dX5_pick_0 rfl (lv_at hl 0 rfl) ?_
  refine va_get (D := (dC, dI)) (ci := 11) (v := .int 0) (C := RX5) (T := TX5) (N := 13) hx hb hts (by decide +kernel) hown hK hP 0 rfl rfl 1 (by decide) (hts (.fieldLink RX5 83 "Bothfaces" "cardCount" "I") (by decide +kernel)) (fun _ h9 => h9) rfl dX5_pick_1 ?_
  refine lv_if_ne (tgt := 17) hx hb dX5_pick_4 (by decide) (fun c_1 => ?_) (fun c_1 => ?_)
  · exact absurd (by decide) c_1
  · obtain ⟨sa, hsa⟩ := hamb.strs (RX5, 128, "there are no cards") (by decide +kernel)
    exact vx_throwS (names := ["java/lang/RuntimeException", "java/lang/Exception"]) hx hb hlt hown (by decide +kernel) (by decide +kernel) (hts (.classLink RX5 78 "java/lang/UnsupportedOperationException") (by decide +kernel)) (hts (.initialized "java/lang/UnsupportedOperationException") (by decide +kernel)) hsa (vx_hat (B := ambW) (fun w hw => hts w (List.mem_cons_of_mem _ (List.mem_append_left _ (List.mem_append_left _ (List.mem_append_right _ hw))))) (by decide +kernel) (fun w hw => hamb.use hw)) (by decide +kernel) hamb.us hamb.ss hS (by rw [hml]; exact hl.1) dX5_pick_7 dX5_pick_10 dX5_pick_11 dX5_pick_13 dX5_pick_16 (fun x hxx => (htab x hxx).elim) (Nat.le_of_ble_eq_true rfl) (Nat.le_of_ble_eq_true rfl) (Nat.le_of_ble_eq_true rfl) (Nat.le_of_ble_eq_true rfl) hlocks (fun t ha h1 h2 => ⟨(), trivial, (⟨rfl, trivial⟩), xc_F hS h1 h2⟩) hS.2.2 (Nat.le_of_ble_eq_true rfl) (Nat.le_of_ble_eq_true rfl)

set_option maxHeartbeats 4000000 in
set_option maxRecDepth 100000 in
theorem c_X5_unweave (l : Launch) (hlt : l.stackTraces = false) (em : Nat → Nat) (dC : Nat → ClassId) (dI : Nat → Nat → Nat) (h0 : Nat) (g0 : Value) (g1 : Value) (g3 : Value) (g4 : Value) (g5 : Value) (g6 : Value) (g7 : Value) (g8 : Value) (g9 : Value) (g10 : Value) (g11 : Value) (g12 : Value) (sz : Nat) : vx_Met l yX5_unweave wsX5_unweave ({ frames := 6, cells := 1, slots := 6, locals := 82 }) (va_Pc [.ref h0] (Pw em dC dI sz [(h0, .inr (11, [g0, g1, .int 0, g3, g4, g5, g6, g7, g8, g9, g10, g11, g12]))] [])) (va_Qi (fun (r : Int32) (_ : Unit) => False) (fun _ t => True) (va_A [(h0, .inr (11, [g0, g1, .int 0, g3, g4, g5, g6, g7, g8, g9, g10, g11, g12]))] sz)) (vx_X (fun _ : Unit => True) (fun E _ _ => (E = "java/lang/UnsupportedOperationException" ∧ True)) (va_A [(h0, .inr (11, [g0, g1, .int 0, g3, g4, g5, g6, g7, g8, g9, g10, g11, g12]))] sz)) 1 6 (va_A [(h0, .inr (11, [g0, g1, .int 0, g3, g4, g5, g6, g7, g8, g9, g10, g11, g12]))] sz) := by
  refine vx_ofW (cc := cX5_unweave) (maxL := 2) (ret := (some .int)) (by decide) rfl ?_
  intro p e s m args below meth c s₁ B hml htab hv
  obtain ⟨rfl, hsz, hP, hK, hD0, hamb⟩ := hv
  have hx := B.exec
  have hb := B.bytes
  have hr := B.returns
  have hts := atoms_spec (ws := wsX5_unweave) B.pre
  have hown : s.vm.findClass RX5 = some m.cls := findClass_of_methodNamed B.named
  have hlocks := B.notSynchronized
  subst hsz
  have hD := hD0.self (sz := s.heap.size)
  generalize hAe : va_A [(h0, .inr (11, [g0, g1, .int 0, g3, g4, g5, g6, g7, g8, g9, g10, g11, g12]))] s.heap.size = A at hD hamb ⊢
  have hA : ∀ q : Nat, s.heap.size ≤ q → A q := fun q h => by rw [← hAe]; exact Or.inr h
  have hS : va_S A s.heap s.heap [] := va_S.rf
  have hP : va_P (dC, dI) vwCl [(h0, .inr (11, [g0, g1, .int 0, g3, g4, g5, g6, g7, g8, g9, g10, g11, g12]))] s.heap := hP
  have hl := lv_entry ([.ref h0]) (n := 2) (Nat.le_of_ble_eq_true rfl)
  rw [lg_entry_eq]
  generalize (lg_sl ([.ref h0]) ++ List.replicate (2 - (lg_sl ([.ref h0])).length) Slot.unset).toArray = ls at hl ⊢
  have hl : lv_has ls 2 [(0, .ref h0)] := hl
  refine lv_aload_n hx hb dX5_unweave_0 rfl (lv_at hl 0 rfl) ?_
  refine va_get (D := (dC, dI)) (ci := 11) (v := .int 0) (C := RX5) (T := TX5) (N := 13) hx hb hts (by decide +kernel) hown hK hP 0 rfl rfl 2 (by decide) (hts (.fieldLink RX5 74 "Bothfaces" "pickCount" "I") (by decide +kernel)) (fun _ h9 => h9) rfl dX5_unweave_1 ?_
  refine lv_if_ne (tgt := 17) hx hb dX5_unweave_4 (by decide) (fun c_1 => ?_) (fun c_1 => ?_)
  · exact absurd (by decide) c_1
  · obtain ⟨sa, hsa⟩ := hamb.strs (RX5, 135, "there is no pick") (by decide +kernel)
    exact vx_throwS (names := ["java/lang/RuntimeException", "java/lang/Exception"]) hx hb hlt hown (by decide +kernel) (by decide +kernel) (hts (.classLink RX5 78 "java/lang/UnsupportedOperationException") (by decide +kernel)) (hts (.initialized "java/lang/UnsupportedOperationException") (by decide +kernel)) hsa (vx_hat (B := ambW) (fun w hw => hts w (List.mem_cons_of_mem _ (List.mem_append_left _ (List.mem_append_right _ hw)))) (by decide +kernel) (fun w hw => hamb.use hw)) (by decide +kernel) hamb.us hamb.ss hS (by rw [hml]; exact hl.1) dX5_unweave_7 dX5_unweave_10 dX5_unweave_11 dX5_unweave_13 dX5_unweave_16 (fun x hxx => (htab x hxx).elim) (Nat.le_of_ble_eq_true rfl) (Nat.le_of_ble_eq_true rfl) (Nat.le_of_ble_eq_true rfl) (Nat.le_of_ble_eq_true rfl) hlocks (fun t ha h1 h2 => ⟨(), trivial, (⟨rfl, trivial⟩), xc_F hS h1 h2⟩) hS.2.2 (Nat.le_of_ble_eq_true rfl) (Nat.le_of_ble_eq_true rfl)

set_option maxHeartbeats 4000000 in
set_option maxRecDepth 100000 in
theorem c_X5_firstFault (l : Launch) (hlt : l.stackTraces = false) (em : Nat → Nat) (dC : Nat → ClassId) (dI : Nat → Nat → Nat) (h0 : Nat) (g0 : Value) (g1 : Value) (g3 : Value) (g4 : Value) (g5 : Value) (g6 : Value) (g7 : Value) (g8 : Value) (g9 : Value) (g10 : Value) (g11 : Value) (g12 : Value) (sz : Nat) : vx_Met l yX5_firstFault wsX5_firstFault ({ frames := 6, cells := 1, slots := 6, locals := 82 }) (va_Pc [.ref h0] (Pw em dC dI sz [(h0, .inr (11, [g0, g1, .int 0, g3, g4, g5, g6, g7, g8, g9, g10, g11, g12]))] [])) (va_Qi (fun (r : Int32) (_ : Unit) => False) (fun _ t => True) (va_A [(h0, .inr (11, [g0, g1, .int 0, g3, g4, g5, g6, g7, g8, g9, g10, g11, g12]))] sz)) (vx_X (fun _ : Unit => True) (fun E _ _ => (E = "java/util/NoSuchElementException" ∧ True)) (va_A [(h0, .inr (11, [g0, g1, .int 0, g3, g4, g5, g6, g7, g8, g9, g10, g11, g12]))] sz)) 1 6 (va_A [(h0, .inr (11, [g0, g1, .int 0, g3, g4, g5, g6, g7, g8, g9, g10, g11, g12]))] sz) := by
  refine vx_ofW (cc := cX5_firstFault) (maxL := 3) (ret := (some .int)) (by decide) rfl ?_
  intro p e s m args below meth c s₁ B hml htab hv
  obtain ⟨rfl, hsz, hP, hK, hD0, hamb⟩ := hv
  have hx := B.exec
  have hb := B.bytes
  have hr := B.returns
  have hts := atoms_spec (ws := wsX5_firstFault) B.pre
  have hown : s.vm.findClass RX5 = some m.cls := findClass_of_methodNamed B.named
  have hlocks := B.notSynchronized
  subst hsz
  have hD := hD0.self (sz := s.heap.size)
  generalize hAe : va_A [(h0, .inr (11, [g0, g1, .int 0, g3, g4, g5, g6, g7, g8, g9, g10, g11, g12]))] s.heap.size = A at hD hamb ⊢
  have hA : ∀ q : Nat, s.heap.size ≤ q → A q := fun q h => by rw [← hAe]; exact Or.inr h
  have hS : va_S A s.heap s.heap [] := va_S.rf
  have hP : va_P (dC, dI) vwCl [(h0, .inr (11, [g0, g1, .int 0, g3, g4, g5, g6, g7, g8, g9, g10, g11, g12]))] s.heap := hP
  have hl := lv_entry ([.ref h0]) (n := 3) (Nat.le_of_ble_eq_true rfl)
  rw [lg_entry_eq]
  generalize (lg_sl ([.ref h0]) ++ List.replicate (3 - (lg_sl ([.ref h0])).length) Slot.unset).toArray = ls at hl ⊢
  have hl : lv_has ls 3 [(0, .ref h0)] := hl
  refine lv_iconst (v := 0) hx hb dX5_firstFault_0 (by decide) ?_
  refine lv_istore_n (lv' := [(1, .int 0), (0, .ref h0)]) hx hb dX5_firstFault_1 rfl hl (by decide) rfl (fun ls hl => ?_)
  refine lv_iload_n hx hb dX5_firstFault_2 rfl (lv_at hl 0 rfl) ?_
  refine lv_aload_n hx hb dX5_firstFault_3 rfl (lv_at hl 1 rfl) ?_
  refine va_get (D := (dC, dI)) (ci := 11) (v := .int 0) (C := RX5) (T := TX5) (N := 13) hx hb hts (by decide +kernel) hown hK hP 0 rfl rfl 2 (by decide) (hts (.fieldLink RX5 74 "Bothfaces" "pickCount" "I") (by decide +kernel)) (fun _ h9 => h9) rfl dX5_firstFault_4 ?_
  refine lv_icmp_ge (tgt := 43) hx hb dX5_firstFault_7 (by decide) (fun c_1 => ?_) (fun c_1 => ?_)
  · obtain ⟨sa, hsa⟩ := hamb.strs (RX5, 223, "there is no fault") (by decide +kernel)
    exact vx_throwSX (names := ["java/lang/RuntimeException", "java/lang/Exception"]) hx hb hlt hown (by decide +kernel) (by decide +kernel) (hts (.classLink RX5 207 "java/util/NoSuchElementException") (by decide +kernel)) (hts (.initialized "java/util/NoSuchElementException") (by decide +kernel)) hsa (vx_hat (B := ambW) (fun w hw => hts w (List.mem_cons_of_mem _ (List.mem_append_left _ (List.mem_append_right _ hw)))) (by decide +kernel) (fun w hw => hamb.use hw)) (by decide +kernel) hamb.us hamb.ss hS (by rw [hml]; exact hl.1) dX5_firstFault_43 dX5_firstFault_46 dX5_firstFault_47 dX5_firstFault_49 dX5_firstFault_52 (fun x hxx => (htab x hxx).elim) (Nat.le_of_ble_eq_true rfl) (Nat.le_of_ble_eq_true rfl) (Nat.le_of_ble_eq_true rfl) (Nat.le_of_ble_eq_true rfl) hlocks (fun t ha h1 h2 => ⟨(), trivial, (⟨rfl, trivial⟩), xc_F hS h1 h2⟩) hS.2.2 (Nat.le_of_ble_eq_true rfl) (Nat.le_of_ble_eq_true rfl)
  · exact absurd (by decide) c_1

set_option maxHeartbeats 4000000 in
set_option maxRecDepth 100000 in
theorem c_X5_suspect (l : Launch) (hlt : l.stackTraces = false) (em : Nat → Nat) (dC : Nat → ClassId) (dI : Nat → Nat → Nat) (h0 : Nat) (g0 : Value) (g2 : Value) (g3 : Value) (g4 : Value) (g5 : Value) (g6 : Value) (g7 : Value) (g8 : Value) (g9 : Value) (g10 : Value) (g11 : Value) (g12 : Value) (sz : Nat) : vx_Met l yX5_suspect wsX5_suspect ({ frames := 6, cells := 1, slots := 6, locals := 82 }) (va_Pc [.ref h0] (Pw em dC dI sz [(h0, .inr (11, [g0, .int 0, g2, g3, g4, g5, g6, g7, g8, g9, g10, g11, g12]))] [])) (va_Qi (fun (r : Int32) (_ : Unit) => False) (fun _ t => True) (va_A [(h0, .inr (11, [g0, .int 0, g2, g3, g4, g5, g6, g7, g8, g9, g10, g11, g12]))] sz)) (vx_X (fun _ : Unit => True) (fun E _ _ => (E = "java/util/NoSuchElementException" ∧ True)) (va_A [(h0, .inr (11, [g0, .int 0, g2, g3, g4, g5, g6, g7, g8, g9, g10, g11, g12]))] sz)) 1 6 (va_A [(h0, .inr (11, [g0, .int 0, g2, g3, g4, g5, g6, g7, g8, g9, g10, g11, g12]))] sz) := by
  refine vx_ofW (cc := cX5_suspect) (maxL := 5) (ret := (some .int)) (by decide) rfl ?_
  intro p e s m args below meth c s₁ B hml htab hv
  obtain ⟨rfl, hsz, hP, hK, hD0, hamb⟩ := hv
  have hx := B.exec
  have hb := B.bytes
  have hr := B.returns
  have hts := atoms_spec (ws := wsX5_suspect) B.pre
  have hown : s.vm.findClass RX5 = some m.cls := findClass_of_methodNamed B.named
  have hlocks := B.notSynchronized
  subst hsz
  have hD := hD0.self (sz := s.heap.size)
  generalize hAe : va_A [(h0, .inr (11, [g0, .int 0, g2, g3, g4, g5, g6, g7, g8, g9, g10, g11, g12]))] s.heap.size = A at hD hamb ⊢
  have hA : ∀ q : Nat, s.heap.size ≤ q → A q := fun q h => by rw [← hAe]; exact Or.inr h
  have hS : va_S A s.heap s.heap [] := va_S.rf
  have hP : va_P (dC, dI) vwCl [(h0, .inr (11, [g0, .int 0, g2, g3, g4, g5, g6, g7, g8, g9, g10, g11, g12]))] s.heap := hP
  have hl := lv_entry ([.ref h0]) (n := 5) (Nat.le_of_ble_eq_true rfl)
  rw [lg_entry_eq]
  generalize (lg_sl ([.ref h0]) ++ List.replicate (5 - (lg_sl ([.ref h0])).length) Slot.unset).toArray = ls at hl ⊢
  have hl : lv_has ls 5 [(0, .ref h0)] := hl
  refine lv_iconst (v := 0) hx hb dX5_suspect_0 (by decide) ?_
  refine lv_istore_n (lv' := [(1, .int 0), (0, .ref h0)]) hx hb dX5_suspect_1 rfl hl (by decide) rfl (fun ls hl => ?_)
  refine lv_iconst (v := 0) hx hb dX5_suspect_2 (by decide) ?_
  refine lv_istore_n (lv' := [(2, .int 0), (1, .int 0), (0, .ref h0)]) hx hb dX5_suspect_3 rfl hl (by decide) rfl (fun ls hl => ?_)
  refine lv_iconst (v := 0) hx hb dX5_suspect_4 (by decide) ?_
  refine lv_istore_n (lv' := [(3, .int 0), (2, .int 0), (1, .int 0), (0, .ref h0)]) hx hb dX5_suspect_5 rfl hl (by decide) rfl (fun ls hl => ?_)
  refine lv_iload_n hx hb dX5_suspect_6 rfl (lv_at hl 0 rfl) ?_
  refine lv_aload_n hx hb dX5_suspect_7 rfl (lv_at hl 3 rfl) ?_
  refine va_get (D := (dC, dI)) (ci := 11) (v := .int 0) (C := RX5) (T := TX5) (N := 13) hx hb hts (by decide +kernel) hown hK hP 0 rfl rfl 1 (by decide) (hts (.fieldLink RX5 83 "Bothfaces" "cardCount" "I") (by decide +kernel)) (fun _ h9 => h9) rfl dX5_suspect_8 ?_
  refine lv_icmp_ge (tgt := 46) hx hb dX5_suspect_11 (by decide) (fun c_1 => ?_) (fun c_1 => ?_)
  · refine lv_iload_n hx hb dX5_suspect_46 rfl (lv_at hl 1 rfl) ?_
    refine lv_if_ne (tgt := 60) hx hb dX5_suspect_47 (by decide) (fun c_2 => ?_) (fun c_2 => ?_)
    · exact absurd (by decide) c_2
    · obtain ⟨sa, hsa⟩ := hamb.strs (RX5, 223, "there is no fault") (by decide +kernel)
      exact vx_throwSX (names := ["java/lang/RuntimeException", "java/lang/Exception"]) hx hb hlt hown (by decide +kernel) (by decide +kernel) (hts (.classLink RX5 207 "java/util/NoSuchElementException") (by decide +kernel)) (hts (.initialized "java/util/NoSuchElementException") (by decide +kernel)) hsa (vx_hat (B := ambW) (fun w hw => hts w (List.mem_cons_of_mem _ (List.mem_append_left _ (List.mem_append_right _ hw)))) (by decide +kernel) (fun w hw => hamb.use hw)) (by decide +kernel) hamb.us hamb.ss hS (by rw [hml]; exact hl.1) dX5_suspect_50 dX5_suspect_53 dX5_suspect_54 dX5_suspect_56 dX5_suspect_59 (fun x hxx => (htab x hxx).elim) (Nat.le_of_ble_eq_true rfl) (Nat.le_of_ble_eq_true rfl) (Nat.le_of_ble_eq_true rfl) (Nat.le_of_ble_eq_true rfl) hlocks (fun t ha h1 h2 => ⟨(), trivial, (⟨rfl, trivial⟩), xc_F hS h1 h2⟩) hS.2.2 (Nat.le_of_ble_eq_true rfl) (Nat.le_of_ble_eq_true rfl)
  · exact absurd (by decide) c_1

set_option maxHeartbeats 4000000 in
set_option maxRecDepth 100000 in
theorem c_X5_hand (l : Launch) (hlt : l.stackTraces = false) (em : Nat → Nat) (dC : Nat → ClassId) (dI : Nat → Nat → Nat) (h0 : Nat) (g0 : Value) (g1 : Value) (g2 : Value) (g3 : Value) (g4 : Value) (g5 : Value) (g6 : Value) (g7 : Value) (g8 : Value) (g9 : Value) (g10 : Value) (g12 : Value) (sz : Nat) : vx_Met l yX5_hand wsX5_hand ({ frames := 6, cells := 1, slots := 6, locals := 82 }) (va_Pc [.ref h0] (Pw em dC dI sz [(h0, .inr (11, [g0, g1, g2, g3, g4, g5, g6, g7, g8, g9, g10, .int 0, g12]))] [])) (va_Qi (fun (r : Int32) (_ : Unit) => False) (fun _ t => True) (va_A [(h0, .inr (11, [g0, g1, g2, g3, g4, g5, g6, g7, g8, g9, g10, .int 0, g12]))] sz)) (vx_X (fun _ : Unit => True) (fun E _ _ => (E = "java/util/NoSuchElementException" ∧ True)) (va_A [(h0, .inr (11, [g0, g1, g2, g3, g4, g5, g6, g7, g8, g9, g10, .int 0, g12]))] sz)) 1 6 (va_A [(h0, .inr (11, [g0, g1, g2, g3, g4, g5, g6, g7, g8, g9, g10, .int 0, g12]))] sz) := by
  refine vx_ofW (cc := cX5_hand) (maxL := 6) (ret := (some .int)) (by decide) rfl ?_
  intro p e s m args below meth c s₁ B hml htab hv
  obtain ⟨rfl, hsz, hP, hK, hD0, hamb⟩ := hv
  have hx := B.exec
  have hb := B.bytes
  have hr := B.returns
  have hts := atoms_spec (ws := wsX5_hand) B.pre
  have hown : s.vm.findClass RX5 = some m.cls := findClass_of_methodNamed B.named
  have hlocks := B.notSynchronized
  subst hsz
  have hD := hD0.self (sz := s.heap.size)
  generalize hAe : va_A [(h0, .inr (11, [g0, g1, g2, g3, g4, g5, g6, g7, g8, g9, g10, .int 0, g12]))] s.heap.size = A at hD hamb ⊢
  have hA : ∀ q : Nat, s.heap.size ≤ q → A q := fun q h => by rw [← hAe]; exact Or.inr h
  have hS : va_S A s.heap s.heap [] := va_S.rf
  have hP : va_P (dC, dI) vwCl [(h0, .inr (11, [g0, g1, g2, g3, g4, g5, g6, g7, g8, g9, g10, .int 0, g12]))] s.heap := hP
  have hl := lv_entry ([.ref h0]) (n := 6) (Nat.le_of_ble_eq_true rfl)
  rw [lg_entry_eq]
  generalize (lg_sl ([.ref h0]) ++ List.replicate (6 - (lg_sl ([.ref h0])).length) Slot.unset).toArray = ls at hl ⊢
  have hl : lv_has ls 6 [(0, .ref h0)] := hl
  refine lv_aload_n hx hb dX5_hand_0 rfl (lv_at hl 0 rfl) ?_
  refine va_get (D := (dC, dI)) (ci := 11) (v := .int 0) (C := RX5) (T := TX5) (N := 13) hx hb hts (by decide +kernel) hown hK hP 0 rfl rfl 11 (by decide) (hts (.fieldLink RX5 239 "Bothfaces" "weaverCount" "I") (by decide +kernel)) (fun _ h9 => h9) rfl dX5_hand_1 ?_
  refine lv_if_eq (tgt := 14) hx hb dX5_hand_4 (by decide) (fun c_1 => ?_) (fun c_1 => ?_)
  · obtain ⟨sa, hsa⟩ := hamb.strs (RX5, 244, "there are no weavers, or no picks") (by decide +kernel)
    exact vx_throwSX (names := ["java/lang/RuntimeException", "java/lang/Exception"]) hx hb hlt hown (by decide +kernel) (by decide +kernel) (hts (.classLink RX5 207 "java/util/NoSuchElementException") (by decide +kernel)) (hts (.initialized "java/util/NoSuchElementException") (by decide +kernel)) hsa (vx_hat (B := ambW) (fun w hw => hts w (List.mem_cons_of_mem _ (List.mem_append_left _ (List.mem_append_right _ hw)))) (by decide +kernel) (fun w hw => hamb.use hw)) (by decide +kernel) hamb.us hamb.ss hS (by rw [hml]; exact hl.1) dX5_hand_14 dX5_hand_17 dX5_hand_18 dX5_hand_20 dX5_hand_23 (fun x hxx => (htab x hxx).elim) (Nat.le_of_ble_eq_true rfl) (Nat.le_of_ble_eq_true rfl) (Nat.le_of_ble_eq_true rfl) (Nat.le_of_ble_eq_true rfl) hlocks (fun t ha h1 h2 => ⟨(), trivial, (⟨rfl, trivial⟩), xc_F hS h1 h2⟩) hS.2.2 (Nat.le_of_ble_eq_true rfl) (Nat.le_of_ble_eq_true rfl)
  · exact absurd (by decide) c_1

set_option maxHeartbeats 4000000 in
set_option maxRecDepth 100000 in
theorem c_X5_rightShare (l : Launch) (hlt : l.stackTraces = false) (em : Nat → Nat) (dC : Nat → ClassId) (dI : Nat → Nat → Nat) (h0 : Nat) (g0 : Value) (g3 : Value) (g4 : Value) (g5 : Value) (g6 : Value) (g7 : Value) (g8 : Value) (g9 : Value) (g10 : Value) (g11 : Value) (g12 : Value) (sz : Nat) : vx_Met l yX5_rightShare wsX5_rightShare ({ frames := 6, cells := 1, slots := 6, locals := 82 }) (va_Pc [.ref h0] (Pw em dC dI sz [(h0, .inr (11, [g0, .int 0, .int 0, g3, g4, g5, g6, g7, g8, g9, g10, g11, g12]))] [])) (va_Qf (fun (r : UInt32) (_ : Unit) => False) (fun _ t => True) (va_A [(h0, .inr (11, [g0, .int 0, .int 0, g3, g4, g5, g6, g7, g8, g9, g10, g11, g12]))] sz)) (vx_X (fun _ : Unit => True) (fun E _ _ => (E = "java/lang/ArithmeticException" ∧ True)) (va_A [(h0, .inr (11, [g0, .int 0, .int 0, g3, g4, g5, g6, g7, g8, g9, g10, g11, g12]))] sz)) 1 6 (va_A [(h0, .inr (11, [g0, .int 0, .int 0, g3, g4, g5, g6, g7, g8, g9, g10, g11, g12]))] sz) := by
  refine vx_ofW (cc := cX5_rightShare) (maxL := 5) (ret := (some .float)) (by decide) rfl ?_
  intro p e s m args below meth c s₁ B hml htab hv
  obtain ⟨rfl, hsz, hP, hK, hD0, hamb⟩ := hv
  have hx := B.exec
  have hb := B.bytes
  have hr := B.returns
  have hts := atoms_spec (ws := wsX5_rightShare) B.pre
  have hown : s.vm.findClass RX5 = some m.cls := findClass_of_methodNamed B.named
  have hlocks := B.notSynchronized
  subst hsz
  have hD := hD0.self (sz := s.heap.size)
  generalize hAe : va_A [(h0, .inr (11, [g0, .int 0, .int 0, g3, g4, g5, g6, g7, g8, g9, g10, g11, g12]))] s.heap.size = A at hD hamb ⊢
  have hA : ∀ q : Nat, s.heap.size ≤ q → A q := fun q h => by rw [← hAe]; exact Or.inr h
  have hS : va_S A s.heap s.heap [] := va_S.rf
  have hP : va_P (dC, dI) vwCl [(h0, .inr (11, [g0, .int 0, .int 0, g3, g4, g5, g6, g7, g8, g9, g10, g11, g12]))] s.heap := hP
  have hl := lv_entry ([.ref h0]) (n := 5) (Nat.le_of_ble_eq_true rfl)
  rw [lg_entry_eq]
  generalize (lg_sl ([.ref h0]) ++ List.replicate (5 - (lg_sl ([.ref h0])).length) Slot.unset).toArray = ls at hl ⊢
  have hl : lv_has ls 5 [(0, .ref h0)] := hl
  refine lv_aload_n hx hb dX5_rightShare_0 rfl (lv_at hl 0 rfl) ?_
  refine va_get (D := (dC, dI)) (ci := 11) (v := .int 0) (C := RX5) (T := TX5) (N := 13) hx hb hts (by decide +kernel) hown hK hP 0 rfl rfl 1 (by decide) (hts (.fieldLink RX5 83 "Bothfaces" "cardCount" "I") (by decide +kernel)) (fun _ h9 => h9) rfl dX5_rightShare_1 ?_
  refine lv_aload_n hx hb dX5_rightShare_4 rfl (lv_at hl 0 rfl) ?_
  refine va_get (D := (dC, dI)) (ci := 11) (v := .int 0) (C := RX5) (T := TX5) (N := 13) hx hb hts (by decide +kernel) hown hK hP 0 rfl rfl 2 (by decide) (hts (.fieldLink RX5 74 "Bothfaces" "pickCount" "I") (by decide +kernel)) (fun _ h9 => h9) rfl dX5_rightShare_5 ?_
  refine lv_imul hx hb dX5_rightShare_8 ?_
  refine lv_topi (fun k_1 ek_1 => ?_)
  obtain rfl : k_1 = 0 := ek_1.trans (by decide)
  refine lv_istore_n (lv' := [(1, .int 0), (0, .ref h0)]) hx hb dX5_rightShare_9 rfl hl (by decide) rfl (fun ls hl => ?_)
  refine lv_iload_n hx hb dX5_rightShare_10 rfl (lv_at hl 0 rfl) ?_
  refine lv_if_ne (tgt := 25) hx hb dX5_rightShare_11 (by decide) (fun c_2 => ?_) (fun c_2 => ?_)
  · exact absurd (by decide) c_2
  · obtain ⟨sa, hsa⟩ := hamb.strs (RX5, 285, "there are no squares") (by decide +kernel)
    exact vx_throwSW (names := ["java/lang/RuntimeException", "java/lang/Exception"]) hx hb hlt hown (by decide +kernel) (by decide +kernel) (hts (.classLink RX5 283 "java/lang/ArithmeticException") (by decide +kernel)) (hts (.initialized "java/lang/ArithmeticException") (by decide +kernel)) hsa (vx_hat (B := ambW) (fun w hw => hts w (List.mem_cons_of_mem _ (List.mem_append_left _ (List.mem_append_right _ hw)))) (by decide +kernel) (fun w hw => hamb.use hw)) (by decide +kernel) hamb.us hamb.ss hS (by rw [hml]; exact hl.1) dX5_rightShare_14 dX5_rightShare_17 dX5_rightShare_18 dX5_rightShare_21 dX5_rightShare_24 (fun x hxx => (htab x hxx).elim) (Nat.le_of_ble_eq_true rfl) (Nat.le_of_ble_eq_true rfl) (Nat.le_of_ble_eq_true rfl) (Nat.le_of_ble_eq_true rfl) hlocks (fun t ha h1 h2 => ⟨(), trivial, (⟨rfl, trivial⟩), xc_F hS h1 h2⟩) hS.2.2 (Nat.le_of_ble_eq_true rfl) (Nat.le_of_ble_eq_true rfl)

set_option maxHeartbeats 4000000 in
set_option maxRecDepth 100000 in
theorem c_X5_meanTwist (l : Launch) (hlt : l.stackTraces = false) (em : Nat → Nat) (dC : Nat → ClassId) (dI : Nat → Nat → Nat) (h0 : Nat) (g0 : Value) (g2 : Value) (g3 : Value) (g4 : Value) (g5 : Value) (g6 : Value) (g7 : Value) (g8 : Value) (g9 : Value) (g10 : Value) (g11 : Value) (g12 : Value) (sz : Nat) : vx_Met l yX5_meanTwist wsX5_meanTwist ({ frames := 6, cells := 1, slots := 6, locals := 82 }) (va_Pc [.ref h0] (Pw em dC dI sz [(h0, .inr (11, [g0, .int 0, g2, g3, g4, g5, g6, g7, g8, g9, g10, g11, g12]))] [])) (va_Qd (fun (r : UInt64) (_ : Unit) => False) (fun _ t => True) (va_A [(h0, .inr (11, [g0, .int 0, g2, g3, g4, g5, g6, g7, g8, g9, g10, g11, g12]))] sz)) (vx_X (fun _ : Unit => True) (fun E _ _ => (E = "java/lang/ArithmeticException" ∧ True)) (va_A [(h0, .inr (11, [g0, .int 0, g2, g3, g4, g5, g6, g7, g8, g9, g10, g11, g12]))] sz)) 1 6 (va_A [(h0, .inr (11, [g0, .int 0, g2, g3, g4, g5, g6, g7, g8, g9, g10, g11, g12]))] sz) := by
  refine vx_ofW (cc := cX5_meanTwist) (maxL := 3) (ret := (some .double)) (by decide) rfl ?_
  intro p e s m args below meth c s₁ B hml htab hv
  obtain ⟨rfl, hsz, hP, hK, hD0, hamb⟩ := hv
  have hx := B.exec
  have hb := B.bytes
  have hr := B.returns
  have hts := atoms_spec (ws := wsX5_meanTwist) B.pre
  have hown : s.vm.findClass RX5 = some m.cls := findClass_of_methodNamed B.named
  have hlocks := B.notSynchronized
  subst hsz
  have hD := hD0.self (sz := s.heap.size)
  generalize hAe : va_A [(h0, .inr (11, [g0, .int 0, g2, g3, g4, g5, g6, g7, g8, g9, g10, g11, g12]))] s.heap.size = A at hD hamb ⊢
  have hA : ∀ q : Nat, s.heap.size ≤ q → A q := fun q h => by rw [← hAe]; exact Or.inr h
  have hS : va_S A s.heap s.heap [] := va_S.rf
  have hP : va_P (dC, dI) vwCl [(h0, .inr (11, [g0, .int 0, g2, g3, g4, g5, g6, g7, g8, g9, g10, g11, g12]))] s.heap := hP
  have hl := lv_entry ([.ref h0]) (n := 3) (Nat.le_of_ble_eq_true rfl)
  rw [lg_entry_eq]
  generalize (lg_sl ([.ref h0]) ++ List.replicate (3 - (lg_sl ([.ref h0])).length) Slot.unset).toArray = ls at hl ⊢
  have hl : lv_has ls 3 [(0, .ref h0)] := hl
  refine lv_aload_n hx hb dX5_meanTwist_0 rfl (lv_at hl 0 rfl) ?_
  refine va_get (D := (dC, dI)) (ci := 11) (v := .int 0) (C := RX5) (T := TX5) (N := 13) hx hb hts (by decide +kernel) hown hK hP 0 rfl rfl 1 (by decide) (hts (.fieldLink RX5 83 "Bothfaces" "cardCount" "I") (by decide +kernel)) (fun _ h9 => h9) rfl dX5_meanTwist_1 ?_
  refine lv_if_ne (tgt := 17) hx hb dX5_meanTwist_4 (by decide) (fun c_1 => ?_) (fun c_1 => ?_)
  · exact absurd (by decide) c_1
  · obtain ⟨sa, hsa⟩ := hamb.strs (RX5, 128, "there are no cards") (by decide +kernel)
    exact vx_throwS (names := ["java/lang/RuntimeException", "java/lang/Exception"]) hx hb hlt hown (by decide +kernel) (by decide +kernel) (hts (.classLink RX5 283 "java/lang/ArithmeticException") (by decide +kernel)) (hts (.initialized "java/lang/ArithmeticException") (by decide +kernel)) hsa (vx_hat (B := ambW) (fun w hw => hts w (List.mem_cons_of_mem _ (List.mem_append_right _ hw))) (by decide +kernel) (fun w hw => hamb.use hw)) (by decide +kernel) hamb.us hamb.ss hS (by rw [hml]; exact hl.1) dX5_meanTwist_7 dX5_meanTwist_10 dX5_meanTwist_11 dX5_meanTwist_13 dX5_meanTwist_16 (fun x hxx => (htab x hxx).elim) (Nat.le_of_ble_eq_true rfl) (Nat.le_of_ble_eq_true rfl) (Nat.le_of_ble_eq_true rfl) (Nat.le_of_ble_eq_true rfl) hlocks (fun t ha h1 h2 => ⟨(), trivial, (⟨rfl, trivial⟩), xc_F hS h1 h2⟩) hS.2.2 (Nat.le_of_ble_eq_true rfl) (Nat.le_of_ble_eq_true rfl)

set_option maxHeartbeats 4000000 in
set_option maxRecDepth 100000 in
theorem c_X5_weave (l : Launch) (hlt : l.stackTraces = false) (em : Nat → Nat) (dC : Nat → ClassId) (dI : Nat → Nat → Nat) (h0 : Nat) (p0 : Int32) (g0 : Value) (g3 : Value) (g4 : Value) (g5 : Value) (g6 : Value) (g7 : Value) (g8 : Value) (g9 : Value) (g10 : Value) (g11 : Value) (g12 : Value) (sz : Nat) : vx_Met l yX5_weave wsX5_weave ({ frames := 7, cells := 2, slots := 12, locals := 103 }) (va_Pc [.ref h0, .int p0] (Pw em dC dI sz [(h0, .inr (11, [g0, .int 0, .int 0, g3, g4, g5, g6, g7, g8, g9, g10, g11, g12]))] [])) (va_Qi (fun (r : Int32) (_ : Unit) => False) (fun _ t => True) (va_A [(h0, .inr (11, [g0, .int 0, .int 0, g3, g4, g5, g6, g7, g8, g9, g10, g11, g12]))] sz)) (vx_X (fun _ : Unit => True) (fun E _ _ => (E = "java/lang/IllegalArgumentException" ∧ (p0.toInt < 0 ∨ 39 < p0.toInt)) ∨ (E = "java/lang/UnsupportedOperationException" ∧ (¬ (p0.toInt < 0 ∨ 39 < p0.toInt)))) (va_A [(h0, .inr (11, [g0, .int 0, .int 0, g3, g4, g5, g6, g7, g8, g9, g10, g11, g12]))] sz)) 2 12 (va_A [(h0, .inr (11, [g0, .int 0, .int 0, g3, g4, g5, g6, g7, g8, g9, g10, g11, g12]))] sz) := by
  refine vx_ofW (cc := cX5_weave) (maxL := 6) (ret := (some .int)) (by decide) rfl ?_
  intro p e s m args below meth c s₁ B hml htab hv
  obtain ⟨rfl, hsz, hP, hK, hD0, hamb⟩ := hv
  have hx := B.exec
  have hb := B.bytes
  have hr := B.returns
  have hts := atoms_spec (ws := wsX5_weave) B.pre
  have hown : s.vm.findClass RX5 = some m.cls := findClass_of_methodNamed B.named
  have hlocks := B.notSynchronized
  subst hsz
  have hD := hD0.self (sz := s.heap.size)
  generalize hAe : va_A [(h0, .inr (11, [g0, .int 0, .int 0, g3, g4, g5, g6, g7, g8, g9, g10, g11, g12]))] s.heap.size = A at hD hamb ⊢
  have hA : ∀ q : Nat, s.heap.size ≤ q → A q := fun q h => by rw [← hAe]; exact Or.inr h
  have hS : va_S A s.heap s.heap [] := va_S.rf
  have hP : va_P (dC, dI) vwCl [(h0, .inr (11, [g0, .int 0, .int 0, g3, g4, g5, g6, g7, g8, g9, g10, g11, g12]))] s.heap := hP
  have hl := lv_entry ([.ref h0, .int p0]) (n := 6) (Nat.le_of_ble_eq_true rfl)
  rw [lg_entry_eq]
  generalize (lg_sl ([.ref h0, .int p0]) ++ List.replicate (6 - (lg_sl ([.ref h0, .int p0])).length) Slot.unset).toArray = ls at hl ⊢
  have hl : lv_has ls 6 [(0, .ref h0), (1, .int p0)] := hl
  refine lv_aload_n hx hb dX5_weave_0 rfl (lv_at hl 0 rfl) ?_
  refine lv_iload_n hx hb dX5_weave_1 rfl (lv_at hl 1 rfl) ?_
  have hPc := hP.sub (ws' := [(h0, .inr (11, [g0, .int 0, .int 0, g3, g4, g5, g6, g7, g8, g9, g10, g11, g12]))]) [0] rfl
  have hDc := hD.sub (ws' := [(h0, .inr (11, [g0, .int 0, .int 0, g3, g4, g5, g6, g7, g8, g9, g10, g11, g12]))]) [0] (by decide) rfl
  have hKc := hK.sub (tys' := []) [] rfl
  have hFc := va_free (wc := [(h0, .inr (11, [g0, .int 0, .int 0, g3, g4, g5, g6, g7, g8, g9, g10, g11, g12]))]) hD hS hA [0] rfl
  refine vx_callv (vx_runV (As := [.int p0]) (rest := []) ⟨hx, hb, hml, hown, hts⟩ (c_X5_needLast l hlt em dC dI h0 p0 g0 (.int 0) g3 g4 g5 g6 g7 g8 g9 g10 g11 g12 s.heap.size) (cwV 1 hts gX5_weave_X5_needLast rfl rfl rfl (by decide +kernel) ⟨Nat.le_of_ble_eq_true rfl, Nat.le_of_ble_eq_true rfl⟩) ⟨Pw.blind _ _ _ _ _ _ _, va_recv hKc hPc (ci := 11) (q0 := 0) rfl rfl, fun U hU hW => ⟨rfl, Pw.go hPc hKc hDc hamb hS hFc hU hW⟩⟩ rfl rfl hl.1 rfl (lv_room (Nat.le_of_ble_eq_true rfl)) dX5_weave_2 ⟨Nat.le_of_ble_eq_true rfl, Nat.le_of_ble_eq_true rfl⟩) hS (fun q _ h => hFc q h) hFc (fun q _ h => hFc q h) (fun E ce q9 ux tx H1 locs1 htx hvm hpx hBX hz1 hk1 hS hce hcv hcl => ?_) (fun u t H1 locs1 ht hvm hw hB hz1 hk1 hS => ?_)
  · obtain ⟨rfl, t_2⟩ := hBX
    exact vx_out (fun x hxx => (htab x hxx).elim) hlocks hce hcv hcl (fun t ht2 ha => ⟨(), trivial, (Or.inl ⟨rfl, by omega⟩), hS.F ht2⟩) hS.2.2 (Nat.le_of_ble_eq_true rfl) (Nat.le_of_ble_eq_true rfl)
  · obtain ⟨hP1, hK1, hD1⟩ := hB
    rw [ht] at hP1
    have hK1 := va_K.moved hvm.symm hK1
    obtain ⟨hP, hD⟩ := va_join (wr := []) (w1 := [(h0, .inr (11, [g0, .int 0, .int 0, g3, g4, g5, g6, g7, g8, g9, g10, g11, g12]))]) hP hD [0] [] rfl rfl (by decide) (by decide) hk1 hFc hP1 hD1
    have hK := (hK.sub (tys' := []) [] rfl).app hK1
    generalize H1 = H at hP hS ⊢
    have hP : va_P (dC, dI) vwCl [(h0, .inr (11, [g0, .int 0, .int 0, g3, g4, g5, g6, g7, g8, g9, g10, g11, g12]))] H := hP
    have hD : va_D A [(h0, .inr (11, [g0, .int 0, .int 0, g3, g4, g5, g6, g7, g8, g9, g10, g11, g12]))] := hD
    have hK : va_K (dC, dI) vwCl [] s := hK
    refine W.widen (k := 1) (n := 6) (Nat.le_of_ble_eq_true rfl) (Nat.le_of_ble_eq_true rfl) ?_
    have t_3 : ¬ (p0.toInt < 0 ∨ 39 < p0.toInt) := hw
    refine lv_aload_n hx hb dX5_weave_5 rfl (lv_at hl 0 rfl) ?_
    refine va_get (D := (dC, dI)) (ci := 11) (v := .int 0) (C := RX5) (T := TX5) (N := 13) hx hb hts (by decide +kernel) hown hK hP 0 rfl rfl 1 (by decide) (hts (.fieldLink RX5 83 "Bothfaces" "cardCount" "I") (by decide +kernel)) (fun _ h9 => h9) rfl dX5_weave_6 ?_
    refine lv_if_ne (tgt := 22) hx hb dX5_weave_9 (by decide) (fun c_4 => ?_) (fun c_4 => ?_)
    · exact absurd (by decide) c_4
    · obtain ⟨sa, hsa⟩ := hamb.strs (RX5, 128, "there are no cards") (by decide +kernel)
      exact vx_throwS (names := ["java/lang/RuntimeException", "java/lang/Exception"]) hx hb hlt hown (by decide +kernel) (by decide +kernel) (hts (.classLink RX5 78 "java/lang/UnsupportedOperationException") (by decide +kernel)) (hts (.initialized "java/lang/UnsupportedOperationException") (by decide +kernel)) hsa (vx_hat (B := ambW) (fun w hw => hts w (List.mem_cons_of_mem _ (List.mem_append_left _ (List.mem_append_left _ (List.mem_append_right _ hw))))) (by decide +kernel) (fun w hw => hamb.use hw)) (by decide +kernel) hamb.us hamb.ss hS (by rw [hml]; exact hl.1) dX5_weave_12 dX5_weave_15 dX5_weave_16 dX5_weave_18 dX5_weave_21 (fun x hxx => (htab x hxx).elim) (Nat.le_of_ble_eq_true rfl) (Nat.le_of_ble_eq_true rfl) (Nat.le_of_ble_eq_true rfl) (Nat.le_of_ble_eq_true rfl) hlocks (fun t ha h1 h2 => ⟨(), trivial, (Or.inr (⟨rfl, by omega⟩)), xc_F hS h1 h2⟩) hS.2.2 (Nat.le_of_ble_eq_true rfl) (Nat.le_of_ble_eq_true rfl)

set_option maxHeartbeats 4000000 in
set_option maxRecDepth 100000 in
theorem c_X5_yarnOf (l : Launch) (em : Nat → Nat) (dC : Nat → ClassId) (dI : Nat → Nat → Nat) (h0 : Nat) (p0 : Int32) (g0 : Value) (g2 : Value) (g3 : Value) (g4 : Value) (g5 : Value) (g6 : Value) (g7 : Value) (g8 : Value) (g9 : Value) (g10 : Value) (g11 : Value) (g12 : Value) (sz : Nat) : Met l yX5_yarnOf wsX5_yarnOf ({ frames := 0, cells := 0, slots := 0, locals := 0 }) (va_Pc [.ref h0, .int p0] (Pw em dC dI sz [(h0, .inr (11, [g0, .int 0, g2, g3, g4, g5, g6, g7, g8, g9, g10, g11, g12]))] [])) (va_Qi (fun (r : Int32) (_ : Unit) => r = 0) (fun _ t => Qw dC dI (va_A [(h0, .inr (11, [g0, .int 0, g2, g3, g4, g5, g6, g7, g8, g9, g10, g11, g12]))] sz) [(h0, .inr (11, [g0, .int 0, g2, g3, g4, g5, g6, g7, g8, g9, g10, g11, g12]))] [] t) (va_A [(h0, .inr (11, [g0, .int 0, g2, g3, g4, g5, g6, g7, g8, g9, g10, g11, g12]))] sz)) 0 0 (va_A [(h0, .inr (11, [g0, .int 0, g2, g3, g4, g5, g6, g7, g8, g9, g10, g11, g12]))] sz) := by
  refine Met.ofW (cc := cX5_yarnOf) (maxL := 5) (ret := (some .int)) (by decide) rfl ?_
  intro p e s m args below meth c s₁ B hml hv
  obtain ⟨rfl, hsz, hP, hK, hD0, hamb⟩ := hv
  have hx := B.exec
  have hb := B.bytes
  have hr := B.returns
  have hts := atoms_spec (ws := wsX5_yarnOf) B.pre
  have hown : s.vm.findClass RX5 = some m.cls := findClass_of_methodNamed B.named
  have hlocks := B.notSynchronized
  subst hsz
  have hD := hD0.self (sz := s.heap.size)
  generalize hAe : va_A [(h0, .inr (11, [g0, .int 0, g2, g3, g4, g5, g6, g7, g8, g9, g10, g11, g12]))] s.heap.size = A at hD hamb ⊢
  have hA : ∀ q : Nat, s.heap.size ≤ q → A q := fun q h => by rw [← hAe]; exact Or.inr h
  have hS : va_S A s.heap s.heap [] := va_S.rf
  have hP : va_P (dC, dI) vwCl [(h0, .inr (11, [g0, .int 0, g2, g3, g4, g5, g6, g7, g8, g9, g10, g11, g12]))] s.heap := hP
  have hl := lv_entry ([.ref h0, .int p0]) (n := 5) (Nat.le_of_ble_eq_true rfl)
  rw [lg_entry_eq]
  generalize (lg_sl ([.ref h0, .int p0]) ++ List.replicate (5 - (lg_sl ([.ref h0, .int p0])).length) Slot.unset).toArray = ls at hl ⊢
  have hl : lv_has ls 5 [(0, .ref h0), (1, .int p0)] := hl
  refine lv_iconst (v := 0) hx hb dX5_yarnOf_0 (by decide) ?_
  refine lv_istore_n (lv' := [(2, .int 0), (0, .ref h0), (1, .int p0)]) hx hb dX5_yarnOf_1 rfl hl (by decide) rfl (fun ls hl => ?_)
  refine lv_iconst (v := 0) hx hb dX5_yarnOf_2 (by decide) ?_
  refine lv_istore_n (lv' := [(3, .int 0), (2, .int 0), (0, .ref h0), (1, .int p0)]) hx hb dX5_yarnOf_3 rfl hl (by decide) rfl (fun ls hl => ?_)
  refine lv_iload_n hx hb dX5_yarnOf_4 rfl (lv_at hl 0 rfl) ?_
  refine lv_aload_n hx hb dX5_yarnOf_5 rfl (lv_at hl 2 rfl) ?_
  refine va_get (D := (dC, dI)) (ci := 11) (v := .int 0) (C := RX5) (T := TX5) (N := 13) hx hb hts (by decide +kernel) hown hK hP 0 rfl rfl 1 (by decide) (hts (.fieldLink RX5 83 "Bothfaces" "cardCount" "I") (by decide +kernel)) (fun _ h9 => h9) rfl dX5_yarnOf_6 ?_
  refine lv_icmp_ge (tgt := 67) hx hb dX5_yarnOf_9 (by decide) (fun c_1 => ?_) (fun c_1 => ?_)
  · refine lv_iload_n hx hb dX5_yarnOf_67 rfl (lv_at hl 1 rfl) ?_
    refine W.widen (k := 0) (n := 0) (Nat.le_of_ble_eq_true rfl) (Nat.le_of_ble_eq_true rfl) ?_
    have hP9 := hP.sub (ws' := [(h0, .inr (11, [g0, .int 0, g2, g3, g4, g5, g6, g7, g8, g9, g10, g11, g12]))]) [0] rfl
    have hD9 := hD.sub (ws' := [(h0, .inr (11, [g0, .int 0, g2, g3, g4, g5, g6, g7, g8, g9, g10, g11, g12]))]) [0] (by decide) rfl
    have hK9 := hK.sub (tys' := []) [] rfl
    exact W.iret (v := 0) hx hb hr (fun t ht hW => ⟨⟨0, (), rfl, rfl, ⟨by rw [ht]; exact hP9, va_K.moved hW.alike hK9, hD9⟩⟩, hS.F ht⟩) hS.2.2 dX5_yarnOf_68
  · exact absurd (by decide) c_1

set_option maxHeartbeats 4000000 in
set_option maxRecDepth 100000 in
theorem c_X5_yarn (l : Launch) (hlt : l.stackTraces = false) (em : Nat → Nat) (dC : Nat → ClassId) (dI : Nat → Nat → Nat) (h0 : Nat) (p0 : Int32) (g0 : Value) (g2 : Value) (g3 : Value) (g4 : Value) (g5 : Value) (g6 : Value) (g7 : Value) (g8 : Value) (g9 : Value) (g10 : Value) (g11 : Value) (g12 : Value) (sz : Nat) : vx_Met l yX5_yarn wsX5_yarn ({ frames := 7, cells := 1, slots := 6, locals := 102 }) (va_Pc [.ref h0, .int p0] (Pw em dC dI sz [(h0, .inr (11, [g0, .int 0, g2, g3, g4, g5, g6, g7, g8, g9, g10, g11, g12]))] [])) (va_Qi (fun (r : Int32) (_ : Unit) => ¬ (p0.toInt < 0 ∨ 7 < p0.toInt) ∧ r = 0) (fun _ t => True) (va_A [(h0, .inr (11, [g0, .int 0, g2, g3, g4, g5, g6, g7, g8, g9, g10, g11, g12]))] sz)) (vx_X (fun _ : Unit => True) (fun E _ _ => (E = "java/lang/IllegalArgumentException" ∧ (p0.toInt < 0 ∨ 7 < p0.toInt))) (va_A [(h0, .inr (11, [g0, .int 0, g2, g3, g4, g5, g6, g7, g8, g9, g10, g11, g12]))] sz)) 1 6 (va_A [(h0, .inr (11, [g0, .int 0, g2, g3, g4, g5, g6, g7, g8, g9, g10, g11, g12]))] sz) := by
  refine vx_ofW (cc := cX5_yarn) (maxL := 2) (ret := (some .int)) (by decide) rfl ?_
  intro p e s m args below meth c s₁ B hml htab hv
  obtain ⟨rfl, hsz, hP, hK, hD0, hamb⟩ := hv
  have hx := B.exec
  have hb := B.bytes
  have hr := B.returns
  have hts := atoms_spec (ws := wsX5_yarn) B.pre
  have hown : s.vm.findClass RX5 = some m.cls := findClass_of_methodNamed B.named
  have hlocks := B.notSynchronized
  subst hsz
  have hD := hD0.self (sz := s.heap.size)
  generalize hAe : va_A [(h0, .inr (11, [g0, .int 0, g2, g3, g4, g5, g6, g7, g8, g9, g10, g11, g12]))] s.heap.size = A at hD hamb ⊢
  have hA : ∀ q : Nat, s.heap.size ≤ q → A q := fun q h => by rw [← hAe]; exact Or.inr h
  have hS : va_S A s.heap s.heap [] := va_S.rf
  have hP : va_P (dC, dI) vwCl [(h0, .inr (11, [g0, .int 0, g2, g3, g4, g5, g6, g7, g8, g9, g10, g11, g12]))] s.heap := hP
  have hl := lv_entry ([.ref h0, .int p0]) (n := 2) (Nat.le_of_ble_eq_true rfl)
  rw [lg_entry_eq]
  generalize (lg_sl ([.ref h0, .int p0]) ++ List.replicate (2 - (lg_sl ([.ref h0, .int p0])).length) Slot.unset).toArray = ls at hl ⊢
  have hl : lv_has ls 2 [(0, .ref h0), (1, .int p0)] := hl
  refine lv_iload_n hx hb dX5_yarn_0 rfl (lv_at hl 1 rfl) ?_
  have hPc := hP.sub (ws' := []) [] rfl
  have hDc := hD.sub (ws' := []) [] (by decide) rfl
  have hKc := hK.sub (tys' := []) [] rfl
  have hFc := va_free (wc := []) hD hS hA [] rfl
  refine vx_callv (vx_runS (As := [.int p0]) (rest := []) ⟨hx, hb, hml, hown, hts⟩ (c_X5_needColour l hlt em dC dI p0 s.heap.size) (va_cwS 1 hts gX5_yarn_X5_needColour rfl rfl rfl (by decide +kernel) ⟨Nat.le_of_ble_eq_true rfl, Nat.le_of_ble_eq_true rfl⟩) ⟨Pw.blind _ _ _ _ _ _ _, fun U hU hW => ⟨rfl, Pw.go hPc hKc hDc hamb hS hFc hU hW⟩⟩ rfl rfl hl.1 rfl (lv_room (Nat.le_of_ble_eq_true rfl)) dX5_yarn_1 ⟨Nat.le_of_ble_eq_true rfl, Nat.le_of_ble_eq_true rfl⟩) hS (fun q _ h => hFc q h) hFc (fun q _ h => hFc q h) (fun E ce q9 ux tx H1 locs1 htx hvm hpx hBX hz1 hk1 hS hce hcv hcl => ?_) (fun u t H1 locs1 ht hvm hw hB hz1 hk1 hS => ?_)
  · obtain ⟨rfl, t_2⟩ := hBX
    exact vx_out (fun x hxx => (htab x hxx).elim) hlocks hce hcv hcl (fun t ht2 ha => ⟨(), trivial, (⟨rfl, by omega⟩), hS.F ht2⟩) hS.2.2 (Nat.le_of_ble_eq_true rfl) (Nat.le_of_ble_eq_true rfl)
  · obtain ⟨hP, hD⟩ := va_rest (wr := [(h0, .inr (11, [g0, .int 0, g2, g3, g4, g5, g6, g7, g8, g9, g10, g11, g12]))]) hP hD [] [0] rfl rfl (by decide) (by decide) hk1 hFc
    generalize H1 = H at hP hS ⊢
    refine W.widen (k := 1) (n := 6) (Nat.le_of_ble_eq_true rfl) (Nat.le_of_ble_eq_true rfl) ?_
    have t_3 : ¬ (p0.toInt < 0 ∨ 7 < p0.toInt) := hw
    refine lv_aload_n hx hb dX5_yarn_4 rfl (lv_at hl 0 rfl) ?_
    refine lv_iload_n hx hb dX5_yarn_5 rfl (lv_at hl 1 rfl) ?_
    have hPc := hP.sub (ws' := [(h0, .inr (11, [g0, .int 0, g2, g3, g4, g5, g6, g7, g8, g9, g10, g11, g12]))]) [0] rfl
    have hDc := hD.sub (ws' := [(h0, .inr (11, [g0, .int 0, g2, g3, g4, g5, g6, g7, g8, g9, g10, g11, g12]))]) [0] (by decide) rfl
    have hKc := hK.sub (tys' := []) [] rfl
    have hFc := va_free (wc := [(h0, .inr (11, [g0, .int 0, g2, g3, g4, g5, g6, g7, g8, g9, g10, g11, g12]))]) hD hS hA [0] rfl
    refine va_calli (va_runV (As := [.int p0]) (rest := []) ⟨hx, hb, hml, hown, hts⟩ (c_X5_yarnOf l em dC dI h0 p0 g0 g2 g3 g4 g5 g6 g7 g8 g9 g10 g11 g12 H.size) (cwV 1 hts gX5_yarn_X5_yarnOf rfl rfl rfl (by decide +kernel) ⟨Nat.le_of_ble_eq_true rfl, Nat.le_of_ble_eq_true rfl⟩) ⟨Pw.blind _ _ _ _ _ _ _, va_recv hKc hPc (ci := 11) (q0 := 0) rfl rfl, fun U hU hW => ⟨rfl, Pw.go hPc hKc hDc hamb hS hFc hU hW⟩⟩ rfl rfl hl.1 rfl (lv_room (Nat.le_of_ble_eq_true rfl)) dX5_yarn_6 ⟨Nat.le_of_ble_eq_true rfl, Nat.le_of_ble_eq_true rfl⟩) hS (fun q _ h => hFc q h) hFc (fun r_4 u t H1 locs1 ht hvm hw hB hz1 hk1 hS => ?_)
    obtain ⟨hP1, hK1, hD1⟩ := hB
    rw [ht] at hP1
    have hK1 := va_K.moved hvm.symm hK1
    obtain ⟨hP, hD⟩ := va_join (wr := []) (w1 := [(h0, .inr (11, [g0, .int 0, g2, g3, g4, g5, g6, g7, g8, g9, g10, g11, g12]))]) hP hD [0] [] rfl rfl (by decide) (by decide) hk1 hFc hP1 hD1
    have hK := (hK.sub (tys' := []) [] rfl).app hK1
    generalize H1 = H at hP hS ⊢
    have hP : va_P (dC, dI) vwCl [(h0, .inr (11, [g0, .int 0, g2, g3, g4, g5, g6, g7, g8, g9, g10, g11, g12]))] H := hP
    have hD : va_D A [(h0, .inr (11, [g0, .int 0, g2, g3, g4, g5, g6, g7, g8, g9, g10, g11, g12]))] := hD
    have hK : va_K (dC, dI) vwCl [] s := hK
    refine W.widen (k := 1) (n := 6) (Nat.le_of_ble_eq_true rfl) (Nat.le_of_ble_eq_true rfl) ?_
    have hw : r_4 = 0 := hw
    rw [hw]
    refine W.widen (k := 1) (n := 6) (Nat.le_of_ble_eq_true rfl) (Nat.le_of_ble_eq_true rfl) ?_
    refine vx_ret ?_
    exact W.iret (v := 0) hx hb hr (fun t ht hW => ⟨⟨0, (), rfl, ⟨(by omega), rfl⟩, trivial⟩, hS.F ht⟩) hS.2.2 dX5_yarn_9

set_option maxHeartbeats 4000000 in
set_option maxRecDepth 100000 in
theorem c_X5_yarnOfColours (l : Launch) (em : Nat → Nat) (dC : Nat → ClassId) (dI : Nat → Nat → Nat) (h0 : Nat) (g0 : Value) (g2 : Value) (g3 : Value) (g4 : Value) (g5 : Value) (g6 : Value) (g7 : Value) (g8 : Value) (g9 : Value) (g10 : Value) (g11 : Value) (g12 : Value) (sz : Nat) : Met l yX5_yarnOfColours wsX5_yarnOfColours ({ frames := 1, cells := 0, slots := 0, locals := 24 }) (va_Pc [.ref h0] (Pw em dC dI sz [(h0, .inr (11, [g0, .int 0, g2, g3, g4, g5, g6, g7, g8, g9, g10, g11, g12]))] [])) (va_Qi (fun (r : Int32) (_ : Unit) => r = 0) (fun _ t => Qw dC dI (va_A [(h0, .inr (11, [g0, .int 0, g2, g3, g4, g5, g6, g7, g8, g9, g10, g11, g12]))] sz) [(h0, .inr (11, [g0, .int 0, g2, g3, g4, g5, g6, g7, g8, g9, g10, g11, g12]))] [] t) (va_A [(h0, .inr (11, [g0, .int 0, g2, g3, g4, g5, g6, g7, g8, g9, g10, g11, g12]))] sz)) 0 0 (va_A [(h0, .inr (11, [g0, .int 0, g2, g3, g4, g5, g6, g7, g8, g9, g10, g11, g12]))] sz) := by
  refine Met.ofW (cc := cX5_yarnOfColours) (maxL := 3) (ret := (some .int)) (by decide) rfl ?_
  intro p e s m args below meth c s₁ B hml hv
  obtain ⟨rfl, hsz, hP, hK, hD0, hamb⟩ := hv
  have hx := B.exec
  have hb := B.bytes
  have hr := B.returns
  have hts := atoms_spec (ws := wsX5_yarnOfColours) B.pre
  have hown : s.vm.findClass RX5 = some m.cls := findClass_of_methodNamed B.named
  have hlocks := B.notSynchronized
  subst hsz
  have hD := hD0.self (sz := s.heap.size)
  generalize hAe : va_A [(h0, .inr (11, [g0, .int 0, g2, g3, g4, g5, g6, g7, g8, g9, g10, g11, g12]))] s.heap.size = A at hD hamb ⊢
  have hA : ∀ q : Nat, s.heap.size ≤ q → A q := fun q h => by rw [← hAe]; exact Or.inr h
  have hS : va_S A s.heap s.heap [] := va_S.rf
  have hP : va_P (dC, dI) vwCl [(h0, .inr (11, [g0, .int 0, g2, g3, g4, g5, g6, g7, g8, g9, g10, g11, g12]))] s.heap := hP
  have hl := lv_entry ([.ref h0]) (n := 3) (Nat.le_of_ble_eq_true rfl)
  rw [lg_entry_eq]
  generalize (lg_sl ([.ref h0]) ++ List.replicate (3 - (lg_sl ([.ref h0])).length) Slot.unset).toArray = ls at hl ⊢
  have hl : lv_has ls 3 [(0, .ref h0)] := hl
  refine lv_iconst (v := 0) hx hb dX5_yarnOfColours_0 (by decide) ?_
  refine lv_istore_n (lv' := [(1, .int 0), (0, .ref h0)]) hx hb dX5_yarnOfColours_1 rfl hl (by decide) rfl (fun ls hl => ?_)
  refine lv_iconst (v := 0) hx hb dX5_yarnOfColours_2 (by decide) ?_
  refine lv_istore_n (lv' := [(2, .int 0), (1, .int 0), (0, .ref h0)]) hx hb dX5_yarnOfColours_3 rfl hl (by decide) rfl (fun ls hl => ?_)
  refine lv_iload_n hx hb dX5_yarnOfColours_4 rfl (lv_at hl 0 rfl) ?_
  refine lv_bipush (v := 8) hx hb dX5_yarnOfColours_5 (by decide) ?_
  refine lv_icmp_ge (tgt := 24) hx hb dX5_yarnOfColours_7 (by decide) (fun c_1 => ?_) (fun c_1 => ?_)
  · exact absurd c_1 (by decide)
  · refine lv_iload_n hx hb dX5_yarnOfColours_10 rfl (lv_at hl 1 rfl) ?_
    refine lv_aload_n hx hb dX5_yarnOfColours_11 rfl (lv_at hl 2 rfl) ?_
    refine lv_iload_n hx hb dX5_yarnOfColours_12 rfl (lv_at hl 0 rfl) ?_
    have hPc := hP.sub (ws' := [(h0, .inr (11, [g0, .int 0, g2, g3, g4, g5, g6, g7, g8, g9, g10, g11, g12]))]) [0] rfl
    have hDc := hD.sub (ws' := [(h0, .inr (11, [g0, .int 0, g2, g3, g4, g5, g6, g7, g8, g9, g10, g11, g12]))]) [0] (by decide) rfl
    have hKc := hK.sub (tys' := []) [] rfl
    have hFc := va_free (wc := [(h0, .inr (11, [g0, .int 0, g2, g3, g4, g5, g6, g7, g8, g9, g10, g11, g12]))]) hD hS hA [0] rfl
    refine va_calli (va_runV (As := [.int 0]) (rest := [.int 0]) ⟨hx, hb, hml, hown, hts⟩ (c_X5_yarnOf l em dC dI h0 0 g0 g2 g3 g4 g5 g6 g7 g8 g9 g10 g11 g12 s.heap.size) (cwV 1 hts gX5_yarnOfColours_X5_yarnOf rfl rfl rfl (by decide +kernel) ⟨Nat.le_of_ble_eq_true rfl, Nat.le_of_ble_eq_true rfl⟩) ⟨Pw.blind _ _ _ _ _ _ _, va_recv hKc hPc (ci := 11) (q0 := 0) rfl rfl, fun U hU hW => ⟨rfl, Pw.go hPc hKc hDc hamb hS hFc hU hW⟩⟩ rfl rfl hl.1 rfl (lv_room (Nat.le_of_ble_eq_true rfl)) dX5_yarnOfColours_13 ⟨Nat.le_of_ble_eq_true rfl, Nat.le_of_ble_eq_true rfl⟩) hS (fun q _ h => hFc q h) hFc (fun r_2 u t H1 locs1 ht hvm hw hB hz1 hk1 hS => ?_)
    obtain ⟨hP1, hK1, hD1⟩ := hB
    rw [ht] at hP1
    have hK1 := va_K.moved hvm.symm hK1
    obtain ⟨hP, hD⟩ := va_join (wr := []) (w1 := [(h0, .inr (11, [g0, .int 0, g2, g3, g4, g5, g6, g7, g8, g9, g10, g11, g12]))]) hP hD [0] [] rfl rfl (by decide) (by decide) hk1 hFc hP1 hD1
    have hK := (hK.sub (tys' := []) [] rfl).app hK1
    generalize H1 = H at hP hS ⊢
    have hP : va_P (dC, dI) vwCl [(h0, .inr (11, [g0, .int 0, g2, g3, g4, g5, g6, g7, g8, g9, g10, g11, g12]))] H := hP
    have hD : va_D A [(h0, .inr (11, [g0, .int 0, g2, g3, g4, g5, g6, g7, g8, g9, g10, g11, g12]))] := hD
    have hK : va_K (dC, dI) vwCl [] s := hK
    refine W.widen (k := 0) (n := 0) (Nat.le_of_ble_eq_true rfl) (Nat.le_of_ble_eq_true rfl) ?_
    have hw : r_2 = 0 := hw
    rw [hw]
    refine lv_iadd hx hb dX5_yarnOfColours_16 ?_
    refine lv_topi (fun k_3 ek_3 => ?_)
    obtain rfl : k_3 = 0 := ek_3.trans (by decide)
    refine lv_istore_n (lv' := [(1, .int 0), (2, .int 0), (0, .ref h0)]) hx hb dX5_yarnOfColours_17 rfl hl (by decide) rfl (fun ls hl => ?_)
    refine lv_iinc (v := 1) (lv' := [(2, .int 1), (1, .int 0), (0, .ref h0)]) hx hb dX5_yarnOfColours_18 hl (k := 1) rfl (by decide) (by decide) rfl (fun ls hl => ?_)
    refine lv_goto (tgt := 4) hx hb dX5_yarnOfColours_21 (by decide) ?_
    refine lv_iload_n hx hb dX5_yarnOfColours_4 rfl (lv_at hl 0 rfl) ?_
    refine lv_bipush (v := 8) hx hb dX5_yarnOfColours_5 (by decide) ?_
    refine lv_icmp_ge (tgt := 24) hx hb dX5_yarnOfColours_7 (by decide) (fun c_4 => ?_) (fun c_4 => ?_)
    · exact absurd c_4 (by decide)
    · refine lv_iload_n hx hb dX5_yarnOfColours_10 rfl (lv_at hl 1 rfl) ?_
      refine lv_aload_n hx hb dX5_yarnOfColours_11 rfl (lv_at hl 2 rfl) ?_
      refine lv_iload_n hx hb dX5_yarnOfColours_12 rfl (lv_at hl 0 rfl) ?_
      have hPc := hP.sub (ws' := [(h0, .inr (11, [g0, .int 0, g2, g3, g4, g5, g6, g7, g8, g9, g10, g11, g12]))]) [0] rfl
      have hDc := hD.sub (ws' := [(h0, .inr (11, [g0, .int 0, g2, g3, g4, g5, g6, g7, g8, g9, g10, g11, g12]))]) [0] (by decide) rfl
      have hKc := hK.sub (tys' := []) [] rfl
      have hFc := va_free (wc := [(h0, .inr (11, [g0, .int 0, g2, g3, g4, g5, g6, g7, g8, g9, g10, g11, g12]))]) hD hS hA [0] rfl
      refine va_calli (va_runV (As := [.int 1]) (rest := [.int 0]) ⟨hx, hb, hml, hown, hts⟩ (c_X5_yarnOf l em dC dI h0 1 g0 g2 g3 g4 g5 g6 g7 g8 g9 g10 g11 g12 H.size) (cwV 1 hts gX5_yarnOfColours_X5_yarnOf rfl rfl rfl (by decide +kernel) ⟨Nat.le_of_ble_eq_true rfl, Nat.le_of_ble_eq_true rfl⟩) ⟨Pw.blind _ _ _ _ _ _ _, va_recv hKc hPc (ci := 11) (q0 := 0) rfl rfl, fun U hU hW => ⟨rfl, Pw.go hPc hKc hDc hamb hS hFc hU hW⟩⟩ rfl rfl hl.1 rfl (lv_room (Nat.le_of_ble_eq_true rfl)) dX5_yarnOfColours_13 ⟨Nat.le_of_ble_eq_true rfl, Nat.le_of_ble_eq_true rfl⟩) hS (fun q _ h => hFc q h) hFc (fun r_5 u t H1 locs1 ht hvm hw hB hz1 hk1 hS => ?_)
      obtain ⟨hP1, hK1, hD1⟩ := hB
      rw [ht] at hP1
      have hK1 := va_K.moved hvm.symm hK1
      obtain ⟨hP, hD⟩ := va_join (wr := []) (w1 := [(h0, .inr (11, [g0, .int 0, g2, g3, g4, g5, g6, g7, g8, g9, g10, g11, g12]))]) hP hD [0] [] rfl rfl (by decide) (by decide) hk1 hFc hP1 hD1
      have hK := (hK.sub (tys' := []) [] rfl).app hK1
      generalize H1 = H at hP hS ⊢
      have hP : va_P (dC, dI) vwCl [(h0, .inr (11, [g0, .int 0, g2, g3, g4, g5, g6, g7, g8, g9, g10, g11, g12]))] H := hP
      have hD : va_D A [(h0, .inr (11, [g0, .int 0, g2, g3, g4, g5, g6, g7, g8, g9, g10, g11, g12]))] := hD
      have hK : va_K (dC, dI) vwCl [] s := hK
      refine W.widen (k := 0) (n := 0) (Nat.le_of_ble_eq_true rfl) (Nat.le_of_ble_eq_true rfl) ?_
      have hw : r_5 = 0 := hw
      rw [hw]
      refine lv_iadd hx hb dX5_yarnOfColours_16 ?_
      refine lv_topi (fun k_6 ek_6 => ?_)
      obtain rfl : k_6 = 0 := ek_6.trans (by decide)
      refine lv_istore_n (lv' := [(1, .int 0), (2, .int 1), (0, .ref h0)]) hx hb dX5_yarnOfColours_17 rfl hl (by decide) rfl (fun ls hl => ?_)
      refine lv_iinc (v := 2) (lv' := [(2, .int 2), (1, .int 0), (0, .ref h0)]) hx hb dX5_yarnOfColours_18 hl (k := 1) rfl (by decide) (by decide) rfl (fun ls hl => ?_)
      refine lv_goto (tgt := 4) hx hb dX5_yarnOfColours_21 (by decide) ?_
      refine lv_iload_n hx hb dX5_yarnOfColours_4 rfl (lv_at hl 0 rfl) ?_
      refine lv_bipush (v := 8) hx hb dX5_yarnOfColours_5 (by decide) ?_
      refine lv_icmp_ge (tgt := 24) hx hb dX5_yarnOfColours_7 (by decide) (fun c_7 => ?_) (fun c_7 => ?_)
      · exact absurd c_7 (by decide)
      · refine lv_iload_n hx hb dX5_yarnOfColours_10 rfl (lv_at hl 1 rfl) ?_
        refine lv_aload_n hx hb dX5_yarnOfColours_11 rfl (lv_at hl 2 rfl) ?_
        refine lv_iload_n hx hb dX5_yarnOfColours_12 rfl (lv_at hl 0 rfl) ?_
        have hPc := hP.sub (ws' := [(h0, .inr (11, [g0, .int 0, g2, g3, g4, g5, g6, g7, g8, g9, g10, g11, g12]))]) [0] rfl
        have hDc := hD.sub (ws' := [(h0, .inr (11, [g0, .int 0, g2, g3, g4, g5, g6, g7, g8, g9, g10, g11, g12]))]) [0] (by decide) rfl
        have hKc := hK.sub (tys' := []) [] rfl
        have hFc := va_free (wc := [(h0, .inr (11, [g0, .int 0, g2, g3, g4, g5, g6, g7, g8, g9, g10, g11, g12]))]) hD hS hA [0] rfl
        refine va_calli (va_runV (As := [.int 2]) (rest := [.int 0]) ⟨hx, hb, hml, hown, hts⟩ (c_X5_yarnOf l em dC dI h0 2 g0 g2 g3 g4 g5 g6 g7 g8 g9 g10 g11 g12 H.size) (cwV 1 hts gX5_yarnOfColours_X5_yarnOf rfl rfl rfl (by decide +kernel) ⟨Nat.le_of_ble_eq_true rfl, Nat.le_of_ble_eq_true rfl⟩) ⟨Pw.blind _ _ _ _ _ _ _, va_recv hKc hPc (ci := 11) (q0 := 0) rfl rfl, fun U hU hW => ⟨rfl, Pw.go hPc hKc hDc hamb hS hFc hU hW⟩⟩ rfl rfl hl.1 rfl (lv_room (Nat.le_of_ble_eq_true rfl)) dX5_yarnOfColours_13 ⟨Nat.le_of_ble_eq_true rfl, Nat.le_of_ble_eq_true rfl⟩) hS (fun q _ h => hFc q h) hFc (fun r_8 u t H1 locs1 ht hvm hw hB hz1 hk1 hS => ?_)
        obtain ⟨hP1, hK1, hD1⟩ := hB
        rw [ht] at hP1
        have hK1 := va_K.moved hvm.symm hK1
        obtain ⟨hP, hD⟩ := va_join (wr := []) (w1 := [(h0, .inr (11, [g0, .int 0, g2, g3, g4, g5, g6, g7, g8, g9, g10, g11, g12]))]) hP hD [0] [] rfl rfl (by decide) (by decide) hk1 hFc hP1 hD1
        have hK := (hK.sub (tys' := []) [] rfl).app hK1
        generalize H1 = H at hP hS ⊢
        have hP : va_P (dC, dI) vwCl [(h0, .inr (11, [g0, .int 0, g2, g3, g4, g5, g6, g7, g8, g9, g10, g11, g12]))] H := hP
        have hD : va_D A [(h0, .inr (11, [g0, .int 0, g2, g3, g4, g5, g6, g7, g8, g9, g10, g11, g12]))] := hD
        have hK : va_K (dC, dI) vwCl [] s := hK
        refine W.widen (k := 0) (n := 0) (Nat.le_of_ble_eq_true rfl) (Nat.le_of_ble_eq_true rfl) ?_
        have hw : r_8 = 0 := hw
        rw [hw]
        refine lv_iadd hx hb dX5_yarnOfColours_16 ?_
        refine lv_topi (fun k_9 ek_9 => ?_)
        obtain rfl : k_9 = 0 := ek_9.trans (by decide)
        refine lv_istore_n (lv' := [(1, .int 0), (2, .int 2), (0, .ref h0)]) hx hb dX5_yarnOfColours_17 rfl hl (by decide) rfl (fun ls hl => ?_)
        refine lv_iinc (v := 3) (lv' := [(2, .int 3), (1, .int 0), (0, .ref h0)]) hx hb dX5_yarnOfColours_18 hl (k := 1) rfl (by decide) (by decide) rfl (fun ls hl => ?_)
        refine lv_goto (tgt := 4) hx hb dX5_yarnOfColours_21 (by decide) ?_
        refine lv_iload_n hx hb dX5_yarnOfColours_4 rfl (lv_at hl 0 rfl) ?_
        refine lv_bipush (v := 8) hx hb dX5_yarnOfColours_5 (by decide) ?_
        refine lv_icmp_ge (tgt := 24) hx hb dX5_yarnOfColours_7 (by decide) (fun c_10 => ?_) (fun c_10 => ?_)
        · exact absurd c_10 (by decide)
        · refine lv_iload_n hx hb dX5_yarnOfColours_10 rfl (lv_at hl 1 rfl) ?_
          refine lv_aload_n hx hb dX5_yarnOfColours_11 rfl (lv_at hl 2 rfl) ?_
          refine lv_iload_n hx hb dX5_yarnOfColours_12 rfl (lv_at hl 0 rfl) ?_
          have hPc := hP.sub (ws' := [(h0, .inr (11, [g0, .int 0, g2, g3, g4, g5, g6, g7, g8, g9, g10, g11, g12]))]) [0] rfl
          have hDc := hD.sub (ws' := [(h0, .inr (11, [g0, .int 0, g2, g3, g4, g5, g6, g7, g8, g9, g10, g11, g12]))]) [0] (by decide) rfl
          have hKc := hK.sub (tys' := []) [] rfl
          have hFc := va_free (wc := [(h0, .inr (11, [g0, .int 0, g2, g3, g4, g5, g6, g7, g8, g9, g10, g11, g12]))]) hD hS hA [0] rfl
          refine va_calli (va_runV (As := [.int 3]) (rest := [.int 0]) ⟨hx, hb, hml, hown, hts⟩ (c_X5_yarnOf l em dC dI h0 3 g0 g2 g3 g4 g5 g6 g7 g8 g9 g10 g11 g12 H.size) (cwV 1 hts gX5_yarnOfColours_X5_yarnOf rfl rfl rfl (by decide +kernel) ⟨Nat.le_of_ble_eq_true rfl, Nat.le_of_ble_eq_true rfl⟩) ⟨Pw.blind _ _ _ _ _ _ _, va_recv hKc hPc (ci := 11) (q0 := 0) rfl rfl, fun U hU hW => ⟨rfl, Pw.go hPc hKc hDc hamb hS hFc hU hW⟩⟩ rfl rfl hl.1 rfl (lv_room (Nat.le_of_ble_eq_true rfl)) dX5_yarnOfColours_13 ⟨Nat.le_of_ble_eq_true rfl, Nat.le_of_ble_eq_true rfl⟩) hS (fun q _ h => hFc q h) hFc (fun r_11 u t H1 locs1 ht hvm hw hB hz1 hk1 hS => ?_)
          obtain ⟨hP1, hK1, hD1⟩ := hB
          rw [ht] at hP1
          have hK1 := va_K.moved hvm.symm hK1
          obtain ⟨hP, hD⟩ := va_join (wr := []) (w1 := [(h0, .inr (11, [g0, .int 0, g2, g3, g4, g5, g6, g7, g8, g9, g10, g11, g12]))]) hP hD [0] [] rfl rfl (by decide) (by decide) hk1 hFc hP1 hD1
          have hK := (hK.sub (tys' := []) [] rfl).app hK1
          generalize H1 = H at hP hS ⊢
          have hP : va_P (dC, dI) vwCl [(h0, .inr (11, [g0, .int 0, g2, g3, g4, g5, g6, g7, g8, g9, g10, g11, g12]))] H := hP
          have hD : va_D A [(h0, .inr (11, [g0, .int 0, g2, g3, g4, g5, g6, g7, g8, g9, g10, g11, g12]))] := hD
          have hK : va_K (dC, dI) vwCl [] s := hK
          refine W.widen (k := 0) (n := 0) (Nat.le_of_ble_eq_true rfl) (Nat.le_of_ble_eq_true rfl) ?_
          have hw : r_11 = 0 := hw
          rw [hw]
          refine lv_iadd hx hb dX5_yarnOfColours_16 ?_
          refine lv_topi (fun k_12 ek_12 => ?_)
          obtain rfl : k_12 = 0 := ek_12.trans (by decide)
          refine lv_istore_n (lv' := [(1, .int 0), (2, .int 3), (0, .ref h0)]) hx hb dX5_yarnOfColours_17 rfl hl (by decide) rfl (fun ls hl => ?_)
          refine lv_iinc (v := 4) (lv' := [(2, .int 4), (1, .int 0), (0, .ref h0)]) hx hb dX5_yarnOfColours_18 hl (k := 1) rfl (by decide) (by decide) rfl (fun ls hl => ?_)
          refine lv_goto (tgt := 4) hx hb dX5_yarnOfColours_21 (by decide) ?_
          refine lv_iload_n hx hb dX5_yarnOfColours_4 rfl (lv_at hl 0 rfl) ?_
          refine lv_bipush (v := 8) hx hb dX5_yarnOfColours_5 (by decide) ?_
          refine lv_icmp_ge (tgt := 24) hx hb dX5_yarnOfColours_7 (by decide) (fun c_13 => ?_) (fun c_13 => ?_)
          · exact absurd c_13 (by decide)
          · refine lv_iload_n hx hb dX5_yarnOfColours_10 rfl (lv_at hl 1 rfl) ?_
            refine lv_aload_n hx hb dX5_yarnOfColours_11 rfl (lv_at hl 2 rfl) ?_
            refine lv_iload_n hx hb dX5_yarnOfColours_12 rfl (lv_at hl 0 rfl) ?_
            have hPc := hP.sub (ws' := [(h0, .inr (11, [g0, .int 0, g2, g3, g4, g5, g6, g7, g8, g9, g10, g11, g12]))]) [0] rfl
            have hDc := hD.sub (ws' := [(h0, .inr (11, [g0, .int 0, g2, g3, g4, g5, g6, g7, g8, g9, g10, g11, g12]))]) [0] (by decide) rfl
            have hKc := hK.sub (tys' := []) [] rfl
            have hFc := va_free (wc := [(h0, .inr (11, [g0, .int 0, g2, g3, g4, g5, g6, g7, g8, g9, g10, g11, g12]))]) hD hS hA [0] rfl
            refine va_calli (va_runV (As := [.int 4]) (rest := [.int 0]) ⟨hx, hb, hml, hown, hts⟩ (c_X5_yarnOf l em dC dI h0 4 g0 g2 g3 g4 g5 g6 g7 g8 g9 g10 g11 g12 H.size) (cwV 1 hts gX5_yarnOfColours_X5_yarnOf rfl rfl rfl (by decide +kernel) ⟨Nat.le_of_ble_eq_true rfl, Nat.le_of_ble_eq_true rfl⟩) ⟨Pw.blind _ _ _ _ _ _ _, va_recv hKc hPc (ci := 11) (q0 := 0) rfl rfl, fun U hU hW => ⟨rfl, Pw.go hPc hKc hDc hamb hS hFc hU hW⟩⟩ rfl rfl hl.1 rfl (lv_room (Nat.le_of_ble_eq_true rfl)) dX5_yarnOfColours_13 ⟨Nat.le_of_ble_eq_true rfl, Nat.le_of_ble_eq_true rfl⟩) hS (fun q _ h => hFc q h) hFc (fun r_14 u t H1 locs1 ht hvm hw hB hz1 hk1 hS => ?_)
            obtain ⟨hP1, hK1, hD1⟩ := hB
            rw [ht] at hP1
            have hK1 := va_K.moved hvm.symm hK1
            obtain ⟨hP, hD⟩ := va_join (wr := []) (w1 := [(h0, .inr (11, [g0, .int 0, g2, g3, g4, g5, g6, g7, g8, g9, g10, g11, g12]))]) hP hD [0] [] rfl rfl (by decide) (by decide) hk1 hFc hP1 hD1
            have hK := (hK.sub (tys' := []) [] rfl).app hK1
            generalize H1 = H at hP hS ⊢
            have hP : va_P (dC, dI) vwCl [(h0, .inr (11, [g0, .int 0, g2, g3, g4, g5, g6, g7, g8, g9, g10, g11, g12]))] H := hP
            have hD : va_D A [(h0, .inr (11, [g0, .int 0, g2, g3, g4, g5, g6, g7, g8, g9, g10, g11, g12]))] := hD
            have hK : va_K (dC, dI) vwCl [] s := hK
            refine W.widen (k := 0) (n := 0) (Nat.le_of_ble_eq_true rfl) (Nat.le_of_ble_eq_true rfl) ?_
            have hw : r_14 = 0 := hw
            rw [hw]
            refine lv_iadd hx hb dX5_yarnOfColours_16 ?_
            refine lv_topi (fun k_15 ek_15 => ?_)
            obtain rfl : k_15 = 0 := ek_15.trans (by decide)
            refine lv_istore_n (lv' := [(1, .int 0), (2, .int 4), (0, .ref h0)]) hx hb dX5_yarnOfColours_17 rfl hl (by decide) rfl (fun ls hl => ?_)
            refine lv_iinc (v := 5) (lv' := [(2, .int 5), (1, .int 0), (0, .ref h0)]) hx hb dX5_yarnOfColours_18 hl (k := 1) rfl (by decide) (by decide) rfl (fun ls hl => ?_)
            refine lv_goto (tgt := 4) hx hb dX5_yarnOfColours_21 (by decide) ?_
            refine lv_iload_n hx hb dX5_yarnOfColours_4 rfl (lv_at hl 0 rfl) ?_
            refine lv_bipush (v := 8) hx hb dX5_yarnOfColours_5 (by decide) ?_
            refine lv_icmp_ge (tgt := 24) hx hb dX5_yarnOfColours_7 (by decide) (fun c_16 => ?_) (fun c_16 => ?_)
            · exact absurd c_16 (by decide)
            · refine lv_iload_n hx hb dX5_yarnOfColours_10 rfl (lv_at hl 1 rfl) ?_
              refine lv_aload_n hx hb dX5_yarnOfColours_11 rfl (lv_at hl 2 rfl) ?_
              refine lv_iload_n hx hb dX5_yarnOfColours_12 rfl (lv_at hl 0 rfl) ?_
              have hPc := hP.sub (ws' := [(h0, .inr (11, [g0, .int 0, g2, g3, g4, g5, g6, g7, g8, g9, g10, g11, g12]))]) [0] rfl
              have hDc := hD.sub (ws' := [(h0, .inr (11, [g0, .int 0, g2, g3, g4, g5, g6, g7, g8, g9, g10, g11, g12]))]) [0] (by decide) rfl
              have hKc := hK.sub (tys' := []) [] rfl
              have hFc := va_free (wc := [(h0, .inr (11, [g0, .int 0, g2, g3, g4, g5, g6, g7, g8, g9, g10, g11, g12]))]) hD hS hA [0] rfl
              refine va_calli (va_runV (As := [.int 5]) (rest := [.int 0]) ⟨hx, hb, hml, hown, hts⟩ (c_X5_yarnOf l em dC dI h0 5 g0 g2 g3 g4 g5 g6 g7 g8 g9 g10 g11 g12 H.size) (cwV 1 hts gX5_yarnOfColours_X5_yarnOf rfl rfl rfl (by decide +kernel) ⟨Nat.le_of_ble_eq_true rfl, Nat.le_of_ble_eq_true rfl⟩) ⟨Pw.blind _ _ _ _ _ _ _, va_recv hKc hPc (ci := 11) (q0 := 0) rfl rfl, fun U hU hW => ⟨rfl, Pw.go hPc hKc hDc hamb hS hFc hU hW⟩⟩ rfl rfl hl.1 rfl (lv_room (Nat.le_of_ble_eq_true rfl)) dX5_yarnOfColours_13 ⟨Nat.le_of_ble_eq_true rfl, Nat.le_of_ble_eq_true rfl⟩) hS (fun q _ h => hFc q h) hFc (fun r_17 u t H1 locs1 ht hvm hw hB hz1 hk1 hS => ?_)
              obtain ⟨hP1, hK1, hD1⟩ := hB
              rw [ht] at hP1
              have hK1 := va_K.moved hvm.symm hK1
              obtain ⟨hP, hD⟩ := va_join (wr := []) (w1 := [(h0, .inr (11, [g0, .int 0, g2, g3, g4, g5, g6, g7, g8, g9, g10, g11, g12]))]) hP hD [0] [] rfl rfl (by decide) (by decide) hk1 hFc hP1 hD1
              have hK := (hK.sub (tys' := []) [] rfl).app hK1
              generalize H1 = H at hP hS ⊢
              have hP : va_P (dC, dI) vwCl [(h0, .inr (11, [g0, .int 0, g2, g3, g4, g5, g6, g7, g8, g9, g10, g11, g12]))] H := hP
              have hD : va_D A [(h0, .inr (11, [g0, .int 0, g2, g3, g4, g5, g6, g7, g8, g9, g10, g11, g12]))] := hD
              have hK : va_K (dC, dI) vwCl [] s := hK
              refine W.widen (k := 0) (n := 0) (Nat.le_of_ble_eq_true rfl) (Nat.le_of_ble_eq_true rfl) ?_
              have hw : r_17 = 0 := hw
              rw [hw]
              refine lv_iadd hx hb dX5_yarnOfColours_16 ?_
              refine lv_topi (fun k_18 ek_18 => ?_)
              obtain rfl : k_18 = 0 := ek_18.trans (by decide)
              refine lv_istore_n (lv' := [(1, .int 0), (2, .int 5), (0, .ref h0)]) hx hb dX5_yarnOfColours_17 rfl hl (by decide) rfl (fun ls hl => ?_)
              refine lv_iinc (v := 6) (lv' := [(2, .int 6), (1, .int 0), (0, .ref h0)]) hx hb dX5_yarnOfColours_18 hl (k := 1) rfl (by decide) (by decide) rfl (fun ls hl => ?_)
              refine lv_goto (tgt := 4) hx hb dX5_yarnOfColours_21 (by decide) ?_
              refine lv_iload_n hx hb dX5_yarnOfColours_4 rfl (lv_at hl 0 rfl) ?_
              refine lv_bipush (v := 8) hx hb dX5_yarnOfColours_5 (by decide) ?_
              refine lv_icmp_ge (tgt := 24) hx hb dX5_yarnOfColours_7 (by decide) (fun c_19 => ?_) (fun c_19 => ?_)
              · exact absurd c_19 (by decide)
              · refine lv_iload_n hx hb dX5_yarnOfColours_10 rfl (lv_at hl 1 rfl) ?_
                refine lv_aload_n hx hb dX5_yarnOfColours_11 rfl (lv_at hl 2 rfl) ?_
                refine lv_iload_n hx hb dX5_yarnOfColours_12 rfl (lv_at hl 0 rfl) ?_
                have hPc := hP.sub (ws' := [(h0, .inr (11, [g0, .int 0, g2, g3, g4, g5, g6, g7, g8, g9, g10, g11, g12]))]) [0] rfl
                have hDc := hD.sub (ws' := [(h0, .inr (11, [g0, .int 0, g2, g3, g4, g5, g6, g7, g8, g9, g10, g11, g12]))]) [0] (by decide) rfl
                have hKc := hK.sub (tys' := []) [] rfl
                have hFc := va_free (wc := [(h0, .inr (11, [g0, .int 0, g2, g3, g4, g5, g6, g7, g8, g9, g10, g11, g12]))]) hD hS hA [0] rfl
                refine va_calli (va_runV (As := [.int 6]) (rest := [.int 0]) ⟨hx, hb, hml, hown, hts⟩ (c_X5_yarnOf l em dC dI h0 6 g0 g2 g3 g4 g5 g6 g7 g8 g9 g10 g11 g12 H.size) (cwV 1 hts gX5_yarnOfColours_X5_yarnOf rfl rfl rfl (by decide +kernel) ⟨Nat.le_of_ble_eq_true rfl, Nat.le_of_ble_eq_true rfl⟩) ⟨Pw.blind _ _ _ _ _ _ _, va_recv hKc hPc (ci := 11) (q0 := 0) rfl rfl, fun U hU hW => ⟨rfl, Pw.go hPc hKc hDc hamb hS hFc hU hW⟩⟩ rfl rfl hl.1 rfl (lv_room (Nat.le_of_ble_eq_true rfl)) dX5_yarnOfColours_13 ⟨Nat.le_of_ble_eq_true rfl, Nat.le_of_ble_eq_true rfl⟩) hS (fun q _ h => hFc q h) hFc (fun r_20 u t H1 locs1 ht hvm hw hB hz1 hk1 hS => ?_)
                obtain ⟨hP1, hK1, hD1⟩ := hB
                rw [ht] at hP1
                have hK1 := va_K.moved hvm.symm hK1
                obtain ⟨hP, hD⟩ := va_join (wr := []) (w1 := [(h0, .inr (11, [g0, .int 0, g2, g3, g4, g5, g6, g7, g8, g9, g10, g11, g12]))]) hP hD [0] [] rfl rfl (by decide) (by decide) hk1 hFc hP1 hD1
                have hK := (hK.sub (tys' := []) [] rfl).app hK1
                generalize H1 = H at hP hS ⊢
                have hP : va_P (dC, dI) vwCl [(h0, .inr (11, [g0, .int 0, g2, g3, g4, g5, g6, g7, g8, g9, g10, g11, g12]))] H := hP
                have hD : va_D A [(h0, .inr (11, [g0, .int 0, g2, g3, g4, g5, g6, g7, g8, g9, g10, g11, g12]))] := hD
                have hK : va_K (dC, dI) vwCl [] s := hK
                refine W.widen (k := 0) (n := 0) (Nat.le_of_ble_eq_true rfl) (Nat.le_of_ble_eq_true rfl) ?_
                have hw : r_20 = 0 := hw
                rw [hw]
                refine lv_iadd hx hb dX5_yarnOfColours_16 ?_
                refine lv_topi (fun k_21 ek_21 => ?_)
                obtain rfl : k_21 = 0 := ek_21.trans (by decide)
                refine lv_istore_n (lv' := [(1, .int 0), (2, .int 6), (0, .ref h0)]) hx hb dX5_yarnOfColours_17 rfl hl (by decide) rfl (fun ls hl => ?_)
                refine lv_iinc (v := 7) (lv' := [(2, .int 7), (1, .int 0), (0, .ref h0)]) hx hb dX5_yarnOfColours_18 hl (k := 1) rfl (by decide) (by decide) rfl (fun ls hl => ?_)
                refine lv_goto (tgt := 4) hx hb dX5_yarnOfColours_21 (by decide) ?_
                refine lv_iload_n hx hb dX5_yarnOfColours_4 rfl (lv_at hl 0 rfl) ?_
                refine lv_bipush (v := 8) hx hb dX5_yarnOfColours_5 (by decide) ?_
                refine lv_icmp_ge (tgt := 24) hx hb dX5_yarnOfColours_7 (by decide) (fun c_22 => ?_) (fun c_22 => ?_)
                · exact absurd c_22 (by decide)
                · refine lv_iload_n hx hb dX5_yarnOfColours_10 rfl (lv_at hl 1 rfl) ?_
                  refine lv_aload_n hx hb dX5_yarnOfColours_11 rfl (lv_at hl 2 rfl) ?_
                  refine lv_iload_n hx hb dX5_yarnOfColours_12 rfl (lv_at hl 0 rfl) ?_
                  have hPc := hP.sub (ws' := [(h0, .inr (11, [g0, .int 0, g2, g3, g4, g5, g6, g7, g8, g9, g10, g11, g12]))]) [0] rfl
                  have hDc := hD.sub (ws' := [(h0, .inr (11, [g0, .int 0, g2, g3, g4, g5, g6, g7, g8, g9, g10, g11, g12]))]) [0] (by decide) rfl
                  have hKc := hK.sub (tys' := []) [] rfl
                  have hFc := va_free (wc := [(h0, .inr (11, [g0, .int 0, g2, g3, g4, g5, g6, g7, g8, g9, g10, g11, g12]))]) hD hS hA [0] rfl
                  refine va_calli (va_runV (As := [.int 7]) (rest := [.int 0]) ⟨hx, hb, hml, hown, hts⟩ (c_X5_yarnOf l em dC dI h0 7 g0 g2 g3 g4 g5 g6 g7 g8 g9 g10 g11 g12 H.size) (cwV 1 hts gX5_yarnOfColours_X5_yarnOf rfl rfl rfl (by decide +kernel) ⟨Nat.le_of_ble_eq_true rfl, Nat.le_of_ble_eq_true rfl⟩) ⟨Pw.blind _ _ _ _ _ _ _, va_recv hKc hPc (ci := 11) (q0 := 0) rfl rfl, fun U hU hW => ⟨rfl, Pw.go hPc hKc hDc hamb hS hFc hU hW⟩⟩ rfl rfl hl.1 rfl (lv_room (Nat.le_of_ble_eq_true rfl)) dX5_yarnOfColours_13 ⟨Nat.le_of_ble_eq_true rfl, Nat.le_of_ble_eq_true rfl⟩) hS (fun q _ h => hFc q h) hFc (fun r_23 u t H1 locs1 ht hvm hw hB hz1 hk1 hS => ?_)
                  obtain ⟨hP1, hK1, hD1⟩ := hB
                  rw [ht] at hP1
                  have hK1 := va_K.moved hvm.symm hK1
                  obtain ⟨hP, hD⟩ := va_join (wr := []) (w1 := [(h0, .inr (11, [g0, .int 0, g2, g3, g4, g5, g6, g7, g8, g9, g10, g11, g12]))]) hP hD [0] [] rfl rfl (by decide) (by decide) hk1 hFc hP1 hD1
                  have hK := (hK.sub (tys' := []) [] rfl).app hK1
                  generalize H1 = H at hP hS ⊢
                  have hP : va_P (dC, dI) vwCl [(h0, .inr (11, [g0, .int 0, g2, g3, g4, g5, g6, g7, g8, g9, g10, g11, g12]))] H := hP
                  have hD : va_D A [(h0, .inr (11, [g0, .int 0, g2, g3, g4, g5, g6, g7, g8, g9, g10, g11, g12]))] := hD
                  have hK : va_K (dC, dI) vwCl [] s := hK
                  refine W.widen (k := 0) (n := 0) (Nat.le_of_ble_eq_true rfl) (Nat.le_of_ble_eq_true rfl) ?_
                  have hw : r_23 = 0 := hw
                  rw [hw]
                  refine lv_iadd hx hb dX5_yarnOfColours_16 ?_
                  refine lv_topi (fun k_24 ek_24 => ?_)
                  obtain rfl : k_24 = 0 := ek_24.trans (by decide)
                  refine lv_istore_n (lv' := [(1, .int 0), (2, .int 7), (0, .ref h0)]) hx hb dX5_yarnOfColours_17 rfl hl (by decide) rfl (fun ls hl => ?_)
                  refine lv_iinc (v := 8) (lv' := [(2, .int 8), (1, .int 0), (0, .ref h0)]) hx hb dX5_yarnOfColours_18 hl (k := 1) rfl (by decide) (by decide) rfl (fun ls hl => ?_)
                  refine lv_goto (tgt := 4) hx hb dX5_yarnOfColours_21 (by decide) ?_
                  refine lv_iload_n hx hb dX5_yarnOfColours_4 rfl (lv_at hl 0 rfl) ?_
                  refine lv_bipush (v := 8) hx hb dX5_yarnOfColours_5 (by decide) ?_
                  refine lv_icmp_ge (tgt := 24) hx hb dX5_yarnOfColours_7 (by decide) (fun c_25 => ?_) (fun c_25 => ?_)
                  · refine lv_iload_n hx hb dX5_yarnOfColours_24 rfl (lv_at hl 1 rfl) ?_
                    refine W.widen (k := 0) (n := 0) (Nat.le_of_ble_eq_true rfl) (Nat.le_of_ble_eq_true rfl) ?_
                    have hP9 := hP.sub (ws' := [(h0, .inr (11, [g0, .int 0, g2, g3, g4, g5, g6, g7, g8, g9, g10, g11, g12]))]) [0] rfl
                    have hD9 := hD.sub (ws' := [(h0, .inr (11, [g0, .int 0, g2, g3, g4, g5, g6, g7, g8, g9, g10, g11, g12]))]) [0] (by decide) rfl
                    have hK9 := hK.sub (tys' := []) [] rfl
                    exact W.iret (v := 0) hx hb hr (fun t ht hW => ⟨⟨0, (), rfl, rfl, ⟨by rw [ht]; exact hP9, va_K.moved hW.alike hK9, hD9⟩⟩, hS.F ht⟩) hS.2.2 dX5_yarnOfColours_25
                  · exact absurd (by decide) c_25

set_option maxHeartbeats 4000000 in
set_option maxRecDepth 100000 in
theorem c_X5_yarnOfThreads (l : Launch) (em : Nat → Nat) (dC : Nat → ClassId) (dI : Nat → Nat → Nat) (h0 : Nat) (g0 : Value) (g2 : Value) (g3 : Value) (g4 : Value) (g5 : Value) (g6 : Value) (g7 : Value) (g8 : Value) (g9 : Value) (g10 : Value) (g11 : Value) (g12 : Value) (sz : Nat) : Met l yX5_yarnOfThreads wsX5_yarnOfThreads ({ frames := 0, cells := 0, slots := 0, locals := 0 }) (va_Pc [.ref h0] (Pw em dC dI sz [(h0, .inr (11, [g0, .int 0, g2, g3, g4, g5, g6, g7, g8, g9, g10, g11, g12]))] [])) (va_Qi (fun (r : Int32) (_ : Unit) => r = 0) (fun _ t => Qw dC dI (va_A [(h0, .inr (11, [g0, .int 0, g2, g3, g4, g5, g6, g7, g8, g9, g10, g11, g12]))] sz) [(h0, .inr (11, [g0, .int 0, g2, g3, g4, g5, g6, g7, g8, g9, g10, g11, g12]))] [] t) (va_A [(h0, .inr (11, [g0, .int 0, g2, g3, g4, g5, g6, g7, g8, g9, g10, g11, g12]))] sz)) 0 0 (va_A [(h0, .inr (11, [g0, .int 0, g2, g3, g4, g5, g6, g7, g8, g9, g10, g11, g12]))] sz) := by
  refine Met.ofW (cc := cX5_yarnOfThreads) (maxL := 4) (ret := (some .int)) (by decide) rfl ?_
  intro p e s m args below meth c s₁ B hml hv
  obtain ⟨rfl, hsz, hP, hK, hD0, hamb⟩ := hv
  have hx := B.exec
  have hb := B.bytes
  have hr := B.returns
  have hts := atoms_spec (ws := wsX5_yarnOfThreads) B.pre
  have hown : s.vm.findClass RX5 = some m.cls := findClass_of_methodNamed B.named
  have hlocks := B.notSynchronized
  subst hsz
  have hD := hD0.self (sz := s.heap.size)
  generalize hAe : va_A [(h0, .inr (11, [g0, .int 0, g2, g3, g4, g5, g6, g7, g8, g9, g10, g11, g12]))] s.heap.size = A at hD hamb ⊢
  have hA : ∀ q : Nat, s.heap.size ≤ q → A q := fun q h => by rw [← hAe]; exact Or.inr h
  have hS : va_S A s.heap s.heap [] := va_S.rf
  have hP : va_P (dC, dI) vwCl [(h0, .inr (11, [g0, .int 0, g2, g3, g4, g5, g6, g7, g8, g9, g10, g11, g12]))] s.heap := hP
  have hl := lv_entry ([.ref h0]) (n := 4) (Nat.le_of_ble_eq_true rfl)
  rw [lg_entry_eq]
  generalize (lg_sl ([.ref h0]) ++ List.replicate (4 - (lg_sl ([.ref h0])).length) Slot.unset).toArray = ls at hl ⊢
  have hl : lv_has ls 4 [(0, .ref h0)] := hl
  refine lv_iconst (v := 0) hx hb dX5_yarnOfThreads_0 (by decide) ?_
  refine lv_istore_n (lv' := [(1, .int 0), (0, .ref h0)]) hx hb dX5_yarnOfThreads_1 rfl hl (by decide) rfl (fun ls hl => ?_)
  refine lv_iconst (v := 0) hx hb dX5_yarnOfThreads_2 (by decide) ?_
  refine lv_istore_n (lv' := [(2, .int 0), (1, .int 0), (0, .ref h0)]) hx hb dX5_yarnOfThreads_3 rfl hl (by decide) rfl (fun ls hl => ?_)
  refine lv_iload_n hx hb dX5_yarnOfThreads_4 rfl (lv_at hl 0 rfl) ?_
  refine lv_aload_n hx hb dX5_yarnOfThreads_5 rfl (lv_at hl 2 rfl) ?_
  refine va_get (D := (dC, dI)) (ci := 11) (v := .int 0) (C := RX5) (T := TX5) (N := 13) hx hb hts (by decide +kernel) hown hK hP 0 rfl rfl 1 (by decide) (hts (.fieldLink RX5 83 "Bothfaces" "cardCount" "I") (by decide +kernel)) (fun _ h9 => h9) rfl dX5_yarnOfThreads_6 ?_
  refine lv_icmp_ge (tgt := 48) hx hb dX5_yarnOfThreads_9 (by decide) (fun c_1 => ?_) (fun c_1 => ?_)
  · refine lv_iload_n hx hb dX5_yarnOfThreads_48 rfl (lv_at hl 1 rfl) ?_
    refine W.widen (k := 0) (n := 0) (Nat.le_of_ble_eq_true rfl) (Nat.le_of_ble_eq_true rfl) ?_
    have hP9 := hP.sub (ws' := [(h0, .inr (11, [g0, .int 0, g2, g3, g4, g5, g6, g7, g8, g9, g10, g11, g12]))]) [0] rfl
    have hD9 := hD.sub (ws' := [(h0, .inr (11, [g0, .int 0, g2, g3, g4, g5, g6, g7, g8, g9, g10, g11, g12]))]) [0] (by decide) rfl
    have hK9 := hK.sub (tys' := []) [] rfl
    exact W.iret (v := 0) hx hb hr (fun t ht hW => ⟨⟨0, (), rfl, rfl, ⟨by rw [ht]; exact hP9, va_K.moved hW.alike hK9, hD9⟩⟩, hS.F ht⟩) hS.2.2 dX5_yarnOfThreads_49
  · exact absurd (by decide) c_1

set_option maxHeartbeats 4000000 in
set_option maxRecDepth 100000 in
theorem c_X5_isSound (l : Launch) (em : Nat → Nat) (dC : Nat → ClassId) (dI : Nat → Nat → Nat) (h0 : Nat) (g0 : Value) (g2 : Value) (g3 : Value) (g4 : Value) (g5 : Value) (g6 : Value) (g7 : Value) (g8 : Value) (g9 : Value) (g10 : Value) (g11 : Value) (g12 : Value) (sz : Nat) : Met l yX5_isSound wsX5_isSound ({ frames := 2, cells := 0, slots := 0, locals := 46 }) (va_Pc [.ref h0] (Pw em dC dI sz [(h0, .inr (11, [g0, .int 0, g2, g3, g4, g5, g6, g7, g8, g9, g10, g11, g12]))] [])) (va_Qi (fun (r : Int32) (_ : Unit) => r = 1) (fun _ t => True) (va_A [(h0, .inr (11, [g0, .int 0, g2, g3, g4, g5, g6, g7, g8, g9, g10, g11, g12]))] sz)) 0 0 (va_A [(h0, .inr (11, [g0, .int 0, g2, g3, g4, g5, g6, g7, g8, g9, g10, g11, g12]))] sz) := by
  refine Met.ofW (cc := cX5_isSound) (maxL := 2) (ret := (some .boolean)) (by decide) rfl ?_
  intro p e s m args below meth c s₁ B hml hv
  obtain ⟨rfl, hsz, hP, hK, hD0, hamb⟩ := hv
  have hx := B.exec
  have hb := B.bytes
  have hr := B.returns
  have hts := atoms_spec (ws := wsX5_isSound) B.pre
  have hown : s.vm.findClass RX5 = some m.cls := findClass_of_methodNamed B.named
  have hlocks := B.notSynchronized
  subst hsz
  have hD := hD0.self (sz := s.heap.size)
  generalize hAe : va_A [(h0, .inr (11, [g0, .int 0, g2, g3, g4, g5, g6, g7, g8, g9, g10, g11, g12]))] s.heap.size = A at hD hamb ⊢
  have hA : ∀ q : Nat, s.heap.size ≤ q → A q := fun q h => by rw [← hAe]; exact Or.inr h
  have hS : va_S A s.heap s.heap [] := va_S.rf
  have hP : va_P (dC, dI) vwCl [(h0, .inr (11, [g0, .int 0, g2, g3, g4, g5, g6, g7, g8, g9, g10, g11, g12]))] s.heap := hP
  have hl := lv_entry ([.ref h0]) (n := 2) (Nat.le_of_ble_eq_true rfl)
  rw [lg_entry_eq]
  generalize (lg_sl ([.ref h0]) ++ List.replicate (2 - (lg_sl ([.ref h0])).length) Slot.unset).toArray = ls at hl ⊢
  have hl : lv_has ls 2 [(0, .ref h0)] := hl
  refine lv_iconst (v := 0) hx hb dX5_isSound_0 (by decide) ?_
  refine lv_istore_n (lv' := [(1, .int 0), (0, .ref h0)]) hx hb dX5_isSound_1 rfl hl (by decide) rfl (fun ls hl => ?_)
  refine lv_iload_n hx hb dX5_isSound_2 rfl (lv_at hl 0 rfl) ?_
  refine lv_aload_n hx hb dX5_isSound_3 rfl (lv_at hl 1 rfl) ?_
  refine va_get (D := (dC, dI)) (ci := 11) (v := .int 0) (C := RX5) (T := TX5) (N := 13) hx hb hts (by decide +kernel) hown hK hP 0 rfl rfl 1 (by decide) (hts (.fieldLink RX5 83 "Bothfaces" "cardCount" "I") (by decide +kernel)) (fun _ h9 => h9) rfl dX5_isSound_4 ?_
  refine lv_icmp_ge (tgt := 39) hx hb dX5_isSound_7 (by decide) (fun c_1 => ?_) (fun c_1 => ?_)
  · refine lv_aload_n hx hb dX5_isSound_39 rfl (lv_at hl 1 rfl) ?_
    have hPc := hP.sub (ws' := [(h0, .inr (11, [g0, .int 0, g2, g3, g4, g5, g6, g7, g8, g9, g10, g11, g12]))]) [0] rfl
    have hDc := hD.sub (ws' := [(h0, .inr (11, [g0, .int 0, g2, g3, g4, g5, g6, g7, g8, g9, g10, g11, g12]))]) [0] (by decide) rfl
    have hKc := hK.sub (tys' := []) [] rfl
    have hFc := va_free (wc := [(h0, .inr (11, [g0, .int 0, g2, g3, g4, g5, g6, g7, g8, g9, g10, g11, g12]))]) hD hS hA [0] rfl
    refine va_calli (va_runV (As := []) (rest := []) ⟨hx, hb, hml, hown, hts⟩ (c_X5_yarnOfColours l em dC dI h0 g0 g2 g3 g4 g5 g6 g7 g8 g9 g10 g11 g12 s.heap.size) (cwV 0 hts gX5_isSound_X5_yarnOfColours rfl rfl rfl (by decide +kernel) ⟨Nat.le_of_ble_eq_true rfl, Nat.le_of_ble_eq_true rfl⟩) ⟨Pw.blind _ _ _ _ _ _ _, va_recv hKc hPc (ci := 11) (q0 := 0) rfl rfl, fun U hU hW => ⟨rfl, Pw.go hPc hKc hDc hamb hS hFc hU hW⟩⟩ rfl rfl hl.1 rfl (lv_room (Nat.le_of_ble_eq_true rfl)) dX5_isSound_40 ⟨Nat.le_of_ble_eq_true rfl, Nat.le_of_ble_eq_true rfl⟩) hS (fun q _ h => hFc q h) hFc (fun r_2 u t H1 locs1 ht hvm hw hB hz1 hk1 hS => ?_)
    obtain ⟨hP1, hK1, hD1⟩ := hB
    rw [ht] at hP1
    have hK1 := va_K.moved hvm.symm hK1
    obtain ⟨hP, hD⟩ := va_join (wr := []) (w1 := [(h0, .inr (11, [g0, .int 0, g2, g3, g4, g5, g6, g7, g8, g9, g10, g11, g12]))]) hP hD [0] [] rfl rfl (by decide) (by decide) hk1 hFc hP1 hD1
    have hK := (hK.sub (tys' := []) [] rfl).app hK1
    generalize H1 = H at hP hS ⊢
    have hP : va_P (dC, dI) vwCl [(h0, .inr (11, [g0, .int 0, g2, g3, g4, g5, g6, g7, g8, g9, g10, g11, g12]))] H := hP
    have hD : va_D A [(h0, .inr (11, [g0, .int 0, g2, g3, g4, g5, g6, g7, g8, g9, g10, g11, g12]))] := hD
    have hK : va_K (dC, dI) vwCl [] s := hK
    refine W.widen (k := 0) (n := 0) (Nat.le_of_ble_eq_true rfl) (Nat.le_of_ble_eq_true rfl) ?_
    have hw : r_2 = 0 := hw
    rw [hw]
    refine lv_aload_n hx hb dX5_isSound_43 rfl (lv_at hl 1 rfl) ?_
    have hPc := hP.sub (ws' := [(h0, .inr (11, [g0, .int 0, g2, g3, g4, g5, g6, g7, g8, g9, g10, g11, g12]))]) [0] rfl
    have hDc := hD.sub (ws' := [(h0, .inr (11, [g0, .int 0, g2, g3, g4, g5, g6, g7, g8, g9, g10, g11, g12]))]) [0] (by decide) rfl
    have hKc := hK.sub (tys' := []) [] rfl
    have hFc := va_free (wc := [(h0, .inr (11, [g0, .int 0, g2, g3, g4, g5, g6, g7, g8, g9, g10, g11, g12]))]) hD hS hA [0] rfl
    refine va_calli (va_runV (As := []) (rest := [.int 0]) ⟨hx, hb, hml, hown, hts⟩ (c_X5_yarnOfThreads l em dC dI h0 g0 g2 g3 g4 g5 g6 g7 g8 g9 g10 g11 g12 H.size) (cwV 0 hts gX5_isSound_X5_yarnOfThreads rfl rfl rfl (by decide +kernel) ⟨Nat.le_of_ble_eq_true rfl, Nat.le_of_ble_eq_true rfl⟩) ⟨Pw.blind _ _ _ _ _ _ _, va_recv hKc hPc (ci := 11) (q0 := 0) rfl rfl, fun U hU hW => ⟨rfl, Pw.go hPc hKc hDc hamb hS hFc hU hW⟩⟩ rfl rfl hl.1 rfl (lv_room (Nat.le_of_ble_eq_true rfl)) dX5_isSound_44 ⟨Nat.le_of_ble_eq_true rfl, Nat.le_of_ble_eq_true rfl⟩) hS (fun q _ h => hFc q h) hFc (fun r_3 u t H1 locs1 ht hvm hw hB hz1 hk1 hS => ?_)
    obtain ⟨hP1, hK1, hD1⟩ := hB
    rw [ht] at hP1
    have hK1 := va_K.moved hvm.symm hK1
    obtain ⟨hP, hD⟩ := va_join (wr := []) (w1 := [(h0, .inr (11, [g0, .int 0, g2, g3, g4, g5, g6, g7, g8, g9, g10, g11, g12]))]) hP hD [0] [] rfl rfl (by decide) (by decide) hk1 hFc hP1 hD1
    have hK := (hK.sub (tys' := []) [] rfl).app hK1
    generalize H1 = H at hP hS ⊢
    have hP : va_P (dC, dI) vwCl [(h0, .inr (11, [g0, .int 0, g2, g3, g4, g5, g6, g7, g8, g9, g10, g11, g12]))] H := hP
    have hD : va_D A [(h0, .inr (11, [g0, .int 0, g2, g3, g4, g5, g6, g7, g8, g9, g10, g11, g12]))] := hD
    have hK : va_K (dC, dI) vwCl [] s := hK
    refine W.widen (k := 0) (n := 0) (Nat.le_of_ble_eq_true rfl) (Nat.le_of_ble_eq_true rfl) ?_
    have hw : r_3 = 0 := hw
    rw [hw]
    refine lv_icmp_ne (tgt := 54) hx hb dX5_isSound_47 (by decide) (fun c_4 => ?_) (fun c_4 => ?_)
    · exact absurd (by decide) c_4
    · refine lv_iconst (v := 1) hx hb dX5_isSound_50 (by decide) ?_
      refine lv_goto (tgt := 55) hx hb dX5_isSound_51 (by decide) ?_
      refine W.widen (k := 0) (n := 0) (Nat.le_of_ble_eq_true rfl) (Nat.le_of_ble_eq_true rfl) ?_
      exact W.zret (v := 1) hx hb hr rfl (fun t ht hW => ⟨⟨1, (), rfl, rfl, trivial⟩, hS.F ht⟩) hS.2.2 dX5_isSound_55
  · exact absurd (by decide) c_1

set_option maxHeartbeats 4000000 in
set_option maxRecDepth 100000 in
theorem c_X5_brings (l : Launch) (em : Nat → Nat) (dC : Nat → ClassId) (dI : Nat → Nat → Nat) (h0 : Nat) (g0 : Value) (g1 : Value) (g2 : Value) (g3 : Value) (g4 : Value) (g5 : Value) (g6 : Value) (g7 : Value) (g8 : Value) (g9 : Value) (g10 : Value) (g11 : Value) (bk : Nat) (d0 : Value) (d1 : Value) (d2 : Value) (d3 : Value) (sz : Nat) : Met l yX5_brings wsX5_brings ({ frames := 0, cells := 0, slots := 0, locals := 0 }) (va_Pc [.ref h0] (Pw em dC dI sz [(h0, .inr (11, [g0, g1, g2, g3, g4, g5, g6, g7, g8, g9, g10, g11, .ref bk])), (bk, .inr (6, [d0, d1, d2, d3, .int 0]))] [])) (va_Qi (fun (r : Int32) (_ : Unit) => r = 0) (fun _ t => True) (va_A [(h0, .inr (11, [g0, g1, g2, g3, g4, g5, g6, g7, g8, g9, g10, g11, .ref bk])), (bk, .inr (6, [d0, d1, d2, d3, .int 0]))] sz)) 0 0 (va_A [(h0, .inr (11, [g0, g1, g2, g3, g4, g5, g6, g7, g8, g9, g10, g11, .ref bk])), (bk, .inr (6, [d0, d1, d2, d3, .int 0]))] sz) := by
  refine Met.ofW (cc := cX5_brings) (maxL := 3) (ret := (some .int)) (by decide) rfl ?_
  intro p e s m args below meth c s₁ B hml hv
  obtain ⟨rfl, hsz, hP, hK, hD0, hamb⟩ := hv
  have hx := B.exec
  have hb := B.bytes
  have hr := B.returns
  have hts := atoms_spec (ws := wsX5_brings) B.pre
  have hown : s.vm.findClass RX5 = some m.cls := findClass_of_methodNamed B.named
  have hlocks := B.notSynchronized
  subst hsz
  have hD := hD0.self (sz := s.heap.size)
  generalize hAe : va_A [(h0, .inr (11, [g0, g1, g2, g3, g4, g5, g6, g7, g8, g9, g10, g11, .ref bk])), (bk, .inr (6, [d0, d1, d2, d3, .int 0]))] s.heap.size = A at hD hamb ⊢
  have hA : ∀ q : Nat, s.heap.size ≤ q → A q := fun q h => by rw [← hAe]; exact Or.inr h
  have hS : va_S A s.heap s.heap [] := va_S.rf
  have hP : va_P (dC, dI) vwCl [(h0, .inr (11, [g0, g1, g2, g3, g4, g5, g6, g7, g8, g9, g10, g11, .ref bk])), (bk, .inr (6, [d0, d1, d2, d3, .int 0]))] s.heap := hP
  have hl := lv_entry ([.ref h0]) (n := 3) (Nat.le_of_ble_eq_true rfl)
  rw [lg_entry_eq]
  generalize (lg_sl ([.ref h0]) ++ List.replicate (3 - (lg_sl ([.ref h0])).length) Slot.unset).toArray = ls at hl ⊢
  have hl : lv_has ls 3 [(0, .ref h0)] := hl
  refine lv_iconst (v := 0) hx hb dX5_brings_0 (by decide) ?_
  refine lv_istore_n (lv' := [(1, .int 0), (0, .ref h0)]) hx hb dX5_brings_1 rfl hl (by decide) rfl (fun ls hl => ?_)
  refine lv_iconst (v := 0) hx hb dX5_brings_2 (by decide) ?_
  refine lv_istore_n (lv' := [(2, .int 0), (1, .int 0), (0, .ref h0)]) hx hb dX5_brings_3 rfl hl (by decide) rfl (fun ls hl => ?_)
  refine lv_iload_n hx hb dX5_brings_4 rfl (lv_at hl 0 rfl) ?_
  refine lv_aload_n hx hb dX5_brings_5 rfl (lv_at hl 2 rfl) ?_
  refine va_get (D := (dC, dI)) (ci := 11) (v := .ref bk) (C := RX5) (T := TX5) (N := 13) hx hb hts (by decide +kernel) hown hK hP 0 rfl rfl 12 (by decide) (hts (.fieldLink RX5 58 "Bothfaces" "book" "LBothfaces$Book;") (by decide +kernel)) (fun _ h9 => h9) rfl dX5_brings_6 ?_
  refine va_getN (D := (dC, dI)) (ci := 6) (v := .int 0) (C := RX0) (T := TX0) (N := 5) hx hb hts (by decide +kernel) hown hK hP 1 rfl rfl 4 (by decide) (hamb.use (w := .fieldLinkNest RX5 255 "Bothfaces$Book" "count" "I" RX5) (by decide +kernel)) (fun _ h9 => h9) rfl dX5_brings_9 ?_
  refine lv_icmp_ge (tgt := 40) hx hb dX5_brings_12 (by decide) (fun c_1 => ?_) (fun c_1 => ?_)
  · refine lv_iload_n hx hb dX5_brings_40 rfl (lv_at hl 1 rfl) ?_
    refine W.widen (k := 0) (n := 0) (Nat.le_of_ble_eq_true rfl) (Nat.le_of_ble_eq_true rfl) ?_
    exact W.iret (v := 0) hx hb hr (fun t ht hW => ⟨⟨0, (), rfl, rfl, trivial⟩, hS.F ht⟩) hS.2.2 dX5_brings_41
  · exact absurd (by decide) c_1

set_option maxHeartbeats 4000000 in
set_option maxRecDepth 100000 in
theorem c_X5_readyOn (l : Launch) (hlt : l.stackTraces = false) (em : Nat → Nat) (dC : Nat → ClassId) (dI : Nat → Nat → Nat) (h0 : Nat) (p0 : Int32) (g0 : Value) (g1 : Value) (g2 : Value) (g3 : Value) (g4 : Value) (g5 : Value) (g6 : Value) (g7 : Value) (g8 : Value) (g9 : Value) (g10 : Value) (g11 : Value) (bk : Nat) (d0 : Value) (d1 : Value) (d2 : Value) (d3 : Value) (sz : Nat) : vx_Met l yX5_readyOn wsX5_readyOn ({ frames := 6, cells := 1, slots := 6, locals := 82 }) (va_Pc [.ref h0, .int p0] (Pw em dC dI sz [(h0, .inr (11, [g0, g1, g2, g3, g4, g5, g6, g7, g8, g9, g10, g11, .ref bk])), (bk, .inr (6, [d0, d1, d2, d3, .int 0]))] [])) (va_Qi (fun (r : Int32) (_ : Unit) => False) (fun _ t => True) (va_A [(h0, .inr (11, [g0, g1, g2, g3, g4, g5, g6, g7, g8, g9, g10, g11, .ref bk])), (bk, .inr (6, [d0, d1, d2, d3, .int 0]))] sz)) (vx_X (fun _ : Unit => True) (fun E _ _ => (E = "java/lang/IndexOutOfBoundsException" ∧ True)) (va_A [(h0, .inr (11, [g0, g1, g2, g3, g4, g5, g6, g7, g8, g9, g10, g11, .ref bk])), (bk, .inr (6, [d0, d1, d2, d3, .int 0]))] sz)) 1 6 (va_A [(h0, .inr (11, [g0, g1, g2, g3, g4, g5, g6, g7, g8, g9, g10, g11, .ref bk])), (bk, .inr (6, [d0, d1, d2, d3, .int 0]))] sz) := by
  refine vx_ofW (cc := cX5_readyOn) (maxL := 2) (ret := (some .int)) (by decide) rfl ?_
  intro p e s m args below meth c s₁ B hml htab hv
  obtain ⟨rfl, hsz, hP, hK, hD0, hamb⟩ := hv
  have hx := B.exec
  have hb := B.bytes
  have hr := B.returns
  have hts := atoms_spec (ws := wsX5_readyOn) B.pre
  have hown : s.vm.findClass RX5 = some m.cls := findClass_of_methodNamed B.named
  have hlocks := B.notSynchronized
  subst hsz
  have hD := hD0.self (sz := s.heap.size)
  generalize hAe : va_A [(h0, .inr (11, [g0, g1, g2, g3, g4, g5, g6, g7, g8, g9, g10, g11, .ref bk])), (bk, .inr (6, [d0, d1, d2, d3, .int 0]))] s.heap.size = A at hD hamb ⊢
  have hA : ∀ q : Nat, s.heap.size ≤ q → A q := fun q h => by rw [← hAe]; exact Or.inr h
  have hS : va_S A s.heap s.heap [] := va_S.rf
  have hP : va_P (dC, dI) vwCl [(h0, .inr (11, [g0, g1, g2, g3, g4, g5, g6, g7, g8, g9, g10, g11, .ref bk])), (bk, .inr (6, [d0, d1, d2, d3, .int 0]))] s.heap := hP
  have hl := lv_entry ([.ref h0, .int p0]) (n := 2) (Nat.le_of_ble_eq_true rfl)
  rw [lg_entry_eq]
  generalize (lg_sl ([.ref h0, .int p0]) ++ List.replicate (2 - (lg_sl ([.ref h0, .int p0])).length) Slot.unset).toArray = ls at hl ⊢
  have hl : lv_has ls 2 [(0, .ref h0), (1, .int p0)] := hl
  refine lv_iload_n hx hb dX5_readyOn_0 rfl (lv_at hl 1 rfl) ?_
  refine lv_if_lt (tgt := 15) hx hb dX5_readyOn_1 (by decide) (fun c_1 => ?_) (fun c_1 => ?_)
  · have t_2 := b_lt (k := 0) rfl c_1
    obtain ⟨sa, hsa⟩ := hamb.strs (RX5, 266, "no such order") (by decide +kernel)
    exact vx_throwSW (names := ["java/lang/RuntimeException", "java/lang/Exception"]) hx hb hlt hown (by decide +kernel) (by decide +kernel) (hts (.classLink RX5 264 "java/lang/IndexOutOfBoundsException") (by decide +kernel)) (hts (.initialized "java/lang/IndexOutOfBoundsException") (by decide +kernel)) hsa (vx_hat (B := ambW) (fun w hw => hts w (List.mem_cons_of_mem _ (List.mem_append_left _ (List.mem_append_right _ hw)))) (by decide +kernel) (fun w hw => hamb.use hw)) (by decide +kernel) hamb.us hamb.ss hS (by rw [hml]; exact hl.1) dX5_readyOn_15 dX5_readyOn_18 dX5_readyOn_19 dX5_readyOn_22 dX5_readyOn_25 (fun x hxx => (htab x hxx).elim) (Nat.le_of_ble_eq_true rfl) (Nat.le_of_ble_eq_true rfl) (Nat.le_of_ble_eq_true rfl) (Nat.le_of_ble_eq_true rfl) hlocks (fun t ha h1 h2 => ⟨(), trivial, (⟨rfl, trivial⟩), xc_F hS h1 h2⟩) hS.2.2 (Nat.le_of_ble_eq_true rfl) (Nat.le_of_ble_eq_true rfl)
  · have t_3 := b_nlt (k := 0) rfl c_1
    refine lv_iload_n hx hb dX5_readyOn_4 rfl (lv_at hl 1 rfl) ?_
    refine lv_aload_n hx hb dX5_readyOn_5 rfl (lv_at hl 0 rfl) ?_
    refine va_get (D := (dC, dI)) (ci := 11) (v := .ref bk) (C := RX5) (T := TX5) (N := 13) hx hb hts (by decide +kernel) hown hK hP 0 rfl rfl 12 (by decide) (hts (.fieldLink RX5 58 "Bothfaces" "book" "LBothfaces$Book;") (by decide +kernel)) (fun _ h9 => h9) rfl dX5_readyOn_6 ?_
    refine va_getN (D := (dC, dI)) (ci := 6) (v := .int 0) (C := RX0) (T := TX0) (N := 5) hx hb hts (by decide +kernel) hown hK hP 1 rfl rfl 4 (by decide) (hamb.use (w := .fieldLinkNest RX5 255 "Bothfaces$Book" "count" "I" RX5) (by decide +kernel)) (fun _ h9 => h9) rfl dX5_readyOn_9 ?_
    refine lv_icmp_lt (tgt := 26) hx hb dX5_readyOn_12 (by decide) (fun c_4 => ?_) (fun c_4 => ?_)
    · have t_5 := b_lt (k := 0) rfl c_4
      exfalso; omega
    · have t_6 := b_nlt (k := 0) rfl c_4
      obtain ⟨sa, hsa⟩ := hamb.strs (RX5, 266, "no such order") (by decide +kernel)
      exact vx_throwSW (names := ["java/lang/RuntimeException", "java/lang/Exception"]) hx hb hlt hown (by decide +kernel) (by decide +kernel) (hts (.classLink RX5 264 "java/lang/IndexOutOfBoundsException") (by decide +kernel)) (hts (.initialized "java/lang/IndexOutOfBoundsException") (by decide +kernel)) hsa (vx_hat (B := ambW) (fun w hw => hts w (List.mem_cons_of_mem _ (List.mem_append_left _ (List.mem_append_right _ hw)))) (by decide +kernel) (fun w hw => hamb.use hw)) (by decide +kernel) hamb.us hamb.ss hS (by rw [hml]; exact hl.1) dX5_readyOn_15 dX5_readyOn_18 dX5_readyOn_19 dX5_readyOn_22 dX5_readyOn_25 (fun x hxx => (htab x hxx).elim) (Nat.le_of_ble_eq_true rfl) (Nat.le_of_ble_eq_true rfl) (Nat.le_of_ble_eq_true rfl) (Nat.le_of_ble_eq_true rfl) hlocks (fun t ha h1 h2 => ⟨(), trivial, (⟨rfl, trivial⟩), xc_F hS h1 h2⟩) hS.2.2 (Nat.le_of_ble_eq_true rfl) (Nat.le_of_ble_eq_true rfl)

set_option maxHeartbeats 4000000 in
set_option maxRecDepth 100000 in
theorem c_X0_mostWorth (l : Launch) (em : Nat → Nat) (dC : Nat → ClassId) (dI : Nat → Nat → Nat) (bk : Nat) (mo : Nat) (d0 : Value) (d1 : Value) (d2 : Value) (cM : ClassId) (sz : Nat) : Met l yX0_mostWorth wsX0_mostWorth ({ frames := 0, cells := 0, slots := 0, locals := 0 }) (va_Pc [.ref bk] (Pw em dC dI sz [(bk, .inr (6, [d0, d1, d2, .ref mo, .int 0])), (mo, .inl (cM, 256, .inl (fun _ => 0)))] [(cM, .int)])) (va_Qi (fun (r : Int32) (_ : Unit) => r = 0) (fun _ t => True) (va_A [(bk, .inr (6, [d0, d1, d2, .ref mo, .int 0])), (mo, .inl (cM, 256, .inl (fun _ => 0)))] sz)) 0 0 (va_A [(bk, .inr (6, [d0, d1, d2, .ref mo, .int 0])), (mo, .inl (cM, 256, .inl (fun _ => 0)))] sz) := by
  refine Met.ofW (cc := cX0_mostWorth) (maxL := 6) (ret := (some .int)) (by decide) rfl ?_
  intro p e s m args below meth c s₁ B hml hv
  obtain ⟨rfl, hsz, hP, hK, hD0, hamb⟩ := hv
  have hx := B.exec
  have hb := B.bytes
  have hr := B.returns
  have hts := atoms_spec (ws := wsX0_mostWorth) B.pre
  have hown : s.vm.findClass RX0 = some m.cls := findClass_of_methodNamed B.named
  have hlocks := B.notSynchronized
  subst hsz
  have hD := hD0.self (sz := s.heap.size)
  generalize hAe : va_A [(bk, .inr (6, [d0, d1, d2, .ref mo, .int 0])), (mo, .inl (cM, 256, .inl (fun _ => 0)))] s.heap.size = A at hD hamb ⊢
  have hA : ∀ q : Nat, s.heap.size ≤ q → A q := fun q h => by rw [← hAe]; exact Or.inr h
  have hS : va_S A s.heap s.heap [] := va_S.rf
  have hP : va_P (dC, dI) vwCl [(bk, .inr (6, [d0, d1, d2, .ref mo, .int 0])), (mo, .inl (cM, 256, .inl (fun _ => 0)))] s.heap := hP
  have hl := lv_entry ([.ref bk]) (n := 6) (Nat.le_of_ble_eq_true rfl)
  rw [lg_entry_eq]
  generalize (lg_sl ([.ref bk]) ++ List.replicate (6 - (lg_sl ([.ref bk])).length) Slot.unset).toArray = ls at hl ⊢
  have hl : lv_has ls 6 [(0, .ref bk)] := hl
  refine lv_iconst (v := 1) hx hb dX0_mostWorth_0 (by decide) ?_
  refine lv_aload_n hx hb dX0_mostWorth_1 rfl (lv_at hl 0 rfl) ?_
  refine va_get (D := (dC, dI)) (ci := 6) (v := .int 0) (C := RX0) (T := TX0) (N := 5) hx hb hts (by decide +kernel) hown hK hP 0 rfl rfl 4 (by decide) (hts (.fieldLink RX0 24 "Bothfaces$Book" "count" "I") (by decide +kernel)) (fun _ h9 => h9) rfl dX0_mostWorth_2 ?_
  refine lv_ishl hx hb dX0_mostWorth_5 ?_
  refine lv_topi (fun k_1 ek_1 => ?_)
  obtain rfl : k_1 = 1 := ek_1.trans (by decide)
  refine lv_istore_n (lv' := [(1, .int 1), (0, .ref bk)]) hx hb dX0_mostWorth_6 rfl hl (by decide) rfl (fun ls hl => ?_)
  refine lv_iconst (v := 1) hx hb dX0_mostWorth_7 (by decide) ?_
  refine lv_istore_n (lv' := [(2, .int 1), (1, .int 1), (0, .ref bk)]) hx hb dX0_mostWorth_8 rfl hl (by decide) rfl (fun ls hl => ?_)
  refine lv_iload_n hx hb dX0_mostWorth_9 rfl (lv_at hl 0 rfl) ?_
  refine lv_iload_n hx hb dX0_mostWorth_10 rfl (lv_at hl 1 rfl) ?_
  refine lv_icmp_ge (tgt := 92) hx hb dX0_mostWorth_11 (by decide) (fun c_2 => ?_) (fun c_2 => ?_)
  · refine lv_aload_n hx hb dX0_mostWorth_92 rfl (lv_at hl 2 rfl) ?_
    refine va_get (D := (dC, dI)) (ci := 6) (v := .ref mo) (C := RX0) (T := TX0) (N := 5) hx hb hts (by decide +kernel) hown hK hP 0 rfl rfl 3 (by decide) (hts (.fieldLink RX0 21 "Bothfaces$Book" "mostOf" "[I") (by decide +kernel)) (fun _ h9 => h9) rfl dX0_mostWorth_93 ?_
    refine lv_iload_n hx hb dX0_mostWorth_96 rfl (lv_at hl 1 rfl) ?_
    refine lv_iconst (v := 1) hx hb dX0_mostWorth_97 (by decide) ?_
    refine lv_isub hx hb dX0_mostWorth_98 ?_
    refine lv_topi (fun k_3 ek_3 => ?_)
    obtain rfl : k_3 = 0 := ek_3.trans (by decide)
    refine va_iald hx hb hK hP 1 0 rfl rfl (vp_in_iff.mpr ⟨by decide, by decide⟩) dX0_mostWorth_99 ?_
    refine lv_topi (fun k_4 ek_4 => ?_)
    obtain rfl : k_4 = 0 := ek_4
    refine W.widen (k := 0) (n := 0) (Nat.le_of_ble_eq_true rfl) (Nat.le_of_ble_eq_true rfl) ?_
    exact W.iret (v := 0) hx hb hr (fun t ht hW => ⟨⟨0, (), rfl, rfl, trivial⟩, hS.F ht⟩) hS.2.2 dX0_mostWorth_100
  · exact absurd (by decide) c_2

set_option maxHeartbeats 4000000 in
set_option maxRecDepth 100000 in
theorem c_X5_bringsMost (l : Launch) (em : Nat → Nat) (dC : Nat → ClassId) (dI : Nat → Nat → Nat) (h0 : Nat) (g0 : Value) (g1 : Value) (g2 : Value) (g3 : Value) (g4 : Value) (g5 : Value) (g6 : Value) (g7 : Value) (g8 : Value) (g9 : Value) (g10 : Value) (g11 : Value) (bk : Nat) (mo : Nat) (d0 : Value) (d1 : Value) (d2 : Value) (cM : ClassId) (sz : Nat) : Met l yX5_bringsMost wsX5_bringsMost ({ frames := 1, cells := 0, slots := 0, locals := 25 }) (va_Pc [.ref h0] (Pw em dC dI sz [(h0, .inr (11, [g0, g1, g2, g3, g4, g5, g6, g7, g8, g9, g10, g11, .ref bk])), (bk, .inr (6, [d0, d1, d2, .ref mo, .int 0])), (mo, .inl (cM, 256, .inl (fun _ => 0)))] [(cM, .int)])) (va_Qi (fun (r : Int32) (_ : Unit) => r = 0) (fun _ t => True) (va_A [(h0, .inr (11, [g0, g1, g2, g3, g4, g5, g6, g7, g8, g9, g10, g11, .ref bk])), (bk, .inr (6, [d0, d1, d2, .ref mo, .int 0])), (mo, .inl (cM, 256, .inl (fun _ => 0)))] sz)) 0 0 (va_A [(h0, .inr (11, [g0, g1, g2, g3, g4, g5, g6, g7, g8, g9, g10, g11, .ref bk])), (bk, .inr (6, [d0, d1, d2, .ref mo, .int 0])), (mo, .inl (cM, 256, .inl (fun _ => 0)))] sz) := by
  refine Met.ofW (cc := cX5_bringsMost) (maxL := 1) (ret := (some .int)) (by decide) rfl ?_
  intro p e s m args below meth c s₁ B hml hv
  obtain ⟨rfl, hsz, hP, hK, hD0, hamb⟩ := hv
  have hx := B.exec
  have hb := B.bytes
  have hr := B.returns
  have hts := atoms_spec (ws := wsX5_bringsMost) B.pre
  have hown : s.vm.findClass RX5 = some m.cls := findClass_of_methodNamed B.named
  have hlocks := B.notSynchronized
  subst hsz
  have hD := hD0.self (sz := s.heap.size)
  generalize hAe : va_A [(h0, .inr (11, [g0, g1, g2, g3, g4, g5, g6, g7, g8, g9, g10, g11, .ref bk])), (bk, .inr (6, [d0, d1, d2, .ref mo, .int 0])), (mo, .inl (cM, 256, .inl (fun _ => 0)))] s.heap.size = A at hD hamb ⊢
  have hA : ∀ q : Nat, s.heap.size ≤ q → A q := fun q h => by rw [← hAe]; exact Or.inr h
  have hS : va_S A s.heap s.heap [] := va_S.rf
  have hP : va_P (dC, dI) vwCl [(h0, .inr (11, [g0, g1, g2, g3, g4, g5, g6, g7, g8, g9, g10, g11, .ref bk])), (bk, .inr (6, [d0, d1, d2, .ref mo, .int 0])), (mo, .inl (cM, 256, .inl (fun _ => 0)))] s.heap := hP
  have hl := lv_entry ([.ref h0]) (n := 1) (Nat.le_of_ble_eq_true rfl)
  rw [lg_entry_eq]
  generalize (lg_sl ([.ref h0]) ++ List.replicate (1 - (lg_sl ([.ref h0])).length) Slot.unset).toArray = ls at hl ⊢
  have hl : lv_has ls 1 [(0, .ref h0)] := hl
  refine lv_aload_n hx hb dX5_bringsMost_0 rfl (lv_at hl 0 rfl) ?_
  refine va_get (D := (dC, dI)) (ci := 11) (v := .ref bk) (C := RX5) (T := TX5) (N := 13) hx hb hts (by decide +kernel) hown hK hP 0 rfl rfl 12 (by decide) (hts (.fieldLink RX5 58 "Bothfaces" "book" "LBothfaces$Book;") (by decide +kernel)) (fun _ h9 => h9) rfl dX5_bringsMost_1 ?_
  have hPc := hP.sub (ws' := [(bk, .inr (6, [d0, d1, d2, .ref mo, .int 0])), (mo, .inl (cM, 256, .inl (fun _ => 0)))]) [1, 2] rfl
  have hDc := hD.sub (ws' := [(bk, .inr (6, [d0, d1, d2, .ref mo, .int 0])), (mo, .inl (cM, 256, .inl (fun _ => 0)))]) [1, 2] (by decide) rfl
  have hKc := hK.sub (tys' := [(cM, .int)]) [0] rfl
  have hFc := va_free (wc := [(bk, .inr (6, [d0, d1, d2, .ref mo, .int 0])), (mo, .inl (cM, 256, .inl (fun _ => 0)))]) hD hS hA [1, 2] rfl
  refine va_calli (va_runVN (As := []) (rest := []) ⟨hx, hb, hml, hown, hts⟩ (c_X0_mostWorth l em dC dI bk mo d0 d1 d2 cM s.heap.size) ⟨va_cnB 0 hts gX5_bringsMost_X0_mostWorth_n275 rfl rfl rfl (hamb.words (.methodLinkNest RX5 275 yX0_mostWorth RX5) (by decide +kernel)) (hts (.initialized RX0) (by decide +kernel)) (by decide +kernel) ⟨Nat.le_of_ble_eq_true rfl, Nat.le_of_ble_eq_true rfl⟩, (hts (.instanceMethod yX0_mostWorth) (by decide +kernel)), (hts (.selects RX0 yX0_mostWorth yX0_mostWorth) (by decide +kernel))⟩ ⟨Pw.blind _ _ _ _ _ _ _, va_recv hKc hPc (ci := 6) (q0 := 0) rfl rfl, fun U hU hW => ⟨rfl, Pw.go hPc hKc hDc hamb hS hFc hU hW⟩⟩ rfl rfl hl.1 rfl (lv_room (Nat.le_of_ble_eq_true rfl)) dX5_bringsMost_4 ⟨Nat.le_of_ble_eq_true rfl, Nat.le_of_ble_eq_true rfl⟩) hS (fun q _ h => hFc q h) hFc (fun r_1 u t H1 locs1 ht hvm hw hB hz1 hk1 hS => ?_)
  obtain ⟨hP, hD⟩ := va_rest (wr := [(h0, .inr (11, [g0, g1, g2, g3, g4, g5, g6, g7, g8, g9, g10, g11, .ref bk]))]) hP hD [1, 2] [0] rfl rfl (by decide) (by decide) hk1 hFc
  generalize H1 = H at hP hS ⊢
  refine W.widen (k := 0) (n := 0) (Nat.le_of_ble_eq_true rfl) (Nat.le_of_ble_eq_true rfl) ?_
  have hw : r_1 = 0 := hw
  rw [hw]
  refine W.widen (k := 0) (n := 0) (Nat.le_of_ble_eq_true rfl) (Nat.le_of_ble_eq_true rfl) ?_
  exact W.iret (v := 0) hx hb hr (fun t ht hW => ⟨⟨0, (), rfl, rfl, trivial⟩, hS.F ht⟩) hS.2.2 dX5_bringsMost_7

set_option maxHeartbeats 4000000 in
set_option maxRecDepth 100000 in
theorem c_X5_checksum (l : Launch) (em : Nat → Nat) (dC : Nat → ClassId) (dI : Nat → Nat → Nat) (h0 : Nat) (g0 : Value) (g3 : Value) (g4 : Value) (g5 : Value) (g6 : Value) (g7 : Value) (g8 : Value) (g9 : Value) (g10 : Value) (g11 : Value) (bk : Nat) (d0 : Value) (d1 : Value) (d2 : Value) (d3 : Value) (sz : Nat) : Met l yX5_checksum wsX5_checksum ({ frames := 0, cells := 0, slots := 0, locals := 0 }) (va_Pc [.ref h0] (Pw em dC dI sz [(h0, .inr (11, [g0, .int 0, .int 0, g3, g4, g5, g6, g7, g8, g9, g10, g11, .ref bk])), (bk, .inr (6, [d0, d1, d2, d3, .int 0]))] [])) (va_Ql (fun (r : Int64) (_ : Unit) => r = 217) (fun _ t => True) (va_A [(h0, .inr (11, [g0, .int 0, .int 0, g3, g4, g5, g6, g7, g8, g9, g10, g11, .ref bk])), (bk, .inr (6, [d0, d1, d2, d3, .int 0]))] sz)) 0 0 (va_A [(h0, .inr (11, [g0, .int 0, .int 0, g3, g4, g5, g6, g7, g8, g9, g10, g11, .ref bk])), (bk, .inr (6, [d0, d1, d2, d3, .int 0]))] sz) := by
  refine Met.ofW (cc := cX5_checksum) (maxL := 5) (ret := (some .long)) (by decide) rfl ?_
  intro p e s m args below meth c s₁ B hml hv
  obtain ⟨rfl, hsz, hP, hK, hD0, hamb⟩ := hv
  have hx := B.exec
  have hb := B.bytes
  have hr := B.returns
  have hts := atoms_spec (ws := wsX5_checksum) B.pre
  have hown : s.vm.findClass RX5 = some m.cls := findClass_of_methodNamed B.named
  have hlocks := B.notSynchronized
  subst hsz
  have hD := hD0.self (sz := s.heap.size)
  generalize hAe : va_A [(h0, .inr (11, [g0, .int 0, .int 0, g3, g4, g5, g6, g7, g8, g9, g10, g11, .ref bk])), (bk, .inr (6, [d0, d1, d2, d3, .int 0]))] s.heap.size = A at hD hamb ⊢
  have hA : ∀ q : Nat, s.heap.size ≤ q → A q := fun q h => by rw [← hAe]; exact Or.inr h
  have hS : va_S A s.heap s.heap [] := va_S.rf
  have hP : va_P (dC, dI) vwCl [(h0, .inr (11, [g0, .int 0, .int 0, g3, g4, g5, g6, g7, g8, g9, g10, g11, .ref bk])), (bk, .inr (6, [d0, d1, d2, d3, .int 0]))] s.heap := hP
  have hl := lv_entry ([.ref h0]) (n := 5) (Nat.le_of_ble_eq_true rfl)
  rw [lg_entry_eq]
  generalize (lg_sl ([.ref h0]) ++ List.replicate (5 - (lg_sl ([.ref h0])).length) Slot.unset).toArray = ls at hl ⊢
  have hl : lv_has ls 5 [(0, .ref h0)] := hl
  refine lv_ldc2 (v := 7) hx hb hown (hts (.constantLong RX5 279 (7)) (by decide +kernel)) dX5_checksum_0 ?_
  refine lv_lstore_n (lv' := [(1, .long 7), (0, .ref h0)]) hx hb dX5_checksum_3 rfl hl (by decide) rfl (fun ls hl => ?_)
  refine lv_iconst (v := 0) hx hb dX5_checksum_4 (by decide) ?_
  refine lv_istore_n (lv' := [(3, .int 0), (1, .long 7), (0, .ref h0)]) hx hb dX5_checksum_5 rfl hl (by decide) rfl (fun ls hl => ?_)
  refine lv_iload_n hx hb dX5_checksum_6 rfl (lv_at hl 0 rfl) ?_
  refine lv_aload_n hx hb dX5_checksum_7 rfl (lv_at hl 2 rfl) ?_
  refine va_get (D := (dC, dI)) (ci := 11) (v := .int 0) (C := RX5) (T := TX5) (N := 13) hx hb hts (by decide +kernel) hown hK hP 0 rfl rfl 1 (by decide) (hts (.fieldLink RX5 83 "Bothfaces" "cardCount" "I") (by decide +kernel)) (fun _ h9 => h9) rfl dX5_checksum_8 ?_
  refine lv_icmp_ge (tgt := 54) hx hb dX5_checksum_11 (by decide) (fun c_1 => ?_) (fun c_1 => ?_)
  · refine lv_iconst (v := 0) hx hb dX5_checksum_54 (by decide) ?_
    refine lv_istore_n (lv' := [(3, .int 0), (1, .long 7), (0, .ref h0)]) hx hb dX5_checksum_55 rfl hl (by decide) rfl (fun ls hl => ?_)
    refine lv_iload_n hx hb dX5_checksum_56 rfl (lv_at hl 0 rfl) ?_
    refine lv_aload_n hx hb dX5_checksum_57 rfl (lv_at hl 2 rfl) ?_
    refine va_get (D := (dC, dI)) (ci := 11) (v := .int 0) (C := RX5) (T := TX5) (N := 13) hx hb hts (by decide +kernel) hown hK hP 0 rfl rfl 2 (by decide) (hts (.fieldLink RX5 74 "Bothfaces" "pickCount" "I") (by decide +kernel)) (fun _ h9 => h9) rfl dX5_checksum_58 ?_
    refine lv_icmp_ge (tgt := 128) hx hb dX5_checksum_61 (by decide) (fun c_2 => ?_) (fun c_2 => ?_)
    · refine lv_ldc2 (v := 31) hx hb hown (hts (.constantLong RX5 281 (31)) (by decide +kernel)) dX5_checksum_128 ?_
      refine lv_lload_n hx hb dX5_checksum_131 rfl (lv_at hl 1 rfl) ?_
      refine lv_lmul hx hb dX5_checksum_132 ?_
      refine lv_topl (fun k_3 ek_3 => ?_)
      obtain rfl : k_3 = 217 := ek_3.trans (by decide)
      refine lv_aload_n hx hb dX5_checksum_133 rfl (lv_at hl 2 rfl) ?_
      refine va_get (D := (dC, dI)) (ci := 11) (v := .ref bk) (C := RX5) (T := TX5) (N := 13) hx hb hts (by decide +kernel) hown hK hP 0 rfl rfl 12 (by decide) (hts (.fieldLink RX5 58 "Bothfaces" "book" "LBothfaces$Book;") (by decide +kernel)) (fun _ h9 => h9) rfl dX5_checksum_134 ?_
      refine va_getN (D := (dC, dI)) (ci := 6) (v := .int 0) (C := RX0) (T := TX0) (N := 5) hx hb hts (by decide +kernel) hown hK hP 1 rfl rfl 4 (by decide) (hamb.use (w := .fieldLinkNest RX5 255 "Bothfaces$Book" "count" "I" RX5) (by decide +kernel)) (fun _ h9 => h9) rfl dX5_checksum_137 ?_
      refine lv_i2l (v := 0) hx hb dX5_checksum_140 (by decide) ?_
      refine lv_ladd hx hb dX5_checksum_141 ?_
      refine lv_topl (fun k_4 ek_4 => ?_)
      obtain rfl : k_4 = 217 := ek_4.trans (by decide)
      refine W.widen (k := 0) (n := 0) (Nat.le_of_ble_eq_true rfl) (Nat.le_of_ble_eq_true rfl) ?_
      exact W.lret (v := 217) hx hb hr (fun t ht hW => ⟨⟨217, (), rfl, rfl, trivial⟩, hS.F ht⟩) hS.2.2 dX5_checksum_142
    · exact absurd (by decide) c_2
  · exact absurd (by decide) c_1

set_option maxHeartbeats 4000000 in
set_option maxRecDepth 100000 in
theorem c_X5_weaver (l : Launch) (hlt : l.stackTraces = false) (em : Nat → Nat) (dC : Nat → ClassId) (dI : Nat → Nat → Nat) (h0 : Nat) (ra0 : Nat) (cR : ClassId) (p0 : Int32) (g0 : Value) (g1 : Value) (g2 : Value) (g3 : Value) (g4 : Value) (g5 : Value) (g6 : Value) (g7 : Value) (g8 : Value) (g9 : Value) (g12 : Value) (sz : Nat) : vx_Met l yX5_weaver wsX5_weaver ({ frames := 6, cells := 1, slots := 6, locals := 82 }) (va_Pc [.ref h0, .int p0] (Pw em dC dI sz [(h0, .inr (11, [g0, g1, g2, g3, g4, g5, g6, g7, g8, g9, .ref ra0, .int 0, g12])), (ra0, .inl (cR, 6, .inl (fun _ => 0)))] [(cR, .int)])) (va_Qi (fun (r : Int32) (_ : Unit) => ¬ (p0.toInt < 0 ∨ 99 < p0.toInt) ∧ r = 0) (fun _ t => True) (va_A [(h0, .inr (11, [g0, g1, g2, g3, g4, g5, g6, g7, g8, g9, .ref ra0, .int 0, g12])), (ra0, .inl (cR, 6, .inl (fun _ => 0)))] sz)) (vx_X (fun _ : Unit => True) (fun E _ _ => (E = "java/lang/IllegalArgumentException" ∧ (p0.toInt < 0 ∨ 99 < p0.toInt))) (va_A [(h0, .inr (11, [g0, g1, g2, g3, g4, g5, g6, g7, g8, g9, .ref ra0, .int 0, g12])), (ra0, .inl (cR, 6, .inl (fun _ => 0)))] sz)) 1 6 (va_A [(h0, .inr (11, [g0, g1, g2, g3, g4, g5, g6, g7, g8, g9, .ref ra0, .int 0, g12])), (ra0, .inl (cR, 6, .inl (fun _ => 0)))] sz) := by
  refine vx_ofW (cc := cX5_weaver) (maxL := 2) (ret := (some .int)) (by decide) rfl ?_
  intro p e s m args below meth c s₁ B hml htab hv
  obtain ⟨rfl, hsz, hP, hK, hD0, hamb⟩ := hv
  have hx := B.exec
  have hb := B.bytes
  have hr := B.returns
  have hts := atoms_spec (ws := wsX5_weaver) B.pre
  have hown : s.vm.findClass RX5 = some m.cls := findClass_of_methodNamed B.named
  have hlocks := B.notSynchronized
  subst hsz
  have hD := hD0.self (sz := s.heap.size)
  generalize hAe : va_A [(h0, .inr (11, [g0, g1, g2, g3, g4, g5, g6, g7, g8, g9, .ref ra0, .int 0, g12])), (ra0, .inl (cR, 6, .inl (fun _ => 0)))] s.heap.size = A at hD hamb ⊢
  have hA : ∀ q : Nat, s.heap.size ≤ q → A q := fun q h => by rw [← hAe]; exact Or.inr h
  have hS : va_S A s.heap s.heap [] := va_S.rf
  have hP : va_P (dC, dI) vwCl [(h0, .inr (11, [g0, g1, g2, g3, g4, g5, g6, g7, g8, g9, .ref ra0, .int 0, g12])), (ra0, .inl (cR, 6, .inl (fun _ => 0)))] s.heap := hP
  have hl := lv_entry ([.ref h0, .int p0]) (n := 2) (Nat.le_of_ble_eq_true rfl)
  rw [lg_entry_eq]
  generalize (lg_sl ([.ref h0, .int p0]) ++ List.replicate (2 - (lg_sl ([.ref h0, .int p0])).length) Slot.unset).toArray = ls at hl ⊢
  have hl : lv_has ls 2 [(0, .ref h0), (1, .int p0)] := hl
  refine lv_iload_n hx hb dX5_weaver_0 rfl (lv_at hl 1 rfl) ?_
  refine lv_if_lt (tgt := 10) hx hb dX5_weaver_1 (by decide) (fun c_1 => ?_) (fun c_1 => ?_)
  · have t_2 := b_lt (k := 0) rfl c_1
    obtain ⟨sa, hsa⟩ := hamb.strs (RX5, 237, "no such rate") (by decide +kernel)
    exact vx_throwS (names := ["java/lang/RuntimeException", "java/lang/Exception"]) hx hb hlt hown (by decide +kernel) (by decide +kernel) (hts (.classLink RX5 67 "java/lang/IllegalArgumentException") (by decide +kernel)) (hts (.initialized "java/lang/IllegalArgumentException") (by decide +kernel)) hsa (vx_hat (B := ambW) (fun w hw => hts w (List.mem_cons_of_mem _ (List.mem_append_left _ (List.mem_append_left _ (List.mem_append_right _ hw))))) (by decide +kernel) (fun w hw => hamb.use hw)) (by decide +kernel) hamb.us hamb.ss hS (by rw [hml]; exact hl.1) dX5_weaver_10 dX5_weaver_13 dX5_weaver_14 dX5_weaver_16 dX5_weaver_19 (fun x hxx => (htab x hxx).elim) (Nat.le_of_ble_eq_true rfl) (Nat.le_of_ble_eq_true rfl) (Nat.le_of_ble_eq_true rfl) (Nat.le_of_ble_eq_true rfl) hlocks (fun t ha h1 h2 => ⟨(), trivial, (⟨rfl, by omega⟩), xc_F hS h1 h2⟩) hS.2.2 (Nat.le_of_ble_eq_true rfl) (Nat.le_of_ble_eq_true rfl)
  · have t_3 := b_nlt (k := 0) rfl c_1
    refine lv_iload_n hx hb dX5_weaver_4 rfl (lv_at hl 1 rfl) ?_
    refine lv_bipush (v := 99) hx hb dX5_weaver_5 (by decide) ?_
    refine lv_icmp_le (tgt := 20) hx hb dX5_weaver_7 (by decide) (fun c_4 => ?_) (fun c_4 => ?_)
    · have t_5 := b_le (k := 99) rfl c_4
      refine lv_aload_n hx hb dX5_weaver_20 rfl (lv_at hl 0 rfl) ?_
      refine va_get (D := (dC, dI)) (ci := 11) (v := .int 0) (C := RX5) (T := TX5) (N := 13) hx hb hts (by decide +kernel) hown hK hP 0 rfl rfl 11 (by decide) (hts (.fieldLink RX5 239 "Bothfaces" "weaverCount" "I") (by decide +kernel)) (fun _ h9 => h9) rfl dX5_weaver_21 ?_
      refine lv_bipush (v := 6) hx hb dX5_weaver_24 (by decide) ?_
      refine lv_icmp_lt (tgt := 39) hx hb dX5_weaver_26 (by decide) (fun c_6 => ?_) (fun c_6 => ?_)
      · refine lv_aload_n hx hb dX5_weaver_39 rfl (lv_at hl 0 rfl) ?_
        refine va_get (D := (dC, dI)) (ci := 11) (v := .ref ra0) (C := RX5) (T := TX5) (N := 13) hx hb hts (by decide +kernel) hown hK hP 0 rfl rfl 10 (by decide) (hts (.fieldLink RX5 52 "Bothfaces" "rates" "[I") (by decide +kernel)) (fun _ h9 => h9) rfl dX5_weaver_40 ?_
        refine lv_aload_n hx hb dX5_weaver_43 rfl (lv_at hl 0 rfl) ?_
        refine va_get (D := (dC, dI)) (ci := 11) (v := .int 0) (C := RX5) (T := TX5) (N := 13) hx hb hts (by decide +kernel) hown hK hP 0 rfl rfl 11 (by decide) (hts (.fieldLink RX5 239 "Bothfaces" "weaverCount" "I") (by decide +kernel)) (fun _ h9 => h9) rfl dX5_weaver_44 ?_
        refine lv_iload_n hx hb dX5_weaver_47 rfl (lv_at hl 1 rfl) ?_
        refine va_iast hx hb hK hP hD hS 1 0 rfl rfl (vp_in_iff.mpr ⟨by decide, by decide⟩) dX5_weaver_48 (fun H locs hP hD hS => ?_)
        have hP : va_P (dC, dI) vwCl [(h0, .inr (11, [g0, g1, g2, g3, g4, g5, g6, g7, g8, g9, .ref ra0, .int 0, g12])), (ra0, .inl (cR, 6, .inl (upd (fun _ => 0) 0 p0)))] H := hP
        have hD : va_D A [(h0, .inr (11, [g0, g1, g2, g3, g4, g5, g6, g7, g8, g9, .ref ra0, .int 0, g12])), (ra0, .inl (cR, 6, .inl (upd (fun _ => 0) 0 p0)))] := hD
        refine lv_aload_n hx hb dX5_weaver_49 rfl (lv_at hl 0 rfl) ?_
        refine lv_dup hx hb dX5_weaver_50 rfl ?_
        refine va_get (D := (dC, dI)) (ci := 11) (v := .int 0) (C := RX5) (T := TX5) (N := 13) hx hb hts (by decide +kernel) hown hK hP 0 rfl rfl 11 (by decide) (hts (.fieldLink RX5 239 "Bothfaces" "weaverCount" "I") (by decide +kernel)) (fun _ h9 => h9) rfl dX5_weaver_51 ?_
        refine lv_iconst (v := 1) hx hb dX5_weaver_54 (by decide) ?_
        refine lv_iadd hx hb dX5_weaver_55 ?_
        refine lv_topi (fun k_7 ek_7 => ?_)
        obtain rfl : k_7 = 1 := ek_7.trans (by decide)
        refine va_put (D := (dC, dI)) (ci := 11) (v := .int 1) (ty := .int) (C := RX5) (T := TX5) (N := 13) hx hb hts (by decide +kernel) tyX5 tyX5_ok nmX5 hown hK hP hD hS 0 rfl rfl 11 (by decide) (hts (.fieldLink RX5 239 "Bothfaces" "weaverCount" "I") (by decide +kernel)) (fun _ h9 => h9) rfl (by decide +kernel) rfl rfl (Nat.le_of_ble_eq_true rfl) dX5_weaver_56 (fun H locs hP hD hS => ?_)
        have hP : va_P (dC, dI) vwCl [(h0, .inr (11, [g0, g1, g2, g3, g4, g5, g6, g7, g8, g9, .ref ra0, .int 1, g12])), (ra0, .inl (cR, 6, .inl (upd (fun _ => 0) 0 p0)))] H := hP
        have hD : va_D A [(h0, .inr (11, [g0, g1, g2, g3, g4, g5, g6, g7, g8, g9, .ref ra0, .int 1, g12])), (ra0, .inl (cR, 6, .inl (upd (fun _ => 0) 0 p0)))] := hD
        refine lv_aload_n hx hb dX5_weaver_59 rfl (lv_at hl 0 rfl) ?_
        refine va_get (D := (dC, dI)) (ci := 11) (v := .int 1) (C := RX5) (T := TX5) (N := 13) hx hb hts (by decide +kernel) hown hK hP 0 rfl rfl 11 (by decide) (hts (.fieldLink RX5 239 "Bothfaces" "weaverCount" "I") (by decide +kernel)) (fun _ h9 => h9) rfl dX5_weaver_60 ?_
        refine lv_iconst (v := 1) hx hb dX5_weaver_63 (by decide) ?_
        refine lv_isub hx hb dX5_weaver_64 ?_
        refine lv_topi (fun k_8 ek_8 => ?_)
        obtain rfl : k_8 = 0 := ek_8.trans (by decide)
        refine W.widen (k := 1) (n := 6) (Nat.le_of_ble_eq_true rfl) (Nat.le_of_ble_eq_true rfl) ?_
        refine vx_ret ?_
        exact W.iret (v := 0) hx hb hr (fun t ht hW => ⟨⟨0, (), rfl, ⟨(by omega), rfl⟩, trivial⟩, hS.F ht⟩) hS.2.2 dX5_weaver_65
      · exact absurd (by decide) c_6
    · have t_9 := b_nle (k := 99) rfl c_4
      obtain ⟨sa, hsa⟩ := hamb.strs (RX5, 237, "no such rate") (by decide +kernel)
      exact vx_throwS (names := ["java/lang/RuntimeException", "java/lang/Exception"]) hx hb hlt hown (by decide +kernel) (by decide +kernel) (hts (.classLink RX5 67 "java/lang/IllegalArgumentException") (by decide +kernel)) (hts (.initialized "java/lang/IllegalArgumentException") (by decide +kernel)) hsa (vx_hat (B := ambW) (fun w hw => hts w (List.mem_cons_of_mem _ (List.mem_append_left _ (List.mem_append_left _ (List.mem_append_right _ hw))))) (by decide +kernel) (fun w hw => hamb.use hw)) (by decide +kernel) hamb.us hamb.ss hS (by rw [hml]; exact hl.1) dX5_weaver_10 dX5_weaver_13 dX5_weaver_14 dX5_weaver_16 dX5_weaver_19 (fun x hxx => (htab x hxx).elim) (Nat.le_of_ble_eq_true rfl) (Nat.le_of_ble_eq_true rfl) (Nat.le_of_ble_eq_true rfl) (Nat.le_of_ble_eq_true rfl) hlocks (fun t ha h1 h2 => ⟨(), trivial, (⟨rfl, by omega⟩), xc_F hS h1 h2⟩) hS.2.2 (Nat.le_of_ble_eq_true rfl) (Nat.le_of_ble_eq_true rfl)

set_option maxHeartbeats 4000000 in
set_option maxRecDepth 100000 in
theorem c_X0_enter (l : Launch) (em : Nat → Nat) (dC : Nat → ClassId) (dI : Nat → Nat → Nat) (bk : Nat) (a0 : Nat) (a1 : Nat) (a2 : Nat) (cB0 : ClassId) (cB1 : ClassId) (cB2 : ClassId) (d3 : Value) (p0 : Int32) (p1 : Int32) (p2 : Int32) (sz : Nat) : Met l yX0_enter wsX0_enter ({ frames := 0, cells := 0, slots := 0, locals := 0 }) (va_Pc [.ref bk, .int p0, .int p1, .int p2] (Pw em dC dI sz [(bk, .inr (6, [.ref a0, .ref a1, .ref a2, d3, .int 0])), (a0, .inl (cB0, 8, .inl (fun _ => 0))), (a1, .inl (cB1, 8, .inl (fun _ => 0))), (a2, .inl (cB2, 8, .inl (fun _ => 0)))] [(cB0, .int), (cB1, .int), (cB2, .int)])) (va_Qv (fun _ : Unit => True) (fun _ t => Qw dC dI (va_A [(bk, .inr (6, [.ref a0, .ref a1, .ref a2, d3, .int 0])), (a0, .inl (cB0, 8, .inl (fun _ => 0))), (a1, .inl (cB1, 8, .inl (fun _ => 0))), (a2, .inl (cB2, 8, .inl (fun _ => 0)))] sz) [(bk, .inr (6, [.ref a0, .ref a1, .ref a2, d3, .int 1]))] [] t) (va_A [(bk, .inr (6, [.ref a0, .ref a1, .ref a2, d3, .int 0])), (a0, .inl (cB0, 8, .inl (fun _ => 0))), (a1, .inl (cB1, 8, .inl (fun _ => 0))), (a2, .inl (cB2, 8, .inl (fun _ => 0)))] sz)) 0 0 (va_A [(bk, .inr (6, [.ref a0, .ref a1, .ref a2, d3, .int 0])), (a0, .inl (cB0, 8, .inl (fun _ => 0))), (a1, .inl (cB1, 8, .inl (fun _ => 0))), (a2, .inl (cB2, 8, .inl (fun _ => 0)))] sz) := by
  refine Met.ofW (cc := cX0_enter) (maxL := 4) (ret := none) (by decide) rfl ?_
  intro p e s m args below meth c s₁ B hml hv
  obtain ⟨rfl, hsz, hP, hK, hD0, hamb⟩ := hv
  have hx := B.exec
  have hb := B.bytes
  have hr := B.returns
  have hts := atoms_spec (ws := wsX0_enter) B.pre
  have hown : s.vm.findClass RX0 = some m.cls := findClass_of_methodNamed B.named
  have hlocks := B.notSynchronized
  subst hsz
  have hD := hD0.self (sz := s.heap.size)
  generalize hAe : va_A [(bk, .inr (6, [.ref a0, .ref a1, .ref a2, d3, .int 0])), (a0, .inl (cB0, 8, .inl (fun _ => 0))), (a1, .inl (cB1, 8, .inl (fun _ => 0))), (a2, .inl (cB2, 8, .inl (fun _ => 0)))] s.heap.size = A at hD hamb ⊢
  have hA : ∀ q : Nat, s.heap.size ≤ q → A q := fun q h => by rw [← hAe]; exact Or.inr h
  have hS : va_S A s.heap s.heap [] := va_S.rf
  have hP : va_P (dC, dI) vwCl [(bk, .inr (6, [.ref a0, .ref a1, .ref a2, d3, .int 0])), (a0, .inl (cB0, 8, .inl (fun _ => 0))), (a1, .inl (cB1, 8, .inl (fun _ => 0))), (a2, .inl (cB2, 8, .inl (fun _ => 0)))] s.heap := hP
  have hl := lv_entry ([.ref bk, .int p0, .int p1, .int p2]) (n := 4) (Nat.le_of_ble_eq_true rfl)
  rw [lg_entry_eq]
  generalize (lg_sl ([.ref bk, .int p0, .int p1, .int p2]) ++ List.replicate (4 - (lg_sl ([.ref bk, .int p0, .int p1, .int p2])).length) Slot.unset).toArray = ls at hl ⊢
  have hl : lv_has ls 4 [(0, .ref bk), (1, .int p0), (2, .int p1), (3, .int p2)] := hl
  refine lv_aload_n hx hb dX0_enter_0 rfl (lv_at hl 0 rfl) ?_
  refine va_get (D := (dC, dI)) (ci := 6) (v := .ref a0) (C := RX0) (T := TX0) (N := 5) hx hb hts (by decide +kernel) hown hK hP 0 rfl rfl 0 (by decide) (hts (.fieldLink RX0 9 "Bothfaces$Book" "days" "[I") (by decide +kernel)) (fun _ h9 => h9) rfl dX0_enter_1 ?_
  refine lv_aload_n hx hb dX0_enter_4 rfl (lv_at hl 0 rfl) ?_
  refine va_get (D := (dC, dI)) (ci := 6) (v := .int 0) (C := RX0) (T := TX0) (N := 5) hx hb hts (by decide +kernel) hown hK hP 0 rfl rfl 4 (by decide) (hts (.fieldLink RX0 24 "Bothfaces$Book" "count" "I") (by decide +kernel)) (fun _ h9 => h9) rfl dX0_enter_5 ?_
  refine lv_iload_n hx hb dX0_enter_8 rfl (lv_at hl 1 rfl) ?_
  refine lv_bipush (v := 10) hx hb dX0_enter_9 (by decide) ?_
  refine lv_iadd hx hb dX0_enter_11 ?_
  refine lv_topi (fun x_1 ex_1 => ?_)
  refine lv_iconst (v := 1) hx hb dX0_enter_12 (by decide) ?_
  refine lv_isub hx hb dX0_enter_13 ?_
  refine lv_topi (fun x_2 ex_2 => ?_)
  refine lv_bipush (v := 10) hx hb dX0_enter_14 (by decide) ?_
  refine lv_idiv hx hb dX0_enter_16 (by decide) ?_
  refine lv_topi (fun x_3 ex_3 => ?_)
  refine va_iast hx hb hK hP hD hS 1 0 rfl rfl (vp_in_iff.mpr ⟨by decide, by decide⟩) dX0_enter_17 (fun H locs hP hD hS => ?_)
  have hP : va_P (dC, dI) vwCl [(bk, .inr (6, [.ref a0, .ref a1, .ref a2, d3, .int 0])), (a0, .inl (cB0, 8, .inl (upd (fun _ => 0) 0 x_3))), (a1, .inl (cB1, 8, .inl (fun _ => 0))), (a2, .inl (cB2, 8, .inl (fun _ => 0)))] H := hP
  have hD : va_D A [(bk, .inr (6, [.ref a0, .ref a1, .ref a2, d3, .int 0])), (a0, .inl (cB0, 8, .inl (upd (fun _ => 0) 0 x_3))), (a1, .inl (cB1, 8, .inl (fun _ => 0))), (a2, .inl (cB2, 8, .inl (fun _ => 0)))] := hD
  refine lv_aload_n hx hb dX0_enter_18 rfl (lv_at hl 0 rfl) ?_
  refine va_get (D := (dC, dI)) (ci := 6) (v := .ref a1) (C := RX0) (T := TX0) (N := 5) hx hb hts (by decide +kernel) hown hK hP 0 rfl rfl 1 (by decide) (hts (.fieldLink RX0 15 "Bothfaces$Book" "prices" "[I") (by decide +kernel)) (fun _ h9 => h9) rfl dX0_enter_19 ?_
  refine lv_aload_n hx hb dX0_enter_22 rfl (lv_at hl 0 rfl) ?_
  refine va_get (D := (dC, dI)) (ci := 6) (v := .int 0) (C := RX0) (T := TX0) (N := 5) hx hb hts (by decide +kernel) hown hK hP 0 rfl rfl 4 (by decide) (hts (.fieldLink RX0 24 "Bothfaces$Book" "count" "I") (by decide +kernel)) (fun _ h9 => h9) rfl dX0_enter_23 ?_
  refine lv_iload_n hx hb dX0_enter_26 rfl (lv_at hl 2 rfl) ?_
  refine va_iast hx hb hK hP hD hS 2 1 rfl rfl (vp_in_iff.mpr ⟨by decide, by decide⟩) dX0_enter_27 (fun H locs hP hD hS => ?_)
  have hP : va_P (dC, dI) vwCl [(bk, .inr (6, [.ref a0, .ref a1, .ref a2, d3, .int 0])), (a0, .inl (cB0, 8, .inl (upd (fun _ => 0) 0 x_3))), (a1, .inl (cB1, 8, .inl (upd (fun _ => 0) 0 p1))), (a2, .inl (cB2, 8, .inl (fun _ => 0)))] H := hP
  have hD : va_D A [(bk, .inr (6, [.ref a0, .ref a1, .ref a2, d3, .int 0])), (a0, .inl (cB0, 8, .inl (upd (fun _ => 0) 0 x_3))), (a1, .inl (cB1, 8, .inl (upd (fun _ => 0) 0 p1))), (a2, .inl (cB2, 8, .inl (fun _ => 0)))] := hD
  refine lv_aload_n hx hb dX0_enter_28 rfl (lv_at hl 0 rfl) ?_
  refine va_get (D := (dC, dI)) (ci := 6) (v := .ref a2) (C := RX0) (T := TX0) (N := 5) hx hb hts (by decide +kernel) hown hK hP 0 rfl rfl 2 (by decide) (hts (.fieldLink RX0 18 "Bothfaces$Book" "dues" "[I") (by decide +kernel)) (fun _ h9 => h9) rfl dX0_enter_29 ?_
  refine lv_aload_n hx hb dX0_enter_32 rfl (lv_at hl 0 rfl) ?_
  refine va_get (D := (dC, dI)) (ci := 6) (v := .int 0) (C := RX0) (T := TX0) (N := 5) hx hb hts (by decide +kernel) hown hK hP 0 rfl rfl 4 (by decide) (hts (.fieldLink RX0 24 "Bothfaces$Book" "count" "I") (by decide +kernel)) (fun _ h9 => h9) rfl dX0_enter_33 ?_
  refine lv_iload_n hx hb dX0_enter_36 rfl (lv_at hl 3 rfl) ?_
  refine va_iast hx hb hK hP hD hS 3 2 rfl rfl (vp_in_iff.mpr ⟨by decide, by decide⟩) dX0_enter_37 (fun H locs hP hD hS => ?_)
  have hP : va_P (dC, dI) vwCl [(bk, .inr (6, [.ref a0, .ref a1, .ref a2, d3, .int 0])), (a0, .inl (cB0, 8, .inl (upd (fun _ => 0) 0 x_3))), (a1, .inl (cB1, 8, .inl (upd (fun _ => 0) 0 p1))), (a2, .inl (cB2, 8, .inl (upd (fun _ => 0) 0 p2)))] H := hP
  have hD : va_D A [(bk, .inr (6, [.ref a0, .ref a1, .ref a2, d3, .int 0])), (a0, .inl (cB0, 8, .inl (upd (fun _ => 0) 0 x_3))), (a1, .inl (cB1, 8, .inl (upd (fun _ => 0) 0 p1))), (a2, .inl (cB2, 8, .inl (upd (fun _ => 0) 0 p2)))] := hD
  refine lv_aload_n hx hb dX0_enter_38 rfl (lv_at hl 0 rfl) ?_
  refine lv_dup hx hb dX0_enter_39 rfl ?_
  refine va_get (D := (dC, dI)) (ci := 6) (v := .int 0) (C := RX0) (T := TX0) (N := 5) hx hb hts (by decide +kernel) hown hK hP 0 rfl rfl 4 (by decide) (hts (.fieldLink RX0 24 "Bothfaces$Book" "count" "I") (by decide +kernel)) (fun _ h9 => h9) rfl dX0_enter_40 ?_
  refine lv_iconst (v := 1) hx hb dX0_enter_43 (by decide) ?_
  refine lv_iadd hx hb dX0_enter_44 ?_
  refine lv_topi (fun k_4 ek_4 => ?_)
  obtain rfl : k_4 = 1 := ek_4.trans (by decide)
  refine va_put (D := (dC, dI)) (ci := 6) (v := .int 1) (ty := .int) (C := RX0) (T := TX0) (N := 5) hx hb hts (by decide +kernel) tyX0 tyX0_ok nmX0 hown hK hP hD hS 0 rfl rfl 4 (by decide) (hts (.fieldLink RX0 24 "Bothfaces$Book" "count" "I") (by decide +kernel)) (fun _ h9 => h9) rfl (by decide +kernel) rfl rfl (Nat.le_of_ble_eq_true rfl) dX0_enter_45 (fun H locs hP hD hS => ?_)
  have hP : va_P (dC, dI) vwCl [(bk, .inr (6, [.ref a0, .ref a1, .ref a2, d3, .int 1])), (a0, .inl (cB0, 8, .inl (upd (fun _ => 0) 0 x_3))), (a1, .inl (cB1, 8, .inl (upd (fun _ => 0) 0 p1))), (a2, .inl (cB2, 8, .inl (upd (fun _ => 0) 0 p2)))] H := hP
  have hD : va_D A [(bk, .inr (6, [.ref a0, .ref a1, .ref a2, d3, .int 1])), (a0, .inl (cB0, 8, .inl (upd (fun _ => 0) 0 x_3))), (a1, .inl (cB1, 8, .inl (upd (fun _ => 0) 0 p1))), (a2, .inl (cB2, 8, .inl (upd (fun _ => 0) 0 p2)))] := hD
  refine W.widen (k := 0) (n := 0) (Nat.le_of_ble_eq_true rfl) (Nat.le_of_ble_eq_true rfl) ?_
  have hP9 := hP.sub (ws' := [(bk, .inr (6, [.ref a0, .ref a1, .ref a2, d3, .int 1]))]) [0] rfl
  have hD9 := hD.sub (ws' := [(bk, .inr (6, [.ref a0, .ref a1, .ref a2, d3, .int 1]))]) [0] (by decide) rfl
  have hK9 := hK.sub (tys' := []) [] rfl
  exact W.vret hx hb hr (fun t ht hW => ⟨⟨(), rfl, trivial, ⟨by rw [ht]; exact hP9, va_K.moved hW.alike hK9, hD9⟩⟩, hS.F ht⟩) hS.2.2 dX0_enter_48

set_option maxHeartbeats 4000000 in
set_option maxRecDepth 100000 in
theorem c_X5_order (l : Launch) (hlt : l.stackTraces = false) (em : Nat → Nat) (dC : Nat → ClassId) (dI : Nat → Nat → Nat) (h0 : Nat) (p0 : Int32) (p1 : Int32) (p2 : Int32) (g0 : Value) (g1 : Value) (g2 : Value) (g3 : Value) (g4 : Value) (g5 : Value) (g6 : Value) (g7 : Value) (g8 : Value) (g9 : Value) (g10 : Value) (g11 : Value) (bk : Nat) (a0 : Nat) (a1 : Nat) (a2 : Nat) (cB0 : ClassId) (cB1 : ClassId) (cB2 : ClassId) (d3 : Value) (sz : Nat) : vx_Met l yX5_order wsX5_order ({ frames := 6, cells := 1, slots := 6, locals := 82 }) (va_Pc [.ref h0, .int p0, .int p1, .int p2] (Pw em dC dI sz [(h0, .inr (11, [g0, g1, g2, g3, g4, g5, g6, g7, g8, g9, g10, g11, .ref bk])), (bk, .inr (6, [.ref a0, .ref a1, .ref a2, d3, .int 0])), (a0, .inl (cB0, 8, .inl (fun _ => 0))), (a1, .inl (cB1, 8, .inl (fun _ => 0))), (a2, .inl (cB2, 8, .inl (fun _ => 0)))] [(cB0, .int), (cB1, .int), (cB2, .int)])) (va_Qi (fun (r : Int32) (_ : Unit) => ¬ (p0.toInt < 1 ∨ 200 < p0.toInt ∨ p1.toInt < 1 ∨ 999 < p1.toInt ∨ p2.toInt < 1 ∨ 99 < p2.toInt) ∧ r = 0) (fun _ t => True) (va_A [(h0, .inr (11, [g0, g1, g2, g3, g4, g5, g6, g7, g8, g9, g10, g11, .ref bk])), (bk, .inr (6, [.ref a0, .ref a1, .ref a2, d3, .int 0])), (a0, .inl (cB0, 8, .inl (fun _ => 0))), (a1, .inl (cB1, 8, .inl (fun _ => 0))), (a2, .inl (cB2, 8, .inl (fun _ => 0)))] sz)) (vx_X (fun _ : Unit => True) (fun E _ _ => (E = "java/lang/IllegalArgumentException" ∧ (p0.toInt < 1 ∨ 200 < p0.toInt ∨ p1.toInt < 1 ∨ 999 < p1.toInt ∨ p2.toInt < 1 ∨ 99 < p2.toInt))) (va_A [(h0, .inr (11, [g0, g1, g2, g3, g4, g5, g6, g7, g8, g9, g10, g11, .ref bk])), (bk, .inr (6, [.ref a0, .ref a1, .ref a2, d3, .int 0])), (a0, .inl (cB0, 8, .inl (fun _ => 0))), (a1, .inl (cB1, 8, .inl (fun _ => 0))), (a2, .inl (cB2, 8, .inl (fun _ => 0)))] sz)) 1 6 (va_A [(h0, .inr (11, [g0, g1, g2, g3, g4, g5, g6, g7, g8, g9, g10, g11, .ref bk])), (bk, .inr (6, [.ref a0, .ref a1, .ref a2, d3, .int 0])), (a0, .inl (cB0, 8, .inl (fun _ => 0))), (a1, .inl (cB1, 8, .inl (fun _ => 0))), (a2, .inl (cB2, 8, .inl (fun _ => 0)))] sz) := by
  refine vx_ofW (cc := cX5_order) (maxL := 4) (ret := (some .int)) (by decide) rfl ?_
  intro p e s m args below meth c s₁ B hml htab hv
  obtain ⟨rfl, hsz, hP, hK, hD0, hamb⟩ := hv
  have hx := B.exec
  have hb := B.bytes
  have hr := B.returns
  have hts := atoms_spec (ws := wsX5_order) B.pre
  have hown : s.vm.findClass RX5 = some m.cls := findClass_of_methodNamed B.named
  have hlocks := B.notSynchronized
  subst hsz
  have hD := hD0.self (sz := s.heap.size)
  generalize hAe : va_A [(h0, .inr (11, [g0, g1, g2, g3, g4, g5, g6, g7, g8, g9, g10, g11, .ref bk])), (bk, .inr (6, [.ref a0, .ref a1, .ref a2, d3, .int 0])), (a0, .inl (cB0, 8, .inl (fun _ => 0))), (a1, .inl (cB1, 8, .inl (fun _ => 0))), (a2, .inl (cB2, 8, .inl (fun _ => 0)))] s.heap.size = A at hD hamb ⊢
  have hA : ∀ q : Nat, s.heap.size ≤ q → A q := fun q h => by rw [← hAe]; exact Or.inr h
  have hS : va_S A s.heap s.heap [] := va_S.rf
  have hP : va_P (dC, dI) vwCl [(h0, .inr (11, [g0, g1, g2, g3, g4, g5, g6, g7, g8, g9, g10, g11, .ref bk])), (bk, .inr (6, [.ref a0, .ref a1, .ref a2, d3, .int 0])), (a0, .inl (cB0, 8, .inl (fun _ => 0))), (a1, .inl (cB1, 8, .inl (fun _ => 0))), (a2, .inl (cB2, 8, .inl (fun _ => 0)))] s.heap := hP
  have hl := lv_entry ([.ref h0, .int p0, .int p1, .int p2]) (n := 4) (Nat.le_of_ble_eq_true rfl)
  rw [lg_entry_eq]
  generalize (lg_sl ([.ref h0, .int p0, .int p1, .int p2]) ++ List.replicate (4 - (lg_sl ([.ref h0, .int p0, .int p1, .int p2])).length) Slot.unset).toArray = ls at hl ⊢
  have hl : lv_has ls 4 [(0, .ref h0), (1, .int p0), (2, .int p1), (3, .int p2)] := hl
  refine lv_iload_n hx hb dX5_order_0 rfl (lv_at hl 1 rfl) ?_
  refine lv_iconst (v := 1) hx hb dX5_order_1 (by decide) ?_
  refine lv_icmp_lt (tgt := 35) hx hb dX5_order_2 (by decide) (fun c_1 => ?_) (fun c_1 => ?_)
  · have t_2 := b_lt (k := 1) rfl c_1
    obtain ⟨sa, hsa⟩ := hamb.strs (RX5, 253, "picks, price or due day out of range") (by decide +kernel)
    exact vx_throwS (names := ["java/lang/RuntimeException", "java/lang/Exception"]) hx hb hlt hown (by decide +kernel) (by decide +kernel) (hts (.classLink RX5 67 "java/lang/IllegalArgumentException") (by decide +kernel)) (hts (.initialized "java/lang/IllegalArgumentException") (by decide +kernel)) hsa (vx_hat (B := ambW) (fun w hw => hts w (List.mem_cons_of_mem _ (List.mem_append_left _ (List.mem_append_left _ (List.mem_append_right _ hw))))) (by decide +kernel) (fun w hw => hamb.use hw)) (by decide +kernel) hamb.us hamb.ss hS (by rw [hml]; exact hl.1) dX5_order_35 dX5_order_38 dX5_order_39 dX5_order_41 dX5_order_44 (fun x hxx => (htab x hxx).elim) (Nat.le_of_ble_eq_true rfl) (Nat.le_of_ble_eq_true rfl) (Nat.le_of_ble_eq_true rfl) (Nat.le_of_ble_eq_true rfl) hlocks (fun t ha h1 h2 => ⟨(), trivial, (⟨rfl, by omega⟩), xc_F hS h1 h2⟩) hS.2.2 (Nat.le_of_ble_eq_true rfl) (Nat.le_of_ble_eq_true rfl)
  · have t_3 := b_nlt (k := 1) rfl c_1
    refine lv_iload_n hx hb dX5_order_5 rfl (lv_at hl 1 rfl) ?_
    refine lv_sipush (v := 200) hx hb dX5_order_6 (by decide) ?_
    refine lv_icmp_gt (tgt := 35) hx hb dX5_order_9 (by decide) (fun c_4 => ?_) (fun c_4 => ?_)
    · have t_5 := b_lt rfl c_4
      rw [show (200 : Int32).toInt = 200 from rfl] at t_5
      obtain ⟨sa, hsa⟩ := hamb.strs (RX5, 253, "picks, price or due day out of range") (by decide +kernel)
      exact vx_throwS (names := ["java/lang/RuntimeException", "java/lang/Exception"]) hx hb hlt hown (by decide +kernel) (by decide +kernel) (hts (.classLink RX5 67 "java/lang/IllegalArgumentException") (by decide +kernel)) (hts (.initialized "java/lang/IllegalArgumentException") (by decide +kernel)) hsa (vx_hat (B := ambW) (fun w hw => hts w (List.mem_cons_of_mem _ (List.mem_append_left _ (List.mem_append_left _ (List.mem_append_right _ hw))))) (by decide +kernel) (fun w hw => hamb.use hw)) (by decide +kernel) hamb.us hamb.ss hS (by rw [hml]; exact hl.1) dX5_order_35 dX5_order_38 dX5_order_39 dX5_order_41 dX5_order_44 (fun x hxx => (htab x hxx).elim) (Nat.le_of_ble_eq_true rfl) (Nat.le_of_ble_eq_true rfl) (Nat.le_of_ble_eq_true rfl) (Nat.le_of_ble_eq_true rfl) hlocks (fun t ha h1 h2 => ⟨(), trivial, (⟨rfl, by omega⟩), xc_F hS h1 h2⟩) hS.2.2 (Nat.le_of_ble_eq_true rfl) (Nat.le_of_ble_eq_true rfl)
    · have t_6 := b_nlt rfl c_4
      rw [show (200 : Int32).toInt = 200 from rfl] at t_6
      refine lv_iload_n hx hb dX5_order_12 rfl (lv_at hl 2 rfl) ?_
      refine lv_iconst (v := 1) hx hb dX5_order_13 (by decide) ?_
      refine lv_icmp_lt (tgt := 35) hx hb dX5_order_14 (by decide) (fun c_7 => ?_) (fun c_7 => ?_)
      · have t_8 := b_lt (k := 1) rfl c_7
        obtain ⟨sa, hsa⟩ := hamb.strs (RX5, 253, "picks, price or due day out of range") (by decide +kernel)
        exact vx_throwS (names := ["java/lang/RuntimeException", "java/lang/Exception"]) hx hb hlt hown (by decide +kernel) (by decide +kernel) (hts (.classLink RX5 67 "java/lang/IllegalArgumentException") (by decide +kernel)) (hts (.initialized "java/lang/IllegalArgumentException") (by decide +kernel)) hsa (vx_hat (B := ambW) (fun w hw => hts w (List.mem_cons_of_mem _ (List.mem_append_left _ (List.mem_append_left _ (List.mem_append_right _ hw))))) (by decide +kernel) (fun w hw => hamb.use hw)) (by decide +kernel) hamb.us hamb.ss hS (by rw [hml]; exact hl.1) dX5_order_35 dX5_order_38 dX5_order_39 dX5_order_41 dX5_order_44 (fun x hxx => (htab x hxx).elim) (Nat.le_of_ble_eq_true rfl) (Nat.le_of_ble_eq_true rfl) (Nat.le_of_ble_eq_true rfl) (Nat.le_of_ble_eq_true rfl) hlocks (fun t ha h1 h2 => ⟨(), trivial, (⟨rfl, by omega⟩), xc_F hS h1 h2⟩) hS.2.2 (Nat.le_of_ble_eq_true rfl) (Nat.le_of_ble_eq_true rfl)
      · have t_9 := b_nlt (k := 1) rfl c_7
        refine lv_iload_n hx hb dX5_order_17 rfl (lv_at hl 2 rfl) ?_
        refine lv_sipush (v := 999) hx hb dX5_order_18 (by decide) ?_
        refine lv_icmp_gt (tgt := 35) hx hb dX5_order_21 (by decide) (fun c_10 => ?_) (fun c_10 => ?_)
        · have t_11 := b_lt rfl c_10
          rw [show (999 : Int32).toInt = 999 from rfl] at t_11
          obtain ⟨sa, hsa⟩ := hamb.strs (RX5, 253, "picks, price or due day out of range") (by decide +kernel)
          exact vx_throwS (names := ["java/lang/RuntimeException", "java/lang/Exception"]) hx hb hlt hown (by decide +kernel) (by decide +kernel) (hts (.classLink RX5 67 "java/lang/IllegalArgumentException") (by decide +kernel)) (hts (.initialized "java/lang/IllegalArgumentException") (by decide +kernel)) hsa (vx_hat (B := ambW) (fun w hw => hts w (List.mem_cons_of_mem _ (List.mem_append_left _ (List.mem_append_left _ (List.mem_append_right _ hw))))) (by decide +kernel) (fun w hw => hamb.use hw)) (by decide +kernel) hamb.us hamb.ss hS (by rw [hml]; exact hl.1) dX5_order_35 dX5_order_38 dX5_order_39 dX5_order_41 dX5_order_44 (fun x hxx => (htab x hxx).elim) (Nat.le_of_ble_eq_true rfl) (Nat.le_of_ble_eq_true rfl) (Nat.le_of_ble_eq_true rfl) (Nat.le_of_ble_eq_true rfl) hlocks (fun t ha h1 h2 => ⟨(), trivial, (⟨rfl, by omega⟩), xc_F hS h1 h2⟩) hS.2.2 (Nat.le_of_ble_eq_true rfl) (Nat.le_of_ble_eq_true rfl)
        · have t_12 := b_nlt rfl c_10
          rw [show (999 : Int32).toInt = 999 from rfl] at t_12
          refine lv_iload_n hx hb dX5_order_24 rfl (lv_at hl 3 rfl) ?_
          refine lv_iconst (v := 1) hx hb dX5_order_25 (by decide) ?_
          refine lv_icmp_lt (tgt := 35) hx hb dX5_order_26 (by decide) (fun c_13 => ?_) (fun c_13 => ?_)
          · have t_14 := b_lt (k := 1) rfl c_13
            obtain ⟨sa, hsa⟩ := hamb.strs (RX5, 253, "picks, price or due day out of range") (by decide +kernel)
            exact vx_throwS (names := ["java/lang/RuntimeException", "java/lang/Exception"]) hx hb hlt hown (by decide +kernel) (by decide +kernel) (hts (.classLink RX5 67 "java/lang/IllegalArgumentException") (by decide +kernel)) (hts (.initialized "java/lang/IllegalArgumentException") (by decide +kernel)) hsa (vx_hat (B := ambW) (fun w hw => hts w (List.mem_cons_of_mem _ (List.mem_append_left _ (List.mem_append_left _ (List.mem_append_right _ hw))))) (by decide +kernel) (fun w hw => hamb.use hw)) (by decide +kernel) hamb.us hamb.ss hS (by rw [hml]; exact hl.1) dX5_order_35 dX5_order_38 dX5_order_39 dX5_order_41 dX5_order_44 (fun x hxx => (htab x hxx).elim) (Nat.le_of_ble_eq_true rfl) (Nat.le_of_ble_eq_true rfl) (Nat.le_of_ble_eq_true rfl) (Nat.le_of_ble_eq_true rfl) hlocks (fun t ha h1 h2 => ⟨(), trivial, (⟨rfl, by omega⟩), xc_F hS h1 h2⟩) hS.2.2 (Nat.le_of_ble_eq_true rfl) (Nat.le_of_ble_eq_true rfl)
          · have t_15 := b_nlt (k := 1) rfl c_13
            refine lv_iload_n hx hb dX5_order_29 rfl (lv_at hl 3 rfl) ?_
            refine lv_bipush (v := 99) hx hb dX5_order_30 (by decide) ?_
            refine lv_icmp_le (tgt := 45) hx hb dX5_order_32 (by decide) (fun c_16 => ?_) (fun c_16 => ?_)
            · have t_17 := b_le (k := 99) rfl c_16
              refine lv_aload_n hx hb dX5_order_45 rfl (lv_at hl 0 rfl) ?_
              refine va_get (D := (dC, dI)) (ci := 11) (v := .ref bk) (C := RX5) (T := TX5) (N := 13) hx hb hts (by decide +kernel) hown hK hP 0 rfl rfl 12 (by decide) (hts (.fieldLink RX5 58 "Bothfaces" "book" "LBothfaces$Book;") (by decide +kernel)) (fun _ h9 => h9) rfl dX5_order_46 ?_
              refine va_getN (D := (dC, dI)) (ci := 6) (v := .int 0) (C := RX0) (T := TX0) (N := 5) hx hb hts (by decide +kernel) hown hK hP 1 rfl rfl 4 (by decide) (hamb.use (w := .fieldLinkNest RX5 255 "Bothfaces$Book" "count" "I" RX5) (by decide +kernel)) (fun _ h9 => h9) rfl dX5_order_49 ?_
              refine lv_bipush (v := 8) hx hb dX5_order_52 (by decide) ?_
              refine lv_icmp_lt (tgt := 68) hx hb dX5_order_54 (by decide) (fun c_18 => ?_) (fun c_18 => ?_)
              · refine lv_aload_n hx hb dX5_order_68 rfl (lv_at hl 0 rfl) ?_
                refine va_get (D := (dC, dI)) (ci := 11) (v := .ref bk) (C := RX5) (T := TX5) (N := 13) hx hb hts (by decide +kernel) hown hK hP 0 rfl rfl 12 (by decide) (hts (.fieldLink RX5 58 "Bothfaces" "book" "LBothfaces$Book;") (by decide +kernel)) (fun _ h9 => h9) rfl dX5_order_69 ?_
                refine lv_iload_n hx hb dX5_order_72 rfl (lv_at hl 1 rfl) ?_
                refine lv_iload_n hx hb dX5_order_73 rfl (lv_at hl 2 rfl) ?_
                refine lv_iload_n hx hb dX5_order_74 rfl (lv_at hl 3 rfl) ?_
                have hPc := hP.sub (ws' := [(bk, .inr (6, [.ref a0, .ref a1, .ref a2, d3, .int 0])), (a0, .inl (cB0, 8, .inl (fun _ => 0))), (a1, .inl (cB1, 8, .inl (fun _ => 0))), (a2, .inl (cB2, 8, .inl (fun _ => 0)))]) [1, 2, 3, 4] rfl
                have hDc := hD.sub (ws' := [(bk, .inr (6, [.ref a0, .ref a1, .ref a2, d3, .int 0])), (a0, .inl (cB0, 8, .inl (fun _ => 0))), (a1, .inl (cB1, 8, .inl (fun _ => 0))), (a2, .inl (cB2, 8, .inl (fun _ => 0)))]) [1, 2, 3, 4] (by decide) rfl
                have hKc := hK.sub (tys' := [(cB0, .int), (cB1, .int), (cB2, .int)]) [0, 1, 2] rfl
                have hFc := va_free (wc := [(bk, .inr (6, [.ref a0, .ref a1, .ref a2, d3, .int 0])), (a0, .inl (cB0, 8, .inl (fun _ => 0))), (a1, .inl (cB1, 8, .inl (fun _ => 0))), (a2, .inl (cB2, 8, .inl (fun _ => 0)))]) hD hS hA [1, 2, 3, 4] rfl
                refine va_callv (va_runVN (As := [.int p0, .int p1, .int p2]) (rest := []) ⟨hx, hb, hml, hown, hts⟩ (c_X0_enter l em dC dI bk a0 a1 a2 cB0 cB1 cB2 d3 p0 p1 p2 s.heap.size) ⟨va_cnB 3 hts gX5_order_X0_enter_n260 rfl rfl rfl (hamb.words (.methodLinkNest RX5 260 yX0_enter RX5) (by decide +kernel)) (hts (.initialized RX0) (by decide +kernel)) (by decide +kernel) ⟨Nat.le_of_ble_eq_true rfl, Nat.le_of_ble_eq_true rfl⟩, (hts (.instanceMethod yX0_enter) (by decide +kernel)), (hts (.selects RX0 yX0_enter yX0_enter) (by decide +kernel))⟩ ⟨Pw.blind _ _ _ _ _ _ _, va_recv hKc hPc (ci := 6) (q0 := 0) rfl rfl, fun U hU hW => ⟨rfl, Pw.go hPc hKc hDc hamb hS hFc hU hW⟩⟩ rfl rfl hl.1 rfl (lv_room (Nat.le_of_ble_eq_true rfl)) dX5_order_75 ⟨Nat.le_of_ble_eq_true rfl, Nat.le_of_ble_eq_true rfl⟩) hS (fun q _ h => hFc q h) hFc (fun u t H1 locs1 ht hvm hw hB hz1 hk1 hS => ?_)
                obtain ⟨hP1, hK1, hD1⟩ := hB
                rw [ht] at hP1
                have hK1 := va_K.moved hvm.symm hK1
                obtain ⟨hP, hD⟩ := va_join (wr := [(h0, .inr (11, [g0, g1, g2, g3, g4, g5, g6, g7, g8, g9, g10, g11, .ref bk]))]) (w1 := [(bk, .inr (6, [.ref a0, .ref a1, .ref a2, d3, .int 1]))]) hP hD [1, 2, 3, 4] [0] rfl rfl (by decide) (by decide) hk1 hFc hP1 hD1
                have hK := (hK.sub (tys' := [(cB0, .int), (cB1, .int), (cB2, .int)]) [0, 1, 2] rfl).app hK1
                generalize H1 = H at hP hS ⊢
                have hP : va_P (dC, dI) vwCl [(h0, .inr (11, [g0, g1, g2, g3, g4, g5, g6, g7, g8, g9, g10, g11, .ref bk])), (bk, .inr (6, [.ref a0, .ref a1, .ref a2, d3, .int 1]))] H := hP
                have hD : va_D A [(h0, .inr (11, [g0, g1, g2, g3, g4, g5, g6, g7, g8, g9, g10, g11, .ref bk])), (bk, .inr (6, [.ref a0, .ref a1, .ref a2, d3, .int 1]))] := hD
                have hK : va_K (dC, dI) vwCl [(cB0, .int), (cB1, .int), (cB2, .int)] s := hK
                refine W.widen (k := 0) (n := 0) (Nat.le_of_ble_eq_true rfl) (Nat.le_of_ble_eq_true rfl) ?_
                refine lv_aload_n hx hb dX5_order_78 rfl (lv_at hl 0 rfl) ?_
                refine va_get (D := (dC, dI)) (ci := 11) (v := .ref bk) (C := RX5) (T := TX5) (N := 13) hx hb hts (by decide +kernel) hown hK hP 0 rfl rfl 12 (by decide) (hts (.fieldLink RX5 58 "Bothfaces" "book" "LBothfaces$Book;") (by decide +kernel)) (fun _ h9 => h9) rfl dX5_order_79 ?_
                refine va_getN (D := (dC, dI)) (ci := 6) (v := .int 1) (C := RX0) (T := TX0) (N := 5) hx hb hts (by decide +kernel) hown hK hP 1 rfl rfl 4 (by decide) (hamb.use (w := .fieldLinkNest RX5 255 "Bothfaces$Book" "count" "I" RX5) (by decide +kernel)) (fun _ h9 => h9) rfl dX5_order_82 ?_
                refine lv_iconst (v := 1) hx hb dX5_order_85 (by decide) ?_
                refine lv_isub hx hb dX5_order_86 ?_
                refine lv_topi (fun k_20 ek_20 => ?_)
                obtain rfl : k_20 = 0 := ek_20.trans (by decide)
                refine W.widen (k := 1) (n := 6) (Nat.le_of_ble_eq_true rfl) (Nat.le_of_ble_eq_true rfl) ?_
                refine vx_ret ?_
                exact W.iret (v := 0) hx hb hr (fun t ht hW => ⟨⟨0, (), rfl, ⟨(by omega), rfl⟩, trivial⟩, hS.F ht⟩) hS.2.2 dX5_order_87
              · exact absurd (by decide) c_18
            · have t_21 := b_nle (k := 99) rfl c_16
              obtain ⟨sa, hsa⟩ := hamb.strs (RX5, 253, "picks, price or due day out of range") (by decide +kernel)
              exact vx_throwS (names := ["java/lang/RuntimeException", "java/lang/Exception"]) hx hb hlt hown (by decide +kernel) (by decide +kernel) (hts (.classLink RX5 67 "java/lang/IllegalArgumentException") (by decide +kernel)) (hts (.initialized "java/lang/IllegalArgumentException") (by decide +kernel)) hsa (vx_hat (B := ambW) (fun w hw => hts w (List.mem_cons_of_mem _ (List.mem_append_left _ (List.mem_append_left _ (List.mem_append_right _ hw))))) (by decide +kernel) (fun w hw => hamb.use hw)) (by decide +kernel) hamb.us hamb.ss hS (by rw [hml]; exact hl.1) dX5_order_35 dX5_order_38 dX5_order_39 dX5_order_41 dX5_order_44 (fun x hxx => (htab x hxx).elim) (Nat.le_of_ble_eq_true rfl) (Nat.le_of_ble_eq_true rfl) (Nat.le_of_ble_eq_true rfl) (Nat.le_of_ble_eq_true rfl) hlocks (fun t ha h1 h2 => ⟨(), trivial, (⟨rfl, by omega⟩), xc_F hS h1 h2⟩) hS.2.2 (Nat.le_of_ble_eq_true rfl) (Nat.le_of_ble_eq_true rfl)

set_option maxHeartbeats 4000000 in
set_option maxRecDepth 100000 in
theorem c_X5_type (l : Launch) (hlt : l.stackTraces = false) (em : Nat → Nat) (dC : Nat → ClassId) (dI : Nat → Nat → Nat) (h0 : Nat) (ty0 : Nat) (cT : ClassId) (p0 : Int32) (g0 : Value) (g1 : Value) (g2 : Value) (g3 : Value) (g6 : Value) (g7 : Value) (g8 : Value) (g9 : Value) (g10 : Value) (g11 : Value) (g12 : Value) (sz : Nat) : vx_Met l yX5_type wsX5_type ({ frames := 7, cells := 1, slots := 6, locals := 102 }) (va_Pc [.ref h0, .int p0] (Pw em dC dI sz [(h0, .inr (11, [g0, g1, g2, g3, .ref ty0, .int 0, g6, g7, g8, g9, g10, g11, g12])), (ty0, .inl (cT, 8, .inl (fun _ => 0)))] [(cT, .int)])) (va_Qi (fun (r : Int32) (_ : Unit) => ¬ (p0.toInt < 97 ∨ 122 < p0.toInt) ∧ r = 1) (fun _ t => True) (va_A [(h0, .inr (11, [g0, g1, g2, g3, .ref ty0, .int 0, g6, g7, g8, g9, g10, g11, g12])), (ty0, .inl (cT, 8, .inl (fun _ => 0)))] sz)) (vx_X (fun _ : Unit => True) (fun E _ _ => (E = "java/lang/IllegalArgumentException" ∧ (p0.toInt < 97 ∨ 122 < p0.toInt))) (va_A [(h0, .inr (11, [g0, g1, g2, g3, .ref ty0, .int 0, g6, g7, g8, g9, g10, g11, g12])), (ty0, .inl (cT, 8, .inl (fun _ => 0)))] sz)) 1 6 (va_A [(h0, .inr (11, [g0, g1, g2, g3, .ref ty0, .int 0, g6, g7, g8, g9, g10, g11, g12])), (ty0, .inl (cT, 8, .inl (fun _ => 0)))] sz) := by
  refine vx_ofW (cc := cX5_type) (maxL := 2) (ret := (some .int)) (by decide) rfl ?_
  intro p e s m args below meth c s₁ B hml htab hv
  obtain ⟨rfl, hsz, hP, hK, hD0, hamb⟩ := hv
  have hx := B.exec
  have hb := B.bytes
  have hr := B.returns
  have hts := atoms_spec (ws := wsX5_type) B.pre
  have hown : s.vm.findClass RX5 = some m.cls := findClass_of_methodNamed B.named
  have hlocks := B.notSynchronized
  subst hsz
  have hD := hD0.self (sz := s.heap.size)
  generalize hAe : va_A [(h0, .inr (11, [g0, g1, g2, g3, .ref ty0, .int 0, g6, g7, g8, g9, g10, g11, g12])), (ty0, .inl (cT, 8, .inl (fun _ => 0)))] s.heap.size = A at hD hamb ⊢
  have hA : ∀ q : Nat, s.heap.size ≤ q → A q := fun q h => by rw [← hAe]; exact Or.inr h
  have hS : va_S A s.heap s.heap [] := va_S.rf
  have hP : va_P (dC, dI) vwCl [(h0, .inr (11, [g0, g1, g2, g3, .ref ty0, .int 0, g6, g7, g8, g9, g10, g11, g12])), (ty0, .inl (cT, 8, .inl (fun _ => 0)))] s.heap := hP
  have hl := lv_entry ([.ref h0, .int p0]) (n := 2) (Nat.le_of_ble_eq_true rfl)
  rw [lg_entry_eq]
  generalize (lg_sl ([.ref h0, .int p0]) ++ List.replicate (2 - (lg_sl ([.ref h0, .int p0])).length) Slot.unset).toArray = ls at hl ⊢
  have hl : lv_has ls 2 [(0, .ref h0), (1, .int p0)] := hl
  refine lv_iload_n hx hb dX5_type_0 rfl (lv_at hl 1 rfl) ?_
  have hPc := hP.sub (ws' := []) [] rfl
  have hDc := hD.sub (ws' := []) [] (by decide) rfl
  have hKc := hK.sub (tys' := []) [] rfl
  have hFc := va_free (wc := []) hD hS hA [] rfl
  refine vx_callv (vx_runS (As := [.int p0]) (rest := []) ⟨hx, hb, hml, hown, hts⟩ (c_X5_needLetter l hlt em dC dI p0 s.heap.size) (va_cwS 1 hts gX5_type_X5_needLetter rfl rfl rfl (by decide +kernel) ⟨Nat.le_of_ble_eq_true rfl, Nat.le_of_ble_eq_true rfl⟩) ⟨Pw.blind _ _ _ _ _ _ _, fun U hU hW => ⟨rfl, Pw.go hPc hKc hDc hamb hS hFc hU hW⟩⟩ rfl rfl hl.1 rfl (lv_room (Nat.le_of_ble_eq_true rfl)) dX5_type_1 ⟨Nat.le_of_ble_eq_true rfl, Nat.le_of_ble_eq_true rfl⟩) hS (fun q _ h => hFc q h) hFc (fun q _ h => hFc q h) (fun E ce q9 ux tx H1 locs1 htx hvm hpx hBX hz1 hk1 hS hce hcv hcl => ?_) (fun u t H1 locs1 ht hvm hw hB hz1 hk1 hS => ?_)
  · obtain ⟨rfl, t_2⟩ := hBX
    exact vx_out (fun x hxx => (htab x hxx).elim) hlocks hce hcv hcl (fun t ht2 ha => ⟨(), trivial, (⟨rfl, by omega⟩), hS.F ht2⟩) hS.2.2 (Nat.le_of_ble_eq_true rfl) (Nat.le_of_ble_eq_true rfl)
  · obtain ⟨hP, hD⟩ := va_rest (wr := [(h0, .inr (11, [g0, g1, g2, g3, .ref ty0, .int 0, g6, g7, g8, g9, g10, g11, g12])), (ty0, .inl (cT, 8, .inl (fun _ => 0)))]) hP hD [] [0, 1] rfl rfl (by decide) (by decide) hk1 hFc
    generalize H1 = H at hP hS ⊢
    refine W.widen (k := 1) (n := 6) (Nat.le_of_ble_eq_true rfl) (Nat.le_of_ble_eq_true rfl) ?_
    have t_3 : ¬ (p0.toInt < 97 ∨ 122 < p0.toInt) := hw
    refine lv_aload_n hx hb dX5_type_4 rfl (lv_at hl 0 rfl) ?_
    refine va_get (D := (dC, dI)) (ci := 11) (v := .int 0) (C := RX5) (T := TX5) (N := 13) hx hb hts (by decide +kernel) hown hK hP 0 rfl rfl 5 (by decide) (hts (.fieldLink RX5 157 "Bothfaces" "typedCount" "I") (by decide +kernel)) (fun _ h9 => h9) rfl dX5_type_5 ?_
    refine lv_bipush (v := 8) hx hb dX5_type_8 (by decide) ?_
    refine lv_icmp_lt (tgt := 23) hx hb dX5_type_10 (by decide) (fun c_4 => ?_) (fun c_4 => ?_)
    · refine lv_aload_n hx hb dX5_type_23 rfl (lv_at hl 0 rfl) ?_
      refine va_get (D := (dC, dI)) (ci := 11) (v := .ref ty0) (C := RX5) (T := TX5) (N := 13) hx hb hts (by decide +kernel) hown hK hP 0 rfl rfl 4 (by decide) (hts (.fieldLink RX5 22 "Bothfaces" "typed" "[I") (by decide +kernel)) (fun _ h9 => h9) rfl dX5_type_24 ?_
      refine lv_aload_n hx hb dX5_type_27 rfl (lv_at hl 0 rfl) ?_
      refine va_get (D := (dC, dI)) (ci := 11) (v := .int 0) (C := RX5) (T := TX5) (N := 13) hx hb hts (by decide +kernel) hown hK hP 0 rfl rfl 5 (by decide) (hts (.fieldLink RX5 157 "Bothfaces" "typedCount" "I") (by decide +kernel)) (fun _ h9 => h9) rfl dX5_type_28 ?_
      refine lv_iload_n hx hb dX5_type_31 rfl (lv_at hl 1 rfl) ?_
      refine lv_bipush (v := 97) hx hb dX5_type_32 (by decide) ?_
      refine lv_isub hx hb dX5_type_34 ?_
      refine lv_topi (fun x_5 ex_5 => ?_)
      have tx_5 : x_5.toInt = p0.toInt + (-97) := by rw [ex_5]; exact b_sub (k := 97) rfl (by omega) (by omega)
      refine va_iast hx hb hK hP hD hS 1 0 rfl rfl (vp_in_iff.mpr ⟨by decide, by decide⟩) dX5_type_35 (fun H locs hP hD hS => ?_)
      have hP : va_P (dC, dI) vwCl [(h0, .inr (11, [g0, g1, g2, g3, .ref ty0, .int 0, g6, g7, g8, g9, g10, g11, g12])), (ty0, .inl (cT, 8, .inl (upd (fun _ => 0) 0 x_5)))] H := hP
      have hD : va_D A [(h0, .inr (11, [g0, g1, g2, g3, .ref ty0, .int 0, g6, g7, g8, g9, g10, g11, g12])), (ty0, .inl (cT, 8, .inl (upd (fun _ => 0) 0 x_5)))] := hD
      refine lv_aload_n hx hb dX5_type_36 rfl (lv_at hl 0 rfl) ?_
      refine lv_dup hx hb dX5_type_37 rfl ?_
      refine va_get (D := (dC, dI)) (ci := 11) (v := .int 0) (C := RX5) (T := TX5) (N := 13) hx hb hts (by decide +kernel) hown hK hP 0 rfl rfl 5 (by decide) (hts (.fieldLink RX5 157 "Bothfaces" "typedCount" "I") (by decide +kernel)) (fun _ h9 => h9) rfl dX5_type_38 ?_
      refine lv_iconst (v := 1) hx hb dX5_type_41 (by decide) ?_
      refine lv_iadd hx hb dX5_type_42 ?_
      refine lv_topi (fun k_6 ek_6 => ?_)
      obtain rfl : k_6 = 1 := ek_6.trans (by decide)
      refine va_put (D := (dC, dI)) (ci := 11) (v := .int 1) (ty := .int) (C := RX5) (T := TX5) (N := 13) hx hb hts (by decide +kernel) tyX5 tyX5_ok nmX5 hown hK hP hD hS 0 rfl rfl 5 (by decide) (hts (.fieldLink RX5 157 "Bothfaces" "typedCount" "I") (by decide +kernel)) (fun _ h9 => h9) rfl (by decide +kernel) rfl rfl (Nat.le_of_ble_eq_true rfl) dX5_type_43 (fun H locs hP hD hS => ?_)
      have hP : va_P (dC, dI) vwCl [(h0, .inr (11, [g0, g1, g2, g3, .ref ty0, .int 1, g6, g7, g8, g9, g10, g11, g12])), (ty0, .inl (cT, 8, .inl (upd (fun _ => 0) 0 x_5)))] H := hP
      have hD : va_D A [(h0, .inr (11, [g0, g1, g2, g3, .ref ty0, .int 1, g6, g7, g8, g9, g10, g11, g12])), (ty0, .inl (cT, 8, .inl (upd (fun _ => 0) 0 x_5)))] := hD
      refine lv_aload_n hx hb dX5_type_46 rfl (lv_at hl 0 rfl) ?_
      refine va_get (D := (dC, dI)) (ci := 11) (v := .int 1) (C := RX5) (T := TX5) (N := 13) hx hb hts (by decide +kernel) hown hK hP 0 rfl rfl 5 (by decide) (hts (.fieldLink RX5 157 "Bothfaces" "typedCount" "I") (by decide +kernel)) (fun _ h9 => h9) rfl dX5_type_47 ?_
      refine W.widen (k := 1) (n := 6) (Nat.le_of_ble_eq_true rfl) (Nat.le_of_ble_eq_true rfl) ?_
      refine vx_ret ?_
      exact W.iret (v := 1) hx hb hr (fun t ht hW => ⟨⟨1, (), rfl, ⟨(by omega), rfl⟩, trivial⟩, hS.F ht⟩) hS.2.2 dX5_type_50
    · exact absurd (by decide) c_4

set_option maxHeartbeats 4000000 in
set_option maxRecDepth 100000 in
theorem c_X5_sideOf_0 (l : Launch) (em : Nat → Nat) (dC : Nat → ClassId) (dI : Nat → Nat → Nat) (h0 : Nat) (sf : Nat) (sb : Nat) (g0 : Value) (g1 : Value) (g2 : Value) (g3 : Value) (g4 : Value) (g5 : Value) (g8 : Value) (g9 : Value) (g10 : Value) (g11 : Value) (g12 : Value) (sz : Nat) : Met l yX5_sideOf wsX5_sideOf ({ frames := 0, cells := 0, slots := 0, locals := 0 }) (va_Pc [.ref h0, .int 0] (Pw em dC dI sz [(h0, .inr (11, [g0, g1, g2, g3, g4, g5, .ref sf, .ref sb, g8, g9, g10, g11, g12]))] [])) (va_Qr (fun _ : Unit => True) (fun _ ra t => ra = sf ∧ (Qw dC dI (va_A [(h0, .inr (11, [g0, g1, g2, g3, g4, g5, .ref sf, .ref sb, g8, g9, g10, g11, g12]))] sz) [(h0, .inr (11, [g0, g1, g2, g3, g4, g5, .ref sf, .ref sb, g8, g9, g10, g11, g12]))] [] t)) (va_A [(h0, .inr (11, [g0, g1, g2, g3, g4, g5, .ref sf, .ref sb, g8, g9, g10, g11, g12]))] sz)) 0 0 (va_A [(h0, .inr (11, [g0, g1, g2, g3, g4, g5, .ref sf, .ref sb, g8, g9, g10, g11, g12]))] sz) := by
  refine Met.ofW (cc := cX5_sideOf) (maxL := 2) (ret := (some (.object "Bothfaces$Side"))) (by decide) rfl ?_
  intro p e s m args below meth c s₁ B hml hv
  obtain ⟨rfl, hsz, hP, hK, hD0, hamb⟩ := hv
  have hx := B.exec
  have hb := B.bytes
  have hr := B.returns
  have hts := atoms_spec (ws := wsX5_sideOf) B.pre
  have hown : s.vm.findClass RX5 = some m.cls := findClass_of_methodNamed B.named
  have hlocks := B.notSynchronized
  subst hsz
  have hD := hD0.self (sz := s.heap.size)
  generalize hAe : va_A [(h0, .inr (11, [g0, g1, g2, g3, g4, g5, .ref sf, .ref sb, g8, g9, g10, g11, g12]))] s.heap.size = A at hD hamb ⊢
  have hA : ∀ q : Nat, s.heap.size ≤ q → A q := fun q h => by rw [← hAe]; exact Or.inr h
  have hS : va_S A s.heap s.heap [] := va_S.rf
  have hP : va_P (dC, dI) vwCl [(h0, .inr (11, [g0, g1, g2, g3, g4, g5, .ref sf, .ref sb, g8, g9, g10, g11, g12]))] s.heap := hP
  have hl := lv_entry ([.ref h0, .int 0]) (n := 2) (Nat.le_of_ble_eq_true rfl)
  rw [lg_entry_eq]
  generalize (lg_sl ([.ref h0, .int 0]) ++ List.replicate (2 - (lg_sl ([.ref h0, .int 0])).length) Slot.unset).toArray = ls at hl ⊢
  have hl : lv_has ls 2 [(0, .ref h0), (1, .int 0)] := hl
  refine lv_iload_n hx hb dX5_sideOf_0 rfl (lv_at hl 1 rfl) ?_
  refine lv_if_eq (tgt := 11) hx hb dX5_sideOf_1 (by decide) (fun c_1 => ?_) (fun c_1 => ?_)
  · refine lv_aload_n hx hb dX5_sideOf_11 rfl (lv_at hl 0 rfl) ?_
    refine va_get (D := (dC, dI)) (ci := 11) (v := .ref sf) (C := RX5) (T := TX5) (N := 13) hx hb hts (by decide +kernel) hown hK hP 0 rfl rfl 6 (by decide) (hts (.fieldLink RX5 31 "Bothfaces" "front" "LBothfaces$Side;") (by decide +kernel)) (fun _ h9 => h9) rfl dX5_sideOf_12 ?_
    refine W.widen (k := 0) (n := 0) (Nat.le_of_ble_eq_true rfl) (Nat.le_of_ble_eq_true rfl) ?_
    have hP9 := hP.sub (ws' := [(h0, .inr (11, [g0, g1, g2, g3, g4, g5, .ref sf, .ref sb, g8, g9, g10, g11, g12]))]) [0] rfl
    have hD9 := hD.sub (ws' := [(h0, .inr (11, [g0, g1, g2, g3, g4, g5, .ref sf, .ref sb, g8, g9, g10, g11, g12]))]) [0] (by decide) rfl
    have hK9 := hK.sub (tys' := []) [] rfl
    exact W.aret (v := .ref sf) hx hb hr (Or.inl ⟨_, rfl⟩) (Or.inr ⟨_, rfl⟩) (fun t ht hW => ⟨⟨(), sf, rfl, trivial, ⟨rfl, ⟨by rw [ht]; exact hP9, va_K.moved hW.alike hK9, hD9⟩⟩⟩, hS.F ht⟩) hS.2.2 dX5_sideOf_15
  · exact absurd (by decide) c_1

set_option maxHeartbeats 4000000 in
set_option maxRecDepth 100000 in
theorem c_X5_setInk_0 (l : Launch) (hlt : l.stackTraces = false) (em : Nat → Nat) (dC : Nat → ClassId) (dI : Nat → Nat → Nat) (h0 : Nat) (sf : Nat) (sb : Nat) (p0 : Int32) (g0 : Value) (g1 : Value) (g2 : Value) (g3 : Value) (g4 : Value) (g5 : Value) (g8 : Value) (g9 : Value) (g10 : Value) (g11 : Value) (g12 : Value) (sf0 : Value) (sf1 : Value) (sf2 : Value) (sf3 : Value) (sf4 : Value) (sb0 : Value) (sb1 : Value) (sb2 : Value) (sb3 : Value) (sb4 : Value) (sz : Nat) : vx_Met l yX5_setInk wsX5_setInk ({ frames := 7, cells := 1, slots := 6, locals := 102 }) (va_Pc [.ref h0, .int 0, .int p0] (Pw em dC dI sz [(h0, .inr (11, [g0, g1, g2, g3, g4, g5, .ref sf, .ref sb, g8, g9, g10, g11, g12])), (sf, .inr (10, [sf0, sf1, sf2, sf3, sf4, .int 1, .int 0])), (sb, .inr (10, [sb0, sb1, sb2, sb3, sb4, .int 1, .int 0]))] [])) (va_Qi (fun (r : Int32) (_ : Unit) => ¬ (p0.toInt < 0 ∨ 7 < p0.toInt) ∧ r = 1) (fun _ t => True) (va_A [(h0, .inr (11, [g0, g1, g2, g3, g4, g5, .ref sf, .ref sb, g8, g9, g10, g11, g12])), (sf, .inr (10, [sf0, sf1, sf2, sf3, sf4, .int 1, .int 0])), (sb, .inr (10, [sb0, sb1, sb2, sb3, sb4, .int 1, .int 0]))] sz)) (vx_X (fun _ : Unit => True) (fun E _ _ => (E = "java/lang/IllegalArgumentException" ∧ (p0.toInt < 0 ∨ 7 < p0.toInt))) (va_A [(h0, .inr (11, [g0, g1, g2, g3, g4, g5, .ref sf, .ref sb, g8, g9, g10, g11, g12])), (sf, .inr (10, [sf0, sf1, sf2, sf3, sf4, .int 1, .int 0])), (sb, .inr (10, [sb0, sb1, sb2, sb3, sb4, .int 1, .int 0]))] sz)) 1 6 (va_A [(h0, .inr (11, [g0, g1, g2, g3, g4, g5, .ref sf, .ref sb, g8, g9, g10, g11, g12])), (sf, .inr (10, [sf0, sf1, sf2, sf3, sf4, .int 1, .int 0])), (sb, .inr (10, [sb0, sb1, sb2, sb3, sb4, .int 1, .int 0]))] sz) := by
  refine vx_ofW (cc := cX5_setInk) (maxL := 5) (ret := (some .int)) (by decide) rfl ?_
  intro p e s m args below meth c s₁ B hml htab hv
  obtain ⟨rfl, hsz, hP, hK, hD0, hamb⟩ := hv
  have hx := B.exec
  have hb := B.bytes
  have hr := B.returns
  have hts := atoms_spec (ws := wsX5_setInk) B.pre
  have hown : s.vm.findClass RX5 = some m.cls := findClass_of_methodNamed B.named
  have hlocks := B.notSynchronized
  subst hsz
  have hD := hD0.self (sz := s.heap.size)
  generalize hAe : va_A [(h0, .inr (11, [g0, g1, g2, g3, g4, g5, .ref sf, .ref sb, g8, g9, g10, g11, g12])), (sf, .inr (10, [sf0, sf1, sf2, sf3, sf4, .int 1, .int 0])), (sb, .inr (10, [sb0, sb1, sb2, sb3, sb4, .int 1, .int 0]))] s.heap.size = A at hD hamb ⊢
  have hA : ∀ q : Nat, s.heap.size ≤ q → A q := fun q h => by rw [← hAe]; exact Or.inr h
  have hS : va_S A s.heap s.heap [] := va_S.rf
  have hP : va_P (dC, dI) vwCl [(h0, .inr (11, [g0, g1, g2, g3, g4, g5, .ref sf, .ref sb, g8, g9, g10, g11, g12])), (sf, .inr (10, [sf0, sf1, sf2, sf3, sf4, .int 1, .int 0])), (sb, .inr (10, [sb0, sb1, sb2, sb3, sb4, .int 1, .int 0]))] s.heap := hP
  have hl := lv_entry ([.ref h0, .int 0, .int p0]) (n := 5) (Nat.le_of_ble_eq_true rfl)
  rw [lg_entry_eq]
  generalize (lg_sl ([.ref h0, .int 0, .int p0]) ++ List.replicate (5 - (lg_sl ([.ref h0, .int 0, .int p0])).length) Slot.unset).toArray = ls at hl ⊢
  have hl : lv_has ls 5 [(0, .ref h0), (1, .int 0), (2, .int p0)] := hl
  refine lv_iload_n hx hb dX5_setInk_0 rfl (lv_at hl 2 rfl) ?_
  have hPc := hP.sub (ws' := []) [] rfl
  have hDc := hD.sub (ws' := []) [] (by decide) rfl
  have hKc := hK.sub (tys' := []) [] rfl
  have hFc := va_free (wc := []) hD hS hA [] rfl
  refine vx_callv (vx_runS (As := [.int p0]) (rest := []) ⟨hx, hb, hml, hown, hts⟩ (c_X5_needColour l hlt em dC dI p0 s.heap.size) (va_cwS 1 hts gX5_setInk_X5_needColour rfl rfl rfl (by decide +kernel) ⟨Nat.le_of_ble_eq_true rfl, Nat.le_of_ble_eq_true rfl⟩) ⟨Pw.blind _ _ _ _ _ _ _, fun U hU hW => ⟨rfl, Pw.go hPc hKc hDc hamb hS hFc hU hW⟩⟩ rfl rfl hl.1 rfl (lv_room (Nat.le_of_ble_eq_true rfl)) dX5_setInk_1 ⟨Nat.le_of_ble_eq_true rfl, Nat.le_of_ble_eq_true rfl⟩) hS (fun q _ h => hFc q h) hFc (fun q _ h => hFc q h) (fun E ce q9 ux tx H1 locs1 htx hvm hpx hBX hz1 hk1 hS hce hcv hcl => ?_) (fun u t H1 locs1 ht hvm hw hB hz1 hk1 hS => ?_)
  · obtain ⟨rfl, t_2⟩ := hBX
    exact vx_out (fun x hxx => (htab x hxx).elim) hlocks hce hcv hcl (fun t ht2 ha => ⟨(), trivial, (⟨rfl, by omega⟩), hS.F ht2⟩) hS.2.2 (Nat.le_of_ble_eq_true rfl) (Nat.le_of_ble_eq_true rfl)
  · obtain ⟨hP, hD⟩ := va_rest (wr := [(h0, .inr (11, [g0, g1, g2, g3, g4, g5, .ref sf, .ref sb, g8, g9, g10, g11, g12])), (sf, .inr (10, [sf0, sf1, sf2, sf3, sf4, .int 1, .int 0])), (sb, .inr (10, [sb0, sb1, sb2, sb3, sb4, .int 1, .int 0]))]) hP hD [] [0, 1, 2] rfl rfl (by decide) (by decide) hk1 hFc
    generalize H1 = H at hP hS ⊢
    refine W.widen (k := 1) (n := 6) (Nat.le_of_ble_eq_true rfl) (Nat.le_of_ble_eq_true rfl) ?_
    have t_3 : ¬ (p0.toInt < 0 ∨ 7 < p0.toInt) := hw
    refine lv_aload_n hx hb dX5_setInk_4 rfl (lv_at hl 0 rfl) ?_
    refine lv_iload_n hx hb dX5_setInk_5 rfl (lv_at hl 1 rfl) ?_
    have hPc := hP.sub (ws' := [(h0, .inr (11, [g0, g1, g2, g3, g4, g5, .ref sf, .ref sb, g8, g9, g10, g11, g12]))]) [0] rfl
    have hDc := hD.sub (ws' := [(h0, .inr (11, [g0, g1, g2, g3, g4, g5, .ref sf, .ref sb, g8, g9, g10, g11, g12]))]) [0] (by decide) rfl
    have hKc := hK.sub (tys' := []) [] rfl
    have hFc := va_free (wc := [(h0, .inr (11, [g0, g1, g2, g3, g4, g5, .ref sf, .ref sb, g8, g9, g10, g11, g12]))]) hD hS hA [0] rfl
    refine va_callr (va_runV (As := [.int 0]) (rest := []) ⟨hx, hb, hml, hown, hts⟩ (c_X5_sideOf_0 l em dC dI h0 sf sb g0 g1 g2 g3 g4 g5 g8 g9 g10 g11 g12 H.size) (cwV 1 hts gX5_setInk_X5_sideOf rfl rfl rfl (by decide +kernel) ⟨Nat.le_of_ble_eq_true rfl, Nat.le_of_ble_eq_true rfl⟩) ⟨Pw.blind _ _ _ _ _ _ _, va_recv hKc hPc (ci := 11) (q0 := 0) rfl rfl, fun U hU hW => ⟨rfl, Pw.go hPc hKc hDc hamb hS hFc hU hW⟩⟩ rfl rfl hl.1 rfl (lv_room (Nat.le_of_ble_eq_true rfl)) dX5_setInk_6 ⟨Nat.le_of_ble_eq_true rfl, Nat.le_of_ble_eq_true rfl⟩) hS (fun q _ h => hFc q h) hFc (fun u ra t H1 locs1 ht hvm hw hB hz1 hk1 hS => ?_)
    obtain ⟨hra, hB⟩ := hB
    rw [hra]
    obtain ⟨hP1, hK1, hD1⟩ := hB
    rw [ht] at hP1
    have hK1 := va_K.moved hvm.symm hK1
    obtain ⟨hP, hD⟩ := va_join (wr := [(sf, .inr (10, [sf0, sf1, sf2, sf3, sf4, .int 1, .int 0])), (sb, .inr (10, [sb0, sb1, sb2, sb3, sb4, .int 1, .int 0]))]) (w1 := [(h0, .inr (11, [g0, g1, g2, g3, g4, g5, .ref sf, .ref sb, g8, g9, g10, g11, g12]))]) hP hD [0] [1, 2] rfl rfl (by decide) (by decide) hk1 hFc hP1 hD1
    have hK := (hK.sub (tys' := []) [] rfl).app hK1
    generalize H1 = H at hP hS ⊢
    have hP : va_P (dC, dI) vwCl [(sf, .inr (10, [sf0, sf1, sf2, sf3, sf4, .int 1, .int 0])), (sb, .inr (10, [sb0, sb1, sb2, sb3, sb4, .int 1, .int 0])), (h0, .inr (11, [g0, g1, g2, g3, g4, g5, .ref sf, .ref sb, g8, g9, g10, g11, g12]))] H := hP
    have hD : va_D A [(sf, .inr (10, [sf0, sf1, sf2, sf3, sf4, .int 1, .int 0])), (sb, .inr (10, [sb0, sb1, sb2, sb3, sb4, .int 1, .int 0])), (h0, .inr (11, [g0, g1, g2, g3, g4, g5, .ref sf, .ref sb, g8, g9, g10, g11, g12]))] := hD
    have hK : va_K (dC, dI) vwCl [] s := hK
    refine W.widen (k := 1) (n := 6) (Nat.le_of_ble_eq_true rfl) (Nat.le_of_ble_eq_true rfl) ?_
    refine lv_astore_n (lv' := [(3, .ref sf), (0, .ref h0), (1, .int 0), (2, .int p0)]) hx hb dX5_setInk_9 rfl hl (by decide) rfl (fun ls hl => ?_)
    refine lv_aload_n hx hb dX5_setInk_10 rfl (lv_at hl 0 rfl) ?_
    refine va_getN (D := (dC, dI)) (ci := 10) (v := .int 1) (C := RX4) (T := TX4) (N := 7) hx hb hts (by decide +kernel) hown hK hP 0 rfl rfl 5 (by decide) (hamb.use (w := .fieldLinkNest RX5 180 "Bothfaces$Side" "ink" "I" RX5) (by decide +kernel)) (fun _ h9 => h9) rfl dX5_setInk_11 ?_
    refine lv_istore (lv' := [(4, .int 1), (3, .ref sf), (0, .ref h0), (1, .int 0), (2, .int p0)]) hx hb dX5_setInk_14 hl (by decide) rfl (fun ls hl => ?_)
    refine lv_aload_n hx hb dX5_setInk_16 rfl (lv_at hl 1 rfl) ?_
    refine lv_iload_n hx hb dX5_setInk_17 rfl (lv_at hl 4 rfl) ?_
    refine va_putN (D := (dC, dI)) (ci := 10) (v := .int p0) (ty := .int) (C := RX4) (T := TX4) (N := 7) hx hb hts (by decide +kernel) tyX4 tyX4_ok nmX4 hown hK hP hD hS 0 rfl rfl 5 (by decide) (hamb.use (w := .fieldLinkNest RX5 180 "Bothfaces$Side" "ink" "I" RX5) (by decide +kernel)) (fun _ h9 => h9) rfl (by decide +kernel) rfl rfl (Nat.le_of_ble_eq_true rfl) dX5_setInk_18 (fun H locs hP hD hS => ?_)
    have hP : va_P (dC, dI) vwCl [(sf, .inr (10, [sf0, sf1, sf2, sf3, sf4, .int p0, .int 0])), (sb, .inr (10, [sb0, sb1, sb2, sb3, sb4, .int 1, .int 0])), (h0, .inr (11, [g0, g1, g2, g3, g4, g5, .ref sf, .ref sb, g8, g9, g10, g11, g12]))] H := hP
    have hD : va_D A [(sf, .inr (10, [sf0, sf1, sf2, sf3, sf4, .int p0, .int 0])), (sb, .inr (10, [sb0, sb1, sb2, sb3, sb4, .int 1, .int 0])), (h0, .inr (11, [g0, g1, g2, g3, g4, g5, .ref sf, .ref sb, g8, g9, g10, g11, g12]))] := hD
    refine lv_iload hx hb dX5_setInk_21 (lv_at hl 0 rfl) ?_
    refine W.widen (k := 1) (n := 6) (Nat.le_of_ble_eq_true rfl) (Nat.le_of_ble_eq_true rfl) ?_
    refine vx_ret ?_
    exact W.iret (v := 1) hx hb hr (fun t ht hW => ⟨⟨1, (), rfl, ⟨(by omega), rfl⟩, trivial⟩, hS.F ht⟩) hS.2.2 dX5_setInk_23

set_option maxHeartbeats 4000000 in
set_option maxRecDepth 100000 in
theorem c_X5_setGround_0 (l : Launch) (hlt : l.stackTraces = false) (em : Nat → Nat) (dC : Nat → ClassId) (dI : Nat → Nat → Nat) (h0 : Nat) (sf : Nat) (sb : Nat) (p0 : Int32) (g0 : Value) (g1 : Value) (g2 : Value) (g3 : Value) (g4 : Value) (g5 : Value) (g8 : Value) (g9 : Value) (g10 : Value) (g11 : Value) (g12 : Value) (sf0 : Value) (sf1 : Value) (sf2 : Value) (sf3 : Value) (sf4 : Value) (sb0 : Value) (sb1 : Value) (sb2 : Value) (sb3 : Value) (sb4 : Value) (sz : Nat) : vx_Met l yX5_setGround wsX5_setGround ({ frames := 7, cells := 1, slots := 6, locals := 102 }) (va_Pc [.ref h0, .int 0, .int p0] (Pw em dC dI sz [(h0, .inr (11, [g0, g1, g2, g3, g4, g5, .ref sf, .ref sb, g8, g9, g10, g11, g12])), (sf, .inr (10, [sf0, sf1, sf2, sf3, sf4, .int 1, .int 0])), (sb, .inr (10, [sb0, sb1, sb2, sb3, sb4, .int 1, .int 0]))] [])) (va_Qi (fun (r : Int32) (_ : Unit) => ¬ (p0.toInt < 0 ∨ 7 < p0.toInt) ∧ r = 0) (fun _ t => True) (va_A [(h0, .inr (11, [g0, g1, g2, g3, g4, g5, .ref sf, .ref sb, g8, g9, g10, g11, g12])), (sf, .inr (10, [sf0, sf1, sf2, sf3, sf4, .int 1, .int 0])), (sb, .inr (10, [sb0, sb1, sb2, sb3, sb4, .int 1, .int 0]))] sz)) (vx_X (fun _ : Unit => True) (fun E _ _ => (E = "java/lang/IllegalArgumentException" ∧ (p0.toInt < 0 ∨ 7 < p0.toInt))) (va_A [(h0, .inr (11, [g0, g1, g2, g3, g4, g5, .ref sf, .ref sb, g8, g9, g10, g11, g12])), (sf, .inr (10, [sf0, sf1, sf2, sf3, sf4, .int 1, .int 0])), (sb, .inr (10, [sb0, sb1, sb2, sb3, sb4, .int 1, .int 0]))] sz)) 1 6 (va_A [(h0, .inr (11, [g0, g1, g2, g3, g4, g5, .ref sf, .ref sb, g8, g9, g10, g11, g12])), (sf, .inr (10, [sf0, sf1, sf2, sf3, sf4, .int 1, .int 0])), (sb, .inr (10, [sb0, sb1, sb2, sb3, sb4, .int 1, .int 0]))] sz) := by
  refine vx_ofW (cc := cX5_setGround) (maxL := 5) (ret := (some .int)) (by decide) rfl ?_
  intro p e s m args below meth c s₁ B hml htab hv
  obtain ⟨rfl, hsz, hP, hK, hD0, hamb⟩ := hv
  have hx := B.exec
  have hb := B.bytes
  have hr := B.returns
  have hts := atoms_spec (ws := wsX5_setGround) B.pre
  have hown : s.vm.findClass RX5 = some m.cls := findClass_of_methodNamed B.named
  have hlocks := B.notSynchronized
  subst hsz
  have hD := hD0.self (sz := s.heap.size)
  generalize hAe : va_A [(h0, .inr (11, [g0, g1, g2, g3, g4, g5, .ref sf, .ref sb, g8, g9, g10, g11, g12])), (sf, .inr (10, [sf0, sf1, sf2, sf3, sf4, .int 1, .int 0])), (sb, .inr (10, [sb0, sb1, sb2, sb3, sb4, .int 1, .int 0]))] s.heap.size = A at hD hamb ⊢
  have hA : ∀ q : Nat, s.heap.size ≤ q → A q := fun q h => by rw [← hAe]; exact Or.inr h
  have hS : va_S A s.heap s.heap [] := va_S.rf
  have hP : va_P (dC, dI) vwCl [(h0, .inr (11, [g0, g1, g2, g3, g4, g5, .ref sf, .ref sb, g8, g9, g10, g11, g12])), (sf, .inr (10, [sf0, sf1, sf2, sf3, sf4, .int 1, .int 0])), (sb, .inr (10, [sb0, sb1, sb2, sb3, sb4, .int 1, .int 0]))] s.heap := hP
  have hl := lv_entry ([.ref h0, .int 0, .int p0]) (n := 5) (Nat.le_of_ble_eq_true rfl)
  rw [lg_entry_eq]
  generalize (lg_sl ([.ref h0, .int 0, .int p0]) ++ List.replicate (5 - (lg_sl ([.ref h0, .int 0, .int p0])).length) Slot.unset).toArray = ls at hl ⊢
  have hl : lv_has ls 5 [(0, .ref h0), (1, .int 0), (2, .int p0)] := hl
  refine lv_iload_n hx hb dX5_setGround_0 rfl (lv_at hl 2 rfl) ?_
  have hPc := hP.sub (ws' := []) [] rfl
  have hDc := hD.sub (ws' := []) [] (by decide) rfl
  have hKc := hK.sub (tys' := []) [] rfl
  have hFc := va_free (wc := []) hD hS hA [] rfl
  refine vx_callv (vx_runS (As := [.int p0]) (rest := []) ⟨hx, hb, hml, hown, hts⟩ (c_X5_needColour l hlt em dC dI p0 s.heap.size) (va_cwS 1 hts gX5_setGround_X5_needColour rfl rfl rfl (by decide +kernel) ⟨Nat.le_of_ble_eq_true rfl, Nat.le_of_ble_eq_true rfl⟩) ⟨Pw.blind _ _ _ _ _ _ _, fun U hU hW => ⟨rfl, Pw.go hPc hKc hDc hamb hS hFc hU hW⟩⟩ rfl rfl hl.1 rfl (lv_room (Nat.le_of_ble_eq_true rfl)) dX5_setGround_1 ⟨Nat.le_of_ble_eq_true rfl, Nat.le_of_ble_eq_true rfl⟩) hS (fun q _ h => hFc q h) hFc (fun q _ h => hFc q h) (fun E ce q9 ux tx H1 locs1 htx hvm hpx hBX hz1 hk1 hS hce hcv hcl => ?_) (fun u t H1 locs1 ht hvm hw hB hz1 hk1 hS => ?_)
  · obtain ⟨rfl, t_2⟩ := hBX
    exact vx_out (fun x hxx => (htab x hxx).elim) hlocks hce hcv hcl (fun t ht2 ha => ⟨(), trivial, (⟨rfl, by omega⟩), hS.F ht2⟩) hS.2.2 (Nat.le_of_ble_eq_true rfl) (Nat.le_of_ble_eq_true rfl)
  · obtain ⟨hP, hD⟩ := va_rest (wr := [(h0, .inr (11, [g0, g1, g2, g3, g4, g5, .ref sf, .ref sb, g8, g9, g10, g11, g12])), (sf, .inr (10, [sf0, sf1, sf2, sf3, sf4, .int 1, .int 0])), (sb, .inr (10, [sb0, sb1, sb2, sb3, sb4, .int 1, .int 0]))]) hP hD [] [0, 1, 2] rfl rfl (by decide) (by decide) hk1 hFc
    generalize H1 = H at hP hS ⊢
    refine W.widen (k := 1) (n := 6) (Nat.le_of_ble_eq_true rfl) (Nat.le_of_ble_eq_true rfl) ?_
    have t_3 : ¬ (p0.toInt < 0 ∨ 7 < p0.toInt) := hw
    refine lv_aload_n hx hb dX5_setGround_4 rfl (lv_at hl 0 rfl) ?_
    refine lv_iload_n hx hb dX5_setGround_5 rfl (lv_at hl 1 rfl) ?_
    have hPc := hP.sub (ws' := [(h0, .inr (11, [g0, g1, g2, g3, g4, g5, .ref sf, .ref sb, g8, g9, g10, g11, g12]))]) [0] rfl
    have hDc := hD.sub (ws' := [(h0, .inr (11, [g0, g1, g2, g3, g4, g5, .ref sf, .ref sb, g8, g9, g10, g11, g12]))]) [0] (by decide) rfl
    have hKc := hK.sub (tys' := []) [] rfl
    have hFc := va_free (wc := [(h0, .inr (11, [g0, g1, g2, g3, g4, g5, .ref sf, .ref sb, g8, g9, g10, g11, g12]))]) hD hS hA [0] rfl
    refine va_callr (va_runV (As := [.int 0]) (rest := []) ⟨hx, hb, hml, hown, hts⟩ (c_X5_sideOf_0 l em dC dI h0 sf sb g0 g1 g2 g3 g4 g5 g8 g9 g10 g11 g12 H.size) (cwV 1 hts gX5_setGround_X5_sideOf rfl rfl rfl (by decide +kernel) ⟨Nat.le_of_ble_eq_true rfl, Nat.le_of_ble_eq_true rfl⟩) ⟨Pw.blind _ _ _ _ _ _ _, va_recv hKc hPc (ci := 11) (q0 := 0) rfl rfl, fun U hU hW => ⟨rfl, Pw.go hPc hKc hDc hamb hS hFc hU hW⟩⟩ rfl rfl hl.1 rfl (lv_room (Nat.le_of_ble_eq_true rfl)) dX5_setGround_6 ⟨Nat.le_of_ble_eq_true rfl, Nat.le_of_ble_eq_true rfl⟩) hS (fun q _ h => hFc q h) hFc (fun u ra t H1 locs1 ht hvm hw hB hz1 hk1 hS => ?_)
    obtain ⟨hra, hB⟩ := hB
    rw [hra]
    obtain ⟨hP1, hK1, hD1⟩ := hB
    rw [ht] at hP1
    have hK1 := va_K.moved hvm.symm hK1
    obtain ⟨hP, hD⟩ := va_join (wr := [(sf, .inr (10, [sf0, sf1, sf2, sf3, sf4, .int 1, .int 0])), (sb, .inr (10, [sb0, sb1, sb2, sb3, sb4, .int 1, .int 0]))]) (w1 := [(h0, .inr (11, [g0, g1, g2, g3, g4, g5, .ref sf, .ref sb, g8, g9, g10, g11, g12]))]) hP hD [0] [1, 2] rfl rfl (by decide) (by decide) hk1 hFc hP1 hD1
    have hK := (hK.sub (tys' := []) [] rfl).app hK1
    generalize H1 = H at hP hS ⊢
    have hP : va_P (dC, dI) vwCl [(sf, .inr (10, [sf0, sf1, sf2, sf3, sf4, .int 1, .int 0])), (sb, .inr (10, [sb0, sb1, sb2, sb3, sb4, .int 1, .int 0])), (h0, .inr (11, [g0, g1, g2, g3, g4, g5, .ref sf, .ref sb, g8, g9, g10, g11, g12]))] H := hP
    have hD : va_D A [(sf, .inr (10, [sf0, sf1, sf2, sf3, sf4, .int 1, .int 0])), (sb, .inr (10, [sb0, sb1, sb2, sb3, sb4, .int 1, .int 0])), (h0, .inr (11, [g0, g1, g2, g3, g4, g5, .ref sf, .ref sb, g8, g9, g10, g11, g12]))] := hD
    have hK : va_K (dC, dI) vwCl [] s := hK
    refine W.widen (k := 1) (n := 6) (Nat.le_of_ble_eq_true rfl) (Nat.le_of_ble_eq_true rfl) ?_
    refine lv_astore_n (lv' := [(3, .ref sf), (0, .ref h0), (1, .int 0), (2, .int p0)]) hx hb dX5_setGround_9 rfl hl (by decide) rfl (fun ls hl => ?_)
    refine lv_aload_n hx hb dX5_setGround_10 rfl (lv_at hl 0 rfl) ?_
    refine va_getN (D := (dC, dI)) (ci := 10) (v := .int 0) (C := RX4) (T := TX4) (N := 7) hx hb hts (by decide +kernel) hown hK hP 0 rfl rfl 6 (by decide) (hamb.use (w := .fieldLinkNest RX5 183 "Bothfaces$Side" "ground" "I" RX5) (by decide +kernel)) (fun _ h9 => h9) rfl dX5_setGround_11 ?_
    refine lv_istore (lv' := [(4, .int 0), (3, .ref sf), (0, .ref h0), (1, .int 0), (2, .int p0)]) hx hb dX5_setGround_14 hl (by decide) rfl (fun ls hl => ?_)
    refine lv_aload_n hx hb dX5_setGround_16 rfl (lv_at hl 1 rfl) ?_
    refine lv_iload_n hx hb dX5_setGround_17 rfl (lv_at hl 4 rfl) ?_
    refine va_putN (D := (dC, dI)) (ci := 10) (v := .int p0) (ty := .int) (C := RX4) (T := TX4) (N := 7) hx hb hts (by decide +kernel) tyX4 tyX4_ok nmX4 hown hK hP hD hS 0 rfl rfl 6 (by decide) (hamb.use (w := .fieldLinkNest RX5 183 "Bothfaces$Side" "ground" "I" RX5) (by decide +kernel)) (fun _ h9 => h9) rfl (by decide +kernel) rfl rfl (Nat.le_of_ble_eq_true rfl) dX5_setGround_18 (fun H locs hP hD hS => ?_)
    have hP : va_P (dC, dI) vwCl [(sf, .inr (10, [sf0, sf1, sf2, sf3, sf4, .int 1, .int p0])), (sb, .inr (10, [sb0, sb1, sb2, sb3, sb4, .int 1, .int 0])), (h0, .inr (11, [g0, g1, g2, g3, g4, g5, .ref sf, .ref sb, g8, g9, g10, g11, g12]))] H := hP
    have hD : va_D A [(sf, .inr (10, [sf0, sf1, sf2, sf3, sf4, .int 1, .int p0])), (sb, .inr (10, [sb0, sb1, sb2, sb3, sb4, .int 1, .int 0])), (h0, .inr (11, [g0, g1, g2, g3, g4, g5, .ref sf, .ref sb, g8, g9, g10, g11, g12]))] := hD
    refine lv_iload hx hb dX5_setGround_21 (lv_at hl 0 rfl) ?_
    refine W.widen (k := 1) (n := 6) (Nat.le_of_ble_eq_true rfl) (Nat.le_of_ble_eq_true rfl) ?_
    refine vx_ret ?_
    exact W.iret (v := 0) hx hb hr (fun t ht hW => ⟨⟨0, (), rfl, ⟨(by omega), rfl⟩, trivial⟩, hS.F ht⟩) hS.2.2 dX5_setGround_23

set_option maxHeartbeats 4000000 in
set_option maxRecDepth 100000 in
theorem c_X5_sideOf_1 (l : Launch) (em : Nat → Nat) (dC : Nat → ClassId) (dI : Nat → Nat → Nat) (h0 : Nat) (sf : Nat) (sb : Nat) (g0 : Value) (g1 : Value) (g2 : Value) (g3 : Value) (g4 : Value) (g5 : Value) (g8 : Value) (g9 : Value) (g10 : Value) (g11 : Value) (g12 : Value) (sz : Nat) : Met l yX5_sideOf wsX5_sideOf ({ frames := 0, cells := 0, slots := 0, locals := 0 }) (va_Pc [.ref h0, .int 1] (Pw em dC dI sz [(h0, .inr (11, [g0, g1, g2, g3, g4, g5, .ref sf, .ref sb, g8, g9, g10, g11, g12]))] [])) (va_Qr (fun _ : Unit => True) (fun _ ra t => ra = sb ∧ (Qw dC dI (va_A [(h0, .inr (11, [g0, g1, g2, g3, g4, g5, .ref sf, .ref sb, g8, g9, g10, g11, g12]))] sz) [(h0, .inr (11, [g0, g1, g2, g3, g4, g5, .ref sf, .ref sb, g8, g9, g10, g11, g12]))] [] t)) (va_A [(h0, .inr (11, [g0, g1, g2, g3, g4, g5, .ref sf, .ref sb, g8, g9, g10, g11, g12]))] sz)) 0 0 (va_A [(h0, .inr (11, [g0, g1, g2, g3, g4, g5, .ref sf, .ref sb, g8, g9, g10, g11, g12]))] sz) := by
  refine Met.ofW (cc := cX5_sideOf) (maxL := 2) (ret := (some (.object "Bothfaces$Side"))) (by decide) rfl ?_
  intro p e s m args below meth c s₁ B hml hv
  obtain ⟨rfl, hsz, hP, hK, hD0, hamb⟩ := hv
  have hx := B.exec
  have hb := B.bytes
  have hr := B.returns
  have hts := atoms_spec (ws := wsX5_sideOf) B.pre
  have hown : s.vm.findClass RX5 = some m.cls := findClass_of_methodNamed B.named
  have hlocks := B.notSynchronized
  subst hsz
  have hD := hD0.self (sz := s.heap.size)
  generalize hAe : va_A [(h0, .inr (11, [g0, g1, g2, g3, g4, g5, .ref sf, .ref sb, g8, g9, g10, g11, g12]))] s.heap.size = A at hD hamb ⊢
  have hA : ∀ q : Nat, s.heap.size ≤ q → A q := fun q h => by rw [← hAe]; exact Or.inr h
  have hS : va_S A s.heap s.heap [] := va_S.rf
  have hP : va_P (dC, dI) vwCl [(h0, .inr (11, [g0, g1, g2, g3, g4, g5, .ref sf, .ref sb, g8, g9, g10, g11, g12]))] s.heap := hP
  have hl := lv_entry ([.ref h0, .int 1]) (n := 2) (Nat.le_of_ble_eq_true rfl)
  rw [lg_entry_eq]
  generalize (lg_sl ([.ref h0, .int 1]) ++ List.replicate (2 - (lg_sl ([.ref h0, .int 1])).length) Slot.unset).toArray = ls at hl ⊢
  have hl : lv_has ls 2 [(0, .ref h0), (1, .int 1)] := hl
  refine lv_iload_n hx hb dX5_sideOf_0 rfl (lv_at hl 1 rfl) ?_
  refine lv_if_eq (tgt := 11) hx hb dX5_sideOf_1 (by decide) (fun c_1 => ?_) (fun c_1 => ?_)
  · exact absurd c_1 (by decide)
  · refine lv_aload_n hx hb dX5_sideOf_4 rfl (lv_at hl 0 rfl) ?_
    refine va_get (D := (dC, dI)) (ci := 11) (v := .ref sb) (C := RX5) (T := TX5) (N := 13) hx hb hts (by decide +kernel) hown hK hP 0 rfl rfl 7 (by decide) (hts (.fieldLink RX5 35 "Bothfaces" "back" "LBothfaces$Side;") (by decide +kernel)) (fun _ h9 => h9) rfl dX5_sideOf_5 ?_
    refine lv_goto (tgt := 15) hx hb dX5_sideOf_8 (by decide) ?_
    refine W.widen (k := 0) (n := 0) (Nat.le_of_ble_eq_true rfl) (Nat.le_of_ble_eq_true rfl) ?_
    have hP9 := hP.sub (ws' := [(h0, .inr (11, [g0, g1, g2, g3, g4, g5, .ref sf, .ref sb, g8, g9, g10, g11, g12]))]) [0] rfl
    have hD9 := hD.sub (ws' := [(h0, .inr (11, [g0, g1, g2, g3, g4, g5, .ref sf, .ref sb, g8, g9, g10, g11, g12]))]) [0] (by decide) rfl
    have hK9 := hK.sub (tys' := []) [] rfl
    exact W.aret (v := .ref sb) hx hb hr (Or.inl ⟨_, rfl⟩) (Or.inr ⟨_, rfl⟩) (fun t ht hW => ⟨⟨(), sb, rfl, trivial, ⟨rfl, ⟨by rw [ht]; exact hP9, va_K.moved hW.alike hK9, hD9⟩⟩⟩, hS.F ht⟩) hS.2.2 dX5_sideOf_15

set_option maxHeartbeats 4000000 in
set_option maxRecDepth 100000 in
theorem c_X5_setInk_1 (l : Launch) (hlt : l.stackTraces = false) (em : Nat → Nat) (dC : Nat → ClassId) (dI : Nat → Nat → Nat) (h0 : Nat) (sf : Nat) (sb : Nat) (p0 : Int32) (g0 : Value) (g1 : Value) (g2 : Value) (g3 : Value) (g4 : Value) (g5 : Value) (g8 : Value) (g9 : Value) (g10 : Value) (g11 : Value) (g12 : Value) (sf0 : Value) (sf1 : Value) (sf2 : Value) (sf3 : Value) (sf4 : Value) (sb0 : Value) (sb1 : Value) (sb2 : Value) (sb3 : Value) (sb4 : Value) (sz : Nat) : vx_Met l yX5_setInk wsX5_setInk ({ frames := 7, cells := 1, slots := 6, locals := 102 }) (va_Pc [.ref h0, .int 1, .int p0] (Pw em dC dI sz [(h0, .inr (11, [g0, g1, g2, g3, g4, g5, .ref sf, .ref sb, g8, g9, g10, g11, g12])), (sf, .inr (10, [sf0, sf1, sf2, sf3, sf4, .int 1, .int 0])), (sb, .inr (10, [sb0, sb1, sb2, sb3, sb4, .int 1, .int 0]))] [])) (va_Qi (fun (r : Int32) (_ : Unit) => ¬ (p0.toInt < 0 ∨ 7 < p0.toInt) ∧ r = 1) (fun _ t => True) (va_A [(h0, .inr (11, [g0, g1, g2, g3, g4, g5, .ref sf, .ref sb, g8, g9, g10, g11, g12])), (sf, .inr (10, [sf0, sf1, sf2, sf3, sf4, .int 1, .int 0])), (sb, .inr (10, [sb0, sb1, sb2, sb3, sb4, .int 1, .int 0]))] sz)) (vx_X (fun _ : Unit => True) (fun E _ _ => (E = "java/lang/IllegalArgumentException" ∧ (p0.toInt < 0 ∨ 7 < p0.toInt))) (va_A [(h0, .inr (11, [g0, g1, g2, g3, g4, g5, .ref sf, .ref sb, g8, g9, g10, g11, g12])), (sf, .inr (10, [sf0, sf1, sf2, sf3, sf4, .int 1, .int 0])), (sb, .inr (10, [sb0, sb1, sb2, sb3, sb4, .int 1, .int 0]))] sz)) 1 6 (va_A [(h0, .inr (11, [g0, g1, g2, g3, g4, g5, .ref sf, .ref sb, g8, g9, g10, g11, g12])), (sf, .inr (10, [sf0, sf1, sf2, sf3, sf4, .int 1, .int 0])), (sb, .inr (10, [sb0, sb1, sb2, sb3, sb4, .int 1, .int 0]))] sz) := by
  refine vx_ofW (cc := cX5_setInk) (maxL := 5) (ret := (some .int)) (by decide) rfl ?_
  intro p e s m args below meth c s₁ B hml htab hv
  obtain ⟨rfl, hsz, hP, hK, hD0, hamb⟩ := hv
  have hx := B.exec
  have hb := B.bytes
  have hr := B.returns
  have hts := atoms_spec (ws := wsX5_setInk) B.pre
  have hown : s.vm.findClass RX5 = some m.cls := findClass_of_methodNamed B.named
  have hlocks := B.notSynchronized
  subst hsz
  have hD := hD0.self (sz := s.heap.size)
  generalize hAe : va_A [(h0, .inr (11, [g0, g1, g2, g3, g4, g5, .ref sf, .ref sb, g8, g9, g10, g11, g12])), (sf, .inr (10, [sf0, sf1, sf2, sf3, sf4, .int 1, .int 0])), (sb, .inr (10, [sb0, sb1, sb2, sb3, sb4, .int 1, .int 0]))] s.heap.size = A at hD hamb ⊢
  have hA : ∀ q : Nat, s.heap.size ≤ q → A q := fun q h => by rw [← hAe]; exact Or.inr h
  have hS : va_S A s.heap s.heap [] := va_S.rf
  have hP : va_P (dC, dI) vwCl [(h0, .inr (11, [g0, g1, g2, g3, g4, g5, .ref sf, .ref sb, g8, g9, g10, g11, g12])), (sf, .inr (10, [sf0, sf1, sf2, sf3, sf4, .int 1, .int 0])), (sb, .inr (10, [sb0, sb1, sb2, sb3, sb4, .int 1, .int 0]))] s.heap := hP
  have hl := lv_entry ([.ref h0, .int 1, .int p0]) (n := 5) (Nat.le_of_ble_eq_true rfl)
  rw [lg_entry_eq]
  generalize (lg_sl ([.ref h0, .int 1, .int p0]) ++ List.replicate (5 - (lg_sl ([.ref h0, .int 1, .int p0])).length) Slot.unset).toArray = ls at hl ⊢
  have hl : lv_has ls 5 [(0, .ref h0), (1, .int 1), (2, .int p0)] := hl
  refine lv_iload_n hx hb dX5_setInk_0 rfl (lv_at hl 2 rfl) ?_
  have hPc := hP.sub (ws' := []) [] rfl
  have hDc := hD.sub (ws' := []) [] (by decide) rfl
  have hKc := hK.sub (tys' := []) [] rfl
  have hFc := va_free (wc := []) hD hS hA [] rfl
  refine vx_callv (vx_runS (As := [.int p0]) (rest := []) ⟨hx, hb, hml, hown, hts⟩ (c_X5_needColour l hlt em dC dI p0 s.heap.size) (va_cwS 1 hts gX5_setInk_X5_needColour rfl rfl rfl (by decide +kernel) ⟨Nat.le_of_ble_eq_true rfl, Nat.le_of_ble_eq_true rfl⟩) ⟨Pw.blind _ _ _ _ _ _ _, fun U hU hW => ⟨rfl, Pw.go hPc hKc hDc hamb hS hFc hU hW⟩⟩ rfl rfl hl.1 rfl (lv_room (Nat.le_of_ble_eq_true rfl)) dX5_setInk_1 ⟨Nat.le_of_ble_eq_true rfl, Nat.le_of_ble_eq_true rfl⟩) hS (fun q _ h => hFc q h) hFc (fun q _ h => hFc q h) (fun E ce q9 ux tx H1 locs1 htx hvm hpx hBX hz1 hk1 hS hce hcv hcl => ?_) (fun u t H1 locs1 ht hvm hw hB hz1 hk1 hS => ?_)
  · obtain ⟨rfl, t_2⟩ := hBX
    exact vx_out (fun x hxx => (htab x hxx).elim) hlocks hce hcv hcl (fun t ht2 ha => ⟨(), trivial, (⟨rfl, by omega⟩), hS.F ht2⟩) hS.2.2 (Nat.le_of_ble_eq_true rfl) (Nat.le_of_ble_eq_true rfl)
  · obtain ⟨hP, hD⟩ := va_rest (wr := [(h0, .inr (11, [g0, g1, g2, g3, g4, g5, .ref sf, .ref sb, g8, g9, g10, g11, g12])), (sf, .inr (10, [sf0, sf1, sf2, sf3, sf4, .int 1, .int 0])), (sb, .inr (10, [sb0, sb1, sb2, sb3, sb4, .int 1, .int 0]))]) hP hD [] [0, 1, 2] rfl rfl (by decide) (by decide) hk1 hFc
    generalize H1 = H at hP hS ⊢
    refine W.widen (k := 1) (n := 6) (Nat.le_of_ble_eq_true rfl) (Nat.le_of_ble_eq_true rfl) ?_
    have t_3 : ¬ (p0.toInt < 0 ∨ 7 < p0.toInt) := hw
    refine lv_aload_n hx hb dX5_setInk_4 rfl (lv_at hl 0 rfl) ?_
    refine lv_iload_n hx hb dX5_setInk_5 rfl (lv_at hl 1 rfl) ?_
    have hPc := hP.sub (ws' := [(h0, .inr (11, [g0, g1, g2, g3, g4, g5, .ref sf, .ref sb, g8, g9, g10, g11, g12]))]) [0] rfl
    have hDc := hD.sub (ws' := [(h0, .inr (11, [g0, g1, g2, g3, g4, g5, .ref sf, .ref sb, g8, g9, g10, g11, g12]))]) [0] (by decide) rfl
    have hKc := hK.sub (tys' := []) [] rfl
    have hFc := va_free (wc := [(h0, .inr (11, [g0, g1, g2, g3, g4, g5, .ref sf, .ref sb, g8, g9, g10, g11, g12]))]) hD hS hA [0] rfl
    refine va_callr (va_runV (As := [.int 1]) (rest := []) ⟨hx, hb, hml, hown, hts⟩ (c_X5_sideOf_1 l em dC dI h0 sf sb g0 g1 g2 g3 g4 g5 g8 g9 g10 g11 g12 H.size) (cwV 1 hts gX5_setInk_X5_sideOf rfl rfl rfl (by decide +kernel) ⟨Nat.le_of_ble_eq_true rfl, Nat.le_of_ble_eq_true rfl⟩) ⟨Pw.blind _ _ _ _ _ _ _, va_recv hKc hPc (ci := 11) (q0 := 0) rfl rfl, fun U hU hW => ⟨rfl, Pw.go hPc hKc hDc hamb hS hFc hU hW⟩⟩ rfl rfl hl.1 rfl (lv_room (Nat.le_of_ble_eq_true rfl)) dX5_setInk_6 ⟨Nat.le_of_ble_eq_true rfl, Nat.le_of_ble_eq_true rfl⟩) hS (fun q _ h => hFc q h) hFc (fun u ra t H1 locs1 ht hvm hw hB hz1 hk1 hS => ?_)
    obtain ⟨hra, hB⟩ := hB
    rw [hra]
    obtain ⟨hP1, hK1, hD1⟩ := hB
    rw [ht] at hP1
    have hK1 := va_K.moved hvm.symm hK1
    obtain ⟨hP, hD⟩ := va_join (wr := [(sf, .inr (10, [sf0, sf1, sf2, sf3, sf4, .int 1, .int 0])), (sb, .inr (10, [sb0, sb1, sb2, sb3, sb4, .int 1, .int 0]))]) (w1 := [(h0, .inr (11, [g0, g1, g2, g3, g4, g5, .ref sf, .ref sb, g8, g9, g10, g11, g12]))]) hP hD [0] [1, 2] rfl rfl (by decide) (by decide) hk1 hFc hP1 hD1
    have hK := (hK.sub (tys' := []) [] rfl).app hK1
    generalize H1 = H at hP hS ⊢
    have hP : va_P (dC, dI) vwCl [(sf, .inr (10, [sf0, sf1, sf2, sf3, sf4, .int 1, .int 0])), (sb, .inr (10, [sb0, sb1, sb2, sb3, sb4, .int 1, .int 0])), (h0, .inr (11, [g0, g1, g2, g3, g4, g5, .ref sf, .ref sb, g8, g9, g10, g11, g12]))] H := hP
    have hD : va_D A [(sf, .inr (10, [sf0, sf1, sf2, sf3, sf4, .int 1, .int 0])), (sb, .inr (10, [sb0, sb1, sb2, sb3, sb4, .int 1, .int 0])), (h0, .inr (11, [g0, g1, g2, g3, g4, g5, .ref sf, .ref sb, g8, g9, g10, g11, g12]))] := hD
    have hK : va_K (dC, dI) vwCl [] s := hK
    refine W.widen (k := 1) (n := 6) (Nat.le_of_ble_eq_true rfl) (Nat.le_of_ble_eq_true rfl) ?_
    refine lv_astore_n (lv' := [(3, .ref sb), (0, .ref h0), (1, .int 1), (2, .int p0)]) hx hb dX5_setInk_9 rfl hl (by decide) rfl (fun ls hl => ?_)
    refine lv_aload_n hx hb dX5_setInk_10 rfl (lv_at hl 0 rfl) ?_
    refine va_getN (D := (dC, dI)) (ci := 10) (v := .int 1) (C := RX4) (T := TX4) (N := 7) hx hb hts (by decide +kernel) hown hK hP 1 rfl rfl 5 (by decide) (hamb.use (w := .fieldLinkNest RX5 180 "Bothfaces$Side" "ink" "I" RX5) (by decide +kernel)) (fun _ h9 => h9) rfl dX5_setInk_11 ?_
    refine lv_istore (lv' := [(4, .int 1), (3, .ref sb), (0, .ref h0), (1, .int 1), (2, .int p0)]) hx hb dX5_setInk_14 hl (by decide) rfl (fun ls hl => ?_)
    refine lv_aload_n hx hb dX5_setInk_16 rfl (lv_at hl 1 rfl) ?_
    refine lv_iload_n hx hb dX5_setInk_17 rfl (lv_at hl 4 rfl) ?_
    refine va_putN (D := (dC, dI)) (ci := 10) (v := .int p0) (ty := .int) (C := RX4) (T := TX4) (N := 7) hx hb hts (by decide +kernel) tyX4 tyX4_ok nmX4 hown hK hP hD hS 1 rfl rfl 5 (by decide) (hamb.use (w := .fieldLinkNest RX5 180 "Bothfaces$Side" "ink" "I" RX5) (by decide +kernel)) (fun _ h9 => h9) rfl (by decide +kernel) rfl rfl (Nat.le_of_ble_eq_true rfl) dX5_setInk_18 (fun H locs hP hD hS => ?_)
    have hP : va_P (dC, dI) vwCl [(sf, .inr (10, [sf0, sf1, sf2, sf3, sf4, .int 1, .int 0])), (sb, .inr (10, [sb0, sb1, sb2, sb3, sb4, .int p0, .int 0])), (h0, .inr (11, [g0, g1, g2, g3, g4, g5, .ref sf, .ref sb, g8, g9, g10, g11, g12]))] H := hP
    have hD : va_D A [(sf, .inr (10, [sf0, sf1, sf2, sf3, sf4, .int 1, .int 0])), (sb, .inr (10, [sb0, sb1, sb2, sb3, sb4, .int p0, .int 0])), (h0, .inr (11, [g0, g1, g2, g3, g4, g5, .ref sf, .ref sb, g8, g9, g10, g11, g12]))] := hD
    refine lv_iload hx hb dX5_setInk_21 (lv_at hl 0 rfl) ?_
    refine W.widen (k := 1) (n := 6) (Nat.le_of_ble_eq_true rfl) (Nat.le_of_ble_eq_true rfl) ?_
    refine vx_ret ?_
    exact W.iret (v := 1) hx hb hr (fun t ht hW => ⟨⟨1, (), rfl, ⟨(by omega), rfl⟩, trivial⟩, hS.F ht⟩) hS.2.2 dX5_setInk_23

set_option maxHeartbeats 4000000 in
set_option maxRecDepth 100000 in
theorem c_X5_setGround_1 (l : Launch) (hlt : l.stackTraces = false) (em : Nat → Nat) (dC : Nat → ClassId) (dI : Nat → Nat → Nat) (h0 : Nat) (sf : Nat) (sb : Nat) (p0 : Int32) (g0 : Value) (g1 : Value) (g2 : Value) (g3 : Value) (g4 : Value) (g5 : Value) (g8 : Value) (g9 : Value) (g10 : Value) (g11 : Value) (g12 : Value) (sf0 : Value) (sf1 : Value) (sf2 : Value) (sf3 : Value) (sf4 : Value) (sb0 : Value) (sb1 : Value) (sb2 : Value) (sb3 : Value) (sb4 : Value) (sz : Nat) : vx_Met l yX5_setGround wsX5_setGround ({ frames := 7, cells := 1, slots := 6, locals := 102 }) (va_Pc [.ref h0, .int 1, .int p0] (Pw em dC dI sz [(h0, .inr (11, [g0, g1, g2, g3, g4, g5, .ref sf, .ref sb, g8, g9, g10, g11, g12])), (sf, .inr (10, [sf0, sf1, sf2, sf3, sf4, .int 1, .int 0])), (sb, .inr (10, [sb0, sb1, sb2, sb3, sb4, .int 1, .int 0]))] [])) (va_Qi (fun (r : Int32) (_ : Unit) => ¬ (p0.toInt < 0 ∨ 7 < p0.toInt) ∧ r = 0) (fun _ t => True) (va_A [(h0, .inr (11, [g0, g1, g2, g3, g4, g5, .ref sf, .ref sb, g8, g9, g10, g11, g12])), (sf, .inr (10, [sf0, sf1, sf2, sf3, sf4, .int 1, .int 0])), (sb, .inr (10, [sb0, sb1, sb2, sb3, sb4, .int 1, .int 0]))] sz)) (vx_X (fun _ : Unit => True) (fun E _ _ => (E = "java/lang/IllegalArgumentException" ∧ (p0.toInt < 0 ∨ 7 < p0.toInt))) (va_A [(h0, .inr (11, [g0, g1, g2, g3, g4, g5, .ref sf, .ref sb, g8, g9, g10, g11, g12])), (sf, .inr (10, [sf0, sf1, sf2, sf3, sf4, .int 1, .int 0])), (sb, .inr (10, [sb0, sb1, sb2, sb3, sb4, .int 1, .int 0]))] sz)) 1 6 (va_A [(h0, .inr (11, [g0, g1, g2, g3, g4, g5, .ref sf, .ref sb, g8, g9, g10, g11, g12])), (sf, .inr (10, [sf0, sf1, sf2, sf3, sf4, .int 1, .int 0])), (sb, .inr (10, [sb0, sb1, sb2, sb3, sb4, .int 1, .int 0]))] sz) := by
  refine vx_ofW (cc := cX5_setGround) (maxL := 5) (ret := (some .int)) (by decide) rfl ?_
  intro p e s m args below meth c s₁ B hml htab hv
  obtain ⟨rfl, hsz, hP, hK, hD0, hamb⟩ := hv
  have hx := B.exec
  have hb := B.bytes
  have hr := B.returns
  have hts := atoms_spec (ws := wsX5_setGround) B.pre
  have hown : s.vm.findClass RX5 = some m.cls := findClass_of_methodNamed B.named
  have hlocks := B.notSynchronized
  subst hsz
  have hD := hD0.self (sz := s.heap.size)
  generalize hAe : va_A [(h0, .inr (11, [g0, g1, g2, g3, g4, g5, .ref sf, .ref sb, g8, g9, g10, g11, g12])), (sf, .inr (10, [sf0, sf1, sf2, sf3, sf4, .int 1, .int 0])), (sb, .inr (10, [sb0, sb1, sb2, sb3, sb4, .int 1, .int 0]))] s.heap.size = A at hD hamb ⊢
  have hA : ∀ q : Nat, s.heap.size ≤ q → A q := fun q h => by rw [← hAe]; exact Or.inr h
  have hS : va_S A s.heap s.heap [] := va_S.rf
  have hP : va_P (dC, dI) vwCl [(h0, .inr (11, [g0, g1, g2, g3, g4, g5, .ref sf, .ref sb, g8, g9, g10, g11, g12])), (sf, .inr (10, [sf0, sf1, sf2, sf3, sf4, .int 1, .int 0])), (sb, .inr (10, [sb0, sb1, sb2, sb3, sb4, .int 1, .int 0]))] s.heap := hP
  have hl := lv_entry ([.ref h0, .int 1, .int p0]) (n := 5) (Nat.le_of_ble_eq_true rfl)
  rw [lg_entry_eq]
  generalize (lg_sl ([.ref h0, .int 1, .int p0]) ++ List.replicate (5 - (lg_sl ([.ref h0, .int 1, .int p0])).length) Slot.unset).toArray = ls at hl ⊢
  have hl : lv_has ls 5 [(0, .ref h0), (1, .int 1), (2, .int p0)] := hl
  refine lv_iload_n hx hb dX5_setGround_0 rfl (lv_at hl 2 rfl) ?_
  have hPc := hP.sub (ws' := []) [] rfl
  have hDc := hD.sub (ws' := []) [] (by decide) rfl
  have hKc := hK.sub (tys' := []) [] rfl
  have hFc := va_free (wc := []) hD hS hA [] rfl
  refine vx_callv (vx_runS (As := [.int p0]) (rest := []) ⟨hx, hb, hml, hown, hts⟩ (c_X5_needColour l hlt em dC dI p0 s.heap.size) (va_cwS 1 hts gX5_setGround_X5_needColour rfl rfl rfl (by decide +kernel) ⟨Nat.le_of_ble_eq_true rfl, Nat.le_of_ble_eq_true rfl⟩) ⟨Pw.blind _ _ _ _ _ _ _, fun U hU hW => ⟨rfl, Pw.go hPc hKc hDc hamb hS hFc hU hW⟩⟩ rfl rfl hl.1 rfl (lv_room (Nat.le_of_ble_eq_true rfl)) dX5_setGround_1 ⟨Nat.le_of_ble_eq_true rfl, Nat.le_of_ble_eq_true rfl⟩) hS (fun q _ h => hFc q h) hFc (fun q _ h => hFc q h) (fun E ce q9 ux tx H1 locs1 htx hvm hpx hBX hz1 hk1 hS hce hcv hcl => ?_) (fun u t H1 locs1 ht hvm hw hB hz1 hk1 hS => ?_)
  · obtain ⟨rfl, t_2⟩ := hBX
    exact vx_out (fun x hxx => (htab x hxx).elim) hlocks hce hcv hcl (fun t ht2 ha => ⟨(), trivial, (⟨rfl, by omega⟩), hS.F ht2⟩) hS.2.2 (Nat.le_of_ble_eq_true rfl) (Nat.le_of_ble_eq_true rfl)
  · obtain ⟨hP, hD⟩ := va_rest (wr := [(h0, .inr (11, [g0, g1, g2, g3, g4, g5, .ref sf, .ref sb, g8, g9, g10, g11, g12])), (sf, .inr (10, [sf0, sf1, sf2, sf3, sf4, .int 1, .int 0])), (sb, .inr (10, [sb0, sb1, sb2, sb3, sb4, .int 1, .int 0]))]) hP hD [] [0, 1, 2] rfl rfl (by decide) (by decide) hk1 hFc
    generalize H1 = H at hP hS ⊢
    refine W.widen (k := 1) (n := 6) (Nat.le_of_ble_eq_true rfl) (Nat.le_of_ble_eq_true rfl) ?_
    have t_3 : ¬ (p0.toInt < 0 ∨ 7 < p0.toInt) := hw
    refine lv_aload_n hx hb dX5_setGround_4 rfl (lv_at hl 0 rfl) ?_
    refine lv_iload_n hx hb dX5_setGround_5 rfl (lv_at hl 1 rfl) ?_
    have hPc := hP.sub (ws' := [(h0, .inr (11, [g0, g1, g2, g3, g4, g5, .ref sf, .ref sb, g8, g9, g10, g11, g12]))]) [0] rfl
    have hDc := hD.sub (ws' := [(h0, .inr (11, [g0, g1, g2, g3, g4, g5, .ref sf, .ref sb, g8, g9, g10, g11, g12]))]) [0] (by decide) rfl
    have hKc := hK.sub (tys' := []) [] rfl
    have hFc := va_free (wc := [(h0, .inr (11, [g0, g1, g2, g3, g4, g5, .ref sf, .ref sb, g8, g9, g10, g11, g12]))]) hD hS hA [0] rfl
    refine va_callr (va_runV (As := [.int 1]) (rest := []) ⟨hx, hb, hml, hown, hts⟩ (c_X5_sideOf_1 l em dC dI h0 sf sb g0 g1 g2 g3 g4 g5 g8 g9 g10 g11 g12 H.size) (cwV 1 hts gX5_setGround_X5_sideOf rfl rfl rfl (by decide +kernel) ⟨Nat.le_of_ble_eq_true rfl, Nat.le_of_ble_eq_true rfl⟩) ⟨Pw.blind _ _ _ _ _ _ _, va_recv hKc hPc (ci := 11) (q0 := 0) rfl rfl, fun U hU hW => ⟨rfl, Pw.go hPc hKc hDc hamb hS hFc hU hW⟩⟩ rfl rfl hl.1 rfl (lv_room (Nat.le_of_ble_eq_true rfl)) dX5_setGround_6 ⟨Nat.le_of_ble_eq_true rfl, Nat.le_of_ble_eq_true rfl⟩) hS (fun q _ h => hFc q h) hFc (fun u ra t H1 locs1 ht hvm hw hB hz1 hk1 hS => ?_)
    obtain ⟨hra, hB⟩ := hB
    rw [hra]
    obtain ⟨hP1, hK1, hD1⟩ := hB
    rw [ht] at hP1
    have hK1 := va_K.moved hvm.symm hK1
    obtain ⟨hP, hD⟩ := va_join (wr := [(sf, .inr (10, [sf0, sf1, sf2, sf3, sf4, .int 1, .int 0])), (sb, .inr (10, [sb0, sb1, sb2, sb3, sb4, .int 1, .int 0]))]) (w1 := [(h0, .inr (11, [g0, g1, g2, g3, g4, g5, .ref sf, .ref sb, g8, g9, g10, g11, g12]))]) hP hD [0] [1, 2] rfl rfl (by decide) (by decide) hk1 hFc hP1 hD1
    have hK := (hK.sub (tys' := []) [] rfl).app hK1
    generalize H1 = H at hP hS ⊢
    have hP : va_P (dC, dI) vwCl [(sf, .inr (10, [sf0, sf1, sf2, sf3, sf4, .int 1, .int 0])), (sb, .inr (10, [sb0, sb1, sb2, sb3, sb4, .int 1, .int 0])), (h0, .inr (11, [g0, g1, g2, g3, g4, g5, .ref sf, .ref sb, g8, g9, g10, g11, g12]))] H := hP
    have hD : va_D A [(sf, .inr (10, [sf0, sf1, sf2, sf3, sf4, .int 1, .int 0])), (sb, .inr (10, [sb0, sb1, sb2, sb3, sb4, .int 1, .int 0])), (h0, .inr (11, [g0, g1, g2, g3, g4, g5, .ref sf, .ref sb, g8, g9, g10, g11, g12]))] := hD
    have hK : va_K (dC, dI) vwCl [] s := hK
    refine W.widen (k := 1) (n := 6) (Nat.le_of_ble_eq_true rfl) (Nat.le_of_ble_eq_true rfl) ?_
    refine lv_astore_n (lv' := [(3, .ref sb), (0, .ref h0), (1, .int 1), (2, .int p0)]) hx hb dX5_setGround_9 rfl hl (by decide) rfl (fun ls hl => ?_)
    refine lv_aload_n hx hb dX5_setGround_10 rfl (lv_at hl 0 rfl) ?_
    refine va_getN (D := (dC, dI)) (ci := 10) (v := .int 0) (C := RX4) (T := TX4) (N := 7) hx hb hts (by decide +kernel) hown hK hP 1 rfl rfl 6 (by decide) (hamb.use (w := .fieldLinkNest RX5 183 "Bothfaces$Side" "ground" "I" RX5) (by decide +kernel)) (fun _ h9 => h9) rfl dX5_setGround_11 ?_
    refine lv_istore (lv' := [(4, .int 0), (3, .ref sb), (0, .ref h0), (1, .int 1), (2, .int p0)]) hx hb dX5_setGround_14 hl (by decide) rfl (fun ls hl => ?_)
    refine lv_aload_n hx hb dX5_setGround_16 rfl (lv_at hl 1 rfl) ?_
    refine lv_iload_n hx hb dX5_setGround_17 rfl (lv_at hl 4 rfl) ?_
    refine va_putN (D := (dC, dI)) (ci := 10) (v := .int p0) (ty := .int) (C := RX4) (T := TX4) (N := 7) hx hb hts (by decide +kernel) tyX4 tyX4_ok nmX4 hown hK hP hD hS 1 rfl rfl 6 (by decide) (hamb.use (w := .fieldLinkNest RX5 183 "Bothfaces$Side" "ground" "I" RX5) (by decide +kernel)) (fun _ h9 => h9) rfl (by decide +kernel) rfl rfl (Nat.le_of_ble_eq_true rfl) dX5_setGround_18 (fun H locs hP hD hS => ?_)
    have hP : va_P (dC, dI) vwCl [(sf, .inr (10, [sf0, sf1, sf2, sf3, sf4, .int 1, .int 0])), (sb, .inr (10, [sb0, sb1, sb2, sb3, sb4, .int 1, .int p0])), (h0, .inr (11, [g0, g1, g2, g3, g4, g5, .ref sf, .ref sb, g8, g9, g10, g11, g12]))] H := hP
    have hD : va_D A [(sf, .inr (10, [sf0, sf1, sf2, sf3, sf4, .int 1, .int 0])), (sb, .inr (10, [sb0, sb1, sb2, sb3, sb4, .int 1, .int p0])), (h0, .inr (11, [g0, g1, g2, g3, g4, g5, .ref sf, .ref sb, g8, g9, g10, g11, g12]))] := hD
    refine lv_iload hx hb dX5_setGround_21 (lv_at hl 0 rfl) ?_
    refine W.widen (k := 1) (n := 6) (Nat.le_of_ble_eq_true rfl) (Nat.le_of_ble_eq_true rfl) ?_
    refine vx_ret ?_
    exact W.iret (v := 0) hx hb hr (fun t ht hW => ⟨⟨0, (), rfl, ⟨(by omega), rfl⟩, trivial⟩, hS.F ht⟩) hS.2.2 dX5_setGround_23

set_option maxHeartbeats 4000000 in
set_option maxRecDepth 100000 in
theorem c_X1_threadWith_0 (l : Launch) (em : Nat → Nat) (dC : Nat → ClassId) (dI : Nat → Nat → Nat) (c0 : Nat) (th : Nat) (u1 : Value) (u2 : Value) (u4 : Value) (u5 : Value) (u6 : Value) (cH : ClassId) (p0 : Int32) (p1 : Int32) (p2 : Int32) (p3 : Int32) (sz : Nat) : Met l yX1_threadWith wsX1_threadWith ({ frames := 0, cells := 0, slots := 0, locals := 0 }) (va_Pc [.ref c0, .int p0, .int p1, .int p2, .int p3, .int 0] (Pw em dC dI sz [(c0, .inr (7, [.ref th, u1, u2, .int 0, u4, u5, u6])), (th, .inl (cH, 4, .inl (fun _ => 0)))] [(cH, .int)])) (va_Qv (fun _ : Unit => True) (fun _ t => True) (va_A [(c0, .inr (7, [.ref th, u1, u2, .int 0, u4, u5, u6])), (th, .inl (cH, 4, .inl (fun _ => 0)))] sz)) 0 0 (va_A [(c0, .inr (7, [.ref th, u1, u2, .int 0, u4, u5, u6])), (th, .inl (cH, 4, .inl (fun _ => 0)))] sz) := by
  refine Met.ofW (cc := cX1_threadWith) (maxL := 6) (ret := none) (by decide) rfl ?_
  intro p e s m args below meth c s₁ B hml hv
  obtain ⟨rfl, hsz, hP, hK, hD0, hamb⟩ := hv
  have hx := B.exec
  have hb := B.bytes
  have hr := B.returns
  have hts := atoms_spec (ws := wsX1_threadWith) B.pre
  have hown : s.vm.findClass RX1 = some m.cls := findClass_of_methodNamed B.named
  have hlocks := B.notSynchronized
  subst hsz
  have hD := hD0.self (sz := s.heap.size)
  generalize hAe : va_A [(c0, .inr (7, [.ref th, u1, u2, .int 0, u4, u5, u6])), (th, .inl (cH, 4, .inl (fun _ => 0)))] s.heap.size = A at hD hamb ⊢
  have hA : ∀ q : Nat, s.heap.size ≤ q → A q := fun q h => by rw [← hAe]; exact Or.inr h
  have hS : va_S A s.heap s.heap [] := va_S.rf
  have hP : va_P (dC, dI) vwCl [(c0, .inr (7, [.ref th, u1, u2, .int 0, u4, u5, u6])), (th, .inl (cH, 4, .inl (fun _ => 0)))] s.heap := hP
  have hl := lv_entry ([.ref c0, .int p0, .int p1, .int p2, .int p3, .int 0]) (n := 6) (Nat.le_of_ble_eq_true rfl)
  rw [lg_entry_eq]
  generalize (lg_sl ([.ref c0, .int p0, .int p1, .int p2, .int p3, .int 0]) ++ List.replicate (6 - (lg_sl ([.ref c0, .int p0, .int p1, .int p2, .int p3, .int 0])).length) Slot.unset).toArray = ls at hl ⊢
  have hl : lv_has ls 6 [(0, .ref c0), (1, .int p0), (2, .int p1), (3, .int p2), (4, .int p3), (5, .int 0)] := hl
  refine lv_aload_n hx hb dX1_threadWith_0 rfl (lv_at hl 0 rfl) ?_
  refine va_get (D := (dC, dI)) (ci := 7) (v := .ref th) (C := RX1) (T := TX1) (N := 7) hx hb hts (by decide +kernel) hown hK hP 0 rfl rfl 0 (by decide) (hts (.fieldLink RX1 9 "Bothfaces$Card" "threads" "[I") (by decide +kernel)) (fun _ h9 => h9) rfl dX1_threadWith_1 ?_
  refine lv_iconst (v := 0) hx hb dX1_threadWith_4 (by decide) ?_
  refine lv_iload_n hx hb dX1_threadWith_5 rfl (lv_at hl 1 rfl) ?_
  refine va_iast hx hb hK hP hD hS 1 0 rfl rfl (vp_in_iff.mpr ⟨by decide, by decide⟩) dX1_threadWith_6 (fun H locs hP hD hS => ?_)
  have hP : va_P (dC, dI) vwCl [(c0, .inr (7, [.ref th, u1, u2, .int 0, u4, u5, u6])), (th, .inl (cH, 4, .inl (upd (fun _ => 0) 0 p0)))] H := hP
  have hD : va_D A [(c0, .inr (7, [.ref th, u1, u2, .int 0, u4, u5, u6])), (th, .inl (cH, 4, .inl (upd (fun _ => 0) 0 p0)))] := hD
  refine lv_aload_n hx hb dX1_threadWith_7 rfl (lv_at hl 0 rfl) ?_
  refine va_get (D := (dC, dI)) (ci := 7) (v := .ref th) (C := RX1) (T := TX1) (N := 7) hx hb hts (by decide +kernel) hown hK hP 0 rfl rfl 0 (by decide) (hts (.fieldLink RX1 9 "Bothfaces$Card" "threads" "[I") (by decide +kernel)) (fun _ h9 => h9) rfl dX1_threadWith_8 ?_
  refine lv_iconst (v := 1) hx hb dX1_threadWith_11 (by decide) ?_
  refine lv_iload_n hx hb dX1_threadWith_12 rfl (lv_at hl 2 rfl) ?_
  refine va_iast hx hb hK hP hD hS 1 0 rfl rfl (vp_in_iff.mpr ⟨by decide, by decide⟩) dX1_threadWith_13 (fun H locs hP hD hS => ?_)
  have hP : va_P (dC, dI) vwCl [(c0, .inr (7, [.ref th, u1, u2, .int 0, u4, u5, u6])), (th, .inl (cH, 4, .inl (upd (upd (fun _ => 0) 0 p0) 1 p1)))] H := hP
  have hD : va_D A [(c0, .inr (7, [.ref th, u1, u2, .int 0, u4, u5, u6])), (th, .inl (cH, 4, .inl (upd (upd (fun _ => 0) 0 p0) 1 p1)))] := hD
  refine lv_aload_n hx hb dX1_threadWith_14 rfl (lv_at hl 0 rfl) ?_
  refine va_get (D := (dC, dI)) (ci := 7) (v := .ref th) (C := RX1) (T := TX1) (N := 7) hx hb hts (by decide +kernel) hown hK hP 0 rfl rfl 0 (by decide) (hts (.fieldLink RX1 9 "Bothfaces$Card" "threads" "[I") (by decide +kernel)) (fun _ h9 => h9) rfl dX1_threadWith_15 ?_
  refine lv_iconst (v := 2) hx hb dX1_threadWith_18 (by decide) ?_
  refine lv_iload_n hx hb dX1_threadWith_19 rfl (lv_at hl 3 rfl) ?_
  refine va_iast hx hb hK hP hD hS 1 0 rfl rfl (vp_in_iff.mpr ⟨by decide, by decide⟩) dX1_threadWith_20 (fun H locs hP hD hS => ?_)
  have hP : va_P (dC, dI) vwCl [(c0, .inr (7, [.ref th, u1, u2, .int 0, u4, u5, u6])), (th, .inl (cH, 4, .inl (upd (upd (upd (fun _ => 0) 0 p0) 1 p1) 2 p2)))] H := hP
  have hD : va_D A [(c0, .inr (7, [.ref th, u1, u2, .int 0, u4, u5, u6])), (th, .inl (cH, 4, .inl (upd (upd (upd (fun _ => 0) 0 p0) 1 p1) 2 p2)))] := hD
  refine lv_aload_n hx hb dX1_threadWith_21 rfl (lv_at hl 0 rfl) ?_
  refine va_get (D := (dC, dI)) (ci := 7) (v := .ref th) (C := RX1) (T := TX1) (N := 7) hx hb hts (by decide +kernel) hown hK hP 0 rfl rfl 0 (by decide) (hts (.fieldLink RX1 9 "Bothfaces$Card" "threads" "[I") (by decide +kernel)) (fun _ h9 => h9) rfl dX1_threadWith_22 ?_
  refine lv_iconst (v := 3) hx hb dX1_threadWith_25 (by decide) ?_
  refine lv_iload hx hb dX1_threadWith_26 (lv_at hl 4 rfl) ?_
  refine va_iast hx hb hK hP hD hS 1 0 rfl rfl (vp_in_iff.mpr ⟨by decide, by decide⟩) dX1_threadWith_28 (fun H locs hP hD hS => ?_)
  have hP : va_P (dC, dI) vwCl [(c0, .inr (7, [.ref th, u1, u2, .int 0, u4, u5, u6])), (th, .inl (cH, 4, .inl (upd (upd (upd (upd (fun _ => 0) 0 p0) 1 p1) 2 p2) 3 p3)))] H := hP
  have hD : va_D A [(c0, .inr (7, [.ref th, u1, u2, .int 0, u4, u5, u6])), (th, .inl (cH, 4, .inl (upd (upd (upd (upd (fun _ => 0) 0 p0) 1 p1) 2 p2) 3 p3)))] := hD
  refine lv_aload_n hx hb dX1_threadWith_29 rfl (lv_at hl 0 rfl) ?_
  refine lv_iload hx hb dX1_threadWith_30 (lv_at hl 5 rfl) ?_
  refine va_put (D := (dC, dI)) (ci := 7) (v := .int 0) (ty := .boolean) (C := RX1) (T := TX1) (N := 7) hx hb hts (by decide +kernel) tyX1 tyX1_ok nmX1 hown hK hP hD hS 0 rfl rfl 3 (by decide) (hts (.fieldLink RX1 21 "Bothfaces$Card" "isS" "Z") (by decide +kernel)) (fun _ h9 => h9) rfl (by decide +kernel) rfl rfl (Nat.le_of_ble_eq_true rfl) dX1_threadWith_32 (fun H locs hP hD hS => ?_)
  have hP : va_P (dC, dI) vwCl [(c0, .inr (7, [.ref th, u1, u2, .int 0, u4, u5, u6])), (th, .inl (cH, 4, .inl (upd (upd (upd (upd (fun _ => 0) 0 p0) 1 p1) 2 p2) 3 p3)))] H := hP
  have hD : va_D A [(c0, .inr (7, [.ref th, u1, u2, .int 0, u4, u5, u6])), (th, .inl (cH, 4, .inl (upd (upd (upd (upd (fun _ => 0) 0 p0) 1 p1) 2 p2) 3 p3)))] := hD
  refine W.widen (k := 0) (n := 0) (Nat.le_of_ble_eq_true rfl) (Nat.le_of_ble_eq_true rfl) ?_
  exact W.vret hx hb hr (fun t ht hW => ⟨⟨(), rfl, trivial, trivial⟩, hS.F ht⟩) hS.2.2 dX1_threadWith_35

set_option maxHeartbeats 4000000 in
set_option maxRecDepth 100000 in
theorem c_X1_threadWith_1 (l : Launch) (em : Nat → Nat) (dC : Nat → ClassId) (dI : Nat → Nat → Nat) (c0 : Nat) (th : Nat) (u1 : Value) (u2 : Value) (u4 : Value) (u5 : Value) (u6 : Value) (cH : ClassId) (p0 : Int32) (p1 : Int32) (p2 : Int32) (p3 : Int32) (sz : Nat) : Met l yX1_threadWith wsX1_threadWith ({ frames := 0, cells := 0, slots := 0, locals := 0 }) (va_Pc [.ref c0, .int p0, .int p1, .int p2, .int p3, .int 1] (Pw em dC dI sz [(c0, .inr (7, [.ref th, u1, u2, .int 0, u4, u5, u6])), (th, .inl (cH, 4, .inl (fun _ => 0)))] [(cH, .int)])) (va_Qv (fun _ : Unit => True) (fun _ t => True) (va_A [(c0, .inr (7, [.ref th, u1, u2, .int 0, u4, u5, u6])), (th, .inl (cH, 4, .inl (fun _ => 0)))] sz)) 0 0 (va_A [(c0, .inr (7, [.ref th, u1, u2, .int 0, u4, u5, u6])), (th, .inl (cH, 4, .inl (fun _ => 0)))] sz) := by
  refine Met.ofW (cc := cX1_threadWith) (maxL := 6) (ret := none) (by decide) rfl ?_
  intro p e s m args below meth c s₁ B hml hv
  obtain ⟨rfl, hsz, hP, hK, hD0, hamb⟩ := hv
  have hx := B.exec
  have hb := B.bytes
  have hr := B.returns
  have hts := atoms_spec (ws := wsX1_threadWith) B.pre
  have hown : s.vm.findClass RX1 = some m.cls := findClass_of_methodNamed B.named
  have hlocks := B.notSynchronized
  subst hsz
  have hD := hD0.self (sz := s.heap.size)
  generalize hAe : va_A [(c0, .inr (7, [.ref th, u1, u2, .int 0, u4, u5, u6])), (th, .inl (cH, 4, .inl (fun _ => 0)))] s.heap.size = A at hD hamb ⊢
  have hA : ∀ q : Nat, s.heap.size ≤ q → A q := fun q h => by rw [← hAe]; exact Or.inr h
  have hS : va_S A s.heap s.heap [] := va_S.rf
  have hP : va_P (dC, dI) vwCl [(c0, .inr (7, [.ref th, u1, u2, .int 0, u4, u5, u6])), (th, .inl (cH, 4, .inl (fun _ => 0)))] s.heap := hP
  have hl := lv_entry ([.ref c0, .int p0, .int p1, .int p2, .int p3, .int 1]) (n := 6) (Nat.le_of_ble_eq_true rfl)
  rw [lg_entry_eq]
  generalize (lg_sl ([.ref c0, .int p0, .int p1, .int p2, .int p3, .int 1]) ++ List.replicate (6 - (lg_sl ([.ref c0, .int p0, .int p1, .int p2, .int p3, .int 1])).length) Slot.unset).toArray = ls at hl ⊢
  have hl : lv_has ls 6 [(0, .ref c0), (1, .int p0), (2, .int p1), (3, .int p2), (4, .int p3), (5, .int 1)] := hl
  refine lv_aload_n hx hb dX1_threadWith_0 rfl (lv_at hl 0 rfl) ?_
  refine va_get (D := (dC, dI)) (ci := 7) (v := .ref th) (C := RX1) (T := TX1) (N := 7) hx hb hts (by decide +kernel) hown hK hP 0 rfl rfl 0 (by decide) (hts (.fieldLink RX1 9 "Bothfaces$Card" "threads" "[I") (by decide +kernel)) (fun _ h9 => h9) rfl dX1_threadWith_1 ?_
  refine lv_iconst (v := 0) hx hb dX1_threadWith_4 (by decide) ?_
  refine lv_iload_n hx hb dX1_threadWith_5 rfl (lv_at hl 1 rfl) ?_
  refine va_iast hx hb hK hP hD hS 1 0 rfl rfl (vp_in_iff.mpr ⟨by decide, by decide⟩) dX1_threadWith_6 (fun H locs hP hD hS => ?_)
  have hP : va_P (dC, dI) vwCl [(c0, .inr (7, [.ref th, u1, u2, .int 0, u4, u5, u6])), (th, .inl (cH, 4, .inl (upd (fun _ => 0) 0 p0)))] H := hP
  have hD : va_D A [(c0, .inr (7, [.ref th, u1, u2, .int 0, u4, u5, u6])), (th, .inl (cH, 4, .inl (upd (fun _ => 0) 0 p0)))] := hD
  refine lv_aload_n hx hb dX1_threadWith_7 rfl (lv_at hl 0 rfl) ?_
  refine va_get (D := (dC, dI)) (ci := 7) (v := .ref th) (C := RX1) (T := TX1) (N := 7) hx hb hts (by decide +kernel) hown hK hP 0 rfl rfl 0 (by decide) (hts (.fieldLink RX1 9 "Bothfaces$Card" "threads" "[I") (by decide +kernel)) (fun _ h9 => h9) rfl dX1_threadWith_8 ?_
  refine lv_iconst (v := 1) hx hb dX1_threadWith_11 (by decide) ?_
  refine lv_iload_n hx hb dX1_threadWith_12 rfl (lv_at hl 2 rfl) ?_
  refine va_iast hx hb hK hP hD hS 1 0 rfl rfl (vp_in_iff.mpr ⟨by decide, by decide⟩) dX1_threadWith_13 (fun H locs hP hD hS => ?_)
  have hP : va_P (dC, dI) vwCl [(c0, .inr (7, [.ref th, u1, u2, .int 0, u4, u5, u6])), (th, .inl (cH, 4, .inl (upd (upd (fun _ => 0) 0 p0) 1 p1)))] H := hP
  have hD : va_D A [(c0, .inr (7, [.ref th, u1, u2, .int 0, u4, u5, u6])), (th, .inl (cH, 4, .inl (upd (upd (fun _ => 0) 0 p0) 1 p1)))] := hD
  refine lv_aload_n hx hb dX1_threadWith_14 rfl (lv_at hl 0 rfl) ?_
  refine va_get (D := (dC, dI)) (ci := 7) (v := .ref th) (C := RX1) (T := TX1) (N := 7) hx hb hts (by decide +kernel) hown hK hP 0 rfl rfl 0 (by decide) (hts (.fieldLink RX1 9 "Bothfaces$Card" "threads" "[I") (by decide +kernel)) (fun _ h9 => h9) rfl dX1_threadWith_15 ?_
  refine lv_iconst (v := 2) hx hb dX1_threadWith_18 (by decide) ?_
  refine lv_iload_n hx hb dX1_threadWith_19 rfl (lv_at hl 3 rfl) ?_
  refine va_iast hx hb hK hP hD hS 1 0 rfl rfl (vp_in_iff.mpr ⟨by decide, by decide⟩) dX1_threadWith_20 (fun H locs hP hD hS => ?_)
  have hP : va_P (dC, dI) vwCl [(c0, .inr (7, [.ref th, u1, u2, .int 0, u4, u5, u6])), (th, .inl (cH, 4, .inl (upd (upd (upd (fun _ => 0) 0 p0) 1 p1) 2 p2)))] H := hP
  have hD : va_D A [(c0, .inr (7, [.ref th, u1, u2, .int 0, u4, u5, u6])), (th, .inl (cH, 4, .inl (upd (upd (upd (fun _ => 0) 0 p0) 1 p1) 2 p2)))] := hD
  refine lv_aload_n hx hb dX1_threadWith_21 rfl (lv_at hl 0 rfl) ?_
  refine va_get (D := (dC, dI)) (ci := 7) (v := .ref th) (C := RX1) (T := TX1) (N := 7) hx hb hts (by decide +kernel) hown hK hP 0 rfl rfl 0 (by decide) (hts (.fieldLink RX1 9 "Bothfaces$Card" "threads" "[I") (by decide +kernel)) (fun _ h9 => h9) rfl dX1_threadWith_22 ?_
  refine lv_iconst (v := 3) hx hb dX1_threadWith_25 (by decide) ?_
  refine lv_iload hx hb dX1_threadWith_26 (lv_at hl 4 rfl) ?_
  refine va_iast hx hb hK hP hD hS 1 0 rfl rfl (vp_in_iff.mpr ⟨by decide, by decide⟩) dX1_threadWith_28 (fun H locs hP hD hS => ?_)
  have hP : va_P (dC, dI) vwCl [(c0, .inr (7, [.ref th, u1, u2, .int 0, u4, u5, u6])), (th, .inl (cH, 4, .inl (upd (upd (upd (upd (fun _ => 0) 0 p0) 1 p1) 2 p2) 3 p3)))] H := hP
  have hD : va_D A [(c0, .inr (7, [.ref th, u1, u2, .int 0, u4, u5, u6])), (th, .inl (cH, 4, .inl (upd (upd (upd (upd (fun _ => 0) 0 p0) 1 p1) 2 p2) 3 p3)))] := hD
  refine lv_aload_n hx hb dX1_threadWith_29 rfl (lv_at hl 0 rfl) ?_
  refine lv_iload hx hb dX1_threadWith_30 (lv_at hl 5 rfl) ?_
  refine va_put (D := (dC, dI)) (ci := 7) (v := .int 1) (ty := .boolean) (C := RX1) (T := TX1) (N := 7) hx hb hts (by decide +kernel) tyX1 tyX1_ok nmX1 hown hK hP hD hS 0 rfl rfl 3 (by decide) (hts (.fieldLink RX1 21 "Bothfaces$Card" "isS" "Z") (by decide +kernel)) (fun _ h9 => h9) rfl (by decide +kernel) rfl rfl (Nat.le_of_ble_eq_true rfl) dX1_threadWith_32 (fun H locs hP hD hS => ?_)
  have hP : va_P (dC, dI) vwCl [(c0, .inr (7, [.ref th, u1, u2, .int 1, u4, u5, u6])), (th, .inl (cH, 4, .inl (upd (upd (upd (upd (fun _ => 0) 0 p0) 1 p1) 2 p2) 3 p3)))] H := hP
  have hD : va_D A [(c0, .inr (7, [.ref th, u1, u2, .int 1, u4, u5, u6])), (th, .inl (cH, 4, .inl (upd (upd (upd (upd (fun _ => 0) 0 p0) 1 p1) 2 p2) 3 p3)))] := hD
  refine W.widen (k := 0) (n := 0) (Nat.le_of_ble_eq_true rfl) (Nat.le_of_ble_eq_true rfl) ?_
  exact W.vret hx hb hr (fun t ht hW => ⟨⟨(), rfl, trivial, trivial⟩, hS.F ht⟩) hS.2.2 dX1_threadWith_35

set_option maxHeartbeats 4000000 in
set_option maxRecDepth 100000 in
theorem c_X5_card (l : Launch) (hlt : l.stackTraces = false) (em : Nat → Nat) (dC : Nat → ClassId) (dI : Nat → Nat → Nat) (h0 : Nat) (ca : Nat) (cC : ClassId) (fC : Nat → Option Nat) (c0 : Nat) (th : Nat) (u1 : Value) (u2 : Value) (u4 : Value) (u5 : Value) (u6 : Value) (cH : ClassId) (p0 : Int32) (p1 : Int32) (p2 : Int32) (p3 : Int32) (p4 : Int32) (g3 : Value) (g4 : Value) (g5 : Value) (g6 : Value) (g7 : Value) (g8 : Value) (g9 : Value) (g10 : Value) (g11 : Value) (g12 : Value) (hC : fC 0 = some c0) (sz : Nat) : vx_Met l yX5_card wsX5_card ({ frames := 7, cells := 5, slots := 30, locals := 102 }) (va_Pc [.ref h0, .int p0, .int p1, .int p2, .int p3, .int p4] (Pw em dC dI sz [(h0, .inr (11, [.ref ca, .int 0, .int 0, g3, g4, g5, g6, g7, g8, g9, g10, g11, g12])), (ca, .inl (cC, 16, .inr (.inr (.inr (.inr fC))))), (c0, .inr (7, [.ref th, u1, u2, .int 0, u4, u5, u6])), (th, .inl (cH, 4, .inl (fun _ => 0)))] [(cC, (.object "Bothfaces$Card")), (cH, .int)])) (va_Qi (fun (r : Int32) (_ : Unit) => ¬ (p0.toInt < 0 ∨ 7 < p0.toInt ∨ p1.toInt < 0 ∨ 7 < p1.toInt ∨ p2.toInt < 0 ∨ 7 < p2.toInt ∨ p3.toInt < 0 ∨ 7 < p3.toInt ∨ (p4.toInt ≠ 115 ∧ p4.toInt ≠ 122)) ∧ r = 0) (fun _ t => True) (va_A [(h0, .inr (11, [.ref ca, .int 0, .int 0, g3, g4, g5, g6, g7, g8, g9, g10, g11, g12])), (ca, .inl (cC, 16, .inr (.inr (.inr (.inr fC))))), (c0, .inr (7, [.ref th, u1, u2, .int 0, u4, u5, u6])), (th, .inl (cH, 4, .inl (fun _ => 0)))] sz)) (vx_X (fun _ : Unit => True) (fun E _ _ => (E = "java/lang/IllegalArgumentException" ∧ (p0.toInt < 0 ∨ 7 < p0.toInt ∨ p1.toInt < 0 ∨ 7 < p1.toInt ∨ p2.toInt < 0 ∨ 7 < p2.toInt ∨ p3.toInt < 0 ∨ 7 < p3.toInt ∨ (p4.toInt ≠ 115 ∧ p4.toInt ≠ 122)))) (va_A [(h0, .inr (11, [.ref ca, .int 0, .int 0, g3, g4, g5, g6, g7, g8, g9, g10, g11, g12])), (ca, .inl (cC, 16, .inr (.inr (.inr (.inr fC))))), (c0, .inr (7, [.ref th, u1, u2, .int 0, u4, u5, u6])), (th, .inl (cH, 4, .inl (fun _ => 0)))] sz)) 5 30 (va_A [(h0, .inr (11, [.ref ca, .int 0, .int 0, g3, g4, g5, g6, g7, g8, g9, g10, g11, g12])), (ca, .inl (cC, 16, .inr (.inr (.inr (.inr fC))))), (c0, .inr (7, [.ref th, u1, u2, .int 0, u4, u5, u6])), (th, .inl (cH, 4, .inl (fun _ => 0)))] sz) := by
  refine vx_ofW (cc := cX5_card) (maxL := 6) (ret := (some .int)) (by decide) rfl ?_
  intro p e s m args below meth c s₁ B hml htab hv
  obtain ⟨rfl, hsz, hP, hK, hD0, hamb⟩ := hv
  have hx := B.exec
  have hb := B.bytes
  have hr := B.returns
  have hts := atoms_spec (ws := wsX5_card) B.pre
  have hown : s.vm.findClass RX5 = some m.cls := findClass_of_methodNamed B.named
  have hlocks := B.notSynchronized
  subst hsz
  have hD := hD0.self (sz := s.heap.size)
  generalize hAe : va_A [(h0, .inr (11, [.ref ca, .int 0, .int 0, g3, g4, g5, g6, g7, g8, g9, g10, g11, g12])), (ca, .inl (cC, 16, .inr (.inr (.inr (.inr fC))))), (c0, .inr (7, [.ref th, u1, u2, .int 0, u4, u5, u6])), (th, .inl (cH, 4, .inl (fun _ => 0)))] s.heap.size = A at hD hamb ⊢
  have hA : ∀ q : Nat, s.heap.size ≤ q → A q := fun q h => by rw [← hAe]; exact Or.inr h
  have hS : va_S A s.heap s.heap [] := va_S.rf
  have hP : va_P (dC, dI) vwCl [(h0, .inr (11, [.ref ca, .int 0, .int 0, g3, g4, g5, g6, g7, g8, g9, g10, g11, g12])), (ca, .inl (cC, 16, .inr (.inr (.inr (.inr fC))))), (c0, .inr (7, [.ref th, u1, u2, .int 0, u4, u5, u6])), (th, .inl (cH, 4, .inl (fun _ => 0)))] s.heap := hP
  have hl := lv_entry ([.ref h0, .int p0, .int p1, .int p2, .int p3, .int p4]) (n := 6) (Nat.le_of_ble_eq_true rfl)
  rw [lg_entry_eq]
  generalize (lg_sl ([.ref h0, .int p0, .int p1, .int p2, .int p3, .int p4]) ++ List.replicate (6 - (lg_sl ([.ref h0, .int p0, .int p1, .int p2, .int p3, .int p4])).length) Slot.unset).toArray = ls at hl ⊢
  have hl : lv_has ls 6 [(0, .ref h0), (1, .int p0), (2, .int p1), (3, .int p2), (4, .int p3), (5, .int p4)] := hl
  refine lv_iload_n hx hb dX5_card_0 rfl (lv_at hl 1 rfl) ?_
  have hPc := hP.sub (ws' := []) [] rfl
  have hDc := hD.sub (ws' := []) [] (by decide) rfl
  have hKc := hK.sub (tys' := []) [] rfl
  have hFc := va_free (wc := []) hD hS hA [] rfl
  refine vx_callv (vx_runS (As := [.int p0]) (rest := []) ⟨hx, hb, hml, hown, hts⟩ (c_X5_needColour l hlt em dC dI p0 s.heap.size) (va_cwS 1 hts gX5_card_X5_needColour rfl rfl rfl (by decide +kernel) ⟨Nat.le_of_ble_eq_true rfl, Nat.le_of_ble_eq_true rfl⟩) ⟨Pw.blind _ _ _ _ _ _ _, fun U hU hW => ⟨rfl, Pw.go hPc hKc hDc hamb hS hFc hU hW⟩⟩ rfl rfl hl.1 rfl (lv_room (Nat.le_of_ble_eq_true rfl)) dX5_card_1 ⟨Nat.le_of_ble_eq_true rfl, Nat.le_of_ble_eq_true rfl⟩) hS (fun q _ h => hFc q h) hFc (fun q _ h => hFc q h) (fun E ce q9 ux tx H1 locs1 htx hvm hpx hBX hz1 hk1 hS hce hcv hcl => ?_) (fun u t H1 locs1 ht hvm hw hB hz1 hk1 hS => ?_)
  · obtain ⟨rfl, t_2⟩ := hBX
    exact vx_out (fun x hxx => (htab x hxx).elim) hlocks hce hcv hcl (fun t ht2 ha => ⟨(), trivial, (⟨rfl, by omega⟩), hS.F ht2⟩) hS.2.2 (Nat.le_of_ble_eq_true rfl) (Nat.le_of_ble_eq_true rfl)
  · obtain ⟨hP, hD⟩ := va_rest (wr := [(h0, .inr (11, [.ref ca, .int 0, .int 0, g3, g4, g5, g6, g7, g8, g9, g10, g11, g12])), (ca, .inl (cC, 16, .inr (.inr (.inr (.inr fC))))), (c0, .inr (7, [.ref th, u1, u2, .int 0, u4, u5, u6])), (th, .inl (cH, 4, .inl (fun _ => 0)))]) hP hD [] [0, 1, 2, 3] rfl rfl (by decide) (by decide) hk1 hFc
    generalize H1 = H at hP hS ⊢
    refine W.widen (k := 1) (n := 6) (Nat.le_of_ble_eq_true rfl) (Nat.le_of_ble_eq_true rfl) ?_
    have t_3 : ¬ (p0.toInt < 0 ∨ 7 < p0.toInt) := hw
    refine lv_iload_n hx hb dX5_card_4 rfl (lv_at hl 2 rfl) ?_
    have hPc := hP.sub (ws' := []) [] rfl
    have hDc := hD.sub (ws' := []) [] (by decide) rfl
    have hKc := hK.sub (tys' := []) [] rfl
    have hFc := va_free (wc := []) hD hS hA [] rfl
    refine vx_callv (vx_runS (As := [.int p1]) (rest := []) ⟨hx, hb, hml, hown, hts⟩ (c_X5_needColour l hlt em dC dI p1 H.size) (va_cwS 1 hts gX5_card_X5_needColour rfl rfl rfl (by decide +kernel) ⟨Nat.le_of_ble_eq_true rfl, Nat.le_of_ble_eq_true rfl⟩) ⟨Pw.blind _ _ _ _ _ _ _, fun U hU hW => ⟨rfl, Pw.go hPc hKc hDc hamb hS hFc hU hW⟩⟩ rfl rfl hl.1 rfl (lv_room (Nat.le_of_ble_eq_true rfl)) dX5_card_5 ⟨Nat.le_of_ble_eq_true rfl, Nat.le_of_ble_eq_true rfl⟩) hS (fun q _ h => hFc q h) hFc (fun q _ h => hFc q h) (fun E ce q9 ux tx H1 locs1 htx hvm hpx hBX hz1 hk1 hS hce hcv hcl => ?_) (fun u t H1 locs1 ht hvm hw hB hz1 hk1 hS => ?_)
    · obtain ⟨rfl, t_5⟩ := hBX
      exact vx_out (fun x hxx => (htab x hxx).elim) hlocks hce hcv hcl (fun t ht2 ha => ⟨(), trivial, (⟨rfl, by omega⟩), hS.F ht2⟩) hS.2.2 (Nat.le_of_ble_eq_true rfl) (Nat.le_of_ble_eq_true rfl)
    · obtain ⟨hP, hD⟩ := va_rest (wr := [(h0, .inr (11, [.ref ca, .int 0, .int 0, g3, g4, g5, g6, g7, g8, g9, g10, g11, g12])), (ca, .inl (cC, 16, .inr (.inr (.inr (.inr fC))))), (c0, .inr (7, [.ref th, u1, u2, .int 0, u4, u5, u6])), (th, .inl (cH, 4, .inl (fun _ => 0)))]) hP hD [] [0, 1, 2, 3] rfl rfl (by decide) (by decide) hk1 hFc
      generalize H1 = H at hP hS ⊢
      refine W.widen (k := 2) (n := 12) (Nat.le_of_ble_eq_true rfl) (Nat.le_of_ble_eq_true rfl) ?_
      have t_6 : ¬ (p1.toInt < 0 ∨ 7 < p1.toInt) := hw
      refine lv_iload_n hx hb dX5_card_8 rfl (lv_at hl 3 rfl) ?_
      have hPc := hP.sub (ws' := []) [] rfl
      have hDc := hD.sub (ws' := []) [] (by decide) rfl
      have hKc := hK.sub (tys' := []) [] rfl
      have hFc := va_free (wc := []) hD hS hA [] rfl
      refine vx_callv (vx_runS (As := [.int p2]) (rest := []) ⟨hx, hb, hml, hown, hts⟩ (c_X5_needColour l hlt em dC dI p2 H.size) (va_cwS 1 hts gX5_card_X5_needColour rfl rfl rfl (by decide +kernel) ⟨Nat.le_of_ble_eq_true rfl, Nat.le_of_ble_eq_true rfl⟩) ⟨Pw.blind _ _ _ _ _ _ _, fun U hU hW => ⟨rfl, Pw.go hPc hKc hDc hamb hS hFc hU hW⟩⟩ rfl rfl hl.1 rfl (lv_room (Nat.le_of_ble_eq_true rfl)) dX5_card_9 ⟨Nat.le_of_ble_eq_true rfl, Nat.le_of_ble_eq_true rfl⟩) hS (fun q _ h => hFc q h) hFc (fun q _ h => hFc q h) (fun E ce q9 ux tx H1 locs1 htx hvm hpx hBX hz1 hk1 hS hce hcv hcl => ?_) (fun u t H1 locs1 ht hvm hw hB hz1 hk1 hS => ?_)
      · obtain ⟨rfl, t_8⟩ := hBX
        exact vx_out (fun x hxx => (htab x hxx).elim) hlocks hce hcv hcl (fun t ht2 ha => ⟨(), trivial, (⟨rfl, by omega⟩), hS.F ht2⟩) hS.2.2 (Nat.le_of_ble_eq_true rfl) (Nat.le_of_ble_eq_true rfl)
      · obtain ⟨hP, hD⟩ := va_rest (wr := [(h0, .inr (11, [.ref ca, .int 0, .int 0, g3, g4, g5, g6, g7, g8, g9, g10, g11, g12])), (ca, .inl (cC, 16, .inr (.inr (.inr (.inr fC))))), (c0, .inr (7, [.ref th, u1, u2, .int 0, u4, u5, u6])), (th, .inl (cH, 4, .inl (fun _ => 0)))]) hP hD [] [0, 1, 2, 3] rfl rfl (by decide) (by decide) hk1 hFc
        generalize H1 = H at hP hS ⊢
        refine W.widen (k := 3) (n := 18) (Nat.le_of_ble_eq_true rfl) (Nat.le_of_ble_eq_true rfl) ?_
        have t_9 : ¬ (p2.toInt < 0 ∨ 7 < p2.toInt) := hw
        refine lv_iload hx hb dX5_card_12 (lv_at hl 4 rfl) ?_
        have hPc := hP.sub (ws' := []) [] rfl
        have hDc := hD.sub (ws' := []) [] (by decide) rfl
        have hKc := hK.sub (tys' := []) [] rfl
        have hFc := va_free (wc := []) hD hS hA [] rfl
        refine vx_callv (vx_runS (As := [.int p3]) (rest := []) ⟨hx, hb, hml, hown, hts⟩ (c_X5_needColour l hlt em dC dI p3 H.size) (va_cwS 1 hts gX5_card_X5_needColour rfl rfl rfl (by decide +kernel) ⟨Nat.le_of_ble_eq_true rfl, Nat.le_of_ble_eq_true rfl⟩) ⟨Pw.blind _ _ _ _ _ _ _, fun U hU hW => ⟨rfl, Pw.go hPc hKc hDc hamb hS hFc hU hW⟩⟩ rfl rfl hl.1 rfl (lv_room (Nat.le_of_ble_eq_true rfl)) dX5_card_14 ⟨Nat.le_of_ble_eq_true rfl, Nat.le_of_ble_eq_true rfl⟩) hS (fun q _ h => hFc q h) hFc (fun q _ h => hFc q h) (fun E ce q9 ux tx H1 locs1 htx hvm hpx hBX hz1 hk1 hS hce hcv hcl => ?_) (fun u t H1 locs1 ht hvm hw hB hz1 hk1 hS => ?_)
        · obtain ⟨rfl, t_11⟩ := hBX
          exact vx_out (fun x hxx => (htab x hxx).elim) hlocks hce hcv hcl (fun t ht2 ha => ⟨(), trivial, (⟨rfl, by omega⟩), hS.F ht2⟩) hS.2.2 (Nat.le_of_ble_eq_true rfl) (Nat.le_of_ble_eq_true rfl)
        · obtain ⟨hP, hD⟩ := va_rest (wr := [(h0, .inr (11, [.ref ca, .int 0, .int 0, g3, g4, g5, g6, g7, g8, g9, g10, g11, g12])), (ca, .inl (cC, 16, .inr (.inr (.inr (.inr fC))))), (c0, .inr (7, [.ref th, u1, u2, .int 0, u4, u5, u6])), (th, .inl (cH, 4, .inl (fun _ => 0)))]) hP hD [] [0, 1, 2, 3] rfl rfl (by decide) (by decide) hk1 hFc
          generalize H1 = H at hP hS ⊢
          refine W.widen (k := 4) (n := 24) (Nat.le_of_ble_eq_true rfl) (Nat.le_of_ble_eq_true rfl) ?_
          have t_12 : ¬ (p3.toInt < 0 ∨ 7 < p3.toInt) := hw
          refine lv_iload hx hb dX5_card_17 (lv_at hl 5 rfl) ?_
          refine lv_bipush (v := 115) hx hb dX5_card_19 (by decide) ?_
          refine lv_icmp_eq (tgt := 41) hx hb dX5_card_21 (by decide) (fun c_13 => ?_) (fun c_13 => ?_)
          · have t_14 := b_eq (k := 115) rfl c_13
            refine lv_aload_n hx hb dX5_card_41 rfl (lv_at hl 0 rfl) ?_
            refine va_get (D := (dC, dI)) (ci := 11) (v := .int 0) (C := RX5) (T := TX5) (N := 13) hx hb hts (by decide +kernel) hown hK hP 0 rfl rfl 2 (by decide) (hts (.fieldLink RX5 74 "Bothfaces" "pickCount" "I") (by decide +kernel)) (fun _ h9 => h9) rfl dX5_card_42 ?_
            refine lv_if_le (tgt := 58) hx hb dX5_card_45 (by decide) (fun c_15 => ?_) (fun c_15 => ?_)
            · refine lv_aload_n hx hb dX5_card_58 rfl (lv_at hl 0 rfl) ?_
              refine va_get (D := (dC, dI)) (ci := 11) (v := .int 0) (C := RX5) (T := TX5) (N := 13) hx hb hts (by decide +kernel) hown hK hP 0 rfl rfl 1 (by decide) (hts (.fieldLink RX5 83 "Bothfaces" "cardCount" "I") (by decide +kernel)) (fun _ h9 => h9) rfl dX5_card_59 ?_
              refine lv_bipush (v := 16) hx hb dX5_card_62 (by decide) ?_
              refine lv_icmp_lt (tgt := 77) hx hb dX5_card_64 (by decide) (fun c_16 => ?_) (fun c_16 => ?_)
              · refine lv_aload_n hx hb dX5_card_77 rfl (lv_at hl 0 rfl) ?_
                refine va_get (D := (dC, dI)) (ci := 11) (v := .ref ca) (C := RX5) (T := TX5) (N := 13) hx hb hts (by decide +kernel) hown hK hP 0 rfl rfl 0 (by decide) (hts (.fieldLink RX5 13 "Bothfaces" "cards" "[LBothfaces$Card;") (by decide +kernel)) (fun _ h9 => h9) rfl dX5_card_78 ?_
                refine lv_aload_n hx hb dX5_card_81 rfl (lv_at hl 0 rfl) ?_
                refine va_get (D := (dC, dI)) (ci := 11) (v := .int 0) (C := RX5) (T := TX5) (N := 13) hx hb hts (by decide +kernel) hown hK hP 0 rfl rfl 1 (by decide) (hts (.fieldLink RX5 83 "Bothfaces" "cardCount" "I") (by decide +kernel)) (fun _ h9 => h9) rfl dX5_card_82 ?_
                refine va_aldq hx hb hK hP 1 0 rfl rfl (vp_in_iff.mpr ⟨by decide, by decide⟩) dX5_card_85 ?_
                rw [show (0 : Int32).toNatClampNeg = 0 from rfl, hC]
                refine W.eq (g2 := F0 m 86 ls [.ref c0]) rfl ?_
                refine lv_iload_n hx hb dX5_card_86 rfl (lv_at hl 1 rfl) ?_
                refine lv_iload_n hx hb dX5_card_87 rfl (lv_at hl 2 rfl) ?_
                refine lv_iload_n hx hb dX5_card_88 rfl (lv_at hl 3 rfl) ?_
                refine lv_iload hx hb dX5_card_89 (lv_at hl 4 rfl) ?_
                refine lv_iload hx hb dX5_card_91 (lv_at hl 5 rfl) ?_
                refine lv_bipush (v := 115) hx hb dX5_card_93 (by decide) ?_
                refine lv_icmp_ne (tgt := 102) hx hb dX5_card_95 (by decide) (fun c_17 => ?_) (fun c_17 => ?_)
                · have t_18 := b_ne (k := 115) rfl c_17
                  exfalso; omega
                · have t_19 := b_eq (k := 115) rfl c_17
                  refine lv_iconst (v := 1) hx hb dX5_card_98 (by decide) ?_
                  refine lv_goto (tgt := 103) hx hb dX5_card_99 (by decide) ?_
                  have hPc := hP.sub (ws' := [(c0, .inr (7, [.ref th, u1, u2, .int 0, u4, u5, u6])), (th, .inl (cH, 4, .inl (fun _ => 0)))]) [2, 3] rfl
                  have hDc := hD.sub (ws' := [(c0, .inr (7, [.ref th, u1, u2, .int 0, u4, u5, u6])), (th, .inl (cH, 4, .inl (fun _ => 0)))]) [2, 3] (by decide) rfl
                  have hKc := hK.sub (tys' := [(cH, .int)]) [1] rfl
                  have hFc := va_free (wc := [(c0, .inr (7, [.ref th, u1, u2, .int 0, u4, u5, u6])), (th, .inl (cH, 4, .inl (fun _ => 0)))]) hD hS hA [2, 3] rfl
                  refine va_callv (va_runVN (As := [.int p0, .int p1, .int p2, .int p3, .int 1]) (rest := []) ⟨hx, hb, hml, hown, hts⟩ (c_X1_threadWith_1 l em dC dI c0 th u1 u2 u4 u5 u6 cH p0 p1 p2 p3 H.size) ⟨va_cnB 5 hts gX5_card_X1_threadWith_n91 rfl rfl rfl (hamb.words (.methodLinkNest RX5 91 yX1_threadWith RX5) (by decide +kernel)) (hts (.initialized RX1) (by decide +kernel)) (by decide +kernel) ⟨Nat.le_of_ble_eq_true rfl, Nat.le_of_ble_eq_true rfl⟩, (hts (.instanceMethod yX1_threadWith) (by decide +kernel)), (hts (.selects RX1 yX1_threadWith yX1_threadWith) (by decide +kernel))⟩ ⟨Pw.blind _ _ _ _ _ _ _, va_recv hKc hPc (ci := 7) (q0 := 0) rfl rfl, fun U hU hW => ⟨rfl, Pw.go hPc hKc hDc hamb hS hFc hU hW⟩⟩ rfl rfl hl.1 rfl (lv_room (Nat.le_of_ble_eq_true rfl)) dX5_card_103 ⟨Nat.le_of_ble_eq_true rfl, Nat.le_of_ble_eq_true rfl⟩) hS (fun q _ h => hFc q h) hFc (fun u t H1 locs1 ht hvm hw hB hz1 hk1 hS => ?_)
                  obtain ⟨hP, hD⟩ := va_rest (wr := [(h0, .inr (11, [.ref ca, .int 0, .int 0, g3, g4, g5, g6, g7, g8, g9, g10, g11, g12])), (ca, .inl (cC, 16, .inr (.inr (.inr (.inr fC)))))]) hP hD [2, 3] [0, 1] rfl rfl (by decide) (by decide) hk1 hFc
                  generalize H1 = H at hP hS ⊢
                  refine W.widen (k := 4) (n := 24) (Nat.le_of_ble_eq_true rfl) (Nat.le_of_ble_eq_true rfl) ?_
                  refine lv_aload_n hx hb dX5_card_106 rfl (lv_at hl 0 rfl) ?_
                  refine lv_dup hx hb dX5_card_107 rfl ?_
                  refine va_get (D := (dC, dI)) (ci := 11) (v := .int 0) (C := RX5) (T := TX5) (N := 13) hx hb hts (by decide +kernel) hown hK hP 0 rfl rfl 1 (by decide) (hts (.fieldLink RX5 83 "Bothfaces" "cardCount" "I") (by decide +kernel)) (fun _ h9 => h9) rfl dX5_card_108 ?_
                  refine lv_iconst (v := 1) hx hb dX5_card_111 (by decide) ?_
                  refine lv_iadd hx hb dX5_card_112 ?_
                  refine lv_topi (fun k_21 ek_21 => ?_)
                  obtain rfl : k_21 = 1 := ek_21.trans (by decide)
                  refine va_put (D := (dC, dI)) (ci := 11) (v := .int 1) (ty := .int) (C := RX5) (T := TX5) (N := 13) hx hb hts (by decide +kernel) tyX5 tyX5_ok nmX5 hown hK hP hD hS 0 rfl rfl 1 (by decide) (hts (.fieldLink RX5 83 "Bothfaces" "cardCount" "I") (by decide +kernel)) (fun _ h9 => h9) rfl (by decide +kernel) rfl rfl (Nat.le_of_ble_eq_true rfl) dX5_card_113 (fun H locs hP hD hS => ?_)
                  have hP : va_P (dC, dI) vwCl [(h0, .inr (11, [.ref ca, .int 1, .int 0, g3, g4, g5, g6, g7, g8, g9, g10, g11, g12])), (ca, .inl (cC, 16, .inr (.inr (.inr (.inr fC)))))] H := hP
                  have hD : va_D A [(h0, .inr (11, [.ref ca, .int 1, .int 0, g3, g4, g5, g6, g7, g8, g9, g10, g11, g12])), (ca, .inl (cC, 16, .inr (.inr (.inr (.inr fC)))))] := hD
                  refine lv_aload_n hx hb dX5_card_116 rfl (lv_at hl 0 rfl) ?_
                  refine va_get (D := (dC, dI)) (ci := 11) (v := .int 1) (C := RX5) (T := TX5) (N := 13) hx hb hts (by decide +kernel) hown hK hP 0 rfl rfl 1 (by decide) (hts (.fieldLink RX5 83 "Bothfaces" "cardCount" "I") (by decide +kernel)) (fun _ h9 => h9) rfl dX5_card_117 ?_
                  refine lv_iconst (v := 1) hx hb dX5_card_120 (by decide) ?_
                  refine lv_isub hx hb dX5_card_121 ?_
                  refine lv_topi (fun k_22 ek_22 => ?_)
                  obtain rfl : k_22 = 0 := ek_22.trans (by decide)
                  refine W.widen (k := 5) (n := 30) (Nat.le_of_ble_eq_true rfl) (Nat.le_of_ble_eq_true rfl) ?_
                  refine vx_ret ?_
                  exact W.iret (v := 0) hx hb hr (fun t ht hW => ⟨⟨0, (), rfl, ⟨(by omega), rfl⟩, trivial⟩, hS.F ht⟩) hS.2.2 dX5_card_122
              · exact absurd (by decide) c_16
            · exact absurd (by decide) c_15
          · have t_23 := b_ne (k := 115) rfl c_13
            refine lv_iload hx hb dX5_card_24 (lv_at hl 5 rfl) ?_
            refine lv_bipush (v := 122) hx hb dX5_card_26 (by decide) ?_
            refine lv_icmp_eq (tgt := 41) hx hb dX5_card_28 (by decide) (fun c_24 => ?_) (fun c_24 => ?_)
            · have t_25 := b_eq (k := 122) rfl c_24
              refine lv_aload_n hx hb dX5_card_41 rfl (lv_at hl 0 rfl) ?_
              refine va_get (D := (dC, dI)) (ci := 11) (v := .int 0) (C := RX5) (T := TX5) (N := 13) hx hb hts (by decide +kernel) hown hK hP 0 rfl rfl 2 (by decide) (hts (.fieldLink RX5 74 "Bothfaces" "pickCount" "I") (by decide +kernel)) (fun _ h9 => h9) rfl dX5_card_42 ?_
              refine lv_if_le (tgt := 58) hx hb dX5_card_45 (by decide) (fun c_26 => ?_) (fun c_26 => ?_)
              · refine lv_aload_n hx hb dX5_card_58 rfl (lv_at hl 0 rfl) ?_
                refine va_get (D := (dC, dI)) (ci := 11) (v := .int 0) (C := RX5) (T := TX5) (N := 13) hx hb hts (by decide +kernel) hown hK hP 0 rfl rfl 1 (by decide) (hts (.fieldLink RX5 83 "Bothfaces" "cardCount" "I") (by decide +kernel)) (fun _ h9 => h9) rfl dX5_card_59 ?_
                refine lv_bipush (v := 16) hx hb dX5_card_62 (by decide) ?_
                refine lv_icmp_lt (tgt := 77) hx hb dX5_card_64 (by decide) (fun c_27 => ?_) (fun c_27 => ?_)
                · refine lv_aload_n hx hb dX5_card_77 rfl (lv_at hl 0 rfl) ?_
                  refine va_get (D := (dC, dI)) (ci := 11) (v := .ref ca) (C := RX5) (T := TX5) (N := 13) hx hb hts (by decide +kernel) hown hK hP 0 rfl rfl 0 (by decide) (hts (.fieldLink RX5 13 "Bothfaces" "cards" "[LBothfaces$Card;") (by decide +kernel)) (fun _ h9 => h9) rfl dX5_card_78 ?_
                  refine lv_aload_n hx hb dX5_card_81 rfl (lv_at hl 0 rfl) ?_
                  refine va_get (D := (dC, dI)) (ci := 11) (v := .int 0) (C := RX5) (T := TX5) (N := 13) hx hb hts (by decide +kernel) hown hK hP 0 rfl rfl 1 (by decide) (hts (.fieldLink RX5 83 "Bothfaces" "cardCount" "I") (by decide +kernel)) (fun _ h9 => h9) rfl dX5_card_82 ?_
                  refine va_aldq hx hb hK hP 1 0 rfl rfl (vp_in_iff.mpr ⟨by decide, by decide⟩) dX5_card_85 ?_
                  rw [show (0 : Int32).toNatClampNeg = 0 from rfl, hC]
                  refine W.eq (g2 := F0 m 86 ls [.ref c0]) rfl ?_
                  refine lv_iload_n hx hb dX5_card_86 rfl (lv_at hl 1 rfl) ?_
                  refine lv_iload_n hx hb dX5_card_87 rfl (lv_at hl 2 rfl) ?_
                  refine lv_iload_n hx hb dX5_card_88 rfl (lv_at hl 3 rfl) ?_
                  refine lv_iload hx hb dX5_card_89 (lv_at hl 4 rfl) ?_
                  refine lv_iload hx hb dX5_card_91 (lv_at hl 5 rfl) ?_
                  refine lv_bipush (v := 115) hx hb dX5_card_93 (by decide) ?_
                  refine lv_icmp_ne (tgt := 102) hx hb dX5_card_95 (by decide) (fun c_28 => ?_) (fun c_28 => ?_)
                  · have t_29 := b_ne (k := 115) rfl c_28
                    refine lv_iconst (v := 0) hx hb dX5_card_102 (by decide) ?_
                    have hPc := hP.sub (ws' := [(c0, .inr (7, [.ref th, u1, u2, .int 0, u4, u5, u6])), (th, .inl (cH, 4, .inl (fun _ => 0)))]) [2, 3] rfl
                    have hDc := hD.sub (ws' := [(c0, .inr (7, [.ref th, u1, u2, .int 0, u4, u5, u6])), (th, .inl (cH, 4, .inl (fun _ => 0)))]) [2, 3] (by decide) rfl
                    have hKc := hK.sub (tys' := [(cH, .int)]) [1] rfl
                    have hFc := va_free (wc := [(c0, .inr (7, [.ref th, u1, u2, .int 0, u4, u5, u6])), (th, .inl (cH, 4, .inl (fun _ => 0)))]) hD hS hA [2, 3] rfl
                    refine va_callv (va_runVN (As := [.int p0, .int p1, .int p2, .int p3, .int 0]) (rest := []) ⟨hx, hb, hml, hown, hts⟩ (c_X1_threadWith_0 l em dC dI c0 th u1 u2 u4 u5 u6 cH p0 p1 p2 p3 H.size) ⟨va_cnB 5 hts gX5_card_X1_threadWith_n91 rfl rfl rfl (hamb.words (.methodLinkNest RX5 91 yX1_threadWith RX5) (by decide +kernel)) (hts (.initialized RX1) (by decide +kernel)) (by decide +kernel) ⟨Nat.le_of_ble_eq_true rfl, Nat.le_of_ble_eq_true rfl⟩, (hts (.instanceMethod yX1_threadWith) (by decide +kernel)), (hts (.selects RX1 yX1_threadWith yX1_threadWith) (by decide +kernel))⟩ ⟨Pw.blind _ _ _ _ _ _ _, va_recv hKc hPc (ci := 7) (q0 := 0) rfl rfl, fun U hU hW => ⟨rfl, Pw.go hPc hKc hDc hamb hS hFc hU hW⟩⟩ rfl rfl hl.1 rfl (lv_room (Nat.le_of_ble_eq_true rfl)) dX5_card_103 ⟨Nat.le_of_ble_eq_true rfl, Nat.le_of_ble_eq_true rfl⟩) hS (fun q _ h => hFc q h) hFc (fun u t H1 locs1 ht hvm hw hB hz1 hk1 hS => ?_)
                    obtain ⟨hP, hD⟩ := va_rest (wr := [(h0, .inr (11, [.ref ca, .int 0, .int 0, g3, g4, g5, g6, g7, g8, g9, g10, g11, g12])), (ca, .inl (cC, 16, .inr (.inr (.inr (.inr fC)))))]) hP hD [2, 3] [0, 1] rfl rfl (by decide) (by decide) hk1 hFc
                    generalize H1 = H at hP hS ⊢
                    refine W.widen (k := 4) (n := 24) (Nat.le_of_ble_eq_true rfl) (Nat.le_of_ble_eq_true rfl) ?_
                    refine lv_aload_n hx hb dX5_card_106 rfl (lv_at hl 0 rfl) ?_
                    refine lv_dup hx hb dX5_card_107 rfl ?_
                    refine va_get (D := (dC, dI)) (ci := 11) (v := .int 0) (C := RX5) (T := TX5) (N := 13) hx hb hts (by decide +kernel) hown hK hP 0 rfl rfl 1 (by decide) (hts (.fieldLink RX5 83 "Bothfaces" "cardCount" "I") (by decide +kernel)) (fun _ h9 => h9) rfl dX5_card_108 ?_
                    refine lv_iconst (v := 1) hx hb dX5_card_111 (by decide) ?_
                    refine lv_iadd hx hb dX5_card_112 ?_
                    refine lv_topi (fun k_31 ek_31 => ?_)
                    obtain rfl : k_31 = 1 := ek_31.trans (by decide)
                    refine va_put (D := (dC, dI)) (ci := 11) (v := .int 1) (ty := .int) (C := RX5) (T := TX5) (N := 13) hx hb hts (by decide +kernel) tyX5 tyX5_ok nmX5 hown hK hP hD hS 0 rfl rfl 1 (by decide) (hts (.fieldLink RX5 83 "Bothfaces" "cardCount" "I") (by decide +kernel)) (fun _ h9 => h9) rfl (by decide +kernel) rfl rfl (Nat.le_of_ble_eq_true rfl) dX5_card_113 (fun H locs hP hD hS => ?_)
                    have hP : va_P (dC, dI) vwCl [(h0, .inr (11, [.ref ca, .int 1, .int 0, g3, g4, g5, g6, g7, g8, g9, g10, g11, g12])), (ca, .inl (cC, 16, .inr (.inr (.inr (.inr fC)))))] H := hP
                    have hD : va_D A [(h0, .inr (11, [.ref ca, .int 1, .int 0, g3, g4, g5, g6, g7, g8, g9, g10, g11, g12])), (ca, .inl (cC, 16, .inr (.inr (.inr (.inr fC)))))] := hD
                    refine lv_aload_n hx hb dX5_card_116 rfl (lv_at hl 0 rfl) ?_
                    refine va_get (D := (dC, dI)) (ci := 11) (v := .int 1) (C := RX5) (T := TX5) (N := 13) hx hb hts (by decide +kernel) hown hK hP 0 rfl rfl 1 (by decide) (hts (.fieldLink RX5 83 "Bothfaces" "cardCount" "I") (by decide +kernel)) (fun _ h9 => h9) rfl dX5_card_117 ?_
                    refine lv_iconst (v := 1) hx hb dX5_card_120 (by decide) ?_
                    refine lv_isub hx hb dX5_card_121 ?_
                    refine lv_topi (fun k_32 ek_32 => ?_)
                    obtain rfl : k_32 = 0 := ek_32.trans (by decide)
                    refine W.widen (k := 5) (n := 30) (Nat.le_of_ble_eq_true rfl) (Nat.le_of_ble_eq_true rfl) ?_
                    refine vx_ret ?_
                    exact W.iret (v := 0) hx hb hr (fun t ht hW => ⟨⟨0, (), rfl, ⟨(by omega), rfl⟩, trivial⟩, hS.F ht⟩) hS.2.2 dX5_card_122
                  · have t_33 := b_eq (k := 115) rfl c_28
                    exfalso; omega
                · exact absurd (by decide) c_27
              · exact absurd (by decide) c_26
            · have t_34 := b_ne (k := 122) rfl c_24
              obtain ⟨sa, hsa⟩ := hamb.strs (RX5, 69, "no such like") (by decide +kernel)
              exact vx_throwS (names := ["java/lang/RuntimeException", "java/lang/Exception"]) hx hb hlt hown (by decide +kernel) (by decide +kernel) (hts (.classLink RX5 67 "java/lang/IllegalArgumentException") (by decide +kernel)) (hts (.initialized "java/lang/IllegalArgumentException") (by decide +kernel)) hsa (vx_hat (B := ambW) (fun w hw => hts w (List.mem_cons_of_mem _ (List.mem_append_left _ (List.mem_append_left _ (List.mem_append_left _ (List.mem_append_right _ hw)))))) (by decide +kernel) (fun w hw => hamb.use hw)) (by decide +kernel) hamb.us hamb.ss hS (by rw [hml]; exact hl.1) dX5_card_31 dX5_card_34 dX5_card_35 dX5_card_37 dX5_card_40 (fun x hxx => (htab x hxx).elim) (Nat.le_of_ble_eq_true rfl) (Nat.le_of_ble_eq_true rfl) (Nat.le_of_ble_eq_true rfl) (Nat.le_of_ble_eq_true rfl) hlocks (fun t ha h1 h2 => ⟨(), trivial, (⟨rfl, by omega⟩), xc_F hS h1 h2⟩) hS.2.2 (Nat.le_of_ble_eq_true rfl) (Nat.le_of_ble_eq_true rfl)

set_option maxHeartbeats 4000000 in
set_option maxRecDepth 100000 in
theorem c_X5_draw_bad (l : Launch) (hlt : l.stackTraces = false) (em : Nat → Nat) (dC : Nat → ClassId) (dI : Nat → Nat → Nat) (h0 : Nat) (p0 : Int32) (p1 : Int32) (p2 : Int32) (g0 : Value) (g1 : Value) (g2 : Value) (g4 : Value) (g5 : Value) (g6 : Value) (g7 : Value) (g8 : Value) (g9 : Value) (g10 : Value) (g11 : Value) (g12 : Value) (dr : Nat) (hb9 : p0.toInt < 97 ∨ 122 < p0.toInt ∨ p1.toInt < 0 ∨ 4 < p1.toInt ∨ p2.toInt < 0 ∨ 7 < p2.toInt) (sz : Nat) : vx_Met l yX5_draw wsX5_draw ({ frames := 7, cells := 2, slots := 12, locals := 102 }) (va_Pc [.ref h0, .int p0, .int p1, .int p2] (Pw em dC dI sz [(h0, .inr (11, [g0, g1, g2, .ref dr, g4, g5, g6, g7, g8, g9, g10, g11, g12]))] [])) (va_Qi (fun (r : Int32) (_ : Unit) => False) (fun _ t => True) (va_A [(h0, .inr (11, [g0, g1, g2, .ref dr, g4, g5, g6, g7, g8, g9, g10, g11, g12]))] sz)) (vx_X (fun _ : Unit => True) (fun E _ _ => (E = "java/lang/IllegalArgumentException" ∧ (p0.toInt < 97 ∨ 122 < p0.toInt ∨ p1.toInt < 0 ∨ 4 < p1.toInt ∨ p2.toInt < 0 ∨ 7 < p2.toInt))) (va_A [(h0, .inr (11, [g0, g1, g2, .ref dr, g4, g5, g6, g7, g8, g9, g10, g11, g12]))] sz)) 2 12 (va_A [(h0, .inr (11, [g0, g1, g2, .ref dr, g4, g5, g6, g7, g8, g9, g10, g11, g12]))] sz) := by
  refine vx_ofW (cc := cX5_draw) (maxL := 5) (ret := (some .int)) (by decide) rfl ?_
  intro p e s m args below meth c s₁ B hml htab hv
  obtain ⟨rfl, hsz, hP, hK, hD0, hamb⟩ := hv
  have hx := B.exec
  have hb := B.bytes
  have hr := B.returns
  have hts := atoms_spec (ws := wsX5_draw) B.pre
  have hown : s.vm.findClass RX5 = some m.cls := findClass_of_methodNamed B.named
  have hlocks := B.notSynchronized
  subst hsz
  have hD := hD0.self (sz := s.heap.size)
  generalize hAe : va_A [(h0, .inr (11, [g0, g1, g2, .ref dr, g4, g5, g6, g7, g8, g9, g10, g11, g12]))] s.heap.size = A at hD hamb ⊢
  have hA : ∀ q : Nat, s.heap.size ≤ q → A q := fun q h => by rw [← hAe]; exact Or.inr h
  have hS : va_S A s.heap s.heap [] := va_S.rf
  have hP : va_P (dC, dI) vwCl [(h0, .inr (11, [g0, g1, g2, .ref dr, g4, g5, g6, g7, g8, g9, g10, g11, g12]))] s.heap := hP
  have hl := lv_entry ([.ref h0, .int p0, .int p1, .int p2]) (n := 5) (Nat.le_of_ble_eq_true rfl)
  rw [lg_entry_eq]
  generalize (lg_sl ([.ref h0, .int p0, .int p1, .int p2]) ++ List.replicate (5 - (lg_sl ([.ref h0, .int p0, .int p1, .int p2])).length) Slot.unset).toArray = ls at hl ⊢
  have hl : lv_has ls 5 [(0, .ref h0), (1, .int p0), (2, .int p1), (3, .int p2)] := hl
  refine lv_iload_n hx hb dX5_draw_0 rfl (lv_at hl 1 rfl) ?_
  have hPc := hP.sub (ws' := []) [] rfl
  have hDc := hD.sub (ws' := []) [] (by decide) rfl
  have hKc := hK.sub (tys' := []) [] rfl
  have hFc := va_free (wc := []) hD hS hA [] rfl
  refine vx_callv (vx_runS (As := [.int p0]) (rest := []) ⟨hx, hb, hml, hown, hts⟩ (c_X5_needLetter l hlt em dC dI p0 s.heap.size) (va_cwS 1 hts gX5_draw_X5_needLetter rfl rfl rfl (by decide +kernel) ⟨Nat.le_of_ble_eq_true rfl, Nat.le_of_ble_eq_true rfl⟩) ⟨Pw.blind _ _ _ _ _ _ _, fun U hU hW => ⟨rfl, Pw.go hPc hKc hDc hamb hS hFc hU hW⟩⟩ rfl rfl hl.1 rfl (lv_room (Nat.le_of_ble_eq_true rfl)) dX5_draw_1 ⟨Nat.le_of_ble_eq_true rfl, Nat.le_of_ble_eq_true rfl⟩) hS (fun q _ h => hFc q h) hFc (fun q _ h => hFc q h) (fun E ce q9 ux tx H1 locs1 htx hvm hpx hBX hz1 hk1 hS hce hcv hcl => ?_) (fun u t H1 locs1 ht hvm hw hB hz1 hk1 hS => ?_)
  · obtain ⟨rfl, t_2⟩ := hBX
    exact vx_out (fun x hxx => (htab x hxx).elim) hlocks hce hcv hcl (fun t ht2 ha => ⟨(), trivial, (⟨rfl, by omega⟩), hS.F ht2⟩) hS.2.2 (Nat.le_of_ble_eq_true rfl) (Nat.le_of_ble_eq_true rfl)
  · obtain ⟨hP, hD⟩ := va_rest (wr := [(h0, .inr (11, [g0, g1, g2, .ref dr, g4, g5, g6, g7, g8, g9, g10, g11, g12]))]) hP hD [] [0] rfl rfl (by decide) (by decide) hk1 hFc
    generalize H1 = H at hP hS ⊢
    refine W.widen (k := 1) (n := 6) (Nat.le_of_ble_eq_true rfl) (Nat.le_of_ble_eq_true rfl) ?_
    have t_3 : ¬ (p0.toInt < 97 ∨ 122 < p0.toInt) := hw
    refine lv_iload_n hx hb dX5_draw_4 rfl (lv_at hl 2 rfl) ?_
    refine lv_if_lt (tgt := 23) hx hb dX5_draw_5 (by decide) (fun c_4 => ?_) (fun c_4 => ?_)
    · have t_5 := b_lt (k := 0) rfl c_4
      obtain ⟨sa, hsa⟩ := hamb.strs (RX5, 155, "no such row or bits") (by decide +kernel)
      exact vx_throwS (names := ["java/lang/RuntimeException", "java/lang/Exception"]) hx hb hlt hown (by decide +kernel) (by decide +kernel) (hts (.classLink RX5 67 "java/lang/IllegalArgumentException") (by decide +kernel)) (hts (.initialized "java/lang/IllegalArgumentException") (by decide +kernel)) hsa (vx_hat (B := ambW) (fun w hw => hts w (List.mem_cons_of_mem _ (List.mem_append_left _ (List.mem_append_right _ hw)))) (by decide +kernel) (fun w hw => hamb.use hw)) (by decide +kernel) hamb.us hamb.ss hS (by rw [hml]; exact hl.1) dX5_draw_23 dX5_draw_26 dX5_draw_27 dX5_draw_29 dX5_draw_32 (fun x hxx => (htab x hxx).elim) (Nat.le_of_ble_eq_true rfl) (Nat.le_of_ble_eq_true rfl) (Nat.le_of_ble_eq_true rfl) (Nat.le_of_ble_eq_true rfl) hlocks (fun t ha h1 h2 => ⟨(), trivial, (⟨rfl, by omega⟩), xc_F hS h1 h2⟩) hS.2.2 (Nat.le_of_ble_eq_true rfl) (Nat.le_of_ble_eq_true rfl)
    · have t_6 := b_nlt (k := 0) rfl c_4
      refine lv_iload_n hx hb dX5_draw_8 rfl (lv_at hl 2 rfl) ?_
      refine lv_iconst (v := 5) hx hb dX5_draw_9 (by decide) ?_
      refine lv_icmp_ge (tgt := 23) hx hb dX5_draw_10 (by decide) (fun c_7 => ?_) (fun c_7 => ?_)
      · have t_8 := b_le rfl c_7
        rw [show (5 : Int32).toInt = 5 from rfl] at t_8
        obtain ⟨sa, hsa⟩ := hamb.strs (RX5, 155, "no such row or bits") (by decide +kernel)
        exact vx_throwS (names := ["java/lang/RuntimeException", "java/lang/Exception"]) hx hb hlt hown (by decide +kernel) (by decide +kernel) (hts (.classLink RX5 67 "java/lang/IllegalArgumentException") (by decide +kernel)) (hts (.initialized "java/lang/IllegalArgumentException") (by decide +kernel)) hsa (vx_hat (B := ambW) (fun w hw => hts w (List.mem_cons_of_mem _ (List.mem_append_left _ (List.mem_append_right _ hw)))) (by decide +kernel) (fun w hw => hamb.use hw)) (by decide +kernel) hamb.us hamb.ss hS (by rw [hml]; exact hl.1) dX5_draw_23 dX5_draw_26 dX5_draw_27 dX5_draw_29 dX5_draw_32 (fun x hxx => (htab x hxx).elim) (Nat.le_of_ble_eq_true rfl) (Nat.le_of_ble_eq_true rfl) (Nat.le_of_ble_eq_true rfl) (Nat.le_of_ble_eq_true rfl) hlocks (fun t ha h1 h2 => ⟨(), trivial, (⟨rfl, by omega⟩), xc_F hS h1 h2⟩) hS.2.2 (Nat.le_of_ble_eq_true rfl) (Nat.le_of_ble_eq_true rfl)
      · have t_9 := b_nle rfl c_7
        rw [show (5 : Int32).toInt = 5 from rfl] at t_9
        refine lv_iload_n hx hb dX5_draw_13 rfl (lv_at hl 3 rfl) ?_
        refine lv_if_lt (tgt := 23) hx hb dX5_draw_14 (by decide) (fun c_10 => ?_) (fun c_10 => ?_)
        · have t_11 := b_lt (k := 0) rfl c_10
          obtain ⟨sa, hsa⟩ := hamb.strs (RX5, 155, "no such row or bits") (by decide +kernel)
          exact vx_throwS (names := ["java/lang/RuntimeException", "java/lang/Exception"]) hx hb hlt hown (by decide +kernel) (by decide +kernel) (hts (.classLink RX5 67 "java/lang/IllegalArgumentException") (by decide +kernel)) (hts (.initialized "java/lang/IllegalArgumentException") (by decide +kernel)) hsa (vx_hat (B := ambW) (fun w hw => hts w (List.mem_cons_of_mem _ (List.mem_append_left _ (List.mem_append_right _ hw)))) (by decide +kernel) (fun w hw => hamb.use hw)) (by decide +kernel) hamb.us hamb.ss hS (by rw [hml]; exact hl.1) dX5_draw_23 dX5_draw_26 dX5_draw_27 dX5_draw_29 dX5_draw_32 (fun x hxx => (htab x hxx).elim) (Nat.le_of_ble_eq_true rfl) (Nat.le_of_ble_eq_true rfl) (Nat.le_of_ble_eq_true rfl) (Nat.le_of_ble_eq_true rfl) hlocks (fun t ha h1 h2 => ⟨(), trivial, (⟨rfl, by omega⟩), xc_F hS h1 h2⟩) hS.2.2 (Nat.le_of_ble_eq_true rfl) (Nat.le_of_ble_eq_true rfl)
        · have t_12 := b_nlt (k := 0) rfl c_10
          refine lv_iload_n hx hb dX5_draw_17 rfl (lv_at hl 3 rfl) ?_
          refine lv_bipush (v := 8) hx hb dX5_draw_18 (by decide) ?_
          refine lv_icmp_lt (tgt := 33) hx hb dX5_draw_20 (by decide) (fun c_13 => ?_) (fun c_13 => ?_)
          · have t_14 := b_lt (k := 8) rfl c_13
            exfalso; omega
          · have t_15 := b_nlt (k := 8) rfl c_13
            obtain ⟨sa, hsa⟩ := hamb.strs (RX5, 155, "no such row or bits") (by decide +kernel)
            exact vx_throwS (names := ["java/lang/RuntimeException", "java/lang/Exception"]) hx hb hlt hown (by decide +kernel) (by decide +kernel) (hts (.classLink RX5 67 "java/lang/IllegalArgumentException") (by decide +kernel)) (hts (.initialized "java/lang/IllegalArgumentException") (by decide +kernel)) hsa (vx_hat (B := ambW) (fun w hw => hts w (List.mem_cons_of_mem _ (List.mem_append_left _ (List.mem_append_right _ hw)))) (by decide +kernel) (fun w hw => hamb.use hw)) (by decide +kernel) hamb.us hamb.ss hS (by rw [hml]; exact hl.1) dX5_draw_23 dX5_draw_26 dX5_draw_27 dX5_draw_29 dX5_draw_32 (fun x hxx => (htab x hxx).elim) (Nat.le_of_ble_eq_true rfl) (Nat.le_of_ble_eq_true rfl) (Nat.le_of_ble_eq_true rfl) (Nat.le_of_ble_eq_true rfl) hlocks (fun t ha h1 h2 => ⟨(), trivial, (⟨rfl, by omega⟩), xc_F hS h1 h2⟩) hS.2.2 (Nat.le_of_ble_eq_true rfl) (Nat.le_of_ble_eq_true rfl)

set_option maxHeartbeats 4000000 in
set_option maxRecDepth 100000 in
theorem c_X5_draw_ok (l : Launch) (hlt : l.stackTraces = false) (em : Nat → Nat) (dC : Nat → ClassId) (dI : Nat → Nat → Nat) (h0 : Nat) (p0 : Int32) (p1 : Int32) (p2 : Int32) (g0 : Value) (g1 : Value) (g2 : Value) (g4 : Value) (g5 : Value) (g6 : Value) (g7 : Value) (g8 : Value) (g9 : Value) (g10 : Value) (g11 : Value) (g12 : Value) (dr : Nat) (rr : Nat) (cO : ClassId) (cI : ClassId) (fD : Nat → Option Nat) (hok : ¬ (p0.toInt < 97 ∨ 122 < p0.toInt ∨ p1.toInt < 0 ∨ 4 < p1.toInt ∨ p2.toInt < 0 ∨ 7 < p2.toInt)) (hrow : fD (p0 - 97).toNatClampNeg = some rr) (sz : Nat) : vx_Met l yX5_draw wsX5_draw ({ frames := 7, cells := 2, slots := 12, locals := 102 }) (va_Pc [.ref h0, .int p0, .int p1, .int p2] (Pw em dC dI sz [(h0, .inr (11, [g0, g1, g2, .ref dr, g4, g5, g6, g7, g8, g9, g10, g11, g12])), (dr, .inl (cO, 26, .inr (.inr (.inr (.inr fD))))), (rr, .inl (cI, 5, .inl (fun _ => 0)))] [(cO, (.array .int)), (cI, .int)])) (va_Qi (fun (r : Int32) (_ : Unit) => r = 0) (fun _ t => True) (va_A [(h0, .inr (11, [g0, g1, g2, .ref dr, g4, g5, g6, g7, g8, g9, g10, g11, g12])), (dr, .inl (cO, 26, .inr (.inr (.inr (.inr fD))))), (rr, .inl (cI, 5, .inl (fun _ => 0)))] sz)) (vx_X (fun _ : Unit => True) (fun E _ _ => (E = "java/lang/IllegalArgumentException" ∧ (p0.toInt < 97 ∨ 122 < p0.toInt ∨ p1.toInt < 0 ∨ 4 < p1.toInt ∨ p2.toInt < 0 ∨ 7 < p2.toInt))) (va_A [(h0, .inr (11, [g0, g1, g2, .ref dr, g4, g5, g6, g7, g8, g9, g10, g11, g12])), (dr, .inl (cO, 26, .inr (.inr (.inr (.inr fD))))), (rr, .inl (cI, 5, .inl (fun _ => 0)))] sz)) 2 12 (va_A [(h0, .inr (11, [g0, g1, g2, .ref dr, g4, g5, g6, g7, g8, g9, g10, g11, g12])), (dr, .inl (cO, 26, .inr (.inr (.inr (.inr fD))))), (rr, .inl (cI, 5, .inl (fun _ => 0)))] sz) := by
  refine vx_ofW (cc := cX5_draw) (maxL := 5) (ret := (some .int)) (by decide) rfl ?_
  intro p e s m args below meth c s₁ B hml htab hv
  obtain ⟨rfl, hsz, hP, hK, hD0, hamb⟩ := hv
  have hx := B.exec
  have hb := B.bytes
  have hr := B.returns
  have hts := atoms_spec (ws := wsX5_draw) B.pre
  have hown : s.vm.findClass RX5 = some m.cls := findClass_of_methodNamed B.named
  have hlocks := B.notSynchronized
  subst hsz
  have hD := hD0.self (sz := s.heap.size)
  generalize hAe : va_A [(h0, .inr (11, [g0, g1, g2, .ref dr, g4, g5, g6, g7, g8, g9, g10, g11, g12])), (dr, .inl (cO, 26, .inr (.inr (.inr (.inr fD))))), (rr, .inl (cI, 5, .inl (fun _ => 0)))] s.heap.size = A at hD hamb ⊢
  have hA : ∀ q : Nat, s.heap.size ≤ q → A q := fun q h => by rw [← hAe]; exact Or.inr h
  have hS : va_S A s.heap s.heap [] := va_S.rf
  have hP : va_P (dC, dI) vwCl [(h0, .inr (11, [g0, g1, g2, .ref dr, g4, g5, g6, g7, g8, g9, g10, g11, g12])), (dr, .inl (cO, 26, .inr (.inr (.inr (.inr fD))))), (rr, .inl (cI, 5, .inl (fun _ => 0)))] s.heap := hP
  have hl := lv_entry ([.ref h0, .int p0, .int p1, .int p2]) (n := 5) (Nat.le_of_ble_eq_true rfl)
  rw [lg_entry_eq]
  generalize (lg_sl ([.ref h0, .int p0, .int p1, .int p2]) ++ List.replicate (5 - (lg_sl ([.ref h0, .int p0, .int p1, .int p2])).length) Slot.unset).toArray = ls at hl ⊢
  have hl : lv_has ls 5 [(0, .ref h0), (1, .int p0), (2, .int p1), (3, .int p2)] := hl
  refine lv_iload_n hx hb dX5_draw_0 rfl (lv_at hl 1 rfl) ?_
  have hPc := hP.sub (ws' := []) [] rfl
  have hDc := hD.sub (ws' := []) [] (by decide) rfl
  have hKc := hK.sub (tys' := []) [] rfl
  have hFc := va_free (wc := []) hD hS hA [] rfl
  refine vx_callv (vx_runS (As := [.int p0]) (rest := []) ⟨hx, hb, hml, hown, hts⟩ (c_X5_needLetter l hlt em dC dI p0 s.heap.size) (va_cwS 1 hts gX5_draw_X5_needLetter rfl rfl rfl (by decide +kernel) ⟨Nat.le_of_ble_eq_true rfl, Nat.le_of_ble_eq_true rfl⟩) ⟨Pw.blind _ _ _ _ _ _ _, fun U hU hW => ⟨rfl, Pw.go hPc hKc hDc hamb hS hFc hU hW⟩⟩ rfl rfl hl.1 rfl (lv_room (Nat.le_of_ble_eq_true rfl)) dX5_draw_1 ⟨Nat.le_of_ble_eq_true rfl, Nat.le_of_ble_eq_true rfl⟩) hS (fun q _ h => hFc q h) hFc (fun q _ h => hFc q h) (fun E ce q9 ux tx H1 locs1 htx hvm hpx hBX hz1 hk1 hS hce hcv hcl => ?_) (fun u t H1 locs1 ht hvm hw hB hz1 hk1 hS => ?_)
  · obtain ⟨rfl, t_2⟩ := hBX
    exact vx_out (fun x hxx => (htab x hxx).elim) hlocks hce hcv hcl (fun t ht2 ha => ⟨(), trivial, (⟨rfl, by omega⟩), hS.F ht2⟩) hS.2.2 (Nat.le_of_ble_eq_true rfl) (Nat.le_of_ble_eq_true rfl)
  · obtain ⟨hP, hD⟩ := va_rest (wr := [(h0, .inr (11, [g0, g1, g2, .ref dr, g4, g5, g6, g7, g8, g9, g10, g11, g12])), (dr, .inl (cO, 26, .inr (.inr (.inr (.inr fD))))), (rr, .inl (cI, 5, .inl (fun _ => 0)))]) hP hD [] [0, 1, 2] rfl rfl (by decide) (by decide) hk1 hFc
    generalize H1 = H at hP hS ⊢
    refine W.widen (k := 1) (n := 6) (Nat.le_of_ble_eq_true rfl) (Nat.le_of_ble_eq_true rfl) ?_
    have t_3 : ¬ (p0.toInt < 97 ∨ 122 < p0.toInt) := hw
    refine lv_iload_n hx hb dX5_draw_4 rfl (lv_at hl 2 rfl) ?_
    refine lv_if_lt (tgt := 23) hx hb dX5_draw_5 (by decide) (fun c_4 => ?_) (fun c_4 => ?_)
    · have t_5 := b_lt (k := 0) rfl c_4
      obtain ⟨sa, hsa⟩ := hamb.strs (RX5, 155, "no such row or bits") (by decide +kernel)
      exact vx_throwS (names := ["java/lang/RuntimeException", "java/lang/Exception"]) hx hb hlt hown (by decide +kernel) (by decide +kernel) (hts (.classLink RX5 67 "java/lang/IllegalArgumentException") (by decide +kernel)) (hts (.initialized "java/lang/IllegalArgumentException") (by decide +kernel)) hsa (vx_hat (B := ambW) (fun w hw => hts w (List.mem_cons_of_mem _ (List.mem_append_left _ (List.mem_append_right _ hw)))) (by decide +kernel) (fun w hw => hamb.use hw)) (by decide +kernel) hamb.us hamb.ss hS (by rw [hml]; exact hl.1) dX5_draw_23 dX5_draw_26 dX5_draw_27 dX5_draw_29 dX5_draw_32 (fun x hxx => (htab x hxx).elim) (Nat.le_of_ble_eq_true rfl) (Nat.le_of_ble_eq_true rfl) (Nat.le_of_ble_eq_true rfl) (Nat.le_of_ble_eq_true rfl) hlocks (fun t ha h1 h2 => ⟨(), trivial, (⟨rfl, by omega⟩), xc_F hS h1 h2⟩) hS.2.2 (Nat.le_of_ble_eq_true rfl) (Nat.le_of_ble_eq_true rfl)
    · have t_6 := b_nlt (k := 0) rfl c_4
      refine lv_iload_n hx hb dX5_draw_8 rfl (lv_at hl 2 rfl) ?_
      refine lv_iconst (v := 5) hx hb dX5_draw_9 (by decide) ?_
      refine lv_icmp_ge (tgt := 23) hx hb dX5_draw_10 (by decide) (fun c_7 => ?_) (fun c_7 => ?_)
      · have t_8 := b_le rfl c_7
        rw [show (5 : Int32).toInt = 5 from rfl] at t_8
        obtain ⟨sa, hsa⟩ := hamb.strs (RX5, 155, "no such row or bits") (by decide +kernel)
        exact vx_throwS (names := ["java/lang/RuntimeException", "java/lang/Exception"]) hx hb hlt hown (by decide +kernel) (by decide +kernel) (hts (.classLink RX5 67 "java/lang/IllegalArgumentException") (by decide +kernel)) (hts (.initialized "java/lang/IllegalArgumentException") (by decide +kernel)) hsa (vx_hat (B := ambW) (fun w hw => hts w (List.mem_cons_of_mem _ (List.mem_append_left _ (List.mem_append_right _ hw)))) (by decide +kernel) (fun w hw => hamb.use hw)) (by decide +kernel) hamb.us hamb.ss hS (by rw [hml]; exact hl.1) dX5_draw_23 dX5_draw_26 dX5_draw_27 dX5_draw_29 dX5_draw_32 (fun x hxx => (htab x hxx).elim) (Nat.le_of_ble_eq_true rfl) (Nat.le_of_ble_eq_true rfl) (Nat.le_of_ble_eq_true rfl) (Nat.le_of_ble_eq_true rfl) hlocks (fun t ha h1 h2 => ⟨(), trivial, (⟨rfl, by omega⟩), xc_F hS h1 h2⟩) hS.2.2 (Nat.le_of_ble_eq_true rfl) (Nat.le_of_ble_eq_true rfl)
      · have t_9 := b_nle rfl c_7
        rw [show (5 : Int32).toInt = 5 from rfl] at t_9
        refine lv_iload_n hx hb dX5_draw_13 rfl (lv_at hl 3 rfl) ?_
        refine lv_if_lt (tgt := 23) hx hb dX5_draw_14 (by decide) (fun c_10 => ?_) (fun c_10 => ?_)
        · have t_11 := b_lt (k := 0) rfl c_10
          obtain ⟨sa, hsa⟩ := hamb.strs (RX5, 155, "no such row or bits") (by decide +kernel)
          exact vx_throwS (names := ["java/lang/RuntimeException", "java/lang/Exception"]) hx hb hlt hown (by decide +kernel) (by decide +kernel) (hts (.classLink RX5 67 "java/lang/IllegalArgumentException") (by decide +kernel)) (hts (.initialized "java/lang/IllegalArgumentException") (by decide +kernel)) hsa (vx_hat (B := ambW) (fun w hw => hts w (List.mem_cons_of_mem _ (List.mem_append_left _ (List.mem_append_right _ hw)))) (by decide +kernel) (fun w hw => hamb.use hw)) (by decide +kernel) hamb.us hamb.ss hS (by rw [hml]; exact hl.1) dX5_draw_23 dX5_draw_26 dX5_draw_27 dX5_draw_29 dX5_draw_32 (fun x hxx => (htab x hxx).elim) (Nat.le_of_ble_eq_true rfl) (Nat.le_of_ble_eq_true rfl) (Nat.le_of_ble_eq_true rfl) (Nat.le_of_ble_eq_true rfl) hlocks (fun t ha h1 h2 => ⟨(), trivial, (⟨rfl, by omega⟩), xc_F hS h1 h2⟩) hS.2.2 (Nat.le_of_ble_eq_true rfl) (Nat.le_of_ble_eq_true rfl)
        · have t_12 := b_nlt (k := 0) rfl c_10
          refine lv_iload_n hx hb dX5_draw_17 rfl (lv_at hl 3 rfl) ?_
          refine lv_bipush (v := 8) hx hb dX5_draw_18 (by decide) ?_
          refine lv_icmp_lt (tgt := 33) hx hb dX5_draw_20 (by decide) (fun c_13 => ?_) (fun c_13 => ?_)
          · have t_14 := b_lt (k := 8) rfl c_13
            refine lv_aload_n hx hb dX5_draw_33 rfl (lv_at hl 0 rfl) ?_
            refine va_get (D := (dC, dI)) (ci := 11) (v := .ref dr) (C := RX5) (T := TX5) (N := 13) hx hb hts (by decide +kernel) hown hK hP 0 rfl rfl 3 (by decide) (hts (.fieldLink RX5 19 "Bothfaces" "drawn" "[[I") (by decide +kernel)) (fun _ h9 => h9) rfl dX5_draw_34 ?_
            refine lv_iload_n hx hb dX5_draw_37 rfl (lv_at hl 1 rfl) ?_
            refine lv_bipush (v := 97) hx hb dX5_draw_38 (by decide) ?_
            refine lv_isub hx hb dX5_draw_40 ?_
            refine lv_topi (fun x_15 ex_15 => ?_)
            have tx_15 : x_15.toInt = p0.toInt + (-97) := by rw [ex_15]; exact b_sub (k := 97) rfl (by omega) (by omega)
            refine ow_aaload hx hb hK hP 1 0 rfl rfl (vp_in_iff.mpr ⟨by omega, by omega⟩) dX5_draw_41 ?_
            rw [ex_15, hrow]
            refine W.eq (g2 := F0 m 42 ls [.ref rr]) rfl ?_
            refine lv_iload_n hx hb dX5_draw_42 rfl (lv_at hl 2 rfl) ?_
            refine va_iald hx hb hK hP 2 1 rfl rfl (vp_in_iff.mpr ⟨by omega, by omega⟩) dX5_draw_43 ?_
            refine lv_topi (fun k_16 ek_16 => ?_)
            obtain rfl : k_16 = 0 := ek_16
            refine lv_istore (lv' := [(4, .int 0), (0, .ref h0), (1, .int p0), (2, .int p1), (3, .int p2)]) hx hb dX5_draw_44 hl (by decide) rfl (fun ls hl => ?_)
            refine lv_aload_n hx hb dX5_draw_46 rfl (lv_at hl 1 rfl) ?_
            refine va_get (D := (dC, dI)) (ci := 11) (v := .ref dr) (C := RX5) (T := TX5) (N := 13) hx hb hts (by decide +kernel) hown hK hP 0 rfl rfl 3 (by decide) (hts (.fieldLink RX5 19 "Bothfaces" "drawn" "[[I") (by decide +kernel)) (fun _ h9 => h9) rfl dX5_draw_47 ?_
            refine lv_iload_n hx hb dX5_draw_50 rfl (lv_at hl 2 rfl) ?_
            refine lv_bipush (v := 97) hx hb dX5_draw_51 (by decide) ?_
            refine lv_isub hx hb dX5_draw_53 ?_
            refine lv_topi (fun x_17 ex_17 => ?_)
            have tx_17 : x_17.toInt = p0.toInt + (-97) := by rw [ex_17]; exact b_sub (k := 97) rfl (by omega) (by omega)
            refine ow_aaload hx hb hK hP 1 0 rfl rfl (vp_in_iff.mpr ⟨by omega, by omega⟩) dX5_draw_54 ?_
            rw [ex_17, hrow]
            refine W.eq (g2 := F0 m 55 ls [.ref rr]) rfl ?_
            refine lv_iload_n hx hb dX5_draw_55 rfl (lv_at hl 3 rfl) ?_
            refine lv_iload_n hx hb dX5_draw_56 rfl (lv_at hl 4 rfl) ?_
            refine va_iast hx hb hK hP hD hS 2 1 rfl rfl (vp_in_iff.mpr ⟨by omega, by omega⟩) dX5_draw_57 (fun H locs hP hD hS => ?_)
            have hP : va_P (dC, dI) vwCl [(h0, .inr (11, [g0, g1, g2, .ref dr, g4, g5, g6, g7, g8, g9, g10, g11, g12])), (dr, .inl (cO, 26, .inr (.inr (.inr (.inr fD))))), (rr, .inl (cI, 5, .inl (upd (fun _ => 0) (p1.toNatClampNeg) p2)))] H := hP
            have hD : va_D A [(h0, .inr (11, [g0, g1, g2, .ref dr, g4, g5, g6, g7, g8, g9, g10, g11, g12])), (dr, .inl (cO, 26, .inr (.inr (.inr (.inr fD))))), (rr, .inl (cI, 5, .inl (upd (fun _ => 0) (p1.toNatClampNeg) p2)))] := hD
            refine lv_iload hx hb dX5_draw_58 (lv_at hl 0 rfl) ?_
            refine W.widen (k := 2) (n := 12) (Nat.le_of_ble_eq_true rfl) (Nat.le_of_ble_eq_true rfl) ?_
            refine vx_ret ?_
            exact W.iret (v := 0) hx hb hr (fun t ht hW => ⟨⟨0, (), rfl, rfl, trivial⟩, hS.F ht⟩) hS.2.2 dX5_draw_60
          · have t_18 := b_nlt (k := 8) rfl c_13
            obtain ⟨sa, hsa⟩ := hamb.strs (RX5, 155, "no such row or bits") (by decide +kernel)
            exact vx_throwS (names := ["java/lang/RuntimeException", "java/lang/Exception"]) hx hb hlt hown (by decide +kernel) (by decide +kernel) (hts (.classLink RX5 67 "java/lang/IllegalArgumentException") (by decide +kernel)) (hts (.initialized "java/lang/IllegalArgumentException") (by decide +kernel)) hsa (vx_hat (B := ambW) (fun w hw => hts w (List.mem_cons_of_mem _ (List.mem_append_left _ (List.mem_append_right _ hw)))) (by decide +kernel) (fun w hw => hamb.use hw)) (by decide +kernel) hamb.us hamb.ss hS (by rw [hml]; exact hl.1) dX5_draw_23 dX5_draw_26 dX5_draw_27 dX5_draw_29 dX5_draw_32 (fun x hxx => (htab x hxx).elim) (Nat.le_of_ble_eq_true rfl) (Nat.le_of_ble_eq_true rfl) (Nat.le_of_ble_eq_true rfl) (Nat.le_of_ble_eq_true rfl) hlocks (fun t ha h1 h2 => ⟨(), trivial, (⟨rfl, by omega⟩), xc_F hS h1 h2⟩) hS.2.2 (Nat.le_of_ble_eq_true rfl) (Nat.le_of_ble_eq_true rfl)
