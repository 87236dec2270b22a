set_option maxHeartbeats 4000000 in
set_option maxRecDepth 100000 in
theorem c_X5_needColour (l : Launch) (hlt : l.stackTraces = false) (dC : Nat → ClassId) (dI : Nat → Nat → Nat) (p0 : Int32) (sz : Nat) : vx_Met l yX5_needColour wsX5_needColour ({ frames := 6, cells := 1, slots := 6, locals := 82 }) (va_Pc [.int p0] (Pw dC dI sz [] [])) (va_Qv (fun _ : Unit => ¬ (p0.toInt < 0 ∨ 7 < p0.toInt)) (fun _ t => True) (va_A [] sz)) (vx_X (fun _ : Unit => True) (fun E _ _ => (E = "java/lang/IllegalArgumentException" ∧ (p0.toInt < 0 ∨ 7 < p0.toInt))) (va_A [] sz)) 1 6 (va_A [] sz) := by
  refine vx_ofW (cc := cX5_needColour) (maxL := 1) (ret := none) (by decide) rfl ?_
  intro p e s m args below meth c s₁ B hml htab hv
  obtain ⟨rfl, hsz, hP, hK, hD0, hamb⟩ := hv
  have hx := B.exec
  have hb := B.bytes
  have hr := B.returns
  have hts := atoms_spec (ws := wsX5_needColour) B.pre
  have hown : s.vm.findClass RX5 = some m.cls := findClass_of_methodNamed B.named
  have hlocks := B.notSynchronized
  subst hsz
  have hD := hD0.self (sz := s.heap.size)
  generalize hAe : va_A [] s.heap.size = A at hD hamb ⊢
  have hA : ∀ q : Nat, s.heap.size ≤ q → A q := fun q h => by rw [← hAe]; exact Or.inr h
  have hS : va_S A s.heap s.heap [] := va_S.rf
  have hP : va_P (dC, dI) vwCl [] s.heap := hP
  have hl := lv_entry ([.int p0]) (n := 1) (Nat.le_of_ble_eq_true rfl)
  rw [lg_entry_eq]
  generalize (lg_sl ([.int p0]) ++ List.replicate (1 - (lg_sl ([.int p0])).length) Slot.unset).toArray = ls at hl ⊢
  have hl : lv_has ls 1 [(0, .int p0)] := hl
  refine lv_iload_n hx hb dX5_needColour_0 rfl (lv_at hl 0 rfl) ?_
  refine lv_if_lt (tgt := 10) hx hb dX5_needColour_1 (by decide) (fun c_1 => ?_) (fun c_1 => ?_)
  · have t_2 := b_lt (k := 0) rfl c_1
    obtain ⟨sa, hsa⟩ := hamb.2.2.1 (RX5, 301, "no such colour") (by decide +kernel)
    exact vx_throwSW (names := ["java/lang/RuntimeException", "java/lang/Exception"]) hx hb hlt hown (by decide +kernel) (by decide +kernel) (hts (.classLink RX5 67 "java/lang/IllegalArgumentException") (by decide +kernel)) (hts (.initialized "java/lang/IllegalArgumentException") (by decide +kernel)) hsa (vx_hat (B := ambW) (fun w hw => hts w (List.mem_cons_of_mem _ (List.mem_append_right _ hw))) (by decide +kernel) (fun w hw => hamb.use hw)) (by decide +kernel) hamb.2.2.2.1 hamb.2.2.2.2 hS (by rw [hml]; exact hl.1) dX5_needColour_10 dX5_needColour_13 dX5_needColour_14 dX5_needColour_17 dX5_needColour_20 (fun x hxx => (htab x hxx).elim) (Nat.le_of_ble_eq_true rfl) (Nat.le_of_ble_eq_true rfl) (Nat.le_of_ble_eq_true rfl) (Nat.le_of_ble_eq_true rfl) hlocks (fun t ha h1 h2 => ⟨(), trivial, (⟨rfl, by omega⟩), xc_F hS h1 h2⟩) hS.2.2 (Nat.le_of_ble_eq_true rfl) (Nat.le_of_ble_eq_true rfl)
  · have t_3 := b_nlt (k := 0) rfl c_1
    refine lv_iload_n hx hb dX5_needColour_4 rfl (lv_at hl 0 rfl) ?_
    refine lv_bipush (v := 8) hx hb dX5_needColour_5 (by decide) ?_
    refine lv_icmp_lt (tgt := 21) hx hb dX5_needColour_7 (by decide) (fun c_4 => ?_) (fun c_4 => ?_)
    · have t_5 := b_lt (k := 8) rfl c_4
      refine W.widen (k := 1) (n := 6) (Nat.le_of_ble_eq_true rfl) (Nat.le_of_ble_eq_true rfl) ?_
      refine vx_ret ?_
      exact W.vret hx hb hr (fun t ht hW => ⟨⟨(), rfl, (by omega), trivial⟩, hS.F ht⟩) hS.2.2 dX5_needColour_21
    · have t_6 := b_nlt (k := 8) rfl c_4
      obtain ⟨sa, hsa⟩ := hamb.2.2.1 (RX5, 301, "no such colour") (by decide +kernel)
      exact vx_throwSW (names := ["java/lang/RuntimeException", "java/lang/Exception"]) hx hb hlt hown (by decide +kernel) (by decide +kernel) (hts (.classLink RX5 67 "java/lang/IllegalArgumentException") (by decide +kernel)) (hts (.initialized "java/lang/IllegalArgumentException") (by decide +kernel)) hsa (vx_hat (B := ambW) (fun w hw => hts w (List.mem_cons_of_mem _ (List.mem_append_right _ hw))) (by decide +kernel) (fun w hw => hamb.use hw)) (by decide +kernel) hamb.2.2.2.1 hamb.2.2.2.2 hS (by rw [hml]; exact hl.1) dX5_needColour_10 dX5_needColour_13 dX5_needColour_14 dX5_needColour_17 dX5_needColour_20 (fun x hxx => (htab x hxx).elim) (Nat.le_of_ble_eq_true rfl) (Nat.le_of_ble_eq_true rfl) (Nat.le_of_ble_eq_true rfl) (Nat.le_of_ble_eq_true rfl) hlocks (fun t ha h1 h2 => ⟨(), trivial, (⟨rfl, by omega⟩), xc_F hS h1 h2⟩) hS.2.2 (Nat.le_of_ble_eq_true rfl) (Nat.le_of_ble_eq_true rfl)

set_option maxHeartbeats 4000000 in
set_option maxRecDepth 100000 in
theorem c_X5_needPack (l : Launch) (hlt : l.stackTraces = false) (dC : Nat → ClassId) (dI : Nat → Nat → Nat) (p0 : Int32) (sz : Nat) : vx_Met l yX5_needPack wsX5_needPack ({ frames := 6, cells := 1, slots := 6, locals := 82 }) (va_Pc [.int p0] (Pw dC dI sz [] [])) (va_Qv (fun _ : Unit => ¬ (p0.toInt < 0 ∨ 3 < p0.toInt)) (fun _ t => True) (va_A [] sz)) (vx_X (fun _ : Unit => True) (fun E _ _ => (E = "java/lang/IllegalArgumentException" ∧ (p0.toInt < 0 ∨ 3 < p0.toInt))) (va_A [] sz)) 1 6 (va_A [] sz) := by
  refine vx_ofW (cc := cX5_needPack) (maxL := 1) (ret := none) (by decide) rfl ?_
  intro p e s m args below meth c s₁ B hml htab hv
  obtain ⟨rfl, hsz, hP, hK, hD0, hamb⟩ := hv
  have hx := B.exec
  have hb := B.bytes
  have hr := B.returns
  have hts := atoms_spec (ws := wsX5_needPack) B.pre
  have hown : s.vm.findClass RX5 = some m.cls := findClass_of_methodNamed B.named
  have hlocks := B.notSynchronized
  subst hsz
  have hD := hD0.self (sz := s.heap.size)
  generalize hAe : va_A [] s.heap.size = A at hD hamb ⊢
  have hA : ∀ q : Nat, s.heap.size ≤ q → A q := fun q h => by rw [← hAe]; exact Or.inr h
  have hS : va_S A s.heap s.heap [] := va_S.rf
  have hP : va_P (dC, dI) vwCl [] s.heap := hP
  have hl := lv_entry ([.int p0]) (n := 1) (Nat.le_of_ble_eq_true rfl)
  rw [lg_entry_eq]
  generalize (lg_sl ([.int p0]) ++ List.replicate (1 - (lg_sl ([.int p0])).length) Slot.unset).toArray = ls at hl ⊢
  have hl : lv_has ls 1 [(0, .int p0)] := hl
  refine lv_iload_n hx hb dX5_needPack_0 rfl (lv_at hl 0 rfl) ?_
  refine lv_if_lt (tgt := 9) hx hb dX5_needPack_1 (by decide) (fun c_1 => ?_) (fun c_1 => ?_)
  · have t_2 := b_lt (k := 0) rfl c_1
    obtain ⟨sa, hsa⟩ := hamb.2.2.1 (RX5, 303, "no such pack") (by decide +kernel)
    exact vx_throwSW (names := ["java/lang/RuntimeException", "java/lang/Exception"]) hx hb hlt hown (by decide +kernel) (by decide +kernel) (hts (.classLink RX5 67 "java/lang/IllegalArgumentException") (by decide +kernel)) (hts (.initialized "java/lang/IllegalArgumentException") (by decide +kernel)) hsa (vx_hat (B := ambW) (fun w hw => hts w (List.mem_cons_of_mem _ (List.mem_append_right _ hw))) (by decide +kernel) (fun w hw => hamb.use hw)) (by decide +kernel) hamb.2.2.2.1 hamb.2.2.2.2 hS (by rw [hml]; exact hl.1) dX5_needPack_9 dX5_needPack_12 dX5_needPack_13 dX5_needPack_16 dX5_needPack_19 (fun x hxx => (htab x hxx).elim) (Nat.le_of_ble_eq_true rfl) (Nat.le_of_ble_eq_true rfl) (Nat.le_of_ble_eq_true rfl) (Nat.le_of_ble_eq_true rfl) hlocks (fun t ha h1 h2 => ⟨(), trivial, (⟨rfl, by omega⟩), xc_F hS h1 h2⟩) hS.2.2 (Nat.le_of_ble_eq_true rfl) (Nat.le_of_ble_eq_true rfl)
  · have t_3 := b_nlt (k := 0) rfl c_1
    refine lv_iload_n hx hb dX5_needPack_4 rfl (lv_at hl 0 rfl) ?_
    refine lv_iconst (v := 4) hx hb dX5_needPack_5 (by decide) ?_
    refine lv_icmp_lt (tgt := 20) hx hb dX5_needPack_6 (by decide) (fun c_4 => ?_) (fun c_4 => ?_)
    · have t_5 := b_lt (k := 4) rfl c_4
      refine W.widen (k := 1) (n := 6) (Nat.le_of_ble_eq_true rfl) (Nat.le_of_ble_eq_true rfl) ?_
      refine vx_ret ?_
      exact W.vret hx hb hr (fun t ht hW => ⟨⟨(), rfl, (by omega), trivial⟩, hS.F ht⟩) hS.2.2 dX5_needPack_20
    · have t_6 := b_nlt (k := 4) rfl c_4
      obtain ⟨sa, hsa⟩ := hamb.2.2.1 (RX5, 303, "no such pack") (by decide +kernel)
      exact vx_throwSW (names := ["java/lang/RuntimeException", "java/lang/Exception"]) hx hb hlt hown (by decide +kernel) (by decide +kernel) (hts (.classLink RX5 67 "java/lang/IllegalArgumentException") (by decide +kernel)) (hts (.initialized "java/lang/IllegalArgumentException") (by decide +kernel)) hsa (vx_hat (B := ambW) (fun w hw => hts w (List.mem_cons_of_mem _ (List.mem_append_right _ hw))) (by decide +kernel) (fun w hw => hamb.use hw)) (by decide +kernel) hamb.2.2.2.1 hamb.2.2.2.2 hS (by rw [hml]; exact hl.1) dX5_needPack_9 dX5_needPack_12 dX5_needPack_13 dX5_needPack_16 dX5_needPack_19 (fun x hxx => (htab x hxx).elim) (Nat.le_of_ble_eq_true rfl) (Nat.le_of_ble_eq_true rfl) (Nat.le_of_ble_eq_true rfl) (Nat.le_of_ble_eq_true rfl) hlocks (fun t ha h1 h2 => ⟨(), trivial, (⟨rfl, by omega⟩), xc_F hS h1 h2⟩) hS.2.2 (Nat.le_of_ble_eq_true rfl) (Nat.le_of_ble_eq_true rfl)

set_option maxHeartbeats 4000000 in
set_option maxRecDepth 100000 in
theorem c_X5_needLetter (l : Launch) (hlt : l.stackTraces = false) (dC : Nat → ClassId) (dI : Nat → Nat → Nat) (p0 : Int32) (sz : Nat) : vx_Met l yX5_needLetter wsX5_needLetter ({ frames := 6, cells := 1, slots := 6, locals := 82 }) (va_Pc [.int p0] (Pw dC dI sz [] [])) (va_Qv (fun _ : Unit => ¬ (p0.toInt < 97 ∨ 122 < p0.toInt)) (fun _ t => True) (va_A [] sz)) (vx_X (fun _ : Unit => True) (fun E _ _ => (E = "java/lang/IllegalArgumentException" ∧ (p0.toInt < 97 ∨ 122 < p0.toInt))) (va_A [] sz)) 1 6 (va_A [] sz) := by
  refine vx_ofW (cc := cX5_needLetter) (maxL := 1) (ret := none) (by decide) rfl ?_
  intro p e s m args below meth c s₁ B hml htab hv
  obtain ⟨rfl, hsz, hP, hK, hD0, hamb⟩ := hv
  have hx := B.exec
  have hb := B.bytes
  have hr := B.returns
  have hts := atoms_spec (ws := wsX5_needLetter) B.pre
  have hown : s.vm.findClass RX5 = some m.cls := findClass_of_methodNamed B.named
  have hlocks := B.notSynchronized
  subst hsz
  have hD := hD0.self (sz := s.heap.size)
  generalize hAe : va_A [] s.heap.size = A at hD hamb ⊢
  have hA : ∀ q : Nat, s.heap.size ≤ q → A q := fun q h => by rw [← hAe]; exact Or.inr h
  have hS : va_S A s.heap s.heap [] := va_S.rf
  have hP : va_P (dC, dI) vwCl [] s.heap := hP
  have hl := lv_entry ([.int p0]) (n := 1) (Nat.le_of_ble_eq_true rfl)
  rw [lg_entry_eq]
  generalize (lg_sl ([.int p0]) ++ List.replicate (1 - (lg_sl ([.int p0])).length) Slot.unset).toArray = ls at hl ⊢
  have hl : lv_has ls 1 [(0, .int p0)] := hl
  refine lv_iload_n hx hb dX5_needLetter_0 rfl (lv_at hl 0 rfl) ?_
  refine lv_bipush (v := 97) hx hb dX5_needLetter_1 (by decide) ?_
  refine lv_icmp_lt (tgt := 12) hx hb dX5_needLetter_3 (by decide) (fun c_1 => ?_) (fun c_1 => ?_)
  · have t_2 := b_lt (k := 97) rfl c_1
    obtain ⟨sa, hsa⟩ := hamb.2.2.1 (RX5, 305, "no such letter") (by decide +kernel)
    exact vx_throwSW (names := ["java/lang/RuntimeException", "java/lang/Exception"]) hx hb hlt hown (by decide +kernel) (by decide +kernel) (hts (.classLink RX5 67 "java/lang/IllegalArgumentException") (by decide +kernel)) (hts (.initialized "java/lang/IllegalArgumentException") (by decide +kernel)) hsa (vx_hat (B := ambW) (fun w hw => hts w (List.mem_cons_of_mem _ (List.mem_append_right _ hw))) (by decide +kernel) (fun w hw => hamb.use hw)) (by decide +kernel) hamb.2.2.2.1 hamb.2.2.2.2 hS (by rw [hml]; exact hl.1) dX5_needLetter_12 dX5_needLetter_15 dX5_needLetter_16 dX5_needLetter_19 dX5_needLetter_22 (fun x hxx => (htab x hxx).elim) (Nat.le_of_ble_eq_true rfl) (Nat.le_of_ble_eq_true rfl) (Nat.le_of_ble_eq_true rfl) (Nat.le_of_ble_eq_true rfl) hlocks (fun t ha h1 h2 => ⟨(), trivial, (⟨rfl, by omega⟩), xc_F hS h1 h2⟩) hS.2.2 (Nat.le_of_ble_eq_true rfl) (Nat.le_of_ble_eq_true rfl)
  · have t_3 := b_nlt (k := 97) rfl c_1
    refine lv_iload_n hx hb dX5_needLetter_6 rfl (lv_at hl 0 rfl) ?_
    refine lv_bipush (v := 122) hx hb dX5_needLetter_7 (by decide) ?_
    refine lv_icmp_le (tgt := 23) hx hb dX5_needLetter_9 (by decide) (fun c_4 => ?_) (fun c_4 => ?_)
    · have t_5 := b_le (k := 122) rfl c_4
      refine W.widen (k := 1) (n := 6) (Nat.le_of_ble_eq_true rfl) (Nat.le_of_ble_eq_true rfl) ?_
      refine vx_ret ?_
      exact W.vret hx hb hr (fun t ht hW => ⟨⟨(), rfl, (by omega), trivial⟩, hS.F ht⟩) hS.2.2 dX5_needLetter_23
    · have t_6 := b_nle (k := 122) rfl c_4
      obtain ⟨sa, hsa⟩ := hamb.2.2.1 (RX5, 305, "no such letter") (by decide +kernel)
      exact vx_throwSW (names := ["java/lang/RuntimeException", "java/lang/Exception"]) hx hb hlt hown (by decide +kernel) (by decide +kernel) (hts (.classLink RX5 67 "java/lang/IllegalArgumentException") (by decide +kernel)) (hts (.initialized "java/lang/IllegalArgumentException") (by decide +kernel)) hsa (vx_hat (B := ambW) (fun w hw => hts w (List.mem_cons_of_mem _ (List.mem_append_right _ hw))) (by decide +kernel) (fun w hw => hamb.use hw)) (by decide +kernel) hamb.2.2.2.1 hamb.2.2.2.2 hS (by rw [hml]; exact hl.1) dX5_needLetter_12 dX5_needLetter_15 dX5_needLetter_16 dX5_needLetter_19 dX5_needLetter_22 (fun x hxx => (htab x hxx).elim) (Nat.le_of_ble_eq_true rfl) (Nat.le_of_ble_eq_true rfl) (Nat.le_of_ble_eq_true rfl) (Nat.le_of_ble_eq_true rfl) hlocks (fun t ha h1 h2 => ⟨(), trivial, (⟨rfl, by omega⟩), xc_F hS h1 h2⟩) hS.2.2 (Nat.le_of_ble_eq_true rfl) (Nat.le_of_ble_eq_true rfl)

set_option maxHeartbeats 4000000 in
set_option maxRecDepth 100000 in
theorem c_X5_needCard (l : Launch) (hlt : l.stackTraces = false) (dC : Nat → ClassId) (dI : Nat → Nat → Nat) (h0 : Nat) (p0 : Int32) (g0 : Value) (g2 : Value) (g3 : Value) (g4 : Value) (g5 : Value) (g6 : Value) (g7 : Value) (g8 : Value) (g9 : Value) (g10 : Value) (g11 : Value) (g12 : Value) (sz : Nat) : vx_Met l yX5_needCard wsX5_needCard ({ frames := 6, cells := 1, slots := 6, locals := 82 }) (va_Pc [.ref h0, .int p0] (Pw dC dI sz [(h0, .inr (11, [g0, .int 0, g2, g3, g4, g5, g6, g7, g8, g9, g10, g11, g12]))] [])) (va_Qv (fun _ : Unit => False) (fun _ t => True) (va_A [(h0, .inr (11, [g0, .int 0, g2, g3, g4, g5, g6, g7, g8, g9, g10, g11, g12]))] sz)) (vx_X (fun _ : Unit => True) (fun E _ _ => (E = "java/lang/IndexOutOfBoundsException" ∧ True)) (va_A [(h0, .inr (11, [g0, .int 0, g2, g3, g4, g5, g6, g7, g8, g9, g10, g11, g12]))] sz)) 1 6 (va_A [(h0, .inr (11, [g0, .int 0, g2, g3, g4, g5, g6, g7, g8, g9, g10, g11, g12]))] sz) := by
  refine vx_ofW (cc := cX5_needCard) (maxL := 2) (ret := none) (by decide) rfl ?_
  intro p e s m args below meth c s₁ B hml htab hv
  obtain ⟨rfl, hsz, hP, hK, hD0, hamb⟩ := hv
  have hx := B.exec
  have hb := B.bytes
  have hr := B.returns
  have hts := atoms_spec (ws := wsX5_needCard) B.pre
  have hown : s.vm.findClass RX5 = some m.cls := findClass_of_methodNamed B.named
  have hlocks := B.notSynchronized
  subst hsz
  have hD := hD0.self (sz := s.heap.size)
  generalize hAe : va_A [(h0, .inr (11, [g0, .int 0, g2, g3, g4, g5, g6, g7, g8, g9, g10, g11, g12]))] s.heap.size = A at hD hamb ⊢
  have hA : ∀ q : Nat, s.heap.size ≤ q → A q := fun q h => by rw [← hAe]; exact Or.inr h
  have hS : va_S A s.heap s.heap [] := va_S.rf
  have hP : va_P (dC, dI) vwCl [(h0, .inr (11, [g0, .int 0, g2, g3, g4, g5, g6, g7, g8, g9, g10, g11, g12]))] s.heap := hP
  have hl := lv_entry ([.ref h0, .int p0]) (n := 2) (Nat.le_of_ble_eq_true rfl)
  rw [lg_entry_eq]
  generalize (lg_sl ([.ref h0, .int p0]) ++ List.replicate (2 - (lg_sl ([.ref h0, .int p0])).length) Slot.unset).toArray = ls at hl ⊢
  have hl : lv_has ls 2 [(0, .ref h0), (1, .int p0)] := hl
  refine lv_iload_n hx hb dX5_needCard_0 rfl (lv_at hl 1 rfl) ?_
  refine lv_if_lt (tgt := 12) hx hb dX5_needCard_1 (by decide) (fun c_1 => ?_) (fun c_1 => ?_)
  · have t_2 := b_lt (k := 0) rfl c_1
    obtain ⟨sa, hsa⟩ := hamb.2.2.1 (RX5, 309, "no such card") (by decide +kernel)
    exact vx_throwSW (names := ["java/lang/RuntimeException", "java/lang/Exception"]) hx hb hlt hown (by decide +kernel) (by decide +kernel) (hts (.classLink RX5 264 "java/lang/IndexOutOfBoundsException") (by decide +kernel)) (hts (.initialized "java/lang/IndexOutOfBoundsException") (by decide +kernel)) hsa (vx_hat (B := ambW) (fun w hw => hts w (List.mem_cons_of_mem _ (List.mem_append_right _ hw))) (by decide +kernel) (fun w hw => hamb.use hw)) (by decide +kernel) hamb.2.2.2.1 hamb.2.2.2.2 hS (by rw [hml]; exact hl.1) dX5_needCard_12 dX5_needCard_15 dX5_needCard_16 dX5_needCard_19 dX5_needCard_22 (fun x hxx => (htab x hxx).elim) (Nat.le_of_ble_eq_true rfl) (Nat.le_of_ble_eq_true rfl) (Nat.le_of_ble_eq_true rfl) (Nat.le_of_ble_eq_true rfl) hlocks (fun t ha h1 h2 => ⟨(), trivial, (⟨rfl, trivial⟩), xc_F hS h1 h2⟩) hS.2.2 (Nat.le_of_ble_eq_true rfl) (Nat.le_of_ble_eq_true rfl)
  · have t_3 := b_nlt (k := 0) rfl c_1
    refine lv_iload_n hx hb dX5_needCard_4 rfl (lv_at hl 1 rfl) ?_
    refine lv_aload_n hx hb dX5_needCard_5 rfl (lv_at hl 0 rfl) ?_
    refine va_get (D := (dC, dI)) (ci := 11) (v := .int 0) (C := RX5) (T := TX5) (N := 13) hx hb hts (by decide +kernel) hown hK hP 0 rfl rfl 1 (by decide) (hts (.fieldLink RX5 83 "Bothfaces" "cardCount" "I") (by decide +kernel)) (fun _ h9 => h9) rfl dX5_needCard_6 ?_
    refine lv_icmp_lt (tgt := 23) hx hb dX5_needCard_9 (by decide) (fun c_4 => ?_) (fun c_4 => ?_)
    · have t_5 := b_lt (k := 0) rfl c_4
      exfalso; omega
    · have t_6 := b_nlt (k := 0) rfl c_4
      obtain ⟨sa, hsa⟩ := hamb.2.2.1 (RX5, 309, "no such card") (by decide +kernel)
      exact vx_throwSW (names := ["java/lang/RuntimeException", "java/lang/Exception"]) hx hb hlt hown (by decide +kernel) (by decide +kernel) (hts (.classLink RX5 264 "java/lang/IndexOutOfBoundsException") (by decide +kernel)) (hts (.initialized "java/lang/IndexOutOfBoundsException") (by decide +kernel)) hsa (vx_hat (B := ambW) (fun w hw => hts w (List.mem_cons_of_mem _ (List.mem_append_right _ hw))) (by decide +kernel) (fun w hw => hamb.use hw)) (by decide +kernel) hamb.2.2.2.1 hamb.2.2.2.2 hS (by rw [hml]; exact hl.1) dX5_needCard_12 dX5_needCard_15 dX5_needCard_16 dX5_needCard_19 dX5_needCard_22 (fun x hxx => (htab x hxx).elim) (Nat.le_of_ble_eq_true rfl) (Nat.le_of_ble_eq_true rfl) (Nat.le_of_ble_eq_true rfl) (Nat.le_of_ble_eq_true rfl) hlocks (fun t ha h1 h2 => ⟨(), trivial, (⟨rfl, trivial⟩), xc_F hS h1 h2⟩) hS.2.2 (Nat.le_of_ble_eq_true rfl) (Nat.le_of_ble_eq_true rfl)

set_option maxHeartbeats 4000000 in
set_option maxRecDepth 100000 in
theorem c_X5_needLast (l : Launch) (hlt : l.stackTraces = false) (dC : Nat → ClassId) (dI : Nat → Nat → Nat) (h0 : Nat) (p0 : Int32) (g0 : Value) (g1 : Value) (g3 : Value) (g4 : Value) (g5 : Value) (g6 : Value) (g7 : Value) (g8 : Value) (g9 : Value) (g10 : Value) (g11 : Value) (g12 : Value) (sz : Nat) : vx_Met l yX5_needLast wsX5_needLast ({ frames := 6, cells := 1, slots := 6, locals := 82 }) (va_Pc [.ref h0, .int p0] (Pw dC dI sz [(h0, .inr (11, [g0, g1, .int 0, g3, g4, g5, g6, g7, g8, g9, g10, g11, g12]))] [])) (va_Qv (fun _ : Unit => ¬ (p0.toInt < 0 ∨ 39 < p0.toInt)) (fun _ t => Qw dC dI (va_A [(h0, .inr (11, [g0, g1, .int 0, g3, g4, g5, g6, g7, g8, g9, g10, g11, g12]))] sz) [(h0, .inr (11, [g0, g1, .int 0, g3, g4, g5, g6, g7, g8, g9, g10, g11, g12]))] [] t) (va_A [(h0, .inr (11, [g0, g1, .int 0, g3, g4, g5, g6, g7, g8, g9, g10, g11, g12]))] sz)) (vx_X (fun _ : Unit => True) (fun E _ _ => (E = "java/lang/IllegalArgumentException" ∧ (p0.toInt < 0 ∨ 39 < p0.toInt))) (va_A [(h0, .inr (11, [g0, g1, .int 0, g3, g4, g5, g6, g7, g8, g9, g10, g11, g12]))] sz)) 1 6 (va_A [(h0, .inr (11, [g0, g1, .int 0, g3, g4, g5, g6, g7, g8, g9, g10, g11, g12]))] sz) := by
  refine vx_ofW (cc := cX5_needLast) (maxL := 2) (ret := none) (by decide) rfl ?_
  intro p e s m args below meth c s₁ B hml htab hv
  obtain ⟨rfl, hsz, hP, hK, hD0, hamb⟩ := hv
  have hx := B.exec
  have hb := B.bytes
  have hr := B.returns
  have hts := atoms_spec (ws := wsX5_needLast) B.pre
  have hown : s.vm.findClass RX5 = some m.cls := findClass_of_methodNamed B.named
  have hlocks := B.notSynchronized
  subst hsz
  have hD := hD0.self (sz := s.heap.size)
  generalize hAe : va_A [(h0, .inr (11, [g0, g1, .int 0, g3, g4, g5, g6, g7, g8, g9, g10, g11, g12]))] s.heap.size = A at hD hamb ⊢
  have hA : ∀ q : Nat, s.heap.size ≤ q → A q := fun q h => by rw [← hAe]; exact Or.inr h
  have hS : va_S A s.heap s.heap [] := va_S.rf
  have hP : va_P (dC, dI) vwCl [(h0, .inr (11, [g0, g1, .int 0, g3, g4, g5, g6, g7, g8, g9, g10, g11, g12]))] s.heap := hP
  have hl := lv_entry ([.ref h0, .int p0]) (n := 2) (Nat.le_of_ble_eq_true rfl)
  rw [lg_entry_eq]
  generalize (lg_sl ([.ref h0, .int p0]) ++ List.replicate (2 - (lg_sl ([.ref h0, .int p0])).length) Slot.unset).toArray = ls at hl ⊢
  have hl : lv_has ls 2 [(0, .ref h0), (1, .int p0)] := hl
  refine lv_iload_n hx hb dX5_needLast_0 rfl (lv_at hl 1 rfl) ?_
  refine lv_aload_n hx hb dX5_needLast_1 rfl (lv_at hl 0 rfl) ?_
  refine va_get (D := (dC, dI)) (ci := 11) (v := .int 0) (C := RX5) (T := TX5) (N := 13) hx hb hts (by decide +kernel) hown hK hP 0 rfl rfl 2 (by decide) (hts (.fieldLink RX5 74 "Bothfaces" "pickCount" "I") (by decide +kernel)) (fun _ h9 => h9) rfl dX5_needLast_2 ?_
  refine lv_icmp_lt (tgt := 14) hx hb dX5_needLast_5 (by decide) (fun c_1 => ?_) (fun c_1 => ?_)
  · have t_2 := b_lt (k := 0) rfl c_1
    obtain ⟨sa, hsa⟩ := hamb.2.2.1 (RX5, 313, "no such last pick of a plan") (by decide +kernel)
    exact vx_throwSW (names := ["java/lang/RuntimeException", "java/lang/Exception"]) hx hb hlt hown (by decide +kernel) (by decide +kernel) (hts (.classLink RX5 67 "java/lang/IllegalArgumentException") (by decide +kernel)) (hts (.initialized "java/lang/IllegalArgumentException") (by decide +kernel)) hsa (vx_hat (B := ambW) (fun w hw => hts w (List.mem_cons_of_mem _ (List.mem_append_right _ hw))) (by decide +kernel) (fun w hw => hamb.use hw)) (by decide +kernel) hamb.2.2.2.1 hamb.2.2.2.2 hS (by rw [hml]; exact hl.1) dX5_needLast_14 dX5_needLast_17 dX5_needLast_18 dX5_needLast_21 dX5_needLast_24 (fun x hxx => (htab x hxx).elim) (Nat.le_of_ble_eq_true rfl) (Nat.le_of_ble_eq_true rfl) (Nat.le_of_ble_eq_true rfl) (Nat.le_of_ble_eq_true rfl) hlocks (fun t ha h1 h2 => ⟨(), trivial, (⟨rfl, by omega⟩), xc_F hS h1 h2⟩) hS.2.2 (Nat.le_of_ble_eq_true rfl) (Nat.le_of_ble_eq_true rfl)
  · have t_3 := b_nlt (k := 0) rfl c_1
    refine lv_iload_n hx hb dX5_needLast_8 rfl (lv_at hl 1 rfl) ?_
    refine lv_bipush (v := 40) hx hb dX5_needLast_9 (by decide) ?_
    refine lv_icmp_lt (tgt := 25) hx hb dX5_needLast_11 (by decide) (fun c_4 => ?_) (fun c_4 => ?_)
    · have t_5 := b_lt (k := 40) rfl c_4
      refine W.widen (k := 1) (n := 6) (Nat.le_of_ble_eq_true rfl) (Nat.le_of_ble_eq_true rfl) ?_
      have hP9 := hP.sub (ws' := [(h0, .inr (11, [g0, g1, .int 0, g3, g4, g5, g6, g7, g8, g9, g10, g11, g12]))]) [0] rfl
      have hD9 := hD.sub (ws' := [(h0, .inr (11, [g0, g1, .int 0, g3, g4, g5, g6, g7, g8, g9, g10, g11, g12]))]) [0] (by decide) rfl
      have hK9 := hK.sub (tys' := []) [] rfl
      refine vx_ret ?_
      exact W.vret hx hb hr (fun t ht hW => ⟨⟨(), rfl, (by omega), ⟨by rw [ht]; exact hP9, va_K.moved hW.alike hK9, hD9⟩⟩, hS.F ht⟩) hS.2.2 dX5_needLast_25
    · have t_6 := b_nlt (k := 40) rfl c_4
      obtain ⟨sa, hsa⟩ := hamb.2.2.1 (RX5, 313, "no such last pick of a plan") (by decide +kernel)
      exact vx_throwSW (names := ["java/lang/RuntimeException", "java/lang/Exception"]) hx hb hlt hown (by decide +kernel) (by decide +kernel) (hts (.classLink RX5 67 "java/lang/IllegalArgumentException") (by decide +kernel)) (hts (.initialized "java/lang/IllegalArgumentException") (by decide +kernel)) hsa (vx_hat (B := ambW) (fun w hw => hts w (List.mem_cons_of_mem _ (List.mem_append_right _ hw))) (by decide +kernel) (fun w hw => hamb.use hw)) (by decide +kernel) hamb.2.2.2.1 hamb.2.2.2.2 hS (by rw [hml]; exact hl.1) dX5_needLast_14 dX5_needLast_17 dX5_needLast_18 dX5_needLast_21 dX5_needLast_24 (fun x hxx => (htab x hxx).elim) (Nat.le_of_ble_eq_true rfl) (Nat.le_of_ble_eq_true rfl) (Nat.le_of_ble_eq_true rfl) (Nat.le_of_ble_eq_true rfl) hlocks (fun t ha h1 h2 => ⟨(), trivial, (⟨rfl, by omega⟩), xc_F hS h1 h2⟩) hS.2.2 (Nat.le_of_ble_eq_true rfl) (Nat.le_of_ble_eq_true rfl)

set_option maxHeartbeats 4000000 in
set_option maxRecDepth 100000 in
theorem c_X5_setPack (l : Launch) (hlt : l.stackTraces = false) (dC : Nat → ClassId) (dI : Nat → Nat → Nat) (h0 : Nat) (p0 : Int32) (p1 : Int32) (g0 : Value) (g2 : Value) (g3 : Value) (g4 : Value) (g5 : Value) (g6 : Value) (g7 : Value) (g8 : Value) (g9 : Value) (g10 : Value) (g11 : Value) (g12 : Value) (sz : Nat) : vx_Met l yX5_setPack wsX5_setPack ({ frames := 7, cells := 1, slots := 6, locals := 103 }) (va_Pc [.ref h0, .int p0, .int p1] (Pw dC dI sz [(h0, .inr (11, [g0, .int 0, g2, g3, g4, g5, g6, g7, g8, g9, g10, g11, g12]))] [])) (va_Qi (fun (r : Int32) (_ : Unit) => False) (fun _ t => True) (va_A [(h0, .inr (11, [g0, .int 0, g2, g3, g4, g5, g6, g7, g8, g9, g10, g11, g12]))] sz)) (vx_X (fun _ : Unit => True) (fun E _ _ => (E = "java/lang/IndexOutOfBoundsException" ∧ True)) (va_A [(h0, .inr (11, [g0, .int 0, g2, g3, g4, g5, g6, g7, g8, g9, g10, g11, g12]))] sz)) 1 6 (va_A [(h0, .inr (11, [g0, .int 0, g2, g3, g4, g5, g6, g7, g8, g9, g10, g11, g12]))] sz) := by
  refine vx_ofW (cc := cX5_setPack) (maxL := 4) (ret := (some .int)) (by decide) rfl ?_
  intro p e s m args below meth c s₁ B hml htab hv
  obtain ⟨rfl, hsz, hP, hK, hD0, hamb⟩ := hv
  have hx := B.exec
  have hb := B.bytes
  have hr := B.returns
  have hts := atoms_spec (ws := wsX5_setPack) B.pre
  have hown : s.vm.findClass RX5 = some m.cls := findClass_of_methodNamed B.named
  have hlocks := B.notSynchronized
  subst hsz
  have hD := hD0.self (sz := s.heap.size)
  generalize hAe : va_A [(h0, .inr (11, [g0, .int 0, g2, g3, g4, g5, g6, g7, g8, g9, g10, g11, g12]))] s.heap.size = A at hD hamb ⊢
  have hA : ∀ q : Nat, s.heap.size ≤ q → A q := fun q h => by rw [← hAe]; exact Or.inr h
  have hS : va_S A s.heap s.heap [] := va_S.rf
  have hP : va_P (dC, dI) vwCl [(h0, .inr (11, [g0, .int 0, g2, g3, g4, g5, g6, g7, g8, g9, g10, g11, g12]))] s.heap := hP
  have hl := lv_entry ([.ref h0, .int p0, .int p1]) (n := 4) (Nat.le_of_ble_eq_true rfl)
  rw [lg_entry_eq]
  generalize (lg_sl ([.ref h0, .int p0, .int p1]) ++ List.replicate (4 - (lg_sl ([.ref h0, .int p0, .int p1])).length) Slot.unset).toArray = ls at hl ⊢
  have hl : lv_has ls 4 [(0, .ref h0), (1, .int p0), (2, .int p1)] := hl
  refine lv_aload_n hx hb dX5_setPack_0 rfl (lv_at hl 0 rfl) ?_
  refine lv_iload_n hx hb dX5_setPack_1 rfl (lv_at hl 1 rfl) ?_
  have hPc := hP.sub (ws' := [(h0, .inr (11, [g0, .int 0, g2, g3, g4, g5, g6, g7, g8, g9, g10, g11, g12]))]) [0] rfl
  have hDc := hD.sub (ws' := [(h0, .inr (11, [g0, .int 0, g2, g3, g4, g5, g6, g7, g8, g9, g10, g11, g12]))]) [0] (by decide) rfl
  have hKc := hK.sub (tys' := []) [] rfl
  have hFc := va_free (wc := [(h0, .inr (11, [g0, .int 0, g2, g3, g4, g5, g6, g7, g8, g9, g10, g11, g12]))]) hD hS hA [0] rfl
  refine vx_callv (vx_runV (As := [.int p0]) (rest := []) ⟨hx, hb, hml, hown, hts⟩ (c_X5_needCard l hlt dC dI h0 p0 g0 g2 g3 g4 g5 g6 g7 g8 g9 g10 g11 g12 s.heap.size) (cwV 1 hts gX5_setPack_X5_needCard rfl rfl rfl (by decide +kernel) ⟨Nat.le_of_ble_eq_true rfl, Nat.le_of_ble_eq_true rfl⟩) ⟨Pw.blind _ _ _ _ _ _, va_recv hKc hPc (ci := 11) (q0 := 0) rfl rfl, fun U hU hW => ⟨rfl, Pw.go hPc hKc hDc hamb hS hFc hU hW⟩⟩ rfl rfl hl.1 rfl (lv_room (Nat.le_of_ble_eq_true rfl)) dX5_setPack_2 ⟨Nat.le_of_ble_eq_true rfl, Nat.le_of_ble_eq_true rfl⟩) hS (fun q _ h => hFc q h) hFc (fun q _ h => hFc q h) (fun E ce q9 ux tx H1 locs1 htx hvm hpx hBX hz1 hk1 hS hce hcv hcl => ?_) (fun u t H1 locs1 ht hvm hw hB hz1 hk1 hS => ?_)
  · obtain ⟨rfl, t_2⟩ := hBX
    exact vx_out (fun x hxx => (htab x hxx).elim) hlocks hce hcv hcl (fun t ht2 ha => ⟨(), trivial, (⟨rfl, trivial⟩), hS.F ht2⟩) hS.2.2 (Nat.le_of_ble_eq_true rfl) (Nat.le_of_ble_eq_true rfl)
  · exact hw.elim

set_option maxHeartbeats 4000000 in
set_option maxRecDepth 100000 in
theorem c_X5_at (l : Launch) (hlt : l.stackTraces = false) (dC : Nat → ClassId) (dI : Nat → Nat → Nat) (h0 : Nat) (p0 : Int32) (g0 : Value) (g2 : Value) (g3 : Value) (g4 : Value) (g5 : Value) (g6 : Value) (g7 : Value) (g8 : Value) (g9 : Value) (g10 : Value) (g11 : Value) (g12 : Value) (sz : Nat) : vx_Met l yX5_at wsX5_at ({ frames := 7, cells := 1, slots := 6, locals := 103 }) (va_Pc [.ref h0, .int p0] (Pw dC dI sz [(h0, .inr (11, [g0, .int 0, g2, g3, g4, g5, g6, g7, g8, g9, g10, g11, g12]))] [])) (va_Qi (fun (r : Int32) (_ : Unit) => False) (fun _ t => True) (va_A [(h0, .inr (11, [g0, .int 0, g2, g3, g4, g5, g6, g7, g8, g9, g10, g11, g12]))] sz)) (vx_X (fun _ : Unit => True) (fun E _ _ => (E = "java/lang/IndexOutOfBoundsException" ∧ True)) (va_A [(h0, .inr (11, [g0, .int 0, g2, g3, g4, g5, g6, g7, g8, g9, g10, g11, g12]))] sz)) 1 6 (va_A [(h0, .inr (11, [g0, .int 0, g2, g3, g4, g5, g6, g7, g8, g9, g10, g11, g12]))] sz) := by
  refine vx_ofW (cc := cX5_at) (maxL := 2) (ret := (some .int)) (by decide) rfl ?_
  intro p e s m args below meth c s₁ B hml htab hv
  obtain ⟨rfl, hsz, hP, hK, hD0, hamb⟩ := hv
  have hx := B.exec
  have hb := B.bytes
  have hr := B.returns
  have hts := atoms_spec (ws := wsX5_at) B.pre
  have hown : s.vm.findClass RX5 = some m.cls := findClass_of_methodNamed B.named
  have hlocks := B.notSynchronized
  subst hsz
  have hD := hD0.self (sz := s.heap.size)
  generalize hAe : va_A [(h0, .inr (11, [g0, .int 0, g2, g3, g4, g5, g6, g7, g8, g9, g10, g11, g12]))] s.heap.size = A at hD hamb ⊢
  have hA : ∀ q : Nat, s.heap.size ≤ q → A q := fun q h => by rw [← hAe]; exact Or.inr h
  have hS : va_S A s.heap s.heap [] := va_S.rf
  have hP : va_P (dC, dI) vwCl [(h0, .inr (11, [g0, .int 0, g2, g3, g4, g5, g6, g7, g8, g9, g10, g11, g12]))] s.heap := hP
  have hl := lv_entry ([.ref h0, .int p0]) (n := 2) (Nat.le_of_ble_eq_true rfl)
  rw [lg_entry_eq]
  generalize (lg_sl ([.ref h0, .int p0]) ++ List.replicate (2 - (lg_sl ([.ref h0, .int p0])).length) Slot.unset).toArray = ls at hl ⊢
  have hl : lv_has ls 2 [(0, .ref h0), (1, .int p0)] := hl
  refine lv_aload_n hx hb dX5_at_0 rfl (lv_at hl 0 rfl) ?_
  refine lv_iload_n hx hb dX5_at_1 rfl (lv_at hl 1 rfl) ?_
  have hPc := hP.sub (ws' := [(h0, .inr (11, [g0, .int 0, g2, g3, g4, g5, g6, g7, g8, g9, g10, g11, g12]))]) [0] rfl
  have hDc := hD.sub (ws' := [(h0, .inr (11, [g0, .int 0, g2, g3, g4, g5, g6, g7, g8, g9, g10, g11, g12]))]) [0] (by decide) rfl
  have hKc := hK.sub (tys' := []) [] rfl
  have hFc := va_free (wc := [(h0, .inr (11, [g0, .int 0, g2, g3, g4, g5, g6, g7, g8, g9, g10, g11, g12]))]) hD hS hA [0] rfl
  refine vx_callv (vx_runV (As := [.int p0]) (rest := []) ⟨hx, hb, hml, hown, hts⟩ (c_X5_needCard l hlt dC dI h0 p0 g0 g2 g3 g4 g5 g6 g7 g8 g9 g10 g11 g12 s.heap.size) (cwV 1 hts gX5_at_X5_needCard rfl rfl rfl (by decide +kernel) ⟨Nat.le_of_ble_eq_true rfl, Nat.le_of_ble_eq_true rfl⟩) ⟨Pw.blind _ _ _ _ _ _, va_recv hKc hPc (ci := 11) (q0 := 0) rfl rfl, fun U hU hW => ⟨rfl, Pw.go hPc hKc hDc hamb hS hFc hU hW⟩⟩ rfl rfl hl.1 rfl (lv_room (Nat.le_of_ble_eq_true rfl)) dX5_at_2 ⟨Nat.le_of_ble_eq_true rfl, Nat.le_of_ble_eq_true rfl⟩) hS (fun q _ h => hFc q h) hFc (fun q _ h => hFc q h) (fun E ce q9 ux tx H1 locs1 htx hvm hpx hBX hz1 hk1 hS hce hcv hcl => ?_) (fun u t H1 locs1 ht hvm hw hB hz1 hk1 hS => ?_)
  · obtain ⟨rfl, t_2⟩ := hBX
    exact vx_out (fun x hxx => (htab x hxx).elim) hlocks hce hcv hcl (fun t ht2 ha => ⟨(), trivial, (⟨rfl, trivial⟩), hS.F ht2⟩) hS.2.2 (Nat.le_of_ble_eq_true rfl) (Nat.le_of_ble_eq_true rfl)
  · exact hw.elim

set_option maxHeartbeats 4000000 in
set_option maxRecDepth 100000 in
theorem c_X5_twist (l : Launch) (hlt : l.stackTraces = false) (dC : Nat → ClassId) (dI : Nat → Nat → Nat) (h0 : Nat) (p0 : Int32) (g0 : Value) (g2 : Value) (g3 : Value) (g4 : Value) (g5 : Value) (g6 : Value) (g7 : Value) (g8 : Value) (g9 : Value) (g10 : Value) (g11 : Value) (g12 : Value) (sz : Nat) : vx_Met l yX5_twist wsX5_twist ({ frames := 7, cells := 1, slots := 6, locals := 103 }) (va_Pc [.ref h0, .int p0] (Pw dC dI sz [(h0, .inr (11, [g0, .int 0, g2, g3, g4, g5, g6, g7, g8, g9, g10, g11, g12]))] [])) (va_Qi (fun (r : Int32) (_ : Unit) => False) (fun _ t => True) (va_A [(h0, .inr (11, [g0, .int 0, g2, g3, g4, g5, g6, g7, g8, g9, g10, g11, g12]))] sz)) (vx_X (fun _ : Unit => True) (fun E _ _ => (E = "java/lang/IndexOutOfBoundsException" ∧ True)) (va_A [(h0, .inr (11, [g0, .int 0, g2, g3, g4, g5, g6, g7, g8, g9, g10, g11, g12]))] sz)) 1 6 (va_A [(h0, .inr (11, [g0, .int 0, g2, g3, g4, g5, g6, g7, g8, g9, g10, g11, g12]))] sz) := by
  refine vx_ofW (cc := cX5_twist) (maxL := 2) (ret := (some .int)) (by decide) rfl ?_
  intro p e s m args below meth c s₁ B hml htab hv
  obtain ⟨rfl, hsz, hP, hK, hD0, hamb⟩ := hv
  have hx := B.exec
  have hb := B.bytes
  have hr := B.returns
  have hts := atoms_spec (ws := wsX5_twist) B.pre
  have hown : s.vm.findClass RX5 = some m.cls := findClass_of_methodNamed B.named
  have hlocks := B.notSynchronized
  subst hsz
  have hD := hD0.self (sz := s.heap.size)
  generalize hAe : va_A [(h0, .inr (11, [g0, .int 0, g2, g3, g4, g5, g6, g7, g8, g9, g10, g11, g12]))] s.heap.size = A at hD hamb ⊢
  have hA : ∀ q : Nat, s.heap.size ≤ q → A q := fun q h => by rw [← hAe]; exact Or.inr h
  have hS : va_S A s.heap s.heap [] := va_S.rf
  have hP : va_P (dC, dI) vwCl [(h0, .inr (11, [g0, .int 0, g2, g3, g4, g5, g6, g7, g8, g9, g10, g11, g12]))] s.heap := hP
  have hl := lv_entry ([.ref h0, .int p0]) (n := 2) (Nat.le_of_ble_eq_true rfl)
  rw [lg_entry_eq]
  generalize (lg_sl ([.ref h0, .int p0]) ++ List.replicate (2 - (lg_sl ([.ref h0, .int p0])).length) Slot.unset).toArray = ls at hl ⊢
  have hl : lv_has ls 2 [(0, .ref h0), (1, .int p0)] := hl
  refine lv_aload_n hx hb dX5_twist_0 rfl (lv_at hl 0 rfl) ?_
  refine lv_iload_n hx hb dX5_twist_1 rfl (lv_at hl 1 rfl) ?_
  have hPc := hP.sub (ws' := [(h0, .inr (11, [g0, .int 0, g2, g3, g4, g5, g6, g7, g8, g9, g10, g11, g12]))]) [0] rfl
  have hDc := hD.sub (ws' := [(h0, .inr (11, [g0, .int 0, g2, g3, g4, g5, g6, g7, g8, g9, g10, g11, g12]))]) [0] (by decide) rfl
  have hKc := hK.sub (tys' := []) [] rfl
  have hFc := va_free (wc := [(h0, .inr (11, [g0, .int 0, g2, g3, g4, g5, g6, g7, g8, g9, g10, g11, g12]))]) hD hS hA [0] rfl
  refine vx_callv (vx_runV (As := [.int p0]) (rest := []) ⟨hx, hb, hml, hown, hts⟩ (c_X5_needCard l hlt dC dI h0 p0 g0 g2 g3 g4 g5 g6 g7 g8 g9 g10 g11 g12 s.heap.size) (cwV 1 hts gX5_twist_X5_needCard rfl rfl rfl (by decide +kernel) ⟨Nat.le_of_ble_eq_true rfl, Nat.le_of_ble_eq_true rfl⟩) ⟨Pw.blind _ _ _ _ _ _, va_recv hKc hPc (ci := 11) (q0 := 0) rfl rfl, fun U hU hW => ⟨rfl, Pw.go hPc hKc hDc hamb hS hFc hU hW⟩⟩ rfl rfl hl.1 rfl (lv_room (Nat.le_of_ble_eq_true rfl)) dX5_twist_2 ⟨Nat.le_of_ble_eq_true rfl, Nat.le_of_ble_eq_true rfl⟩) hS (fun q _ h => hFc q h) hFc (fun q _ h => hFc q h) (fun E ce q9 ux tx H1 locs1 htx hvm hpx hBX hz1 hk1 hS hce hcv hcl => ?_) (fun u t H1 locs1 ht hvm hw hB hz1 hk1 hS => ?_)
  · obtain ⟨rfl, t_2⟩ := hBX
    exact vx_out (fun x hxx => (htab x hxx).elim) hlocks hce hcv hcl (fun t ht2 ha => ⟨(), trivial, (⟨rfl, trivial⟩), hS.F ht2⟩) hS.2.2 (Nat.le_of_ble_eq_true rfl) (Nat.le_of_ble_eq_true rfl)
  · exact hw.elim

set_option maxHeartbeats 4000000 in
set_option maxRecDepth 100000 in
theorem c_X5_slip (l : Launch) (hlt : l.stackTraces = false) (dC : Nat → ClassId) (dI : Nat → Nat → Nat) (h0 : Nat) (p0 : Int32) (p1 : Int32) (g0 : Value) (g2 : Value) (g3 : Value) (g4 : Value) (g5 : Value) (g6 : Value) (g7 : Value) (g8 : Value) (g9 : Value) (g10 : Value) (g11 : Value) (g12 : Value) (sz : Nat) : vx_Met l yX5_slip wsX5_slip ({ frames := 7, cells := 1, slots := 6, locals := 103 }) (va_Pc [.ref h0, .int p0, .int p1] (Pw dC dI sz [(h0, .inr (11, [g0, .int 0, g2, g3, g4, g5, g6, g7, g8, g9, g10, g11, g12]))] [])) (va_Qi (fun (r : Int32) (_ : Unit) => False) (fun _ t => True) (va_A [(h0, .inr (11, [g0, .int 0, g2, g3, g4, g5, g6, g7, g8, g9, g10, g11, g12]))] sz)) (vx_X (fun _ : Unit => True) (fun E _ _ => (E = "java/lang/IndexOutOfBoundsException" ∧ True)) (va_A [(h0, .inr (11, [g0, .int 0, g2, g3, g4, g5, g6, g7, g8, g9, g10, g11, g12]))] sz)) 1 6 (va_A [(h0, .inr (11, [g0, .int 0, g2, g3, g4, g5, g6, g7, g8, g9, g10, g11, g12]))] sz) := by
  refine vx_ofW (cc := cX5_slip) (maxL := 3) (ret := (some .int)) (by decide) rfl ?_
  intro p e s m args below meth c s₁ B hml htab hv
  obtain ⟨rfl, hsz, hP, hK, hD0, hamb⟩ := hv
  have hx := B.exec
  have hb := B.bytes
  have hr := B.returns
  have hts := atoms_spec (ws := wsX5_slip) B.pre
  have hown : s.vm.findClass RX5 = some m.cls := findClass_of_methodNamed B.named
  have hlocks := B.notSynchronized
  subst hsz
  have hD := hD0.self (sz := s.heap.size)
  generalize hAe : va_A [(h0, .inr (11, [g0, .int 0, g2, g3, g4, g5, g6, g7, g8, g9, g10, g11, g12]))] s.heap.size = A at hD hamb ⊢
  have hA : ∀ q : Nat, s.heap.size ≤ q → A q := fun q h => by rw [← hAe]; exact Or.inr h
  have hS : va_S A s.heap s.heap [] := va_S.rf
  have hP : va_P (dC, dI) vwCl [(h0, .inr (11, [g0, .int 0, g2, g3, g4, g5, g6, g7, g8, g9, g10, g11, g12]))] s.heap := hP
  have hl := lv_entry ([.ref h0, .int p0, .int p1]) (n := 3) (Nat.le_of_ble_eq_true rfl)
  rw [lg_entry_eq]
  generalize (lg_sl ([.ref h0, .int p0, .int p1]) ++ List.replicate (3 - (lg_sl ([.ref h0, .int p0, .int p1])).length) Slot.unset).toArray = ls at hl ⊢
  have hl : lv_has ls 3 [(0, .ref h0), (1, .int p0), (2, .int p1)] := hl
  refine lv_aload_n hx hb dX5_slip_0 rfl (lv_at hl 0 rfl) ?_
  refine lv_iload_n hx hb dX5_slip_1 rfl (lv_at hl 1 rfl) ?_
  have hPc := hP.sub (ws' := [(h0, .inr (11, [g0, .int 0, g2, g3, g4, g5, g6, g7, g8, g9, g10, g11, g12]))]) [0] rfl
  have hDc := hD.sub (ws' := [(h0, .inr (11, [g0, .int 0, g2, g3, g4, g5, g6, g7, g8, g9, g10, g11, g12]))]) [0] (by decide) rfl
  have hKc := hK.sub (tys' := []) [] rfl
  have hFc := va_free (wc := [(h0, .inr (11, [g0, .int 0, g2, g3, g4, g5, g6, g7, g8, g9, g10, g11, g12]))]) hD hS hA [0] rfl
  refine vx_callv (vx_runV (As := [.int p0]) (rest := []) ⟨hx, hb, hml, hown, hts⟩ (c_X5_needCard l hlt dC dI h0 p0 g0 g2 g3 g4 g5 g6 g7 g8 g9 g10 g11 g12 s.heap.size) (cwV 1 hts gX5_slip_X5_needCard rfl rfl rfl (by decide +kernel) ⟨Nat.le_of_ble_eq_true rfl, Nat.le_of_ble_eq_true rfl⟩) ⟨Pw.blind _ _ _ _ _ _, va_recv hKc hPc (ci := 11) (q0 := 0) rfl rfl, fun U hU hW => ⟨rfl, Pw.go hPc hKc hDc hamb hS hFc hU hW⟩⟩ rfl rfl hl.1 rfl (lv_room (Nat.le_of_ble_eq_true rfl)) dX5_slip_2 ⟨Nat.le_of_ble_eq_true rfl, Nat.le_of_ble_eq_true rfl⟩) hS (fun q _ h => hFc q h) hFc (fun q _ h => hFc q h) (fun E ce q9 ux tx H1 locs1 htx hvm hpx hBX hz1 hk1 hS hce hcv hcl => ?_) (fun u t H1 locs1 ht hvm hw hB hz1 hk1 hS => ?_)
  · obtain ⟨rfl, t_2⟩ := hBX
    exact vx_out (fun x hxx => (htab x hxx).elim) hlocks hce hcv hcl (fun t ht2 ha => ⟨(), trivial, (⟨rfl, trivial⟩), hS.F ht2⟩) hS.2.2 (Nat.le_of_ble_eq_true rfl) (Nat.le_of_ble_eq_true rfl)
  · exact hw.elim

set_option maxHeartbeats 4000000 in
set_option maxRecDepth 100000 in
theorem c_X5_colour (l : Launch) (hlt : l.stackTraces = false) (dC : Nat → ClassId) (dI : Nat → Nat → Nat) (h0 : Nat) (p0 : Int32) (p1 : Int32) (p2 : Int32) (g0 : Value) (g2 : Value) (g3 : Value) (g4 : Value) (g5 : Value) (g6 : Value) (g7 : Value) (g8 : Value) (g9 : Value) (g10 : Value) (g11 : Value) (g12 : Value) (sz : Nat) : vx_Met l yX5_colour wsX5_colour ({ frames := 7, cells := 1, slots := 6, locals := 103 }) (va_Pc [.ref h0, .int p0, .int p1, .int p2] (Pw dC dI sz [(h0, .inr (11, [g0, .int 0, g2, g3, g4, g5, g6, g7, g8, g9, g10, g11, g12]))] [])) (va_Qi (fun (r : Int32) (_ : Unit) => False) (fun _ t => True) (va_A [(h0, .inr (11, [g0, .int 0, g2, g3, g4, g5, g6, g7, g8, g9, g10, g11, g12]))] sz)) (vx_X (fun _ : Unit => True) (fun E _ _ => (E = "java/lang/IndexOutOfBoundsException" ∧ True)) (va_A [(h0, .inr (11, [g0, .int 0, g2, g3, g4, g5, g6, g7, g8, g9, g10, g11, g12]))] sz)) 1 6 (va_A [(h0, .inr (11, [g0, .int 0, g2, g3, g4, g5, g6, g7, g8, g9, g10, g11, g12]))] sz) := by
  refine vx_ofW (cc := cX5_colour) (maxL := 4) (ret := (some .int)) (by decide) rfl ?_
  intro p e s m args below meth c s₁ B hml htab hv
  obtain ⟨rfl, hsz, hP, hK, hD0, hamb⟩ := hv
  have hx := B.exec
  have hb := B.bytes
  have hr := B.returns
  have hts := atoms_spec (ws := wsX5_colour) B.pre
  have hown : s.vm.findClass RX5 = some m.cls := findClass_of_methodNamed B.named
  have hlocks := B.notSynchronized
  subst hsz
  have hD := hD0.self (sz := s.heap.size)
  generalize hAe : va_A [(h0, .inr (11, [g0, .int 0, g2, g3, g4, g5, g6, g7, g8, g9, g10, g11, g12]))] s.heap.size = A at hD hamb ⊢
  have hA : ∀ q : Nat, s.heap.size ≤ q → A q := fun q h => by rw [← hAe]; exact Or.inr h
  have hS : va_S A s.heap s.heap [] := va_S.rf
  have hP : va_P (dC, dI) vwCl [(h0, .inr (11, [g0, .int 0, g2, g3, g4, g5, g6, g7, g8, g9, g10, g11, g12]))] s.heap := hP
  have hl := lv_entry ([.ref h0, .int p0, .int p1, .int p2]) (n := 4) (Nat.le_of_ble_eq_true rfl)
  rw [lg_entry_eq]
  generalize (lg_sl ([.ref h0, .int p0, .int p1, .int p2]) ++ List.replicate (4 - (lg_sl ([.ref h0, .int p0, .int p1, .int p2])).length) Slot.unset).toArray = ls at hl ⊢
  have hl : lv_has ls 4 [(0, .ref h0), (1, .int p0), (2, .int p1), (3, .int p2)] := hl
  refine lv_aload_n hx hb dX5_colour_0 rfl (lv_at hl 0 rfl) ?_
  refine lv_iload_n hx hb dX5_colour_1 rfl (lv_at hl 1 rfl) ?_
  have hPc := hP.sub (ws' := [(h0, .inr (11, [g0, .int 0, g2, g3, g4, g5, g6, g7, g8, g9, g10, g11, g12]))]) [0] rfl
  have hDc := hD.sub (ws' := [(h0, .inr (11, [g0, .int 0, g2, g3, g4, g5, g6, g7, g8, g9, g10, g11, g12]))]) [0] (by decide) rfl
  have hKc := hK.sub (tys' := []) [] rfl
  have hFc := va_free (wc := [(h0, .inr (11, [g0, .int 0, g2, g3, g4, g5, g6, g7, g8, g9, g10, g11, g12]))]) hD hS hA [0] rfl
  refine vx_callv (vx_runV (As := [.int p0]) (rest := []) ⟨hx, hb, hml, hown, hts⟩ (c_X5_needCard l hlt dC dI h0 p0 g0 g2 g3 g4 g5 g6 g7 g8 g9 g10 g11 g12 s.heap.size) (cwV 1 hts gX5_colour_X5_needCard rfl rfl rfl (by decide +kernel) ⟨Nat.le_of_ble_eq_true rfl, Nat.le_of_ble_eq_true rfl⟩) ⟨Pw.blind _ _ _ _ _ _, va_recv hKc hPc (ci := 11) (q0 := 0) rfl rfl, fun U hU hW => ⟨rfl, Pw.go hPc hKc hDc hamb hS hFc hU hW⟩⟩ rfl rfl hl.1 rfl (lv_room (Nat.le_of_ble_eq_true rfl)) dX5_colour_2 ⟨Nat.le_of_ble_eq_true rfl, Nat.le_of_ble_eq_true rfl⟩) hS (fun q _ h => hFc q h) hFc (fun q _ h => hFc q h) (fun E ce q9 ux tx H1 locs1 htx hvm hpx hBX hz1 hk1 hS hce hcv hcl => ?_) (fun u t H1 locs1 ht hvm hw hB hz1 hk1 hS => ?_)
  · obtain ⟨rfl, t_2⟩ := hBX
    exact vx_out (fun x hxx => (htab x hxx).elim) hlocks hce hcv hcl (fun t ht2 ha => ⟨(), trivial, (⟨rfl, trivial⟩), hS.F ht2⟩) hS.2.2 (Nat.le_of_ble_eq_true rfl) (Nat.le_of_ble_eq_true rfl)
  · exact hw.elim

set_option maxHeartbeats 4000000 in
set_option maxRecDepth 100000 in
theorem c_X5_isIdle (l : Launch) (hlt : l.stackTraces = false) (dC : Nat → ClassId) (dI : Nat → Nat → Nat) (h0 : Nat) (p0 : Int32) (p1 : Int32) (g0 : Value) (g2 : Value) (g3 : Value) (g4 : Value) (g5 : Value) (g6 : Value) (g7 : Value) (g8 : Value) (g9 : Value) (g10 : Value) (g11 : Value) (g12 : Value) (sz : Nat) : vx_Met l yX5_isIdle wsX5_isIdle ({ frames := 7, cells := 1, slots := 6, locals := 103 }) (va_Pc [.ref h0, .int p0, .int p1] (Pw dC dI sz [(h0, .inr (11, [g0, .int 0, g2, g3, g4, g5, g6, g7, g8, g9, g10, g11, g12]))] [])) (va_Qi (fun (r : Int32) (_ : Unit) => False) (fun _ t => True) (va_A [(h0, .inr (11, [g0, .int 0, g2, g3, g4, g5, g6, g7, g8, g9, g10, g11, g12]))] sz)) (vx_X (fun _ : Unit => True) (fun E _ _ => (E = "java/lang/IndexOutOfBoundsException" ∧ True)) (va_A [(h0, .inr (11, [g0, .int 0, g2, g3, g4, g5, g6, g7, g8, g9, g10, g11, g12]))] sz)) 1 6 (va_A [(h0, .inr (11, [g0, .int 0, g2, g3, g4, g5, g6, g7, g8, g9, g10, g11, g12]))] sz) := by
  refine vx_ofW (cc := cX5_isIdle) (maxL := 3) (ret := (some .boolean)) (by decide) rfl ?_
  intro p e s m args below meth c s₁ B hml htab hv
  obtain ⟨rfl, hsz, hP, hK, hD0, hamb⟩ := hv
  have hx := B.exec
  have hb := B.bytes
  have hr := B.returns
  have hts := atoms_spec (ws := wsX5_isIdle) B.pre
  have hown : s.vm.findClass RX5 = some m.cls := findClass_of_methodNamed B.named
  have hlocks := B.notSynchronized
  subst hsz
  have hD := hD0.self (sz := s.heap.size)
  generalize hAe : va_A [(h0, .inr (11, [g0, .int 0, g2, g3, g4, g5, g6, g7, g8, g9, g10, g11, g12]))] s.heap.size = A at hD hamb ⊢
  have hA : ∀ q : Nat, s.heap.size ≤ q → A q := fun q h => by rw [← hAe]; exact Or.inr h
  have hS : va_S A s.heap s.heap [] := va_S.rf
  have hP : va_P (dC, dI) vwCl [(h0, .inr (11, [g0, .int 0, g2, g3, g4, g5, g6, g7, g8, g9, g10, g11, g12]))] s.heap := hP
  have hl := lv_entry ([.ref h0, .int p0, .int p1]) (n := 3) (Nat.le_of_ble_eq_true rfl)
  rw [lg_entry_eq]
  generalize (lg_sl ([.ref h0, .int p0, .int p1]) ++ List.replicate (3 - (lg_sl ([.ref h0, .int p0, .int p1])).length) Slot.unset).toArray = ls at hl ⊢
  have hl : lv_has ls 3 [(0, .ref h0), (1, .int p0), (2, .int p1)] := hl
  refine lv_aload_n hx hb dX5_isIdle_0 rfl (lv_at hl 0 rfl) ?_
  refine lv_iload_n hx hb dX5_isIdle_1 rfl (lv_at hl 1 rfl) ?_
  have hPc := hP.sub (ws' := [(h0, .inr (11, [g0, .int 0, g2, g3, g4, g5, g6, g7, g8, g9, g10, g11, g12]))]) [0] rfl
  have hDc := hD.sub (ws' := [(h0, .inr (11, [g0, .int 0, g2, g3, g4, g5, g6, g7, g8, g9, g10, g11, g12]))]) [0] (by decide) rfl
  have hKc := hK.sub (tys' := []) [] rfl
  have hFc := va_free (wc := [(h0, .inr (11, [g0, .int 0, g2, g3, g4, g5, g6, g7, g8, g9, g10, g11, g12]))]) hD hS hA [0] rfl
  refine vx_callv (vx_runV (As := [.int p0]) (rest := []) ⟨hx, hb, hml, hown, hts⟩ (c_X5_needCard l hlt dC dI h0 p0 g0 g2 g3 g4 g5 g6 g7 g8 g9 g10 g11 g12 s.heap.size) (cwV 1 hts gX5_isIdle_X5_needCard rfl rfl rfl (by decide +kernel) ⟨Nat.le_of_ble_eq_true rfl, Nat.le_of_ble_eq_true rfl⟩) ⟨Pw.blind _ _ _ _ _ _, va_recv hKc hPc (ci := 11) (q0 := 0) rfl rfl, fun U hU hW => ⟨rfl, Pw.go hPc hKc hDc hamb hS hFc hU hW⟩⟩ rfl rfl hl.1 rfl (lv_room (Nat.le_of_ble_eq_true rfl)) dX5_isIdle_2 ⟨Nat.le_of_ble_eq_true rfl, Nat.le_of_ble_eq_true rfl⟩) hS (fun q _ h => hFc q h) hFc (fun q _ h => hFc q h) (fun E ce q9 ux tx H1 locs1 htx hvm hpx hBX hz1 hk1 hS hce hcv hcl => ?_) (fun u t H1 locs1 ht hvm hw hB hz1 hk1 hS => ?_)
  · obtain ⟨rfl, t_2⟩ := hBX
    exact vx_out (fun x hxx => (htab x hxx).elim) hlocks hce hcv hcl (fun t ht2 ha => ⟨(), trivial, (⟨rfl, trivial⟩), hS.F ht2⟩) hS.2.2 (Nat.le_of_ble_eq_true rfl) (Nat.le_of_ble_eq_true rfl)
  · exact hw.elim

set_option maxHeartbeats 4000000 in
set_option maxRecDepth 100000 in
theorem c_X5_longestFloat (l : Launch) (hlt : l.stackTraces = false) (dC : Nat → ClassId) (dI : Nat → Nat → Nat) (h0 : Nat) (p0 : Int32) (g0 : Value) (g2 : Value) (g3 : Value) (g4 : Value) (g5 : Value) (g6 : Value) (g7 : Value) (g8 : Value) (g9 : Value) (g10 : Value) (g11 : Value) (g12 : Value) (sz : Nat) : vx_Met l yX5_longestFloat wsX5_longestFloat ({ frames := 7, cells := 1, slots := 6, locals := 103 }) (va_Pc [.ref h0, .int p0] (Pw dC dI sz [(h0, .inr (11, [g0, .int 0, g2, g3, g4, g5, g6, g7, g8, g9, g10, g11, g12]))] [])) (va_Qi (fun (r : Int32) (_ : Unit) => False) (fun _ t => True) (va_A [(h0, .inr (11, [g0, .int 0, g2, g3, g4, g5, g6, g7, g8, g9, g10, g11, g12]))] sz)) (vx_X (fun _ : Unit => True) (fun E _ _ => (E = "java/lang/IndexOutOfBoundsException" ∧ True)) (va_A [(h0, .inr (11, [g0, .int 0, g2, g3, g4, g5, g6, g7, g8, g9, g10, g11, g12]))] sz)) 1 6 (va_A [(h0, .inr (11, [g0, .int 0, g2, g3, g4, g5, g6, g7, g8, g9, g10, g11, g12]))] sz) := by
  refine vx_ofW (cc := cX5_longestFloat) (maxL := 5) (ret := (some .int)) (by decide) rfl ?_
  intro p e s m args below meth c s₁ B hml htab hv
  obtain ⟨rfl, hsz, hP, hK, hD0, hamb⟩ := hv
  have hx := B.exec
  have hb := B.bytes
  have hr := B.returns
  have hts := atoms_spec (ws := wsX5_longestFloat) B.pre
  have hown : s.vm.findClass RX5 = some m.cls := findClass_of_methodNamed B.named
  have hlocks := B.notSynchronized
  subst hsz
  have hD := hD0.self (sz := s.heap.size)
  generalize hAe : va_A [(h0, .inr (11, [g0, .int 0, g2, g3, g4, g5, g6, g7, g8, g9, g10, g11, g12]))] s.heap.size = A at hD hamb ⊢
  have hA : ∀ q : Nat, s.heap.size ≤ q → A q := fun q h => by rw [← hAe]; exact Or.inr h
  have hS : va_S A s.heap s.heap [] := va_S.rf
  have hP : va_P (dC, dI) vwCl [(h0, .inr (11, [g0, .int 0, g2, g3, g4, g5, g6, g7, g8, g9, g10, g11, g12]))] s.heap := hP
  have hl := lv_entry ([.ref h0, .int p0]) (n := 5) (Nat.le_of_ble_eq_true rfl)
  rw [lg_entry_eq]
  generalize (lg_sl ([.ref h0, .int p0]) ++ List.replicate (5 - (lg_sl ([.ref h0, .int p0])).length) Slot.unset).toArray = ls at hl ⊢
  have hl : lv_has ls 5 [(0, .ref h0), (1, .int p0)] := hl
  refine lv_aload_n hx hb dX5_longestFloat_0 rfl (lv_at hl 0 rfl) ?_
  refine lv_iload_n hx hb dX5_longestFloat_1 rfl (lv_at hl 1 rfl) ?_
  have hPc := hP.sub (ws' := [(h0, .inr (11, [g0, .int 0, g2, g3, g4, g5, g6, g7, g8, g9, g10, g11, g12]))]) [0] rfl
  have hDc := hD.sub (ws' := [(h0, .inr (11, [g0, .int 0, g2, g3, g4, g5, g6, g7, g8, g9, g10, g11, g12]))]) [0] (by decide) rfl
  have hKc := hK.sub (tys' := []) [] rfl
  have hFc := va_free (wc := [(h0, .inr (11, [g0, .int 0, g2, g3, g4, g5, g6, g7, g8, g9, g10, g11, g12]))]) hD hS hA [0] rfl
  refine vx_callv (vx_runV (As := [.int p0]) (rest := []) ⟨hx, hb, hml, hown, hts⟩ (c_X5_needCard l hlt dC dI h0 p0 g0 g2 g3 g4 g5 g6 g7 g8 g9 g10 g11 g12 s.heap.size) (cwV 1 hts gX5_longestFloat_X5_needCard rfl rfl rfl (by decide +kernel) ⟨Nat.le_of_ble_eq_true rfl, Nat.le_of_ble_eq_true rfl⟩) ⟨Pw.blind _ _ _ _ _ _, va_recv hKc hPc (ci := 11) (q0 := 0) rfl rfl, fun U hU hW => ⟨rfl, Pw.go hPc hKc hDc hamb hS hFc hU hW⟩⟩ rfl rfl hl.1 rfl (lv_room (Nat.le_of_ble_eq_true rfl)) dX5_longestFloat_2 ⟨Nat.le_of_ble_eq_true rfl, Nat.le_of_ble_eq_true rfl⟩) hS (fun q _ h => hFc q h) hFc (fun q _ h => hFc q h) (fun E ce q9 ux tx H1 locs1 htx hvm hpx hBX hz1 hk1 hS hce hcv hcl => ?_) (fun u t H1 locs1 ht hvm hw hB hz1 hk1 hS => ?_)
  · obtain ⟨rfl, t_2⟩ := hBX
    exact vx_out (fun x hxx => (htab x hxx).elim) hlocks hce hcv hcl (fun t ht2 ha => ⟨(), trivial, (⟨rfl, trivial⟩), hS.F ht2⟩) hS.2.2 (Nat.le_of_ble_eq_true rfl) (Nat.le_of_ble_eq_true rfl)
  · exact hw.elim

set_option maxHeartbeats 4000000 in
set_option maxRecDepth 100000 in
theorem c_X5_wanted (l : Launch) (hlt : l.stackTraces = false) (dC : Nat → ClassId) (dI : Nat → Nat → Nat) (h0 : Nat) (p0 : Int32) (p1 : Int32) (p2 : Int32) (g0 : Value) (g2 : Value) (g3 : Value) (g4 : Value) (g5 : Value) (g6 : Value) (g7 : Value) (g8 : Value) (g9 : Value) (g10 : Value) (g11 : Value) (g12 : Value) (sz : Nat) : vx_Met l yX5_wanted wsX5_wanted ({ frames := 7, cells := 1, slots := 6, locals := 103 }) (va_Pc [.ref h0, .int p0, .int p1, .int p2] (Pw dC dI sz [(h0, .inr (11, [g0, .int 0, g2, g3, g4, g5, g6, g7, g8, g9, g10, g11, g12]))] [])) (va_Qi (fun (r : Int32) (_ : Unit) => False) (fun _ t => True) (va_A [(h0, .inr (11, [g0, .int 0, g2, g3, g4, g5, g6, g7, g8, g9, g10, g11, g12]))] sz)) (vx_X (fun _ : Unit => True) (fun E _ _ => (E = "java/lang/IndexOutOfBoundsException" ∧ True)) (va_A [(h0, .inr (11, [g0, .int 0, g2, g3, g4, g5, g6, g7, g8, g9, g10, g11, g12]))] sz)) 1 6 (va_A [(h0, .inr (11, [g0, .int 0, g2, g3, g4, g5, g6, g7, g8, g9, g10, g11, g12]))] sz) := by
  refine vx_ofW (cc := cX5_wanted) (maxL := 4) (ret := (some .int)) (by decide) rfl ?_
  intro p e s m args below meth c s₁ B hml htab hv
  obtain ⟨rfl, hsz, hP, hK, hD0, hamb⟩ := hv
  have hx := B.exec
  have hb := B.bytes
  have hr := B.returns
  have hts := atoms_spec (ws := wsX5_wanted) B.pre
  have hown : s.vm.findClass RX5 = some m.cls := findClass_of_methodNamed B.named
  have hlocks := B.notSynchronized
  subst hsz
  have hD := hD0.self (sz := s.heap.size)
  generalize hAe : va_A [(h0, .inr (11, [g0, .int 0, g2, g3, g4, g5, g6, g7, g8, g9, g10, g11, g12]))] s.heap.size = A at hD hamb ⊢
  have hA : ∀ q : Nat, s.heap.size ≤ q → A q := fun q h => by rw [← hAe]; exact Or.inr h
  have hS : va_S A s.heap s.heap [] := va_S.rf
  have hP : va_P (dC, dI) vwCl [(h0, .inr (11, [g0, .int 0, g2, g3, g4, g5, g6, g7, g8, g9, g10, g11, g12]))] s.heap := hP
  have hl := lv_entry ([.ref h0, .int p0, .int p1, .int p2]) (n := 4) (Nat.le_of_ble_eq_true rfl)
  rw [lg_entry_eq]
  generalize (lg_sl ([.ref h0, .int p0, .int p1, .int p2]) ++ List.replicate (4 - (lg_sl ([.ref h0, .int p0, .int p1, .int p2])).length) Slot.unset).toArray = ls at hl ⊢
  have hl : lv_has ls 4 [(0, .ref h0), (1, .int p0), (2, .int p1), (3, .int p2)] := hl
  refine lv_aload_n hx hb dX5_wanted_0 rfl (lv_at hl 0 rfl) ?_
  refine lv_iload_n hx hb dX5_wanted_1 rfl (lv_at hl 1 rfl) ?_
  have hPc := hP.sub (ws' := [(h0, .inr (11, [g0, .int 0, g2, g3, g4, g5, g6, g7, g8, g9, g10, g11, g12]))]) [0] rfl
  have hDc := hD.sub (ws' := [(h0, .inr (11, [g0, .int 0, g2, g3, g4, g5, g6, g7, g8, g9, g10, g11, g12]))]) [0] (by decide) rfl
  have hKc := hK.sub (tys' := []) [] rfl
  have hFc := va_free (wc := [(h0, .inr (11, [g0, .int 0, g2, g3, g4, g5, g6, g7, g8, g9, g10, g11, g12]))]) hD hS hA [0] rfl
  refine vx_callv (vx_runV (As := [.int p0]) (rest := []) ⟨hx, hb, hml, hown, hts⟩ (c_X5_needCard l hlt dC dI h0 p0 g0 g2 g3 g4 g5 g6 g7 g8 g9 g10 g11 g12 s.heap.size) (cwV 1 hts gX5_wanted_X5_needCard rfl rfl rfl (by decide +kernel) ⟨Nat.le_of_ble_eq_true rfl, Nat.le_of_ble_eq_true rfl⟩) ⟨Pw.blind _ _ _ _ _ _, va_recv hKc hPc (ci := 11) (q0 := 0) rfl rfl, fun U hU hW => ⟨rfl, Pw.go hPc hKc hDc hamb hS hFc hU hW⟩⟩ rfl rfl hl.1 rfl (lv_room (Nat.le_of_ble_eq_true rfl)) dX5_wanted_2 ⟨Nat.le_of_ble_eq_true rfl, Nat.le_of_ble_eq_true rfl⟩) hS (fun q _ h => hFc q h) hFc (fun q _ h => hFc q h) (fun E ce q9 ux tx H1 locs1 htx hvm hpx hBX hz1 hk1 hS hce hcv hcl => ?_) (fun u t H1 locs1 ht hvm hw hB hz1 hk1 hS => ?_)
  · obtain ⟨rfl, t_2⟩ := hBX
    exact vx_out (fun x hxx => (htab x hxx).elim) hlocks hce hcv hcl (fun t ht2 ha => ⟨(), trivial, (⟨rfl, trivial⟩), hS.F ht2⟩) hS.2.2 (Nat.le_of_ble_eq_true rfl) (Nat.le_of_ble_eq_true rfl)
  · exact hw.elim

set_option maxHeartbeats 4000000 in
set_option maxRecDepth 100000 in
theorem c_X5_pairs (l : Launch) (hlt : l.stackTraces = false) (dC : Nat → ClassId) (dI : Nat → Nat → Nat) (h0 : Nat) (p0 : Int32) (g0 : Value) (g2 : Value) (g3 : Value) (g4 : Value) (g5 : Value) (g6 : Value) (g7 : Value) (g8 : Value) (g9 : Value) (g10 : Value) (g11 : Value) (g12 : Value) (sz : Nat) : vx_Met l yX5_pairs wsX5_pairs ({ frames := 7, cells := 1, slots := 6, locals := 103 }) (va_Pc [.ref h0, .int p0] (Pw dC dI sz [(h0, .inr (11, [g0, .int 0, g2, g3, g4, g5, g6, g7, g8, g9, g10, g11, g12]))] [])) (va_Qi (fun (r : Int32) (_ : Unit) => False) (fun _ t => True) (va_A [(h0, .inr (11, [g0, .int 0, g2, g3, g4, g5, g6, g7, g8, g9, g10, g11, g12]))] sz)) (vx_X (fun _ : Unit => True) (fun E _ _ => (E = "java/lang/IndexOutOfBoundsException" ∧ True)) (va_A [(h0, .inr (11, [g0, .int 0, g2, g3, g4, g5, g6, g7, g8, g9, g10, g11, g12]))] sz)) 1 6 (va_A [(h0, .inr (11, [g0, .int 0, g2, g3, g4, g5, g6, g7, g8, g9, g10, g11, g12]))] sz) := by
  refine vx_ofW (cc := cX5_pairs) (maxL := 4) (ret := (some .int)) (by decide) rfl ?_
  intro p e s m args below meth c s₁ B hml htab hv
  obtain ⟨rfl, hsz, hP, hK, hD0, hamb⟩ := hv
  have hx := B.exec
  have hb := B.bytes
  have hr := B.returns
  have hts := atoms_spec (ws := wsX5_pairs) B.pre
  have hown : s.vm.findClass RX5 = some m.cls := findClass_of_methodNamed B.named
  have hlocks := B.notSynchronized
  subst hsz
  have hD := hD0.self (sz := s.heap.size)
  generalize hAe : va_A [(h0, .inr (11, [g0, .int 0, g2, g3, g4, g5, g6, g7, g8, g9, g10, g11, g12]))] s.heap.size = A at hD hamb ⊢
  have hA : ∀ q : Nat, s.heap.size ≤ q → A q := fun q h => by rw [← hAe]; exact Or.inr h
  have hS : va_S A s.heap s.heap [] := va_S.rf
  have hP : va_P (dC, dI) vwCl [(h0, .inr (11, [g0, .int 0, g2, g3, g4, g5, g6, g7, g8, g9, g10, g11, g12]))] s.heap := hP
  have hl := lv_entry ([.ref h0, .int p0]) (n := 4) (Nat.le_of_ble_eq_true rfl)
  rw [lg_entry_eq]
  generalize (lg_sl ([.ref h0, .int p0]) ++ List.replicate (4 - (lg_sl ([.ref h0, .int p0])).length) Slot.unset).toArray = ls at hl ⊢
  have hl : lv_has ls 4 [(0, .ref h0), (1, .int p0)] := hl
  refine lv_aload_n hx hb dX5_pairs_0 rfl (lv_at hl 0 rfl) ?_
  refine lv_iload_n hx hb dX5_pairs_1 rfl (lv_at hl 1 rfl) ?_
  have hPc := hP.sub (ws' := [(h0, .inr (11, [g0, .int 0, g2, g3, g4, g5, g6, g7, g8, g9, g10, g11, g12]))]) [0] rfl
  have hDc := hD.sub (ws' := [(h0, .inr (11, [g0, .int 0, g2, g3, g4, g5, g6, g7, g8, g9, g10, g11, g12]))]) [0] (by decide) rfl
  have hKc := hK.sub (tys' := []) [] rfl
  have hFc := va_free (wc := [(h0, .inr (11, [g0, .int 0, g2, g3, g4, g5, g6, g7, g8, g9, g10, g11, g12]))]) hD hS hA [0] rfl
  refine vx_callv (vx_runV (As := [.int p0]) (rest := []) ⟨hx, hb, hml, hown, hts⟩ (c_X5_needCard l hlt dC dI h0 p0 g0 g2 g3 g4 g5 g6 g7 g8 g9 g10 g11 g12 s.heap.size) (cwV 1 hts gX5_pairs_X5_needCard rfl rfl rfl (by decide +kernel) ⟨Nat.le_of_ble_eq_true rfl, Nat.le_of_ble_eq_true rfl⟩) ⟨Pw.blind _ _ _ _ _ _, va_recv hKc hPc (ci := 11) (q0 := 0) rfl rfl, fun U hU hW => ⟨rfl, Pw.go hPc hKc hDc hamb hS hFc hU hW⟩⟩ rfl rfl hl.1 rfl (lv_room (Nat.le_of_ble_eq_true rfl)) dX5_pairs_2 ⟨Nat.le_of_ble_eq_true rfl, Nat.le_of_ble_eq_true rfl⟩) hS (fun q _ h => hFc q h) hFc (fun q _ h => hFc q h) (fun E ce q9 ux tx H1 locs1 htx hvm hpx hBX hz1 hk1 hS hce hcv hcl => ?_) (fun u t H1 locs1 ht hvm hw hB hz1 hk1 hS => ?_)
  · obtain ⟨rfl, t_2⟩ := hBX
    exact vx_out (fun x hxx => (htab x hxx).elim) hlocks hce hcv hcl (fun t ht2 ha => ⟨(), trivial, (⟨rfl, trivial⟩), hS.F ht2⟩) hS.2.2 (Nat.le_of_ble_eq_true rfl) (Nat.le_of_ble_eq_true rfl)
  · exact hw.elim

set_option maxHeartbeats 4000000 in
set_option maxRecDepth 100000 in
theorem c_X5_canPlan (l : Launch) (hlt : l.stackTraces = false) (dC : Nat → ClassId) (dI : Nat → Nat → Nat) (h0 : Nat) (p0 : Int32) (p1 : Int32) (g0 : Value) (g2 : Value) (g3 : Value) (g4 : Value) (g5 : Value) (g6 : Value) (g7 : Value) (g8 : Value) (g9 : Value) (g10 : Value) (g11 : Value) (g12 : Value) (sz : Nat) : vx_Met l yX5_canPlan wsX5_canPlan ({ frames := 7, cells := 1, slots := 6, locals := 103 }) (va_Pc [.ref h0, .int p0, .int p1] (Pw dC dI sz [(h0, .inr (11, [g0, .int 0, g2, g3, g4, g5, g6, g7, g8, g9, g10, g11, g12]))] [])) (va_Qi (fun (r : Int32) (_ : Unit) => False) (fun _ t => True) (va_A [(h0, .inr (11, [g0, .int 0, g2, g3, g4, g5, g6, g7, g8, g9, g10, g11, g12]))] sz)) (vx_X (fun _ : Unit => True) (fun E _ _ => (E = "java/lang/IndexOutOfBoundsException" ∧ True)) (va_A [(h0, .inr (11, [g0, .int 0, g2, g3, g4, g5, g6, g7, g8, g9, g10, g11, g12]))] sz)) 1 6 (va_A [(h0, .inr (11, [g0, .int 0, g2, g3, g4, g5, g6, g7, g8, g9, g10, g11, g12]))] sz) := by
  refine vx_ofW (cc := cX5_canPlan) (maxL := 3) (ret := (some .boolean)) (by decide) rfl ?_
  intro p e s m args below meth c s₁ B hml htab hv
  obtain ⟨rfl, hsz, hP, hK, hD0, hamb⟩ := hv
  have hx := B.exec
  have hb := B.bytes
  have hr := B.returns
  have hts := atoms_spec (ws := wsX5_canPlan) B.pre
  have hown : s.vm.findClass RX5 = some m.cls := findClass_of_methodNamed B.named
  have hlocks := B.notSynchronized
  subst hsz
  have hD := hD0.self (sz := s.heap.size)
  generalize hAe : va_A [(h0, .inr (11, [g0, .int 0, g2, g3, g4, g5, g6, g7, g8, g9, g10, g11, g12]))] s.heap.size = A at hD hamb ⊢
  have hA : ∀ q : Nat, s.heap.size ≤ q → A q := fun q h => by rw [← hAe]; exact Or.inr h
  have hS : va_S A s.heap s.heap [] := va_S.rf
  have hP : va_P (dC, dI) vwCl [(h0, .inr (11, [g0, .int 0, g2, g3, g4, g5, g6, g7, g8, g9, g10, g11, g12]))] s.heap := hP
  have hl := lv_entry ([.ref h0, .int p0, .int p1]) (n := 3) (Nat.le_of_ble_eq_true rfl)
  rw [lg_entry_eq]
  generalize (lg_sl ([.ref h0, .int p0, .int p1]) ++ List.replicate (3 - (lg_sl ([.ref h0, .int p0, .int p1])).length) Slot.unset).toArray = ls at hl ⊢
  have hl : lv_has ls 3 [(0, .ref h0), (1, .int p0), (2, .int p1)] := hl
  refine lv_aload_n hx hb dX5_canPlan_0 rfl (lv_at hl 0 rfl) ?_
  refine lv_iload_n hx hb dX5_canPlan_1 rfl (lv_at hl 1 rfl) ?_
  have hPc := hP.sub (ws' := [(h0, .inr (11, [g0, .int 0, g2, g3, g4, g5, g6, g7, g8, g9, g10, g11, g12]))]) [0] rfl
  have hDc := hD.sub (ws' := [(h0, .inr (11, [g0, .int 0, g2, g3, g4, g5, g6, g7, g8, g9, g10, g11, g12]))]) [0] (by decide) rfl
  have hKc := hK.sub (tys' := []) [] rfl
  have hFc := va_free (wc := [(h0, .inr (11, [g0, .int 0, g2, g3, g4, g5, g6, g7, g8, g9, g10, g11, g12]))]) hD hS hA [0] rfl
  refine vx_callv (vx_runV (As := [.int p0]) (rest := []) ⟨hx, hb, hml, hown, hts⟩ (c_X5_needCard l hlt dC dI h0 p0 g0 g2 g3 g4 g5 g6 g7 g8 g9 g10 g11 g12 s.heap.size) (cwV 1 hts gX5_canPlan_X5_needCard rfl rfl rfl (by decide +kernel) ⟨Nat.le_of_ble_eq_true rfl, Nat.le_of_ble_eq_true rfl⟩) ⟨Pw.blind _ _ _ _ _ _, va_recv hKc hPc (ci := 11) (q0 := 0) rfl rfl, fun U hU hW => ⟨rfl, Pw.go hPc hKc hDc hamb hS hFc hU hW⟩⟩ rfl rfl hl.1 rfl (lv_room (Nat.le_of_ble_eq_true rfl)) dX5_canPlan_2 ⟨Nat.le_of_ble_eq_true rfl, Nat.le_of_ble_eq_true rfl⟩) hS (fun q _ h => hFc q h) hFc (fun q _ h => hFc q h) (fun E ce q9 ux tx H1 locs1 htx hvm hpx hBX hz1 hk1 hS hce hcv hcl => ?_) (fun u t H1 locs1 ht hvm hw hB hz1 hk1 hS => ?_)
  · obtain ⟨rfl, t_2⟩ := hBX
    exact vx_out (fun x hxx => (htab x hxx).elim) hlocks hce hcv hcl (fun t ht2 ha => ⟨(), trivial, (⟨rfl, trivial⟩), hS.F ht2⟩) hS.2.2 (Nat.le_of_ble_eq_true rfl) (Nat.le_of_ble_eq_true rfl)
  · exact hw.elim

set_option maxHeartbeats 4000000 in
set_option maxRecDepth 100000 in
theorem c_X5_reversals (l : Launch) (hlt : l.stackTraces = false) (dC : Nat → ClassId) (dI : Nat → Nat → Nat) (h0 : Nat) (p0 : Int32) (p1 : Int32) (g0 : Value) (g2 : Value) (g3 : Value) (g4 : Value) (g5 : Value) (g6 : Value) (g7 : Value) (g8 : Value) (g9 : Value) (g10 : Value) (g11 : Value) (g12 : Value) (sz : Nat) : vx_Met l yX5_reversals wsX5_reversals ({ frames := 7, cells := 1, slots := 6, locals := 103 }) (va_Pc [.ref h0, .int p0, .int p1] (Pw dC dI sz [(h0, .inr (11, [g0, .int 0, g2, g3, g4, g5, g6, g7, g8, g9, g10, g11, g12]))] [])) (va_Qi (fun (r : Int32) (_ : Unit) => False) (fun _ t => True) (va_A [(h0, .inr (11, [g0, .int 0, g2, g3, g4, g5, g6, g7, g8, g9, g10, g11, g12]))] sz)) (vx_X (fun _ : Unit => True) (fun E _ _ => (E = "java/lang/IndexOutOfBoundsException" ∧ True)) (va_A [(h0, .inr (11, [g0, .int 0, g2, g3, g4, g5, g6, g7, g8, g9, g10, g11, g12]))] sz)) 1 6 (va_A [(h0, .inr (11, [g0, .int 0, g2, g3, g4, g5, g6, g7, g8, g9, g10, g11, g12]))] sz) := by
  refine vx_ofW (cc := cX5_reversals) (maxL := 5) (ret := (some .int)) (by decide) rfl ?_
  intro p e s m args below meth c s₁ B hml htab hv
  obtain ⟨rfl, hsz, hP, hK, hD0, hamb⟩ := hv
  have hx := B.exec
  have hb := B.bytes
  have hr := B.returns
  have hts := atoms_spec (ws := wsX5_reversals) B.pre
  have hown : s.vm.findClass RX5 = some m.cls := findClass_of_methodNamed B.named
  have hlocks := B.notSynchronized
  subst hsz
  have hD := hD0.self (sz := s.heap.size)
  generalize hAe : va_A [(h0, .inr (11, [g0, .int 0, g2, g3, g4, g5, g6, g7, g8, g9, g10, g11, g12]))] s.heap.size = A at hD hamb ⊢
  have hA : ∀ q : Nat, s.heap.size ≤ q → A q := fun q h => by rw [← hAe]; exact Or.inr h
  have hS : va_S A s.heap s.heap [] := va_S.rf
  have hP : va_P (dC, dI) vwCl [(h0, .inr (11, [g0, .int 0, g2, g3, g4, g5, g6, g7, g8, g9, g10, g11, g12]))] s.heap := hP
  have hl := lv_entry ([.ref h0, .int p0, .int p1]) (n := 5) (Nat.le_of_ble_eq_true rfl)
  rw [lg_entry_eq]
  generalize (lg_sl ([.ref h0, .int p0, .int p1]) ++ List.replicate (5 - (lg_sl ([.ref h0, .int p0, .int p1])).length) Slot.unset).toArray = ls at hl ⊢
  have hl : lv_has ls 5 [(0, .ref h0), (1, .int p0), (2, .int p1)] := hl
  refine lv_aload_n hx hb dX5_reversals_0 rfl (lv_at hl 0 rfl) ?_
  refine lv_iload_n hx hb dX5_reversals_1 rfl (lv_at hl 1 rfl) ?_
  have hPc := hP.sub (ws' := [(h0, .inr (11, [g0, .int 0, g2, g3, g4, g5, g6, g7, g8, g9, g10, g11, g12]))]) [0] rfl
  have hDc := hD.sub (ws' := [(h0, .inr (11, [g0, .int 0, g2, g3, g4, g5, g6, g7, g8, g9, g10, g11, g12]))]) [0] (by decide) rfl
  have hKc := hK.sub (tys' := []) [] rfl
  have hFc := va_free (wc := [(h0, .inr (11, [g0, .int 0, g2, g3, g4, g5, g6, g7, g8, g9, g10, g11, g12]))]) hD hS hA [0] rfl
  refine vx_callv (vx_runV (As := [.int p0]) (rest := []) ⟨hx, hb, hml, hown, hts⟩ (c_X5_needCard l hlt dC dI h0 p0 g0 g2 g3 g4 g5 g6 g7 g8 g9 g10 g11 g12 s.heap.size) (cwV 1 hts gX5_reversals_X5_needCard rfl rfl rfl (by decide +kernel) ⟨Nat.le_of_ble_eq_true rfl, Nat.le_of_ble_eq_true rfl⟩) ⟨Pw.blind _ _ _ _ _ _, va_recv hKc hPc (ci := 11) (q0 := 0) rfl rfl, fun U hU hW => ⟨rfl, Pw.go hPc hKc hDc hamb hS hFc hU hW⟩⟩ rfl rfl hl.1 rfl (lv_room (Nat.le_of_ble_eq_true rfl)) dX5_reversals_2 ⟨Nat.le_of_ble_eq_true rfl, Nat.le_of_ble_eq_true rfl⟩) hS (fun q _ h => hFc q h) hFc (fun q _ h => hFc q h) (fun E ce q9 ux tx H1 locs1 htx hvm hpx hBX hz1 hk1 hS hce hcv hcl => ?_) (fun u t H1 locs1 ht hvm hw hB hz1 hk1 hS => ?_)
  · obtain ⟨rfl, t_2⟩ := hBX
    exact vx_out (fun x hxx => (htab x hxx).elim) hlocks hce hcv hcl (fun t ht2 ha => ⟨(), trivial, (⟨rfl, trivial⟩), hS.F ht2⟩) hS.2.2 (Nat.le_of_ble_eq_true rfl) (Nat.le_of_ble_eq_true rfl)
  · exact hw.elim

set_option maxHeartbeats 4000000 in
set_option maxRecDepth 100000 in
theorem c_X5_planAt (l : Launch) (hlt : l.stackTraces = false) (dC : Nat → ClassId) (dI : Nat → Nat → Nat) (h0 : Nat) (p0 : Int32) (p1 : Int32) (p2 : Int32) (g0 : Value) (g2 : Value) (g3 : Value) (g4 : Value) (g5 : Value) (g6 : Value) (g7 : Value) (g8 : Value) (g9 : Value) (g10 : Value) (g11 : Value) (g12 : Value) (sz : Nat) : vx_Met l yX5_planAt wsX5_planAt ({ frames := 7, cells := 1, slots := 6, locals := 103 }) (va_Pc [.ref h0, .int p0, .int p1, .int p2] (Pw dC dI sz [(h0, .inr (11, [g0, .int 0, g2, g3, g4, g5, g6, g7, g8, g9, g10, g11, g12]))] [])) (va_Qi (fun (r : Int32) (_ : Unit) => False) (fun _ t => True) (va_A [(h0, .inr (11, [g0, .int 0, g2, g3, g4, g5, g6, g7, g8, g9, g10, g11, g12]))] sz)) (vx_X (fun _ : Unit => True) (fun E _ _ => (E = "java/lang/IndexOutOfBoundsException" ∧ True)) (va_A [(h0, .inr (11, [g0, .int 0, g2, g3, g4, g5, g6, g7, g8, g9, g10, g11, g12]))] sz)) 1 6 (va_A [(h0, .inr (11, [g0, .int 0, g2, g3, g4, g5, g6, g7, g8, g9, g10, g11, g12]))] sz) := by
  refine vx_ofW (cc := cX5_planAt) (maxL := 6) (ret := (some .char)) (by decide) rfl ?_
  intro p e s m args below meth c s₁ B hml htab hv
  obtain ⟨rfl, hsz, hP, hK, hD0, hamb⟩ := hv
  have hx := B.exec
  have hb := B.bytes
  have hr := B.returns
  have hts := atoms_spec (ws := wsX5_planAt) B.pre
  have hown : s.vm.findClass RX5 = some m.cls := findClass_of_methodNamed B.named
  have hlocks := B.notSynchronized
  subst hsz
  have hD := hD0.self (sz := s.heap.size)
  generalize hAe : va_A [(h0, .inr (11, [g0, .int 0, g2, g3, g4, g5, g6, g7, g8, g9, g10, g11, g12]))] s.heap.size = A at hD hamb ⊢
  have hA : ∀ q : Nat, s.heap.size ≤ q → A q := fun q h => by rw [← hAe]; exact Or.inr h
  have hS : va_S A s.heap s.heap [] := va_S.rf
  have hP : va_P (dC, dI) vwCl [(h0, .inr (11, [g0, .int 0, g2, g3, g4, g5, g6, g7, g8, g9, g10, g11, g12]))] s.heap := hP
  have hl := lv_entry ([.ref h0, .int p0, .int p1, .int p2]) (n := 6) (Nat.le_of_ble_eq_true rfl)
  rw [lg_entry_eq]
  generalize (lg_sl ([.ref h0, .int p0, .int p1, .int p2]) ++ List.replicate (6 - (lg_sl ([.ref h0, .int p0, .int p1, .int p2])).length) Slot.unset).toArray = ls at hl ⊢
  have hl : lv_has ls 6 [(0, .ref h0), (1, .int p0), (2, .int p1), (3, .int p2)] := hl
  refine lv_aload_n hx hb dX5_planAt_0 rfl (lv_at hl 0 rfl) ?_
  refine lv_iload_n hx hb dX5_planAt_1 rfl (lv_at hl 1 rfl) ?_
  have hPc := hP.sub (ws' := [(h0, .inr (11, [g0, .int 0, g2, g3, g4, g5, g6, g7, g8, g9, g10, g11, g12]))]) [0] rfl
  have hDc := hD.sub (ws' := [(h0, .inr (11, [g0, .int 0, g2, g3, g4, g5, g6, g7, g8, g9, g10, g11, g12]))]) [0] (by decide) rfl
  have hKc := hK.sub (tys' := []) [] rfl
  have hFc := va_free (wc := [(h0, .inr (11, [g0, .int 0, g2, g3, g4, g5, g6, g7, g8, g9, g10, g11, g12]))]) hD hS hA [0] rfl
  refine vx_callv (vx_runV (As := [.int p0]) (rest := []) ⟨hx, hb, hml, hown, hts⟩ (c_X5_needCard l hlt dC dI h0 p0 g0 g2 g3 g4 g5 g6 g7 g8 g9 g10 g11 g12 s.heap.size) (cwV 1 hts gX5_planAt_X5_needCard rfl rfl rfl (by decide +kernel) ⟨Nat.le_of_ble_eq_true rfl, Nat.le_of_ble_eq_true rfl⟩) ⟨Pw.blind _ _ _ _ _ _, va_recv hKc hPc (ci := 11) (q0 := 0) rfl rfl, fun U hU hW => ⟨rfl, Pw.go hPc hKc hDc hamb hS hFc hU hW⟩⟩ rfl rfl hl.1 rfl (lv_room (Nat.le_of_ble_eq_true rfl)) dX5_planAt_2 ⟨Nat.le_of_ble_eq_true rfl, Nat.le_of_ble_eq_true rfl⟩) hS (fun q _ h => hFc q h) hFc (fun q _ h => hFc q h) (fun E ce q9 ux tx H1 locs1 htx hvm hpx hBX hz1 hk1 hS hce hcv hcl => ?_) (fun u t H1 locs1 ht hvm hw hB hz1 hk1 hS => ?_)
  · obtain ⟨rfl, t_2⟩ := hBX
    exact vx_out (fun x hxx => (htab x hxx).elim) hlocks hce hcv hcl (fun t ht2 ha => ⟨(), trivial, (⟨rfl, trivial⟩), hS.F ht2⟩) hS.2.2 (Nat.le_of_ble_eq_true rfl) (Nat.le_of_ble_eq_true rfl)
  · exact hw.elim

set_option maxHeartbeats 4000000 in
set_option maxRecDepth 100000 in
theorem c_X5_faultsOf (l : Launch) (hlt : l.stackTraces = false) (dC : Nat → ClassId) (dI : Nat → Nat → Nat) (h0 : Nat) (p0 : Int32) (g0 : Value) (g2 : Value) (g3 : Value) (g4 : Value) (g5 : Value) (g6 : Value) (g7 : Value) (g8 : Value) (g9 : Value) (g10 : Value) (g11 : Value) (g12 : Value) (sz : Nat) : vx_Met l yX5_faultsOf wsX5_faultsOf ({ frames := 7, cells := 1, slots := 6, locals := 103 }) (va_Pc [.ref h0, .int p0] (Pw dC dI sz [(h0, .inr (11, [g0, .int 0, g2, g3, g4, g5, g6, g7, g8, g9, g10, g11, g12]))] [])) (va_Qi (fun (r : Int32) (_ : Unit) => False) (fun _ t => True) (va_A [(h0, .inr (11, [g0, .int 0, g2, g3, g4, g5, g6, g7, g8, g9, g10, g11, g12]))] sz)) (vx_X (fun _ : Unit => True) (fun E _ _ => (E = "java/lang/IndexOutOfBoundsException" ∧ True)) (va_A [(h0, .inr (11, [g0, .int 0, g2, g3, g4, g5, g6, g7, g8, g9, g10, g11, g12]))] sz)) 1 6 (va_A [(h0, .inr (11, [g0, .int 0, g2, g3, g4, g5, g6, g7, g8, g9, g10, g11, g12]))] sz) := by
  refine vx_ofW (cc := cX5_faultsOf) (maxL := 2) (ret := (some .int)) (by decide) rfl ?_
  intro p e s m args below meth c s₁ B hml htab hv
  obtain ⟨rfl, hsz, hP, hK, hD0, hamb⟩ := hv
  have hx := B.exec
  have hb := B.bytes
  have hr := B.returns
  have hts := atoms_spec (ws := wsX5_faultsOf) B.pre
  have hown : s.vm.findClass RX5 = some m.cls := findClass_of_methodNamed B.named
  have hlocks := B.notSynchronized
  subst hsz
  have hD := hD0.self (sz := s.heap.size)
  generalize hAe : va_A [(h0, .inr (11, [g0, .int 0, g2, g3, g4, g5, g6, g7, g8, g9, g10, g11, g12]))] s.heap.size = A at hD hamb ⊢
  have hA : ∀ q : Nat, s.heap.size ≤ q → A q := fun q h => by rw [← hAe]; exact Or.inr h
  have hS : va_S A s.heap s.heap [] := va_S.rf
  have hP : va_P (dC, dI) vwCl [(h0, .inr (11, [g0, .int 0, g2, g3, g4, g5, g6, g7, g8, g9, g10, g11, g12]))] s.heap := hP
  have hl := lv_entry ([.ref h0, .int p0]) (n := 2) (Nat.le_of_ble_eq_true rfl)
  rw [lg_entry_eq]
  generalize (lg_sl ([.ref h0, .int p0]) ++ List.replicate (2 - (lg_sl ([.ref h0, .int p0])).length) Slot.unset).toArray = ls at hl ⊢
  have hl : lv_has ls 2 [(0, .ref h0), (1, .int p0)] := hl
  refine lv_aload_n hx hb dX5_faultsOf_0 rfl (lv_at hl 0 rfl) ?_
  refine lv_iload_n hx hb dX5_faultsOf_1 rfl (lv_at hl 1 rfl) ?_
  have hPc := hP.sub (ws' := [(h0, .inr (11, [g0, .int 0, g2, g3, g4, g5, g6, g7, g8, g9, g10, g11, g12]))]) [0] rfl
  have hDc := hD.sub (ws' := [(h0, .inr (11, [g0, .int 0, g2, g3, g4, g5, g6, g7, g8, g9, g10, g11, g12]))]) [0] (by decide) rfl
  have hKc := hK.sub (tys' := []) [] rfl
  have hFc := va_free (wc := [(h0, .inr (11, [g0, .int 0, g2, g3, g4, g5, g6, g7, g8, g9, g10, g11, g12]))]) hD hS hA [0] rfl
  refine vx_callv (vx_runV (As := [.int p0]) (rest := []) ⟨hx, hb, hml, hown, hts⟩ (c_X5_needCard l hlt dC dI h0 p0 g0 g2 g3 g4 g5 g6 g7 g8 g9 g10 g11 g12 s.heap.size) (cwV 1 hts gX5_faultsOf_X5_needCard rfl rfl rfl (by decide +kernel) ⟨Nat.le_of_ble_eq_true rfl, Nat.le_of_ble_eq_true rfl⟩) ⟨Pw.blind _ _ _ _ _ _, va_recv hKc hPc (ci := 11) (q0 := 0) rfl rfl, fun U hU hW => ⟨rfl, Pw.go hPc hKc hDc hamb hS hFc hU hW⟩⟩ rfl rfl hl.1 rfl (lv_room (Nat.le_of_ble_eq_true rfl)) dX5_faultsOf_2 ⟨Nat.le_of_ble_eq_true rfl, Nat.le_of_ble_eq_true rfl⟩) hS (fun q _ h => hFc q h) hFc (fun q _ h => hFc q h) (fun E ce q9 ux tx H1 locs1 htx hvm hpx hBX hz1 hk1 hS hce hcv hcl => ?_) (fun u t H1 locs1 ht hvm hw hB hz1 hk1 hS => ?_)
  · obtain ⟨rfl, t_2⟩ := hBX
    exact vx_out (fun x hxx => (htab x hxx).elim) hlocks hce hcv hcl (fun t ht2 ha => ⟨(), trivial, (⟨rfl, trivial⟩), hS.F ht2⟩) hS.2.2 (Nat.le_of_ble_eq_true rfl) (Nat.le_of_ble_eq_true rfl)
  · exact hw.elim

set_option maxHeartbeats 4000000 in
set_option maxRecDepth 100000 in
theorem c_X5_ways (l : Launch) (hlt : l.stackTraces = false) (dC : Nat → ClassId) (dI : Nat → Nat → Nat) (h0 : Nat) (p0 : Int32) (p1 : Int32) (p2 : Int32) (p3 : Int32) (g0 : Value) (g2 : Value) (g3 : Value) (g4 : Value) (g5 : Value) (g6 : Value) (g7 : Value) (g8 : Value) (g9 : Value) (g10 : Value) (g11 : Value) (g12 : Value) (sz : Nat) : vx_Met l yX5_ways wsX5_ways ({ frames := 7, cells := 1, slots := 6, locals := 103 }) (va_Pc [.ref h0, .int p0, .int p1, .int p2, .int p3] (Pw dC dI sz [(h0, .inr (11, [g0, .int 0, g2, g3, g4, g5, g6, g7, g8, g9, g10, g11, g12]))] [])) (va_Ql (fun (r : Int64) (_ : Unit) => False) (fun _ t => True) (va_A [(h0, .inr (11, [g0, .int 0, g2, g3, g4, g5, g6, g7, g8, g9, g10, g11, g12]))] sz)) (vx_X (fun _ : Unit => True) (fun E _ _ => (E = "java/lang/IndexOutOfBoundsException" ∧ True)) (va_A [(h0, .inr (11, [g0, .int 0, g2, g3, g4, g5, g6, g7, g8, g9, g10, g11, g12]))] sz)) 1 6 (va_A [(h0, .inr (11, [g0, .int 0, g2, g3, g4, g5, g6, g7, g8, g9, g10, g11, g12]))] sz) := by
  refine vx_ofW (cc := cX5_ways) (maxL := 5) (ret := (some .long)) (by decide) rfl ?_
  intro p e s m args below meth c s₁ B hml htab hv
  obtain ⟨rfl, hsz, hP, hK, hD0, hamb⟩ := hv
  have hx := B.exec
  have hb := B.bytes
  have hr := B.returns
  have hts := atoms_spec (ws := wsX5_ways) B.pre
  have hown : s.vm.findClass RX5 = some m.cls := findClass_of_methodNamed B.named
  have hlocks := B.notSynchronized
  subst hsz
  have hD := hD0.self (sz := s.heap.size)
  generalize hAe : va_A [(h0, .inr (11, [g0, .int 0, g2, g3, g4, g5, g6, g7, g8, g9, g10, g11, g12]))] s.heap.size = A at hD hamb ⊢
  have hA : ∀ q : Nat, s.heap.size ≤ q → A q := fun q h => by rw [← hAe]; exact Or.inr h
  have hS : va_S A s.heap s.heap [] := va_S.rf
  have hP : va_P (dC, dI) vwCl [(h0, .inr (11, [g0, .int 0, g2, g3, g4, g5, g6, g7, g8, g9, g10, g11, g12]))] s.heap := hP
  have hl := lv_entry ([.ref h0, .int p0, .int p1, .int p2, .int p3]) (n := 5) (Nat.le_of_ble_eq_true rfl)
  rw [lg_entry_eq]
  generalize (lg_sl ([.ref h0, .int p0, .int p1, .int p2, .int p3]) ++ List.replicate (5 - (lg_sl ([.ref h0, .int p0, .int p1, .int p2, .int p3])).length) Slot.unset).toArray = ls at hl ⊢
  have hl : lv_has ls 5 [(0, .ref h0), (1, .int p0), (2, .int p1), (3, .int p2), (4, .int p3)] := hl
  refine lv_aload_n hx hb dX5_ways_0 rfl (lv_at hl 0 rfl) ?_
  refine lv_iload_n hx hb dX5_ways_1 rfl (lv_at hl 1 rfl) ?_
  have hPc := hP.sub (ws' := [(h0, .inr (11, [g0, .int 0, g2, g3, g4, g5, g6, g7, g8, g9, g10, g11, g12]))]) [0] rfl
  have hDc := hD.sub (ws' := [(h0, .inr (11, [g0, .int 0, g2, g3, g4, g5, g6, g7, g8, g9, g10, g11, g12]))]) [0] (by decide) rfl
  have hKc := hK.sub (tys' := []) [] rfl
  have hFc := va_free (wc := [(h0, .inr (11, [g0, .int 0, g2, g3, g4, g5, g6, g7, g8, g9, g10, g11, g12]))]) hD hS hA [0] rfl
  refine vx_callv (vx_runV (As := [.int p0]) (rest := []) ⟨hx, hb, hml, hown, hts⟩ (c_X5_needCard l hlt dC dI h0 p0 g0 g2 g3 g4 g5 g6 g7 g8 g9 g10 g11 g12 s.heap.size) (cwV 1 hts gX5_ways_X5_needCard rfl rfl rfl (by decide +kernel) ⟨Nat.le_of_ble_eq_true rfl, Nat.le_of_ble_eq_true rfl⟩) ⟨Pw.blind _ _ _ _ _ _, va_recv hKc hPc (ci := 11) (q0 := 0) rfl rfl, fun U hU hW => ⟨rfl, Pw.go hPc hKc hDc hamb hS hFc hU hW⟩⟩ rfl rfl hl.1 rfl (lv_room (Nat.le_of_ble_eq_true rfl)) dX5_ways_2 ⟨Nat.le_of_ble_eq_true rfl, Nat.le_of_ble_eq_true rfl⟩) hS (fun q _ h => hFc q h) hFc (fun q _ h => hFc q h) (fun E ce q9 ux tx H1 locs1 htx hvm hpx hBX hz1 hk1 hS hce hcv hcl => ?_) (fun u t H1 locs1 ht hvm hw hB hz1 hk1 hS => ?_)
  · obtain ⟨rfl, t_2⟩ := hBX
    exact vx_out (fun x hxx => (htab x hxx).elim) hlocks hce hcv hcl (fun t ht2 ha => ⟨(), trivial, (⟨rfl, trivial⟩), hS.F ht2⟩) hS.2.2 (Nat.le_of_ble_eq_true rfl) (Nat.le_of_ble_eq_true rfl)
  · exact hw.elim

set_option maxHeartbeats 4000000 in
set_option maxRecDepth 100000 in
theorem c_X5_motto (l : Launch) (hlt : l.stackTraces = false) (dC : Nat → ClassId) (dI : Nat → Nat → Nat) (h0 : Nat) (p0 : Int32) (p1 : Int32) (p2 : Int32) (g0 : Value) (g2 : Value) (g3 : Value) (g4 : Value) (g5 : Value) (g6 : Value) (g7 : Value) (g8 : Value) (g9 : Value) (g10 : Value) (g11 : Value) (g12 : Value) (sz : Nat) : vx_Met l yX5_motto wsX5_motto ({ frames := 7, cells := 1, slots := 6, locals := 103 }) (va_Pc [.ref h0, .int p0, .int p1, .int p2] (Pw dC dI sz [(h0, .inr (11, [g0, .int 0, g2, g3, g4, g5, g6, g7, g8, g9, g10, g11, g12]))] [])) (va_Qi (fun (r : Int32) (_ : Unit) => False) (fun _ t => True) (va_A [(h0, .inr (11, [g0, .int 0, g2, g3, g4, g5, g6, g7, g8, g9, g10, g11, g12]))] sz)) (vx_X (fun _ : Unit => True) (fun E _ _ => (E = "java/lang/IndexOutOfBoundsException" ∧ True)) (va_A [(h0, .inr (11, [g0, .int 0, g2, g3, g4, g5, g6, g7, g8, g9, g10, g11, g12]))] sz)) 1 6 (va_A [(h0, .inr (11, [g0, .int 0, g2, g3, g4, g5, g6, g7, g8, g9, g10, g11, g12]))] sz) := by
  refine vx_ofW (cc := cX5_motto) (maxL := 5) (ret := (some .int)) (by decide) rfl ?_
  intro p e s m args below meth c s₁ B hml htab hv
  obtain ⟨rfl, hsz, hP, hK, hD0, hamb⟩ := hv
  have hx := B.exec
  have hb := B.bytes
  have hr := B.returns
  have hts := atoms_spec (ws := wsX5_motto) B.pre
  have hown : s.vm.findClass RX5 = some m.cls := findClass_of_methodNamed B.named
  have hlocks := B.notSynchronized
  subst hsz
  have hD := hD0.self (sz := s.heap.size)
  generalize hAe : va_A [(h0, .inr (11, [g0, .int 0, g2, g3, g4, g5, g6, g7, g8, g9, g10, g11, g12]))] s.heap.size = A at hD hamb ⊢
  have hA : ∀ q : Nat, s.heap.size ≤ q → A q := fun q h => by rw [← hAe]; exact Or.inr h
  have hS : va_S A s.heap s.heap [] := va_S.rf
  have hP : va_P (dC, dI) vwCl [(h0, .inr (11, [g0, .int 0, g2, g3, g4, g5, g6, g7, g8, g9, g10, g11, g12]))] s.heap := hP
  have hl := lv_entry ([.ref h0, .int p0, .int p1, .int p2]) (n := 5) (Nat.le_of_ble_eq_true rfl)
  rw [lg_entry_eq]
  generalize (lg_sl ([.ref h0, .int p0, .int p1, .int p2]) ++ List.replicate (5 - (lg_sl ([.ref h0, .int p0, .int p1, .int p2])).length) Slot.unset).toArray = ls at hl ⊢
  have hl : lv_has ls 5 [(0, .ref h0), (1, .int p0), (2, .int p1), (3, .int p2)] := hl
  refine lv_aload_n hx hb dX5_motto_0 rfl (lv_at hl 0 rfl) ?_
  refine lv_iload_n hx hb dX5_motto_1 rfl (lv_at hl 2 rfl) ?_
  have hPc := hP.sub (ws' := [(h0, .inr (11, [g0, .int 0, g2, g3, g4, g5, g6, g7, g8, g9, g10, g11, g12]))]) [0] rfl
  have hDc := hD.sub (ws' := [(h0, .inr (11, [g0, .int 0, g2, g3, g4, g5, g6, g7, g8, g9, g10, g11, g12]))]) [0] (by decide) rfl
  have hKc := hK.sub (tys' := []) [] rfl
  have hFc := va_free (wc := [(h0, .inr (11, [g0, .int 0, g2, g3, g4, g5, g6, g7, g8, g9, g10, g11, g12]))]) hD hS hA [0] rfl
  refine vx_callv (vx_runV (As := [.int p1]) (rest := []) ⟨hx, hb, hml, hown, hts⟩ (c_X5_needCard l hlt dC dI h0 p1 g0 g2 g3 g4 g5 g6 g7 g8 g9 g10 g11 g12 s.heap.size) (cwV 1 hts gX5_motto_X5_needCard rfl rfl rfl (by decide +kernel) ⟨Nat.le_of_ble_eq_true rfl, Nat.le_of_ble_eq_true rfl⟩) ⟨Pw.blind _ _ _ _ _ _, va_recv hKc hPc (ci := 11) (q0 := 0) rfl rfl, fun U hU hW => ⟨rfl, Pw.go hPc hKc hDc hamb hS hFc hU hW⟩⟩ rfl rfl hl.1 rfl (lv_room (Nat.le_of_ble_eq_true rfl)) dX5_motto_2 ⟨Nat.le_of_ble_eq_true rfl, Nat.le_of_ble_eq_true rfl⟩) hS (fun q _ h => hFc q h) hFc (fun q _ h => hFc q h) (fun E ce q9 ux tx H1 locs1 htx hvm hpx hBX hz1 hk1 hS hce hcv hcl => ?_) (fun u t H1 locs1 ht hvm hw hB hz1 hk1 hS => ?_)
  · obtain ⟨rfl, t_2⟩ := hBX
    exact vx_out (fun x hxx => (htab x hxx).elim) hlocks hce hcv hcl (fun t ht2 ha => ⟨(), trivial, (⟨rfl, trivial⟩), hS.F ht2⟩) hS.2.2 (Nat.le_of_ble_eq_true rfl) (Nat.le_of_ble_eq_true rfl)
  · exact hw.elim

set_option maxHeartbeats 4000000 in
set_option maxRecDepth 100000 in
theorem c_X5_turn (l : Launch) (hlt : l.stackTraces = false) (dC : Nat → ClassId) (dI : Nat → Nat → Nat) (h0 : Nat) (p0 : Int32) (p1 : Int32) (g0 : Value) (g2 : Value) (g3 : Value) (g4 : Value) (g5 : Value) (g6 : Value) (g7 : Value) (g8 : Value) (g9 : Value) (g10 : Value) (g11 : Value) (g12 : Value) (sz : Nat) : vx_Met l yX5_turn wsX5_turn ({ frames := 7, cells := 1, slots := 6, locals := 102 }) (va_Pc [.ref h0, .int p0, .int p1] (Pw dC dI sz [(h0, .inr (11, [g0, .int 0, g2, g3, g4, g5, g6, g7, g8, g9, g10, g11, g12]))] [])) (va_Qi (fun (r : Int32) (_ : Unit) => ¬ (p0.toInt < 0 ∨ 3 < p0.toInt) ∧ r = 0) (fun _ t => True) (va_A [(h0, .inr (11, [g0, .int 0, g2, g3, g4, g5, g6, g7, g8, g9, g10, g11, g12]))] sz)) (vx_X (fun _ : Unit => True) (fun E _ _ => (E = "java/lang/IllegalArgumentException" ∧ (p0.toInt < 0 ∨ 3 < p0.toInt))) (va_A [(h0, .inr (11, [g0, .int 0, g2, g3, g4, g5, g6, g7, g8, g9, g10, g11, g12]))] sz)) 1 6 (va_A [(h0, .inr (11, [g0, .int 0, g2, g3, g4, g5, g6, g7, g8, g9, g10, g11, g12]))] sz) := by
  refine vx_ofW (cc := cX5_turn) (maxL := 5) (ret := (some .int)) (by decide) rfl ?_
  intro p e s m args below meth c s₁ B hml htab hv
  obtain ⟨rfl, hsz, hP, hK, hD0, hamb⟩ := hv
  have hx := B.exec
  have hb := B.bytes
  have hr := B.returns
  have hts := atoms_spec (ws := wsX5_turn) B.pre
  have hown : s.vm.findClass RX5 = some m.cls := findClass_of_methodNamed B.named
  have hlocks := B.notSynchronized
  subst hsz
  have hD := hD0.self (sz := s.heap.size)
  generalize hAe : va_A [(h0, .inr (11, [g0, .int 0, g2, g3, g4, g5, g6, g7, g8, g9, g10, g11, g12]))] s.heap.size = A at hD hamb ⊢
  have hA : ∀ q : Nat, s.heap.size ≤ q → A q := fun q h => by rw [← hAe]; exact Or.inr h
  have hS : va_S A s.heap s.heap [] := va_S.rf
  have hP : va_P (dC, dI) vwCl [(h0, .inr (11, [g0, .int 0, g2, g3, g4, g5, g6, g7, g8, g9, g10, g11, g12]))] s.heap := hP
  have hl := lv_entry ([.ref h0, .int p0, .int p1]) (n := 5) (Nat.le_of_ble_eq_true rfl)
  rw [lg_entry_eq]
  generalize (lg_sl ([.ref h0, .int p0, .int p1]) ++ List.replicate (5 - (lg_sl ([.ref h0, .int p0, .int p1])).length) Slot.unset).toArray = ls at hl ⊢
  have hl : lv_has ls 5 [(0, .ref h0), (1, .int p0), (2, .int p1)] := hl
  refine lv_iload_n hx hb dX5_turn_0 rfl (lv_at hl 1 rfl) ?_
  have hPc := hP.sub (ws' := []) [] rfl
  have hDc := hD.sub (ws' := []) [] (by decide) rfl
  have hKc := hK.sub (tys' := []) [] rfl
  have hFc := va_free (wc := []) hD hS hA [] rfl
  refine vx_callv (vx_runS (As := [.int p0]) (rest := []) ⟨hx, hb, hml, hown, hts⟩ (c_X5_needPack l hlt dC dI p0 s.heap.size) (va_cwS 1 hts gX5_turn_X5_needPack rfl rfl rfl (by decide +kernel) ⟨Nat.le_of_ble_eq_true rfl, Nat.le_of_ble_eq_true rfl⟩) ⟨Pw.blind _ _ _ _ _ _, fun U hU hW => ⟨rfl, Pw.go hPc hKc hDc hamb hS hFc hU hW⟩⟩ rfl rfl hl.1 rfl (lv_room (Nat.le_of_ble_eq_true rfl)) dX5_turn_1 ⟨Nat.le_of_ble_eq_true rfl, Nat.le_of_ble_eq_true rfl⟩) hS (fun q _ h => hFc q h) hFc (fun q _ h => hFc q h) (fun E ce q9 ux tx H1 locs1 htx hvm hpx hBX hz1 hk1 hS hce hcv hcl => ?_) (fun u t H1 locs1 ht hvm hw hB hz1 hk1 hS => ?_)
  · obtain ⟨rfl, t_2⟩ := hBX
    exact vx_out (fun x hxx => (htab x hxx).elim) hlocks hce hcv hcl (fun t ht2 ha => ⟨(), trivial, (⟨rfl, by omega⟩), hS.F ht2⟩) hS.2.2 (Nat.le_of_ble_eq_true rfl) (Nat.le_of_ble_eq_true rfl)
  · obtain ⟨hP, hD⟩ := va_rest (wr := [(h0, .inr (11, [g0, .int 0, g2, g3, g4, g5, g6, g7, g8, g9, g10, g11, g12]))]) hP hD [] [0] rfl rfl (by decide) (by decide) hk1 hFc
    generalize H1 = H at hP hS ⊢
    refine W.widen (k := 1) (n := 6) (Nat.le_of_ble_eq_true rfl) (Nat.le_of_ble_eq_true rfl) ?_
    have t_3 : ¬ (p0.toInt < 0 ∨ 3 < p0.toInt) := hw
    refine lv_iconst (v := 0) hx hb dX5_turn_4 (by decide) ?_
    refine lv_istore_n (lv' := [(3, .int 0), (0, .ref h0), (1, .int p0), (2, .int p1)]) hx hb dX5_turn_5 rfl hl (by decide) rfl (fun ls hl => ?_)
    refine lv_iconst (v := 0) hx hb dX5_turn_6 (by decide) ?_
    refine lv_istore (lv' := [(4, .int 0), (3, .int 0), (0, .ref h0), (1, .int p0), (2, .int p1)]) hx hb dX5_turn_7 hl (by decide) rfl (fun ls hl => ?_)
    refine lv_iload hx hb dX5_turn_9 (lv_at hl 0 rfl) ?_
    refine lv_aload_n hx hb dX5_turn_11 rfl (lv_at hl 2 rfl) ?_
    refine va_get (D := (dC, dI)) (ci := 11) (v := .int 0) (C := RX5) (T := TX5) (N := 13) hx hb hts (by decide +kernel) hown hK hP 0 rfl rfl 1 (by decide) (hts (.fieldLink RX5 83 "Bothfaces" "cardCount" "I") (by decide +kernel)) (fun _ h9 => h9) rfl dX5_turn_12 ?_
    refine lv_icmp_ge (tgt := 52) hx hb dX5_turn_15 (by decide) (fun c_4 => ?_) (fun c_4 => ?_)
    · refine lv_iload_n hx hb dX5_turn_52 rfl (lv_at hl 1 rfl) ?_
      refine W.widen (k := 1) (n := 6) (Nat.le_of_ble_eq_true rfl) (Nat.le_of_ble_eq_true rfl) ?_
      refine vx_ret ?_
      exact W.iret (v := 0) hx hb hr (fun t ht hW => ⟨⟨0, (), rfl, ⟨(by omega), rfl⟩, trivial⟩, hS.F ht⟩) hS.2.2 dX5_turn_53
    · exact absurd (by decide) c_4

set_option maxHeartbeats 4000000 in
set_option maxRecDepth 100000 in
theorem c_X5_mostTwist (l : Launch) (dC : Nat → ClassId) (dI : Nat → Nat → Nat) (h0 : Nat) (g0 : Value) (g2 : Value) (g3 : Value) (g4 : Value) (g5 : Value) (g6 : Value) (g7 : Value) (g8 : Value) (g9 : Value) (g10 : Value) (g11 : Value) (g12 : Value) (sz : Nat) : Met l yX5_mostTwist wsX5_mostTwist ({ frames := 0, cells := 0, slots := 0, locals := 0 }) (va_Pc [.ref h0] (Pw dC dI sz [(h0, .inr (11, [g0, .int 0, g2, g3, g4, g5, g6, g7, g8, g9, g10, g11, g12]))] [])) (va_Qi (fun (r : Int32) (_ : Unit) => r = 0) (fun _ t => True) (va_A [(h0, .inr (11, [g0, .int 0, g2, g3, g4, g5, g6, g7, g8, g9, g10, g11, g12]))] sz)) 0 0 (va_A [(h0, .inr (11, [g0, .int 0, g2, g3, g4, g5, g6, g7, g8, g9, g10, g11, g12]))] sz) := by
  refine Met.ofW (cc := cX5_mostTwist) (maxL := 3) (ret := (some .int)) (by decide) rfl ?_
  intro p e s m args below meth c s₁ B hml hv
  obtain ⟨rfl, hsz, hP, hK, hD0, hamb⟩ := hv
  have hx := B.exec
  have hb := B.bytes
  have hr := B.returns
  have hts := atoms_spec (ws := wsX5_mostTwist) B.pre
  have hown : s.vm.findClass RX5 = some m.cls := findClass_of_methodNamed B.named
  have hlocks := B.notSynchronized
  subst hsz
  have hD := hD0.self (sz := s.heap.size)
  generalize hAe : va_A [(h0, .inr (11, [g0, .int 0, g2, g3, g4, g5, g6, g7, g8, g9, g10, g11, g12]))] s.heap.size = A at hD hamb ⊢
  have hA : ∀ q : Nat, s.heap.size ≤ q → A q := fun q h => by rw [← hAe]; exact Or.inr h
  have hS : va_S A s.heap s.heap [] := va_S.rf
  have hP : va_P (dC, dI) vwCl [(h0, .inr (11, [g0, .int 0, g2, g3, g4, g5, g6, g7, g8, g9, g10, g11, g12]))] s.heap := hP
  have hl := lv_entry ([.ref h0]) (n := 3) (Nat.le_of_ble_eq_true rfl)
  rw [lg_entry_eq]
  generalize (lg_sl ([.ref h0]) ++ List.replicate (3 - (lg_sl ([.ref h0])).length) Slot.unset).toArray = ls at hl ⊢
  have hl : lv_has ls 3 [(0, .ref h0)] := hl
  refine lv_iconst (v := 0) hx hb dX5_mostTwist_0 (by decide) ?_
  refine lv_istore_n (lv' := [(1, .int 0), (0, .ref h0)]) hx hb dX5_mostTwist_1 rfl hl (by decide) rfl (fun ls hl => ?_)
  refine lv_iconst (v := 0) hx hb dX5_mostTwist_2 (by decide) ?_
  refine lv_istore_n (lv' := [(2, .int 0), (1, .int 0), (0, .ref h0)]) hx hb dX5_mostTwist_3 rfl hl (by decide) rfl (fun ls hl => ?_)
  refine lv_iload_n hx hb dX5_mostTwist_4 rfl (lv_at hl 0 rfl) ?_
  refine lv_aload_n hx hb dX5_mostTwist_5 rfl (lv_at hl 2 rfl) ?_
  refine va_get (D := (dC, dI)) (ci := 11) (v := .int 0) (C := RX5) (T := TX5) (N := 13) hx hb hts (by decide +kernel) hown hK hP 0 rfl rfl 1 (by decide) (hts (.fieldLink RX5 83 "Bothfaces" "cardCount" "I") (by decide +kernel)) (fun _ h9 => h9) rfl dX5_mostTwist_6 ?_
  refine lv_icmp_ge (tgt := 35) hx hb dX5_mostTwist_9 (by decide) (fun c_1 => ?_) (fun c_1 => ?_)
  · refine lv_iload_n hx hb dX5_mostTwist_35 rfl (lv_at hl 1 rfl) ?_
    refine W.widen (k := 0) (n := 0) (Nat.le_of_ble_eq_true rfl) (Nat.le_of_ble_eq_true rfl) ?_
    exact W.iret (v := 0) hx hb hr (fun t ht hW => ⟨⟨0, (), rfl, rfl, trivial⟩, hS.F ht⟩) hS.2.2 dX5_mostTwist_36
  · exact absurd (by decide) c_1

set_option maxHeartbeats 4000000 in
set_option maxRecDepth 100000 in
theorem c_X5_picks (l : Launch) (dC : Nat → ClassId) (dI : Nat → Nat → Nat) (h0 : Nat) (g0 : Value) (g1 : Value) (g3 : Value) (g4 : Value) (g5 : Value) (g6 : Value) (g7 : Value) (g8 : Value) (g9 : Value) (g10 : Value) (g11 : Value) (g12 : Value) (sz : Nat) : Met l yX5_picks wsX5_picks ({ frames := 0, cells := 0, slots := 0, locals := 0 }) (va_Pc [.ref h0] (Pw dC dI sz [(h0, .inr (11, [g0, g1, .int 0, g3, g4, g5, g6, g7, g8, g9, g10, g11, g12]))] [])) (va_Qi (fun (r : Int32) (_ : Unit) => r = 0) (fun _ t => True) (va_A [(h0, .inr (11, [g0, g1, .int 0, g3, g4, g5, g6, g7, g8, g9, g10, g11, g12]))] sz)) 0 0 (va_A [(h0, .inr (11, [g0, g1, .int 0, g3, g4, g5, g6, g7, g8, g9, g10, g11, g12]))] sz) := by
  refine Met.ofW (cc := cX5_picks) (maxL := 1) (ret := (some .int)) (by decide) rfl ?_
  intro p e s m args below meth c s₁ B hml hv
  obtain ⟨rfl, hsz, hP, hK, hD0, hamb⟩ := hv
  have hx := B.exec
  have hb := B.bytes
  have hr := B.returns
  have hts := atoms_spec (ws := wsX5_picks) B.pre
  have hown : s.vm.findClass RX5 = some m.cls := findClass_of_methodNamed B.named
  have hlocks := B.notSynchronized
  subst hsz
  have hD := hD0.self (sz := s.heap.size)
  generalize hAe : va_A [(h0, .inr (11, [g0, g1, .int 0, g3, g4, g5, g6, g7, g8, g9, g10, g11, g12]))] s.heap.size = A at hD hamb ⊢
  have hA : ∀ q : Nat, s.heap.size ≤ q → A q := fun q h => by rw [← hAe]; exact Or.inr h
  have hS : va_S A s.heap s.heap [] := va_S.rf
  have hP : va_P (dC, dI) vwCl [(h0, .inr (11, [g0, g1, .int 0, g3, g4, g5, g6, g7, g8, g9, g10, g11, g12]))] s.heap := hP
  have hl := lv_entry ([.ref h0]) (n := 1) (Nat.le_of_ble_eq_true rfl)
  rw [lg_entry_eq]
  generalize (lg_sl ([.ref h0]) ++ List.replicate (1 - (lg_sl ([.ref h0])).length) Slot.unset).toArray = ls at hl ⊢
  have hl : lv_has ls 1 [(0, .ref h0)] := hl
  refine lv_aload_n hx hb dX5_picks_0 rfl (lv_at hl 0 rfl) ?_
  refine va_get (D := (dC, dI)) (ci := 11) (v := .int 0) (C := RX5) (T := TX5) (N := 13) hx hb hts (by decide +kernel) hown hK hP 0 rfl rfl 2 (by decide) (hts (.fieldLink RX5 74 "Bothfaces" "pickCount" "I") (by decide +kernel)) (fun _ h9 => h9) rfl dX5_picks_1 ?_
  refine W.widen (k := 0) (n := 0) (Nat.le_of_ble_eq_true rfl) (Nat.le_of_ble_eq_true rfl) ?_
  exact W.iret (v := 0) hx hb hr (fun t ht hW => ⟨⟨0, (), rfl, rfl, trivial⟩, hS.F ht⟩) hS.2.2 dX5_picks_4

set_option maxHeartbeats 4000000 in
set_option maxRecDepth 100000 in
theorem c_X5_wipe (l : Launch) (dC : Nat → ClassId) (dI : Nat → Nat → Nat) (h0 : Nat) (g0 : Value) (g1 : Value) (g2 : Value) (g3 : Value) (g4 : Value) (g6 : Value) (g7 : Value) (g8 : Value) (g9 : Value) (g10 : Value) (g11 : Value) (g12 : Value) (sz : Nat) : Met l yX5_wipe wsX5_wipe ({ frames := 0, cells := 0, slots := 0, locals := 0 }) (va_Pc [.ref h0] (Pw dC dI sz [(h0, .inr (11, [g0, g1, g2, g3, g4, .int 0, g6, g7, g8, g9, g10, g11, g12]))] [])) (va_Qi (fun (r : Int32) (_ : Unit) => r = 0) (fun _ t => True) (va_A [(h0, .inr (11, [g0, g1, g2, g3, g4, .int 0, g6, g7, g8, g9, g10, g11, g12]))] sz)) 0 0 (va_A [(h0, .inr (11, [g0, g1, g2, g3, g4, .int 0, g6, g7, g8, g9, g10, g11, g12]))] sz) := by
  refine Met.ofW (cc := cX5_wipe) (maxL := 2) (ret := (some .int)) (by decide) rfl ?_
  intro p e s m args below meth c s₁ B hml hv
  obtain ⟨rfl, hsz, hP, hK, hD0, hamb⟩ := hv
  have hx := B.exec
  have hb := B.bytes
  have hr := B.returns
  have hts := atoms_spec (ws := wsX5_wipe) B.pre
  have hown : s.vm.findClass RX5 = some m.cls := findClass_of_methodNamed B.named
  have hlocks := B.notSynchronized
  subst hsz
  have hD := hD0.self (sz := s.heap.size)
  generalize hAe : va_A [(h0, .inr (11, [g0, g1, g2, g3, g4, .int 0, g6, g7, g8, g9, g10, g11, g12]))] s.heap.size = A at hD hamb ⊢
  have hA : ∀ q : Nat, s.heap.size ≤ q → A q := fun q h => by rw [← hAe]; exact Or.inr h
  have hS : va_S A s.heap s.heap [] := va_S.rf
  have hP : va_P (dC, dI) vwCl [(h0, .inr (11, [g0, g1, g2, g3, g4, .int 0, g6, g7, g8, g9, g10, g11, g12]))] s.heap := hP
  have hl := lv_entry ([.ref h0]) (n := 2) (Nat.le_of_ble_eq_true rfl)
  rw [lg_entry_eq]
  generalize (lg_sl ([.ref h0]) ++ List.replicate (2 - (lg_sl ([.ref h0])).length) Slot.unset).toArray = ls at hl ⊢
  have hl : lv_has ls 2 [(0, .ref h0)] := hl
  refine lv_aload_n hx hb dX5_wipe_0 rfl (lv_at hl 0 rfl) ?_
  refine va_get (D := (dC, dI)) (ci := 11) (v := .int 0) (C := RX5) (T := TX5) (N := 13) hx hb hts (by decide +kernel) hown hK hP 0 rfl rfl 5 (by decide) (hts (.fieldLink RX5 157 "Bothfaces" "typedCount" "I") (by decide +kernel)) (fun _ h9 => h9) rfl dX5_wipe_1 ?_
  refine lv_istore_n (lv' := [(1, .int 0), (0, .ref h0)]) hx hb dX5_wipe_4 rfl hl (by decide) rfl (fun ls hl => ?_)
  refine lv_aload_n hx hb dX5_wipe_5 rfl (lv_at hl 1 rfl) ?_
  refine lv_iconst (v := 0) hx hb dX5_wipe_6 (by decide) ?_
  refine va_put (D := (dC, dI)) (ci := 11) (v := .int 0) (ty := .int) (C := RX5) (T := TX5) (N := 13) hx hb hts (by decide +kernel) tyX5 tyX5_ok nmX5 hown hK hP hD hS 0 rfl rfl 5 (by decide) (hts (.fieldLink RX5 157 "Bothfaces" "typedCount" "I") (by decide +kernel)) (fun _ h9 => h9) rfl (by decide +kernel) rfl rfl (Nat.le_of_ble_eq_true rfl) dX5_wipe_7 (fun H locs hP hD hS => ?_)
  have hP : va_P (dC, dI) vwCl [(h0, .inr (11, [g0, g1, g2, g3, g4, .int 0, g6, g7, g8, g9, g10, g11, g12]))] H := hP
  have hD : va_D A [(h0, .inr (11, [g0, g1, g2, g3, g4, .int 0, g6, g7, g8, g9, g10, g11, g12]))] := hD
  refine lv_iload_n hx hb dX5_wipe_10 rfl (lv_at hl 0 rfl) ?_
  refine W.widen (k := 0) (n := 0) (Nat.le_of_ble_eq_true rfl) (Nat.le_of_ble_eq_true rfl) ?_
  exact W.iret (v := 0) hx hb hr (fun t ht hW => ⟨⟨0, (), rfl, rfl, trivial⟩, hS.F ht⟩) hS.2.2 dX5_wipe_11

set_option maxHeartbeats 4000000 in
set_option maxRecDepth 100000 in
theorem c_X5_faults (l : Launch) (dC : Nat → ClassId) (dI : Nat → Nat → Nat) (h0 : Nat) (p0 : Int32) (g0 : Value) (g2 : Value) (g3 : Value) (g4 : Value) (g5 : Value) (g6 : Value) (g7 : Value) (g8 : Value) (g9 : Value) (g10 : Value) (g11 : Value) (g12 : Value) (sz : Nat) : Met l yX5_faults wsX5_faults ({ frames := 0, cells := 0, slots := 0, locals := 0 }) (va_Pc [.ref h0, .int p0] (Pw dC dI sz [(h0, .inr (11, [g0, .int 0, g2, g3, g4, g5, g6, g7, g8, g9, g10, g11, g12]))] [])) (va_Qi (fun (r : Int32) (_ : Unit) => r = 0) (fun _ t => True) (va_A [(h0, .inr (11, [g0, .int 0, g2, g3, g4, g5, g6, g7, g8, g9, g10, g11, g12]))] sz)) 0 0 (va_A [(h0, .inr (11, [g0, .int 0, g2, g3, g4, g5, g6, g7, g8, g9, g10, g11, g12]))] sz) := by
  refine Met.ofW (cc := cX5_faults) (maxL := 4) (ret := (some .int)) (by decide) rfl ?_
  intro p e s m args below meth c s₁ B hml hv
  obtain ⟨rfl, hsz, hP, hK, hD0, hamb⟩ := hv
  have hx := B.exec
  have hb := B.bytes
  have hr := B.returns
  have hts := atoms_spec (ws := wsX5_faults) B.pre
  have hown : s.vm.findClass RX5 = some m.cls := findClass_of_methodNamed B.named
  have hlocks := B.notSynchronized
  subst hsz
  have hD := hD0.self (sz := s.heap.size)
  generalize hAe : va_A [(h0, .inr (11, [g0, .int 0, g2, g3, g4, g5, g6, g7, g8, g9, g10, g11, g12]))] s.heap.size = A at hD hamb ⊢
  have hA : ∀ q : Nat, s.heap.size ≤ q → A q := fun q h => by rw [← hAe]; exact Or.inr h
  have hS : va_S A s.heap s.heap [] := va_S.rf
  have hP : va_P (dC, dI) vwCl [(h0, .inr (11, [g0, .int 0, g2, g3, g4, g5, g6, g7, g8, g9, g10, g11, g12]))] s.heap := hP
  have hl := lv_entry ([.ref h0, .int p0]) (n := 4) (Nat.le_of_ble_eq_true rfl)
  rw [lg_entry_eq]
  generalize (lg_sl ([.ref h0, .int p0]) ++ List.replicate (4 - (lg_sl ([.ref h0, .int p0])).length) Slot.unset).toArray = ls at hl ⊢
  have hl : lv_has ls 4 [(0, .ref h0), (1, .int p0)] := hl
  refine lv_iconst (v := 0) hx hb dX5_faults_0 (by decide) ?_
  refine lv_istore_n (lv' := [(2, .int 0), (0, .ref h0), (1, .int p0)]) hx hb dX5_faults_1 rfl hl (by decide) rfl (fun ls hl => ?_)
  refine lv_iconst (v := 0) hx hb dX5_faults_2 (by decide) ?_
  refine lv_istore_n (lv' := [(3, .int 0), (2, .int 0), (0, .ref h0), (1, .int p0)]) hx hb dX5_faults_3 rfl hl (by decide) rfl (fun ls hl => ?_)
  refine lv_iload_n hx hb dX5_faults_4 rfl (lv_at hl 0 rfl) ?_
  refine lv_aload_n hx hb dX5_faults_5 rfl (lv_at hl 2 rfl) ?_
  refine va_get (D := (dC, dI)) (ci := 11) (v := .int 0) (C := RX5) (T := TX5) (N := 13) hx hb hts (by decide +kernel) hown hK hP 0 rfl rfl 1 (by decide) (hts (.fieldLink RX5 83 "Bothfaces" "cardCount" "I") (by decide +kernel)) (fun _ h9 => h9) rfl dX5_faults_6 ?_
  refine lv_icmp_ge (tgt := 27) hx hb dX5_faults_9 (by decide) (fun c_1 => ?_) (fun c_1 => ?_)
  · refine lv_iload_n hx hb dX5_faults_27 rfl (lv_at hl 1 rfl) ?_
    refine W.widen (k := 0) (n := 0) (Nat.le_of_ble_eq_true rfl) (Nat.le_of_ble_eq_true rfl) ?_
    exact W.iret (v := 0) hx hb hr (fun t ht hW => ⟨⟨0, (), rfl, rfl, trivial⟩, hS.F ht⟩) hS.2.2 dX5_faults_28
  · exact absurd (by decide) c_1

set_option maxHeartbeats 4000000 in
set_option maxRecDepth 100000 in
theorem c_X5_kinds (l : Launch) (dC : Nat → ClassId) (dI : Nat → Nat → Nat) (h0 : Nat) (g0 : Value) (g2 : Value) (g3 : Value) (g4 : Value) (g5 : Value) (g6 : Value) (g7 : Value) (g8 : Value) (g9 : Value) (g10 : Value) (g11 : Value) (g12 : Value) (sz : Nat) : Met l yX5_kinds wsX5_kinds ({ frames := 0, cells := 0, slots := 0, locals := 0 }) (va_Pc [.ref h0] (Pw dC dI sz [(h0, .inr (11, [g0, .int 0, g2, g3, g4, g5, g6, g7, g8, g9, g10, g11, g12]))] [])) (va_Qi (fun (r : Int32) (_ : Unit) => r = 0) (fun _ t => True) (va_A [(h0, .inr (11, [g0, .int 0, g2, g3, g4, g5, g6, g7, g8, g9, g10, g11, g12]))] sz)) 0 0 (va_A [(h0, .inr (11, [g0, .int 0, g2, g3, g4, g5, g6, g7, g8, g9, g10, g11, g12]))] sz) := by
  refine Met.ofW (cc := cX5_kinds) (maxL := 3) (ret := (some .int)) (by decide) rfl ?_
  intro p e s m args below meth c s₁ B hml hv
  obtain ⟨rfl, hsz, hP, hK, hD0, hamb⟩ := hv
  have hx := B.exec
  have hb := B.bytes
  have hr := B.returns
  have hts := atoms_spec (ws := wsX5_kinds) B.pre
  have hown : s.vm.findClass RX5 = some m.cls := findClass_of_methodNamed B.named
  have hlocks := B.notSynchronized
  subst hsz
  have hD := hD0.self (sz := s.heap.size)
  generalize hAe : va_A [(h0, .inr (11, [g0, .int 0, g2, g3, g4, g5, g6, g7, g8, g9, g10, g11, g12]))] s.heap.size = A at hD hamb ⊢
  have hA : ∀ q : Nat, s.heap.size ≤ q → A q := fun q h => by rw [← hAe]; exact Or.inr h
  have hS : va_S A s.heap s.heap [] := va_S.rf
  have hP : va_P (dC, dI) vwCl [(h0, .inr (11, [g0, .int 0, g2, g3, g4, g5, g6, g7, g8, g9, g10, g11, g12]))] s.heap := hP
  have hl := lv_entry ([.ref h0]) (n := 3) (Nat.le_of_ble_eq_true rfl)
  rw [lg_entry_eq]
  generalize (lg_sl ([.ref h0]) ++ List.replicate (3 - (lg_sl ([.ref h0])).length) Slot.unset).toArray = ls at hl ⊢
  have hl : lv_has ls 3 [(0, .ref h0)] := hl
  refine lv_iconst (v := 0) hx hb dX5_kinds_0 (by decide) ?_
  refine lv_istore_n (lv' := [(1, .int 0), (0, .ref h0)]) hx hb dX5_kinds_1 rfl hl (by decide) rfl (fun ls hl => ?_)
  refine lv_iconst (v := 0) hx hb dX5_kinds_2 (by decide) ?_
  refine lv_istore_n (lv' := [(2, .int 0), (1, .int 0), (0, .ref h0)]) hx hb dX5_kinds_3 rfl hl (by decide) rfl (fun ls hl => ?_)
  refine lv_iload_n hx hb dX5_kinds_4 rfl (lv_at hl 0 rfl) ?_
  refine lv_aload_n hx hb dX5_kinds_5 rfl (lv_at hl 2 rfl) ?_
  refine va_get (D := (dC, dI)) (ci := 11) (v := .int 0) (C := RX5) (T := TX5) (N := 13) hx hb hts (by decide +kernel) hown hK hP 0 rfl rfl 1 (by decide) (hts (.fieldLink RX5 83 "Bothfaces" "cardCount" "I") (by decide +kernel)) (fun _ h9 => h9) rfl dX5_kinds_6 ?_
  refine lv_icmp_ge (tgt := 29) hx hb dX5_kinds_9 (by decide) (fun c_1 => ?_) (fun c_1 => ?_)
  · refine lv_iload_n hx hb dX5_kinds_29 rfl (lv_at hl 1 rfl) ?_
    refine W.widen (k := 0) (n := 0) (Nat.le_of_ble_eq_true rfl) (Nat.le_of_ble_eq_true rfl) ?_
    exact W.iret (v := 0) hx hb hr (fun t ht hW => ⟨⟨0, (), rfl, rfl, trivial⟩, hS.F ht⟩) hS.2.2 dX5_kinds_30
  · exact absurd (by decide) c_1

set_option maxHeartbeats 4000000 in
set_option maxRecDepth 100000 in
theorem c_X5_pick (l : Launch) (hlt : l.stackTraces = false) (dC : Nat → ClassId) (dI : Nat → Nat → Nat) (h0 : Nat) (g0 : Value) (g2 : Value) (g3 : Value) (g4 : Value) (g5 : Value) (g6 : Value) (g7 : Value) (g8 : Value) (g9 : Value) (g10 : Value) (g11 : Value) (g12 : Value) (sz : Nat) : vx_Met l yX5_pick wsX5_pick ({ frames := 6, cells := 1, slots := 6, locals := 82 }) (va_Pc [.ref h0] (Pw dC dI sz [(h0, .inr (11, [g0, .int 0, g2, g3, g4, g5, g6, g7, g8, g9, g10, g11, g12]))] [])) (va_Qi (fun (r : Int32) (_ : Unit) => False) (fun _ t => True) (va_A [(h0, .inr (11, [g0, .int 0, g2, g3, g4, g5, g6, g7, g8, g9, g10, g11, g12]))] sz)) (vx_X (fun _ : Unit => True) (fun E _ _ => (E = "java/lang/UnsupportedOperationException" ∧ True)) (va_A [(h0, .inr (11, [g0, .int 0, g2, g3, g4, g5, g6, g7, g8, g9, g10, g11, g12]))] sz)) 1 6 (va_A [(h0, .inr (11, [g0, .int 0, g2, g3, g4, g5, g6, g7, g8, g9, g10, g11, g12]))] sz) := by
  refine vx_ofW (cc := cX5_pick) (maxL := 1) (ret := (some .int)) (by decide) rfl ?_
  intro p e s m args below meth c s₁ B hml htab hv
  obtain ⟨rfl, hsz, hP, hK, hD0, hamb⟩ := hv
  have hx := B.exec
  have hb := B.bytes
  have hr := B.returns
  have hts := atoms_spec (ws := wsX5_pick) B.pre
  have hown : s.vm.findClass RX5 = some m.cls := findClass_of_methodNamed B.named
  have hlocks := B.notSynchronized
  subst hsz
  have hD := hD0.self (sz := s.heap.size)
  generalize hAe : va_A [(h0, .inr (11, [g0, .int 0, g2, g3, g4, g5, g6, g7, g8, g9, g10, g11, g12]))] s.heap.size = A at hD hamb ⊢
  have hA : ∀ q : Nat, s.heap.size ≤ q → A q := fun q h => by rw [← hAe]; exact Or.inr h
  have hS : va_S A s.heap s.heap [] := va_S.rf
  have hP : va_P (dC, dI) vwCl [(h0, .inr (11, [g0, .int 0, g2, g3, g4, g5, g6, g7, g8, g9, g10, g11, g12]))] s.heap := hP
  have hl := lv_entry ([.ref h0]) (n := 1) (Nat.le_of_ble_eq_true rfl)
  rw [lg_entry_eq]
  generalize (lg_sl ([.ref h0]) ++ List.replicate (1 - (lg_sl ([.ref h0])).length) Slot.unset).toArray = ls at hl ⊢
  have hl : lv_has ls 1 [(0, .ref h0)] := hl
  refine lv_aload_n hx hb dX5_pick_0 rfl (lv_at hl 0 rfl) ?_
  refine va_get (D := (dC, dI)) (ci := 11) (v := .int 0) (C := RX5) (T := TX5) (N := 13) hx hb hts (by decide +kernel) hown hK hP 0 rfl rfl 1 (by decide) (hts (.fieldLink RX5 83 "Bothfaces" "cardCount" "I") (by decide +kernel)) (fun _ h9 => h9) rfl dX5_pick_1 ?_
  refine lv_if_ne (tgt := 17) hx hb dX5_pick_4 (by decide) (fun c_1 => ?_) (fun c_1 => ?_)
  · exact absurd c_1 (by decide)
  · obtain ⟨sa, hsa⟩ := hamb.2.2.1 (RX5, 128, "there are no cards") (by decide +kernel)
    exact vx_throwS (names := ["java/lang/RuntimeException", "java/lang/Exception"]) hx hb hlt hown (by decide +kernel) (by decide +kernel) (hts (.classLink RX5 78 "java/lang/UnsupportedOperationException") (by decide +kernel)) (hts (.initialized "java/lang/UnsupportedOperationException") (by decide +kernel)) hsa (vx_hat (B := ambW) (fun w hw => hts w (List.mem_cons_of_mem _ (List.mem_append_left _ (List.mem_append_left _ (List.mem_append_right _ hw))))) (by decide +kernel) (fun w hw => hamb.use hw)) (by decide +kernel) hamb.2.2.2.1 hamb.2.2.2.2 hS (by rw [hml]; exact hl.1) dX5_pick_7 dX5_pick_10 dX5_pick_11 dX5_pick_13 dX5_pick_16 (fun x hxx => (htab x hxx).elim) (Nat.le_of_ble_eq_true rfl) (Nat.le_of_ble_eq_true rfl) (Nat.le_of_ble_eq_true rfl) (Nat.le_of_ble_eq_true rfl) hlocks (fun t ha h1 h2 => ⟨(), trivial, (⟨rfl, trivial⟩), xc_F hS h1 h2⟩) hS.2.2 (Nat.le_of_ble_eq_true rfl) (Nat.le_of_ble_eq_true rfl)

set_option maxHeartbeats 4000000 in
set_option maxRecDepth 100000 in
theorem c_X5_unweave (l : Launch) (hlt : l.stackTraces = false) (dC : Nat → ClassId) (dI : Nat → Nat → Nat) (h0 : Nat) (g0 : Value) (g1 : Value) (g3 : Value) (g4 : Value) (g5 : Value) (g6 : Value) (g7 : Value) (g8 : Value) (g9 : Value) (g10 : Value) (g11 : Value) (g12 : Value) (sz : Nat) : vx_Met l yX5_unweave wsX5_unweave ({ frames := 6, cells := 1, slots := 6, locals := 82 }) (va_Pc [.ref h0] (Pw dC dI sz [(h0, .inr (11, [g0, g1, .int 0, g3, g4, g5, g6, g7, g8, g9, g10, g11, g12]))] [])) (va_Qi (fun (r : Int32) (_ : Unit) => False) (fun _ t => True) (va_A [(h0, .inr (11, [g0, g1, .int 0, g3, g4, g5, g6, g7, g8, g9, g10, g11, g12]))] sz)) (vx_X (fun _ : Unit => True) (fun E _ _ => (E = "java/lang/UnsupportedOperationException" ∧ True)) (va_A [(h0, .inr (11, [g0, g1, .int 0, g3, g4, g5, g6, g7, g8, g9, g10, g11, g12]))] sz)) 1 6 (va_A [(h0, .inr (11, [g0, g1, .int 0, g3, g4, g5, g6, g7, g8, g9, g10, g11, g12]))] sz) := by
  refine vx_ofW (cc := cX5_unweave) (maxL := 2) (ret := (some .int)) (by decide) rfl ?_
  intro p e s m args below meth c s₁ B hml htab hv
  obtain ⟨rfl, hsz, hP, hK, hD0, hamb⟩ := hv
  have hx := B.exec
  have hb := B.bytes
  have hr := B.returns
  have hts := atoms_spec (ws := wsX5_unweave) B.pre
  have hown : s.vm.findClass RX5 = some m.cls := findClass_of_methodNamed B.named
  have hlocks := B.notSynchronized
  subst hsz
  have hD := hD0.self (sz := s.heap.size)
  generalize hAe : va_A [(h0, .inr (11, [g0, g1, .int 0, g3, g4, g5, g6, g7, g8, g9, g10, g11, g12]))] s.heap.size = A at hD hamb ⊢
  have hA : ∀ q : Nat, s.heap.size ≤ q → A q := fun q h => by rw [← hAe]; exact Or.inr h
  have hS : va_S A s.heap s.heap [] := va_S.rf
  have hP : va_P (dC, dI) vwCl [(h0, .inr (11, [g0, g1, .int 0, g3, g4, g5, g6, g7, g8, g9, g10, g11, g12]))] s.heap := hP
  have hl := lv_entry ([.ref h0]) (n := 2) (Nat.le_of_ble_eq_true rfl)
  rw [lg_entry_eq]
  generalize (lg_sl ([.ref h0]) ++ List.replicate (2 - (lg_sl ([.ref h0])).length) Slot.unset).toArray = ls at hl ⊢
  have hl : lv_has ls 2 [(0, .ref h0)] := hl
  refine lv_aload_n hx hb dX5_unweave_0 rfl (lv_at hl 0 rfl) ?_
  refine va_get (D := (dC, dI)) (ci := 11) (v := .int 0) (C := RX5) (T := TX5) (N := 13) hx hb hts (by decide +kernel) hown hK hP 0 rfl rfl 2 (by decide) (hts (.fieldLink RX5 74 "Bothfaces" "pickCount" "I") (by decide +kernel)) (fun _ h9 => h9) rfl dX5_unweave_1 ?_
  refine lv_if_ne (tgt := 17) hx hb dX5_unweave_4 (by decide) (fun c_1 => ?_) (fun c_1 => ?_)
  · exact absurd c_1 (by decide)
  · obtain ⟨sa, hsa⟩ := hamb.2.2.1 (RX5, 135, "there is no pick") (by decide +kernel)
    exact vx_throwS (names := ["java/lang/RuntimeException", "java/lang/Exception"]) hx hb hlt hown (by decide +kernel) (by decide +kernel) (hts (.classLink RX5 78 "java/lang/UnsupportedOperationException") (by decide +kernel)) (hts (.initialized "java/lang/UnsupportedOperationException") (by decide +kernel)) hsa (vx_hat (B := ambW) (fun w hw => hts w (List.mem_cons_of_mem _ (List.mem_append_left _ (List.mem_append_right _ hw)))) (by decide +kernel) (fun w hw => hamb.use hw)) (by decide +kernel) hamb.2.2.2.1 hamb.2.2.2.2 hS (by rw [hml]; exact hl.1) dX5_unweave_7 dX5_unweave_10 dX5_unweave_11 dX5_unweave_13 dX5_unweave_16 (fun x hxx => (htab x hxx).elim) (Nat.le_of_ble_eq_true rfl) (Nat.le_of_ble_eq_true rfl) (Nat.le_of_ble_eq_true rfl) (Nat.le_of_ble_eq_true rfl) hlocks (fun t ha h1 h2 => ⟨(), trivial, (⟨rfl, trivial⟩), xc_F hS h1 h2⟩) hS.2.2 (Nat.le_of_ble_eq_true rfl) (Nat.le_of_ble_eq_true rfl)

set_option maxHeartbeats 4000000 in
set_option maxRecDepth 100000 in
theorem c_X5_firstFault (l : Launch) (hlt : l.stackTraces = false) (dC : Nat → ClassId) (dI : Nat → Nat → Nat) (h0 : Nat) (g0 : Value) (g1 : Value) (g3 : Value) (g4 : Value) (g5 : Value) (g6 : Value) (g7 : Value) (g8 : Value) (g9 : Value) (g10 : Value) (g11 : Value) (g12 : Value) (sz : Nat) : vx_Met l yX5_firstFault wsX5_firstFault ({ frames := 6, cells := 1, slots := 6, locals := 82 }) (va_Pc [.ref h0] (Pw dC dI sz [(h0, .inr (11, [g0, g1, .int 0, g3, g4, g5, g6, g7, g8, g9, g10, g11, g12]))] [])) (va_Qi (fun (r : Int32) (_ : Unit) => False) (fun _ t => True) (va_A [(h0, .inr (11, [g0, g1, .int 0, g3, g4, g5, g6, g7, g8, g9, g10, g11, g12]))] sz)) (vx_X (fun _ : Unit => True) (fun E _ _ => (E = "java/util/NoSuchElementException" ∧ True)) (va_A [(h0, .inr (11, [g0, g1, .int 0, g3, g4, g5, g6, g7, g8, g9, g10, g11, g12]))] sz)) 1 6 (va_A [(h0, .inr (11, [g0, g1, .int 0, g3, g4, g5, g6, g7, g8, g9, g10, g11, g12]))] sz) := by
  refine vx_ofW (cc := cX5_firstFault) (maxL := 3) (ret := (some .int)) (by decide) rfl ?_
  intro p e s m args below meth c s₁ B hml htab hv
  obtain ⟨rfl, hsz, hP, hK, hD0, hamb⟩ := hv
  have hx := B.exec
  have hb := B.bytes
  have hr := B.returns
  have hts := atoms_spec (ws := wsX5_firstFault) B.pre
  have hown : s.vm.findClass RX5 = some m.cls := findClass_of_methodNamed B.named
  have hlocks := B.notSynchronized
  subst hsz
  have hD := hD0.self (sz := s.heap.size)
  generalize hAe : va_A [(h0, .inr (11, [g0, g1, .int 0, g3, g4, g5, g6, g7, g8, g9, g10, g11, g12]))] s.heap.size = A at hD hamb ⊢
  have hA : ∀ q : Nat, s.heap.size ≤ q → A q := fun q h => by rw [← hAe]; exact Or.inr h
  have hS : va_S A s.heap s.heap [] := va_S.rf
  have hP : va_P (dC, dI) vwCl [(h0, .inr (11, [g0, g1, .int 0, g3, g4, g5, g6, g7, g8, g9, g10, g11, g12]))] s.heap := hP
  have hl := lv_entry ([.ref h0]) (n := 3) (Nat.le_of_ble_eq_true rfl)
  rw [lg_entry_eq]
  generalize (lg_sl ([.ref h0]) ++ List.replicate (3 - (lg_sl ([.ref h0])).length) Slot.unset).toArray = ls at hl ⊢
  have hl : lv_has ls 3 [(0, .ref h0)] := hl
  refine lv_iconst (v := 0) hx hb dX5_firstFault_0 (by decide) ?_
  refine lv_istore_n (lv' := [(1, .int 0), (0, .ref h0)]) hx hb dX5_firstFault_1 rfl hl (by decide) rfl (fun ls hl => ?_)
  refine lv_iload_n hx hb dX5_firstFault_2 rfl (lv_at hl 0 rfl) ?_
  refine lv_aload_n hx hb dX5_firstFault_3 rfl (lv_at hl 1 rfl) ?_
  refine va_get (D := (dC, dI)) (ci := 11) (v := .int 0) (C := RX5) (T := TX5) (N := 13) hx hb hts (by decide +kernel) hown hK hP 0 rfl rfl 2 (by decide) (hts (.fieldLink RX5 74 "Bothfaces" "pickCount" "I") (by decide +kernel)) (fun _ h9 => h9) rfl dX5_firstFault_4 ?_
  refine lv_icmp_ge (tgt := 43) hx hb dX5_firstFault_7 (by decide) (fun c_1 => ?_) (fun c_1 => ?_)
  · obtain ⟨sa, hsa⟩ := hamb.2.2.1 (RX5, 223, "there is no fault") (by decide +kernel)
    exact vx_throwS (names := ["java/lang/RuntimeException", "java/lang/Exception"]) hx hb hlt hown (by decide +kernel) (by decide +kernel) (hts (.classLink RX5 207 "java/util/NoSuchElementException") (by decide +kernel)) (hts (.initialized "java/util/NoSuchElementException") (by decide +kernel)) hsa (vx_hat (B := ambW) (fun w hw => hts w (List.mem_cons_of_mem _ (List.mem_append_left _ (List.mem_append_right _ hw)))) (by decide +kernel) (fun w hw => hamb.use hw)) (by decide +kernel) hamb.2.2.2.1 hamb.2.2.2.2 hS (by rw [hml]; exact hl.1) dX5_firstFault_43 dX5_firstFault_46 dX5_firstFault_47 dX5_firstFault_49 dX5_firstFault_52 (fun x hxx => (htab x hxx).elim) (Nat.le_of_ble_eq_true rfl) (Nat.le_of_ble_eq_true rfl) (Nat.le_of_ble_eq_true rfl) (Nat.le_of_ble_eq_true rfl) hlocks (fun t ha h1 h2 => ⟨(), trivial, (⟨rfl, trivial⟩), xc_F hS h1 h2⟩) hS.2.2 (Nat.le_of_ble_eq_true rfl) (Nat.le_of_ble_eq_true rfl)
  · exact absurd (by decide) c_1

set_option maxHeartbeats 4000000 in
set_option maxRecDepth 100000 in
theorem c_X5_suspect (l : Launch) (hlt : l.stackTraces = false) (dC : Nat → ClassId) (dI : Nat → Nat → Nat) (h0 : Nat) (g0 : Value) (g2 : Value) (g3 : Value) (g4 : Value) (g5 : Value) (g6 : Value) (g7 : Value) (g8 : Value) (g9 : Value) (g10 : Value) (g11 : Value) (g12 : Value) (sz : Nat) : vx_Met l yX5_suspect wsX5_suspect ({ frames := 6, cells := 1, slots := 6, locals := 82 }) (va_Pc [.ref h0] (Pw dC dI sz [(h0, .inr (11, [g0, .int 0, g2, g3, g4, g5, g6, g7, g8, g9, g10, g11, g12]))] [])) (va_Qi (fun (r : Int32) (_ : Unit) => False) (fun _ t => True) (va_A [(h0, .inr (11, [g0, .int 0, g2, g3, g4, g5, g6, g7, g8, g9, g10, g11, g12]))] sz)) (vx_X (fun _ : Unit => True) (fun E _ _ => (E = "java/util/NoSuchElementException" ∧ True)) (va_A [(h0, .inr (11, [g0, .int 0, g2, g3, g4, g5, g6, g7, g8, g9, g10, g11, g12]))] sz)) 1 6 (va_A [(h0, .inr (11, [g0, .int 0, g2, g3, g4, g5, g6, g7, g8, g9, g10, g11, g12]))] sz) := by
  refine vx_ofW (cc := cX5_suspect) (maxL := 5) (ret := (some .int)) (by decide) rfl ?_
  intro p e s m args below meth c s₁ B hml htab hv
  obtain ⟨rfl, hsz, hP, hK, hD0, hamb⟩ := hv
  have hx := B.exec
  have hb := B.bytes
  have hr := B.returns
  have hts := atoms_spec (ws := wsX5_suspect) B.pre
  have hown : s.vm.findClass RX5 = some m.cls := findClass_of_methodNamed B.named
  have hlocks := B.notSynchronized
  subst hsz
  have hD := hD0.self (sz := s.heap.size)
  generalize hAe : va_A [(h0, .inr (11, [g0, .int 0, g2, g3, g4, g5, g6, g7, g8, g9, g10, g11, g12]))] s.heap.size = A at hD hamb ⊢
  have hA : ∀ q : Nat, s.heap.size ≤ q → A q := fun q h => by rw [← hAe]; exact Or.inr h
  have hS : va_S A s.heap s.heap [] := va_S.rf
  have hP : va_P (dC, dI) vwCl [(h0, .inr (11, [g0, .int 0, g2, g3, g4, g5, g6, g7, g8, g9, g10, g11, g12]))] s.heap := hP
  have hl := lv_entry ([.ref h0]) (n := 5) (Nat.le_of_ble_eq_true rfl)
  rw [lg_entry_eq]
  generalize (lg_sl ([.ref h0]) ++ List.replicate (5 - (lg_sl ([.ref h0])).length) Slot.unset).toArray = ls at hl ⊢
  have hl : lv_has ls 5 [(0, .ref h0)] := hl
  refine lv_iconst (v := 0) hx hb dX5_suspect_0 (by decide) ?_
  refine lv_istore_n (lv' := [(1, .int 0), (0, .ref h0)]) hx hb dX5_suspect_1 rfl hl (by decide) rfl (fun ls hl => ?_)
  refine lv_iconst (v := 0) hx hb dX5_suspect_2 (by decide) ?_
  refine lv_istore_n (lv' := [(2, .int 0), (1, .int 0), (0, .ref h0)]) hx hb dX5_suspect_3 rfl hl (by decide) rfl (fun ls hl => ?_)
  refine lv_iconst (v := 0) hx hb dX5_suspect_4 (by decide) ?_
  refine lv_istore_n (lv' := [(3, .int 0), (2, .int 0), (1, .int 0), (0, .ref h0)]) hx hb dX5_suspect_5 rfl hl (by decide) rfl (fun ls hl => ?_)
  refine lv_iload_n hx hb dX5_suspect_6 rfl (lv_at hl 0 rfl) ?_
  refine lv_aload_n hx hb dX5_suspect_7 rfl (lv_at hl 3 rfl) ?_
  refine va_get (D := (dC, dI)) (ci := 11) (v := .int 0) (C := RX5) (T := TX5) (N := 13) hx hb hts (by decide +kernel) hown hK hP 0 rfl rfl 1 (by decide) (hts (.fieldLink RX5 83 "Bothfaces" "cardCount" "I") (by decide +kernel)) (fun _ h9 => h9) rfl dX5_suspect_8 ?_
  refine lv_icmp_ge (tgt := 46) hx hb dX5_suspect_11 (by decide) (fun c_1 => ?_) (fun c_1 => ?_)
  · refine lv_iload_n hx hb dX5_suspect_46 rfl (lv_at hl 1 rfl) ?_
    refine lv_if_ne (tgt := 60) hx hb dX5_suspect_47 (by decide) (fun c_2 => ?_) (fun c_2 => ?_)
    · exact absurd c_2 (by decide)
    · obtain ⟨sa, hsa⟩ := hamb.2.2.1 (RX5, 223, "there is no fault") (by decide +kernel)
      exact vx_throwS (names := ["java/lang/RuntimeException", "java/lang/Exception"]) hx hb hlt hown (by decide +kernel) (by decide +kernel) (hts (.classLink RX5 207 "java/util/NoSuchElementException") (by decide +kernel)) (hts (.initialized "java/util/NoSuchElementException") (by decide +kernel)) hsa (vx_hat (B := ambW) (fun w hw => hts w (List.mem_cons_of_mem _ (List.mem_append_left _ (List.mem_append_right _ hw)))) (by decide +kernel) (fun w hw => hamb.use hw)) (by decide +kernel) hamb.2.2.2.1 hamb.2.2.2.2 hS (by rw [hml]; exact hl.1) dX5_suspect_50 dX5_suspect_53 dX5_suspect_54 dX5_suspect_56 dX5_suspect_59 (fun x hxx => (htab x hxx).elim) (Nat.le_of_ble_eq_true rfl) (Nat.le_of_ble_eq_true rfl) (Nat.le_of_ble_eq_true rfl) (Nat.le_of_ble_eq_true rfl) hlocks (fun t ha h1 h2 => ⟨(), trivial, (⟨rfl, trivial⟩), xc_F hS h1 h2⟩) hS.2.2 (Nat.le_of_ble_eq_true rfl) (Nat.le_of_ble_eq_true rfl)
  · exact absurd (by decide) c_1

set_option maxHeartbeats 4000000 in
set_option maxRecDepth 100000 in
theorem c_X5_hand (l : Launch) (hlt : l.stackTraces = false) (dC : Nat → ClassId) (dI : Nat → Nat → Nat) (h0 : Nat) (g0 : Value) (g1 : Value) (g2 : Value) (g3 : Value) (g4 : Value) (g5 : Value) (g6 : Value) (g7 : Value) (g8 : Value) (g9 : Value) (g10 : Value) (g12 : Value) (sz : Nat) : vx_Met l yX5_hand wsX5_hand ({ frames := 6, cells := 1, slots := 6, locals := 82 }) (va_Pc [.ref h0] (Pw dC dI sz [(h0, .inr (11, [g0, g1, g2, g3, g4, g5, g6, g7, g8, g9, g10, .int 0, g12]))] [])) (va_Qi (fun (r : Int32) (_ : Unit) => False) (fun _ t => True) (va_A [(h0, .inr (11, [g0, g1, g2, g3, g4, g5, g6, g7, g8, g9, g10, .int 0, g12]))] sz)) (vx_X (fun _ : Unit => True) (fun E _ _ => (E = "java/util/NoSuchElementException" ∧ True)) (va_A [(h0, .inr (11, [g0, g1, g2, g3, g4, g5, g6, g7, g8, g9, g10, .int 0, g12]))] sz)) 1 6 (va_A [(h0, .inr (11, [g0, g1, g2, g3, g4, g5, g6, g7, g8, g9, g10, .int 0, g12]))] sz) := by
  refine vx_ofW (cc := cX5_hand) (maxL := 6) (ret := (some .int)) (by decide) rfl ?_
  intro p e s m args below meth c s₁ B hml htab hv
  obtain ⟨rfl, hsz, hP, hK, hD0, hamb⟩ := hv
  have hx := B.exec
  have hb := B.bytes
  have hr := B.returns
  have hts := atoms_spec (ws := wsX5_hand) B.pre
  have hown : s.vm.findClass RX5 = some m.cls := findClass_of_methodNamed B.named
  have hlocks := B.notSynchronized
  subst hsz
  have hD := hD0.self (sz := s.heap.size)
  generalize hAe : va_A [(h0, .inr (11, [g0, g1, g2, g3, g4, g5, g6, g7, g8, g9, g10, .int 0, g12]))] s.heap.size = A at hD hamb ⊢
  have hA : ∀ q : Nat, s.heap.size ≤ q → A q := fun q h => by rw [← hAe]; exact Or.inr h
  have hS : va_S A s.heap s.heap [] := va_S.rf
  have hP : va_P (dC, dI) vwCl [(h0, .inr (11, [g0, g1, g2, g3, g4, g5, g6, g7, g8, g9, g10, .int 0, g12]))] s.heap := hP
  have hl := lv_entry ([.ref h0]) (n := 6) (Nat.le_of_ble_eq_true rfl)
  rw [lg_entry_eq]
  generalize (lg_sl ([.ref h0]) ++ List.replicate (6 - (lg_sl ([.ref h0])).length) Slot.unset).toArray = ls at hl ⊢
  have hl : lv_has ls 6 [(0, .ref h0)] := hl
  refine lv_aload_n hx hb dX5_hand_0 rfl (lv_at hl 0 rfl) ?_
  refine va_get (D := (dC, dI)) (ci := 11) (v := .int 0) (C := RX5) (T := TX5) (N := 13) hx hb hts (by decide +kernel) hown hK hP 0 rfl rfl 11 (by decide) (hts (.fieldLink RX5 239 "Bothfaces" "weaverCount" "I") (by decide +kernel)) (fun _ h9 => h9) rfl dX5_hand_1 ?_
  refine lv_if_eq (tgt := 14) hx hb dX5_hand_4 (by decide) (fun c_1 => ?_) (fun c_1 => ?_)
  · obtain ⟨sa, hsa⟩ := hamb.2.2.1 (RX5, 244, "there are no weavers, or no picks") (by decide +kernel)
    exact vx_throwS (names := ["java/lang/RuntimeException", "java/lang/Exception"]) hx hb hlt hown (by decide +kernel) (by decide +kernel) (hts (.classLink RX5 207 "java/util/NoSuchElementException") (by decide +kernel)) (hts (.initialized "java/util/NoSuchElementException") (by decide +kernel)) hsa (vx_hat (B := ambW) (fun w hw => hts w (List.mem_cons_of_mem _ (List.mem_append_left _ (List.mem_append_right _ hw)))) (by decide +kernel) (fun w hw => hamb.use hw)) (by decide +kernel) hamb.2.2.2.1 hamb.2.2.2.2 hS (by rw [hml]; exact hl.1) dX5_hand_14 dX5_hand_17 dX5_hand_18 dX5_hand_20 dX5_hand_23 (fun x hxx => (htab x hxx).elim) (Nat.le_of_ble_eq_true rfl) (Nat.le_of_ble_eq_true rfl) (Nat.le_of_ble_eq_true rfl) (Nat.le_of_ble_eq_true rfl) hlocks (fun t ha h1 h2 => ⟨(), trivial, (⟨rfl, trivial⟩), xc_F hS h1 h2⟩) hS.2.2 (Nat.le_of_ble_eq_true rfl) (Nat.le_of_ble_eq_true rfl)
  · exact absurd (by decide) c_1

set_option maxHeartbeats 4000000 in
set_option maxRecDepth 100000 in
theorem c_X5_rightShare (l : Launch) (hlt : l.stackTraces = false) (dC : Nat → ClassId) (dI : Nat → Nat → Nat) (h0 : Nat) (g0 : Value) (g3 : Value) (g4 : Value) (g5 : Value) (g6 : Value) (g7 : Value) (g8 : Value) (g9 : Value) (g10 : Value) (g11 : Value) (g12 : Value) (sz : Nat) : vx_Met l yX5_rightShare wsX5_rightShare ({ frames := 6, cells := 1, slots := 6, locals := 82 }) (va_Pc [.ref h0] (Pw dC dI sz [(h0, .inr (11, [g0, .int 0, .int 0, g3, g4, g5, g6, g7, g8, g9, g10, g11, g12]))] [])) (va_Qf (fun (r : UInt32) (_ : Unit) => False) (fun _ t => True) (va_A [(h0, .inr (11, [g0, .int 0, .int 0, g3, g4, g5, g6, g7, g8, g9, g10, g11, g12]))] sz)) (vx_X (fun _ : Unit => True) (fun E _ _ => (E = "java/lang/ArithmeticException" ∧ True)) (va_A [(h0, .inr (11, [g0, .int 0, .int 0, g3, g4, g5, g6, g7, g8, g9, g10, g11, g12]))] sz)) 1 6 (va_A [(h0, .inr (11, [g0, .int 0, .int 0, g3, g4, g5, g6, g7, g8, g9, g10, g11, g12]))] sz) := by
  refine vx_ofW (cc := cX5_rightShare) (maxL := 5) (ret := (some .float)) (by decide) rfl ?_
  intro p e s m args below meth c s₁ B hml htab hv
  obtain ⟨rfl, hsz, hP, hK, hD0, hamb⟩ := hv
  have hx := B.exec
  have hb := B.bytes
  have hr := B.returns
  have hts := atoms_spec (ws := wsX5_rightShare) B.pre
  have hown : s.vm.findClass RX5 = some m.cls := findClass_of_methodNamed B.named
  have hlocks := B.notSynchronized
  subst hsz
  have hD := hD0.self (sz := s.heap.size)
  generalize hAe : va_A [(h0, .inr (11, [g0, .int 0, .int 0, g3, g4, g5, g6, g7, g8, g9, g10, g11, g12]))] s.heap.size = A at hD hamb ⊢
  have hA : ∀ q : Nat, s.heap.size ≤ q → A q := fun q h => by rw [← hAe]; exact Or.inr h
  have hS : va_S A s.heap s.heap [] := va_S.rf
  have hP : va_P (dC, dI) vwCl [(h0, .inr (11, [g0, .int 0, .int 0, g3, g4, g5, g6, g7, g8, g9, g10, g11, g12]))] s.heap := hP
  have hl := lv_entry ([.ref h0]) (n := 5) (Nat.le_of_ble_eq_true rfl)
  rw [lg_entry_eq]
  generalize (lg_sl ([.ref h0]) ++ List.replicate (5 - (lg_sl ([.ref h0])).length) Slot.unset).toArray = ls at hl ⊢
  have hl : lv_has ls 5 [(0, .ref h0)] := hl
  refine lv_aload_n hx hb dX5_rightShare_0 rfl (lv_at hl 0 rfl) ?_
  refine va_get (D := (dC, dI)) (ci := 11) (v := .int 0) (C := RX5) (T := TX5) (N := 13) hx hb hts (by decide +kernel) hown hK hP 0 rfl rfl 1 (by decide) (hts (.fieldLink RX5 83 "Bothfaces" "cardCount" "I") (by decide +kernel)) (fun _ h9 => h9) rfl dX5_rightShare_1 ?_
  refine lv_aload_n hx hb dX5_rightShare_4 rfl (lv_at hl 0 rfl) ?_
  refine va_get (D := (dC, dI)) (ci := 11) (v := .int 0) (C := RX5) (T := TX5) (N := 13) hx hb hts (by decide +kernel) hown hK hP 0 rfl rfl 2 (by decide) (hts (.fieldLink RX5 74 "Bothfaces" "pickCount" "I") (by decide +kernel)) (fun _ h9 => h9) rfl dX5_rightShare_5 ?_
  refine lv_imul hx hb dX5_rightShare_8 ?_
  refine lv_topi (fun k_1 ek_1 => ?_)
  obtain rfl : k_1 = 0 := ek_1.trans (by decide)
  refine lv_istore_n (lv' := [(1, .int 0), (0, .ref h0)]) hx hb dX5_rightShare_9 rfl hl (by decide) rfl (fun ls hl => ?_)
  refine lv_iload_n hx hb dX5_rightShare_10 rfl (lv_at hl 0 rfl) ?_
  refine lv_if_ne (tgt := 25) hx hb dX5_rightShare_11 (by decide) (fun c_2 => ?_) (fun c_2 => ?_)
  · exact absurd c_2 (by decide)
  · obtain ⟨sa, hsa⟩ := hamb.2.2.1 (RX5, 285, "there are no squares") (by decide +kernel)
    exact vx_throwSW (names := ["java/lang/RuntimeException", "java/lang/Exception"]) hx hb hlt hown (by decide +kernel) (by decide +kernel) (hts (.classLink RX5 283 "java/lang/ArithmeticException") (by decide +kernel)) (hts (.initialized "java/lang/ArithmeticException") (by decide +kernel)) hsa (vx_hat (B := ambW) (fun w hw => hts w (List.mem_cons_of_mem _ (List.mem_append_left _ (List.mem_append_right _ hw)))) (by decide +kernel) (fun w hw => hamb.use hw)) (by decide +kernel) hamb.2.2.2.1 hamb.2.2.2.2 hS (by rw [hml]; exact hl.1) dX5_rightShare_14 dX5_rightShare_17 dX5_rightShare_18 dX5_rightShare_21 dX5_rightShare_24 (fun x hxx => (htab x hxx).elim) (Nat.le_of_ble_eq_true rfl) (Nat.le_of_ble_eq_true rfl) (Nat.le_of_ble_eq_true rfl) (Nat.le_of_ble_eq_true rfl) hlocks (fun t ha h1 h2 => ⟨(), trivial, (⟨rfl, trivial⟩), xc_F hS h1 h2⟩) hS.2.2 (Nat.le_of_ble_eq_true rfl) (Nat.le_of_ble_eq_true rfl)

set_option maxHeartbeats 4000000 in
set_option maxRecDepth 100000 in
theorem c_X5_meanTwist (l : Launch) (hlt : l.stackTraces = false) (dC : Nat → ClassId) (dI : Nat → Nat → Nat) (h0 : Nat) (g0 : Value) (g2 : Value) (g3 : Value) (g4 : Value) (g5 : Value) (g6 : Value) (g7 : Value) (g8 : Value) (g9 : Value) (g10 : Value) (g11 : Value) (g12 : Value) (sz : Nat) : vx_Met l yX5_meanTwist wsX5_meanTwist ({ frames := 6, cells := 1, slots := 6, locals := 82 }) (va_Pc [.ref h0] (Pw dC dI sz [(h0, .inr (11, [g0, .int 0, g2, g3, g4, g5, g6, g7, g8, g9, g10, g11, g12]))] [])) (va_Qd (fun (r : UInt64) (_ : Unit) => False) (fun _ t => True) (va_A [(h0, .inr (11, [g0, .int 0, g2, g3, g4, g5, g6, g7, g8, g9, g10, g11, g12]))] sz)) (vx_X (fun _ : Unit => True) (fun E _ _ => (E = "java/lang/ArithmeticException" ∧ True)) (va_A [(h0, .inr (11, [g0, .int 0, g2, g3, g4, g5, g6, g7, g8, g9, g10, g11, g12]))] sz)) 1 6 (va_A [(h0, .inr (11, [g0, .int 0, g2, g3, g4, g5, g6, g7, g8, g9, g10, g11, g12]))] sz) := by
  refine vx_ofW (cc := cX5_meanTwist) (maxL := 3) (ret := (some .double)) (by decide) rfl ?_
  intro p e s m args below meth c s₁ B hml htab hv
  obtain ⟨rfl, hsz, hP, hK, hD0, hamb⟩ := hv
  have hx := B.exec
  have hb := B.bytes
  have hr := B.returns
  have hts := atoms_spec (ws := wsX5_meanTwist) B.pre
  have hown : s.vm.findClass RX5 = some m.cls := findClass_of_methodNamed B.named
  have hlocks := B.notSynchronized
  subst hsz
  have hD := hD0.self (sz := s.heap.size)
  generalize hAe : va_A [(h0, .inr (11, [g0, .int 0, g2, g3, g4, g5, g6, g7, g8, g9, g10, g11, g12]))] s.heap.size = A at hD hamb ⊢
  have hA : ∀ q : Nat, s.heap.size ≤ q → A q := fun q h => by rw [← hAe]; exact Or.inr h
  have hS : va_S A s.heap s.heap [] := va_S.rf
  have hP : va_P (dC, dI) vwCl [(h0, .inr (11, [g0, .int 0, g2, g3, g4, g5, g6, g7, g8, g9, g10, g11, g12]))] s.heap := hP
  have hl := lv_entry ([.ref h0]) (n := 3) (Nat.le_of_ble_eq_true rfl)
  rw [lg_entry_eq]
  generalize (lg_sl ([.ref h0]) ++ List.replicate (3 - (lg_sl ([.ref h0])).length) Slot.unset).toArray = ls at hl ⊢
  have hl : lv_has ls 3 [(0, .ref h0)] := hl
  refine lv_aload_n hx hb dX5_meanTwist_0 rfl (lv_at hl 0 rfl) ?_
  refine va_get (D := (dC, dI)) (ci := 11) (v := .int 0) (C := RX5) (T := TX5) (N := 13) hx hb hts (by decide +kernel) hown hK hP 0 rfl rfl 1 (by decide) (hts (.fieldLink RX5 83 "Bothfaces" "cardCount" "I") (by decide +kernel)) (fun _ h9 => h9) rfl dX5_meanTwist_1 ?_
  refine lv_if_ne (tgt := 17) hx hb dX5_meanTwist_4 (by decide) (fun c_1 => ?_) (fun c_1 => ?_)
  · exact absurd c_1 (by decide)
  · obtain ⟨sa, hsa⟩ := hamb.2.2.1 (RX5, 128, "there are no cards") (by decide +kernel)
    exact vx_throwS (names := ["java/lang/RuntimeException", "java/lang/Exception"]) hx hb hlt hown (by decide +kernel) (by decide +kernel) (hts (.classLink RX5 283 "java/lang/ArithmeticException") (by decide +kernel)) (hts (.initialized "java/lang/ArithmeticException") (by decide +kernel)) hsa (vx_hat (B := ambW) (fun w hw => hts w (List.mem_cons_of_mem _ (List.mem_append_right _ hw))) (by decide +kernel) (fun w hw => hamb.use hw)) (by decide +kernel) hamb.2.2.2.1 hamb.2.2.2.2 hS (by rw [hml]; exact hl.1) dX5_meanTwist_7 dX5_meanTwist_10 dX5_meanTwist_11 dX5_meanTwist_13 dX5_meanTwist_16 (fun x hxx => (htab x hxx).elim) (Nat.le_of_ble_eq_true rfl) (Nat.le_of_ble_eq_true rfl) (Nat.le_of_ble_eq_true rfl) (Nat.le_of_ble_eq_true rfl) hlocks (fun t ha h1 h2 => ⟨(), trivial, (⟨rfl, trivial⟩), xc_F hS h1 h2⟩) hS.2.2 (Nat.le_of_ble_eq_true rfl) (Nat.le_of_ble_eq_true rfl)

set_option maxHeartbeats 4000000 in
set_option maxRecDepth 100000 in
theorem c_X5_weave (l : Launch) (hlt : l.stackTraces = false) (dC : Nat → ClassId) (dI : Nat → Nat → Nat) (h0 : Nat) (p0 : Int32) (g0 : Value) (g3 : Value) (g4 : Value) (g5 : Value) (g6 : Value) (g7 : Value) (g8 : Value) (g9 : Value) (g10 : Value) (g11 : Value) (g12 : Value) (sz : Nat) : vx_Met l yX5_weave wsX5_weave ({ frames := 7, cells := 2, slots := 12, locals := 103 }) (va_Pc [.ref h0, .int p0] (Pw dC dI sz [(h0, .inr (11, [g0, .int 0, .int 0, g3, g4, g5, g6, g7, g8, g9, g10, g11, g12]))] [])) (va_Qi (fun (r : Int32) (_ : Unit) => False) (fun _ t => True) (va_A [(h0, .inr (11, [g0, .int 0, .int 0, g3, g4, g5, g6, g7, g8, g9, g10, g11, g12]))] sz)) (vx_X (fun _ : Unit => True) (fun E _ _ => (E = "java/lang/IllegalArgumentException" ∧ (p0.toInt < 0 ∨ 39 < p0.toInt)) ∨ (E = "java/lang/UnsupportedOperationException" ∧ (¬ (p0.toInt < 0 ∨ 39 < p0.toInt)))) (va_A [(h0, .inr (11, [g0, .int 0, .int 0, g3, g4, g5, g6, g7, g8, g9, g10, g11, g12]))] sz)) 2 12 (va_A [(h0, .inr (11, [g0, .int 0, .int 0, g3, g4, g5, g6, g7, g8, g9, g10, g11, g12]))] sz) := by
  refine vx_ofW (cc := cX5_weave) (maxL := 6) (ret := (some .int)) (by decide) rfl ?_
  intro p e s m args below meth c s₁ B hml htab hv
  obtain ⟨rfl, hsz, hP, hK, hD0, hamb⟩ := hv
  have hx := B.exec
  have hb := B.bytes
  have hr := B.returns
  have hts := atoms_spec (ws := wsX5_weave) B.pre
  have hown : s.vm.findClass RX5 = some m.cls := findClass_of_methodNamed B.named
  have hlocks := B.notSynchronized
  subst hsz
  have hD := hD0.self (sz := s.heap.size)
  generalize hAe : va_A [(h0, .inr (11, [g0, .int 0, .int 0, g3, g4, g5, g6, g7, g8, g9, g10, g11, g12]))] s.heap.size = A at hD hamb ⊢
  have hA : ∀ q : Nat, s.heap.size ≤ q → A q := fun q h => by rw [← hAe]; exact Or.inr h
  have hS : va_S A s.heap s.heap [] := va_S.rf
  have hP : va_P (dC, dI) vwCl [(h0, .inr (11, [g0, .int 0, .int 0, g3, g4, g5, g6, g7, g8, g9, g10, g11, g12]))] s.heap := hP
  have hl := lv_entry ([.ref h0, .int p0]) (n := 6) (Nat.le_of_ble_eq_true rfl)
  rw [lg_entry_eq]
  generalize (lg_sl ([.ref h0, .int p0]) ++ List.replicate (6 - (lg_sl ([.ref h0, .int p0])).length) Slot.unset).toArray = ls at hl ⊢
  have hl : lv_has ls 6 [(0, .ref h0), (1, .int p0)] := hl
  refine lv_aload_n hx hb dX5_weave_0 rfl (lv_at hl 0 rfl) ?_
  refine lv_iload_n hx hb dX5_weave_1 rfl (lv_at hl 1 rfl) ?_
  have hPc := hP.sub (ws' := [(h0, .inr (11, [g0, .int 0, .int 0, g3, g4, g5, g6, g7, g8, g9, g10, g11, g12]))]) [0] rfl
  have hDc := hD.sub (ws' := [(h0, .inr (11, [g0, .int 0, .int 0, g3, g4, g5, g6, g7, g8, g9, g10, g11, g12]))]) [0] (by decide) rfl
  have hKc := hK.sub (tys' := []) [] rfl
  have hFc := va_free (wc := [(h0, .inr (11, [g0, .int 0, .int 0, g3, g4, g5, g6, g7, g8, g9, g10, g11, g12]))]) hD hS hA [0] rfl
  refine vx_callv (vx_runV (As := [.int p0]) (rest := []) ⟨hx, hb, hml, hown, hts⟩ (c_X5_needLast l hlt dC dI h0 p0 g0 (.int 0) g3 g4 g5 g6 g7 g8 g9 g10 g11 g12 s.heap.size) (cwV 1 hts gX5_weave_X5_needLast rfl rfl rfl (by decide +kernel) ⟨Nat.le_of_ble_eq_true rfl, Nat.le_of_ble_eq_true rfl⟩) ⟨Pw.blind _ _ _ _ _ _, va_recv hKc hPc (ci := 11) (q0 := 0) rfl rfl, fun U hU hW => ⟨rfl, Pw.go hPc hKc hDc hamb hS hFc hU hW⟩⟩ rfl rfl hl.1 rfl (lv_room (Nat.le_of_ble_eq_true rfl)) dX5_weave_2 ⟨Nat.le_of_ble_eq_true rfl, Nat.le_of_ble_eq_true rfl⟩) hS (fun q _ h => hFc q h) hFc (fun q _ h => hFc q h) (fun E ce q9 ux tx H1 locs1 htx hvm hpx hBX hz1 hk1 hS hce hcv hcl => ?_) (fun u t H1 locs1 ht hvm hw hB hz1 hk1 hS => ?_)
  · obtain ⟨rfl, t_2⟩ := hBX
    exact vx_out (fun x hxx => (htab x hxx).elim) hlocks hce hcv hcl (fun t ht2 ha => ⟨(), trivial, (Or.inl ⟨rfl, by omega⟩), hS.F ht2⟩) hS.2.2 (Nat.le_of_ble_eq_true rfl) (Nat.le_of_ble_eq_true rfl)
  · obtain ⟨hP1, hK1, hD1⟩ := hB
    rw [ht] at hP1
    have hK1 := va_K.moved hvm.symm hK1
    obtain ⟨hP, hD⟩ := va_join (wr := []) (w1 := [(h0, .inr (11, [g0, .int 0, .int 0, g3, g4, g5, g6, g7, g8, g9, g10, g11, g12]))]) hP hD [0] [] rfl rfl (by decide) (by decide) hk1 hFc hP1 hD1
    have hK := (hK.sub (tys' := []) [] rfl).app hK1
    generalize H1 = H at hP hS ⊢
    have hP : va_P (dC, dI) vwCl [(h0, .inr (11, [g0, .int 0, .int 0, g3, g4, g5, g6, g7, g8, g9, g10, g11, g12]))] H := hP
    have hD : va_D A [(h0, .inr (11, [g0, .int 0, .int 0, g3, g4, g5, g6, g7, g8, g9, g10, g11, g12]))] := hD
    have hK : va_K (dC, dI) vwCl [] s := hK
    refine W.widen (k := 1) (n := 6) (Nat.le_of_ble_eq_true rfl) (Nat.le_of_ble_eq_true rfl) ?_
    have t_3 : ¬ (p0.toInt < 0 ∨ 39 < p0.toInt) := hw
    refine lv_aload_n hx hb dX5_weave_5 rfl (lv_at hl 0 rfl) ?_
    refine va_get (D := (dC, dI)) (ci := 11) (v := .int 0) (C := RX5) (T := TX5) (N := 13) hx hb hts (by decide +kernel) hown hK hP 0 rfl rfl 1 (by decide) (hts (.fieldLink RX5 83 "Bothfaces" "cardCount" "I") (by decide +kernel)) (fun _ h9 => h9) rfl dX5_weave_6 ?_
    refine lv_if_ne (tgt := 22) hx hb dX5_weave_9 (by decide) (fun c_4 => ?_) (fun c_4 => ?_)
    · exact absurd c_4 (by decide)
    · obtain ⟨sa, hsa⟩ := hamb.2.2.1 (RX5, 128, "there are no cards") (by decide +kernel)
      exact vx_throwS (names := ["java/lang/RuntimeException", "java/lang/Exception"]) hx hb hlt hown (by decide +kernel) (by decide +kernel) (hts (.classLink RX5 78 "java/lang/UnsupportedOperationException") (by decide +kernel)) (hts (.initialized "java/lang/UnsupportedOperationException") (by decide +kernel)) hsa (vx_hat (B := ambW) (fun w hw => hts w (List.mem_cons_of_mem _ (List.mem_append_left _ (List.mem_append_left _ (List.mem_append_right _ hw))))) (by decide +kernel) (fun w hw => hamb.use hw)) (by decide +kernel) hamb.2.2.2.1 hamb.2.2.2.2 hS (by rw [hml]; exact hl.1) dX5_weave_12 dX5_weave_15 dX5_weave_16 dX5_weave_18 dX5_weave_21 (fun x hxx => (htab x hxx).elim) (Nat.le_of_ble_eq_true rfl) (Nat.le_of_ble_eq_true rfl) (Nat.le_of_ble_eq_true rfl) (Nat.le_of_ble_eq_true rfl) hlocks (fun t ha h1 h2 => ⟨(), trivial, (Or.inr (⟨rfl, by omega⟩)), xc_F hS h1 h2⟩) hS.2.2 (Nat.le_of_ble_eq_true rfl) (Nat.le_of_ble_eq_true rfl)
