theorem ambW_in : ∀ w ∈ ambW, w ∈ lw_tbl := by decide +kernel
theorem ambN_in : ∀ q ∈ ambN, Cond.not (.castable q.1 q.2) ∈ flatC (Jvm.Cond.and given_1 narrow_1) := by decide +kernel
theorem ambS_in : ∀ q ∈ ambS, Cond.stringRef q.1 q.2.1 q.2.2 ∈ lw_tbl ∧ Cond.exactly (.string q.1 q.2.1) "java/lang/String" ∈ flatC (Jvm.Cond.and given_1 narrow_1) := by decide +kernel
theorem ow_str {args : Array Value} {s : State} {own tx : String} {k : Nat} (h1 : (Cond.stringRef own k tx).before args s = true) (h2 : (Cond.exactly (.string own k) "java/lang/String").before args s = true) : ∃ sa, vk_R own k tx sa s := by
  obtain ⟨a, c, cell, k9, e1, -⟩ := Cond.exactly_spec h2
  exact ⟨a, vk_R.of h1 e1⟩
theorem ow_l0 : ∀ i : Nat, i < 1 → ([0] : List Nat).getD i 0 < 2 ^ 31 := by
  intro i hi
  have h : i = 0 := by omega
  subst h
  decide
def ow_em (e0 e1 e2 e3 : Nat) (ad : Nat → Nat) : Nat → Nat := fun k => if k < 4 then (if k = 0 then e0 else if k = 1 then e1 else if k = 2 then e2 else e3) else ad (k - 4)
theorem ow_em4 (e0 e1 e2 e3 : Nat) (ad : Nat → Nat) : (fun k => ow_em e0 e1 e2 e3 ad (4 + k)) = ad := by
  funext k
  have h1 : ¬ 4 + k < 4 := by omega
  have h2 : 4 + k - 4 = k := by omega
  simp only [ow_em, if_neg h1, h2]
set_option maxHeartbeats 4000000 in
set_option maxRecDepth 100000 in
/-- what the Statement gives of the start -/
theorem ow_start {p : Program} {s : State} {m : MethodId} {meth : Method} {c : Code} {b L : Nat} {xs : Nat → Int32} (C0 : lw_At p s m meth c b L xs) : ∃ em : Nat → Nat, amb em (fun q : Nat => s.heap.size ≤ q) s s.heap := by
  obtain ⟨hx, hb, hr, hml, hown, hts, hX, hbl, hlocks, hgv⟩ := id C0
  have hs := flat_of_before _ hgv
  have hA : ∀ a : Nat, a < s.heap.size → ¬ (fun q : Nat => s.heap.size ≤ q) a := fun a h q => Nat.not_le.mpr h q
  obtain ⟨e0, h0, T0⟩ := va_Tof (A := (fun q : Nat => s.heap.size ≤ q)) (tm := (.static "java/util/ArrayList" "DEFAULTCAPACITY_EMPTY_ELEMENTDATA" "[Ljava/lang/Object;")) (ty := .object "java/lang/Object") (N := 0) (f := fun _ => .null) (by decide) (hs _ (by decide +kernel)) (va_eqt (hs (.eq (.length (.static "java/util/ArrayList" "DEFAULTCAPACITY_EMPTY_ELEMENTDATA" "[Ljava/lang/Object;")) (.int 0)) (by decide +kernel))) (fun j hj => absurd hj (Nat.not_lt_zero j)) hA
  obtain ⟨ad, hB, hel⟩ := vb_Cof (A := (fun q : Nat => s.heap.size ≤ q)) (st := (.static "java/lang/Integer$IntegerCache" "cache" "[Ljava/lang/Integer;")) rfl (va_eqt (hs (.eq (.length (.static "java/lang/Integer$IntegerCache" "cache" "[Ljava/lang/Integer;")) (.int 256)) (by decide +kernel))) (hs _ (by decide +kernel)) hA
  obtain ⟨e3, h3, T3⟩ := va_Tof (A := (fun q : Nat => s.heap.size ≤ q)) (tm := (.static "java/lang/Integer$IntegerCache" "cache" "[Ljava/lang/Integer;")) (ty := .object "java/lang/Integer") (N := 256) (f := fun j => .ref (ad j)) (by decide) (hs _ (by decide +kernel)) (va_eqt (hs (.eq (.length (.static "java/lang/Integer$IntegerCache" "cache" "[Ljava/lang/Integer;")) (.int 256)) (by decide +kernel))) hel hA
  obtain ⟨adK, adV, hS1, hk1⟩ := vk_Sof (A := (fun q : Nat => s.heap.size ≤ q)) (N := 1) (tm := fun _ => (.string "BothfacesModel" 40)) (len := [0]) (byt := [[]]) ow_l0 (fun i hi => hs (.exactly (.string "BothfacesModel" 40) "java/lang/String") (by decide +kernel)) (fun i hi => hs (.eq (.field (.string "BothfacesModel" 40) "java/lang/String" "coder" "B") (.int 0)) (by decide +kernel)) (fun i hi => hs (.arrayOf (.field (.string "BothfacesModel" 40) "java/lang/String" "value" "[B") .byte) (by decide +kernel)) (fun i hi => by
      obtain rfl : i = 0 := by omega
      exact hs (.eq (.length (.field (.string "BothfacesModel" 40) "java/lang/String" "value" "[B")) (.int 0)) (by decide +kernel)) (fun i hi j hj => by
      obtain rfl : i = 0 := by omega
      exact absurd hj (Nat.not_lt_zero j)) (fun i j hi hj hn => absurd (by omega) hn) hA
  refine ⟨ow_em e0 (adK 0) (adV 0) e3 ad, ?_⟩
  refine ⟨fun w hw => va_Nw.of (ambOk_tab (ambW_ok w hw)) (hts w (ambW_in w hw)), fun q hq => va_Nc.of (hs _ (ambN_in q hq)), fun q hq => ow_str (hts _ (ambS_in q hq).1) (hs _ (ambS_in q hq).2), vk_R.of (hts (.stringRef RX8 40 "") (by decide +kernel)) (hk1 0 (by decide)), va_AO.of (hts (.arrayOver (.object "Bothfaces$Card")) (by decide +kernel)), va_AO.of (hts (.arrayOver (.object "java/lang/Object")) (by decide +kernel)), ?_, va_Fw.of (hts (.declares ⟨"java/util/Iterator", "hasNext", "()Z"⟩) (by decide +kernel)) (hts (.interfaceMethod "java/util/Iterator" "java/util/Iterator" "hasNext" "()Z") (by decide +kernel)) (hts (.publicMethod yJx35411_hasNext_aae02) (by decide +kernel)) (hts (.unhidden RJx35411 "hasNext" "()Z") (by decide +kernel)) (hts (.castable RJx35411 "java/util/Iterator") (by decide +kernel)), ?_, ?_, ?_, T0, ?_, ?_, ?_, ?_, ?_, ?_⟩
  · exact (hts (.arrayOver (.array .int)) (by decide +kernel) : _)
  · exact vx_Zqof (hts _ (by decide +kernel)) (hts _ (by decide +kernel)) (hs _ (by decide +kernel)) hA
  · exact vx_Zqof (hts _ (by decide +kernel)) (hts _ (by decide +kernel)) (hs _ (by decide +kernel)) hA
  · exact va_Zof (hts _ (by decide +kernel)) (hts _ (by decide +kernel)) h0 hA
  · exact va_Zof (hts _ (by decide +kernel)) (hts _ (by decide +kernel)) (va_eqt (hs _ (by decide +kernel))) hA
  · refine ⟨fun i hi => ?_, fun i j hi hj _ => by omega⟩
    obtain rfl : i = 0 := by omega
    exact hS1.1 0 hi
  · exact va_Zof (hts _ (by decide +kernel)) (hts _ (by decide +kernel)) h3 hA
  · exact va_Zof (hts _ (by decide +kernel)) (hts _ (by decide +kernel)) (va_eqt (hs _ (by decide +kernel))) hA
  · have e4 : (fun j => Value.ref (ow_em e0 (adK 0) (adV 0) e3 ad (4 + j))) = fun j => Value.ref (ad j) := funext fun j => congrArg Value.ref (congrFun (ow_em4 e0 (adK 0) (adV 0) e3 ad) j)
    rw [e4]
    exact T3
  · rw [ow_em4]
    exact hB
set_option maxHeartbeats 4000000 in
set_option maxRecDepth 100000 in
theorem ow_known {args : Array Value} {s : State} (hts : ∀ w ∈ lw_tbl, w.before args s = true) : ∃ (dC : Nat → ClassId) (dI : Nat → Nat → Nat), va_K (dC, dI) vwCl [] s := by
  obtain ⟨c0, i0, hn0⟩ := u_known (C := RJ0) (T := TJ0) (N := 4) (n := 4) hts (by decide +kernel) (hts (.instantiable RJ0 4) (by decide +kernel))
  obtain ⟨c1, i1, hn1⟩ := u_known (C := RJ4) (T := TJ4) (N := 4) (n := 4) hts (by decide +kernel) (hts (.instantiable RJ4 4) (by decide +kernel))
  obtain ⟨c2, i2, hn2⟩ := u_known (C := RJ6) (T := TJ6) (N := 1) (n := 1) hts (by decide +kernel) (hts (.instantiable RJ6 1) (by decide +kernel))
  obtain ⟨c3, i3, hn3⟩ := u_known (C := RJx00060) (T := TJx00060) (N := 6) (n := 6) hts (by decide +kernel) (hts (.instantiable RJx00060 6) (by decide +kernel))
  obtain ⟨c4, i4, hn4⟩ := u_known (C := RJx35411) (T := TJx35411) (N := 4) (n := 4) hts (by decide +kernel) (hts (.instantiable RJx35411 4) (by decide +kernel))
  obtain ⟨c5, i5, hn5⟩ := u_known (C := RJx4a65c) (T := TJx4a65c) (N := 3) (n := 3) hts (by decide +kernel) (hts (.instantiable RJx4a65c 3) (by decide +kernel))
  obtain ⟨c6, i6, hn6⟩ := u_known (C := RX0) (T := TX0) (N := 5) (n := 5) hts (by decide +kernel) (hts (.instantiable RX0 5) (by decide +kernel))
  obtain ⟨c7, i7, hn7⟩ := u_known (C := RX1) (T := TX1) (N := 7) (n := 7) hts (by decide +kernel) (hts (.instantiable RX1 7) (by decide +kernel))
  obtain ⟨c8, i8, hn8⟩ := u_known (C := RX2) (T := TX2) (N := 2) (n := 2) hts (by decide +kernel) (hts (.instantiable RX2 2) (by decide +kernel))
  obtain ⟨c9, i9, hn9⟩ := u_known (C := RX3) (T := TX3) (N := 2) (n := 2) hts (by decide +kernel) (hts (.instantiable RX3 2) (by decide +kernel))
  obtain ⟨c10, i10, hn10⟩ := u_known (C := RX4) (T := TX4) (N := 7) (n := 7) hts (by decide +kernel) (hts (.instantiable RX4 7) (by decide +kernel))
  obtain ⟨c11, i11, hn11⟩ := u_known (C := RX5) (T := TX5) (N := 13) (n := 13) hts (by decide +kernel) (hts (.instantiable RX5 13) (by decide +kernel))
  obtain ⟨c12, i12, hn12⟩ := u_known (C := RX6) (T := TX6) (N := 5) (n := 5) hts (by decide +kernel) (hts (.instantiable RX6 5) (by decide +kernel))
  obtain ⟨c13, i13, hn13⟩ := u_known (C := RX7) (T := TX7) (N := 5) (n := 5) hts (by decide +kernel) (hts (.instantiable RX7 5) (by decide +kernel))
  obtain ⟨c14, i14, hn14⟩ := u_known (C := RX8) (T := TX8) (N := 9) (n := 9) hts (by decide +kernel) (hts (.instantiable RX8 9) (by decide +kernel))
  refine ⟨fun k => if k = 0 then c0 else if k = 1 then c1 else if k = 2 then c2 else if k = 3 then c3 else if k = 4 then c4 else if k = 5 then c5 else if k = 6 then c6 else if k = 7 then c7 else if k = 8 then c8 else if k = 9 then c9 else if k = 10 then c10 else if k = 11 then c11 else if k = 12 then c12 else if k = 13 then c13 else c14, fun k => if k = 0 then i0 else if k = 1 then i1 else if k = 2 then i2 else if k = 3 then i3 else if k = 4 then i4 else if k = 5 then i5 else if k = 6 then i6 else if k = 7 then i7 else if k = 8 then i8 else if k = 9 then i9 else if k = 10 then i10 else if k = 11 then i11 else if k = 12 then i12 else if k = 13 then i13 else i14, ?_, fun k q h => by simp at h⟩
  intro k q hq
  match k, hq with
  | 0, hq => cases hq; exact hn0
  | 1, hq => cases hq; exact hn1
  | 2, hq => cases hq; exact hn2
  | 3, hq => cases hq; exact hn3
  | 4, hq => cases hq; exact hn4
  | 5, hq => cases hq; exact hn5
  | 6, hq => cases hq; exact hn6
  | 7, hq => cases hq; exact hn7
  | 8, hq => cases hq; exact hn8
  | 9, hq => cases hq; exact hn9
  | 10, hq => cases hq; exact hn10
  | 11, hq => cases hq; exact hn11
  | 12, hq => cases hq; exact hn12
  | 13, hq => cases hq; exact hn13
  | 14, hq => cases hq; exact hn14
  | k + 15, hq => simp [vwCl] at hq
