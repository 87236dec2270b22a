theorem ow_selsub {y x1 y1 : MethodName} {C D : String} {s : State} {args : Array Value} {n : Nat} (hD : y1.cls = y.cls) (hw : (Cond.selects D x1 y1).before args s = true) (hy : y.cls ≠ "java/lang/invoke/MethodHandle" ∧ y.cls ≠ "java/lang/invoke/VarHandle")
    (hins : (Cond.instantiable C n).before args s = true) (hpriv : (Cond.privateMethod y).before args s = true) (hinst : (Cond.instanceMethod y).before args s = true) :
    (Cond.selects C y y).before args s = true := by
  obtain ⟨c, k, hc, hk, -, hniab, -, -⟩ := Cond.instantiable_spec hins
  have hni : k.isInterface = false := (Bool.or_eq_false_iff.mp hniab).1
  obtain ⟨mk, methM, hnamed, hmethM, -, -⟩ := Cond.instanceMethod_spec hinst
  have hfound : s.methodFound? y.cls y.name y.desc = some mk := State.methodFound?_of_named hnamed hy
  have hsel : selectMethod {} s.vm c mk = .method mk := selectMethod_private hmethM (Cond.privateMethod_at hpriv mk methM hnamed hmethM)
  obtain ⟨-, -, m1, -, -, hn1, -, k1, hk1, hi1⟩ := Cond.selects_spec hw
  have hm : m1.cls = mk.cls := Option.some.inj ((findClass_of_methodNamed hn1).symm.trans (hD ▸ findClass_of_methodNamed hnamed))
  rw [hm] at hk1
  simp only [Cond.before, Cond.holds, Cond.value, hc, hfound, hnamed, hsel, hk1]
  simp; exact hi1
def owYs : List MethodName := [yJ5_newCapacity_0f7a4, yJ5_ensureCapacityInternal_d00df, yJ5_inflate_da8c8, yJ5_inflateIfNeededFor_a7421, yJ5_appendNull_278bc, yJ5_putStringAt_47b60]
def owT : List Cond := owYs.map (fun y => Cond.selects RJ4 y y) ++ lw_tbl
theorem owYs_ok : ∀ y ∈ owYs, RJ5 = y.cls ∧ (y.cls ≠ "java/lang/invoke/MethodHandle" ∧ y.cls ≠ "java/lang/invoke/VarHandle") ∧ Cond.privateMethod y ∈ lw_tbl ∧ Cond.instanceMethod y ∈ lw_tbl := by decide +kernel
theorem ow_hts {args : Array Value} {s : State} (hts : ∀ w ∈ lw_tbl, w.before args s = true) : ∀ w ∈ owT, w.before args s = true := by
  intro w hw
  rcases List.mem_append.mp hw with hw | hw
  · obtain ⟨y, hy, rfl⟩ := List.mem_map.mp hw
    obtain ⟨hD, h0, h1, h2⟩ := owYs_ok y hy
    exact ow_selsub (y1 := ⟨RJ5, "isLatin1", "()Z"⟩) hD (hts (.selects RJ4 ⟨RJ5, "isLatin1", "()Z"⟩ ⟨RJ5, "isLatin1", "()Z"⟩) (by decide +kernel)) h0 (hts (.instantiable RJ4 4) (by decide +kernel)) (hts _ h1) (hts _ h2)
  · exact hts w hw
def owC (k : Nat) : List Cond := match k with
  | 0 => k2_sels lw_privs
  | 1 => tables_1_1
  | 2 => tables_1_2
  | 3 => tables_1_3
  | 4 => tables_1_4
  | 5 => tables_1_5
  | 6 => tables_1_6
  | 7 => tables_1_7
  | 8 => tables_1_8
  | 9 => owYs.map (fun y => Cond.selects RJ4 y y)
  | _ => []
theorem owC_in (k : Nat) (w : Cond) (h : w ∈ owC k) : w ∈ owT := by
  match k, h with
  | 0, h => exact List.mem_append_right _ (List.mem_append_left _ h)
  | 1, h => exact List.mem_append_right _ (List.mem_append_right _ (List.mem_append_left _ h))
  | 2, h => exact List.mem_append_right _ (List.mem_append_right _ (List.mem_append_right _ (List.mem_append_left _ h)))
  | 3, h => exact List.mem_append_right _ (List.mem_append_right _ (List.mem_append_right _ (List.mem_append_right _ (List.mem_append_left _ h))))
  | 4, h => exact List.mem_append_right _ (List.mem_append_right _ (List.mem_append_right _ (List.mem_append_right _ (List.mem_append_right _ (List.mem_append_left _ h)))))
  | 5, h => exact List.mem_append_right _ (List.mem_append_right _ (List.mem_append_right _ (List.mem_append_right _ (List.mem_append_right _ (List.mem_append_right _ (List.mem_append_left _ h))))))
  | 6, h => exact List.mem_append_right _ (List.mem_append_right _ (List.mem_append_right _ (List.mem_append_right _ (List.mem_append_right _ (List.mem_append_right _ (List.mem_append_right _ (List.mem_append_left _ h)))))))
  | 7, h => exact List.mem_append_right _ (List.mem_append_right _ (List.mem_append_right _ (List.mem_append_right _ (List.mem_append_right _ (List.mem_append_right _ (List.mem_append_right _ (List.mem_append_right _ (List.mem_append_left _ h))))))))
  | 8, h => exact List.mem_append_right _ (List.mem_append_right _ (List.mem_append_right _ (List.mem_append_right _ (List.mem_append_right _ (List.mem_append_right _ (List.mem_append_right _ (List.mem_append_right _ (List.mem_append_right _ h))))))))
  | 9, h => exact List.mem_append_left _ h
  | k + 10, h => exact nomatch h

theorem ow_goodIn (ws : List Cond) (ps : List (Nat × Nat)) (hp : ws = ps.filterMap (fun i => (owC i.1)[i.2]?)) (h : ws.all goodWord = true) : GoodIn owT ws := by
  intro w hw
  have h1 := List.all_eq_true.mp h w hw
  rw [hp] at hw
  obtain ⟨i, -, hi⟩ := List.mem_filterMap.mp hw
  have hm : w ∈ owC i.1 := List.mem_of_getElem? hi
  exact ⟨owC_in _ _ hm, good_of_word h1⟩
