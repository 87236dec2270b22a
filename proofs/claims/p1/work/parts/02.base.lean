def ambW : List Cond := [.castable "java/lang/IllegalArgumentException" "java/lang/IllegalArgumentException",
  .castable "java/lang/UnsupportedOperationException" "java/lang/UnsupportedOperationException",
  .castable "java/lang/IllegalStateException" "java/lang/IllegalStateException",
  .castable "java/lang/IndexOutOfBoundsException" "java/lang/IndexOutOfBoundsException",
  .castable "java/util/NoSuchElementException" "java/util/NoSuchElementException",
  .castable "java/lang/ArithmeticException" "java/lang/ArithmeticException",
  .castable "BothfacesModel$Card" "java/lang/Object",
  .castable "[I" "java/lang/Object",
  .castable "java/lang/Integer" "java/lang/Object",
  .declares (Bundle.initS "java/lang/RuntimeException"),
  .declares (Bundle.initS "java/lang/Exception"),
  .declares (Bundle.initS Bundle.tN),
  .methodLinkNest RX1 29 yX5_standAfter RX5,
  .methodLinkNest RX1 36 yX5_holeOf RX5,
  .methodLinkNest RX2 27 yX1_shownIn RX5,
  .methodLinkNest RX2 35 yX5_standAfter RX5,
  .methodLinkNest RX2 39 yX1_shows RX5,
  .methodLinkNest RX3 26 yX1_shows RX5,
  .methodLinkNest RX3 35 yX5_bitOfTurn RX5,
  .methodLinkNest RX3 39 yX5_standAfter RX5,
  .methodLinkNest RX4 38 yX5_spanOf RX5,
  .methodLinkNest RX5 28 yX4_init RX5,
  .methodLinkNest RX5 40 yX3_init RX5,
  .methodLinkNest RX5 47 yX2_init RX5,
  .methodLinkNest RX5 57 yX0_init RX5,
  .methodLinkNest RX5 62 yX1_init RX5,
  .methodLinkNest RX5 91 yX1_threadWith RX5,
  .methodLinkNest RX5 104 yX1_rotate RX5,
  .methodLinkNest RX5 137 yX1_goBackTo RX5,
  .methodLinkNest RX5 143 yX1_shownIn RX5,
  .methodLinkNest RX5 147 yX1_stoodStill RX5,
  .methodLinkNest RX5 176 yX4_lay RX5,
  .methodLinkNest RX5 227 yX2_countWays RX5,
  .methodLinkNest RX5 260 yX0_enter RX5,
  .methodLinkNest RX5 269 yX0_toldDay RX5,
  .methodLinkNest RX5 272 yX0_worth RX5,
  .methodLinkNest RX5 275 yX0_mostWorth RX5,
  .methodLinkNest RX5 321 yX4_hasInk RX5,
  .methodLinkNest RX5 325 yX1_keepAs RX5,
  .methodLinkNest RX5 328 yX1_shows RX5,
  .methodLinkNest RX5 331 yX1_isOfKindOf RX5,
  .methodLinkNest RX5 334 yX3_begin RX5,
  .methodLinkNest RX5 341 yX3_best RX5,
  .methodLinkNest RX5 345 yX3_goOn RX5,
  .methodLinkNest RX5 356 yX1_lengthOf RX5,
  .methodLinkNest RX8 26 yX7_init RX8,
  .fieldLinkNest RJx35411 28 "java/util/ArrayList" "size" "I" RJx4a65c,
  .fieldLinkNest RX2 18 "Bothfaces$Card" "stands" "[I" RX5,
  .fieldLinkNest RX5 101 "Bothfaces$Card" "pack" "I" RX5,
  .fieldLinkNest RX5 107 "Bothfaces$Card" "stand" "I" RX5,
  .fieldLinkNest RX5 110 "Bothfaces$Card" "twist" "I" RX5,
  .fieldLinkNest RX5 180 "Bothfaces$Side" "ink" "I" RX5,
  .fieldLinkNest RX5 183 "Bothfaces$Side" "ground" "I" RX5,
  .fieldLinkNest RX5 255 "Bothfaces$Book" "count" "I" RX5,
  .fieldLinkNest RX5 353 "Bothfaces$Card" "threads" "[I" RX5,
  .fieldLinkNest RX5 359 "Bothfaces$Card" "stands" "[I" RX5,
  .fieldLinkNest RX8 86 "BothfacesModel$Card" "pack" "I" RX8,
  .fieldLinkNest RX8 106 "BothfacesModel$Card" "at" "I" RX8,
  .fieldLinkNest RX8 109 "BothfacesModel$Card" "twist" "I" RX8,
  .fieldLinkNest RX8 168 "BothfacesModel$Face" "text" "Ljava/lang/String;" RX8,
  .fieldLinkNest RX8 171 "BothfacesModel$Face" "card" "I" RX8,
  .fieldLinkNest RX8 174 "BothfacesModel$Face" "pick" "I" RX8,
  .fieldLinkNest RX8 177 "BothfacesModel$Face" "ink" "I" RX8,
  .fieldLinkNest RX8 180 "BothfacesModel$Face" "ground" "I" RX8,
  .fieldLinkNest RX8 222 "BothfacesModel$Card" "colours" "[I" RX8]
def ambN : List (String × String) := [("java/lang/IllegalArgumentException", "java/lang/UnsupportedOperationException"),
  ("java/lang/IllegalArgumentException", "java/lang/IllegalStateException"),
  ("java/lang/IllegalArgumentException", "java/lang/IndexOutOfBoundsException"),
  ("java/lang/IllegalArgumentException", "java/util/NoSuchElementException"),
  ("java/lang/IllegalArgumentException", "java/lang/ArithmeticException"),
  ("java/lang/UnsupportedOperationException", "java/lang/IllegalArgumentException"),
  ("java/lang/UnsupportedOperationException", "java/lang/IllegalStateException"),
  ("java/lang/UnsupportedOperationException", "java/lang/IndexOutOfBoundsException"),
  ("java/lang/UnsupportedOperationException", "java/util/NoSuchElementException"),
  ("java/lang/UnsupportedOperationException", "java/lang/ArithmeticException"),
  ("java/lang/IllegalStateException", "java/lang/IllegalArgumentException"),
  ("java/lang/IllegalStateException", "java/lang/UnsupportedOperationException"),
  ("java/lang/IllegalStateException", "java/lang/IndexOutOfBoundsException"),
  ("java/lang/IllegalStateException", "java/util/NoSuchElementException"),
  ("java/lang/IllegalStateException", "java/lang/ArithmeticException"),
  ("java/lang/IndexOutOfBoundsException", "java/lang/IllegalArgumentException"),
  ("java/lang/IndexOutOfBoundsException", "java/lang/UnsupportedOperationException"),
  ("java/lang/IndexOutOfBoundsException", "java/lang/IllegalStateException"),
  ("java/lang/IndexOutOfBoundsException", "java/util/NoSuchElementException"),
  ("java/lang/IndexOutOfBoundsException", "java/lang/ArithmeticException"),
  ("java/util/NoSuchElementException", "java/lang/IllegalArgumentException"),
  ("java/util/NoSuchElementException", "java/lang/UnsupportedOperationException"),
  ("java/util/NoSuchElementException", "java/lang/IllegalStateException"),
  ("java/util/NoSuchElementException", "java/lang/IndexOutOfBoundsException"),
  ("java/util/NoSuchElementException", "java/lang/ArithmeticException"),
  ("java/lang/ArithmeticException", "java/lang/IllegalArgumentException"),
  ("java/lang/ArithmeticException", "java/lang/UnsupportedOperationException"),
  ("java/lang/ArithmeticException", "java/lang/IllegalStateException"),
  ("java/lang/ArithmeticException", "java/lang/IndexOutOfBoundsException"),
  ("java/lang/ArithmeticException", "java/util/NoSuchElementException")]
def ambS : List (String × Nat × String) := [(RX5, 69, "no such like"),
  (RX5, 80, "there is a pick"),
  (RX5, 88, "there are 16 cards"),
  (RX5, 123, "a card slips by -1, 1 or 2 quarters"),
  (RX5, 128, "there are no cards"),
  (RX5, 130, "there are 40 picks"),
  (RX5, 135, "there is no pick"),
  (RX5, 155, "no such row or bits"),
  (RX5, 160, "there are 8 letters"),
  (RX5, 165, "nothing is typed"),
  (RX5, 170, "the motto does not fit"),
  (RX5, 209, "no such turn in the plan"),
  (RX5, 223, "there is no fault"),
  (RX5, 225, "the second pick is not later"),
  (RX5, 237, "no such rate"),
  (RX5, 242, "there are 6 weavers"),
  (RX5, 244, "there are no weavers, or no picks"),
  (RX5, 253, "picks, price or due day out of range"),
  (RX5, 258, "there are 8 orders"),
  (RX5, 266, "no such order"),
  (RX5, 285, "there are no squares"),
  (RX5, 301, "no such colour"),
  (RX5, 303, "no such pack"),
  (RX5, 305, "no such letter"),
  (RX5, 307, "no pick can lie there"),
  (RX5, 309, "no such card"),
  (RX5, 311, "no such pick"),
  (RX5, 313, "no such last pick of a plan"),
  (RX5, 315, "there is no plan"),
  (RX7, 7, "")]
def ambOk (w : Cond) : Bool := match w with
  | .fieldLinkNest .. => true
  | .methodLinkNest .. => true
  | .castable .. => true
  | .declares _ => true
  | _ => false
theorem ambOk_tab {w : Cond} (h : ambOk w = true) : w.onTables = true := by
  cases w <;> first | rfl | exact absurd h (by simp [ambOk])
theorem ambOk_warm {w : Cond} (h : ambOk w = true) {s U : State} (hW : s.WarmedH U.vm) (hZ : va_Nw w s) : va_Nw w U := by
  cases w <;> first | exact va_Nw.warmF hW hZ | exact va_Nw.warmM hW hZ | exact va_Nw.warmC hW hZ | exact va_Nw.warmD hW hZ | exact absurd h (by simp [ambOk])
theorem ambW_ok : ∀ w ∈ ambW, ambOk w = true := by decide +kernel
/-- what every method may lean on: links within the nest, classes of exceptions, texts, statics and constants of the library (outside A) -/
def amb (em : Nat → Nat) (A : Nat → Prop) (U : State) (H : Heap) : Prop :=
  (∀ w ∈ ambW, va_Nw w U) ∧
  (∀ q ∈ ambN, va_Nc q.1 q.2 U) ∧
  (∀ q ∈ ambS, ∃ sa, vk_R q.1 q.2.1 q.2.2 sa U) ∧
  vk_R RX8 40 "" (em 1) U ∧
  va_AO "Bothfaces$Card" U ∧
  va_AO "java/lang/Object" U ∧
  va_AOA .int U ∧
  va_Fw RJx35411 ⟨"java/util/Iterator", "hasNext", "()Z"⟩ yJx35411_hasNext_aae02 U ∧
  vx_Zq Bundle.tN "UNASSIGNED_STACK" Bundle.steD A U H ∧
  vx_Zq Bundle.tN "SUPPRESSED_SENTINEL" Bundle.listD A U H ∧
  va_Z "java/util/ArrayList" "DEFAULTCAPACITY_EMPTY_ELEMENTDATA" "[Ljava/lang/Object;" (.ref (em 0)) A U H ∧
  va_T (.object "java/lang/Object") (em 0) 0 (fun _ => .null) A U H ∧
  va_Z "java/lang/String" "COMPACT_STRINGS" "Z" (.int 1) A U H ∧
  vk_S 1 [0] [[]] (fun _ => em 1) (fun _ => em 2) A U H ∧
  va_Z "java/lang/Integer$IntegerCache" "cache" "[Ljava/lang/Integer;" (.ref (em 3)) A U H ∧
  va_Z "java/lang/Integer$IntegerCache" "high" "I" (.int 127) A U H ∧
  va_T (.object "java/lang/Integer") (em 3) 256 (fun j => .ref (em (4 + j))) A U H ∧
  vb_C (fun k => em (4 + k)) A U H
theorem amb.words {em : Nat → Nat} {A : Nat → Prop} {U : State} {H : Heap} (h : amb em A U H) : (∀ w ∈ ambW, va_Nw w U) := h.1
theorem amb.nots {em : Nat → Nat} {A : Nat → Prop} {U : State} {H : Heap} (h : amb em A U H) : (∀ q ∈ ambN, va_Nc q.1 q.2 U) := h.2.1
theorem amb.strs {em : Nat → Nat} {A : Nat → Prop} {U : State} {H : Heap} (h : amb em A U H) : (∀ q ∈ ambS, ∃ sa, vk_R q.1 q.2.1 q.2.2 sa U) := h.2.2.1
theorem amb.r1 {em : Nat → Nat} {A : Nat → Prop} {U : State} {H : Heap} (h : amb em A U H) : vk_R RX8 40 "" (em 1) U := h.2.2.2.1
theorem amb.aoC {em : Nat → Nat} {A : Nat → Prop} {U : State} {H : Heap} (h : amb em A U H) : va_AO "Bothfaces$Card" U := h.2.2.2.2.1
theorem amb.aoO {em : Nat → Nat} {A : Nat → Prop} {U : State} {H : Heap} (h : amb em A U H) : va_AO "java/lang/Object" U := h.2.2.2.2.2.1
theorem amb.aoa {em : Nat → Nat} {A : Nat → Prop} {U : State} {H : Heap} (h : amb em A U H) : va_AOA .int U := h.2.2.2.2.2.2.1
theorem amb.fw {em : Nat → Nat} {A : Nat → Prop} {U : State} {H : Heap} (h : amb em A U H) : va_Fw RJx35411 ⟨"java/util/Iterator", "hasNext", "()Z"⟩ yJx35411_hasNext_aae02 U := h.2.2.2.2.2.2.2.1
theorem amb.us {em : Nat → Nat} {A : Nat → Prop} {U : State} {H : Heap} (h : amb em A U H) : vx_Zq Bundle.tN "UNASSIGNED_STACK" Bundle.steD A U H := h.2.2.2.2.2.2.2.2.1
theorem amb.ss {em : Nat → Nat} {A : Nat → Prop} {U : State} {H : Heap} (h : amb em A U H) : vx_Zq Bundle.tN "SUPPRESSED_SENTINEL" Bundle.listD A U H := h.2.2.2.2.2.2.2.2.2.1
theorem amb.z0 {em : Nat → Nat} {A : Nat → Prop} {U : State} {H : Heap} (h : amb em A U H) : va_Z "java/util/ArrayList" "DEFAULTCAPACITY_EMPTY_ELEMENTDATA" "[Ljava/lang/Object;" (.ref (em 0)) A U H := h.2.2.2.2.2.2.2.2.2.2.1
theorem amb.t0 {em : Nat → Nat} {A : Nat → Prop} {U : State} {H : Heap} (h : amb em A U H) : va_T (.object "java/lang/Object") (em 0) 0 (fun _ => .null) A U H := h.2.2.2.2.2.2.2.2.2.2.2.1
theorem amb.zc {em : Nat → Nat} {A : Nat → Prop} {U : State} {H : Heap} (h : amb em A U H) : va_Z "java/lang/String" "COMPACT_STRINGS" "Z" (.int 1) A U H := h.2.2.2.2.2.2.2.2.2.2.2.2.1
theorem amb.s1 {em : Nat → Nat} {A : Nat → Prop} {U : State} {H : Heap} (h : amb em A U H) : vk_S 1 [0] [[]] (fun _ => em 1) (fun _ => em 2) A U H := h.2.2.2.2.2.2.2.2.2.2.2.2.2.1
theorem amb.zi {em : Nat → Nat} {A : Nat → Prop} {U : State} {H : Heap} (h : amb em A U H) : va_Z "java/lang/Integer$IntegerCache" "cache" "[Ljava/lang/Integer;" (.ref (em 3)) A U H := h.2.2.2.2.2.2.2.2.2.2.2.2.2.2.1
theorem amb.zh {em : Nat → Nat} {A : Nat → Prop} {U : State} {H : Heap} (h : amb em A U H) : va_Z "java/lang/Integer$IntegerCache" "high" "I" (.int 127) A U H := h.2.2.2.2.2.2.2.2.2.2.2.2.2.2.2.1
theorem amb.ti {em : Nat → Nat} {A : Nat → Prop} {U : State} {H : Heap} (h : amb em A U H) : va_T (.object "java/lang/Integer") (em 3) 256 (fun j => .ref (em (4 + j))) A U H := h.2.2.2.2.2.2.2.2.2.2.2.2.2.2.2.2.1
theorem amb.vb {em : Nat → Nat} {A : Nat → Prop} {U : State} {H : Heap} (h : amb em A U H) : vb_C (fun k => em (4 + k)) A U H := h.2.2.2.2.2.2.2.2.2.2.2.2.2.2.2.2.2
theorem amb.calling {em : Nat → Nat} {A : Nat → Prop} {U : State} {g : JFrame} {mk : MethodId} {a : Array Value} (h : amb em A U U.heap) : amb em A (U.calling g mk a) (U.calling g mk a).heap :=
  ⟨fun w hw => va_Nw.same (u := U) (U := U.calling g mk a) (ambOk_tab (ambW_ok w hw)) rfl (h.words w hw),
  fun q hq => va_Nc.moved (u := U) (U := U.calling g mk a) (Vm.Alike.refl U.vm) (h.nots q hq),
  fun q hq => (h.strs q hq).elim fun sa hs => ⟨sa, vk_R.same (u := U) (U := U.calling g mk a) rfl hs⟩,
  vk_R.same (u := U) (U := U.calling g mk a) rfl h.r1,
  va_AO.moved (u := U) (U := U.calling g mk a) (Vm.Alike.refl U.vm) h.aoC,
  va_AO.moved (u := U) (U := U.calling g mk a) (Vm.Alike.refl U.vm) h.aoO,
  va_AOA.moved (u := U) (U := U.calling g mk a) (Vm.Alike.refl U.vm) h.aoa,
  va_Fw.moved (u := U) (U := U.calling g mk a) (by decide) (Vm.Alike.refl U.vm) h.fw,
  vx_Zq.moved (u := U) (U := U.calling g mk a) (Vm.Alike.refl U.vm) h.us,
  vx_Zq.moved (u := U) (U := U.calling g mk a) (Vm.Alike.refl U.vm) h.ss,
  va_Z.moved (u := U) (U := U.calling g mk a) (Vm.Alike.refl U.vm) h.z0,
  va_T.moved (u := U) (U := U.calling g mk a) (Vm.Alike.refl U.vm) h.t0,
  va_Z.moved (u := U) (U := U.calling g mk a) (Vm.Alike.refl U.vm) h.zc,
  vk_S.moved (u := U) (U := U.calling g mk a) (Vm.Alike.refl U.vm) h.s1,
  va_Z.moved (u := U) (U := U.calling g mk a) (Vm.Alike.refl U.vm) h.zi,
  va_Z.moved (u := U) (U := U.calling g mk a) (Vm.Alike.refl U.vm) h.zh,
  va_T.moved (u := U) (U := U.calling g mk a) (Vm.Alike.refl U.vm) h.ti,
  vb_C.moved (u := U) (U := U.calling g mk a) (Vm.Alike.refl U.vm) h.vb⟩
theorem amb.go {em : Nat → Nat} {A A1 : Nat → Prop} {s U : State} {H : Heap} {locs : List Loc} (h : amb em A s s.heap) (hS : va_S A s.heap H locs) (hF : ∀ q, A1 q → A q) (hU : U.heap = H) (hW : s.WarmedH U.vm) : amb em A1 U U.heap := by
  subst hU
  exact ⟨fun w hw => ambOk_warm (ambW_ok w hw) hW (h.words w hw),
  fun q hq => va_Nc.moved hW.alike (h.nots q hq),
  fun q hq => (h.strs q hq).elim fun sa hs => ⟨sa, vk_R.warm hW hs⟩,
  vk_R.warm hW h.r1,
  va_AO.moved hW.alike h.aoC,
  va_AO.moved hW.alike h.aoO,
  va_AOA.moved hW.alike h.aoa,
  va_Fw.moved (by decide) hW.alike h.fw,
  vx_Zq.moved hW.alike ((vx_Zq.kept h.us hS.2.1).narrow hF),
  vx_Zq.moved hW.alike ((vx_Zq.kept h.ss hS.2.1).narrow hF),
  va_Z.moved hW.alike ((va_Z.kept h.z0 hS.2.1).narrow hF),
  va_T.moved hW.alike ((va_T.kept h.t0 hS.2.1).narrow hF),
  va_Z.moved hW.alike ((va_Z.kept h.zc hS.2.1).narrow hF),
  vk_S.moved hW.alike ((vk_S.kept h.s1 hS.2.1).narrow hF),
  va_Z.moved hW.alike ((va_Z.kept h.zi hS.2.1).narrow hF),
  va_Z.moved hW.alike ((va_Z.kept h.zh hS.2.1).narrow hF),
  va_T.moved hW.alike ((va_T.kept h.ti hS.2.1).narrow hF),
  vb_C.moved hW.alike ((vb_C.kept h.vb hS.2.1).narrow hF)⟩
theorem amb.use {em : Nat → Nat} {A : Nat → Prop} {s : State} {H : Heap} {args : Array Value} (h : amb em A s H) {w : Cond} (hw : w ∈ ambW) : w.before args s = true := va_Nw.use (ambOk_tab (ambW_ok w hw)) (h.words w hw)
/-- a method's world at its start -/
def Pw (em : Nat → Nat) (dC : Nat → ClassId) (dI : Nat → Nat → Nat) (sz : Nat) (ws : va_W) (tys : List (ClassId × FieldType)) (U : State) : Prop := U.heap.size = sz ∧ va_P (dC, dI) vwCl ws U.heap ∧ va_K (dC, dI) vwCl tys U ∧ va_D (fun _ => True) ws ∧ amb em (va_A ws sz) U U.heap
theorem Pw.calling {em : Nat → Nat} {dC : Nat → ClassId} {dI : Nat → Nat → Nat} {sz : Nat} {ws : va_W} {tys : List (ClassId × FieldType)} {U : State} {g : JFrame} {mk : MethodId} {a : Array Value} (h : Pw em dC dI sz ws tys U) : Pw em dC dI sz ws tys (U.calling g mk a) :=
  ⟨h.1, h.2.1, va_K.moved (u := U) (U := U.calling g mk a) (Vm.Alike.refl U.vm) h.2.2.1, h.2.2.2.1, h.2.2.2.2.calling⟩
theorem Pw.blind (em : Nat → Nat) (dC : Nat → ClassId) (dI : Nat → Nat → Nat) (sz : Nat) (ws : va_W) (tys : List (ClassId × FieldType)) (av : List Value) : FrameBlind (va_Pc av (Pw em dC dI sz ws tys)) :=
  fun a U g mk q => ⟨q.1, q.2.calling⟩
theorem Pw.go {em : Nat → Nat} {A : Nat → Prop} {dC : Nat → ClassId} {dI : Nat → Nat → Nat} {wc : va_W} {tys : List (ClassId × FieldType)} {s U : State} {H : Heap} {locs : List Loc} (hP : va_P (dC, dI) vwCl wc H) (hK : va_K (dC, dI) vwCl tys s) (hD : va_D A wc) (h : amb em A s s.heap) (hS : va_S A s.heap H locs) (hF : ∀ q, va_A wc H.size q → A q) (hU : U.heap = H) (hW : s.WarmedH U.vm) : Pw em dC dI H.size wc tys U :=
  ⟨by rw [hU], by rw [hU]; exact hP, va_K.moved hW.alike hK, hD.weaken (fun _ _ _ _ => trivial), h.go hS hF hU hW⟩
/-- a method's world at its end -/
def Qw (dC : Nat → ClassId) (dI : Nat → Nat → Nat) (A : Nat → Prop) (ws : va_W) (tys : List (ClassId × FieldType)) (t : State) : Prop := va_P (dC, dI) vwCl ws t.heap ∧ va_K (dC, dI) vwCl tys t ∧ va_D A ws
theorem va_P0 {D : va_G} {cl : List vw_C} {H : Heap} : va_P D cl [] H := fun k q h => by simp at h
theorem va_D0 {A : Nat → Prop} : va_D A [] := ⟨fun i j p q h => by simp at h, fun k q h => by simp at h⟩
theorem va_K0 {D : va_G} {cl : List vw_C} {tys : List (ClassId × FieldType)} {s : State} (h : va_K D cl tys s) : va_K D cl [] s := ⟨h.1, fun k q h => by simp at h⟩
/-- what was left outside a call whose own cells are let go -/
theorem va_rest {A0 : Nat → Prop} {D : va_G} {cl : List vw_C} {ws wc wr : va_W} {H H1 : Heap} (hP : va_P D cl ws H) (hD : va_D A0 ws) (isC isR : List Nat) (hC : isC.map (fun i => ws[i]?) = wc.map some) (hR : isR.map (fun i => ws[i]?) = wr.map some) (hn : va_nd isR = true) (hdis : ∀ i ∈ isR, i ∉ isC) (hk : ∀ q : Nat, q < H.size → ¬ va_A wc H.size q → H1[q]? = H[q]?) (hF : ∀ q, va_A wc H.size q → A0 q) : va_P D cl wr H1 ∧ va_D A0 wr := by
  have h := va_join (w1 := []) hP hD isC isR hC hR hn hdis hk hF va_P0 va_D0
  rw [List.append_nil] at h
  exact h
theorem xc_F {A : Nat → Prop} {s t : State} {H : Heap} {locs : List Loc} (hS : va_S A s.heap H locs) (h1 : H.size ≤ t.heap.size) (h2 : ∀ q : Nat, q < H.size → t.heap[q]? = H[q]?) : va_F A s t :=
  ⟨Nat.le_trans hS.1 h1, fun q hq hn => (h2 q (Nat.lt_of_lt_of_le hq hS.1)).trans (hS.2.1 q hq hn)⟩
/-- a row read out of an array of arrays -/
theorem ow_aaload {p : Program} {l : Launch} {e : Env} {R : Room} {s : State} {m : MethodId} {args : Array Value} {below : List Frame} {meth : Method} {c : Code} {H : Heap} {locs : List Loc} {cells slots : Nat} {Q : State → Prop} {cc : ByteArray} {pc : Nat} {ls : Array Slot} {rest : List Value} {a : Nat} {D : va_G} {cl : List vw_C} {ws : va_W} {tys : List (ClassId × FieldType)} (hexec : p.tables.exec = Jvm.exec) (hb : c.code = cc) (hK : va_K D cl tys s) (hP : va_P D cl ws H) (q0 t0 : Nat) {cA : ClassId} {u : FieldType} {n : Nat} {f : Nat → Option Nat} (ha : ws[q0]? = some (a, .inl (cA, n, .inr (.inr (.inr (.inr f)))))) (ht : tys[t0]? = some (cA, .array u)) {i : Int32} (hin : vp_in i n) (hdg : decode cc pc = .ok (.aaload, 1))
    (kk : W p l e R s m args below meth c H locs cells slots Q (F0 m (pc + 1) ls (va_rf (f i.toNatClampNeg) :: rest))) : W p l e R s m args below meth c H locs cells slots Q (F0 m pc ls (.int i :: .ref a :: rest)) := by
  have hlt : i.toNatClampNeg < n := Nat.not_le.mp fun q => hin (Or.inr q)
  exact W.aald (v := va_rf (f i.toNatClampNeg)) (ty := .array u) hexec hb (hP q0 _ ha) ((hK.2 t0 _ ht).1 n (fun j => va_rf (f j))) rfl (fun q => by cases q) (by show ¬ (i < 0 ∨ (arrV _ _ _).slots.size ≤ _); rw [arrV_size]; exact hin) (by show (arrV _ _ _).slots[_]? = _; rw [arrV_read _ _ hlt]) rfl rfl hdg kk
theorem ow_cls {args : Array Value} {s : State} {t : FieldType} (h : (Cond.arrayClass t).before args s = true) (ho : ∀ C, t ≠ .object C) : ∃ c : ClassId, s.vm.findClass ("[" ++ t.toString) = some c ∧ ArrOfT s c t ∧ va_RA s c t := by
  obtain ⟨c, k, comp, h1, h2, h3⟩ := Cond.arrayClass_spec h
  refine ⟨c, h1, fun N z => ⟨(fun q hq => by cases hq), k, h2, comp, h3⟩, ?_⟩
  cases t <;> first | exact h1 | exact absurd rfl (ho _)
theorem ow_Kadd {D : va_G} {cl : List vw_C} {tys : List (ClassId × FieldType)} {t : FieldType} {c : ClassId} {s : State} (hK : va_K D cl tys s) (h : ArrOfT s c t ∧ va_RA s c t) : va_K D cl (tys ++ [(c, t)]) s :=
  ⟨hK.1, fun k q hk => by
    rcases Nat.lt_or_ge k tys.length with h1 | h1
    · rw [List.getElem?_append_left h1] at hk
      exact hK.2 k q hk
    · rw [List.getElem?_append_right h1] at hk
      have hz : k - tys.length < 1 := (List.getElem?_eq_some_iff.mp hk).1
      have h0 : k - tys.length = 0 := by omega
      rw [h0] at hk
      cases hk
      exact h⟩
/-- some things of a world, by their places -/
theorem ow_pickP {D : va_G} {cl : List vw_C} {ws ws' : va_W} {H : Heap} (g : Nat → Nat) (h : ∀ k e, ws'[k]? = some e → ws[g k]? = some e) (hP : va_P D cl ws H) : va_P D cl ws' H := fun k q hk => hP (g k) q (h k q hk)
theorem ow_pickD {A : Nat → Prop} {ws ws' : va_W} (g : Nat → Nat) (hg : ∀ i j, g i = g j → i = j) (h : ∀ k e, ws'[k]? = some e → ws[g k]? = some e) (hD : va_D A ws) : va_D A ws' :=
  ⟨fun i j p q hi hj e => hg i j (hD.1 (g i) (g j) p q (h i p hi) (h j q hj) e), fun k q hk => hD.2 (g k) q (h k q hk)⟩
/-- new T[n][m], of whose rows one is kept in sight -/
theorem ow_mna {p : Program} {l : Launch} {e : Env} {R : Room} {s : State} {m : MethodId} {args : Array Value} {below : List Frame} {meth : Method} {c : Code} {H : Heap} {locs : List Loc} {cells slots : Nat} {Q : State → Prop} {pc : Nat} {ls : Array Slot} {rest : List Value} {D : va_G} {cl : List vw_C} {A : Nat → Prop} {tys : List (ClassId × FieldType)} {H0 : Heap} {X : va_W} {cc : ByteArray} (j : Nat) (hexec : p.tables.exec = Jvm.exec) (hb : c.code = cc) {own : String} {index : Nat} {ty : FieldType} {cy : ClassId} (hown : s.vm.findClass own = some m.cls) (hclink : (Cond.classLink own index ("[" ++ (FieldType.array ty).toString)).before args s = true) (hover : va_AOA ty s) (harr : (Cond.arrayClass ty).before args s = true) (hcy : s.vm.findClass (FieldType.array ty).toString = some cy)
    (hK : va_K D cl tys s) (hP : va_P D cl X H) (hD : va_D A X) (hS : va_S A H0 H locs) (hA : ∀ q, H0.size ≤ q → A q) {n k : Int32} {N' K' : Nat} {z : vp_A} (hj : j < N') (hn : ¬ n < 0) (hk : ¬ k < 0) (hN : n.toNatClampNeg = N') (hM : k.toNatClampNeg = K')
    (hb1 : N' * 4 ≤ 536870912) (hb2 : K' * componentBytes ty ≤ 536870912) (hb3 : K' ≤ 536870912) (hdf : fits ty (defaultValue ty) = true) (hdd : (defaultValue ty).isDefault = true) (hcells : cells + (1 + N') ≤ R.cells) (hslots : slots + (N' + N' * K') ≤ R.slots) (hz : ∀ c : ClassId, Jvm.Free.Multi.innerC c K' (defaultValue ty) = vp_cell c z) (hdg : decode cc pc = .ok (.multianewarray index 2, 4))
    (kk : ∀ (q rr : Nat) (cA : ClassId) (f : Nat → Option Nat) (H1 : Heap), f j = some rr → va_K D cl (tys ++ [(cA, .array ty)]) s → va_P D cl (X ++ [(q, .inl (cA, N', .inr (.inr (.inr (.inr f))))), (rr, .inl (cy, z))]) H1 → va_D A (X ++ [(q, .inl (cA, N', .inr (.inr (.inr (.inr f))))), (rr, .inl (cy, z))]) → va_S A H0 H1 locs →
      W p l e R s m args below meth c H1 locs (cells + 1 + N') (slots + N' + N' * K') Q (F0 m (pc + 4) ls (.ref q :: rest))) : W p l e R s m args below meth c H locs cells slots Q (F0 m pc ls (.int k :: .int n :: rest)) := by
  have e0 : X ++ va_pl [] (fun _ => (.inr (0, []) : va_E)) = X := by simp [va_pl]
  refine va_mna (X := X) (L := []) (f := fun _ => .inr (0, [])) hexec hb hown hclink hover harr hcy hK (by rw [e0]; exact hP) (by rw [e0]; exact hD) hS hA hn hk hN hM hb1 hb2 hb3 hdf hdd hcells hslots hz hdg (fun q r cA H1 hinj hnot hK1 hP1 hD1 hS1 => ?_)
  have hpick : ∀ (k : Nat) (e : Nat × va_E), (X ++ [(q, .inl (cA, N', .inr (.inr (.inr (.inr (fun i => if i < N' then some (r i) else none)))))), (r j, .inl (cy, z))])[k]? = some e →
      ((X ++ [(q, .inl (cA, N', .inr (.inr (.inr (.inr (fun i => if i < N' then some (r i) else none))))))]) ++ va_pl ([] ++ (List.range N').map r) (vr_up (fun _ => .inr (0, [])) ((List.range N').map r) (.inl (cy, z))))[if k < X.length + 1 then k else k + j]? = some e := by
    intro k e he
    by_cases h1 : k < X.length + 1
    · rw [if_pos h1, List.getElem?_append_left (by simpa using h1)]
      by_cases h2 : k < X.length
      · rw [List.getElem?_append_left h2] at he ⊢
        exact he
      · have h3 : k = X.length := by omega
        subst h3
        rw [List.getElem?_append_right (Nat.le_refl _)] at he ⊢
        simpa using he
    · rw [if_neg h1]
      have hk2 : k < (X ++ [(q, (.inl (cA, N', .inr (.inr (.inr (.inr (fun i => if i < N' then some (r i) else none))))) : va_E)), (r j, .inl (cy, z))]).length := (List.getElem?_eq_some_iff.mp he).1
      have hk3 : k = X.length + 1 := by simp at hk2; omega
      subst hk3
      have h9 : e = (r j, .inl (cy, z)) := by
        rw [List.getElem?_append_right (by omega)] at he
        have h8 : X.length + 1 - X.length = 1 := by omega
        rw [h8] at he
        simpa using he.symm
      subst h9
      rw [List.getElem?_append_right (by simp only [List.length_append, List.length_cons, List.length_nil]; omega)]
      have h7 : X.length + 1 + j - (X ++ [(q, (.inl (cA, N', .inr (.inr (.inr (.inr (fun i => if i < N' then some (r i) else none))))) : va_E))]).length = j := by simp only [List.length_append, List.length_cons, List.length_nil]; omega
      rw [h7]
      have h6 : ((List.range N').map r)[j]? = some (r j) := by simp [hj]
      have h5 : r j ∈ (List.range N').map r := List.mem_map.mpr ⟨j, List.mem_range.mpr hj, rfl⟩
      simp only [va_pl, List.nil_append, List.getElem?_map, h6, Option.map_some, vr_up_in h5]
  refine kk q (r j) cA (fun i => if i < N' then some (r i) else none) H1 (by simp [hj]) hK1 (ow_pickP (fun k => if k < X.length + 1 then k else k + j) hpick hP1) (ow_pickD (fun k => if k < X.length + 1 then k else k + j) ?_ hpick hD1) hS1
  intro a b hab
  split at hab <;> split at hab <;> omega
/-- what may be put into a row of E -/
theorem ow_any {C E : String} {s : State} {H : Heap} {v : Nat} (hr : ∃ cell : Cell, H[v]? = some cell ∧ cell.vm.isStatics = false ∧ s.vm.findClass C = some cell.cls) (hca : va_Nw (.castable C E) s) : va_Any E s H v := by
  obtain ⟨cell, h1, h2, h3⟩ := hr
  obtain ⟨k9, h9, -⟩ := Vm.findClass_spec h3
  exact ⟨cell, h1, h2, ⟨k9, h9⟩, fun comp hc => vb_asgC hca comp cell.cls hc h3⟩
theorem ow_old {C : String} {a : Nat} {A : Nat → Prop} {s : State} {H : Heap} {locs : List Loc} (h : va_O C a A s s.heap) (hS : va_S A s.heap H locs) : ∃ cell : Cell, H[a]? = some cell ∧ cell.vm.isStatics = false ∧ s.vm.findClass C = some cell.cls := by
  obtain ⟨cell, h1, h2, h3, -⟩ := h.kept hS.2.1
  exact ⟨cell, h1, h2, h3⟩
theorem ow_clamp {x : Int32} {n : Nat} (h0 : 0 ≤ x.toInt) (h1 : x.toInt < n) : x.toNatClampNeg < n := by
  have h : x.toNatClampNeg = x.toInt.toNat := rfl
  omega
theorem ow_anyI {E : String} {s : State} {H : Heap} {v : Nat} {D : va_G} {cl : List vw_C} {ws : va_W} {tys : List (ClassId × FieldType)} {cA : ClassId} {x : vp_A} (hK : va_K D cl tys s) (hP : va_P D cl ws H) (q0 t0 : Nat) (ha : ws[q0]? = some (v, .inl (cA, x))) (ht : tys[t0]? = some (cA, .int)) (hca : va_Nw (.castable "[I" E) s) : va_Any E s H v := by
  have h9 : s.vm.findClass "[I" = some cA := (hK.2 t0 _ ht).2
  refine ow_any (C := "[I") ⟨vp_cell cA x, hP q0 _ ha, ?_, ?_⟩ hca
  · rcases x with ⟨n, f | f | f | f | f⟩ <;> rfl
  · rw [h9]; rcases x with ⟨n, f | f | f | f | f⟩ <;> rfl
theorem b_lt {x y : Int32} {k : Int} (hk : y.toInt = k) (c : x < y) : x.toInt < k := by rw [← hk]; exact Int32.lt_iff_toInt_lt.mp c
theorem b_nlt {x y : Int32} {k : Int} (hk : y.toInt = k) (c : ¬ x < y) : k ≤ x.toInt := by rw [← hk]; exact Int.not_lt.mp (fun h => c (Int32.lt_iff_toInt_lt.mpr h))
theorem b_le {x y : Int32} {k : Int} (hk : y.toInt = k) (c : x ≤ y) : x.toInt ≤ k := by rw [← hk]; exact Int32.le_iff_toInt_le.mp c
theorem b_nle {x y : Int32} {k : Int} (hk : y.toInt = k) (c : ¬ x ≤ y) : k < x.toInt := by rw [← hk]; exact Int.not_le.mp (fun h => c (Int32.le_iff_toInt_le.mpr h))
theorem b_add {x y : Int32} {k : Int} (hk : y.toInt = k) (h1 : -2147483648 ≤ x.toInt + k) (h2 : x.toInt + k < 2147483648) : (x + y).toInt = x.toInt + k := by
  rw [Int32.toInt_add, hk, Int.bmod_eq_of_le] <;> omega
theorem b_sub {x y : Int32} {k : Int} (hk : y.toInt = k) (h1 : -2147483648 ≤ x.toInt - k) (h2 : x.toInt - k < 2147483648) : (x - y).toInt = x.toInt + -k := by
  rw [Int32.toInt_sub, hk, Int.bmod_eq_of_le] <;> omega
theorem b_eq {x y : Int32} {k : Int} (hk : y.toInt = k) (c : x = y) : x.toInt = k := by rw [← hk, c]
theorem b_ne {x y : Int32} {k : Int} (hk : y.toInt = k) (c : ¬ x = y) : x.toInt ≠ k := by rw [← hk]; exact fun h => c (Int32.toInt_inj.mp h)
