theorem w9ls {O f d : String} {A : Nat → Prop} {s : State} {a0 : Array Value} (hA : ∀ q, A q → s.heap.size ≤ q) (h : (Cond.laysStatic O f d).before a0 s = true) : Hw (.laysStatic O f d) A s s.heap := by
  intro U' args hW hh
  have h1 := Cond.laysStatic_setVm (args := a0) hW.alike h
  obtain ⟨c, k, i, fd, a, cell, hc, hi, hst, ha, hcell, hs, hcls, hlt, hty⟩ := Cond.laysStatic_spec h1
  have ha' : a < s.heap.size := (Array.getElem?_eq_some_iff.mp hcell).1
  have hcell' : U'.heap[a]? = some cell := by
    rw [hh a ha' (fun x => absurd ha' (Nat.not_lt.mpr (hA a x)))]; exact hcell
  exact Cond.laysStatic_of (s := U') hc hi hst ha hcell' hs hcls hlt hty
theorem w9ir {O f d : String} {A : Nat → Prop} {s : State} {a0 : Array Value} (hA : ∀ q, A q → s.heap.size ≤ q) (hl : (Cond.laysStatic O f d).before a0 s = true) (h : (Cond.isRef (.static O f d)).before a0 s = true) : Hw (.isRef (.static O f d)) A s s.heap := by
  intro U' args hW hh
  obtain ⟨c, k, i, fd, a, cell, hc, hi, hst, ha, hcell, hs, hcls, hlt, hty⟩ := Cond.laysStatic_spec hl
  obtain ⟨k', hi', hek⟩ := State.fieldFound?_setVm hW.alike hi
  have ha' : a < s.heap.size := (Array.getElem?_eq_some_iff.mp hcell).1
  have hcell' : U'.heap[a]? = some cell := by
    rw [hh a ha' (fun x => absurd ha' (Nat.not_lt.mpr (hA a x)))]; exact hcell
  have hv : cell.slots[fd.slot]? = some cell.slots[fd.slot] := Array.getElem?_eq_getElem hlt
  have e1 : (Term.static O f d).eval a0 s none [] s = some cell.slots[fd.slot] := by
    simp [Term.eval, State.fieldNamed?, hi, hst, ha, hcell, hs, hv]
  have hi2 : U'.fieldFound? O f d = some (c, k', i, fd) := hi'
  have ha2 : k'.statics = some a := by rw [hek]; exact ha
  have e2 : (Term.static O f d).eval args U' none [] U' = some cell.slots[fd.slot] := by
    simp [Term.eval, State.fieldNamed?, hi2, hst, ha2, hcell', hs, hv]
  simp only [Cond.before, Cond.holds, Cond.value, e1] at h
  simp only [Cond.before, Cond.holds, Cond.value, e2]
  exact h
theorem w9de {x : MethodName} {A : Nat → Prop} {s : State} {a0 : Array Value} (h : (Cond.declares x).before a0 s = true) : Hw (.declares x) A s s.heap := by
  intro U' args hW _
  have e : (Cond.declares x).before args (U'.setVm U'.vm) = (Cond.declares x).before a0 (s.setVm U'.vm) := Cond.onTables_vm U'.vm (.declares x) rfl
  have e2 := Cond.declares_setVm (args := a0) hW.alike x
  exact (e.trans e2).trans h
theorem w9ca {x y : String} {A : Nat → Prop} {s : State} {a0 : Array Value} (h : (Cond.castable x y).before a0 s = true) : Hw (.castable x y) A s s.heap := by
  intro U' args hW _
  have e : (Cond.castable x y).before args (U'.setVm U'.vm) = (Cond.castable x y).before a0 (s.setVm U'.vm) := Cond.onTables_vm U'.vm (.castable x y) rfl
  have e2 := Cond.castable_setVm (args := a0) hW.alike x y
  exact (e.trans e2).trans h
theorem w9cy {x y : String} {s : State} {a0 : Array Value} (h : (Cond.castable x y).before a0 s = true) : ∃ a b, s.vm.findClass x = some a ∧ s.vm.findClass y = some b ∧ s.vm.assignable a b = true := by
  simp only [Cond.before, Cond.holds, Cond.value] at h
  cases ha : s.vm.findClass x with
  | none => simp [ha] at h
  | some a =>
    cases hb : s.vm.findClass y with
    | none => simp [ha, hb] at h
    | some b =>
      simp [ha, hb] at h
      exact ⟨a, b, rfl, rfl, h⟩
theorem w9cn {x y : String} {s : State} {a0 : Array Value} (h : (Cond.not (Cond.castable x y)).before a0 s = true) : ∃ a b, s.vm.findClass x = some a ∧ s.vm.findClass y = some b ∧ s.vm.assignable a b = false := by
  simp only [Cond.before, Cond.holds, Cond.value] at h
  cases ha : s.vm.findClass x with
  | none => simp [ha] at h
  | some a =>
    cases hb : s.vm.findClass y with
    | none => simp [ha, hb] at h
    | some b =>
      simp [ha, hb] at h
      exact ⟨a, b, rfl, rfl, h⟩
theorem w9vk {own tx : String} {k : Nat} {s : State} {a0 : Array Value} (h : (Cond.stringRef own k tx).before a0 s = true) : ∃ a, vk_R own k tx a s := by
  have h' := h
  simp only [Cond.before, Cond.holds, Cond.value] at h
  cases hc : s.vm.findClass own with
  | none => simp [hc] at h
  | some c =>
    cases hr : s.resolvedAt? own k with
    | none => simp [hc, hr] at h
    | some r =>
      cases r with
      | string a =>
        refine ⟨a, vk_R.of (A := a0) h' ?_⟩
        cases hk : s.vm.classes[c]? with
        | none => simp [State.resolvedAt?, hc, hk] at hr
        | some kc =>
          simp [State.resolvedAt?, hc, hk] at hr
          simp [Term.eval, hc, hk, hr]
      | _ => simp [hc, hr] at h
def w9XL : List Cond := [.laysStatic Bundle.tN "UNASSIGNED_STACK" Bundle.steD, .laysStatic Bundle.tN "SUPPRESSED_SENTINEL" Bundle.listD, .isRef (.static Bundle.tN "UNASSIGNED_STACK" Bundle.steD), .isRef (.static Bundle.tN "SUPPRESSED_SENTINEL" Bundle.listD), .declares (Bundle.initS "java/lang/RuntimeException"), .declares (Bundle.initS "java/lang/Exception"), .declares (Bundle.initS Bundle.tN), .castable (EXn 1) (EXn 1), .castable (EXn 2) (EXn 2), .castable (EXn 4) (EXn 4)]
theorem w9sub : ∀ w ∈ XW, w ∈ w9XL := by
  have h : XW.all (fun w => decide (w ∈ w9XL)) = true := by decide +kernel
  intro w hw
  exact of_decide_eq_true (List.all_eq_true.mp h w hw)
theorem w9t {b : Nat} {s : State} (hts : ∀ w ∈ lw_tbl, w.before #[Value.ref b] s = true) {i : Nat} {w : Cond} (h : tables_1[i]? = some w) : w.before #[Value.ref b] s = true := hts w (List.mem_append_right _ (List.mem_of_getElem? h))
theorem w9Xt {b : Nat} {s : State} {A : Nat → Prop} (hA : ∀ q, A q → s.heap.size ≤ q) (hts : ∀ w ∈ lw_tbl, w.before #[Value.ref b] s = true) (hg : (Jvm.Cond.and given_1 narrow_1).before #[Value.ref b] s = true) : Xt A s := by
  have hf := flat_of_before _ hg
  have l1 : (Cond.laysStatic Bundle.tN "UNASSIGNED_STACK" Bundle.steD).before #[Value.ref b] s = true := w9t hts (i := 271) (by decide +kernel)
  have l2 : (Cond.laysStatic Bundle.tN "SUPPRESSED_SENTINEL" Bundle.listD).before #[Value.ref b] s = true := w9t hts (i := 273) (by decide +kernel)
  have r1 : (Cond.isRef (.static Bundle.tN "UNASSIGNED_STACK" Bundle.steD)).before #[Value.ref b] s = true := hf _ (by decide +kernel)
  have r2 : (Cond.isRef (.static Bundle.tN "SUPPRESSED_SENTINEL" Bundle.listD)).before #[Value.ref b] s = true := hf _ (by decide +kernel)
  refine ⟨fun w hw => ?_, fun q hq => ?_⟩
  · have hm := w9sub w hw
    simp only [w9XL, List.mem_cons, List.not_mem_nil, or_false] at hm
    rcases hm with rfl | rfl | rfl | rfl | rfl | rfl | rfl | rfl | rfl | rfl
    · exact w9ls hA l1
    · exact w9ls hA l2
    · exact w9ir hA l1 r1
    · exact w9ir hA l2 r2
    · exact w9de (w9t hts (i := 248) (by decide +kernel))
    · exact w9de (w9t hts (i := 250) (by decide +kernel))
    · exact w9de (w9t hts (i := 252) (by decide +kernel))
    · exact w9ca (w9t hts (i := 246) (by decide +kernel))
    · exact w9ca (w9t hts (i := 320) (by decide +kernel))
    · exact w9ca (w9t hts (i := 580) (by decide +kernel))
  · have h : SX.all (fun q => decide (Cond.stringRef "SuggestDesk" q.1 q.2 ∈ tables_1)) = true := by decide +kernel
    have h1 : Cond.stringRef "SuggestDesk" q.1 q.2 ∈ tables_1 := of_decide_eq_true (List.all_eq_true.mp h q hq)
    exact w9vk (hts _ (List.mem_append_right _ h1))
theorem w9Nc {b : Nat} {s : State} (hts : ∀ w ∈ lw_tbl, w.before #[Value.ref b] s = true) (hg : (Jvm.Cond.and given_1 narrow_1).before #[Value.ref b] s = true) : Nc s := by
  have hf := flat_of_before _ hg
  intro i j hi hj
  have hi4 : i = 1 ∨ i = 2 ∨ i = 3 ∨ i = 4 := by omega
  have hj4 : j = 1 ∨ j = 2 ∨ j = 3 ∨ j = 4 := by omega
  rcases hi4 with rfl | rfl | rfl | rfl <;> rcases hj4 with rfl | rfl | rfl | rfl
  · exact w9cy (x := EXn 1) (y := EXn 1) (w9t hts (i := 246) (by decide +kernel))
  · exact w9cn (x := EXn 1) (y := EXn 2) (hf _ (by decide +kernel))
  · exact w9cn (x := EXn 1) (y := EXn 3) (hf _ (by decide +kernel))
  · exact w9cn (x := EXn 1) (y := EXn 4) (hf _ (by decide +kernel))
  · exact w9cn (x := EXn 2) (y := EXn 1) (hf _ (by decide +kernel))
  · exact w9cy (x := EXn 2) (y := EXn 2) (w9t hts (i := 320) (by decide +kernel))
  · exact w9cn (x := EXn 2) (y := EXn 3) (hf _ (by decide +kernel))
  · exact w9cn (x := EXn 2) (y := EXn 4) (hf _ (by decide +kernel))
  · exact w9cn (x := EXn 3) (y := EXn 1) (hf _ (by decide +kernel))
  · exact w9cn (x := EXn 3) (y := EXn 2) (hf _ (by decide +kernel))
  · exact w9cy (x := EXn 3) (y := EXn 3) (w9t hts (i := 478) (by decide +kernel))
  · exact w9cn (x := EXn 3) (y := EXn 4) (hf _ (by decide +kernel))
  · exact w9cn (x := EXn 4) (y := EXn 1) (hf _ (by decide +kernel))
  · exact w9cn (x := EXn 4) (y := EXn 2) (hf _ (by decide +kernel))
  · exact w9cn (x := EXn 4) (y := EXn 3) (hf _ (by decide +kernel))
  · exact w9cy (x := EXn 4) (y := EXn 4) (w9t hts (i := 580) (by decide +kernel))
theorem w9ac {ty : FieldType} {s : State} {a0 : Array Value} (h : (Cond.arrayClass ty).before a0 s = true) : ∃ c, ArrOfT s c ty ∧ s.vm.findClass ("[" ++ ty.toString) = some c := by
  obtain ⟨c, k, comp, h1, h2, h3⟩ := Cond.arrayClass_spec h
  exact ⟨c, fun n z => ⟨fun k h => (by cases h), k, h2, comp, h3⟩, h1⟩
theorem w9ao {n : String} {s : State} {a0 : Array Value} (h : (Cond.arrayOver (.object n)).before a0 s = true) : ∃ c, ArrOfT s c (.object n) ∧ va_RA s c (.object n) := by
  obtain ⟨comp, c, k, h1, _, h3, h4, h5⟩ := Cond.arrayOver_spec h
  exact ⟨c, fun m z => ⟨fun k h => (by cases h), k, h3, comp, h4⟩, k, comp, h3, h4, h1, h5⟩
theorem w9aa {t : FieldType} {s : State} {a0 : Array Value} (h : (Cond.arrayOver (.array t)).before a0 s = true) : ∃ c, ArrOfT s c (.array t) ∧ s.vm.findClass ("[" ++ (FieldType.array t).toString) = some c := by
  simp only [Cond.before, Cond.holds, Cond.value, beq_iff_eq] at h
  cases hc : s.vm.findClass (FieldType.array t).toString with
  | none => simp [hc] at h
  | some comp =>
    simp only [hc, Option.bind_some, Option.bind_eq_some_iff, Option.map_eq_some_iff] at h
    obtain ⟨c, hi, k, hk, hb⟩ := h
    cases hkind : k.kind with
    | array component ty =>
      rw [hkind] at hb
      simp at hb
      exact ⟨c, fun m z => ⟨fun k h => (by cases h), k, hk, component, by rw [hkind, hb.1]⟩, hb.2⟩
    | _ => rw [hkind] at hb; simp at hb
