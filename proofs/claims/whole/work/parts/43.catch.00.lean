/-! calls of what may throw, and the catch -/
/-- each of the four exceptions can be cast to itself, and to none of the others -/
def Nc (U : State) : Prop := ∀ i j : Nat, (1 ≤ i ∧ i ≤ 4) → (1 ≤ j ∧ j ≤ 4) → ∃ a b, U.vm.findClass (EXn i) = some a ∧ U.vm.findClass (EXn j) = some b ∧ U.vm.assignable a b = decide (i = j)
theorem Nc.warm {U V : State} (hW : U.WarmedH V.vm) (h : Nc U) : Nc V := fun i j h1 h2 => by
  obtain ⟨a, b, g1, g2, g3⟩ := h i j h1 h2
  exact ⟨a, b, by rw [hW.alike.findClass]; exact g1, by rw [hW.alike.findClass]; exact g2, by rw [hW.alike.assignable]; exact g3⟩
theorem Xt.step {A B : Nat → Prop} {U U1 : State} (h : Xt A U) (hW : U.WarmedH U1.vm) (hz : U.heap.size ≤ U1.heap.size) (hq : ∀ q : Nat, q < U.heap.size → ¬ A q → U1.heap[q]? = U.heap[q]?) (hAB : ∀ q, q < U.heap.size → B q → A q) : Xt B U1 :=
  ⟨fun w hw => (h.1 w hw).step hW hz hq hAB, fun q hq' => by
    obtain ⟨a, ha⟩ := h.2 q hq'
    exact ⟨a, vk_R.warm hW ha⟩⟩
/-- where the table of a method sends the exception k that comes out of pc -/
def Hk (own : String) (hh : List (Nat × Nat × Nat × Nat)) (pc k h : Nat) : Prop :=
  (1 ≤ k ∧ k ≤ 4) ∧ ∃ (pre : List (Nat × Nat × Nat × Nat)) (x : Nat × Nat × Nat × Nat) (rest : List (Nat × Nat × Nat × Nat)), hh = pre ++ x :: rest ∧ (x.1 ≤ pc ∧ pc < x.2.1) ∧ x.2.2.1 = h ∧ (x.2.2.2 ≠ 0 ∧ Cond.classLink own x.2.2.2 (EXn k) ∈ AL) ∧ ∀ y ∈ pre, y.2.2.2 ≠ 0 ∧ ∃ j, (1 ≤ j ∧ j ≤ 4) ∧ k ≠ j ∧ Cond.classLink own y.2.2.2 (EXn j) ∈ AL
def hk4 (x : ExceptionTableEntry) : Nat × Nat × Nat × Nat := (x.startPc, x.endPc, x.handlerPc, x.catchType)
def Zh (l : Launch) (s : State) (A : Nat → Prop) (c : Code) (hh : List (Nat × Nat × Nat × Nat)) : Prop := l.stackTraces = false ∧ Xt A s ∧ Nc s ∧ c.exceptionTable.toList.map hk4 = hh
def PsH (D : va_G) (tc : Nat → ClassId) (av : List Value) (ws : va_W) (sz : Nat) : Array Value → State → Prop := fun a U => PsX D tc av ws sz a U ∧ Nc U
/-- THE CONTRACT of a method that catches -/
def StdH (l : Launch) (y : MethodName) (cw : Cond) (rm : Room) (D : va_G) (tc : Nat → ClassId) (av : List Value) (ws : va_W) (POST : Option Value → va_W → Prop) : Prop :=
  l.stackTraces = false → ∀ sz : Nat, Met l y (cw :: AL) rm (PsH D tc av ws sz) (Qs D (va_A ws sz) POST) 1 6 (va_A ws sz)
theorem stdH_of {l : Launch} {y : MethodName} {cc : ByteArray} {maxL : Nat} {ret : Option FieldType} {hh : List (Nat × Nat × Nat × Nat)} {rm : Room} {D : va_G} {tc : Nat → ClassId} {av : List Value} {ws : va_W} {POST : Option Value → va_W → Prop} {lv : List (Nat × Value)} (hy : plainName y.cls = true) (hlen : (lg_sl av).length ≤ maxL) (hlv : lv_args 0 av = lv)
    (hgo : ∀ (p : Program) (e : Env) (s : State) (m : MethodId) (args : Array Value) (below : List Frame) (meth : Method) (c : Code) (A : Nat → Prop), Cx p s m args meth c D tc A maxL cc y.cls → Zh l s A c hh → meth.sig.returnType = ret → meth.name = y.name → Go p l e rm s m args below meth c (MQ below (Qs D A POST) args s 1 6 A) D A maxL 0 0 ws lv 0 []) : StdH l y (.codeWith y cc maxL ret hh) rm D tc av ws POST := by
  intro hst sz
  refine va_MetW (cc := cc) (maxL := maxL) (ret := ret) (hh := hh) hy rfl ?_
  intro p e s m args below meth c s₁ B hml hv
  obtain ⟨⟨⟨rfl, hsz, hP, ⟨hK, hN⟩, hD0⟩, hX⟩, hNc⟩ := hv
  have hts := atoms_spec (ws := Cond.codeWith y cc maxL ret hh :: AL) B.pre
  have hex : c.exceptionTable.toList.map hk4 = hh := by
    obtain ⟨m9, meth9, c9, g1, g2, g3, -, -, g4, -⟩ := Cond.codeWith_spec (hts _ List.mem_cons_self)
    cases B.named.symm.trans g1
    cases B.method.symm.trans g2
    have X := Stand.of_body B
    cases X.code.symm.trans g3
    exact g4
  subst hsz
  subst hlv
  have hD := hD0.self (sz := s.heap.size)
  have hA : ∀ q : Nat, s.heap.size ≤ q → va_A ws s.heap.size q := fun q h => Or.inr h
  generalize va_A ws s.heap.size = A at hD hA hX ⊢
  have hl := lv_entry av (n := maxL) hlen
  rw [lg_entry_eq]
  exact hgo p e s m av.toArray below meth c A ⟨⟨B.exec, B.bytes⟩, ⟨hml, findClass_of_methodNamed B.named⟩, fun w h => hts w (List.mem_cons_of_mem _ h), ⟨hK, hN⟩, B.notSynchronized, hA⟩ ⟨hst, hX, hNc, hex⟩ B.returns (name_of_methodNamed B.named B.method).1 s.heap [] _ hl hP hD va_S.rf
section CATCH
variable {p : Program} {l : Launch} {e : Env} {R : Room} {s : State} {m : MethodId} {args : Array Value} {below : List Frame} {meth : Method} {c : Code} {Q : State → Prop} {D : va_G} {A : Nat → Prop} {nL kc ks : Nat} {ws : va_W} {lv : List (Nat × Value)} {pc n : Nat} {st : List Value} {tc : Nat → ClassId} {cc : ByteArray} {own : String} {hh : List (Nat × Nat × Nat × Nat)}
theorem map_split {α β : Type} {f : α → β} : ∀ {l : List α} {a : List β} {x : β} {b : List β}, l.map f = a ++ x :: b → ∃ l1 y l2, l = l1 ++ y :: l2 ∧ l1.map f = a ∧ f y = x ∧ l2.map f = b
  | [], a, x, b, h => by cases a <;> simp at h
  | y :: l, [], x, b, h => by
    simp only [List.map_cons, List.nil_append, List.cons.injEq] at h
    exact ⟨[], y, l, rfl, rfl, h.1, h.2⟩
  | y :: l, a0 :: a, x, b, h => by
    simp only [List.map_cons, List.cons_append, List.cons.injEq] at h
    obtain ⟨l1, z, l2, h1, h2, h3, h4⟩ := map_split h.2
    exact ⟨y :: l1, z, l2, by rw [h1]; rfl, by rw [List.map_cons, h2, h.1], h3, h4⟩
/-- the rows of the table, read -/
theorem hk_rows {T : State} {locs : List Loc} {k h pc0 : Nat} {cX : ClassId} (X : Stand p l e R s m args below meth c T locs kc ks) (C : Cx p s m args meth c D tc A nL cc own) (Z : Zh l s A c hh) (hk : Hk own hh pc0 k h) (hf : s.vm.findClass (EXn k) = some cX) :
    ∃ (pre : List ExceptionTableEntry) (x : ExceptionTableEntry) (rest : List ExceptionTableEntry), c.exceptionTable.toList = pre ++ x :: rest ∧ (∀ y ∈ pre, RowPassed e.platform s m.cls pc0 cX y) ∧ covers x pc0 = true ∧ RowCatches e.platform s m.cls cX x ∧ x.handlerPc = h ∧ ∃ kx, s.vm.classes[cX]? = some kx := by
  obtain ⟨hk0, pre, x, rest, h1, h2, h3, h4, h6⟩ := hk
  obtain ⟨l1, y, l2, e1, e2, e3, e4⟩ := map_split (Z.2.2.2.trans h1)
  have hpl : e.platform.magicAccessors = ({} : Platform).magicAccessors := by rw [X.admits.platform]
  subst e3
  obtain ⟨c3, cT, hc3, hcT, hasg⟩ := Z.2.2.1 k k hk0 hk0
  cases hf.symm.trans hc3
  cases hf.symm.trans hcT
  rw [decide_eq_true rfl] at hasg
  obtain ⟨g1, g2⟩ := X.catches_of_link C.2.1.2 (x := y) h4.1 (C.2.2.1 _ h4.2) hf hasg
  refine ⟨l1, y, l2, e1, fun z hz => ?_, ?_, g1, h3, g2⟩
  · obtain ⟨j1, j, j2, j3, j4⟩ := h6 (hk4 z) (by rw [← e2]; exact List.mem_map_of_mem hz)
    obtain ⟨a, b, b1, b2, b3⟩ := Z.2.2.1 k j hk0 j2
    rw [decide_eq_false j3] at b3
    cases hf.symm.trans b1
    obtain ⟨c', hc', hcl⟩ := Cond.classLink_spec C.2.1.2 (C.2.2.1 _ j4) e.platform hpl
    cases b2.symm.trans hc'
    exact Or.inr ⟨j1, _, hcl, b3⟩
  · have a1 : y.startPc ≤ pc0 := h2.1
    have a2 : pc0 < y.endPc := h2.2
    simp [covers, a1, a2]
/-- 'invokevirtual' of what may throw, and both its ends -/
theorem go_callX (C : Cx p s m args meth c D tc A nL cc own) (Z : Zh l s A c hh) {y : MethodName} {bytes : ByteArray} {maxL np idx b ci : Nat} {ret : Option FieldType} {rm : Room} {POST : Option Value → va_W → Prop} {PX : Nat → va_W → Prop} {As rest : List Value} {wc : va_W} {fs : List Value} {T : u_T} {N : Nat} (hd : decode cc pc = .ok (.invokevirtual idx, 3)) (hM : StdX l y (.code y bytes maxL ret) rm D tc (.ref b :: As) wc POST PX) (hk : Cond.methodLink own idx y ∈ AL) (hw : Mw y bytes maxL ret np) (hs : Cond.instanceMethod y ∈ AL ∧ Cond.selects y.cls y y ∈ AL)
    (q0 : Nat) (he : ws[q0]? = some (b, .inr (ci, fs))) (hc : vwCl[ci]? = some (y.cls, T, N))
    (hrc : rm.cells = 1) (hrs : rm.slots = 6) (hR : rm.frames + 1 ≤ R.frames ∧ 8 + (maxL + 11) + rm.locals ≤ R.locals) (hln : As.length = np) (hst : As.reverse ++ .ref b :: rest = st) (hcat : (rest.map fun v => v.category).sum ≤ 8) (hf : kc + 1 ≤ R.cells ∧ ks + 6 ≤ R.slots)
    (isC : List Nat) (hC : isC.map (fun i => ws[i]?) = wc.map some) (hn2 : va_nd isC = true) (hfst : ∀ r w1, POST r w1 → w1.map Prod.fst = wc.map Prod.fst) (hfsx : ∀ k w1, PX k w1 → w1.map Prod.fst = wc.map Prod.fst) (hn : pc + 3 = n)
    (kk : ∀ (r : Option Value) (w1 : va_W), POST r w1 → Go p l e R s m args below meth c Q D A nL (kc + 1) (ks + 6) (repl ws isC w1) lv n (r.toList ++ rest))
    (kx : ∀ (k : Nat) (w1 : va_W), PX k w1 → ∃ h, Hk own hh pc k h ∧ ∀ q : Addr, Go p l e R s m args below meth c Q D A nL (kc + 1) (ks + 6) (repl ws isC w1) lv h [.ref q]) : Go p l e R s m args below meth c Q D A nL kc ks ws lv pc st := by
  subst hn
  intro H locs ls hl hP hD hS T0 hT X
  obtain ⟨cellB, hcB, hoB, hclB⟩ := va_recv C.2.2.2.1.1 hP hc he
  obtain ⟨mk, methM, hnamed, hmethM, hstM, habM⟩ := Cond.instanceMethod_spec (C.2.2.1 _ hs.1)
  obtain ⟨methM', cM, hmethM', hcodeM, -, hlocM, -, -, -, hsigM⟩ := Cond.code_spec hnamed (C.2.2.1 _ hw.1)
  cases hmethM.symm.trans hmethM'
  obtain ⟨c2, r2, m2, q1, q2, q3, q4, kP, hkP, hkPi⟩ := Cond.selects_spec (C.2.2.1 _ hs.2)
  cases hclB.symm.trans q1
  cases (State.methodFound?_of_named hnamed ⟨hw.2.2.1, hw.2.2.2.1⟩).symm.trans q2
  cases hnamed.symm.trans q3
  have hselP : selectMethod e.platform s.vm cellB.cls mk = .method mk := by rw [Launch.admits_selectMethod X.admits]; exact q4
  have hnp : As.length = methM.sig.parameters.length := by
    have h := hw.2.2.2.2
    rw [hsigM] at h
    exact hln.trans (Option.some.inj h).symm
  have hdg : decode c.code (F0 m pc ls st).pc = .ok (.invokevirtual idx, 3) := by rw [C.1.2]; exact hd
  obtain ⟨vm₁, X₁, hstep₁⟩ := X.invokevirtual C.1.1 C.2.1.2 (C.2.2.1 _ hk) hnamed hmethM hstM hkP hkPi ⟨hw.2.2.1, hw.2.2.2.1⟩ (a := b) (cell := cellB) (by rw [hT]; exact hcB)
    (fun z h => by rw [h] at hoB; cases hoB) hselP hmethM habM hkP hkPi (g := F0 m pc ls st) rfl (argsL := As) (rest := rest) hnp hst.symm hdg
  have hW₁ : s.WarmedH vm₁ := X₁.warmed
  obtain ⟨kP₁, hkP₁, heP₁⟩ := hW₁.alike.2.2 _ _ hkP
  have hinitP : kP.init = .initialized := Cond.initialized_spec (findClass_of_methodNamed hnamed) hkP (C.2.2.1 _ hw.2.1)
  have hsize : ls.size = c.maxLocals := hl.1.trans C.2.1.1.symm
  have hFc := va_free (wc := wc) hD hS C.2.2.2.2.2 isC hC
  have hgood : ∀ w ∈ Cond.code y bytes maxL ret :: AL, ∀ (a' : Array Value) (U : State), s.WarmedH U.vm → w.before a' U = true := fun w hw' a' U hWU => by
    have h2 : w ∈ AL := by
      rcases List.mem_cons.mp hw' with rfl | h
      · exact hw.1
      · exact h
    exact word_at hWU (good_of_word (List.mem_filter.mp h2).2) (C.2.2.1 w h2)
  have happ : (headSpec (Cond.code y bytes maxL ret :: AL) rm).appliesLoose y e.platform ((T0.setVm vm₁).calling { F0 m pc ls st with stack := rest } mk (Value.ref b :: As).toArray) = true :=
    Spec.appliesLoose_calling (g := { F0 m pc ls st with stack := rest }) X₁.here hdg (X₁.named hnamed) (show (T0.setVm vm₁).vm.classes[mk.cls]? = some kP₁ from hkP₁) (by rw [heP₁]; exact hinitP)
      (X₁.room_calling (g := { F0 m pc ls st with stack := rest }) (R' := rm) hsize (show (T0.setVm vm₁).vm.method? mk = some methM by show vm₁.method? mk = _; rw [hW₁.alike.method?]; exact hmethM) hcodeM
        hR.1 (by
          have h2 : (F0 m pc ls st).monitorRoom = 0 := rfl
          have h3 := hR.2
          rw [hlocM]
          show 2 * 0 + (rest.map fun v => v.category).sum + (maxL + 11) + rm.locals ≤ R.locals
          omega) (by rw [hrc]; exact hf.1) (by rw [hrs]; exact hf.2))
      (atoms_intro fun w hw' => hgood w hw' _ _ hW₁)
  have hfr : ((T0.setVm vm₁).setTop { F0 m pc ls st with stack := rest }).frames = [.java { F0 m pc ls st with stack := rest }] ++ below := by
    rw [State.frames_setTop' _ X₁.here.top, X₁.tail]; rfl
  have hPs : PsX D tc (.ref b :: As) wc H.size (Value.ref b :: As).toArray ((T0.setVm vm₁).calling { F0 m pc ls st with stack := rest } mk (Value.ref b :: As).toArray) := by
    refine ⟨Ps_blind _ (T0.setVm vm₁) _ _ ⟨rfl, by show T0.heap.size = _; rw [hT], by show va_P _ _ _ T0.heap; rw [hT]; exact hP.sub isC (go_fm hC), ⟨va_K.moved hW₁.alike C.2.2.2.1.1, NW_warm (U := T0.setVm vm₁) hW₁ C.2.2.2.1.2⟩, (hD.sub isC hn2 hC).weaken (fun _ _ _ _ => trivial)⟩, ?_⟩
    refine Xt.step (U1 := (T0.setVm vm₁).calling { F0 m pc ls st with stack := rest } mk (Value.ref b :: As).toArray) Z.2.1 hW₁ ?_ ?_ (fun q _ h => hFc q h)
    · show s.heap.size ≤ T0.heap.size
      rw [hT]; exact hS.1
    · intro q h1 h2
      show T0.heap[q]? = _
      rw [hT]; exact hS.2.1 q h1 h2
  obtain ⟨o, s₂, hsteps, -, hend, hq⟩ := Steps.callFree (hM Z.1 H.size) p X.admits X.cas X.clock (acts := []) hfr happ hPs trivial
  rw [hfr] at hend
  have hlen : ∀ w1 : va_W, w1.map Prod.fst = wc.map Prod.fst → isC.length = w1.length := fun w1 h2' => by
    have h1 := congrArg List.length hC
    have h2 := congrArg List.length h2'
    simp only [List.length_map] at h1 h2
    omega
  have hgo0 : ∀ tgt, Steps p.tables e below s₂ tgt → Steps p.tables e below (T0.setTop (F0 m pc ls st)) tgt := fun tgt h => hstep₁ _ fun acts => by rw [doInvoke_state]; exact hsteps.trans h
  rcases hq with ⟨⟨r, w1, rfl, hp, hP1, hD1, hz, hk2⟩, L, ⟨-, hW₂, hsame⟩, hL⟩ | ⟨q, rfl, k, w1, ce, L, hp, hP1, hD1, ⟨hz, hk2⟩, hce, hcv, hcf, hW₂, hsame, hL⟩
  · obtain ⟨T', X', -, -, ht⟩ := X₁.outOf (g := { F0 m pc ls st with stack := rest }) rfl hdg hend hW₂ hsame
    have hh1 : T'.heap = s₂.heap := by rw [ht]; rfl
    have hz' : H.size ≤ T'.heap.size := by rw [hh1, ← hT]; exact hz
    have hk3 : ∀ q : Nat, q < H.size → ¬ va_A wc H.size q → T'.heap[q]? = H[q]? := fun q h1 h2 => by rw [hh1, ← hT]; exact hk2 q (by show q < T0.heap.size; rw [hT]; exact h1) h2
    obtain ⟨t2, a1, b1⟩ := kk r w1 hp T'.heap (locs ++ L) ls hl (repl_P hP hD isC hC (hlen _ (hfst _ _ hp)) hk3 (by rw [hh1]; exact hP1)) (repl_D hD (repl_fst isC ws wc w1 hC (hfst _ _ hp)))
      ⟨Nat.le_trans hS.1 hz', fun q h1 h2 => by rw [hk3 q (Nat.lt_of_lt_of_le h1 hS.1) (fun z => h2 (hFc q z))]; exact hS.2.1 q h1 h2, fun q hq => by
        rcases List.mem_append.mp hq with h | h
        · exact hS.2.2 q h
        · exact hFc _ (hL q h)⟩ T' rfl X'
    exact ⟨t2, hgo0 _ (by rw [ht]; exact a1), b1⟩
  · obtain ⟨T', X', hWT, -, ht⟩ := X₁.outOfThrown (g := { F0 m pc ls st with stack := rest }) rfl hend hW₂ hsame
    have hh1 : T'.heap = s₂.heap := by rw [ht]; rfl
    have hz' : H.size ≤ T'.heap.size := by rw [hh1, ← hT]; exact hz
    have hk3 : ∀ q : Nat, q < H.size → ¬ va_A wc H.size q → T'.heap[q]? = H[q]? := fun q h1 h2 => by rw [hh1, ← hT]; exact hk2 q (by show q < T0.heap.size; rw [hT]; exact h1) h2
    obtain ⟨h, hkh, kx'⟩ := kx k w1 hp
    have hcf' : s.vm.findClass (EXn k) = some ce.cls := by rw [← hW₁.alike.findClass]; exact hcf
    obtain ⟨pre, x, rest9, g1, g2, g3, g4, g5, g6⟩ := hk_rows X' C Z hkh hcf'
    obtain ⟨vm', XV, stV⟩ := X'.thenCaughtThrough q (g := { F0 m pc ls st with stack := rest }) rfl (s₀ := s₂) (by rw [ht]; exact Steps.refl _) (cell := ce) (by rw [hh1]; exact hce) (by rw [hcv]; rfl) g6 pre x rest9 g1 g2 g3 g4
    obtain ⟨t2, a1, b1⟩ := kx' q T'.heap (locs ++ L) ls hl (repl_P hP hD isC hC (hlen _ (hfsx _ _ hp)) hk3 (by rw [hh1]; exact hP1)) (repl_D hD (repl_fst isC ws wc w1 hC (hfsx _ _ hp)))
      ⟨Nat.le_trans hS.1 hz', fun q h1 h2 => by rw [hk3 q (Nat.lt_of_lt_of_le h1 hS.1) (fun z => h2 (hFc q z))]; exact hS.2.1 q h1 h2, fun q hq => by
        rcases List.mem_append.mp hq with h | h
        · exact hS.2.2 q h
        · exact hFc _ (hL q h)⟩ (T'.setVm vm') rfl XV
    subst g5
    exact ⟨t2, hgo0 _ (stV.trans a1), b1⟩
end CATCH

