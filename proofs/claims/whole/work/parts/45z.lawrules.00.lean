/-! the law's own calls -/
def Zl (l : Launch) (s : State) (A : Nat → Prop) : Prop := l.stackTraces = false ∧ Xt A s ∧ Nc s
/-- a catching method's own words -/
def MwH (y : MethodName) (cc : ByteArray) (maxL : Nat) (ret : Option FieldType) (hh : List (Nat × Nat × Nat × Nat)) (np : Nat) : Prop := Cond.codeWith y cc maxL ret hh ∈ AL ∧ Cond.initialized y.cls ∈ AL ∧ y.cls ≠ "java/lang/invoke/MethodHandle" ∧ y.cls ≠ "java/lang/invoke/VarHandle" ∧ (parseMethodDescriptor y.desc).map (fun d => d.parameters.length) = some np
theorem PsH_blind {D : va_G} {tc : Nat → ClassId} {av : List Value} {ws : va_W} {sz : Nat} : FrameBlind (PsH D tc av ws sz) := fun a U g mk q =>
  ⟨⟨Ps_blind a U g mk q.1.1, Xt.step (U := U) (U1 := U.calling g mk a) q.1.2 (State.WarmedH.refl U) (Nat.le_refl _) (fun _ _ _ => rfl) (fun _ _ h => h)⟩, Nc.warm (U := U) (V := U.calling g mk a) (State.WarmedH.refl U) q.2⟩
section LAWC
variable {p : Program} {l : Launch} {e : Env} {R : Room} {s : State} {m : MethodId} {args : Array Value} {below : List Frame} {meth : Method} {c : Code} {Q : State → Prop} {D : va_G} {A : Nat → Prop} {nL kc ks : Nat} {ws : va_W} {lv : List (Nat × Value)} {pc n : Nat} {st : List Value} {tc : Nat → ClassId} {cc : ByteArray} {own : String} {hh : List (Nat × Nat × Nat × Nat)}
theorem callSW {T : State} {locs : List Loc} (X : Stand p l e R s m args below meth c T locs kc ks) (hexec : p.tables.exec = Jvm.exec) {own : String} {index : Nat} {y : MethodName} {bytes : ByteArray} {maxL : Nat} {ret : Option FieldType}
    (hown : s.vm.findClass own = some m.cls) (hlink : (Cond.methodLink own index y).before args s = true) (hstat : (Cond.static y).before args s = true) (hinit : (Cond.initialized y.cls).before args s = true)
    (hcode : (Cond.codeWith y bytes maxL ret hh).before args s = true) (hy : y.cls ≠ "java/lang/invoke/MethodHandle" ∧ y.cls ≠ "java/lang/invoke/VarHandle")
    {W : Nat} {Pre : Pt → Array Value → Prop} {Post : Pt → Array Value → Option Value → Pt → Prop} (hK : Back l R p e below s args y 3 W Pre Post)
    {g : JFrame} (hg : g.method = m) (hsize : g.locals.size = c.maxLocals) {argsL rest : List Value} (hlen : ∀ sig, parseMethodDescriptor y.desc = some sig → argsL.length = sig.parameters.length)
    (hstack : g.stack = argsL.reverse ++ rest) (hW : 2 * g.monitorRoom + (rest.map fun v => v.category).sum ≤ W) (hdg : decode c.code g.pc = .ok (.invokestatic index, 3))
    (hpre : ∀ vm₁, s.WarmedH vm₁ → Pre ⟨T.setVm vm₁, locs, kc, ks⟩ argsL.toArray) :
    ∃ (v : Option Value) (vm₁ : Vm) (B : Pt), s.WarmedH vm₁ ∧ Stand p l e R s m args below meth c B.U B.locs B.cells B.slots ∧ Post ⟨T.setVm vm₁, locs, kc, ks⟩ argsL.toArray v B ∧
      ∀ target, Steps p.tables e below (B.U.setTop { g with pc := g.pc + 3, stack := v.toList ++ rest }) target → Steps p.tables e below (T.setTop g) target := by
  obtain ⟨mk, methM, cM, hnamed, hmethM, -, -, -, -, -, -, hsigM⟩ := Cond.codeWith_spec hcode
  have hstatic : methM.isStatic = true := Cond.static_spec hnamed hmethM hstat
  obtain ⟨kP, hkP, -⟩ := className_of_methodNamed hnamed
  have hinitP : kP.init = .initialized := Cond.initialized_spec (findClass_of_methodNamed hnamed) hkP hinit
  obtain ⟨vm₁, X₁, hstep₁⟩ := X.invokestatic hexec hown hlink hnamed hmethM hstatic hkP hinitP hy (g := g) hg (argsL := argsL) (rest := rest) (hlen _ hsigM) hstack hdg
  obtain ⟨v, B, X', hpost, hsteps⟩ := hK m meth c ⟨T.setVm vm₁, locs, kc, ks⟩ { g with stack := rest } (.invokestatic index) mk argsL.toArray X₁ hg hsize hdg hW (X₁.named hnamed) (hpre vm₁ X₁.warmed)
  exact ⟨v, vm₁, B, X₁.warmed, X', hpost, fun target h => hstep₁ _ fun acts => by rw [doInvoke_state]; exact hsteps.trans h⟩
/-- 'invokestatic' of what catches -/
theorem go_callH (C : Cx p s m args meth c D tc A nL cc own) (Z : Zl l s A) {y : MethodName} {bytes : ByteArray} {maxL np idx : Nat} {ret : Option FieldType} {rm : Room} {POST : Option Value → va_W → Prop} {As rest : List Value} {wc : va_W} (hd : decode cc pc = .ok (.invokestatic idx, 3)) (hM : StdH l y (.codeWith y bytes maxL ret hh) rm D tc As wc POST) (hk : Cond.methodLink own idx y ∈ AL) (hw : MwH y bytes maxL ret hh np) (hs : Cond.static y ∈ AL)
    (hrc : rm.cells = 1) (hrs : rm.slots = 6) (hR : rm.frames + 1 ≤ R.frames ∧ 8 + (maxL + 11) + rm.locals ≤ R.locals) (hln : As.length = np) (hst : As.reverse ++ rest = st) (hcat : (rest.map fun v => v.category).sum ≤ 8) (hf : kc + 1 ≤ R.cells ∧ ks + 6 ≤ R.slots)
    (isC : List Nat) (hC : isC.map (fun i => ws[i]?) = wc.map some) (hn2 : va_nd isC = true) (hfst : ∀ r w1, POST r w1 → w1.map Prod.fst = wc.map Prod.fst) (hn : pc + 3 = n)
    (kk : ∀ (r : Option Value) (w1 : va_W), POST r w1 → Go p l e R s m args below meth c Q D A nL (kc + 1) (ks + 6) (repl ws isC w1) lv n (r.toList ++ rest)) : Go p l e R s m args below meth c Q D A nL kc ks ws lv pc st := by
  refine go_after (a := As.toArray) C isC hC hfst hn (fun H locs ls hl hP hD hS => ?_) kk
  have hFc := va_free (wc := wc) hD hS C.2.2.2.2.2 isC hC
  have hP0 : ∀ U : State, U.heap = H → s.WarmedH U.vm → PsH D tc As wc H.size As.toArray U := fun U hU hW =>
    ⟨⟨⟨rfl, by rw [hU], by rw [hU]; exact hP.sub isC (go_fm hC), ⟨va_K.moved hW.alike C.2.2.2.1.1, NW_warm hW C.2.2.2.1.2⟩, (hD.sub isC hn2 hC).weaken (fun _ _ _ _ => trivial)⟩,
      Xt.step Z.2.1 hW (by rw [hU]; exact hS.1) (fun q h1 h2 => by rw [hU]; exact hS.2.1 q h1 h2) (fun q _ h => hFc q h)⟩, Nc.warm hW Z.2.2⟩
  have hgood : ∀ w ∈ Cond.codeWith y bytes maxL ret hh :: AL, ∀ (a' : Array Value) (U : State), s.WarmedH U.vm → w.before a' U = true := fun w hw' a' U hWU => by
    have h2 : w ∈ AL := by
      rcases List.mem_cons.mp hw' with rfl | h
      · exact hw.1
      · exact h
    exact word_at hWU (good_of_word (List.mem_filter.mp h2).2) (C.2.2.1 w h2)
  have hK : Back l R p e below s args y 3 8 (PreOf R 1 6 (PsH D tc As wc H.size)) (PostOf (Qs D (va_A wc H.size) POST) 1 6 (va_A wc H.size)) :=
    va_backW (hh := hh) (bytes := bytes) (maxL := maxL) (ret := ret) (hM Z.1 H.size) PsH_blind hrc hrs hR.1 hR.2 hgood List.mem_cons_self (fun a' U hWU => word_at hWU (good_of_word (List.mem_filter.mp hw.2.1).2) (C.2.2.1 _ hw.2.1))
  intro T hT X
  obtain ⟨v, vm₁, ⟨U', l2, c2, s2⟩, hW₁, X', ⟨g', mk, t, L, e1, e2, hq, h1, hL, h2, h3⟩, st0⟩ := callSW (hh := hh) X C.1.1 (bytes := bytes) (maxL := maxL) (ret := ret) C.2.1.2 (C.2.2.1 _ hk) (C.2.2.1 _ hs) (C.2.2.1 _ hw.2.1) (C.2.2.1 _ hw.1) ⟨hw.2.2.1, hw.2.2.2.1⟩ hK (g := F0 m pc ls st) rfl (hl.1.trans C.2.1.1.symm) (argsL := As) (rest := rest)
    (fun sig h => by
      have h9 := hw.2.2.2.2
      rw [h] at h9
      exact hln.trans (Option.some.inj h9).symm) hst.symm (lv_room hcat) (by rw [C.1.2]; exact hd)
    (fun vm₁ hW₁ => ⟨hf.1, hf.2, hP0 (T.setVm vm₁) hT hW₁⟩)
  dsimp only [Pt.U, Pt.locs, Pt.cells, Pt.slots] at X' e1 e2 h1 h2 h3 st0
  subst h1; subst h2; subst h3
  exact ⟨v, (T.setVm vm₁).calling g' mk As.toArray, t, U', L, hT, X', hL, e1, e2, hq, st0⟩
end LAWC
section LAWS
variable {p : Program} {l : Launch} {e : Env} {R : Room} {s : State} {m : MethodId} {args : Array Value} {below : List Frame} {meth : Method} {c : Code} {Q : State → Prop} {D : va_G} {A : Nat → Prop} {nL kc ks : Nat} {ws : va_W} {lv : List (Nat × Value)} {pc n : Nat} {st : List Value} {tc : Nat → ClassId} {cc : ByteArray} {own : String}
/-- the script: an array of the caller's that nobody writes -/
def Sx (b L : Nat) (xs : Nat → Int32) (s : State) (A : Nat → Prop) : Prop := va_X b L xs s s.heap ∧ b < s.heap.size ∧ ¬ A b
theorem go_sld (C : Cx p s m args meth c D tc A nL cc own) {b L : Nat} {xs : Nat → Int32} (hX : Sx b L xs s A) {i : Int32} (hd : decode cc pc = .ok (.iaload, 1)) (hin : okI i L = true) (hn : pc + 1 = n) (kk : Go p l e R s m args below meth c Q D A nL kc ks ws lv n (.int (xs i.toNatClampNeg) :: st)) : Go p l e R s m args below meth c Q D A nL kc ks ws lv pc (.int i :: .ref b :: st) := by
  subst hn
  exact fun H locs ls hl hP hD hS => va_sld C.1.1 C.1.2 hX.1 hX.2.1 hX.2.2 hS (okI_in hin) hd (kk H locs ls hl hP hD hS)
theorem go_slen (C : Cx p s m args meth c D tc A nL cc own) {b L : Nat} {xs : Nat → Int32} (hX : Sx b L xs s A) (hd : decode cc pc = .ok (.arraylength, 1)) (hn : pc + 1 = n) (kk : Go p l e R s m args below meth c Q D A nL kc ks ws lv n (.int (Int32.ofNat L) :: st)) : Go p l e R s m args below meth c Q D A nL kc ks ws lv pc (.ref b :: st) := by
  subst hn
  exact fun H locs ls hl hP hD hS => va_slen C.1.1 C.1.2 hX.1 hX.2.1 hX.2.2 hS hd (kk H locs ls hl hP hD hS)
theorem go_wd {k1 k2 : Nat} (h1 : kc ≤ k1) (h2 : ks ≤ k2) (k : Go p l e R s m args below meth c Q D A nL k1 k2 ws lv pc st) : Go p l e R s m args below meth c Q D A nL kc ks ws lv pc st := fun H locs ls hl hP hD hS => W.widen h1 h2 (k H locs ls hl hP hD hS)
end LAWS

