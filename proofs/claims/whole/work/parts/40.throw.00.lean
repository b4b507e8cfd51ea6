def SX : List (Nat × String) := [(192, "no such word was given"), (226, "no such word was corrected"), (177, "no such number of words"), (75, "no weight"), (87, "the draft is full"), (70, "no word"), (128, "too many readers"), (123, "no dictionary yet"), (133, "no reader holds it"), (156, "no such what"), (147, "no such dictionary"), (162, "the dictionary has not the word"), (184, "no such distance"), (209, "too many pairs"), (213, "the phrase is full"), (175, "no beginning"), (103, "every dictionary is held"), (97, "the draft is empty"), (217, "the phrase is empty")]
def XI (k : Nat) : Nat := match k with
  | 1 => 72
  | 2 => 89
  | 3 => 149
  | _ => 194
/-! what a method that throws owes and gives -/
def EXn (k : Nat) : String := match k with
  | 1 => "java/lang/IllegalArgumentException"
  | 2 => "java/lang/IllegalStateException"
  | 3 => "java/util/NoSuchElementException"
  | _ => "java/lang/IndexOutOfBoundsException"
def XN : List String := ["java/lang/RuntimeException", "java/lang/Exception"]
def nN : String := "java/util/NoSuchElementException"
def rN : String := "java/lang/RuntimeException"
def nB : ByteArray := ⟨#[0x2a, 0x2b, 0xb7, 0x00, 0x0d, 0xb1]⟩
/-- NoSuchElementException's words: its constructor links its superclass's by another entry than the others' -/
def NA (own : String) (ic : Nat) : List Cond := Bundle.throwableAtoms ++ (Bundle.throwableSAtoms ++ (Bundle.passSAtoms nN rN 13 nB ++ (Bundle.chainSAtoms rN ["java/lang/Exception"] ++
  [.methodLink own ic (Bundle.initS nN), .instantiable nN 6, .selects nN Bundle.tFill0 Bundle.tFill0, .selects nN Bundle.tFill Bundle.tFill,
   .lays nN Bundle.tN "cause" "Ljava/lang/Throwable;", .lays nN Bundle.tN "stackTrace" Bundle.steD, .lays nN Bundle.tN "suppressedExceptions" Bundle.listD, .lays nN Bundle.tN "detailMessage" "Ljava/lang/String;",
   .isRef (.static Bundle.tN "UNASSIGNED_STACK" Bundle.steD), .isRef (.static Bundle.tN "SUPPRESSED_SENTINEL" Bundle.listD),
   .fieldLink Bundle.tN 198 Bundle.tN "backtrace" "Ljava/lang/Object;", .lays Bundle.tN Bundle.tN "backtrace" "Ljava/lang/Object;", .lays nN Bundle.tN "backtrace" "Ljava/lang/Object;"])))
/-- the word holds in every later state whose heap agrees with H outside A -/
def Hw (w : Cond) (A : Nat → Prop) (U : State) (H : Heap) : Prop := ∀ (U' : State) (args : Array Value), U.WarmedH U'.vm → (∀ q : Nat, q < H.size → ¬ A q → U'.heap[q]? = H[q]?) → w.before args U' = true
theorem Hw.step {w : Cond} {A B : Nat → Prop} {U U1 : State} {H H1 : Heap} (h : Hw w A U H) (hW : U.WarmedH U1.vm) (hz : H.size ≤ H1.size) (hq : ∀ q : Nat, q < H.size → ¬ A q → H1[q]? = H[q]?) (hAB : ∀ q, q < H.size → B q → A q) : Hw w B U1 H1 :=
  fun U' args hW' hh => h U' args (State.WarmedH.trans hW hW') (fun q h1 h2 => (hh q (Nat.lt_of_lt_of_le h1 hz) (fun b => h2 (hAB q h1 b))).trans (hq q h1 h2))
def XW : List Cond := (Bundle.ownAtoms "SuggestDesk" (XI 1) (EXn 1) XN ++ Bundle.ownAtoms "SuggestDesk" (XI 2) (EXn 2) XN ++ NA "SuggestDesk" (XI 3) ++ Bundle.ownAtoms "SuggestDesk" (XI 4) (EXn 4) XN).filter (fun w => !goodWord w)
def Xt (A : Nat → Prop) (U : State) : Prop := (∀ w ∈ XW, Hw w A U U.heap) ∧ ∀ q ∈ SX, ∃ a, vk_R "SuggestDesk" q.1 q.2 a U
def QX (D : va_G) (A : Nat → Prop) (PX : Nat → va_W → Prop) (st : State) (q : Addr) (t : State) : Prop := ∃ (k : Nat) (w1 : va_W) (ce : Cell) (L : List Loc), PX k w1 ∧ va_P D vwCl w1 t.heap ∧ va_D A w1 ∧ va_F A st t ∧ t.heap[q]? = some ce ∧ ce.vm = .none ∧ st.vm.findClass (EXn k) = some ce.cls ∧ st.WarmedH t.vm ∧ st.sameButNew ({ t with vm := st.vm } : State) L 1 6 ∧ ∀ z ∈ L, A z.base
def OX (D : va_G) (A : Nat → Prop) (POST : Option Value → va_W → Prop) (PX : Nat → va_W → Prop) : Array Value → State → Outcome → State → Prop := fun a st o t => (Qs D A POST a st o t ∧ ∃ L, FrameEnd st o t L 1 6 ∧ ∀ q ∈ L, A q.base) ∨ ∃ q, o = .threw q ∧ QX D A PX st q t
def MX (below : List Frame) (D : va_G) (A : Nat → Prop) (POST : Option Value → va_W → Prop) (PX : Nat → va_W → Prop) (args : Array Value) (s : State) : State → Prop := fun t => ∃ o, t.status = .running ∧ Ended t below o ∧ OX D A POST PX args s o t
def PsX (D : va_G) (tc : Nat → ClassId) (av : List Value) (ws : va_W) (sz : Nat) : Array Value → State → Prop := fun a U => Ps D tc av ws sz a U ∧ Xt (va_A ws sz) U
/-- THE CONTRACT of a method that may throw: at most one cell of six slots is new -/
def StdX (l : Launch) (y : MethodName) (cw : Cond) (rm : Room) (D : va_G) (tc : Nat → ClassId) (av : List Value) (ws : va_W) (POST : Option Value → va_W → Prop) (PX : Nat → va_W → Prop) : Prop :=
  l.stackTraces = false → ∀ sz : Nat, MetFree l y (headSpec (cw :: AL) rm) (PsX D tc av ws sz) (fun _ _ _ _ _ => True) (OX D (va_A ws sz) POST PX)
def Zx (l : Launch) (s : State) (A : Nat → Prop) (c : Code) : Prop := l.stackTraces = false ∧ Xt A s ∧ c.exceptionTable.toList = []
theorem stdX_of {l : Launch} {y : MethodName} {cc : ByteArray} {maxL : Nat} {ret : Option FieldType} {rm : Room} {D : va_G} {tc : Nat → ClassId} {av : List Value} {ws : va_W} {POST : Option Value → va_W → Prop} {PX : Nat → va_W → Prop} {lv : List (Nat × Value)} (hy : plainName y.cls = true) (hlen : (lg_sl av).length ≤ maxL) (hlv : lv_args 0 av = lv)
    (hgo : ∀ (p : Program) (e : Env) (s : State) (m : MethodId) (args : Array Value) (below : List Frame) (meth : Method) (c : Code) (A : Nat → Prop), Cx p s m args meth c D tc A maxL cc y.cls → Zx l s A c → meth.sig.returnType = ret → meth.name = y.name → Go p l e rm s m args below meth c (MX below D A POST PX args s) D A maxL 0 0 ws lv 0 []) : StdX l y (.code y cc maxL ret) rm D tc av ws POST PX := by
  intro hst sz
  refine MetFree.of_bodyS (code := cc) (maxLocals := maxL) (ret := ret) hy ?_ ?_
  · intro args s m h hn
    obtain ⟨meth, c, h1, h2, h3, h4, h5, h6, -, -⟩ := Cond.code_spec hn (atoms_spec (ws := Cond.code y cc maxL ret :: AL) h _ List.mem_cons_self)
    exact ⟨meth, c, h1, h2, h3, h4, h5, h6⟩
  · intro p e s m args below meth c s₁ B hml hv _
    obtain ⟨⟨rfl, hsz, hP, ⟨hK, hN⟩, hD0⟩, hX⟩ := hv
    have hts := atoms_spec (ws := Cond.code y cc maxL ret :: AL) B.pre
    have hex : c.exceptionTable.toList = [] := by
      have h := B.noHandlers (hts _ List.mem_cons_self)
      cases hc : c.exceptionTable with
      | mk l => rw [hc] at h; cases l with
        | nil => rfl
        | cons a l => simp at h
    subst hsz
    subst hlv
    have hD := hD0.self (sz := s.heap.size)
    have hA : ∀ q : Nat, s.heap.size ≤ q → va_A ws s.heap.size q := fun q h => Or.inr h
    generalize va_A ws s.heap.size = A at hD hA hX ⊢
    have hl := lv_entry av (n := maxL) hlen
    have hh0 : s₁.heap = s.heap := by rw [B.state]; rfl
    have K := hgo p e s m av.toArray below meth c A ⟨⟨B.exec, B.bytes⟩, ⟨hml, findClass_of_methodNamed B.named⟩, fun w h => hts w (List.mem_cons_of_mem _ h), ⟨hK, hN⟩, B.notSynchronized, hA⟩ ⟨hst, hX, hex⟩ B.returns (name_of_methodNamed B.named B.method).1 s.heap [] _ hl hP hD va_S.rf
    rw [← lg_entry_eq] at K
    obtain ⟨t, a1, o, b1, b2, b3⟩ := K s₁ hh0 (Stand.of_body B)
    exact ⟨t, o, a1, b1, b2, b3⟩
section THROW
variable {p : Program} {l : Launch} {e : Env} {R : Room} {s : State} {m : MethodId} {args : Array Value} {below : List Frame} {meth : Method} {c : Code} {Q : State → Prop} {D : va_G} {A : Nat → Prop} {nL kc ks : Nat} {ws : va_W} {lv : List (Nat × Value)} {pc n : Nat} {st : List Value} {tc : Nat → ClassId} {cc : ByteArray} {own : String}
theorem go_x {POST : Option Value → va_W → Prop} {PX : Nat → va_W → Prop} (k : Go p l e R s m args below meth c (MQ below (Qs D A POST) args s 1 6 A) D A nL 1 6 ws lv pc st) (h1 : kc ≤ 1 := by omega) (h2 : ks ≤ 6 := by omega) : Go p l e R s m args below meth c (MX below D A POST PX args s) D A nL kc ks ws lv pc st := fun H locs ls hl hP hD hS =>
  W.widen h1 h2 (fun T hT X => by
    obtain ⟨t, a, o, b1, b2, b3⟩ := k H locs ls hl hP hD hS T hT X
    exact ⟨t, a, o, b1, b2, Or.inl b3⟩)
/-- the start that stands where the walk has come -/
def hereS (s T : State) (m : MethodId) (args : Array Value) (below : List Frame) : State := (T.setVm s.vm).setFrames (.invoking m args :: below)
theorem stand_here {T : State} {locs : List Loc} (X : Stand p l e R s m args below meth c T locs kc ks) (k1 k2 : Nat) (hc : kc + k1 ≤ R.cells) (hs : ks + k2 ≤ R.slots) : Stand p l e { frames := R.frames, cells := k1, slots := k2, locals := R.locals } (hereS s T m args below) m args below meth c T [] 0 0 := by
  obtain ⟨g₀, hfr⟩ := X.frames_eq
  have hcur : T.cur < T.threads.size := State.cur_lt_of_frames hfr
  have hF : (hereS s T m args below).frames = .invoking m args :: below := State.frames_setFrames _ hcur
  have hloc : (hereS s T m args below).localsInUse = s.localsInUse := by
    rw [State.localsInUse_invoking hF (meth := meth) (c := c) X.method X.code, State.localsInUse_invoking X.frames X.method X.code]
  have hlim : e.platform.stackLimits (hereS s T m args below).me = e.platform.stackLimits s.me := by
    unfold hereS
    rw [State.stackLimits_setFrames]
    exact X.limits
  have hby : (hereS s T m args below).me.stackBytes = s.me.stackBytes := by
    unfold hereS
    rw [State.stackBytes_setFrames]
    exact X.bytes
  have hroom : (hereS s T m args below).hasRoom e.platform { frames := R.frames, cells := k1, slots := k2, locals := R.locals } = true := by
    have h := X.room
    have q1 := X.heapSize
    have q2 := X.used
    have q3 := X.book
    have z1 : (hereS s T m args below).heap.size = T.heap.size := rfl
    have z2 : (hereS s T m args below).slotsUsed = T.slotsUsed := rfl
    have z3 : (hereS s T m args below).slotsTrue = T.slotsTrue := rfl
    have hfl : s.frames.length = (hereS s T m args below).frames.length := by rw [hF, X.frames]
    simp only [State.hasRoom, Bool.and_eq_true, decide_eq_true_eq] at h ⊢
    rw [hloc, hlim, hby, z1, z2, z3, ← hfl]
    exact ⟨⟨⟨h.1.1.1, by omega⟩, by omega⟩, q3⟩
  refine ⟨X.admits, X.cas, X.clock, hF, hroom, X.hears, X.method, X.code, X.here, X.tail, X.warmed, hlim.symm ▸ X.limits, hby.symm ▸ X.bytes, ?_⟩
  obtain ⟨th, hth, -⟩ := State.frames_cons hfr
  have hx : ((T.heap.toList.drop T.heap.size).map (·.slots.size)).sum = 0 := by
    rw [List.drop_eq_nil_of_le (Nat.le_of_eq Array.length_toList)]
    rfl
  refine ⟨?_, Nat.le_refl _, Nat.le_refl _, ?_, ?_, fun a c9 h9 => ⟨c9, h9, rfl, rfl, fun _ _ => rfl⟩⟩
  · have e1 : (hereS s T m args below).setFrames (T.setVm s.vm).frames = T.setVm s.vm := by
      unfold hereS
      rw [State.setFrames_setFrames]
      exact State.setFrames_self hth
    show T.setVm s.vm = { (hereS s T m args below).setFrames (T.setVm s.vm).frames with heap := T.heap, slotsUsed := T.slotsUsed }
    rw [e1]
    rfl
  · show T.slotsUsed = T.slotsUsed + ((T.heap.toList.drop T.heap.size).map (·.slots.size)).sum
    rw [hx]
    rfl
  · show ((T.heap.toList.drop T.heap.size).map (·.slots.size)).sum ≤ 0
    rw [hx]
    exact Nat.le_refl _
theorem same_cells {s0 U : State} {k1 k2 : Nat} (h : s0.sameButNew ({ U with vm := s0.vm } : State) [] k1 k2) : s0.heap.size ≤ U.heap.size ∧ ∀ q : Nat, q < s0.heap.size → U.heap[q]? = s0.heap[q]? := by
  refine ⟨h.2.1, fun q hq => ?_⟩
  obtain ⟨c1, h1, h2, h3, h4⟩ := h.2.2.2.2.2 q s0.heap[q] (Array.getElem?_eq_getElem hq)
  have hs : c1.slots = (s0.heap[q]).slots := by
    apply Array.ext_getElem?
    intro i
    exact h4 i List.not_mem_nil
  have h5 : c1 = s0.heap[q] := by rw [h2, hs]
  show U.heap[q]? = _
  rw [Array.getElem?_eq_getElem hq, ← h5]
  exact h1
/-- 'invokespecial' of an exception's constructor with a text, and 'athrow' behind it: what the rows below need of it -/
theorem thr_end {W : State} {locs : List Loc} (X : Stand p l e R s m args below meth c W locs kc ks) (hexec : p.tables.exec = Jvm.exec) (htr : e.platform.stackTraces = false) {k ic : Nat} (hown : s.vm.findClass own = some m.cls) (hfit : Bundle.fit (EXn k) = true)
    (hat : (∀ a ∈ Bundle.ownAtoms own ic (EXn k) XN, a.before args s = true) ∨ (k = 3 ∧ ∀ a ∈ NA own ic, a.before args s = true)) (hlocs : locs = [])
    {a : Addr} {cX : ClassId} {kX : Class} (hf : s.vm.findClass (EXn k) = some cX) (hkX : s.vm.classes[cX]? = some kX) (hcell : W.heap[a]? = some (freshCell cX kX)) (hnew : s.heap.size ≤ a) {sa : Addr}
    {g : JFrame} (hg : g.method = m) (hsize : g.locals.size = c.maxLocals) (hlk : g.locked = none) (hent : g.entered = []) {rest : List Value} (hstack : g.stack = .ref sa :: .ref a :: .ref a :: rest)
    (d6 : decode c.code g.pc = .ok (.invokespecial ic, 3)) (d9 : decode c.code (g.pc + 3) = .ok (.athrow, 1)) (hout : ∀ x ∈ c.exceptionTable.toList, covers x (g.pc + 3) = false)
    (hfr : 5 < R.frames) (hlo : 2 * g.monitorRoom + ((Value.ref a :: rest).map fun v => v.category).sum + (13 * (2 + 1) + 42) ≤ R.locals) (hlocks : meth.locks = false) :
    ∃ U : State, Steps p.tables e below (W.setTop g) U ∧ U.status = .running ∧ Ended U below (.threw a) ∧ s.WarmedH U.vm ∧ s.sameButNew ({ U with vm := s.vm } : State) locs kc ks ∧ ∃ ce, U.heap[a]? = some ce ∧ ce.vm = .none ∧ s.vm.findClass (EXn k) = some ce.cls := by
  subst hlocs
  rcases hat with h | ⟨rfl, h⟩
  · obtain ⟨U, u1, u2, u3, u4, u5, ce, u6, u7⟩ := X.ctorThrowS hexec htr (own := own) (cls := EXn k) (names := XN) (ic := ic) hown hfit (by decide) h (fun x hx => nomatch hx) hf hkX hcell hnew (msg := .ref sa) rfl (g := g) hg hsize hlk hent (rest := rest) hstack d6 d9 hout hfr hlo hlocks
    exact ⟨U, u1, u2, u3, u4, u5, ce, u6, u7.vm, u7.cls⟩
  · have hpl : e.platform.magicAccessors = ({} : Platform).magicAccessors := by rw [X.admits.platform]
    have b : ∀ x, x ∈ NA own ic → x.holds args s none s [] = true := fun x hx => h x hx
    obtain ⟨T, Z0, L, -, Y⟩ := ThrowableC.of_atoms (args := args) (by rw [X.admits.platform]) (by rw [X.admits.platform]) hpl (fun x hx => h x (by simp [NA, hx]))
    obtain ⟨Z, M, LZ, LM, hnZ⟩ := Init0T.ofS_atoms (args := args) hpl L Y (fun x hx => h x (by simp [NA, hx]))
    obtain ⟨P1, L1, hP1m, hP1s⟩ := PassC.ofS_atoms (args := args) (s := s) hpl (X := nN) (Y := rN) (index := 13) (bytes := nB) (by decide) (by decide) (by decide +kernel) (by decide +kernel) (by decide +kernel) (by decide +kernel) (fun x hx => h x (by simp [NA, hx]))
    obtain ⟨P2, Ps, hlen, L2, hL, hP2m, hlink2, hlink⟩ := Bundle.chainS (args := args) hpl hnZ ["java/lang/Exception"] rN (by decide +kernel) (by decide +kernel) (fun x hx => h x (by simp [NA, hx]))
    have h12 : P1.sup = P2.m := Option.some.inj (hP1s.symm.trans hP2m)
    have hfnd : s.vm.findClass nN = some P1.m.cls := findClass_of_methodNamed hP1m
    have hcX : cX = P1.m.cls := Option.some.inj (hf.symm.trans hfnd)
    subst hcX
    obtain ⟨c1, k1, hc1, hk1, hord, -, -, hn6⟩ := Cond.instantiable_spec (b (.instantiable nN 6) (by simp [NA]))
    cases Option.some.inj (hc1.symm.trans hfnd)
    cases Option.some.inj (hkX.symm.trans hk1)
    have hs0 : selectMethod e.platform s.vm P1.m.cls T.fill0 = .method T.fill0 := by
      obtain ⟨c2, r2, m2, q1, q2, q3, q4, -⟩ := Cond.selects_spec (b (.selects nN Bundle.tFill0 Bundle.tFill0) (by simp [NA]))
      cases Option.some.inj (q1.symm.trans hfnd)
      cases Option.some.inj (q2.symm.trans (State.methodFound?_of_named Y.fill0 (by decide)))
      cases Option.some.inj (q3.symm.trans Y.fill0)
      rw [Launch.admits_selectMethod X.admits]; exact q4
    have hs1 : selectMethod e.platform s.vm P1.m.cls T.fill = .method T.fill := by
      obtain ⟨c2, r2, m2, q1, q2, q3, q4, -⟩ := Cond.selects_spec (b (.selects nN Bundle.tFill Bundle.tFill) (by simp [NA]))
      cases Option.some.inj (q1.symm.trans hfnd)
      cases Option.some.inj (q2.symm.trans (State.methodFound?_of_named Y.fill (by decide)))
      cases Option.some.inj (q3.symm.trans Y.fill)
      rw [Launch.admits_selectMethod X.admits]; exact q4
    obtain ⟨cS, hcS, hiS⟩ := Y.statics
    obtain ⟨u0, hu0⟩ := Cond.staticRefV Y.unassigned L.unassignedStatic L.statics hcS hiS (b (.isRef (.static Bundle.tN "UNASSIGNED_STACK" Bundle.steD)) (by simp [NA]))
    obtain ⟨sn, hsn⟩ := Cond.staticRefV Y.sentinel L.sentinelStatic L.statics hcS hiS (b (.isRef (.static Bundle.tN "SUPPRESSED_SENTINEL" Bundle.listD)) (by simp [NA]))
    obtain ⟨ci, i1, fB, hkB, hgB, haB, hsB, -, hnB, htB, hffB⟩ := Cond.ownField (t := .object "java/lang/Object") Y.found L.cls (by decide +kernel) (b (.fieldLink Bundle.tN 198 Bundle.tN "backtrace" "Ljava/lang/Object;") (by simp [NA])) (b (.lays Bundle.tN Bundle.tN "backtrace" "Ljava/lang/Object;") (by simp [NA])) e.platform hpl
    obtain ⟨cS1, hcS1, heS, -, hkeep⟩ := X.same.2.2.2.2.2 T.aS cS hcS
    have hcS2 : W.heap[T.aS]? = some cS1 := hcS1
    have hknS : cS1.vm ≠ .unknown := by
      rw [heS]
      intro hu
      rw [show cS.vm = .unknown from hu] at hiS
      cases hiS
    have hneS : T.aS ≠ a := Nat.ne_of_lt (Nat.lt_of_lt_of_le (Array.getElem?_eq_some_iff.mp hcS).1 hnew)
    obtain ⟨iM, hffM⟩ := Y.msg
    obtain ⟨tyC, dC, hdC, hdnC⟩ := Cond.laysAt hfnd hk1 Y.cause (b (.lays nN Bundle.tN "cause" "Ljava/lang/Throwable;") (by simp [NA]))
    obtain ⟨tyS, dS, hdS, hdnS⟩ := Cond.laysAt hfnd hk1 Y.stack (b (.lays nN Bundle.tN "stackTrace" Bundle.steD) (by simp [NA]))
    obtain ⟨tyP, dP, hdP, hdnP⟩ := Cond.laysAt hfnd hk1 Y.supp (b (.lays nN Bundle.tN "suppressedExceptions" Bundle.listD) (by simp [NA]))
    obtain ⟨tyM, dM, hdM, hdnM⟩ := Cond.laysAt hfnd hk1 hffM (b (.lays nN Bundle.tN "detailMessage" "Ljava/lang/String;") (by simp [NA]))
    obtain ⟨tyB, dB, hdB, hdnB⟩ := Cond.laysAt hfnd hk1 hffB (b (.lays nN Bundle.tN "backtrace" "Ljava/lang/Object;") (by simp [NA]))
    have bC := Cond.laysApart hdB hdC hdnB hdnC (by rw [hnB, Y.causeName]; decide)
    have bS := Cond.laysApart hdB hdS hdnB hdnS (by rw [hnB, Y.stackName]; decide)
    have bP := Cond.laysApart hdB hdP hdnB hdnP (by rw [hnB, Y.suppName]; decide)
    have hskip : SkipFacts T e.platform s (fun u => u) u0 ((preparedCellV T.toThrowableT (freshCell P1.m.cls kX) a u0 sn).withEntry W.cur) :=
      ⟨{ ci198 := ci, i198 := i1, fBack := fB }, ⟨hkB, hgB, haB, hsB⟩, by
        have hz := fresh_default (c := P1.m.cls) tyB
        rw [htB] at hz
        simpa [preparedCellV, Cell.setSlot, Cell.withEntry, Array.getElem?_setIfInBounds, bC, bS, bP, bC.symm, bS.symm, bP.symm, defaultValue] using hz, fun _ _ => rfl⟩
    obtain ⟨tm, mC, cdC, kC, vm₁, hnC, -, -, -, -, -, -, -, hW₁, st1⟩ := Steps.initColdS (tb := p.tables) (e := e) (below := below) (s := s) (U := W) X.here hexec X.warmed hpl hown (t := Bundle.initS nN) rfl rfl (by decide)
      (b (.methodLink own ic (Bundle.initS nN)) (by simp [NA])) (h (.instanceMethod (Bundle.initS nN)) (by simp [NA, Bundle.passSAtoms])) (bytes := nB) (maxL := 2) (h (.code (Bundle.initS nN) nB 2 none) (by simp [NA, Bundle.passSAtoms]))
      (f := g) hg (a := a) (msg := .ref sa) (rest := .ref a :: rest) hstack d6
    cases Option.some.inj (hnC.symm.trans hP1m)
    have X₁ := X.noted hW₁
    have hno : ∀ i, (⟨T.aS, i⟩ : Loc) ∉ ([] : List Loc) := fun i => List.not_mem_nil
    obtain ⟨vm₂, X₂, st2⟩ := X₁.ctorMessageOffV hexec (g := { g with stack := .ref a :: rest }) hg hsize T L Z LZ M LM (P1 :: P2 :: Ps)
      (fun P hP => by
        rcases List.mem_cons.mp hP with rfl | hP
        · exact L1
        · rcases List.mem_cons.mp hP with rfl | hP
          · exact L2
          · exact hL P hP) ⟨h12, hlink2, hlink⟩ (u0 := u0) (sen := sn) (self := a) (msg := .ref sa) rfl (cell := freshCell P1.m.cls kX) (cellS := cS1)
      hcell (fun _ => by simp) (by simp) rfl rfl hs0 hs1 hcS2 hneS hknS (by rw [hkeep _ (hno _)]; exact hu0) (by rw [hkeep _ (hno _)]; exact hsn)
      (Takes.of_laid hk1 hord tyC (by rw [Y.causeType]; rfl)) (Takes.of_laid hk1 hord tyS (by rw [Y.stackType]; exact fits_refV_array _ u0)) (Takes.of_laid hk1 hord tyP (by rw [Y.suppType]; exact fits_refV_object _ sn))
      (Takes.of_laid hk1 hord tyM (by rw [Y.msgType]; exact fits_refV_object _ ⟨.ref sa, rfl⟩)) Y.objLocals hskip htr [] d6
      (by simp only [List.length_cons, hlen]; exact hfr) (by simp only [List.length_cons, hlen]; exact hlo)
    obtain ⟨hwalk, hrun, hended, hWU, hsame⟩ := X₂.athrowLeaves hexec (g := { g with stack := .ref a :: rest, pc := g.pc + 3 }) hg hlk hent hout (a := a) (rest := rest) rfl d9 hlocks
    have hlt : a < ((W.setVm vm₁).setVm vm₂).heap.size := (Array.getElem?_eq_some_iff.mp hcell).1
    have hU := heapAt_setCell_self (s := (W.setVm vm₁).setVm vm₂) (plainBareV T.toThrowableT (freshCell P1.m.cls kX) a u0 sn (.ref sa)) hlt
    refine ⟨_, st1 _ (fun acts => ?_), hrun, hended, hWU, hsame.weaken (fun y hy hlt' => ?_) (Nat.le_refl _) (Nat.le_refl _), _, hU, rfl, hfnd⟩
    · rw [doInvoke_state]
      exact st2 _ hwalk
    · exfalso
      have hb : y.base = a := by
        simp only [List.nil_append, List.mem_cons, List.not_mem_nil, or_false] at hy
        rcases hy with rfl | rfl | rfl | rfl | rfl <;> rfl
      rw [hb] at hlt'
      exact Nat.not_lt.mpr hnew hlt'
/-- what 'throw new E(text)' needs of the words -/
def Th (own : String) (k ik is ic : Nat) (tx : String) : Prop := (own = "SuggestDesk" ∧ (is, tx) ∈ SX ∧ Bundle.fit (EXn k) = true) ∧ Cond.classLink own ik (EXn k) ∈ AL ∧ Cond.initialized (EXn k) ∈ AL ∧ ((∀ w ∈ Bundle.ownAtoms own ic (EXn k) XN, w ∈ AL ∨ w ∈ XW) ∨ (k = 3 ∧ ∀ w ∈ NA own ic, w ∈ AL ∨ w ∈ XW))
theorem go_thr (C : Cx p s m args meth c D tc A nL cc own) (Z : Zx l s A c) {k ik is ic : Nat} {tx : String} {POST : Option Value → va_W → Prop} {PX : Nat → va_W → Prop} (d0 : decode cc pc = .ok (.new ik, 3)) (d3 : decode cc (pc + 3) = .ok (.dup, 1)) (d4 : decode cc (pc + 4) = .ok (.ldc is, 2)) (d6 : decode cc (pc + 6) = .ok (.invokespecial ic, 3)) (d9 : decode cc (pc + 9) = .ok (.athrow, 1))
    (hT : Th own k ik is ic tx) (hfr : 5 < R.frames) (hlo : (st.map fun v => v.category).sum + 90 ≤ R.locals) (hc : kc + 1 ≤ R.cells) (hs : ks + 6 ≤ R.slots) (hk0 : kc = 0) (hs0 : ks = 0) (hp : PX k ws) : Go p l e R s m args below meth c (MX below D A POST PX args s) D A nL kc ks ws lv pc st := by
  subst hk0 hs0
  obtain ⟨⟨rfl, hsx, hfit⟩, hcl, hin, hat⟩ := hT
  intro H locs ls hl hP hD hS T hTH X
  have Y := stand_here X 1 6 hc hs
  have hpl : e.platform.stackTraces = false := (show e.platform.stackTraces = l.stackTraces by rw [X.admits.platform]).trans Z.1
  have hW0 : s.WarmedH (hereS s T m args below).vm := State.WarmedH.refl s
  have hheap : (hereS s T m args below).heap = H := hTH
  have hgood : ∀ w ∈ AL, w.before args (hereS s T m args below) = true := fun w hw => word_at hW0 (good_of_word (List.mem_filter.mp hw).2) (C.2.2.1 w hw)
  have hany : ∀ w : Cond, w ∈ AL ∨ w ∈ XW → w.before args (hereS s T m args below) = true := fun w h => by
    rcases h with h | h
    · exact hgood w h
    · exact Z.2.1.1 w h _ _ hW0 (fun q h1 h2 => by rw [hheap]; exact hS.2.1 q h1 h2)
  have hall : (∀ a ∈ Bundle.ownAtoms "SuggestDesk" ic (EXn k) XN, a.before args (hereS s T m args below) = true) ∨ (k = 3 ∧ ∀ a ∈ NA "SuggestDesk" ic, a.before args (hereS s T m args below) = true) := by
    rcases hat with h | ⟨h0, h⟩
    · exact Or.inl (fun w hw => hany w (h w hw))
    · exact Or.inr ⟨h0, fun w hw => hany w (h w hw)⟩
  obtain ⟨sa, hsa⟩ := Z.2.1.2 _ hsx
  have hsa' : vk_R "SuggestDesk" is tx sa (hereS s T m args below) := vk_R.warm hW0 hsa
  have hown : (hereS s T m args below).vm.findClass "SuggestDesk" = some m.cls := C.2.1.2
  have hinst : (Cond.instantiable (EXn k) 6).before args (hereS s T m args below) = true := by
    rcases hall with h | ⟨rfl, h⟩
    · exact h _ (by simp [Bundle.ownAtoms])
    · exact h _ (by simp [NA, EXn, nN])
  have KW : W p l e { frames := R.frames, cells := 1, slots := 6, locals := R.locals } (hereS s T m args below) m args below meth c H [] 0 0 (fun U => U.status = .running ∧ Ended U below (.threw H.size) ∧ (hereS s T m args below).WarmedH U.vm ∧ (hereS s T m args below).sameButNew ({ U with vm := (hereS s T m args below).vm } : State) [] 1 6 ∧ ∃ ce, U.heap[H.size]? = some ce ∧ ce.vm = .none ∧ (hereS s T m args below).vm.findClass (EXn k) = some ce.cls) (F0 m pc ls st) := by
    refine W.newc C.1.1 C.1.2 hown (hgood _ hcl) hinst (hgood _ hin) (g := F0 m pc ls st) rfl d0 (Nat.le_refl _) (Nat.le_refl _) (fun cC kC f1 f2 f3 f4 => ?_)
    refine W.eq (g2 := F0 m (pc + 3) ls (.ref H.size :: st)) rfl ?_
    refine lv_dup C.1.1 C.1.2 d3 rfl ?_
    refine va_ldcS C.1.1 C.1.2 hown hsa' d4 ?_
    intro T1 hT1 X1
    have hcell : T1.heap[H.size]? = some (freshCell cC kC) := by rw [hT1]; exact Array.getElem?_push_size
    exact thr_end X1 C.1.1 hpl (own := "SuggestDesk") (k := k) (ic := ic) hown hfit hall rfl f1 f2 hcell (by rw [hheap]; exact Nat.le_refl _) (sa := sa)
      (g := F0 m (pc + 4 + 2) ls (.ref sa :: .ref H.size :: .ref H.size :: st)) rfl (hl.1.trans C.2.1.1.symm) rfl rfl (rest := st) rfl (by rw [C.1.2]; exact d6) (by rw [C.1.2]; exact d9) (by rw [Z.2.2]; intro x hx; cases hx) hfr (by
        have h1 : (Value.ref H.size).category = 1 := rfl
        have h2 : (F0 m (pc + 4 + 2) ls (.ref sa :: .ref H.size :: .ref H.size :: st)).monitorRoom = 0 := rfl
        rw [h2, List.map_cons, List.sum_cons, h1]
        dsimp only
        omega) C.2.2.2.2.1
  obtain ⟨U, st1, v1, v2, v3, v4, ce, v5, v6, v7⟩ := KW T hTH Y
  obtain ⟨w1, w2⟩ := same_cells v4
  rw [hheap] at w1 w2
  have hWU : s.WarmedH U.vm := State.WarmedH.trans hW0 v3
  refine ⟨U, st1, .threw H.size, v1, v2, Or.inr ⟨H.size, rfl, k, ws, ce, locs, hp, hP.kept (fun j q hq => w2 q.1 (hP j q hq).lt), hD, ⟨Nat.le_trans hS.1 w1, fun q h1 h2 => (w2 q (Nat.lt_of_lt_of_le h1 hS.1)).trans (hS.2.1 q h1 h2)⟩, v5, v6, v7, hWU, ?_, hS.2.2⟩⟩
  have h2 : (T.setVm s.vm).sameButNew ({ U with vm := s.vm } : State) [] 1 6 := by
    obtain ⟨e1, e2⟩ := v4
    refine ⟨?_, e2⟩
    unfold hereS at e1
    rw [State.setFrames_setFrames] at e1
    exact e1
  have h3 := X.same.trans h2
  rw [List.append_nil] at h3
  simpa using h3
end THROW

