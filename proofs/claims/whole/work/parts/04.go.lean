/-! Go: from every heap that holds the world ws (addresses apart, nothing outside A changed since the entry) and locals that hold lv, the frame at pc with stack st comes to Q. The rules below are a rule an instruction, over the kit's rows. -/
/-- the array classes: int[], long[], Dictionary[], int[][], long[][] -/
def TY (tc : Nat → ClassId) : List (ClassId × FieldType) := [(tc 0, .int), (tc 1, .long), (tc 2, .object "SuggestDesk$Dictionary"), (tc 3, .array .int), (tc 4, .array .long)]
/-- what a method's frame stands on -/
def Cx (p : Program) (s : State) (m : MethodId) (args : Array Value) (meth : Method) (c : Code) (D : va_G) (tc : Nat → ClassId) (A : Nat → Prop) (nL : Nat) (cc : ByteArray) (own : String) : Prop :=
  (p.tables.exec = Jvm.exec ∧ c.code = cc) ∧ (c.maxLocals = nL ∧ s.vm.findClass own = some m.cls) ∧ (∀ w ∈ AL, w.before args s = true) ∧ (va_K D vwCl (TY tc) s ∧ ∀ w ∈ NWs, va_Nw w s) ∧ meth.locks = false ∧ ∀ q, s.heap.size ≤ q → A q
def Go (p : Program) (l : Launch) (e : Env) (R : Room) (s : State) (m : MethodId) (args : Array Value) (below : List Frame) (meth : Method) (c : Code) (Q : State → Prop) (D : va_G) (A : Nat → Prop) (nL kc ks : Nat) (ws : va_W) (lv : List (Nat × Value)) (pc : Nat) (st : List Value) : Prop :=
  ∀ (H : Heap) (locs : List Loc) (ls : Array Slot), lv_has ls nL lv → va_P D vwCl ws H → va_D A ws → va_S A s.heap H locs → W p l e R s m args below meth c H locs kc ks Q (F0 m pc ls st)
theorem go_fm {ws wc : va_W} {is : List Nat} (h : is.map (fun i => ws[i]?) = wc.map some) : is.filterMap (fun i => ws[i]?) = wc := by
  have h1 : is.filterMap (fun i => ws[i]?) = (is.map (fun i => ws[i]?)).filterMap id := by rw [List.filterMap_map]; rfl
  have h2 : ∀ w : va_W, (w.map some).filterMap id = w := fun w => by
    induction w with
    | nil => rfl
    | cons a l ih => rw [List.map_cons, List.filterMap_cons_some (f := id) (b := a) rfl, ih]
  rw [h1, h, h2]
/-- a world with the cells at the places is changed for others -/
def repl : va_W → List Nat → va_W → va_W
  | ws, i :: is, x :: xs => repl (ws.set i x) is xs
  | ws, _, _ => ws
theorem repl_get : ∀ (is : List Nat) (xs ws : va_W) (k : Nat) (q : Nat × va_E), (repl ws is xs)[k]? = some q → is.length = xs.length → (∃ j : Nat, xs[j]? = some q) ∨ (k ∉ is ∧ ws[k]? = some q)
  | [], [], ws, k, q, h, _ => Or.inr ⟨List.not_mem_nil, h⟩
  | i :: is, x :: xs, ws, k, q, h, hl => by
    rcases repl_get is xs (ws.set i x) k q h (by simpa using hl) with ⟨j, hj⟩ | ⟨hk, hw⟩
    · exact Or.inl ⟨j + 1, hj⟩
    · by_cases hik : i = k
      · subst hik
        by_cases hlt : i < ws.length
        · rw [List.getElem?_set_self hlt] at hw
          exact Or.inl ⟨0, hw⟩
        · have h2 : (ws.set i x).length ≤ i := by rw [List.length_set]; omega
          rw [List.getElem?_eq_none h2] at hw
          cases hw
      · rw [List.getElem?_set_ne hik] at hw
        exact Or.inr ⟨fun h => (List.mem_cons.mp h).elim (fun h => hik h.symm) hk, hw⟩
  | [], _ :: _, _, _, _, _, hl => by simp at hl
  | _ :: _, [], _, _, _, _, hl => by simp at hl
theorem repl_same : ∀ (is : List Nat) (ws wc : va_W), is.map (fun i => ws[i]?) = wc.map some → repl ws is wc = ws
  | [], ws, [], _ => rfl
  | [], ws, _ :: _, h => by simp at h
  | _ :: _, ws, [], h => by simp at h
  | i :: is, ws, x :: xs, h => by
    rw [List.map_cons, List.map_cons, List.cons.injEq] at h
    have hs : ws.set i x = ws := by
      apply List.ext_getElem?
      intro k
      by_cases hk : i = k
      · subst hk
        rw [List.getElem?_set_self (List.getElem?_eq_some_iff.mp h.1).1, h.1]
      · rw [List.getElem?_set_ne hk]
    show repl (ws.set i x) is xs = ws
    rw [hs]
    exact repl_same is ws xs h.2
theorem repl_P {A0 : Nat → Prop} {D : va_G} {cl : List vw_C} {ws wc w1 : va_W} {H H1 : Heap} (hP : va_P D cl ws H) (hD : va_D A0 ws) (isC : List Nat) (hC : isC.map (fun i => ws[i]?) = wc.map some) (hlen : isC.length = w1.length)
    (hk : ∀ q : Nat, q < H.size → ¬ va_A wc H.size q → H1[q]? = H[q]?) (hP1 : va_P D cl w1 H1) : va_P D cl (repl ws isC w1) H1 := by
  intro k q hq
  rcases repl_get isC w1 ws k q hq hlen with ⟨j, hj⟩ | ⟨hn, hw⟩
  · exact hP1 j q hj
  · have hlt := (hP k q hw).lt
    refine (hP k q hw).kept (hk q.1 hlt (fun h => ?_))
    rcases h with ⟨k2, e, h⟩ | h
    · have h1 : (isC.map (fun i => ws[i]?))[k2]? = some (some (q.1, e)) := by rw [hC, List.getElem?_map, h]; rfl
      rw [List.getElem?_map] at h1
      cases hi : isC[k2]? with
      | none => rw [hi] at h1; cases h1
      | some i =>
        rw [hi] at h1
        have h2 : ws[i]? = some (q.1, e) := Option.some.inj h1
        have := hD.1 k i q (q.1, e) hw h2 rfl
        subst this
        exact hn (List.mem_of_getElem? hi)
    · omega
theorem repl_fst : ∀ (is : List Nat) (ws wc w1 : va_W), is.map (fun i => ws[i]?) = wc.map some → w1.map Prod.fst = wc.map Prod.fst → (repl ws is w1).map Prod.fst = ws.map Prod.fst := by
  have gen : ∀ (is : List Nat) (ws : va_W) (w1 : va_W), (∀ (j i : Nat) (x : Nat × va_E), is[j]? = some i → w1[j]? = some x → (ws.map Prod.fst)[i]? = some x.1) → (repl ws is w1).map Prod.fst = ws.map Prod.fst := by
    intro is
    induction is with
    | nil => intro ws w1 _; cases w1 <;> rfl
    | cons i is ih =>
      intro ws w1 h
      cases w1 with
      | nil => rfl
      | cons x xs =>
        have h0 := h 0 i x rfl rfl
        have hs : (ws.set i x).map Prod.fst = ws.map Prod.fst := by
          rw [List.map_set]
          apply List.ext_getElem?
          intro k
          by_cases hk : i = k
          · subst hk
            rw [List.getElem?_set_self (List.getElem?_eq_some_iff.mp h0).1, h0]
          · rw [List.getElem?_set_ne hk]
        show (repl (ws.set i x) is xs).map Prod.fst = ws.map Prod.fst
        rw [ih (ws.set i x) xs (fun j i2 x2 h1 h2 => by rw [hs]; exact h (j + 1) i2 x2 h1 h2), hs]
  intro is ws wc w1 hC hf
  refine gen is ws w1 (fun j i x h1 h2 => ?_)
  have h3 : (w1.map Prod.fst)[j]? = some x.1 := by rw [List.getElem?_map, h2]; rfl
  rw [hf, List.getElem?_map] at h3
  have h4 : (is.map (fun i => ws[i]?))[j]? = some (ws[i]?) := by rw [List.getElem?_map, h1]; rfl
  rw [hC, List.getElem?_map] at h4
  cases hw : wc[j]? with
  | none => rw [hw] at h3; cases h3
  | some q =>
    rw [hw] at h3 h4
    rw [List.getElem?_map, ← Option.some.inj h4]
    exact h3
theorem repl_D {A : Nat → Prop} {ws ws' : va_W} (hD : va_D A ws) (h : ws'.map Prod.fst = ws.map Prod.fst) : va_D A ws' := by
  have key : ∀ (k : Nat) (q : Nat × va_E), ws'[k]? = some q → ∃ q0, ws[k]? = some q0 ∧ q0.1 = q.1 := by
    intro k q hk
    have h1 : (ws'.map Prod.fst)[k]? = some q.1 := by rw [List.getElem?_map, hk]; rfl
    rw [h, List.getElem?_map] at h1
    cases hw : ws[k]? with
    | none => rw [hw] at h1; cases h1
    | some q0 => rw [hw] at h1; exact ⟨q0, rfl, Option.some.inj h1⟩
  refine ⟨fun i j x y hi hj hxy => ?_, fun k q hk => ?_⟩
  · obtain ⟨x0, h1, h2⟩ := key i x hi
    obtain ⟨y0, h3, h4⟩ := key j y hj
    exact hD.1 i j x0 y0 h1 h3 (h2.trans (hxy.trans h4.symm))
  · obtain ⟨q0, h1, h2⟩ := key k q hk
    rw [← h2]
    exact hD.2 k q0 h1
theorem iteS {α : Type} {c : Prop} [Decidable c] {a b : Option α} {o : α} (h : (if c then a else b) = some o) : (c → a = some o) ∧ (¬ c → b = some o) := ⟨fun hc => by rw [if_pos hc] at h; exact h, fun hc => by rw [if_neg hc] at h; exact h⟩
theorem guardS {α : Type} {c : Bool} {a : Option α} {o : α} (h : (if c = true then a else none) = some o) : c = true ∧ a = some o := by
  by_cases hc : c = true
  · rw [if_pos hc] at h
    exact ⟨hc, h⟩
  · rw [if_neg hc] at h
    cases h
theorem bindS {α β : Type} {x : Option α} {k : α → Option β} {o : β} (h : x.bind k = some o) : ∃ r, x = some r ∧ k r = some o := by
  cases x with
  | none => cases h
  | some r => exact ⟨r, rfl, h⟩
def okZ (v : Int32) : Bool := decide (v = 0) || decide (v = 1)
theorem okZ_n {v : Int32} (h : okZ v = true) : narrow .boolean (.int v) = .int v := by
  simp only [okZ, Bool.or_eq_true, decide_eq_true_eq] at h
  rcases h with rfl | rfl <;> rfl
theorem lg_eq0 {x y : Int64} : lg_cmp x y = 0 ↔ x = y := by
  unfold lg_cmp
  by_cases h1 : y < x
  · rw [if_pos h1]
    exact ⟨fun h => absurd h (by decide), fun h => absurd (h ▸ h1) (by simp)⟩
  · rw [if_neg h1]
    by_cases h2 : x = y
    · simp [h2]
    · simp [h2]
theorem lg_lt0 {x y : Int64} : lg_cmp x y < 0 ↔ x < y := by
  unfold lg_cmp
  by_cases h1 : y < x
  · rw [if_pos h1]
    exact ⟨fun h => absurd h (by decide), fun h => absurd (Int64.lt_trans h1 h) (by simp)⟩
  · rw [if_neg h1]
    by_cases h2 : x = y
    · subst h2
      simp
    · rw [if_neg h2]
      refine ⟨fun _ => ?_, fun _ => by decide⟩
      have h3 : ¬ y.toInt < x.toInt := fun h => h1 (Int64.lt_iff_toInt_lt.mpr h)
      have h4 : ¬ x.toInt = y.toInt := fun h => h2 (Int64.toInt_inj.mp h)
      exact Int64.lt_iff_toInt_lt.mpr (by omega)
theorem lg_gt0 {x y : Int64} : 0 < lg_cmp x y ↔ y < x := by
  unfold lg_cmp
  by_cases h1 : y < x
  · rw [if_pos h1]
    exact ⟨fun _ => h1, fun _ => by decide⟩
  · rw [if_neg h1]
    by_cases h2 : x = y
    · subst h2
      simp
    · rw [if_neg h2]
      exact ⟨fun h => absurd h (by decide), fun h => absurd h h1⟩
theorem lg_ge0 {x y : Int64} : 0 ≤ lg_cmp x y ↔ y ≤ x := by
  rw [← Int32.not_lt, lg_lt0, Int64.not_lt]
theorem lg_le0 {x y : Int64} : lg_cmp x y ≤ 0 ↔ x ≤ y := by
  rw [← Int32.not_lt, lg_gt0, Int64.not_lt]
section GO
variable {p : Program} {l : Launch} {e : Env} {R : Room} {s : State} {m : MethodId} {args : Array Value} {below : List Frame} {meth : Method} {c : Code} {Q : State → Prop} {D : va_G} {A : Nat → Prop} {nL kc ks : Nat} {ws : va_W} {lv : List (Nat × Value)} {pc n : Nat} {st : List Value} {tc : Nat → ClassId} {cc : ByteArray} {own : String}

theorem go_iconst (C : Cx p s m args meth c D tc A nL cc own) {z : Int} {v : Int32} (hd : decode cc pc = .ok (.iconst z, 1)) (hv : Int32.ofInt z = v) (hn : pc + 1 = n) (k : Go p l e R s m args below meth c Q D A nL kc ks ws lv n (.int v :: st)) : Go p l e R s m args below meth c Q D A nL kc ks ws lv pc st := by
  subst hn
  exact fun H locs ls hl hP hD hS => lv_iconst C.1.1 C.1.2 hd hv (k H locs ls hl hP hD hS)
theorem go_bipush (C : Cx p s m args meth c D tc A nL cc own) {z : Int} {v : Int32} (hd : decode cc pc = .ok (.bipush z, 2)) (hv : (Int8.ofInt z).toInt32 = v) (hn : pc + 2 = n) (k : Go p l e R s m args below meth c Q D A nL kc ks ws lv n (.int v :: st)) : Go p l e R s m args below meth c Q D A nL kc ks ws lv pc st := by
  subst hn
  exact fun H locs ls hl hP hD hS => lv_bipush C.1.1 C.1.2 hd hv (k H locs ls hl hP hD hS)
theorem go_sipush (C : Cx p s m args meth c D tc A nL cc own) {z : Int} {v : Int32} (hd : decode cc pc = .ok (.sipush z, 3)) (hv : (Int16.ofInt z).toInt32 = v) (hn : pc + 3 = n) (k : Go p l e R s m args below meth c Q D A nL kc ks ws lv n (.int v :: st)) : Go p l e R s m args below meth c Q D A nL kc ks ws lv pc st := by
  subst hn
  exact fun H locs ls hl hP hD hS => lv_sipush C.1.1 C.1.2 hd hv (k H locs ls hl hP hD hS)
theorem go_lconst (C : Cx p s m args meth c D tc A nL cc own) {z : Fin 2} {v : Int64} (hd : decode cc pc = .ok (.lconst z, 1)) (hv : Int64.ofNat (z : Nat) = v) (hn : pc + 1 = n) (k : Go p l e R s m args below meth c Q D A nL kc ks ws lv n (.long v :: st)) : Go p l e R s m args below meth c Q D A nL kc ks ws lv pc st := by
  subst hn
  exact fun H locs ls hl hP hD hS => lv_lconst C.1.1 C.1.2 hd hv (k H locs ls hl hP hD hS)
theorem go_null (C : Cx p s m args meth c D tc A nL cc own)  (hd : decode cc pc = .ok (.aconst_null, 1)) (hn : pc + 1 = n) (k : Go p l e R s m args below meth c Q D A nL kc ks ws lv n (.null :: st)) : Go p l e R s m args below meth c Q D A nL kc ks ws lv pc st := by
  subst hn
  exact fun H locs ls hl hP hD hS => lv_null C.1.1 C.1.2 hd (k H locs ls hl hP hD hS)
theorem go_ldc (C : Cx p s m args meth c D tc A nL cc own) {z : Nat} {v : Int32} (hd : decode cc pc = .ok (.ldc z, 2)) (hw : Jvm.Cond.constant own z v ∈ AL) (hn : pc + 2 = n) (k : Go p l e R s m args below meth c Q D A nL kc ks ws lv n (.int v :: st)) : Go p l e R s m args below meth c Q D A nL kc ks ws lv pc st := by
  subst hn
  exact fun H locs ls hl hP hD hS => lv_ldc C.1.1 C.1.2 C.2.1.2 (C.2.2.1 _ hw) hd (k H locs ls hl hP hD hS)
theorem go_ldc2 (C : Cx p s m args meth c D tc A nL cc own) {z : Nat} {v : Int64} (hd : decode cc pc = .ok (.ldc2_w z, 3)) (hw : Jvm.Cond.constantLong own z v ∈ AL) (hn : pc + 3 = n) (k : Go p l e R s m args below meth c Q D A nL kc ks ws lv n (.long v :: st)) : Go p l e R s m args below meth c Q D A nL kc ks ws lv pc st := by
  subst hn
  exact fun H locs ls hl hP hD hS => lv_ldc2 C.1.1 C.1.2 C.2.1.2 (C.2.2.1 _ hw) hd (k H locs ls hl hP hD hS)
theorem go_iload_n (C : Cx p s m args meth c D tc A nL cc own) {z : Fin 4} {i : Nat} {x : Int32} (hd : decode cc pc = .ok (.iload_n z, 1)) (hi : (z : Nat) = i) (j : Nat) (hj : lv[j]? = some (i, .int x)) (hn : pc + 1 = n) (k : Go p l e R s m args below meth c Q D A nL kc ks ws lv n (.int x :: st)) : Go p l e R s m args below meth c Q D A nL kc ks ws lv pc st := by
  subst hn
  exact fun H locs ls hl hP hD hS => lv_iload_n C.1.1 C.1.2 hd hi (lv_at hl j hj) (k H locs ls hl hP hD hS)
theorem go_iload (C : Cx p s m args meth c D tc A nL cc own) {i : Nat} {x : Int32} (hd : decode cc pc = .ok (.iload i, 2)) (j : Nat) (hj : lv[j]? = some (i, .int x)) (hn : pc + 2 = n) (k : Go p l e R s m args below meth c Q D A nL kc ks ws lv n (.int x :: st)) : Go p l e R s m args below meth c Q D A nL kc ks ws lv pc st := by
  subst hn
  exact fun H locs ls hl hP hD hS => lv_iload C.1.1 C.1.2 hd (lv_at hl j hj) (k H locs ls hl hP hD hS)
theorem go_lload_n (C : Cx p s m args meth c D tc A nL cc own) {z : Fin 4} {i : Nat} {x : Int64} (hd : decode cc pc = .ok (.lload_n z, 1)) (hi : (z : Nat) = i) (j : Nat) (hj : lv[j]? = some (i, .long x)) (hn : pc + 1 = n) (k : Go p l e R s m args below meth c Q D A nL kc ks ws lv n (.long x :: st)) : Go p l e R s m args below meth c Q D A nL kc ks ws lv pc st := by
  subst hn
  exact fun H locs ls hl hP hD hS => lv_lload_n C.1.1 C.1.2 hd hi (lv_at hl j hj) (k H locs ls hl hP hD hS)
theorem go_lload (C : Cx p s m args meth c D tc A nL cc own) {i : Nat} {x : Int64} (hd : decode cc pc = .ok (.lload i, 2)) (j : Nat) (hj : lv[j]? = some (i, .long x)) (hn : pc + 2 = n) (k : Go p l e R s m args below meth c Q D A nL kc ks ws lv n (.long x :: st)) : Go p l e R s m args below meth c Q D A nL kc ks ws lv pc st := by
  subst hn
  exact fun H locs ls hl hP hD hS => lv_lload C.1.1 C.1.2 hd (lv_at hl j hj) (k H locs ls hl hP hD hS)
theorem go_aload_n (C : Cx p s m args meth c D tc A nL cc own) {z : Fin 4} {i : Nat} {x : Nat} (hd : decode cc pc = .ok (.aload_n z, 1)) (hi : (z : Nat) = i) (j : Nat) (hj : lv[j]? = some (i, .ref x)) (hn : pc + 1 = n) (k : Go p l e R s m args below meth c Q D A nL kc ks ws lv n (.ref x :: st)) : Go p l e R s m args below meth c Q D A nL kc ks ws lv pc st := by
  subst hn
  exact fun H locs ls hl hP hD hS => lv_aload_n C.1.1 C.1.2 hd hi (lv_at hl j hj) (k H locs ls hl hP hD hS)
theorem go_aload (C : Cx p s m args meth c D tc A nL cc own) {i : Nat} {x : Nat} (hd : decode cc pc = .ok (.aload i, 2)) (j : Nat) (hj : lv[j]? = some (i, .ref x)) (hn : pc + 2 = n) (k : Go p l e R s m args below meth c Q D A nL kc ks ws lv n (.ref x :: st)) : Go p l e R s m args below meth c Q D A nL kc ks ws lv pc st := by
  subst hn
  exact fun H locs ls hl hP hD hS => lv_aload C.1.1 C.1.2 hd (lv_at hl j hj) (k H locs ls hl hP hD hS)
theorem go_aload_nN (C : Cx p s m args meth c D tc A nL cc own) {z : Fin 4} {i : Nat} (hd : decode cc pc = .ok (.aload_n z, 1)) (hi : (z : Nat) = i) (j : Nat) (hj : lv[j]? = some (i, .null)) (hn : pc + 1 = n) (k : Go p l e R s m args below meth c Q D A nL kc ks ws lv n (.null :: st)) : Go p l e R s m args below meth c Q D A nL kc ks ws lv pc st := by
  subst hn
  exact fun H locs ls hl hP hD hS => lv_aload_nN C.1.1 C.1.2 hd hi (lv_at hl j hj) (k H locs ls hl hP hD hS)
theorem go_aloadN (C : Cx p s m args meth c D tc A nL cc own) {i : Nat} (hd : decode cc pc = .ok (.aload i, 2)) (j : Nat) (hj : lv[j]? = some (i, .null)) (hn : pc + 2 = n) (k : Go p l e R s m args below meth c Q D A nL kc ks ws lv n (.null :: st)) : Go p l e R s m args below meth c Q D A nL kc ks ws lv pc st := by
  subst hn
  exact fun H locs ls hl hP hD hS => lv_aloadN C.1.1 C.1.2 hd (lv_at hl j hj) (k H locs ls hl hP hD hS)
theorem go_istore_n (C : Cx p s m args meth c D tc A nL cc own) {z : Fin 4} {i : Nat} {x : Int32} {lv' : List (Nat × Value)} (hd : decode cc pc = .ok (.istore_n z, 1)) (hi : (z : Nat) = i) (hb : i < nL) (hl' : (i, Value.int x) :: lv.filter (fun q => !(q.1 == i) && !(q.1 + 1 == i && q.2.category == 2)) = lv') (hn : pc + 1 = n) (k : Go p l e R s m args below meth c Q D A nL kc ks ws lv' n st) : Go p l e R s m args below meth c Q D A nL kc ks ws lv pc (Value.int x :: st) := by
  subst hn
  exact fun H locs ls hl hP hD hS => lv_istore_n C.1.1 C.1.2 hd hi hl hb hl' (fun ls' hl2 => k H locs ls' hl2 hP hD hS)
theorem go_istore (C : Cx p s m args meth c D tc A nL cc own) {i : Nat} {x : Int32} {lv' : List (Nat × Value)} (hd : decode cc pc = .ok (.istore i, 2)) (hb : i < nL) (hl' : (i, Value.int x) :: lv.filter (fun q => !(q.1 == i) && !(q.1 + 1 == i && q.2.category == 2)) = lv') (hn : pc + 2 = n) (k : Go p l e R s m args below meth c Q D A nL kc ks ws lv' n st) : Go p l e R s m args below meth c Q D A nL kc ks ws lv pc (Value.int x :: st) := by
  subst hn
  exact fun H locs ls hl hP hD hS => lv_istore C.1.1 C.1.2 hd hl hb hl' (fun ls' hl2 => k H locs ls' hl2 hP hD hS)
theorem go_lstore_n (C : Cx p s m args meth c D tc A nL cc own) {z : Fin 4} {i : Nat} {x : Int64} {lv' : List (Nat × Value)} (hd : decode cc pc = .ok (.lstore_n z, 1)) (hi : (z : Nat) = i) (hb : i + 1 < nL) (hl' : (i, Value.long x) :: lv.filter (fun q => !(q.1 == i) && (!(q.1 == i + 1) && !(q.1 + 1 == i && q.2.category == 2))) = lv') (hn : pc + 1 = n) (k : Go p l e R s m args below meth c Q D A nL kc ks ws lv' n st) : Go p l e R s m args below meth c Q D A nL kc ks ws lv pc (Value.long x :: st) := by
  subst hn
  exact fun H locs ls hl hP hD hS => lv_lstore_n C.1.1 C.1.2 hd hi hl hb hl' (fun ls' hl2 => k H locs ls' hl2 hP hD hS)
theorem go_lstore (C : Cx p s m args meth c D tc A nL cc own) {i : Nat} {x : Int64} {lv' : List (Nat × Value)} (hd : decode cc pc = .ok (.lstore i, 2)) (hb : i + 1 < nL) (hl' : (i, Value.long x) :: lv.filter (fun q => !(q.1 == i) && (!(q.1 == i + 1) && !(q.1 + 1 == i && q.2.category == 2))) = lv') (hn : pc + 2 = n) (k : Go p l e R s m args below meth c Q D A nL kc ks ws lv' n st) : Go p l e R s m args below meth c Q D A nL kc ks ws lv pc (Value.long x :: st) := by
  subst hn
  exact fun H locs ls hl hP hD hS => lv_lstore C.1.1 C.1.2 hd hl hb hl' (fun ls' hl2 => k H locs ls' hl2 hP hD hS)
theorem go_astore_n (C : Cx p s m args meth c D tc A nL cc own) {z : Fin 4} {i : Nat} {x : Nat} {lv' : List (Nat × Value)} (hd : decode cc pc = .ok (.astore_n z, 1)) (hi : (z : Nat) = i) (hb : i < nL) (hl' : (i, Value.ref x) :: lv.filter (fun q => !(q.1 == i) && !(q.1 + 1 == i && q.2.category == 2)) = lv') (hn : pc + 1 = n) (k : Go p l e R s m args below meth c Q D A nL kc ks ws lv' n st) : Go p l e R s m args below meth c Q D A nL kc ks ws lv pc (Value.ref x :: st) := by
  subst hn
  exact fun H locs ls hl hP hD hS => lv_astore_n C.1.1 C.1.2 hd hi hl hb hl' (fun ls' hl2 => k H locs ls' hl2 hP hD hS)
theorem go_astore (C : Cx p s m args meth c D tc A nL cc own) {i : Nat} {x : Nat} {lv' : List (Nat × Value)} (hd : decode cc pc = .ok (.astore i, 2)) (hb : i < nL) (hl' : (i, Value.ref x) :: lv.filter (fun q => !(q.1 == i) && !(q.1 + 1 == i && q.2.category == 2)) = lv') (hn : pc + 2 = n) (k : Go p l e R s m args below meth c Q D A nL kc ks ws lv' n st) : Go p l e R s m args below meth c Q D A nL kc ks ws lv pc (Value.ref x :: st) := by
  subst hn
  exact fun H locs ls hl hP hD hS => lv_astore C.1.1 C.1.2 hd hl hb hl' (fun ls' hl2 => k H locs ls' hl2 hP hD hS)
theorem go_astore_nN (C : Cx p s m args meth c D tc A nL cc own) {z : Fin 4} {i : Nat} {lv' : List (Nat × Value)} (hd : decode cc pc = .ok (.astore_n z, 1)) (hi : (z : Nat) = i) (hb : i < nL) (hl' : (i, Value.null) :: lv.filter (fun q => !(q.1 == i) && !(q.1 + 1 == i && q.2.category == 2)) = lv') (hn : pc + 1 = n) (k : Go p l e R s m args below meth c Q D A nL kc ks ws lv' n st) : Go p l e R s m args below meth c Q D A nL kc ks ws lv pc (Value.null :: st) := by
  subst hn
  exact fun H locs ls hl hP hD hS => lv_astore_nN C.1.1 C.1.2 hd hi hl hb hl' (fun ls' hl2 => k H locs ls' hl2 hP hD hS)
theorem go_astoreN (C : Cx p s m args meth c D tc A nL cc own) {i : Nat} {lv' : List (Nat × Value)} (hd : decode cc pc = .ok (.astore i, 2)) (hb : i < nL) (hl' : (i, Value.null) :: lv.filter (fun q => !(q.1 == i) && !(q.1 + 1 == i && q.2.category == 2)) = lv') (hn : pc + 2 = n) (k : Go p l e R s m args below meth c Q D A nL kc ks ws lv' n st) : Go p l e R s m args below meth c Q D A nL kc ks ws lv pc (Value.null :: st) := by
  subst hn
  exact fun H locs ls hl hP hD hS => lv_astoreN C.1.1 C.1.2 hd hl hb hl' (fun ls' hl2 => k H locs ls' hl2 hP hD hS)
theorem go_iinc (C : Cx p s m args meth c D tc A nL cc own) {i : Nat} {z : Int} {x v : Int32} {lv' : List (Nat × Value)} (hd : decode cc pc = .ok (.iinc i z, 3)) (j : Nat) (hj : lv[j]? = some (i, .int x)) (hv : x + Int32.ofInt z = v) (hb : i < nL) (hl' : (i, Value.int v) :: lv.filter (fun q => !(q.1 == i) && !(q.1 + 1 == i && q.2.category == 2)) = lv') (hn : pc + 3 = n) (k : Go p l e R s m args below meth c Q D A nL kc ks ws lv' n st) : Go p l e R s m args below meth c Q D A nL kc ks ws lv pc st := by
  subst hn
  exact fun H locs ls hl hP hD hS => lv_iinc C.1.1 C.1.2 hd hl hj hv hb hl' (fun ls' hl2 => k H locs ls' hl2 hP hD hS)
theorem go_iadd (C : Cx p s m args meth c D tc A nL cc own) {x y : Int32} (hd : decode cc pc = .ok (.iadd, 1)) (hn : pc + 1 = n) (k : Go p l e R s m args below meth c Q D A nL kc ks ws lv n (.int (x + y) :: st)) : Go p l e R s m args below meth c Q D A nL kc ks ws lv pc (.int y :: .int x :: st) := by
  subst hn
  exact fun H locs ls hl hP hD hS => lv_iadd C.1.1 C.1.2 hd (k H locs ls hl hP hD hS)
theorem go_isub (C : Cx p s m args meth c D tc A nL cc own) {x y : Int32} (hd : decode cc pc = .ok (.isub, 1)) (hn : pc + 1 = n) (k : Go p l e R s m args below meth c Q D A nL kc ks ws lv n (.int (x - y) :: st)) : Go p l e R s m args below meth c Q D A nL kc ks ws lv pc (.int y :: .int x :: st) := by
  subst hn
  exact fun H locs ls hl hP hD hS => lv_isub C.1.1 C.1.2 hd (k H locs ls hl hP hD hS)
theorem go_imul (C : Cx p s m args meth c D tc A nL cc own) {x y : Int32} (hd : decode cc pc = .ok (.imul, 1)) (hn : pc + 1 = n) (k : Go p l e R s m args below meth c Q D A nL kc ks ws lv n (.int (x * y) :: st)) : Go p l e R s m args below meth c Q D A nL kc ks ws lv pc (.int y :: .int x :: st) := by
  subst hn
  exact fun H locs ls hl hP hD hS => lv_imul C.1.1 C.1.2 hd (k H locs ls hl hP hD hS)
theorem go_iand (C : Cx p s m args meth c D tc A nL cc own) {x y : Int32} (hd : decode cc pc = .ok (.iand, 1)) (hn : pc + 1 = n) (k : Go p l e R s m args below meth c Q D A nL kc ks ws lv n (.int (x &&& y) :: st)) : Go p l e R s m args below meth c Q D A nL kc ks ws lv pc (.int y :: .int x :: st) := by
  subst hn
  exact fun H locs ls hl hP hD hS => lv_iand C.1.1 C.1.2 hd (k H locs ls hl hP hD hS)
theorem go_ior (C : Cx p s m args meth c D tc A nL cc own) {x y : Int32} (hd : decode cc pc = .ok (.ior, 1)) (hn : pc + 1 = n) (k : Go p l e R s m args below meth c Q D A nL kc ks ws lv n (.int (x ||| y) :: st)) : Go p l e R s m args below meth c Q D A nL kc ks ws lv pc (.int y :: .int x :: st) := by
  subst hn
  exact fun H locs ls hl hP hD hS => lv_ior C.1.1 C.1.2 hd (k H locs ls hl hP hD hS)
theorem go_ladd (C : Cx p s m args meth c D tc A nL cc own) {x y : Int64} (hd : decode cc pc = .ok (.ladd, 1)) (hn : pc + 1 = n) (k : Go p l e R s m args below meth c Q D A nL kc ks ws lv n (.long (x + y) :: st)) : Go p l e R s m args below meth c Q D A nL kc ks ws lv pc (.long y :: .long x :: st) := by
  subst hn
  exact fun H locs ls hl hP hD hS => lv_ladd C.1.1 C.1.2 hd (k H locs ls hl hP hD hS)
theorem go_lsub (C : Cx p s m args meth c D tc A nL cc own) {x y : Int64} (hd : decode cc pc = .ok (.lsub, 1)) (hn : pc + 1 = n) (k : Go p l e R s m args below meth c Q D A nL kc ks ws lv n (.long (x - y) :: st)) : Go p l e R s m args below meth c Q D A nL kc ks ws lv pc (.long y :: .long x :: st) := by
  subst hn
  exact fun H locs ls hl hP hD hS => lv_lsub C.1.1 C.1.2 hd (k H locs ls hl hP hD hS)
theorem go_lmul (C : Cx p s m args meth c D tc A nL cc own) {x y : Int64} (hd : decode cc pc = .ok (.lmul, 1)) (hn : pc + 1 = n) (k : Go p l e R s m args below meth c Q D A nL kc ks ws lv n (.long (x * y) :: st)) : Go p l e R s m args below meth c Q D A nL kc ks ws lv pc (.long y :: .long x :: st) := by
  subst hn
  exact fun H locs ls hl hP hD hS => lv_lmul C.1.1 C.1.2 hd (k H locs ls hl hP hD hS)
theorem go_land (C : Cx p s m args meth c D tc A nL cc own) {x y : Int64} (hd : decode cc pc = .ok (.land, 1)) (hn : pc + 1 = n) (k : Go p l e R s m args below meth c Q D A nL kc ks ws lv n (.long (x &&& y) :: st)) : Go p l e R s m args below meth c Q D A nL kc ks ws lv pc (.long y :: .long x :: st) := by
  subst hn
  exact fun H locs ls hl hP hD hS => lv_land C.1.1 C.1.2 hd (k H locs ls hl hP hD hS)
theorem go_lor (C : Cx p s m args meth c D tc A nL cc own) {x y : Int64} (hd : decode cc pc = .ok (.lor, 1)) (hn : pc + 1 = n) (k : Go p l e R s m args below meth c Q D A nL kc ks ws lv n (.long (x ||| y) :: st)) : Go p l e R s m args below meth c Q D A nL kc ks ws lv pc (.long y :: .long x :: st) := by
  subst hn
  exact fun H locs ls hl hP hD hS => lv_lor C.1.1 C.1.2 hd (k H locs ls hl hP hD hS)
theorem go_lcmp (C : Cx p s m args meth c D tc A nL cc own) {x y : Int64} (hd : decode cc pc = .ok (.lcmp, 1)) (hn : pc + 1 = n) (k : Go p l e R s m args below meth c Q D A nL kc ks ws lv n (.int (lg_cmp x y) :: st)) : Go p l e R s m args below meth c Q D A nL kc ks ws lv pc (.long y :: .long x :: st) := by
  subst hn
  exact fun H locs ls hl hP hD hS => W.lcmp C.1.1 C.1.2 hd (k H locs ls hl hP hD hS)
theorem go_lushr (C : Cx p s m args meth c D tc A nL cc own) {x : Int64} {y : Int32} (hd : decode cc pc = .ok (.lushr, 1)) (hn : pc + 1 = n) (k : Go p l e R s m args below meth c Q D A nL kc ks ws lv n (.long ((x.toUInt64 >>> (y.toInt64.toUInt64 &&& Int64.toUInt64 63)).toInt64) :: st)) : Go p l e R s m args below meth c Q D A nL kc ks ws lv pc (.int y :: .long x :: st) := by
  subst hn
  exact fun H locs ls hl hP hD hS => lv_lushr C.1.1 C.1.2 hd rfl (k H locs ls hl hP hD hS)
theorem go_lshl (C : Cx p s m args meth c D tc A nL cc own) {x : Int64} {y : Int32} (hd : decode cc pc = .ok (.lshl, 1)) (hn : pc + 1 = n) (k : Go p l e R s m args below meth c Q D A nL kc ks ws lv n (.long (x <<< (y.toInt64 &&& 63)) :: st)) : Go p l e R s m args below meth c Q D A nL kc ks ws lv pc (.int y :: .long x :: st) := by
  subst hn
  exact fun H locs ls hl hP hD hS => lv_lshl C.1.1 C.1.2 hd rfl (k H locs ls hl hP hD hS)
theorem go_lshr (C : Cx p s m args meth c D tc A nL cc own) {x : Int64} {y : Int32} (hd : decode cc pc = .ok (.lshr, 1)) (hn : pc + 1 = n) (k : Go p l e R s m args below meth c Q D A nL kc ks ws lv n (.long (x >>> (y.toInt64 &&& 63)) :: st)) : Go p l e R s m args below meth c Q D A nL kc ks ws lv pc (.int y :: .long x :: st) := by
  subst hn
  exact fun H locs ls hl hP hD hS => lv_lshr C.1.1 C.1.2 hd rfl (k H locs ls hl hP hD hS)
theorem go_i2l (C : Cx p s m args meth c D tc A nL cc own) {x : Int32} (hd : decode cc pc = .ok (.i2l, 1)) (hn : pc + 1 = n) (k : Go p l e R s m args below meth c Q D A nL kc ks ws lv n (.long x.toInt64 :: st)) : Go p l e R s m args below meth c Q D A nL kc ks ws lv pc (.int x :: st) := by
  subst hn
  exact fun H locs ls hl hP hD hS => lv_i2l C.1.1 C.1.2 hd rfl (k H locs ls hl hP hD hS)
theorem go_l2i (C : Cx p s m args meth c D tc A nL cc own) {x : Int64} (hd : decode cc pc = .ok (.l2i, 1)) (hn : pc + 1 = n) (k : Go p l e R s m args below meth c Q D A nL kc ks ws lv n (.int x.toInt32 :: st)) : Go p l e R s m args below meth c Q D A nL kc ks ws lv pc (.long x :: st) := by
  subst hn
  exact fun H locs ls hl hP hD hS => lv_l2i C.1.1 C.1.2 hd rfl (k H locs ls hl hP hD hS)
theorem go_dup (C : Cx p s m args meth c D tc A nL cc own) {va : Value} (hd : decode cc pc = .ok (.dup, 1)) (h1 : va.category = 1) (hn : pc + 1 = n) (k : Go p l e R s m args below meth c Q D A nL kc ks ws lv n (va :: va :: st)) : Go p l e R s m args below meth c Q D A nL kc ks ws lv pc (va :: st) := by
  subst hn
  exact fun H locs ls hl hP hD hS => lv_dup C.1.1 C.1.2 hd h1 (k H locs ls hl hP hD hS)
theorem go_pop (C : Cx p s m args meth c D tc A nL cc own) {va : Value} (hd : decode cc pc = .ok (.pop, 1)) (h1 : va.category = 1) (hn : pc + 1 = n) (k : Go p l e R s m args below meth c Q D A nL kc ks ws lv n st) : Go p l e R s m args below meth c Q D A nL kc ks ws lv pc (va :: st) := by
  subst hn
  exact fun H locs ls hl hP hD hS => lv_pop C.1.1 C.1.2 hd h1 (k H locs ls hl hP hD hS)
theorem go_dup_x1 (C : Cx p s m args meth c D tc A nL cc own) {va vb : Value} (hd : decode cc pc = .ok (.dup_x1, 1)) (h1 : va.category = 1) (h2 : vb.category = 1) (hn : pc + 1 = n) (k : Go p l e R s m args below meth c Q D A nL kc ks ws lv n (va :: vb :: va :: st)) : Go p l e R s m args below meth c Q D A nL kc ks ws lv pc (va :: vb :: st) := by
  subst hn
  exact fun H locs ls hl hP hD hS => lv_dup_x1 C.1.1 C.1.2 hd h1 h2 (k H locs ls hl hP hD hS)
theorem go_dup_x2 (C : Cx p s m args meth c D tc A nL cc own) {va vb vd : Value} (hd : decode cc pc = .ok (.dup_x2, 1)) (h1 : va.category = 1) (h2 : vb.category = 1) (h3 : vd.category = 1) (hn : pc + 1 = n) (k : Go p l e R s m args below meth c Q D A nL kc ks ws lv n (va :: vb :: vd :: va :: st)) : Go p l e R s m args below meth c Q D A nL kc ks ws lv pc (va :: vb :: vd :: st) := by
  subst hn
  exact fun H locs ls hl hP hD hS => lv_dup_x2 C.1.1 C.1.2 hd h1 h2 h3 (k H locs ls hl hP hD hS)
theorem go_dup2_11 (C : Cx p s m args meth c D tc A nL cc own) {va vb : Value} (hd : decode cc pc = .ok (.dup2, 1)) (h1 : va.category = 1) (h2 : vb.category = 1) (hn : pc + 1 = n) (k : Go p l e R s m args below meth c Q D A nL kc ks ws lv n (va :: vb :: va :: vb :: st)) : Go p l e R s m args below meth c Q D A nL kc ks ws lv pc (va :: vb :: st) := by
  subst hn
  exact fun H locs ls hl hP hD hS => lv_dup2_11 C.1.1 C.1.2 hd h1 h2 (k H locs ls hl hP hD hS)
theorem go_dup2_2 (C : Cx p s m args meth c D tc A nL cc own) {va : Value} (hd : decode cc pc = .ok (.dup2, 1)) (h1 : va.category = 2) (hn : pc + 1 = n) (k : Go p l e R s m args below meth c Q D A nL kc ks ws lv n (va :: va :: st)) : Go p l e R s m args below meth c Q D A nL kc ks ws lv pc (va :: st) := by
  subst hn
  exact fun H locs ls hl hP hD hS => lv_dup2_2 C.1.1 C.1.2 hd h1 (k H locs ls hl hP hD hS)
theorem go_if_eq (C : Cx p s m args meth c D tc A nL cc own) {x : Int32} {off : Int} {tgt : Nat} (hd : decode cc pc = .ok (.ifCond .eq off, 3)) (ht : (pc : Int) + off = (tgt : Int)) (hn : pc + 3 = n) (kt : (x = 0) → Go p l e R s m args below meth c Q D A nL kc ks ws lv tgt st) (kf : ¬ (x = 0) → Go p l e R s m args below meth c Q D A nL kc ks ws lv n st) : Go p l e R s m args below meth c Q D A nL kc ks ws lv pc (.int x :: st) := by
  subst hn
  exact fun H locs ls hl hP hD hS => lv_if_eq C.1.1 C.1.2 hd ht (fun h => kt h H locs ls hl hP hD hS) (fun h => kf h H locs ls hl hP hD hS)
theorem go_icmp_eq (C : Cx p s m args meth c D tc A nL cc own) {x y : Int32} {off : Int} {tgt : Nat} (hd : decode cc pc = .ok (.if_icmp .eq off, 3)) (ht : (pc : Int) + off = (tgt : Int)) (hn : pc + 3 = n) (kt : (x = y) → Go p l e R s m args below meth c Q D A nL kc ks ws lv tgt st) (kf : ¬ (x = y) → Go p l e R s m args below meth c Q D A nL kc ks ws lv n st) : Go p l e R s m args below meth c Q D A nL kc ks ws lv pc (.int y :: .int x :: st) := by
  subst hn
  exact fun H locs ls hl hP hD hS => lv_icmp_eq C.1.1 C.1.2 hd ht (fun h => kt h H locs ls hl hP hD hS) (fun h => kf h H locs ls hl hP hD hS)
theorem go_if_lt (C : Cx p s m args meth c D tc A nL cc own) {x : Int32} {off : Int} {tgt : Nat} (hd : decode cc pc = .ok (.ifCond .lt off, 3)) (ht : (pc : Int) + off = (tgt : Int)) (hn : pc + 3 = n) (kt : (x < 0) → Go p l e R s m args below meth c Q D A nL kc ks ws lv tgt st) (kf : ¬ (x < 0) → Go p l e R s m args below meth c Q D A nL kc ks ws lv n st) : Go p l e R s m args below meth c Q D A nL kc ks ws lv pc (.int x :: st) := by
  subst hn
  exact fun H locs ls hl hP hD hS => lv_if_lt C.1.1 C.1.2 hd ht (fun h => kt h H locs ls hl hP hD hS) (fun h => kf h H locs ls hl hP hD hS)
theorem go_icmp_lt (C : Cx p s m args meth c D tc A nL cc own) {x y : Int32} {off : Int} {tgt : Nat} (hd : decode cc pc = .ok (.if_icmp .lt off, 3)) (ht : (pc : Int) + off = (tgt : Int)) (hn : pc + 3 = n) (kt : (x < y) → Go p l e R s m args below meth c Q D A nL kc ks ws lv tgt st) (kf : ¬ (x < y) → Go p l e R s m args below meth c Q D A nL kc ks ws lv n st) : Go p l e R s m args below meth c Q D A nL kc ks ws lv pc (.int y :: .int x :: st) := by
  subst hn
  exact fun H locs ls hl hP hD hS => lv_icmp_lt C.1.1 C.1.2 hd ht (fun h => kt h H locs ls hl hP hD hS) (fun h => kf h H locs ls hl hP hD hS)
theorem go_if_ge (C : Cx p s m args meth c D tc A nL cc own) {x : Int32} {off : Int} {tgt : Nat} (hd : decode cc pc = .ok (.ifCond .ge off, 3)) (ht : (pc : Int) + off = (tgt : Int)) (hn : pc + 3 = n) (kt : (0 ≤ x) → Go p l e R s m args below meth c Q D A nL kc ks ws lv tgt st) (kf : ¬ (0 ≤ x) → Go p l e R s m args below meth c Q D A nL kc ks ws lv n st) : Go p l e R s m args below meth c Q D A nL kc ks ws lv pc (.int x :: st) := by
  subst hn
  exact fun H locs ls hl hP hD hS => lv_if_ge C.1.1 C.1.2 hd ht (fun h => kt h H locs ls hl hP hD hS) (fun h => kf h H locs ls hl hP hD hS)
theorem go_icmp_ge (C : Cx p s m args meth c D tc A nL cc own) {x y : Int32} {off : Int} {tgt : Nat} (hd : decode cc pc = .ok (.if_icmp .ge off, 3)) (ht : (pc : Int) + off = (tgt : Int)) (hn : pc + 3 = n) (kt : (y ≤ x) → Go p l e R s m args below meth c Q D A nL kc ks ws lv tgt st) (kf : ¬ (y ≤ x) → Go p l e R s m args below meth c Q D A nL kc ks ws lv n st) : Go p l e R s m args below meth c Q D A nL kc ks ws lv pc (.int y :: .int x :: st) := by
  subst hn
  exact fun H locs ls hl hP hD hS => lv_icmp_ge C.1.1 C.1.2 hd ht (fun h => kt h H locs ls hl hP hD hS) (fun h => kf h H locs ls hl hP hD hS)
theorem go_if_gt (C : Cx p s m args meth c D tc A nL cc own) {x : Int32} {off : Int} {tgt : Nat} (hd : decode cc pc = .ok (.ifCond .gt off, 3)) (ht : (pc : Int) + off = (tgt : Int)) (hn : pc + 3 = n) (kt : (0 < x) → Go p l e R s m args below meth c Q D A nL kc ks ws lv tgt st) (kf : ¬ (0 < x) → Go p l e R s m args below meth c Q D A nL kc ks ws lv n st) : Go p l e R s m args below meth c Q D A nL kc ks ws lv pc (.int x :: st) := by
  subst hn
  exact fun H locs ls hl hP hD hS => lv_if_gt C.1.1 C.1.2 hd ht (fun h => kt h H locs ls hl hP hD hS) (fun h => kf h H locs ls hl hP hD hS)
theorem go_icmp_gt (C : Cx p s m args meth c D tc A nL cc own) {x y : Int32} {off : Int} {tgt : Nat} (hd : decode cc pc = .ok (.if_icmp .gt off, 3)) (ht : (pc : Int) + off = (tgt : Int)) (hn : pc + 3 = n) (kt : (y < x) → Go p l e R s m args below meth c Q D A nL kc ks ws lv tgt st) (kf : ¬ (y < x) → Go p l e R s m args below meth c Q D A nL kc ks ws lv n st) : Go p l e R s m args below meth c Q D A nL kc ks ws lv pc (.int y :: .int x :: st) := by
  subst hn
  exact fun H locs ls hl hP hD hS => lv_icmp_gt C.1.1 C.1.2 hd ht (fun h => kt h H locs ls hl hP hD hS) (fun h => kf h H locs ls hl hP hD hS)
theorem go_if_le (C : Cx p s m args meth c D tc A nL cc own) {x : Int32} {off : Int} {tgt : Nat} (hd : decode cc pc = .ok (.ifCond .le off, 3)) (ht : (pc : Int) + off = (tgt : Int)) (hn : pc + 3 = n) (kt : (x ≤ 0) → Go p l e R s m args below meth c Q D A nL kc ks ws lv tgt st) (kf : ¬ (x ≤ 0) → Go p l e R s m args below meth c Q D A nL kc ks ws lv n st) : Go p l e R s m args below meth c Q D A nL kc ks ws lv pc (.int x :: st) := by
  subst hn
  exact fun H locs ls hl hP hD hS => lv_if_le C.1.1 C.1.2 hd ht (fun h => kt h H locs ls hl hP hD hS) (fun h => kf h H locs ls hl hP hD hS)
theorem go_icmp_le (C : Cx p s m args meth c D tc A nL cc own) {x y : Int32} {off : Int} {tgt : Nat} (hd : decode cc pc = .ok (.if_icmp .le off, 3)) (ht : (pc : Int) + off = (tgt : Int)) (hn : pc + 3 = n) (kt : (x ≤ y) → Go p l e R s m args below meth c Q D A nL kc ks ws lv tgt st) (kf : ¬ (x ≤ y) → Go p l e R s m args below meth c Q D A nL kc ks ws lv n st) : Go p l e R s m args below meth c Q D A nL kc ks ws lv pc (.int y :: .int x :: st) := by
  subst hn
  exact fun H locs ls hl hP hD hS => lv_icmp_le C.1.1 C.1.2 hd ht (fun h => kt h H locs ls hl hP hD hS) (fun h => kf h H locs ls hl hP hD hS)
theorem go_if_ne (C : Cx p s m args meth c D tc A nL cc own) {x : Int32} {off : Int} {tgt : Nat} (hd : decode cc pc = .ok (.ifCond .ne off, 3)) (ht : (pc : Int) + off = (tgt : Int)) (hn : pc + 3 = n) (kt : ¬ (x = 0) → Go p l e R s m args below meth c Q D A nL kc ks ws lv tgt st) (kf : (x = 0) → Go p l e R s m args below meth c Q D A nL kc ks ws lv n st) : Go p l e R s m args below meth c Q D A nL kc ks ws lv pc (.int x :: st) := by
  subst hn
  exact fun H locs ls hl hP hD hS => lv_if_ne C.1.1 C.1.2 hd ht (fun h => kt h H locs ls hl hP hD hS) (fun h => kf h H locs ls hl hP hD hS)
theorem go_icmp_ne (C : Cx p s m args meth c D tc A nL cc own) {x y : Int32} {off : Int} {tgt : Nat} (hd : decode cc pc = .ok (.if_icmp .ne off, 3)) (ht : (pc : Int) + off = (tgt : Int)) (hn : pc + 3 = n) (kt : ¬ (x = y) → Go p l e R s m args below meth c Q D A nL kc ks ws lv tgt st) (kf : (x = y) → Go p l e R s m args below meth c Q D A nL kc ks ws lv n st) : Go p l e R s m args below meth c Q D A nL kc ks ws lv pc (.int y :: .int x :: st) := by
  subst hn
  exact fun H locs ls hl hP hD hS => lv_icmp_ne C.1.1 C.1.2 hd ht (fun h => kt h H locs ls hl hP hD hS) (fun h => kf h H locs ls hl hP hD hS)
theorem go_lcmp_eq (C : Cx p s m args meth c D tc A nL cc own) {x y : Int64} {off : Int} {tgt n1 : Nat} (h0 : decode cc pc = .ok (.lcmp, 1)) (hn1 : pc + 1 = n1) (hd : decode cc n1 = .ok (.ifCond .eq off, 3)) (ht : (n1 : Int) + off = (tgt : Int)) (hn : n1 + 3 = n) (kt : x = y → Go p l e R s m args below meth c Q D A nL kc ks ws lv tgt st) (kf : ¬ (x = y) → Go p l e R s m args below meth c Q D A nL kc ks ws lv n st) : Go p l e R s m args below meth c Q D A nL kc ks ws lv pc (.long y :: .long x :: st) := go_lcmp C h0 hn1 (go_if_eq C hd ht hn (fun h => kt (lg_eq0.mp h)) (fun h => kf (fun q => h (lg_eq0.mpr q))))
theorem go_lcmp_lt (C : Cx p s m args meth c D tc A nL cc own) {x y : Int64} {off : Int} {tgt n1 : Nat} (h0 : decode cc pc = .ok (.lcmp, 1)) (hn1 : pc + 1 = n1) (hd : decode cc n1 = .ok (.ifCond .lt off, 3)) (ht : (n1 : Int) + off = (tgt : Int)) (hn : n1 + 3 = n) (kt : x < y → Go p l e R s m args below meth c Q D A nL kc ks ws lv tgt st) (kf : ¬ (x < y) → Go p l e R s m args below meth c Q D A nL kc ks ws lv n st) : Go p l e R s m args below meth c Q D A nL kc ks ws lv pc (.long y :: .long x :: st) := go_lcmp C h0 hn1 (go_if_lt C hd ht hn (fun h => kt (lg_lt0.mp h)) (fun h => kf (fun q => h (lg_lt0.mpr q))))
theorem go_lcmp_ge (C : Cx p s m args meth c D tc A nL cc own) {x y : Int64} {off : Int} {tgt n1 : Nat} (h0 : decode cc pc = .ok (.lcmp, 1)) (hn1 : pc + 1 = n1) (hd : decode cc n1 = .ok (.ifCond .ge off, 3)) (ht : (n1 : Int) + off = (tgt : Int)) (hn : n1 + 3 = n) (kt : y ≤ x → Go p l e R s m args below meth c Q D A nL kc ks ws lv tgt st) (kf : ¬ (y ≤ x) → Go p l e R s m args below meth c Q D A nL kc ks ws lv n st) : Go p l e R s m args below meth c Q D A nL kc ks ws lv pc (.long y :: .long x :: st) := go_lcmp C h0 hn1 (go_if_ge C hd ht hn (fun h => kt (lg_ge0.mp h)) (fun h => kf (fun q => h (lg_ge0.mpr q))))
theorem go_lcmp_gt (C : Cx p s m args meth c D tc A nL cc own) {x y : Int64} {off : Int} {tgt n1 : Nat} (h0 : decode cc pc = .ok (.lcmp, 1)) (hn1 : pc + 1 = n1) (hd : decode cc n1 = .ok (.ifCond .gt off, 3)) (ht : (n1 : Int) + off = (tgt : Int)) (hn : n1 + 3 = n) (kt : y < x → Go p l e R s m args below meth c Q D A nL kc ks ws lv tgt st) (kf : ¬ (y < x) → Go p l e R s m args below meth c Q D A nL kc ks ws lv n st) : Go p l e R s m args below meth c Q D A nL kc ks ws lv pc (.long y :: .long x :: st) := go_lcmp C h0 hn1 (go_if_gt C hd ht hn (fun h => kt (lg_gt0.mp h)) (fun h => kf (fun q => h (lg_gt0.mpr q))))
theorem go_lcmp_le (C : Cx p s m args meth c D tc A nL cc own) {x y : Int64} {off : Int} {tgt n1 : Nat} (h0 : decode cc pc = .ok (.lcmp, 1)) (hn1 : pc + 1 = n1) (hd : decode cc n1 = .ok (.ifCond .le off, 3)) (ht : (n1 : Int) + off = (tgt : Int)) (hn : n1 + 3 = n) (kt : x ≤ y → Go p l e R s m args below meth c Q D A nL kc ks ws lv tgt st) (kf : ¬ (x ≤ y) → Go p l e R s m args below meth c Q D A nL kc ks ws lv n st) : Go p l e R s m args below meth c Q D A nL kc ks ws lv pc (.long y :: .long x :: st) := go_lcmp C h0 hn1 (go_if_le C hd ht hn (fun h => kt (lg_le0.mp h)) (fun h => kf (fun q => h (lg_le0.mpr q))))
theorem go_lcmp_ne (C : Cx p s m args meth c D tc A nL cc own) {x y : Int64} {off : Int} {tgt n1 : Nat} (h0 : decode cc pc = .ok (.lcmp, 1)) (hn1 : pc + 1 = n1) (hd : decode cc n1 = .ok (.ifCond .ne off, 3)) (ht : (n1 : Int) + off = (tgt : Int)) (hn : n1 + 3 = n) (kt : ¬ (x = y) → Go p l e R s m args below meth c Q D A nL kc ks ws lv tgt st) (kf : x = y → Go p l e R s m args below meth c Q D A nL kc ks ws lv n st) : Go p l e R s m args below meth c Q D A nL kc ks ws lv pc (.long y :: .long x :: st) := go_lcmp C h0 hn1 (go_if_ne C hd ht hn (fun h => kt (fun q => h (lg_eq0.mpr q))) (fun h => kf (lg_eq0.mp h)))
theorem go_goto (C : Cx p s m args meth c D tc A nL cc own) {off : Int} {tgt : Nat} (hd : decode cc pc = .ok (.goto off, 3)) (ht : (pc : Int) + off = (tgt : Int)) (k : Go p l e R s m args below meth c Q D A nL kc ks ws lv tgt st) : Go p l e R s m args below meth c Q D A nL kc ks ws lv pc st := fun H locs ls hl hP hD hS => lv_goto C.1.1 C.1.2 hd ht (k H locs ls hl hP hD hS)
theorem go_ifnonnull (C : Cx p s m args meth c D tc A nL cc own) {x : Nat} {off : Int} {tgt : Nat} (hd : decode cc pc = .ok (.ifnonnull off, 3)) (ht : (pc : Int) + off = (tgt : Int)) (k : Go p l e R s m args below meth c Q D A nL kc ks ws lv tgt st) : Go p l e R s m args below meth c Q D A nL kc ks ws lv pc (.ref x :: st) := fun H locs ls hl hP hD hS => lv_ifnonnull C.1.1 C.1.2 hd ht (k H locs ls hl hP hD hS)
theorem go_ifnullN (C : Cx p s m args meth c D tc A nL cc own) {off : Int} {tgt : Nat} (hd : decode cc pc = .ok (.ifnull off, 3)) (ht : (pc : Int) + off = (tgt : Int)) (k : Go p l e R s m args below meth c Q D A nL kc ks ws lv tgt st) : Go p l e R s m args below meth c Q D A nL kc ks ws lv pc (.null :: st) := fun H locs ls hl hP hD hS => lv_ifnullN C.1.1 C.1.2 hd ht (k H locs ls hl hP hD hS)
theorem go_ifnull (C : Cx p s m args meth c D tc A nL cc own) {x : Nat} {off : Int} (hd : decode cc pc = .ok (.ifnull off, 3)) (hn : pc + 3 = n) (k : Go p l e R s m args below meth c Q D A nL kc ks ws lv n st) : Go p l e R s m args below meth c Q D A nL kc ks ws lv pc (.ref x :: st) := by
  subst hn
  exact fun H locs ls hl hP hD hS => lv_ifnull C.1.1 C.1.2 hd (k H locs ls hl hP hD hS)
theorem go_ifnonnullN (C : Cx p s m args meth c D tc A nL cc own) {off : Int} (hd : decode cc pc = .ok (.ifnonnull off, 3)) (hn : pc + 3 = n) (k : Go p l e R s m args below meth c Q D A nL kc ks ws lv n st) : Go p l e R s m args below meth c Q D A nL kc ks ws lv pc (.null :: st) := by
  subst hn
  exact fun H locs ls hl hP hD hS => lv_ifnonnullN C.1.1 C.1.2 hd (k H locs ls hl hP hD hS)
theorem go_tableOut (C : Cx p s m args meth c D tc A nL cc own) {dflt lo hi : Int} {offs : Array Int} {len : Nat} {x : Int32} {tgt : Nat} (hd : decode cc pc = .ok (.tableswitch dflt lo hi offs, len)) (h : x.toInt < lo ∨ hi < x.toInt) (ht : (pc : Int) + dflt = (tgt : Int)) (k : Go p l e R s m args below meth c Q D A nL kc ks ws lv tgt st) : Go p l e R s m args below meth c Q D A nL kc ks ws lv pc (.int x :: st) := fun H locs ls hl hP hD hS => lv_tableOut C.1.1 C.1.2 hd h ht (k H locs ls hl hP hD hS)
theorem go_tableIn (C : Cx p s m args meth c D tc A nL cc own) {dflt lo hi : Int} {offs : Array Int} {len : Nat} {x : Int32} {off : Int} {tgt : Nat} (hd : decode cc pc = .ok (.tableswitch dflt lo hi offs, len)) (h1 : ¬ x.toInt < lo) (h2 : ¬ hi < x.toInt) (ho : offs[(x.toInt - lo).toNat]? = some off) (ht : (pc : Int) + off = (tgt : Int)) (k : Go p l e R s m args below meth c Q D A nL kc ks ws lv tgt st) : Go p l e R s m args below meth c Q D A nL kc ks ws lv pc (.int x :: st) := fun H locs ls hl hP hD hS => lv_tableIn C.1.1 C.1.2 hd h1 h2 ho ht (k H locs ls hl hP hD hS)
theorem go_lv {lv' : List (Nat × Value)} (ks' : List Nat) (h : lv_pick lv ks' = lv') (k : Go p l e R s m args below meth c Q D A nL kc ks ws lv' pc st) : Go p l e R s m args below meth c Q D A nL kc ks ws lv pc st := fun H locs ls hl hP hD hS => k H locs ls (lv_sub hl ks' h) hP hD hS
theorem go_ws {ws' : va_W} (is : List Nat) (h1 : is.filterMap (fun i => ws[i]?) = ws') (h2 : va_nd is = true) (h3 : is.map (fun i => ws[i]?) = ws'.map some) (k : Go p l e R s m args below meth c Q D A nL kc ks ws' lv pc st) : Go p l e R s m args below meth c Q D A nL kc ks ws lv pc st := fun H locs ls hl hP hD hS => k H locs ls hl (hP.sub is h1) (hD.sub is h2 h3) hS
theorem go_eq {ws' : va_W} {lv' : List (Nat × Value)} {st' : List Value} (h1 : ws = ws') (h2 : lv = lv') (h3 : st = st') (k : Go p l e R s m args below meth c Q D A nL kc ks ws' lv' pc st') : Go p l e R s m args below meth c Q D A nL kc ks ws lv pc st := by
  subst h1 h2 h3
  exact k
theorem go_get (C : Cx p s m args meth c D tc A nL cc own) {idx ci k N a : Nat} {CC : String} {T : u_T} {fs : List Value} {v : Value} (hd : decode cc pc = .ok (.getfield idx, 3)) (hF : Fl own idx ci k CC T N) (q0 : Nat) (he : ws[q0]? = some (a, .inr (ci, fs))) (hv : fs[k]? = some v) (hn : pc + 3 = n) (kk : Go p l e R s m args below meth c Q D A nL kc ks ws lv n (v :: st)) : Go p l e R s m args below meth c Q D A nL kc ks ws lv pc (.ref a :: st) := by
  subst hn
  obtain ⟨h1, h2, h3, h4⟩ := hF
  intro H locs ls hl hP hD hS
  rcases h4 with h4 | ⟨host, h4⟩
  · exact va_get C.1.1 C.1.2 C.2.2.1 h3 C.2.1.2 C.2.2.2.1.1 hP q0 he h1 k h2 (C.2.2.1 _ h4) (fun _ h => h) hv hd (kk H locs ls hl hP hD hS)
  · exact va_getN C.1.1 C.1.2 C.2.2.1 h3 C.2.1.2 C.2.2.2.1.1 hP q0 he h1 k h2 (va_Nw.use rfl (C.2.2.2.1.2 _ h4)) (fun _ h => h) hv hd (kk H locs ls hl hP hD hS)
theorem go_put (C : Cx p s m args meth c D tc A nL cc own) {idx ci k N a : Nat} {CC : String} {T : u_T} {ty : Nat → FieldType} {fs : List Value} {v : Value} (hd : decode cc pc = .ok (.putfield idx, 3)) (hF : Fl own idx ci k CC T N) (hT : Fs k T N ty) (hfin : (T k).2.2.2 = false) (hn1 : narrow (ty k) v = v) (hfit : fits (ty k) v = true) (q0 : Nat) (he : ws[q0]? = some (a, .inr (ci, fs))) (hlen : k < fs.length) (hn : pc + 3 = n) (kk : Go p l e R s m args below meth c Q D A nL kc ks (ws.set q0 (a, .inr (ci, fs.set k v))) lv n st) : Go p l e R s m args below meth c Q D A nL kc ks ws lv pc (v :: .ref a :: st) := by
  subst hn
  obtain ⟨h1, h2, h3, h4⟩ := hF
  intro H locs ls hl hP hD hS
  rcases h4 with h4 | ⟨host, h4⟩
  · exact va_put C.1.1 C.1.2 C.2.2.1 h3 ty hT.1 hT.2 C.2.1.2 C.2.2.2.1.1 hP hD hS q0 he h1 k h2 (C.2.2.1 _ h4) (fun _ h => h) hfin (hT.1 k h2) hn1 hfit hlen hd (fun H1 locs1 hP1 hD1 hS1 => kk H1 locs1 ls hl hP1 hD1 hS1)
  · exact va_putN C.1.1 C.1.2 C.2.2.1 h3 ty hT.1 hT.2 C.2.1.2 C.2.2.2.1.1 hP hD hS q0 he h1 k h2 (va_Nw.use rfl (C.2.2.2.1.2 _ h4)) (fun _ h => h) hfin (hT.1 k h2) hn1 hfit hlen hd (fun H1 locs1 hP1 hD1 hS1 => kk H1 locs1 ls hl hP1 hD1 hS1)
theorem go_putF (C : Cx p s m args meth c D tc A nL cc own) {idx ci k N a : Nat} {CC : String} {T : u_T} {ty : Nat → FieldType} {fs : List Value} {v : Value} (hin : meth.name = "<init>") (hd : decode cc pc = .ok (.putfield idx, 3)) (hF : vwCl[ci]? = some (CC, T, N) ∧ k < N ∧ (∀ w ∈ u_ws CC T N, w ∈ AL) ∧ Cond.fieldLink own idx (T k).1 (T k).2.1 (T k).2.2.1 ∈ AL) (hT : Fs k T N ty) (hfin : (T k).2.2.2 = true) (hdecl : (T k).1 = own) (hn1 : narrow (ty k) v = v) (hfit : fits (ty k) v = true) (q0 : Nat) (he : ws[q0]? = some (a, .inr (ci, fs))) (hlen : k < fs.length) (hn : pc + 3 = n) (kk : Go p l e R s m args below meth c Q D A nL kc ks (ws.set q0 (a, .inr (ci, fs.set k v))) lv n st) : Go p l e R s m args below meth c Q D A nL kc ks ws lv pc (v :: .ref a :: st) := by
  subst hn
  obtain ⟨h1, h2, h3, h4⟩ := hF
  exact fun H locs ls hl hP hD hS => va_putF C.1.1 C.1.2 C.2.2.1 h3 ty hT.1 hT.2 C.2.1.2 C.2.2.2.1.1 hP hD hS q0 he h1 k h2 (C.2.2.1 _ h4) (fun _ h => h) hfin hin hdecl (hT.1 k h2) hn1 hfit hlen hd (fun H1 locs1 hP1 hD1 hS1 => kk H1 locs1 ls hl hP1 hD1 hS1)
def okI (i : Int32) (n : Nat) : Bool := !(decide (i < 0)) && decide (i.toNatClampNeg < n)
theorem okI_in {i : Int32} {n : Nat} (h : okI i n = true) : vp_in i n := by
  simp only [okI, Bool.and_eq_true, Bool.not_eq_true', decide_eq_false_iff_not, decide_eq_true_eq] at h
  rintro (q | q)
  · exact h.1 q
  · omega
theorem go_iald (C : Cx p s m args meth c D tc A nL cc own) {a N : Nat} {f : Nat → Int32} {i : Int32} (hd : decode cc pc = .ok (.iaload, 1)) (q0 : Nat) (he : ws[q0]? = some (a, .inl (tc 0, N, .inl f))) (hin : okI i N = true) (hn : pc + 1 = n) (kk : Go p l e R s m args below meth c Q D A nL kc ks ws lv n (.int (f i.toNatClampNeg) :: st)) : Go p l e R s m args below meth c Q D A nL kc ks ws lv pc (.int i :: .ref a :: st) := by
  subst hn
  exact fun H locs ls hl hP hD hS => va_iald C.1.1 C.1.2 C.2.2.2.1.1 hP q0 0 he rfl (okI_in hin) hd (kk H locs ls hl hP hD hS)
theorem go_iast (C : Cx p s m args meth c D tc A nL cc own) {a N : Nat} {f : Nat → Int32} {i : Int32} {x : Int32} (hd : decode cc pc = .ok (.iastore, 1)) (q0 : Nat) (he : ws[q0]? = some (a, .inl (tc 0, N, .inl f))) (hin : okI i N = true) (hn : pc + 1 = n) (kk : Go p l e R s m args below meth c Q D A nL kc ks (ws.set q0 (a, .inl (tc 0, N, .inl (upd f i.toNatClampNeg x)))) lv n st) : Go p l e R s m args below meth c Q D A nL kc ks ws lv pc (.int x :: .int i :: .ref a :: st) := by
  subst hn
  exact fun H locs ls hl hP hD hS => va_iast C.1.1 C.1.2 C.2.2.2.1.1 hP hD hS q0 0 he rfl (okI_in hin) hd (fun H1 locs1 hP1 hD1 hS1 => kk H1 locs1 ls hl hP1 hD1 hS1)
theorem go_lald (C : Cx p s m args meth c D tc A nL cc own) {a N : Nat} {f : Nat → Int64} {i : Int32} (hd : decode cc pc = .ok (.laload, 1)) (q0 : Nat) (he : ws[q0]? = some (a, .inl (tc 1, N, .inr (.inl f)))) (hin : okI i N = true) (hn : pc + 1 = n) (kk : Go p l e R s m args below meth c Q D A nL kc ks ws lv n (.long (f i.toNatClampNeg) :: st)) : Go p l e R s m args below meth c Q D A nL kc ks ws lv pc (.int i :: .ref a :: st) := by
  subst hn
  exact fun H locs ls hl hP hD hS => va_lald C.1.1 C.1.2 C.2.2.2.1.1 hP q0 1 he rfl (okI_in hin) hd (kk H locs ls hl hP hD hS)
theorem go_last (C : Cx p s m args meth c D tc A nL cc own) {a N : Nat} {f : Nat → Int64} {i : Int32} {x : Int64} (hd : decode cc pc = .ok (.lastore, 1)) (q0 : Nat) (he : ws[q0]? = some (a, .inl (tc 1, N, .inr (.inl f)))) (hin : okI i N = true) (hn : pc + 1 = n) (kk : Go p l e R s m args below meth c Q D A nL kc ks (ws.set q0 (a, .inl (tc 1, N, .inr (.inl (vp_updL f i.toNatClampNeg x))))) lv n st) : Go p l e R s m args below meth c Q D A nL kc ks ws lv pc (.long x :: .int i :: .ref a :: st) := by
  subst hn
  exact fun H locs ls hl hP hD hS => va_last C.1.1 C.1.2 C.2.2.2.1.1 hP hD hS q0 1 he rfl (okI_in hin) hd (fun H1 locs1 hP1 hD1 hS1 => kk H1 locs1 ls hl hP1 hD1 hS1)
theorem go_aald (C : Cx p s m args meth c D tc A nL cc own) {a N : Nat} {f : Nat → Option Nat} {i : Int32} {cA : ClassId} {ty : FieldType} (hd : decode cc pc = .ok (.aaload, 1)) (q0 t0 : Nat) (he : ws[q0]? = some (a, .inl (cA, N, .inr (.inr (.inr (.inr f)))))) (ht : (TY tc)[t0]? = some (cA, ty)) (hty : ty.isReference = true) (hin : okI i N = true) (hn : pc + 1 = n) (kk : Go p l e R s m args below meth c Q D A nL kc ks ws lv n (va_rf (f i.toNatClampNeg) :: st)) : Go p l e R s m args below meth c Q D A nL kc ks ws lv pc (.int i :: .ref a :: st) := by
  subst hn
  intro H locs ls hl hP hD hS
  have hin := okI_in hin
  have hlt : i.toNatClampNeg < N := Nat.not_le.mp fun q => hin (Or.inr q)
  exact W.aald (v := va_rf (f i.toNatClampNeg)) (ty := ty) C.1.1 C.1.2 (hP q0 _ he) ((C.2.2.2.1.1.2 t0 _ ht).1 N (fun j => va_rf (f j))) hty (fun q => by cases q) (by show ¬ (i < 0 ∨ (arrV _ _ _).slots.size ≤ _); rw [arrV_size]; exact hin) (by show (arrV _ _ _).slots[_]? = _; rw [arrV_read _ _ hlt]) rfl rfl hd (kk H locs ls hl hP hD hS)
theorem go_mmin (C : Cx p s m args meth c D tc A nL cc own) {idx : Nat} {x y : Int32} (hd : decode cc pc = .ok (.invokestatic idx, 3)) (hlink : Cond.methodLink own idx Lib.Math.min.name ∈ AL) (hrest : Cond.static Lib.Math.min.name ∈ AL ∧ Cond.initialized "java/lang/Math" ∈ AL ∧ Cond.code Lib.Math.min.name Lib.Math.min.code 2 (some .int) ∈ AL) (hfr : 1 ≤ R.frames) (hlo : (st.map fun v => v.category).sum + 13 ≤ R.locals) (hc : kc ≤ R.cells) (hs : ks ≤ R.slots) (hn : pc + 3 = n) (kk : Go p l e R s m args below meth c Q D A nL kc ks ws lv n (.int (if y < x then y else x) :: st)) : Go p l e R s m args below meth c Q D A nL kc ks ws lv pc (.int y :: .int x :: st) := by
  subst hn
  exact fun H locs ls hl hP hD hS => va_mmin C.1.1 C.1.2 (C.2.1.1.trans hl.1.symm) C.2.1.2 (C.2.2.1 _ hlink) (C.2.2.1 _ hrest.1) (C.2.2.1 _ hrest.2.1) (C.2.2.1 _ hrest.2.2) hfr hlo hc hs hd (kk H locs ls hl hP hD hS)
theorem okI_lt {i : Int32} {n : Nat} (h : okI i n = true) : i.toNatClampNeg < n := Nat.not_le.mp fun q => okI_in h (Or.inr q)
theorem rows4 {P : Nat → Prop} (h0 : P 0) (h1 : P 1) (h2 : P 2) (h3 : P 3) : ∀ r, r < 4 → P r := fun r hr => by
  rcases (show r = 0 ∨ r = 1 ∨ r = 2 ∨ r = 3 by omega) with rfl | rfl | rfl | rfl <;> assumption
theorem rows9 {P : Nat → Prop} (h0 : P 0) (h1 : P 1) (h2 : P 2) (h3 : P 3) (h4 : P 4) (h5 : P 5) (h6 : P 6) (h7 : P 7) (h8 : P 8) : ∀ r, r < 9 → P r := fun r hr => by
  rcases (show r = 0 ∨ r = 1 ∨ r = 2 ∨ r = 3 ∨ r = 4 ∨ r = 5 ∨ r = 6 ∨ r = 7 ∨ r = 8 by omega) with rfl | rfl | rfl | rfl | rfl | rfl | rfl | rfl | rfl <;> assumption
def dref (k a b c : Nat) : Value := if k = 0 then .ref a else if k = 1 then .ref b else if k = 2 then .ref c else .null
theorem dref_n {k a b c : Nat} (h0 : ¬ k = 0) (h1 : ¬ k = 1) (h2 : ¬ k = 2) : dref k a b c = .null := by
  unfold dref
  rw [if_neg h0, if_neg h1, if_neg h2]
theorem go_aaldR (C : Cx p s m args meth c D tc A nL cc own) {a N : Nat} {row : Nat → Nat} {i : Int32} {cA : ClassId} {ty : FieldType} (hd : decode cc pc = .ok (.aaload, 1)) (q0 t0 : Nat) (he : ws[q0]? = some (a, .inl (cA, N, .inr (.inr (.inr (.inr (fun i => some (row i)))))))) (ht : (TY tc)[t0]? = some (cA, ty)) (hty : ty.isReference = true) (hin : okI i N = true) (hn : pc + 1 = n) (kk : Go p l e R s m args below meth c Q D A nL kc ks ws lv n (.ref (row i.toNatClampNeg) :: st)) : Go p l e R s m args below meth c Q D A nL kc ks ws lv pc (.int i :: .ref a :: st) := go_aald C hd q0 t0 he ht hty hin hn kk
theorem go_ialdR (C : Cx p s m args meth c D tc A nL cc own) {K N : Nat} {row : Nat → Nat} {M : Nat → Nat → Int32} {i j : Int32} (hd : decode cc pc = .ok (.iaload, 1)) (q0 : Nat) (hrow : ∀ r, r < N → ws[q0 + r]? = some (row r, .inl (tc 0, K, .inl (M r)))) (hi : okI i N = true) (hj : okI j K = true) (hn : pc + 1 = n) (kk : Go p l e R s m args below meth c Q D A nL kc ks ws lv n (.int (M i.toNatClampNeg j.toNatClampNeg) :: st)) : Go p l e R s m args below meth c Q D A nL kc ks ws lv pc (.int j :: .ref (row i.toNatClampNeg) :: st) := go_iald C hd (q0 + i.toNatClampNeg) (hrow _ (okI_lt hi)) hj hn kk
theorem go_iastR (C : Cx p s m args meth c D tc A nL cc own) {K N : Nat} {row : Nat → Nat} {M : Nat → Nat → Int32} {i j : Int32} {x : Int32} {WS : (Nat → Nat → Int32) → va_W} (hd : decode cc pc = .ok (.iastore, 1)) (q0 : Nat) (hrow : ∀ r, r < N → ws[q0 + r]? = some (row r, .inl (tc 0, K, .inl (M r)))) (hset : ∀ r, r < N → ∀ v : Nat → Int32, ws.set (q0 + r) (row r, .inl (tc 0, K, .inl v)) = WS (va_up M r v)) (hi : okI i N = true) (hj : okI j K = true) (hn : pc + 1 = n) (kk : Go p l e R s m args below meth c Q D A nL kc ks (WS (va_up M i.toNatClampNeg (upd (M i.toNatClampNeg) j.toNatClampNeg x))) lv n st) : Go p l e R s m args below meth c Q D A nL kc ks ws lv pc (.int x :: .int j :: .ref (row i.toNatClampNeg) :: st) := by
  refine go_iast C hd (q0 + i.toNatClampNeg) (hrow _ (okI_lt hi)) hj hn ?_
  rw [hset _ (okI_lt hi) _]
  exact kk
theorem go_laldR (C : Cx p s m args meth c D tc A nL cc own) {K N : Nat} {row : Nat → Nat} {M : Nat → Nat → Int64} {i j : Int32} (hd : decode cc pc = .ok (.laload, 1)) (q0 : Nat) (hrow : ∀ r, r < N → ws[q0 + r]? = some (row r, .inl (tc 1, K, .inr (.inl (M r))))) (hi : okI i N = true) (hj : okI j K = true) (hn : pc + 1 = n) (kk : Go p l e R s m args below meth c Q D A nL kc ks ws lv n (.long (M i.toNatClampNeg j.toNatClampNeg) :: st)) : Go p l e R s m args below meth c Q D A nL kc ks ws lv pc (.int j :: .ref (row i.toNatClampNeg) :: st) := go_lald C hd (q0 + i.toNatClampNeg) (hrow _ (okI_lt hi)) hj hn kk
theorem go_lastR (C : Cx p s m args meth c D tc A nL cc own) {K N : Nat} {row : Nat → Nat} {M : Nat → Nat → Int64} {i j : Int32} {x : Int64} {WS : (Nat → Nat → Int64) → va_W} (hd : decode cc pc = .ok (.lastore, 1)) (q0 : Nat) (hrow : ∀ r, r < N → ws[q0 + r]? = some (row r, .inl (tc 1, K, .inr (.inl (M r))))) (hset : ∀ r, r < N → ∀ v : Nat → Int64, ws.set (q0 + r) (row r, .inl (tc 1, K, .inr (.inl v))) = WS (va_up M r v)) (hi : okI i N = true) (hj : okI j K = true) (hn : pc + 1 = n) (kk : Go p l e R s m args below meth c Q D A nL kc ks (WS (va_up M i.toNatClampNeg (vp_updL (M i.toNatClampNeg) j.toNatClampNeg x))) lv n st) : Go p l e R s m args below meth c Q D A nL kc ks ws lv pc (.long x :: .int j :: .ref (row i.toNatClampNeg) :: st) := by
  refine go_last C hd (q0 + i.toNatClampNeg) (hrow _ (okI_lt hi)) hj hn ?_
  rw [hset _ (okI_lt hi) _]
  exact kk
theorem lookI {s : State} {D : va_G} {tc : Nat → ClassId} {cA : ClassId} {ty : FieldType} (t0 : Nat) (h0 : va_K D vwCl (TY tc) s) (ht : (TY tc)[t0]? = some (tc t0, ty)) (hR : ∀ (a : ClassId), va_RA s a ty → s.vm.findClass ("[" ++ ty.toString) = some a) (h : va_K D vwCl (TY tc ++ [(cA, ty)]) s) : cA = tc t0 := by
  have h1 := hR _ (h.2 5 (cA, ty) rfl).2
  have h2 := hR _ (h0.2 t0 _ ht).2
  exact Option.some.inj (h1.symm.trans h2)
theorem go_new (C : Cx p s m args meth c D tc A nL cc own) {idx ci N : Nat} {CC : String} {T : u_T} {ty : Nat → FieldType} {fs : List Value} (hd : decode cc pc = .ok (.new idx, 3)) (hK : Nw own idx ci CC T N) (hty : ∀ k, k < N → parseFieldDescriptor (T k).2.2.1 = some (ty k)) (hfs : ∀ j, j < N → defaultValue (ty j) = vp_V fs j) (hc : kc + 1 ≤ R.cells) (hs : ks + N ≤ R.slots) (hn : pc + 3 = n) (kk : ∀ q : Nat, Go p l e R s m args below meth c Q D A nL (kc + 1) (ks + N) (ws ++ [(q, .inr (ci, fs))]) lv n (.ref q :: st)) : Go p l e R s m args below meth c Q D A nL kc ks ws lv pc st := by
  subst hn
  exact fun H locs ls hl hP hD hS => va_new C.1.1 C.1.2 C.2.2.1 hK.2.1 ty hty C.2.1.2 (C.2.2.1 _ hK.2.2.1) (C.2.2.1 _ hK.2.2.2.1) (C.2.2.1 _ hK.2.2.2.2) C.2.2.2.1.1 hP hD hS C.2.2.2.2.2 hK.1 hfs hc hs hd (fun q H1 hP1 hD1 hS1 => kk q H1 locs ls hl hP1 hD1 hS1)
theorem go_newaI (C : Cx p s m args meth c D tc A nL cc own) {i : Int32} {N : Nat} (hd : decode cc pc = .ok (.newarray .int, 2)) (hw : Cond.arrayClass .int ∈ AL) (hi : ¬ i < 0) (hN : i.toNatClampNeg = N) (hb : N * componentBytes .int ≤ 536870912) (hc : kc + 1 ≤ R.cells) (hs : ks + N ≤ R.slots) (hn : pc + 2 = n) (kk : ∀ q : Nat, Go p l e R s m args below meth c Q D A nL (kc + 1) (ks + N) (ws ++ [(q, .inl (tc 0, N, .inl (fun _ => 0)))]) lv n (.ref q :: st)) : Go p l e R s m args below meth c Q D A nL kc ks ws lv pc (.int i :: st) := by
  subst hn
  intro H locs ls hl hP hD hS
  refine va_newa (atype := .int) (ty := .int) (a0 := (N, .inl (fun _ => 0))) C.1.1 C.1.2 (C.2.2.1 _ hw) rfl C.2.2.2.1.1 hP hD hS C.2.2.2.2.2 (fun _ => rfl) hi hN hb hc hs hd (fun q cA H1 hK1 hP1 hD1 hS1 => ?_)
  have hcA : cA = tc 0 := lookI 0 C.2.2.2.1.1 rfl (fun _ h => h) hK1
  subst hcA
  exact kk q H1 locs ls hl hP1 hD1 hS1
theorem go_newaJ (C : Cx p s m args meth c D tc A nL cc own) {i : Int32} {N : Nat} (hd : decode cc pc = .ok (.newarray .long, 2)) (hw : Cond.arrayClass .long ∈ AL) (hi : ¬ i < 0) (hN : i.toNatClampNeg = N) (hb : N * componentBytes .long ≤ 536870912) (hc : kc + 1 ≤ R.cells) (hs : ks + N ≤ R.slots) (hn : pc + 2 = n) (kk : ∀ q : Nat, Go p l e R s m args below meth c Q D A nL (kc + 1) (ks + N) (ws ++ [(q, .inl (tc 1, N, .inr (.inl (fun _ => 0))))]) lv n (.ref q :: st)) : Go p l e R s m args below meth c Q D A nL kc ks ws lv pc (.int i :: st) := by
  subst hn
  intro H locs ls hl hP hD hS
  refine va_newa (atype := .long) (ty := .long) (a0 := (N, .inr (.inl (fun _ => 0)))) C.1.1 C.1.2 (C.2.2.1 _ hw) rfl C.2.2.2.1.1 hP hD hS C.2.2.2.2.2 (fun _ => rfl) hi hN hb hc hs hd (fun q cA H1 hK1 hP1 hD1 hS1 => ?_)
  have hcA : cA = tc 1 := lookI 1 C.2.2.2.1.1 rfl (fun _ h => h) hK1
  subst hcA
  exact kk q H1 locs ls hl hP1 hD1 hS1
theorem go_anewD (C : Cx p s m args meth c D tc A nL cc own) {i : Int32} {idx N : Nat} (hd : decode cc pc = .ok (.anewarray idx, 3)) (hw : Cond.classLink own idx "SuggestDesk$Dictionary" ∈ AL) (ho : Cond.arrayOver (.object "SuggestDesk$Dictionary") ∈ NWs) (hi : ¬ i < 0) (hN : i.toNatClampNeg = N) (hb : N * 4 ≤ 536870912) (hc : kc + 1 ≤ R.cells) (hs : ks + N ≤ R.slots) (hn : pc + 3 = n) (kk : ∀ q : Nat, Go p l e R s m args below meth c Q D A nL (kc + 1) (ks + N) (ws ++ [(q, .inl (tc 2, N, .inr (.inr (.inr (.inr (fun _ => none))))))]) lv n (.ref q :: st)) : Go p l e R s m args below meth c Q D A nL kc ks ws lv pc (.int i :: st) := by
  subst hn
  intro H locs ls hl hP hD hS
  refine va_newq C.1.1 C.1.2 C.2.1.2 (C.2.2.1 _ hw) (va_AO.of (C.2.2.2.1.2 _ ho)) C.2.2.2.1.1 hP hD hS C.2.2.2.2.2 hi hN hb hc hs hd (fun q cA H1 hK1 hP1 hD1 hS1 => ?_)
  have hcA : cA = tc 2 := lookI 2 C.2.2.2.1.1 rfl (fun _ h => h.choose_spec.choose_spec.2.2.2) hK1
  subst hcA
  exact kk q H1 locs ls hl hP1 hD1 hS1
theorem go_aastD (C : Cx p s m args meth c D tc A nL cc own) {a N v ci : Nat} {f : Nat → Option Nat} {i : Int32} {vs : List Value} {T : u_T} {K : Nat} (hd : decode cc pc = .ok (.aastore, 1)) (q0 qk : Nat) (he : ws[q0]? = some (a, .inl (tc 2, N, .inr (.inr (.inr (.inr f)))))) (hv : ws[qk]? = some (v, .inr (ci, vs))) (hcl : vwCl[ci]? = some ("SuggestDesk$Dictionary", T, K)) (hin : okI i N = true) (hn : pc + 1 = n) (kk : Go p l e R s m args below meth c Q D A nL kc ks (ws.set q0 (a, .inl (tc 2, N, .inr (.inr (.inr (.inr (va_up f i.toNatClampNeg (some v)))))))) lv n st) : Go p l e R s m args below meth c Q D A nL kc ks ws lv pc (.ref v :: .int i :: .ref a :: st) := by
  subst hn
  exact fun H locs ls hl hP hD hS => va_astq C.1.1 C.1.2 C.2.2.2.1.1 hP hD hS q0 2 qk ci (r := ("SuggestDesk$Dictionary", T, K)) he rfl hv hcl (okI_in hin) hd (fun H1 locs1 hP1 hD1 hS1 => kk H1 locs1 ls hl hP1 hD1 hS1)
theorem go_objInit (C : Cx p s m args meth c D tc A nL cc own) {idx a : Nat} (hd : decode cc pc = .ok (.invokespecial idx, 3)) (hw : Cond.methodLink own idx objectInit ∈ AL ∧ Cond.instanceMethod objectInit ∈ AL ∧ Cond.code objectInit ⟨#[0xb1]⟩ 1 none ∈ AL) (hfr : 1 ≤ R.frames) (hlo : (st.map fun v => v.category).sum + 12 ≤ R.locals) (hn : pc + 3 = n) (kk : Go p l e R s m args below meth c Q D A nL kc ks ws lv n st) : Go p l e R s m args below meth c Q D A nL kc ks ws lv pc (.ref a :: st) := by
  subst hn
  intro H locs ls hl hP hD hS
  refine W.objInit C.1.1 C.1.2 C.2.1.2 (C.2.2.1 _ hw.1) (C.2.2.1 _ hw.2.1) (C.2.2.1 _ hw.2.2) rfl (by rw [C.2.1.1]; exact hl.1) rfl hd hfr (by show 2 * 0 + _ + 12 ≤ _; omega) ?_
  exact kk H locs ls hl hP hD hS
/-- a method's end: it returned r, the world is ws', nothing outside A has changed -/
def Qs (D : va_G) (A : Nat → Prop) (POST : Option Value → va_W → Prop) : Array Value → State → Outcome → State → Prop := fun _ st oc t => ∃ (r : Option Value) (w1 : va_W), oc = .returned r ∧ POST r w1 ∧ va_P D vwCl w1 t.heap ∧ va_D A w1 ∧ va_F A st t
/-- a method's start -/
def Ps (D : va_G) (tc : Nat → ClassId) (av : List Value) (ws : va_W) (sz : Nat) : Array Value → State → Prop := va_Pc av (fun U => U.heap.size = sz ∧ va_P D vwCl ws U.heap ∧ (va_K D vwCl (TY tc) U ∧ ∀ w ∈ NWs, va_Nw w U) ∧ va_D (fun _ => True) ws)
/-- THE CONTRACT: from the world ws with the arguments av the method returns, POST of the answer and the new world -/
def Std (l : Launch) (y : MethodName) (cw : Cond) (rm : Room) (D : va_G) (tc : Nat → ClassId) (av : List Value) (ws : va_W) (mc ms : Nat) (POST : Option Value → va_W → Prop) : Prop :=
  ∀ sz : Nat, Met l y (cw :: AL) rm (Ps D tc av ws sz) (Qs D (va_A ws sz) POST) mc ms (va_A ws sz)
theorem Ps_blind {D : va_G} {tc : Nat → ClassId} {av : List Value} {ws : va_W} {sz : Nat} : FrameBlind (Ps D tc av ws sz) := fun a U g mk q => by
  obtain ⟨q0, q1, qP, ⟨qK, qN⟩, qD⟩ := q
  exact ⟨q0, q1, qP, ⟨va_K.moved (u := U) (U := U.calling g mk a) (Vm.Alike.refl U.vm) qK, NW_same (s := U) (U := U.calling g mk a) rfl qN⟩, qD⟩
theorem std_of {l : Launch} {y : MethodName} {cc : ByteArray} {maxL : Nat} {ret : Option FieldType} {rm : Room} {D : va_G} {tc : Nat → ClassId} {av : List Value} {ws : va_W} {mc ms : Nat} {POST : Option Value → va_W → Prop} {lv : List (Nat × Value)} (hy : plainName y.cls = true) (hlen : (lg_sl av).length ≤ maxL) (hlv : lv_args 0 av = lv)
    (hgo : ∀ (p : Program) (e : Env) (s : State) (m : MethodId) (args : Array Value) (below : List Frame) (meth : Method) (c : Code) (A : Nat → Prop), Cx p s m args meth c D tc A maxL cc y.cls → meth.sig.returnType = ret → meth.name = y.name → Go p l e rm s m args below meth c (MQ below (Qs D A POST) args s mc ms A) D A maxL 0 0 ws lv 0 []) : Std l y (.code y cc maxL ret) rm D tc av ws mc ms POST := by
  intro sz
  refine Met.ofW (cc := cc) (maxL := maxL) (ret := ret) hy rfl ?_
  intro p e s m args below meth c s₁ B hml hv
  obtain ⟨rfl, hsz, hP, ⟨hK, hN⟩, hD0⟩ := hv
  have hts := atoms_spec (ws := Cond.code y cc maxL ret :: AL) B.pre
  subst hsz
  subst hlv
  have hD := hD0.self (sz := s.heap.size)
  have hA : ∀ q : Nat, s.heap.size ≤ q → va_A ws s.heap.size q := fun q h => Or.inr h
  generalize va_A ws s.heap.size = A at hD hA ⊢
  have hl := lv_entry av (n := maxL) hlen
  rw [lg_entry_eq]
  exact hgo p e s m av.toArray below meth c A ⟨⟨B.exec, B.bytes⟩, ⟨hml, findClass_of_methodNamed B.named⟩, fun w h => hts w (List.mem_cons_of_mem _ h), ⟨hK, hN⟩, B.notSynchronized, hA⟩ B.returns (name_of_methodNamed B.named B.method).1 s.heap [] _ hl hP hD va_S.rf
theorem go_iret (C : Cx p s m args meth c D tc A nL cc own) {v : Int32} {POST : Option Value → va_W → Prop} (hd : decode cc pc = .ok (.ireturn, 1)) (hr : meth.sig.returnType = some .int) (hp : POST (some (.int v)) ws) : Go p l e R s m args below meth c (MQ below (Qs D A POST) args s kc ks A) D A nL kc ks ws lv pc [.int v] := fun H locs ls hl hP hD hS => W.iret C.1.1 C.1.2 hr (fun t ht hW => ⟨_, _, rfl, hp, by rw [ht]; exact hP, hD, hS.F ht⟩) hS.2.2 hd C.2.2.2.2.1
theorem go_lret (C : Cx p s m args meth c D tc A nL cc own) {v : Int64} {POST : Option Value → va_W → Prop} (hd : decode cc pc = .ok (.lreturn, 1)) (hr : meth.sig.returnType = some .long) (hp : POST (some (.long v)) ws) : Go p l e R s m args below meth c (MQ below (Qs D A POST) args s kc ks A) D A nL kc ks ws lv pc [.long v] := fun H locs ls hl hP hD hS => W.lret C.1.1 C.1.2 hr (fun t ht hW => ⟨_, _, rfl, hp, by rw [ht]; exact hP, hD, hS.F ht⟩) hS.2.2 hd C.2.2.2.2.1
theorem go_vret (C : Cx p s m args meth c D tc A nL cc own)  {POST : Option Value → va_W → Prop} (hd : decode cc pc = .ok (.return_, 1)) (hr : meth.sig.returnType = none) (hp : POST none ws) : Go p l e R s m args below meth c (MQ below (Qs D A POST) args s kc ks A) D A nL kc ks ws lv pc [] := fun H locs ls hl hP hD hS => W.vret C.1.1 C.1.2 hr (fun t ht hW => ⟨_, _, rfl, hp, by rw [ht]; exact hP, hD, hS.F ht⟩) hS.2.2 hd C.2.2.2.2.1
theorem go_zret (C : Cx p s m args meth c D tc A nL cc own) {v : Int32} {POST : Option Value → va_W → Prop} (hd : decode cc pc = .ok (.ireturn, 1)) (hr : meth.sig.returnType = some .boolean) (hz : narrow .boolean (.int v) = .int v) (hp : POST (some (.int v)) ws) : Go p l e R s m args below meth c (MQ below (Qs D A POST) args s kc ks A) D A nL kc ks ws lv pc [.int v] := fun H locs ls hl hP hD hS => W.zret C.1.1 C.1.2 hr hz (fun t ht hW => ⟨_, _, rfl, hp, by rw [ht]; exact hP, hD, hS.F ht⟩) hS.2.2 hd C.2.2.2.2.1
theorem go_aret (C : Cx p s m args meth c D tc A nL cc own) {v : Value} {rt : FieldType} {POST : Option Value → va_W → Prop} (hd : decode cc pc = .ok (.areturn, 1)) (hr : meth.sig.returnType = some rt) (hrt : (∃ n, rt = .object n) ∨ ∃ t, rt = .array t) (hv : v = .null ∨ ∃ a, v = .ref a) (hp : POST (some v) ws) : Go p l e R s m args below meth c (MQ below (Qs D A POST) args s kc ks A) D A nL kc ks ws lv pc [v] := fun H locs ls hl hP hD hS => W.aret C.1.1 C.1.2 hr hrt hv (fun t ht hW => ⟨_, _, rfl, hp, by rw [ht]; exact hP, hD, hS.F ht⟩) hS.2.2 hd C.2.2.2.2.1
theorem go_after {wc : va_W} {rest st0 : List Value} {mc ms : Nat} {a : Array Value} {POST : Option Value → va_W → Prop} (C : Cx p s m args meth c D tc A nL cc own) (isC : List Nat) (hC : isC.map (fun i => ws[i]?) = wc.map some) (hfst : ∀ r w1, POST r w1 → w1.map Prod.fst = wc.map Prod.fst) (hn : pc + 3 = n)
    (hr : ∀ (H : Heap) (locs : List Loc) (ls : Array Slot), lv_has ls nL lv → va_P D vwCl ws H → va_D A ws → va_S A s.heap H locs → va_Run p l e R s m args below meth c H locs kc ks mc ms (F0 m pc ls st0) rest (Qs D (va_A wc H.size) POST a) (va_A wc H.size))
    (kk : ∀ (r : Option Value) (w1 : va_W), POST r w1 → Go p l e R s m args below meth c Q D A nL (kc + mc) (ks + ms) (repl ws isC w1) lv n (r.toList ++ rest)) : Go p l e R s m args below meth c Q D A nL kc ks ws lv pc st0 := by
  subst hn
  intro H locs ls hl hP hD hS T hT X
  obtain ⟨v, st₀, t, T', L, h0, X', hL, e1, e2, ⟨r, w1, hv, hp, hP1, hD1, hz, hk⟩, stp⟩ := hr H locs ls hl hP hD hS T hT X
  have hFc := va_free (wc := wc) hD hS C.2.2.2.2.2 isC hC
  cases hv
  rw [h0] at hz hk
  have hlen : isC.length = w1.length := by
    have h1 := congrArg List.length hC
    have h2 := congrArg List.length (hfst _ _ hp)
    simp only [List.length_map] at h1 h2
    omega
  have hP2 := repl_P hP hD isC hC hlen hk hP1
  have hD2 := repl_D hD (repl_fst isC ws wc w1 hC (hfst _ _ hp))
  obtain ⟨t2, a1, b1⟩ := kk v w1 hp T'.heap (locs ++ L) ls hl (by rw [e1]; exact hP2) hD2
    ⟨Nat.le_trans hS.1 (by rw [e1]; exact hz), fun q h1 h2 => by rw [e1, hk q (Nat.lt_of_lt_of_le h1 hS.1) (fun z => h2 (hFc q z))]; exact hS.2.1 q h1 h2, fun q hq => by
      rcases List.mem_append.mp hq with h | h
      · exact hS.2.2 q h
      · exact hFc _ (hL q h)⟩ T' rfl X'
  exact ⟨t2, stp t2 a1, b1⟩
theorem go_callS (C : Cx p s m args meth c D tc A nL cc own) {y : MethodName} {bytes : ByteArray} {maxL np idx mc ms : Nat} {ret : Option FieldType} {rm : Room} {POST : Option Value → va_W → Prop} {As rest : List Value} {wc : va_W} (hd : decode cc pc = .ok (.invokestatic idx, 3)) (hM : Std l y (.code y bytes maxL ret) rm D tc As wc mc ms POST) (hk : Lk own idx y) (hw : Mw y bytes maxL ret np) (hs : Cond.static y ∈ AL)
    (hrc : rm.cells = mc) (hrs : rm.slots = ms) (hR : rm.frames + 1 ≤ R.frames ∧ 8 + (maxL + 11) + rm.locals ≤ R.locals) (hln : As.length = np) (hst : As.reverse ++ rest = st) (hcat : (rest.map fun v => v.category).sum ≤ 8) (hf : kc + mc ≤ R.cells ∧ ks + ms ≤ R.slots)
    (isC : List Nat) (hC : isC.map (fun i => ws[i]?) = wc.map some) (hn2 : va_nd isC = true) (hfst : ∀ r w1, POST r w1 → w1.map Prod.fst = wc.map Prod.fst) (hn : pc + 3 = n)
    (kk : ∀ (r : Option Value) (w1 : va_W), POST r w1 → Go p l e R s m args below meth c Q D A nL (kc + mc) (ks + ms) (repl ws isC w1) lv n (r.toList ++ rest)) : Go p l e R s m args below meth c Q D A nL kc ks ws lv pc st := by
  refine go_after (a := As.toArray) C isC hC hfst hn (fun H locs ls hl hP hD hS => ?_) kk
  have hp : PreS s H (Ps D tc As wc H.size) As := ⟨Ps_blind, fun U hU hW => ⟨rfl, by rw [hU], by rw [hU]; exact hP.sub isC (go_fm hC), ⟨va_K.moved hW.alike C.2.2.2.1.1, NW_warm hW C.2.2.2.1.2⟩, (hD.sub isC hn2 hC).weaken (fun _ _ _ _ => trivial)⟩⟩
  rcases hk with hk | ⟨host, hk⟩
  · exact va_runS (As := As) (rest := rest) (g := F0 m pc ls st) ⟨C.1.1, C.1.2, C.2.1.1, C.2.1.2, C.2.2.1⟩ (hM H.size) ⟨callB_of np C.2.2.1 (AL_goodIn hw.1) rfl hrc hrs (C.2.2.1 _ hw.2.1) (C.2.2.1 _ hk) hw.2.2 hR, C.2.2.1 _ hs⟩ hp rfl hln hl.1 hst.symm (lv_room hcat) hd hf
  · exact va_runSN (As := As) (rest := rest) (g := F0 m pc ls st) ⟨C.1.1, C.1.2, C.2.1.1, C.2.1.2, C.2.2.1⟩ (hM H.size) ⟨va_cnB np C.2.2.1 (AL_goodIn hw.1) rfl hrc hrs (C.2.2.2.1.2 _ hk) (C.2.2.1 _ hw.2.1) hw.2.2 hR, C.2.2.1 _ hs, trivial⟩ hp rfl hln hl.1 hst.symm (lv_room hcat) hd hf
theorem go_callV (C : Cx p s m args meth c D tc A nL cc own) {y : MethodName} {bytes : ByteArray} {maxL np idx mc ms b ci : Nat} {ret : Option FieldType} {rm : Room} {POST : Option Value → va_W → Prop} {As rest : List Value} {wc : va_W} {fs : List Value} {T : u_T} {N : Nat} (hd : decode cc pc = .ok (.invokevirtual idx, 3)) (hM : Std l y (.code y bytes maxL ret) rm D tc (.ref b :: As) wc mc ms POST) (hk : Lk own idx y) (hw : Mw y bytes maxL ret np) (hs : Cond.instanceMethod y ∈ AL ∧ Cond.selects y.cls y y ∈ AL)
    (q0 : Nat) (he : ws[q0]? = some (b, .inr (ci, fs))) (hc : vwCl[ci]? = some (y.cls, T, N))
    (hrc : rm.cells = mc) (hrs : rm.slots = ms) (hR : rm.frames + 1 ≤ R.frames ∧ 8 + (maxL + 11) + rm.locals ≤ R.locals) (hln : As.length = np) (hst : As.reverse ++ .ref b :: rest = st) (hcat : (rest.map fun v => v.category).sum ≤ 8) (hf : kc + mc ≤ R.cells ∧ ks + ms ≤ R.slots)
    (isC : List Nat) (hC : isC.map (fun i => ws[i]?) = wc.map some) (hn2 : va_nd isC = true) (hfst : ∀ r w1, POST r w1 → w1.map Prod.fst = wc.map Prod.fst) (hn : pc + 3 = n)
    (kk : ∀ (r : Option Value) (w1 : va_W), POST r w1 → Go p l e R s m args below meth c Q D A nL (kc + mc) (ks + ms) (repl ws isC w1) lv n (r.toList ++ rest)) : Go p l e R s m args below meth c Q D A nL kc ks ws lv pc st := by
  refine go_after (a := (Value.ref b :: As).toArray) C isC hC hfst hn (fun H locs ls hl hP hD hS => ?_) kk
  have hp : PreV s H y.cls b (Ps D tc (.ref b :: As) wc H.size) As := ⟨Ps_blind, va_recv C.2.2.2.1.1 hP hc he, fun U hU hW => ⟨rfl, by rw [hU], by rw [hU]; exact hP.sub isC (go_fm hC), ⟨va_K.moved hW.alike C.2.2.2.1.1, NW_warm hW C.2.2.2.1.2⟩, (hD.sub isC hn2 hC).weaken (fun _ _ _ _ => trivial)⟩⟩
  rcases hk with hk | ⟨host, hk⟩
  · exact va_runV (As := As) (rest := rest) (g := F0 m pc ls st) ⟨C.1.1, C.1.2, C.2.1.1, C.2.1.2, C.2.2.1⟩ (hM H.size) ⟨callB_of np C.2.2.1 (AL_goodIn hw.1) rfl hrc hrs (C.2.2.1 _ hw.2.1) (C.2.2.1 _ hk) hw.2.2 hR, C.2.2.1 _ hs.1, C.2.2.1 _ hs.2⟩ hp rfl hln hl.1 hst.symm (lv_room hcat) hd hf
  · exact va_runVN (As := As) (rest := rest) (g := F0 m pc ls st) ⟨C.1.1, C.1.2, C.2.1.1, C.2.1.2, C.2.2.1⟩ (hM H.size) ⟨va_cnB np C.2.2.1 (AL_goodIn hw.1) rfl hrc hrs (C.2.2.2.1.2 _ hk) (C.2.2.1 _ hw.2.1) hw.2.2 hR, C.2.2.1 _ hs.1, C.2.2.1 _ hs.2⟩ hp rfl hln hl.1 hst.symm (lv_room hcat) hd hf

theorem go_after0 {rest st0 : List Value} {a : Array Value} {POST : Option Value → va_W → Prop} (C : Cx p s m args meth c D tc A nL cc own) (hn : pc + 3 = n)
    (hr : ∀ (H : Heap) (locs : List Loc) (ls : Array Slot), lv_has ls nL lv → va_P D vwCl ws H → va_D A ws → va_S A s.heap H locs → va_Run p l e R s m args below meth c H locs kc ks 0 0 (F0 m pc ls st0) rest (Qs D (va_A [] H.size) POST a) (va_A [] H.size))
    (kk : ∀ (r : Option Value) (w1 : va_W), POST r w1 → Go p l e R s m args below meth c Q D A nL kc ks ws lv n (r.toList ++ rest)) : Go p l e R s m args below meth c Q D A nL kc ks ws lv pc st0 := by
  subst hn
  intro H locs ls hl hP hD hS T hT X
  obtain ⟨v, st₀, t, T', L, h0, X', hL, e1, e2, ⟨r, w1, hv, hp, hP1, hD1, hz, hk⟩, stp⟩ := hr H locs ls hl hP hD hS T hT X
  have hno : ∀ q, q < H.size → ¬ va_A [] H.size q := fun q hq h => by
    rcases h with ⟨k, e, h⟩ | h
    · simp at h
    · omega
  have hFc : ∀ q, va_A [] H.size q → A q := fun q h => by
    rcases h with ⟨k, e, h⟩ | h
    · simp at h
    · exact C.2.2.2.2.2 q (Nat.le_trans hS.1 h)
  cases hv
  rw [h0] at hz hk
  obtain ⟨t2, a1, b1⟩ := kk v w1 hp T'.heap (locs ++ L) ls hl (by rw [e1]; exact hP.kept (fun k q hq => hk q.1 (hP k q hq).lt (hno _ (hP k q hq).lt))) hD
    ⟨Nat.le_trans hS.1 (by rw [e1]; exact hz), fun q h1 h2 => by rw [e1, hk q (Nat.lt_of_lt_of_le h1 hS.1) (hno q (Nat.lt_of_lt_of_le h1 hS.1))]; exact hS.2.1 q h1 h2, fun q hq => by
      rcases List.mem_append.mp hq with h | h
      · exact hS.2.2 q h
      · exact hFc _ (hL q h)⟩ T' rfl X'
  exact ⟨t2, stp t2 a1, b1⟩
theorem go_callP (C : Cx p s m args meth c D tc A nL cc own) {y : MethodName} {bytes : ByteArray} {maxL np idx : Nat} {ret : Option FieldType} {rm : Room} {POST : Option Value → va_W → Prop} {As rest : List Value} (hd : decode cc pc = .ok (.invokestatic idx, 3)) (hM : Std l y (.code y bytes maxL ret) rm D tc As [] 0 0 POST) (hk : Lk own idx y) (hw : Mw y bytes maxL ret np) (hs : Cond.static y ∈ AL)
    (hrc : rm.cells = 0) (hrs : rm.slots = 0) (hR : rm.frames + 1 ≤ R.frames ∧ 8 + (maxL + 11) + rm.locals ≤ R.locals) (hln : As.length = np) (hst : As.reverse ++ rest = st) (hcat : (rest.map fun v => v.category).sum ≤ 8) (hf : kc ≤ R.cells ∧ ks ≤ R.slots) (hn : pc + 3 = n)
    (kk : ∀ (r : Option Value) (w1 : va_W), POST r w1 → Go p l e R s m args below meth c Q D A nL kc ks ws lv n (r.toList ++ rest)) : Go p l e R s m args below meth c Q D A nL kc ks ws lv pc st := by
  refine go_after0 (a := As.toArray) C hn (fun H locs ls hl hP hD hS => ?_) kk
  have hp : PreS s H (Ps D tc As [] H.size) As := ⟨Ps_blind, fun U hU hW => ⟨rfl, by rw [hU], fun k q h => by simp at h, ⟨va_K.moved hW.alike C.2.2.2.1.1, NW_warm hW C.2.2.2.1.2⟩, ⟨fun i j p q h => by simp at h, fun k q h => by simp at h⟩⟩⟩
  rcases hk with hk | ⟨host, hk⟩
  · exact va_runS (As := As) (rest := rest) (g := F0 m pc ls st) ⟨C.1.1, C.1.2, C.2.1.1, C.2.1.2, C.2.2.1⟩ (hM H.size) ⟨callB_of np C.2.2.1 (AL_goodIn hw.1) rfl hrc hrs (C.2.2.1 _ hw.2.1) (C.2.2.1 _ hk) hw.2.2 hR, C.2.2.1 _ hs⟩ hp rfl hln hl.1 hst.symm (lv_room hcat) hd hf
  · exact va_runSN (As := As) (rest := rest) (g := F0 m pc ls st) ⟨C.1.1, C.1.2, C.2.1.1, C.2.1.2, C.2.2.1⟩ (hM H.size) ⟨va_cnB np C.2.2.1 (AL_goodIn hw.1) rfl hrc hrs (C.2.2.2.1.2 _ hk) (C.2.2.1 _ hw.2.1) hw.2.2 hR, C.2.2.1 _ hs, trivial⟩ hp rfl hln hl.1 hst.symm (lv_room hcat) hd hf
theorem go_callI (C : Cx p s m args meth c D tc A nL cc own) {y : MethodName} {bytes : ByteArray} {maxL np idx mc ms b : Nat} {rm : Room} {POST : Option Value → va_W → Prop} {As rest : List Value} {wc wr : va_W} (hd : decode cc pc = .ok (.invokespecial idx, 3)) (hM : Std l y (.code y bytes maxL none) rm D tc (.ref b :: As) wc mc ms POST) (hk : Lk own idx y) (hw : Mw y bytes maxL none np) (hy : y.name = "<init>") (hs : Cond.instanceMethod y ∈ AL)
    (hrc : rm.cells = mc) (hrs : rm.slots = ms) (hR : rm.frames + 1 ≤ R.frames ∧ 8 + (maxL + 11) + rm.locals ≤ R.locals) (hln : As.length = np) (hst : As.reverse ++ .ref b :: rest = st) (hcat : (rest.map fun v => v.category).sum ≤ 8) (hf : kc + mc ≤ R.cells ∧ ks + ms ≤ R.slots)
    (isC isR : List Nat) (hC : isC.map (fun i => ws[i]?) = wc.map some) (hRr : isR.map (fun i => ws[i]?) = wr.map some) (hn2 : va_nd isC = true) (hn1 : va_nd isR = true) (hdis : ∀ i ∈ isR, i ∉ isC) (hn : pc + 3 = n)
    (kk : ∀ (r : Option Value) (w1 : va_W), POST r w1 → Go p l e R s m args below meth c Q D A nL (kc + mc) (ks + ms) (wr ++ w1) lv n (r.toList ++ rest)) : Go p l e R s m args below meth c Q D A nL kc ks ws lv pc st := by
  subst hn
  intro H locs ls hl hP hD hS
  have hp : PreS s H (Ps D tc (.ref b :: As) wc H.size) (.ref b :: As) := ⟨Ps_blind, fun U hU hW => ⟨rfl, by rw [hU], by rw [hU]; exact hP.sub isC (go_fm hC), ⟨va_K.moved hW.alike C.2.2.2.1.1, NW_warm hW C.2.2.2.1.2⟩, (hD.sub isC hn2 hC).weaken (fun _ _ _ _ => trivial)⟩⟩
  have hr : va_Run p l e R s m args below meth c H locs kc ks mc ms (F0 m pc ls st) rest (Qs D (va_A wc H.size) POST (Value.ref b :: As).toArray) (va_A wc H.size) := by
    rcases hk with hk | ⟨host, hk⟩
    · exact va_runI (As := As) (rest := rest) (g := F0 m pc ls st) ⟨C.1.1, C.1.2, C.2.1.1, C.2.1.2, C.2.2.1⟩ (hM H.size) ⟨callB_of np C.2.2.1 (AL_goodIn hw.1) rfl hrc hrs (C.2.2.1 _ hw.2.1) (C.2.2.1 _ hk) hw.2.2 hR, hy, C.2.2.1 _ hs⟩ hp rfl hln hl.1 hst.symm (lv_room hcat) hd hf
    · exact va_runIN (As := As) (rest := rest) (g := F0 m pc ls st) ⟨C.1.1, C.1.2, C.2.1.1, C.2.1.2, C.2.2.1⟩ (hM H.size) ⟨va_cnB np C.2.2.1 (AL_goodIn hw.1) rfl hrc hrs (C.2.2.2.1.2 _ hk) (C.2.2.1 _ hw.2.1) hw.2.2 hR, hy, C.2.2.1 _ hs⟩ hp rfl hln hl.1 hst.symm (lv_room hcat) hd hf
  intro T hT X
  obtain ⟨v, st₀, t, T', L, h0, X', hL, e1, e2, ⟨r, w1, hv, hp1, hP1, hD1, hz, hk2⟩, stp⟩ := hr T hT X
  have hFc := va_free (wc := wc) hD hS C.2.2.2.2.2 isC hC
  cases hv
  rw [h0] at hz hk2
  obtain ⟨hP2, hD2⟩ := va_join (wr := wr) (w1 := w1) hP hD isC isR hC hRr hn1 hdis hk2 hFc hP1 hD1
  obtain ⟨t2, a1, b1⟩ := kk v w1 hp1 T'.heap (locs ++ L) ls hl (by rw [e1]; exact hP2) hD2
    ⟨Nat.le_trans hS.1 (by rw [e1]; exact hz), fun q h1 h2 => by rw [e1, hk2 q (Nat.lt_of_lt_of_le h1 hS.1) (fun z => h2 (hFc q z))]; exact hS.2.1 q h1 h2, fun q hq => by
      rcases List.mem_append.mp hq with h | h
      · exact hS.2.2 q h
      · exact hFc _ (hL q h)⟩ T' rfl X'
  exact ⟨t2, stp t2 a1, b1⟩
theorem go_callSr (C : Cx p s m args meth c D tc A nL cc own) {y : MethodName} {bytes : ByteArray} {maxL np idx : Nat} {ret : Option FieldType} {rm : Room} {ro : Option Value} {As rest : List Value} {wc : va_W} (hd : decode cc pc = .ok (.invokestatic idx, 3)) (hM : Std l y (.code y bytes maxL ret) rm D tc As wc 0 0 (fun r w => r = ro ∧ w = wc)) (hk : Lk own idx y) (hw : Mw y bytes maxL ret np) (hs : Cond.static y ∈ AL)
    (hrc : rm.cells = 0) (hrs : rm.slots = 0) (hR : rm.frames + 1 ≤ R.frames ∧ 8 + (maxL + 11) + rm.locals ≤ R.locals) (hln : As.length = np) (hst : As.reverse ++ rest = st) (hcat : (rest.map fun v => v.category).sum ≤ 8) (hf : kc + 0 ≤ R.cells ∧ ks + 0 ≤ R.slots)
    (isC : List Nat) (hC : isC.map (fun i => ws[i]?) = wc.map some) (hn2 : va_nd isC = true) (hn : pc + 3 = n)
    (kk : Go p l e R s m args below meth c Q D A nL kc ks ws lv n (ro.toList ++ rest)) : Go p l e R s m args below meth c Q D A nL kc ks ws lv pc st := by
  refine go_callS C (As := As) (rest := rest) hd hM hk hw hs hrc hrs hR hln hst hcat hf isC hC hn2 ?_ hn ?_
  · intro r w hq
    rw [hq.2]
  · intro r w hq
    rw [hq.1, hq.2, repl_same isC ws wc hC]
    exact kk
theorem go_callVr (C : Cx p s m args meth c D tc A nL cc own) {y : MethodName} {bytes : ByteArray} {maxL np idx : Nat} {b ci N : Nat} {fs : List Value} {T : u_T} {ret : Option FieldType} {rm : Room} {ro : Option Value} {As rest : List Value} {wc : va_W} (hd : decode cc pc = .ok (.invokevirtual idx, 3)) (hM : Std l y (.code y bytes maxL ret) rm D tc (.ref b :: As) wc 0 0 (fun r w => r = ro ∧ w = wc)) (hk : Lk own idx y) (hw : Mw y bytes maxL ret np) (hs : Cond.instanceMethod y ∈ AL ∧ Cond.selects y.cls y y ∈ AL)
    (q0 : Nat) (he : ws[q0]? = some (b, .inr (ci, fs))) (hc : vwCl[ci]? = some (y.cls, T, N))
    (hrc : rm.cells = 0) (hrs : rm.slots = 0) (hR : rm.frames + 1 ≤ R.frames ∧ 8 + (maxL + 11) + rm.locals ≤ R.locals) (hln : As.length = np) (hst : As.reverse ++ .ref b :: rest = st) (hcat : (rest.map fun v => v.category).sum ≤ 8) (hf : kc + 0 ≤ R.cells ∧ ks + 0 ≤ R.slots)
    (isC : List Nat) (hC : isC.map (fun i => ws[i]?) = wc.map some) (hn2 : va_nd isC = true) (hn : pc + 3 = n)
    (kk : Go p l e R s m args below meth c Q D A nL kc ks ws lv n (ro.toList ++ rest)) : Go p l e R s m args below meth c Q D A nL kc ks ws lv pc st := by
  refine go_callV C (As := As) (rest := rest) hd hM hk hw hs q0 he hc hrc hrs hR hln hst hcat hf isC hC hn2 ?_ hn ?_
  · intro r w hq
    rw [hq.2]
  · intro r w hq
    rw [hq.1, hq.2, repl_same isC ws wc hC]
    exact kk
end GO
