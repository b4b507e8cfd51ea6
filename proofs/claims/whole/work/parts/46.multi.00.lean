/-! new T[n][k] -/
theorem arrV_congr {c : ClassId} {N : Nat} {f g : Nat → Value} (h : ∀ j, j < N → f j = g j) : arrV c N f = arrV c N g := by
  have e : (Array.ofFn (n := N) fun j => f j.val) = Array.ofFn (n := N) fun j => g j.val := by
    congr 1
    funext j
    exact h j.val j.isLt
  show ({ cls := c, slots := Array.ofFn (n := N) fun j => f j.val, vm := .none } : Cell) = { cls := c, slots := Array.ofFn (n := N) fun j => g j.val, vm := .none }
  rw [e]
theorem outer_arrV (c : ClassId) (N h0 : Nat) : ∀ i, Jvm.Free.Multi.outerC c N h0 i = arrV c N (fun j => if j < i then .ref (h0 + 1 + j) else .null)
  | 0 => by
    show ({ cls := c, slots := Array.replicate N .null, vm := .none } : Cell) = _
    rw [arrV_new]
    exact arrV_congr (fun j _ => by simp)
  | i + 1 => by
    show (Jvm.Free.Multi.outerC c N h0 i).setSlot i (.ref (h0 + 1 + i)) = _
    rw [outer_arrV c N h0 i, arrV_store]
    refine arrV_congr (fun j _ => ?_)
    unfold updV
    by_cases h : j = i
    · subst h
      simp
    · by_cases h2 : j < i
      · rw [if_neg h]; dsimp only; rw [if_pos h2, if_pos (by omega)]
      · rw [if_neg h]; dsimp only; rw [if_neg h2, if_neg (by omega)]
section MULTI
variable {p : Program} {l : Launch} {e : Env} {R : Room} {s : State} {m : MethodId} {args : Array Value} {below : List Frame} {meth : Method} {c : Code} {Q : State → Prop} {D : va_G} {A : Nat → Prop} {nL kc ks : Nat} {ws : va_W} {lv : List (Nat × Value)} {pc n : Nat} {st : List Value} {tc : Nat → ClassId} {cc : ByteArray} {own : String}
theorem go_multi (C : Cx p s m args meth c D tc A nL cc own) {i k : Int32} {idx N K t0 t3 : Nat} {ty : FieldType} {z : vp_A} (hd : decode cc pc = .ok (.multianewarray idx 2, 4)) (hw : Cond.classLink own idx ("[" ++ (FieldType.array ty).toString) ∈ AL ∧ Cond.arrayOver (.array ty) ∈ NWs ∧ Cond.arrayClass ty ∈ AL)
    (h0 : (TY tc)[t0]? = some (tc t0, ty)) (h3 : (TY tc)[t3]? = some (tc t3, .array ty)) (hr0 : ∀ a, va_RA s a ty → s.vm.findClass (FieldType.array ty).toString = some a) (hr3 : ∀ a, va_RA s a (.array ty) → s.vm.findClass ("[" ++ (FieldType.array ty).toString) = some a)
    (hN : i.toNatClampNeg = N) (hK : k.toNatClampNeg = K) (hi : ¬ i < 0) (hk : ¬ k < 0) (hb : N * 4 ≤ 536870912 ∧ K * componentBytes ty ≤ 536870912 ∧ K ≤ 536870912) (hdf : fits ty (defaultValue ty) = true ∧ (defaultValue ty).isDefault = true) (hz : ∀ c, vp_cell c z = arrV c K (fun _ => defaultValue ty))
    (hc : kc + (1 + N) ≤ R.cells) (hs : ks + (N + N * K) ≤ R.slots) (hn : pc + 4 = n)
    (kk : ∀ (q : Nat) (row : Nat → Nat), Go p l e R s m args below meth c Q D A nL (kc + 1 + N) (ks + N + N * K) (ws ++ ((q, .inl (tc t3, N, .inr (.inr (.inr (.inr (fun i => some (row i))))))) :: (List.range N).map (fun j => (row j, .inl (tc t0, z))))) lv n (.ref q :: st)) : Go p l e R s m args below meth c Q D A nL kc ks ws lv pc (.int k :: .int i :: st) := by
  subst hn hN hK
  intro H locs ls hl hP hD hS T hT X
  obtain ⟨vm₁, cA, comp, -, fA, fC, -, -, X', step⟩ := X.multianewarray2F C.1.1 C.2.1.2 (C.2.2.1 _ hw.1) (C.2.2.2.1.2 _ hw.2.1) (C.2.2.1 _ hw.2.2) (g := F0 m pc ls (.int k :: .int i :: st)) rfl (by rw [C.1.2]; exact hd) rfl hi hk hb.1 hb.2.1 hb.2.2 hdf.1 hdf.2 hc hs
  have eA : cA = tc t3 := Option.some.inj (fA.symm.trans (hr3 _ (C.2.2.2.1.1.2 t3 _ h3).2))
  have eC : comp = tc t0 := Option.some.inj (fC.symm.trans (hr0 _ (C.2.2.2.1.1.2 t0 _ h0).2))
  subst eA
  subst eC
  obtain ⟨g1, g2, -, -⟩ := Jvm.Free.Multi.fill_facts (T.setVm vm₁) (tc t3) (tc t0) i.toNatClampNeg k.toNatClampNeg (defaultValue ty) i.toNatClampNeg
  have g3 := fun j (hj : j < i.toNatClampNeg) => Jvm.Free.Multi.fill_inner (T.setVm vm₁) (tc t3) (tc t0) i.toNatClampNeg k.toNatClampNeg (defaultValue ty) i.toNatClampNeg j hj
  have g4 : ∀ q : Nat, q < H.size → (Jvm.Free.Multi.fill (T.setVm vm₁) (tc t3) (tc t0) i.toNatClampNeg k.toNatClampNeg (defaultValue ty) i.toNatClampNeg).heap[q]? = H[q]? := fun q hq => by
    rw [← hT]
    exact Jvm.Free.Multi.fill_old (T.setVm vm₁) (tc t3) (tc t0) i.toNatClampNeg k.toNatClampNeg (defaultValue ty) (by rw [← hT] at hq; exact hq) i.toNatClampNeg
  have hTz : (T.setVm vm₁).heap.size = H.size := by rw [← hT]; rfl
  rw [hTz] at g1 g2 g3
  generalize Jvm.Free.Multi.fill (T.setVm vm₁) (tc t3) (tc t0) i.toNatClampNeg k.toNatClampNeg (defaultValue ty) i.toNatClampNeg = F at X' step g1 g2 g3 g4
  generalize i.toNatClampNeg = N at X' step g1 g2 g3 kk
  have hrows : ∀ (j : Nat) (q : Nat × va_E), ((H.size, (.inl (tc t3, N, .inr (.inr (.inr (.inr (fun i => some (H.size + 1 + i)))))) : va_E)) :: (List.range N).map (fun j => (H.size + 1 + j, (.inl (tc t0, z) : va_E))))[j]? = some q → q.1 = H.size + j ∧ va_at D vwCl q F.heap := by
    intro j q hq
    cases j with
    | zero =>
      rw [List.getElem?_cons_zero] at hq
      cases hq
      refine ⟨rfl, ?_⟩
      show F.heap[H.size]? = some (vp_cell _ _)
      rw [g2, outer_arrV, vp_cell_q]
      exact congrArg some (arrV_congr (fun j hj => by rw [if_pos hj]; rfl))
    | succ j =>
      rw [List.getElem?_cons_succ, List.getElem?_map] at hq
      by_cases hj : j < N
      · rw [List.getElem?_range hj] at hq
        cases hq
        refine ⟨by show H.size + 1 + j = H.size + (j + 1); omega, ?_⟩
        show F.heap[H.size + 1 + j]? = some (vp_cell _ _)
        rw [g3 j hj, hz]
        exact congrArg some (arrV_new _ _ _)
      · rw [List.getElem?_eq_none (by rw [List.length_range]; omega)] at hq
        cases hq
  have hP2 := (hP.kept (fun j q hq => g4 q.1 (hP j q hq).lt)).app (fun j q hq => (hrows j q hq).2)
  have hD2 := hD.app (w2 := ((H.size, (.inl (tc t3, N, .inr (.inr (.inr (.inr (fun i => some (H.size + 1 + i)))))) : va_E)) :: (List.range N).map (fun j => (H.size + 1 + j, (.inl (tc t0, z) : va_E)))))
    ⟨fun a b x y hx hy hxy => by
      have h1 := (hrows a x hx).1
      have h2 := (hrows b y hy).1
      omega, fun j q hq => C.2.2.2.2.2 _ (by have h1 := (hrows j q hq).1; have h2 := hS.1; omega)⟩
    (fun a b x y hx hy => by
      have h1 := (hP a x hx).lt
      have h2 := (hrows b y hy).1
      omega)
  obtain ⟨t, a1, b1⟩ := kk H.size (fun j => H.size + 1 + j) F.heap locs ls hl hP2 hD2 ⟨by have h2 := hS.1; omega, fun q h1 h2 => (g4 q (Nat.lt_of_lt_of_le h1 hS.1)).trans (hS.2.1 q h1 h2), hS.2.2⟩ F rfl X'
  rw [hT] at step
  exact ⟨t, step t a1, b1⟩
end MULTI

