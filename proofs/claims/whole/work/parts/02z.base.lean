def go_nest : Cond → Bool
  | .methodLinkNest .. => true
  | .fieldLinkNest .. => true
  | .arrayOver _ => true
  | _ => false
def AL : List Cond := lw_tbl.filter goodWord
def NWs : List Cond := lw_tbl.filter go_nest
theorem AL_in {w : Cond} (h : w ∈ lw_tbl) (hg : goodWord w = true) : w ∈ AL := List.mem_filter.mpr ⟨h, hg⟩
theorem NW_in {w : Cond} (h : w ∈ lw_tbl) (hg : go_nest w = true) : w ∈ NWs := List.mem_filter.mpr ⟨h, hg⟩
theorem AL_goodIn {cw : Cond} (h : cw ∈ AL) : GoodIn AL (cw :: AL) := fun w hw => by
  rcases List.mem_cons.mp hw with rfl | hw
  · exact ⟨h, good_of_word (List.mem_filter.mp h).2⟩
  · exact ⟨hw, good_of_word (List.mem_filter.mp hw).2⟩
theorem NW_warm {s U : State} (hW : s.WarmedH U.vm) (h : ∀ w ∈ NWs, va_Nw w s) : ∀ w ∈ NWs, va_Nw w U := fun w hw => by
  have h1 := h w hw
  have h2 := (List.mem_filter.mp hw).2
  cases w <;> first | (simp [go_nest] at h2; done) | exact va_Nw.warmM hW h1 | exact va_Nw.warmF hW h1 | exact (Cond.arrayOver_setVmC hW.alike _).trans h1
theorem NW_same {s U : State} (hv : s.vm = U.vm) (h : ∀ w ∈ NWs, va_Nw w s) : ∀ w ∈ NWs, va_Nw w U := fun w hw =>
  NW_warm (by rw [← hv]; exact State.WarmedH.refl s) h w hw
/-- a field's link: the class's own, or a nest mate's -/
def Fl (own : String) (idx ci k : Nat) (C : String) (T : u_T) (N : Nat) : Prop := vwCl[ci]? = some (C, T, N) ∧ k < N ∧ (∀ w ∈ u_ws C T N, w ∈ AL) ∧ (Cond.fieldLink own idx (T k).1 (T k).2.1 (T k).2.2.1 ∈ AL ∨ ∃ host, Cond.fieldLinkNest own idx (T k).1 (T k).2.1 (T k).2.2.1 host ∈ NWs)
/-- what a store into field k of the class needs of its table -/
def Fs (k : Nat) (T : u_T) (N : Nat) (ty : Nat → FieldType) : Prop := (∀ k, k < N → parseFieldDescriptor (T k).2.2.1 = some (ty k)) ∧ (∀ a, a < N → ∀ b, b < N → a ≠ b → (T a).2.1 ≠ (T b).2.1)
/-- what 'new' needs of a class -/
def Nw (own : String) (idx ci : Nat) (CC : String) (T : u_T) (N : Nat) : Prop := vwCl[ci]? = some (CC, T, N) ∧ (∀ w ∈ u_ws CC T N, w ∈ AL) ∧ Cond.classLink own idx CC ∈ AL ∧ Cond.instantiable CC N ∈ AL ∧ Cond.initialized CC ∈ AL
/-- a call's link -/
def Lk (own : String) (idx : Nat) (y : MethodName) : Prop := Cond.methodLink own idx y ∈ AL ∨ ∃ host, Cond.methodLinkNest own idx y host ∈ NWs
/-- a method's own words -/
def Mw (y : MethodName) (cc : ByteArray) (maxL : Nat) (ret : Option FieldType) (np : Nat) : Prop := Cond.code y cc maxL ret ∈ AL ∧ Cond.initialized y.cls ∈ AL ∧ y.cls ≠ "java/lang/invoke/MethodHandle" ∧ y.cls ≠ "java/lang/invoke/VarHandle" ∧ (parseMethodDescriptor y.desc).map (fun d => d.parameters.length) = some np
