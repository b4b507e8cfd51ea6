theorem wq_L_8 : Cond.classLink "SuggestDeskLaw" 8 "SuggestDesk" ∈ AL := AL_in (List.mem_append_right _ (List.mem_of_getElem? (i := 19) (by decide +kernel))) (by decide +kernel)
theorem wt_S : Cond.instantiable "SuggestDesk" 8 ∈ AL := AL_in (List.mem_append_right _ (List.mem_of_getElem? (i := 20) (by decide +kernel))) (by decide +kernel)
theorem wl_L_69 : Cond.methodLink "SuggestDeskLaw" 69 y_S_init ∈ AL := AL_in (List.mem_append_right _ (List.mem_of_getElem? (i := 21) (by decide +kernel))) (by decide +kernel)
theorem wn_S_init : Cond.instanceMethod y_S_init ∈ AL := AL_in (List.mem_append_right _ (List.mem_of_getElem? (i := 22) (by decide +kernel))) (by decide +kernel)
theorem wc_S_init : Cond.code y_S_init b_S_init 2 none ∈ AL := AL_in (List.mem_append_right _ (List.mem_of_getElem? (i := 23) (by decide +kernel))) (by decide +kernel)
theorem wq_L_70 : Cond.classLink "SuggestDeskLaw" 70 "SuggestDeskModel" ∈ AL := AL_in (List.mem_append_right _ (List.mem_of_getElem? (i := 698) (by decide +kernel))) (by decide +kernel)
theorem wt_M : Cond.instantiable "SuggestDeskModel" 35 ∈ AL := AL_in (List.mem_append_right _ (List.mem_of_getElem? (i := 699) (by decide +kernel))) (by decide +kernel)
theorem wl_L_72 : Cond.methodLink "SuggestDeskLaw" 72 y_M_init ∈ AL := AL_in (List.mem_append_right _ (List.mem_of_getElem? (i := 700) (by decide +kernel))) (by decide +kernel)
theorem wn_M_init : Cond.instanceMethod y_M_init ∈ AL := AL_in (List.mem_append_right _ (List.mem_of_getElem? (i := 701) (by decide +kernel))) (by decide +kernel)
theorem wc_M_init : Cond.code y_M_init b_M_init 1 none ∈ AL := AL_in (List.mem_append_right _ (List.mem_of_getElem? (i := 702) (by decide +kernel))) (by decide +kernel)
theorem nw_L_8 : Nw "SuggestDeskLaw" 8 7 "SuggestDesk" T_S 8 := ⟨rfl, la_S, wq_L_8, wt_S, wi_S⟩
theorem nw_L_70 : Nw "SuggestDeskLaw" 70 8 "SuggestDeskModel" T_M 35 := ⟨rfl, la_M, wq_L_70, wt_M, wi_M⟩
theorem lk_L_69 : Lk "SuggestDeskLaw" 69 y_S_init := Or.inl wl_L_69
theorem lk_L_72 : Lk "SuggestDeskLaw" 72 y_M_init := Or.inl wl_L_72
theorem mw_S_init : Mw y_S_init b_S_init 2 none 0 := ⟨wc_S_init, wi_S, by decide, by decide, by decide +kernel⟩
theorem mw_M_init : Mw y_M_init b_M_init 1 none 0 := ⟨wc_M_init, wi_M, by decide, by decide, by decide +kernel⟩
theorem u9j0D : u9IvD 0 (fun _ => 0) (fun _ => 0) 0 (fun _ => 0) (fun _ => 0) :=
  ⟨0, rfl, rfl, Nat.zero_le _, fun i j _ h => absurd h (Nat.not_lt_zero j), List.Perm.nil, fun k h => absurd h (Nat.not_lt_zero k), fun k h => absurd h (Nat.not_lt_zero k)⟩
theorem u9j0t {α : Type} (a : α) (d : Nat) : u9tri a a a d = a := by
  unfold u9tri
  by_cases h : d = 0
  · rw [if_pos h]
  · rw [if_neg h]
    by_cases h : d = 1
    · rw [if_pos h]
    · rw [if_neg h]
theorem u9j0S : u9IvS 0 0 0 0 0 0 0 (fun _ => 0) (fun _ => 0) 0 0 0 0 0 (fun _ => 0) (fun _ => 0) 0 0 0 0 0 (fun _ => 0) (fun _ => 0) 0 0 (fun _ => 0) (fun _ => 0) (fun _ => 0) (fun _ => 0) (fun _ => 0) (fun _ => 0) (fun _ => 0) :=
  ⟨0, 0, rfl, rfl, rfl, Nat.le_refl 0, Nat.zero_le _, fun _ => rfl, fun h => absurd h (Nat.lt_irrefl 0), fun p h => absurd h (Nat.not_lt_zero p), fun p q _ h => absurd h (Nat.not_lt_zero q), fun d _ => Or.inl (u9j0t 0 d), fun p h => absurd h (Nat.not_lt_zero p), fun d e _ _ _ h => absurd (u9j0t 0 d) h⟩
theorem u9j0R : u9Bd g_Ruler_init_18 := by
  have h : ∀ i, i < 9 → g_Ruler_init_18 i 0 = u9qi i ∧ g_Ruler_init_18 0 i = u9qi i := by decide +kernel
  exact fun i hi => h i (Nat.lt_succ_of_le hi)
theorem u9j0G : u9IvG 0 (fun _ => 0) 0 (fun _ => 0) := ⟨0, rfl, rfl, Nat.zero_le _, fun k h => absurd h (Nat.not_lt_zero k)⟩
theorem u9j0P : u9IvP 0 0 (fun _ => 0) (fun _ => 0) (fun _ => 0) 0 (fun _ => 0) (fun _ => 0) (fun _ => 0) := ⟨0, rfl, rfl, Nat.zero_le _, fun k h => absurd h (Nat.not_lt_zero k)⟩
theorem u9j0H : u9IvH 0 (fun _ => 0) 0 (fun _ => 0) := ⟨0, rfl, rfl, Nat.zero_le _, fun k h => absurd h (Nat.not_lt_zero k)⟩
theorem w9k {s : State} {c : Nat} {d1 : ClassId} {d2 : Nat → Nat} (r : vw_C) (hr : vwCl[c]? = some r) (h : u_Kn s r.1 r.2.1 r.2.2 d1 d2) : ∃ d : ClassId × (Nat → Nat), ∀ q : vw_C, vwCl[c]? = some q → u_Kn s q.1 q.2.1 q.2.2 d.1 d.2 := by
  refine ⟨(d1, d2), fun q hq => ?_⟩
  have e : r = q := Option.some.inj (hr.symm.trans hq)
  subst e
  exact h
theorem w9D {b : Nat} {s : State} (m0 : ClassId) (hAL : ∀ w ∈ AL, w.before #[Value.ref b] s = true) : ∀ c : Nat, ∃ d : ClassId × (Nat → Nat), ∀ q : vw_C, vwCl[c]? = some q → u_Kn s q.1 q.2.1 q.2.2 d.1 d.2
  | 0 => by
    obtain ⟨d1, d2, h⟩ := u_known hAL la_Automaton (hAL _ wt_Automaton)
    exact w9k ("SuggestDesk$Automaton", T_Automaton, 6) rfl h
  | 1 => by
    obtain ⟨d1, d2, h⟩ := u_known hAL la_Dictionary (hAL _ wt_Dictionary)
    exact w9k ("SuggestDesk$Dictionary", T_Dictionary, 5) rfl h
  | 2 => by
    obtain ⟨d1, d2, h⟩ := u_known hAL la_Pairs (hAL _ wt_Pairs)
    exact w9k ("SuggestDesk$Pairs", T_Pairs, 4) rfl h
  | 3 => by
    obtain ⟨d1, d2, h⟩ := u_known hAL la_Phrase (hAL _ wt_Phrase)
    exact w9k ("SuggestDesk$Phrase", T_Phrase, 8) rfl h
  | 4 => by
    obtain ⟨d1, d2, h⟩ := u_known hAL la_Ruler (hAL _ wt_Ruler)
    exact w9k ("SuggestDesk$Ruler", T_Ruler, 1) rfl h
  | 5 => by
    obtain ⟨d1, d2, h⟩ := u_known hAL la_Suggestions (hAL _ wt_Suggestions)
    exact w9k ("SuggestDesk$Suggestions", T_Suggestions, 4) rfl h
  | 6 => by
    obtain ⟨d1, d2, h⟩ := u_known hAL la_WordList (hAL _ wt_WordList)
    exact w9k ("SuggestDesk$WordList", T_WordList, 3) rfl h
  | 7 => by
    obtain ⟨d1, d2, h⟩ := u_known hAL la_S (hAL _ wt_S)
    exact w9k ("SuggestDesk", T_S, 8) rfl h
  | 8 => by
    obtain ⟨d1, d2, h⟩ := u_known hAL la_M (hAL _ wt_M)
    exact w9k ("SuggestDeskModel", T_M, 35) rfl h
  | n + 9 => ⟨(m0, fun _ => 0), fun q hq => by
    have e : (none : Option vw_C) = some q := hq
    cases e⟩
def w9tc (t0 t1 t2 t3 t4 : ClassId) : Nat → ClassId
  | 0 => t0
  | 1 => t1
  | 2 => t2
  | 3 => t3
  | _ => t4
theorem w9K {b : Nat} {s : State} (m0 : ClassId) (hts : ∀ w ∈ lw_tbl, w.before #[Value.ref b] s = true) : ∃ (D : va_G) (tc : Nat → ClassId), va_K D vwCl (TY tc) s := by
  have hAL : ∀ w ∈ AL, w.before #[Value.ref b] s = true := fun w h => hts w (List.mem_filter.mp h).1
  have hN : ∀ w ∈ NWs, w.before #[Value.ref b] s = true := fun w h => hts w (List.mem_filter.mp h).1
  have hD := w9D m0 hAL
  obtain ⟨t0, a0, r0⟩ := w9ac (hAL _ wa_int)
  obtain ⟨t1, a1, r1⟩ := w9ac (hAL _ wa_long)
  obtain ⟨t2, a2, r2⟩ := w9ao (hN _ wao_D)
  obtain ⟨t3, a3, r3⟩ := w9aa (hN _ wao_int)
  obtain ⟨t4, a4, r4⟩ := w9aa (hN _ wao_long)
  refine ⟨(fun c => (Classical.choose (hD c)).1, fun c => (Classical.choose (hD c)).2), w9tc t0 t1 t2 t3 t4, fun c q hq => Classical.choose_spec (hD c) q hq, fun k q hk => ?_⟩
  match k, hk with
  | 0, hk => have e : some (t0, FieldType.int) = some q := hk; cases e; exact ⟨a0, r0⟩
  | 1, hk => have e : some (t1, FieldType.long) = some q := hk; cases e; exact ⟨a1, r1⟩
  | 2, hk => have e : some (t2, FieldType.object "SuggestDesk$Dictionary") = some q := hk; cases e; exact ⟨a2, r2⟩
  | 3, hk => have e : some (t3, FieldType.array .int) = some q := hk; cases e; exact ⟨a3, r3⟩
  | 4, hk => have e : some (t4, FieldType.array .long) = some q := hk; cases e; exact ⟨a4, r4⟩
  | n + 5, hk => have e : (none : Option (ClassId × FieldType)) = some q := hk; cases e
theorem w9NW {b : Nat} {s : State} (hts : ∀ w ∈ lw_tbl, w.before #[Value.ref b] s = true) : ∀ w ∈ NWs, va_Nw w s := fun w hw => by
  have h1 := hts w (List.mem_filter.mp hw).1
  have h2 := (List.mem_filter.mp hw).2
  cases w <;> first | (simp [go_nest] at h2; done) | exact va_Nw.of rfl h1 | (simp only [va_Nw, Cond.before, Cond.holds, Cond.value] at h1 ⊢; exact h1)
