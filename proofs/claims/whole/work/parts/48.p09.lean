def u9ls {α : Type} (f : Nat → α) (n : Nat) : List α := (List.range n).map f
theorem u9ls_succ {α : Type} (f : Nat → α) (n : Nat) : u9ls f (n + 1) = u9ls f n ++ [f n] := by
  simp [u9ls, List.range_succ]
theorem u9ls_congr {α : Type} {f g : Nat → α} {n : Nat} (h : ∀ i, i < n → f i = g i) : u9ls f n = u9ls g n := by
  unfold u9ls; apply List.map_congr_left; intro i hi; exact h i (List.mem_range.1 hi)
theorem u9ls_mem {α : Type} {f : Nat → α} {n : Nat} {x : α} : x ∈ u9ls f n ↔ ∃ i, i < n ∧ f i = x := by
  simp [u9ls, List.mem_map]
theorem u9ls_len {α : Type} (f : Nat → α) (n : Nat) : (u9ls f n).length = n := by simp [u9ls]
theorem u9ls_ins {α : Type} {f f' : Nat → α} {x : α} : ∀ n k, k ≤ n → (∀ i, i < k → f' i = f i) → f' k = x → (∀ i, k < i → i ≤ n → f' i = f (i - 1)) → (u9ls f' (n + 1)).Perm (x :: u9ls f n) := by
  intro n
  induction n with
  | zero =>
    intro k hk h1 h2 h3
    obtain rfl : k = 0 := by omega
    rw [u9ls_succ]; simp [u9ls, h2]
  | succ n ih =>
    intro k hk h1 h2 h3
    by_cases hkn : k = n + 1
    · subst hkn
      rw [u9ls_succ, h2, u9ls_congr h1]
      exact List.perm_append_comm
    · rw [u9ls_succ, h3 (n + 1) (by omega) (Nat.le_refl _), u9ls_succ f n]
      simp only [Nat.add_sub_cancel]
      exact (ih k (by omega) h1 h2 (fun i hi hin => h3 i hi (by omega))).append_right [f n]
theorem u9ls_set {α : Type} {g g' : Nat → α} {y : α} {k : Nat} (h1 : g' k = y) (h2 : ∀ i, i ≠ k → g' i = g i) : ∀ m, k < m → (y :: u9ls g m).Perm (g k :: u9ls g' m) := by
  intro m
  induction m with
  | zero => intro h; omega
  | succ m ih =>
    intro hk
    rw [u9ls_succ, u9ls_succ]
    by_cases hkm : k = m
    · subst hkm
      rw [h1, u9ls_congr (f := g') (g := g) (fun i hi => h2 i (by omega))]
      have a1 : (y :: (u9ls g k ++ [g k])).Perm (y :: g k :: u9ls g k) := List.Perm.cons y List.perm_append_comm
      have a2 : (g k :: (u9ls g k ++ [y])).Perm (g k :: y :: u9ls g k) := List.Perm.cons _ List.perm_append_comm
      exact a1.trans ((List.Perm.swap _ _ _).trans a2.symm)
    · rw [h2 m (by omega)]
      have := (ih (by omega)).append_right [g m]
      simpa using this
def u9e9 (v : Int32) : Int32 := 9999 - v
def u9DR (n : Nat) (u9tx : Nat → Int64) (cs : Nat → Int32) (dr : Nat → Int64) (u9wt : Nat → Int32) : Prop :=
  n ≤ 24 ∧ u9Srt n u9tx ∧ (u9ls (fun i => (u9tx i, cs i)) n).Perm (u9ls (fun k => (u9T (dr k), (9999 : Int32) - u9wt k)) n) ∧ (∀ k, k < n → u9okW (dr k) = true) ∧ (∀ k, k < n → ∃ v, v ≤ 9999 ∧ u9wt k = u9qi v)
theorem u9okW_B {w : Int64} (h : u9okW w = true) : u9okB (u9un w) = true := by
  unfold u9okW at h; simp at h; exact h.2
theorem u9DR_of {n u9tx cs dr u9wt} (h : u9DR n u9tx cs dr u9wt) {k : Nat} (hk : k < n) : ∃ i, i < n ∧ u9tx i = u9T (dr k) ∧ cs i = 9999 - u9wt k := by
  have := (h.2.2.1.mem_iff (a := (u9T (dr k), (9999 : Int32) - u9wt k))).2 (u9ls_mem.2 ⟨k, hk, rfl⟩)
  obtain ⟨i, hi, he⟩ := u9ls_mem.1 this
  exact ⟨i, hi, (Prod.mk.inj he).1, (Prod.mk.inj he).2⟩
theorem u9DR_to {n u9tx cs dr u9wt} (h : u9DR n u9tx cs dr u9wt) {i : Nat} (hi : i < n) : ∃ k, k < n ∧ u9tx i = u9T (dr k) ∧ cs i = 9999 - u9wt k := by
  have := (h.2.2.1.mem_iff (a := (u9tx i, cs i))).1 (u9ls_mem.2 ⟨i, hi, rfl⟩)
  obtain ⟨k, hk, he⟩ := u9ls_mem.1 this
  exact ⟨k, hk, (Prod.mk.inj he).1.symm, (Prod.mk.inj he).2.symm⟩
theorem u9Srt_inj {n : Nat} {u9tx : Nat → Int64} (h : u9Srt n u9tx) {i j : Nat} (hi : i < n) (hj : j < n) (he : u9tx i = u9tx j) : i = j := by
  rcases Nat.lt_trichotomy i j with h1 | h1 | h1
  · have := h i j h1 hj; rw [he] at this; exact (u9i64_irrefl this).elim
  · exact h1
  · have := h j i h1 hi; rw [he] at this; exact (u9i64_irrefl this).elim
theorem u9q_sub9 {v : Nat} (h : v ≤ 9999) : (9999 : Int32) - u9qi v = u9qi (9999 - v) := by
  rw [u9qi_lit, u9qi_sub (by omega)]
theorem u9DR_inj {n u9tx cs dr u9wt} (h : u9DR n u9tx cs dr u9wt) {k j : Nat} (hk : k < n) (hj : j < n) (he : dr k = dr j) : k = j := by
  have hnd : (u9ls (fun k => u9T (dr k)) n).Nodup := by
    have e1 : (u9ls (fun k => u9T (dr k)) n) = (u9ls (fun k => (u9T (dr k), (9999 : Int32) - u9wt k)) n).map Prod.fst := by simp [u9ls, Function.comp_def]
    have e2 : (u9ls (fun i => (u9tx i, cs i)) n).map Prod.fst = u9ls u9tx n := by simp [u9ls, Function.comp_def]
    rw [e1]
    refine (h.2.2.1.map Prod.fst).nodup ?_
    rw [e2]
    unfold u9ls List.Nodup
    rw [List.pairwise_map]
    refine List.Pairwise.imp_of_mem ?_ List.pairwise_lt_range
    intro a b ha hb hab hc
    have := h.2.1 a b hab (List.mem_range.1 hb)
    rw [hc] at this; exact u9i64_irrefl this
  unfold u9ls List.Nodup at hnd
  rw [List.pairwise_map] at hnd
  have key : ∀ a b, a < n → b < n → a < b → dr a ≠ dr b := by
    intro a b ha hb hab hc
    have hh := List.pairwise_iff_getElem.1 hnd a b (by simpa using ha) (by simpa using hb) hab
    simp only [List.getElem_range] at hh
    rw [hc] at hh; exact hh rfl
  rcases Nat.lt_trichotomy k j with h1 | h1 | h1
  · exact absurd he (key k j hk hj h1)
  · exact h1
  · exact absurd he.symm (key j k hj hk h1)
theorem u9q_Mw_k {n : Nat} (hn : n ≤ 24) (a0 : Int64) (a1 : Int32) (th : Int32) (dr : Nat → Int64) (u9wt : Nat → Int32) (l4 : Int32) : ∀ r k, k + r = n → (∀ i, i < k → dr i ≠ a0) → ∀ fu, r < fu → (∃ i, i < n ∧ dr i = a0 ∧ f_M_word_28 a0 a1 th (u9qi n) dr u9wt l4 fu (u9qi k) = some (u9qi i)) ∨ ((∀ i, i < n → dr i ≠ a0) ∧ f_M_word_28 a0 a1 th (u9qi n) dr u9wt l4 fu (u9qi k) = some (u9qi n)) := by
  intro r
  induction r with
  | zero =>
    intro k hk hb fu hf
    obtain ⟨fu, rfl⟩ : ∃ m, fu = m + 1 := ⟨fu - 1, by omega⟩
    obtain rfl : k = n := by omega
    refine Or.inr ⟨hb, ?_⟩
    simp only [f_M_word_28, f_M_word_28b]
    rw [if_pos (by rw [u9qi_le (by omega) (by omega)]; omega)]
  | succ r ih =>
    intro k hk hb fu hf
    obtain ⟨fu, rfl⟩ : ∃ m, fu = m + 1 := ⟨fu - 1, by omega⟩
    simp only [f_M_word_28, f_M_word_28b]
    rw [if_neg (by rw [u9qi_le (by omega) (by omega)]; omega), if_pos (by rw [u9qi_ok _ (by omega)]; omega), u9qi_cl (by omega)]
    by_cases h : dr k = a0
    · rw [if_pos h]; exact Or.inl ⟨k, by omega, h, rfl⟩
    · rw [if_neg h, show u9qi k + 1 = u9qi (k + 1) by rw [u9qi_lit, u9qi_add]]
      refine ih (k + 1) (by omega) (fun i hi => ?_) fu (by omega)
      by_cases hik : i < k
      · exact hb i hik
      · obtain rfl : i = k := by omega
        exact h
theorem u9q_throwing (th : Int32) : f_M_throwing th 0 0 = some (0, 0) ∧ f_M_throwing th 1 0 = some (1, 1) ∧ f_M_throwing th 0 1 = some (1, 2) ∧ f_M_throwing th 1 1 = some (1, 1) := by
  refine ⟨?_, ?_, ?_, ?_⟩ <;> simp [f_M_throwing, f_M_throwing_18]
theorem u9q_Mw_bad {n : Nat} (hn : n ≤ 24) (a0 : Int64) (a1 th : Int32) (dr : Nat → Int64) (u9wt : Nat → Int32) : f_M_word_23 a0 a1 th (u9qi n) dr u9wt 1 = some (0, 1, u9qi n, dr, u9wt) := by
  unfold f_M_word_23
  rcases u9q_Mw_k hn a0 a1 th dr u9wt 1 n 0 (by omega) (fun i hi => absurd hi (by omega)) FU (by unfold FU; omega) with ⟨i, hi, hd, h⟩ | ⟨hno, h⟩
  all_goals
    have h' := h
    rw [show (u9qi 0 : Int32) = 0 from rfl] at h'
    rw [h']
    simp only [Option.bind_some]
    unfold f_M_word_55 f_M_word_70
    simp only [(u9q_throwing th).2.1, (u9q_throwing th).2.2.2, Option.bind_some]
    split <;> simp
theorem u9q_Mw_good {n : Nat} (hn : n ≤ 24) (a0 : Int64) (a1 th : Int32) (dr : Nat → Int64) (u9wt : Nat → Int32) :
    (∃ i, i < n ∧ dr i = a0 ∧ f_M_word_23 a0 a1 th (u9qi n) dr u9wt 0 = some (u9qi n, 0, u9qi n, vp_updL dr i a0, upd u9wt i a1)) ∨
    ((∀ i, i < n → dr i ≠ a0) ∧ n = 24 ∧ f_M_word_23 a0 a1 th (u9qi n) dr u9wt 0 = some (0, 2, u9qi n, dr, u9wt)) ∨
    ((∀ i, i < n → dr i ≠ a0) ∧ n < 24 ∧ f_M_word_23 a0 a1 th (u9qi n) dr u9wt 0 = some (u9qi (n + 1), 0, u9qi (n + 1), vp_updL dr n a0, upd u9wt n a1)) := by
  unfold f_M_word_23
  rcases u9q_Mw_k hn a0 a1 th dr u9wt 0 n 0 (by omega) (fun i hi => absurd hi (by omega)) FU (by unfold FU; omega) with ⟨i, hi, hd, h⟩ | ⟨hno, h⟩
  · refine Or.inl ⟨i, hi, hd, ?_⟩
    have h' := h
    rw [show (u9qi 0 : Int32) = 0 from rfl] at h'
    rw [h']
    simp only [Option.bind_some]
    unfold f_M_word_55 f_M_word_70 f_M_word_97
    have o1 : okI (u9qi i) 24 = true := by rw [u9qi_ok _ (by omega)]; omega
    rw [if_neg (by rw [u9qi_lit, u9qi_eq (by omega) (by omega)]; show ¬ (i = 24); omega)]
    simp only [(u9q_throwing th).1, Option.bind_some, if_true, o1, u9qi_cl (show i < 2147483648 by omega)]
    rw [if_neg (by rw [u9qi_eq (by omega) (by omega)]; omega)]
  · have h' := h
    rw [show (u9qi 0 : Int32) = 0 from rfl] at h'
    by_cases h24 : n = 24
    · refine Or.inr (Or.inl ⟨hno, h24, ?_⟩)
      rw [h']
      simp only [Option.bind_some]
      unfold f_M_word_55 f_M_word_70
      rw [if_pos (by rw [h24]; rfl)]
      simp only [(u9q_throwing th).2.2.1, Option.bind_some]
      rw [if_neg (by decide)]
    · refine Or.inr (Or.inr ⟨hno, by omega, ?_⟩)
      rw [h']
      simp only [Option.bind_some]
      unfold f_M_word_55 f_M_word_70 f_M_word_97
      have o1 : okI (u9qi n) 24 = true := by rw [u9qi_ok _ (by omega)]; omega
      rw [if_neg (by rw [u9qi_lit, u9qi_eq (by omega) (by omega)]; exact h24)]
      simp only [(u9q_throwing th).1, Option.bind_some, if_true, o1, u9qi_cl (show n < 2147483648 by omega)]
      rw [show u9qi n + 1 = u9qi (n + 1) by rw [u9qi_lit, u9qi_add]]
theorem u9DR_has {n u9tx cs dr u9wt} (h : u9DR n u9tx cs dr u9wt) {a : Int64} (ha : u9okW a = true) : (∃ i, i < n ∧ u9tx i = u9T a) ↔ (∃ k, k < n ∧ dr k = a) := by
  constructor
  · rintro ⟨i, hi, he⟩
    obtain ⟨k, hk, h1, _⟩ := u9DR_to h hi
    refine ⟨k, hk, ?_⟩
    rw [he] at h1
    exact ((u9T_inj (u9okW_B ha) (u9okW_B (h.2.2.2.1 k hk))).mp h1).symm
  · rintro ⟨k, hk, he⟩
    obtain ⟨i, hi, h1, _⟩ := u9DR_of h hk
    exact ⟨i, hi, by rw [h1, he]⟩
theorem u9n10 : ¬ ((1 : Int32) = 0) := by decide
theorem u9qw_word {n u9tx cs dr u9wt} (h : u9DR n u9tx cs dr u9wt) (a : Int64) (b : Int32) (th : Int32) :
    ∃ k ans n' tx' cs' dr' wt' th', f_S_word (u9qi n) u9tx cs a b = some (k, ans, u9qi n', tx', cs') ∧ f_M_word th (u9qi n) dr u9wt a b = some (ans, th', u9qi n', dr', wt') ∧ u9DR n' tx' cs' dr' wt' ∧ ((k = 0 ∧ th' = 0) ∨ (k = 1 ∧ th' = 1) ∨ (k = 2 ∧ th' = 2)) := by
  have hn := h.1
  unfold f_S_word f_M_word
  rw [u9q_isW, u9q_isMW]
  simp only [Option.bind_some]
  by_cases hw : u9okW a = true
  · simp only [hw, if_true, u9n10, if_false]
    by_cases hb0 : b < 0
    · simp only [hb0, if_true]
      unfold f_S_word_28 f_M_word_18
      rw [u9q_Mw_bad hn]
      exact ⟨1, 0, n, u9tx, cs, dr, u9wt, 1, rfl, rfl, h, Or.inr (Or.inl ⟨rfl, rfl⟩)⟩
    · simp only [hb0, if_false]
      by_cases hb9 : b ≤ 9999
      · simp only [hb9, if_true]
        have hbq : ∃ v, v ≤ 9999 ∧ b = u9qi v := by
          refine ⟨b.toNatClampNeg, ?_, ?_⟩
          · rw [Int32.le_iff_toInt_le] at hb9
            have : (9999 : Int32).toInt = 9999 := by decide
            unfold Int32.toNatClampNeg; omega
          · rw [Int32.lt_iff_toInt_lt] at hb0
            have h0 : (0 : Int32).toInt = 0 := by decide
            have h1 : b.toInt < 2147483648 := by have := b.toInt_lt; simpa using this
            apply Int32.toInt_inj.1
            rw [u9qi_toInt (by unfold Int32.toNatClampNeg; omega)]
            unfold Int32.toNatClampNeg; omega
        obtain ⟨v, hv, rfl⟩ := hbq
        rw [u9q_of]
        simp only [Option.bind_some]
        rcases u9q_put hn cs h.2.1 (u9T a) (9999 - u9qi v) with ⟨i, hi, he, hp⟩ | ⟨hno, h24, hp⟩ | ⟨hno, h24, at', tx', cs', hat, hp, g1, g2, g3, g4, g5⟩
        · -- the word is there
          obtain ⟨k, hk, hdk⟩ := (u9DR_has h hw).1 ⟨i, hi, he⟩
          rcases u9q_Mw_good hn a (u9qi v) th dr u9wt with ⟨k', hk', hdk', hm⟩ | ⟨hno', _, _⟩ | ⟨hno', _, _⟩
          · rw [hp, hm]
            refine ⟨0, u9qi n, n, u9tx, upd cs i (9999 - u9qi v), vp_updL dr k' a, upd u9wt k' (u9qi v), 0, ?_, rfl, ?_, Or.inl ⟨rfl, rfl⟩⟩
            · simp only [Option.bind_some]; rw [if_neg (by decide)]; rfl
            · refine ⟨hn, h.2.1, ?_, ?_, ?_⟩
              · have f1 : ∀ j, j ≠ i → (fun j => (u9tx j, upd cs i (9999 - u9qi v) j)) j = (fun j => (u9tx j, cs j)) j := by
                  intro j hj; simp [upd, hj]
                have p1 := u9ls_set (g := fun j => (u9tx j, cs j)) (g' := fun j => (u9tx j, upd cs i (9999 - u9qi v) j)) (y := (u9T a, 9999 - u9qi v)) (k := i) (by simp [upd, he]) f1 n hi
                have f2 : ∀ j, j ≠ k' → (fun j => (u9T (vp_updL dr k' a j), (9999 : Int32) - upd u9wt k' (u9qi v) j)) j = (fun j => (u9T (dr j), (9999 : Int32) - u9wt j)) j := by
                  intro j hj; simp [upd, vp_updL, hj]
                have p2 := u9ls_set (g := fun j => (u9T (dr j), (9999 : Int32) - u9wt j)) (g' := fun j => (u9T (vp_updL dr k' a j), (9999 : Int32) - upd u9wt k' (u9qi v) j)) (y := (u9T a, 9999 - u9qi v)) (k := k') (by simp [upd, vp_updL]) f2 n hk'
                have heq : (u9tx i, cs i) = (u9T (dr k'), (9999 : Int32) - u9wt k') := by
                  obtain ⟨i', hi', e1, e2⟩ := u9DR_of h hk'
                  have : i' = i := u9Srt_inj h.2.1 hi' hi (by rw [e1, he, hdk'])
                  subst this
                  rw [e1, e2]
                have p3 : ((u9tx i, cs i) :: u9ls (fun j => (u9tx j, upd cs i (9999 - u9qi v) j)) n).Perm ((u9tx i, cs i) :: u9ls (fun j => (u9T (vp_updL dr k' a j), (9999 : Int32) - upd u9wt k' (u9qi v) j)) n) := by
                  refine p1.symm.trans ((h.2.2.1.cons _).trans ?_)
                  rw [heq]; exact p2
                exact p3.cons_inv
              · intro j hj
                simp only [vp_updL]
                split
                · exact hw
                · exact h.2.2.2.1 j hj
              · intro j hj
                simp only [upd]
                split
                · exact ⟨v, hv, rfl⟩
                · exact h.2.2.2.2 j hj
          · exact absurd hdk (hno' k hk)
          · exact absurd hdk (hno' k hk)
        · -- full
          have hno2 : ∀ k, k < n → dr k ≠ a := fun k hk hc => by
            obtain ⟨i, hi, he⟩ := (u9DR_has h hw).2 ⟨k, hk, hc⟩
            exact hno i hi he
          rcases u9q_Mw_good hn a (u9qi v) th dr u9wt with ⟨k', hk', hdk', hm⟩ | ⟨hno', _, hm⟩ | ⟨hno', h24', _⟩
          · exact absurd hdk' (hno2 k' hk')
          · rw [hp, hm]
            exact ⟨2, 0, n, u9tx, cs, dr, u9wt, 2, by simp, rfl, h, Or.inr (Or.inr ⟨rfl, rfl⟩)⟩
          · omega
        · have hno2 : ∀ k, k < n → dr k ≠ a := fun k hk hc => by
            obtain ⟨i, hi, he⟩ := (u9DR_has h hw).2 ⟨k, hk, hc⟩
            exact hno i hi he
          rcases u9q_Mw_good hn a (u9qi v) th dr u9wt with ⟨k', hk', hdk', hm⟩ | ⟨hno', h24', hm⟩ | ⟨hno', _, hm⟩
          · exact absurd hdk' (hno2 k' hk')
          · omega
          · rw [hp, hm]
            refine ⟨0, u9qi (n + 1), n + 1, tx', cs', vp_updL dr n a, upd u9wt n (u9qi v), 0, ?_, rfl, ?_, Or.inl ⟨rfl, rfl⟩⟩
            · simp only [Option.bind_some]; rw [if_neg (by decide)]; rfl
            · refine ⟨by omega, ?_, ?_, ?_, ?_⟩
              · intro i j hij hj
                rcases Nat.lt_trichotomy j at' with hja | hja | hja
                · rw [(g1 i (by omega)).1, (g1 j hja).1]; exact h.2.1 i j hij (by omega)
                · subst hja
                  rw [(g1 i hij).1, g2.1]; exact g4 i hij
                · rw [(g3 j hja (by omega)).1]
                  rcases Nat.lt_trichotomy i at' with hia | hia | hia
                  · rw [(g1 i hia).1]; exact h.2.1 i (j - 1) (by omega) (by omega)
                  · subst hia; rw [g2.1]; exact g5 (j - 1) (by omega) (by omega)
                  · rw [(g3 i hia (by omega)).1]; exact h.2.1 (i - 1) (j - 1) (by omega) (by omega)
              · have p1 := u9ls_ins (f := fun i => (u9tx i, cs i)) (f' := fun i => (tx' i, cs' i)) (x := (u9T a, 9999 - u9qi v)) n at' hat (fun i hi => by simp only [(g1 i hi).1, (g1 i hi).2]) (by simp only [g2.1, g2.2]) (fun i hi hin => by simp only [(g3 i hi hin).1, (g3 i hi hin).2])
                have p2 := u9ls_ins (f := fun j => (u9T (dr j), (9999 : Int32) - u9wt j)) (f' := fun j => (u9T (vp_updL dr n a j), (9999 : Int32) - upd u9wt n (u9qi v) j)) (x := (u9T a, 9999 - u9qi v)) n n (Nat.le_refl _) (fun i hi => by simp only [vp_updL, upd]; rw [if_neg (by omega), if_neg (by omega)]) (by simp [vp_updL, upd]) (fun i hi hin => by omega)
                exact p1.trans ((h.2.2.1.cons _).trans p2.symm)
              · intro j hj
                simp only [vp_updL]
                split
                · exact hw
                · exact h.2.2.2.1 j (by omega)
              · intro j hj
                simp only [upd]
                split
                · exact ⟨v, hv, rfl⟩
                · exact h.2.2.2.2 j (by omega)
      · simp only [hb9, if_false]
        unfold f_S_word_28 f_M_word_18
        rw [u9q_Mw_bad hn]
        exact ⟨1, 0, n, u9tx, cs, dr, u9wt, 1, rfl, rfl, h, Or.inr (Or.inl ⟨rfl, rfl⟩)⟩
  · have hw' : u9okW a = false := by simpa using hw
    simp only [hw']
    unfold f_M_word_18
    rw [u9q_Mw_bad hn]
    exact ⟨1, 0, n, u9tx, cs, dr, u9wt, 1, rfl, rfl, h, Or.inr (Or.inl ⟨rfl, rfl⟩)⟩
