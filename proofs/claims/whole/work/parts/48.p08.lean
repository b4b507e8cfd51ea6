theorem u9i64_lt_of {a b : Int64} (h : ¬ a ≤ b) : b < a := by
  rw [Int64.le_iff_toInt_le] at h; rw [Int64.lt_iff_toInt_lt]; omega
theorem u9i64_asymm {a b : Int64} (h : a < b) (h2 : b ≤ a) : False := by
  rw [Int64.le_iff_toInt_le] at h2; rw [Int64.lt_iff_toInt_lt] at h; omega
theorem u9i64_irrefl {a : Int64} (h : a < a) : False := by
  rw [Int64.lt_iff_toInt_lt] at h; omega
theorem u9i64_trans {a b c : Int64} (h : a < b) (h2 : b < c) : a < c := by
  rw [Int64.lt_iff_toInt_lt] at *; omega
theorem u9i64_le_lt {a b c : Int64} (h : a ≤ b) (h2 : b < c) : a < c := by
  rw [Int64.le_iff_toInt_le] at h; rw [Int64.lt_iff_toInt_lt] at *; omega
theorem u9i64_le_ne {a b : Int64} (h : a ≤ b) (h2 : b ≠ a) : a < b := by
  rw [Int64.le_iff_toInt_le] at h; rw [Int64.lt_iff_toInt_lt]
  have : a.toInt ≠ b.toInt := fun hh => h2 (Int64.toInt_inj.1 hh).symm
  omega
def u9Srt (n : Nat) (u9tx : Nat → Int64) : Prop := ∀ i j, i < j → j < n → u9tx i < u9tx j
theorem u9q_fnb_k {n : Nat} (hn : n ≤ 24) (u9tx : Nat → Int64) (a : Int64) : ∀ r k, k + r = n → (∀ i, i < k → u9tx i < a) → ∀ fu, r < fu → ∃ at', at' ≤ n ∧ f_WordList_firstNotBefore_2 (u9qi n) u9tx a fu (u9qi k) = some (u9qi at') ∧ (∀ i, i < at' → u9tx i < a) ∧ (at' < n → a ≤ u9tx at') := by
  intro r
  induction r with
  | zero =>
    intro k hk hb fu hf
    obtain ⟨fu, rfl⟩ : ∃ m, fu = m + 1 := ⟨fu - 1, by omega⟩
    obtain rfl : k = n := by omega
    refine ⟨k, Nat.le_refl _, ?_, hb, fun h => absurd h (by omega)⟩
    simp only [f_WordList_firstNotBefore_2, f_WordList_firstNotBefore_2b]
    rw [if_pos (by rw [u9qi_le (by omega) (by omega)]; omega)]
  | succ r ih =>
    intro k hk hb fu hf
    obtain ⟨fu, rfl⟩ : ∃ m, fu = m + 1 := ⟨fu - 1, by omega⟩
    simp only [f_WordList_firstNotBefore_2, f_WordList_firstNotBefore_2b]
    rw [if_neg (by rw [u9qi_le (by omega) (by omega)]; omega), if_pos (by rw [u9qi_ok _ (by omega)]; omega), u9qi_cl (by omega)]
    by_cases h : a ≤ u9tx k
    · rw [if_pos h]; exact ⟨k, by omega, rfl, hb, fun _ => h⟩
    · rw [if_neg h, show u9qi k + 1 = u9qi (k + 1) by rw [u9qi_lit, u9qi_add]]
      refine ih (k + 1) (by omega) (fun i hi => ?_) fu (by omega)
      by_cases hik : i < k
      · exact hb i hik
      · obtain rfl : i = k := by omega
        exact u9i64_lt_of h
theorem u9q_fnb {n : Nat} (hn : n ≤ 24) (u9tx : Nat → Int64) (a : Int64) : ∃ at', at' ≤ n ∧ f_WordList_firstNotBefore (u9qi n) u9tx a = some (u9qi at') ∧ (∀ i, i < at' → u9tx i < a) ∧ (at' < n → a ≤ u9tx at') := by
  obtain ⟨at', h1, h2, h3⟩ := u9q_fnb_k hn u9tx a n 0 (by omega) (fun i hi => absurd hi (by omega)) FU (by unfold FU; omega)
  refine ⟨at', h1, ?_, h3⟩
  unfold f_WordList_firstNotBefore
  have h2' : f_WordList_firstNotBefore_2 (u9qi n) u9tx a FU 0 = some (u9qi at') := h2
  rw [h2']; rfl
theorem u9q_fnb_none {n at' : Nat} {u9tx : Nat → Int64} {a : Int64} (hs : u9Srt n u9tx) (h1 : ∀ i, i < at' → u9tx i < a) (h2 : at' < n → a ≤ u9tx at') (h3 : at' < n → u9tx at' ≠ a) : ∀ i, i < n → u9tx i ≠ a := by
  intro i hi he
  by_cases hia : i < at'
  · have := h1 i hia; rw [he] at this; exact u9i64_irrefl this
  · by_cases hie : i = at'
    · subst hie; exact h3 hi he
    · have hlt : u9tx at' < u9tx i := hs at' i (by omega) hi
      have := u9i64_le_lt (h2 (by omega)) hlt
      rw [he] at this; exact u9i64_irrefl this
theorem u9q_indexOf {n : Nat} (hn : n ≤ 24) {u9tx : Nat → Int64} (hs : u9Srt n u9tx) (a : Int64) : (∃ i, i < n ∧ u9tx i = a ∧ f_WordList_indexOf (u9qi n) u9tx a = some (u9qi i)) ∨ ((∀ i, i < n → u9tx i ≠ a) ∧ f_WordList_indexOf (u9qi n) u9tx a = some (-1)) := by
  obtain ⟨at', h1, h2, h3, h4⟩ := u9q_fnb hn u9tx a
  unfold f_WordList_indexOf
  rw [h2]
  simp only [Option.bind_some]
  by_cases hlt : at' < n
  · rw [if_neg (by rw [u9qi_le (by omega) (by omega)]; omega), if_pos (by rw [u9qi_ok _ (by omega)]; omega), u9qi_cl (by omega)]
    by_cases he : u9tx at' = a
    · exact Or.inl ⟨at', hlt, he, by rw [if_pos he]⟩
    · exact Or.inr ⟨u9q_fnb_none hs h3 h4 (fun _ => he), by rw [if_neg he]⟩
  · refine Or.inr ⟨u9q_fnb_none hs h3 h4 (fun h => absurd h hlt), ?_⟩
    rw [if_pos (by rw [u9qi_le (by omega) (by omega)]; omega)]
theorem u9q_put_k {n at' : Nat} (hn : n < 24) (ha : at' ≤ n) (a : Int64) (c : Int32) (tx0 : Nat → Int64) (cs0 : Nat → Int32) : ∀ r k (u9tx : Nat → Int64) (cs : Nat → Int32), k = at' + r → k ≤ n → (∀ i, i ≤ k → u9tx i = tx0 i ∧ cs i = cs0 i) → (∀ i, k < i → i ≤ n → u9tx i = tx0 (i - 1) ∧ cs i = cs0 (i - 1)) → ∀ fu, r < fu → ∃ tx' cs', f_WordList_put_55 a c (u9qi n) (u9qi at') fu u9tx cs (u9qi k) = some (tx', cs') ∧ (∀ i, i < at' → tx' i = tx0 i ∧ cs' i = cs0 i) ∧ (∀ i, at' < i → i ≤ n → tx' i = tx0 (i - 1) ∧ cs' i = cs0 (i - 1)) := by
  intro r
  induction r with
  | zero =>
    intro k u9tx cs hk hkn h1 h2 fu hf
    obtain ⟨fu, rfl⟩ : ∃ m, fu = m + 1 := ⟨fu - 1, by omega⟩
    obtain rfl : k = at' := by omega
    refine ⟨u9tx, cs, ?_, fun i hi => h1 i (by omega), h2⟩
    simp only [f_WordList_put_55, f_WordList_put_55b]
    rw [if_pos (by rw [u9qi_le (by omega) (by omega)]; omega)]
  | succ r ih =>
    intro k u9tx cs hk hkn h1 h2 fu hf
    obtain ⟨fu, rfl⟩ : ∃ m, fu = m + 1 := ⟨fu - 1, by omega⟩
    have e1 : u9qi k - 1 = u9qi (k - 1) := by rw [u9qi_lit, u9qi_sub (by omega)]
    have e2 : u9qi k + (-1) = u9qi (k - 1) := by
      have := u9qi_dec (a := k) (by omega); rw [← this]; rfl
    have o1 : okI (u9qi (k - 1)) 24 = true := by rw [u9qi_ok _ (by omega)]; omega
    have o2 : okI (u9qi k) 24 = true := by rw [u9qi_ok _ (by omega)]; omega
    simp only [f_WordList_put_55, f_WordList_put_55b]
    rw [if_neg (by rw [u9qi_le (by omega) (by omega)]; omega)]
    simp only [e1, e2, o1, o2, if_true, u9qi_cl (show k < 2147483648 by omega), u9qi_cl (show k - 1 < 2147483648 by omega)]
    refine ih (k - 1) _ _ (by omega) (by omega) (fun i hi => ?_) (fun i hi hin => ?_) fu (by omega)
    · simp only [vp_updL, upd]
      rw [if_neg (by omega), if_neg (by omega)]; exact h1 i (by omega)
    · simp only [vp_updL, upd]
      by_cases hik : i = k
      · subst hik
        rw [if_pos rfl, if_pos rfl]; exact h1 (i - 1) (by omega)
      · rw [if_neg hik, if_neg hik]; exact h2 i (by omega) hin
theorem u9q_put {n : Nat} (hn : n ≤ 24) {u9tx : Nat → Int64} (cs : Nat → Int32) (hs : u9Srt n u9tx) (a : Int64) (c : Int32) :
    (∃ i, i < n ∧ u9tx i = a ∧ f_WordList_put (u9qi n) u9tx cs a c = some (1, u9qi n, u9tx, upd cs i c)) ∨
    ((∀ i, i < n → u9tx i ≠ a) ∧ n = 24 ∧ f_WordList_put (u9qi n) u9tx cs a c = some (0, u9qi n, u9tx, cs)) ∨
    ((∀ i, i < n → u9tx i ≠ a) ∧ n < 24 ∧ ∃ at' tx' cs', at' ≤ n ∧ f_WordList_put (u9qi n) u9tx cs a c = some (1, u9qi (n + 1), tx', cs') ∧ (∀ i, i < at' → tx' i = u9tx i ∧ cs' i = cs i) ∧ (tx' at' = a ∧ cs' at' = c) ∧ (∀ i, at' < i → i ≤ n → tx' i = u9tx (i - 1) ∧ cs' i = cs (i - 1)) ∧ (∀ i, i < at' → u9tx i < a) ∧ (∀ i, at' ≤ i → i < n → a < u9tx i)) := by
  obtain ⟨at', h1, h2, h3, h4⟩ := u9q_fnb hn u9tx a
  have key : (at' < n → u9tx at' ≠ a) → ((∀ i, i < n → u9tx i ≠ a) ∧ n = 24 ∧ f_WordList_put_38 a c (u9qi n) u9tx cs (u9qi at') = some (0, u9qi n, u9tx, cs)) ∨
    ((∀ i, i < n → u9tx i ≠ a) ∧ n < 24 ∧ ∃ b' tx' cs', b' ≤ n ∧ f_WordList_put_38 a c (u9qi n) u9tx cs (u9qi at') = some (1, u9qi (n + 1), tx', cs') ∧ (∀ i, i < b' → tx' i = u9tx i ∧ cs' i = cs i) ∧ (tx' b' = a ∧ cs' b' = c) ∧ (∀ i, b' < i → i ≤ n → tx' i = u9tx (i - 1) ∧ cs' i = cs (i - 1)) ∧ (∀ i, i < b' → u9tx i < a) ∧ (∀ i, b' ≤ i → i < n → a < u9tx i)) := by
    intro hne
    have hno := u9q_fnb_none hs h3 h4 hne
    by_cases h24 : n < 24
    · refine Or.inr ⟨hno, h24, at', ?_⟩
      obtain ⟨tx', cs', e, g1, g2⟩ := u9q_put_k h24 h1 a c u9tx cs (n - at') n u9tx cs (by omega) (by omega) (fun i _ => ⟨rfl, rfl⟩) (fun i hi hin => absurd hi (by omega)) FU (by unfold FU; omega)
      refine ⟨vp_updL tx' at' a, upd cs' at' c, h1, ?_, fun i hi => ?_, ?_, fun i hi hin => ?_, h3, fun i hi hin => ?_⟩
      · unfold f_WordList_put_38
        have o1 : okI (u9qi at') 24 = true := by rw [u9qi_ok _ (by omega)]; omega
        rw [if_pos (by rw [u9qi_lit, u9qi_lt (by omega) (by omega)]; exact h24), e]
        simp only [Option.bind_some, o1, if_true, u9qi_cl (show at' < 2147483648 by omega)]
        rw [show u9qi n + 1 = u9qi (n + 1) by rw [u9qi_lit, u9qi_add]]
      · simp only [vp_updL, upd]; rw [if_neg (by omega), if_neg (by omega)]; exact g1 i hi
      · simp [vp_updL, upd]
      · simp only [vp_updL, upd]; rw [if_neg (by omega), if_neg (by omega)]; exact g2 i hi hin
      · by_cases hia : i = at'
        · subst hia; exact u9i64_le_ne (h4 hin) (hne hin)
        · exact u9i64_le_lt (h4 (by omega)) (hs at' i (by omega) hin)
    · refine Or.inl ⟨hno, by omega, ?_⟩
      unfold f_WordList_put_38
      rw [if_neg (by rw [u9qi_lit, u9qi_lt (by omega) (by omega)]; exact h24)]
  unfold f_WordList_put
  rw [h2]
  simp only [Option.bind_some]
  by_cases hlt : at' < n
  · have o1 : okI (u9qi at') 24 = true := by rw [u9qi_ok _ (by omega)]; omega
    rw [if_neg (by rw [u9qi_le (by omega) (by omega)]; omega)]
    simp only [o1, if_true, u9qi_cl (show at' < 2147483648 by omega)]
    by_cases he : u9tx at' = a
    · exact Or.inl ⟨at', hlt, he, by rw [if_pos he]⟩
    · simp only [he, if_false]
      exact Or.inr (key (fun _ => he))
  · have hle : u9qi n ≤ u9qi at' := by rw [u9qi_le (by omega) (by omega)]; omega
    simp only [hle, if_true]
    exact Or.inr (key (fun h => absurd h hlt))
theorem u9q_rem_k {n i0 : Nat} (hn : n ≤ 24) (a : Int64) (tx0 : Nat → Int64) (cs0 : Nat → Int32) : ∀ r k (u9tx : Nat → Int64) (cs : Nat → Int32), k + r + 1 = n → i0 ≤ k → (∀ i, i < i0 → u9tx i = tx0 i ∧ cs i = cs0 i) → (∀ i, i0 ≤ i → i < k → u9tx i = tx0 (i + 1) ∧ cs i = cs0 (i + 1)) → (∀ i, k ≤ i → i < n → u9tx i = tx0 i ∧ cs i = cs0 i) → ∀ fu, r < fu → ∃ tx' cs', f_WordList_remove_25 a (u9qi (n - 1)) fu u9tx cs (u9qi k) = some (tx', cs') ∧ (∀ i, i < i0 → tx' i = tx0 i ∧ cs' i = cs0 i) ∧ (∀ i, i0 ≤ i → i + 1 < n → tx' i = tx0 (i + 1) ∧ cs' i = cs0 (i + 1)) := by
  intro r
  induction r with
  | zero =>
    intro k u9tx cs hk hi0 h1 h2 h3 fu hf
    obtain ⟨fu, rfl⟩ : ∃ m, fu = m + 1 := ⟨fu - 1, by omega⟩
    refine ⟨u9tx, cs, ?_, h1, fun i hi hin => h2 i hi (by omega)⟩
    simp only [f_WordList_remove_25, f_WordList_remove_25b]
    rw [if_pos (by rw [u9qi_le (by omega) (by omega)]; omega)]
  | succ r ih =>
    intro k u9tx cs hk hi0 h1 h2 h3 fu hf
    obtain ⟨fu, rfl⟩ : ∃ m, fu = m + 1 := ⟨fu - 1, by omega⟩
    have e1 : u9qi k + 1 = u9qi (k + 1) := by rw [u9qi_lit, u9qi_add]
    have o1 : okI (u9qi (k + 1)) 24 = true := by rw [u9qi_ok _ (by omega)]; omega
    have o2 : okI (u9qi k) 24 = true := by rw [u9qi_ok _ (by omega)]; omega
    simp only [f_WordList_remove_25, f_WordList_remove_25b]
    rw [if_neg (by rw [u9qi_le (by omega) (by omega)]; omega)]
    simp only [e1, o1, o2, if_true, u9qi_cl (show k < 2147483648 by omega), u9qi_cl (show k + 1 < 2147483648 by omega)]
    refine ih (k + 1) _ _ (by omega) (by omega) (fun i hi => ?_) (fun i hi hik => ?_) (fun i hi hin => ?_) fu (by omega)
    · simp only [vp_updL, upd]; rw [if_neg (by omega), if_neg (by omega)]; exact h1 i hi
    · simp only [vp_updL, upd]
      by_cases hk' : i = k
      · subst hk'; rw [if_pos rfl, if_pos rfl]; exact h3 (i + 1) (by omega) (by omega)
      · rw [if_neg hk', if_neg hk']; exact h2 i hi (by omega)
    · simp only [vp_updL, upd]; rw [if_neg (by omega), if_neg (by omega)]; exact h3 i (by omega) hin
theorem u9q_remove {n : Nat} (hn : n ≤ 24) {u9tx : Nat → Int64} (cs : Nat → Int32) (hs : u9Srt n u9tx) (a : Int64) :
    (∃ i tx' cs', i < n ∧ u9tx i = a ∧ f_WordList_remove (u9qi n) u9tx cs a = some (1, u9qi (n - 1), tx', cs') ∧ (∀ j, j < i → tx' j = u9tx j ∧ cs' j = cs j) ∧ (∀ j, i ≤ j → j + 1 < n → tx' j = u9tx (j + 1) ∧ cs' j = cs (j + 1))) ∨
    ((∀ i, i < n → u9tx i ≠ a) ∧ f_WordList_remove (u9qi n) u9tx cs a = some (0, u9qi n, u9tx, cs)) := by
  unfold f_WordList_remove
  rcases u9q_indexOf hn hs a with ⟨i, hi, he, h⟩ | ⟨hno, h⟩
  · rw [h]
    simp only [Option.bind_some]
    rw [if_pos (by rw [u9qi_lit, u9qi_le (by omega) (by omega)]; omega)]
    obtain ⟨tx', cs', e, g1, g2⟩ := u9q_rem_k (i0 := i) hn a u9tx cs (n - 1 - i) i u9tx cs (by omega) (by omega) (fun i _ => ⟨rfl, rfl⟩) (fun j h1 h2 => absurd h1 (by omega)) (fun i _ _ => ⟨rfl, rfl⟩) FU (by unfold FU; omega)
    refine Or.inl ⟨i, tx', cs', hi, he, ?_, g1, g2⟩
    rw [show u9qi n - 1 = u9qi (n - 1) by rw [u9qi_lit, u9qi_sub (by omega)], e]
    rfl
  · rw [h]
    simp only [Option.bind_some]
    rw [if_neg (by decide)]
    exact Or.inr ⟨hno, rfl⟩
theorem u9q_copy_k {n : Nat} (hn : n ≤ 24) (tx0 : Nat → Int64) (cs0 : Nat → Int32) : ∀ r k (u9tx : Nat → Int64) (cs : Nat → Int32), k + r = n → (∀ i, i < k → u9tx i = tx0 i ∧ cs i = cs0 i) → ∀ fu, r < fu → ∃ tx' cs', f_WordList_copyFrom_10 (u9qi n) tx0 cs0 (u9qi n) fu u9tx cs (u9qi k) = some (tx', cs') ∧ (∀ i, i < n → tx' i = tx0 i ∧ cs' i = cs0 i) := by
  intro r
  induction r with
  | zero =>
    intro k u9tx cs hk h1 fu hf
    obtain ⟨fu, rfl⟩ : ∃ m, fu = m + 1 := ⟨fu - 1, by omega⟩
    refine ⟨u9tx, cs, ?_, fun i hi => h1 i (by omega)⟩
    simp only [f_WordList_copyFrom_10, f_WordList_copyFrom_10b]
    rw [if_pos (by rw [u9qi_le (by omega) (by omega)]; omega)]
  | succ r ih =>
    intro k u9tx cs hk h1 fu hf
    obtain ⟨fu, rfl⟩ : ∃ m, fu = m + 1 := ⟨fu - 1, by omega⟩
    have e1 : u9qi k + 1 = u9qi (k + 1) := by rw [u9qi_lit, u9qi_add]
    have o2 : okI (u9qi k) 24 = true := by rw [u9qi_ok _ (by omega)]; omega
    simp only [f_WordList_copyFrom_10, f_WordList_copyFrom_10b]
    rw [if_neg (by rw [u9qi_le (by omega) (by omega)]; omega)]
    simp only [e1, o2, if_true, u9qi_cl (show k < 2147483648 by omega)]
    refine ih (k + 1) _ _ (by omega) (fun i hi => ?_) fu (by omega)
    simp only [vp_updL, upd]
    by_cases hk' : i = k
    · subst hk'; rw [if_pos rfl, if_pos rfl]; exact ⟨rfl, rfl⟩
    · rw [if_neg hk', if_neg hk']; exact h1 i (by omega)
theorem u9q_copy {n : Nat} (hn : n ≤ 24) (s0 : Int32) (u9tx cs tx0 cs0) : ∃ tx' cs', f_WordList_copyFrom s0 u9tx cs (u9qi n) tx0 cs0 = some (u9qi n, tx', cs') ∧ (∀ i, i < n → tx' i = tx0 i ∧ cs' i = cs0 i) := by
  obtain ⟨tx', cs', e, g⟩ := u9q_copy_k hn tx0 cs0 n 0 u9tx cs (by omega) (fun i hi => absurd hi (by omega)) FU (by unfold FU; omega)
  refine ⟨tx', cs', ?_, g⟩
  unfold f_WordList_copyFrom
  have e' : f_WordList_copyFrom_10 (u9qi n) tx0 cs0 (u9qi n) FU u9tx cs 0 = some (tx', cs') := e
  rw [e']; rfl
