def u9Wl (n : Nat) (u9tx : Nat → Int64) (cs : Nat → Int32) : List (Int64 × Int32) := u9ls (fun i => (u9tx i, cs i)) n
theorem u9Wl_len (n u9tx cs) : (u9Wl n u9tx cs).length = n := u9ls_len _ _
theorem u9Wl_getD (n : Nat) (u9tx : Nat → Int64) (cs : Nat → Int32) {i : Nat} (hi : i < n) : (u9Wl n u9tx cs).getD i (0, 0) = (u9tx i, cs i) := by
  unfold u9Wl u9ls
  rw [List.getD_eq_getElem?_getD, List.getElem?_map, List.getElem?_range hi]; rfl
theorem u9wt_W {n u9tx cs} {i : Nat} (hi : i < n) : u9wt (u9Wl n u9tx cs) i = u9tx i := by unfold u9wt; rw [u9Wl_getD n u9tx cs hi]
theorem u9wc_W {n u9tx cs} {i : Nat} (hi : i < n) : u9wc (u9Wl n u9tx cs) i = cs i := by unfold u9wc; rw [u9Wl_getD n u9tx cs hi]
theorem u9wEnd_bd {W h m} : ∀ r k, k ≤ u9wEnd W h m r k ∧ u9wEnd W h m r k ≤ k + r := by
  intro r
  induction r with
  | zero => intro k; simp only [u9wEnd]; omega
  | succ r ih =>
    intro k
    have := ih (k + 1)
    simp only [u9wEnd]
    split <;> omega
theorem u9wE_bd {W : List (Int64 × Int32)} {i m : Nat} (hi : i < W.length) : i < u9wE W i m ∧ u9wE W i m ≤ W.length := by
  have := u9wEnd_bd (W := W) (h := u9H (u9wt W i) m) (m := m) (W.length - (i + 1)) (i + 1)
  unfold u9wE; omega
theorem u9q_textAt (u9tx : Nat → Int64) {i : Nat} (hi : i < 24) : f_WordList_textAt u9tx (u9qi i) = some (u9tx i) := by
  unfold f_WordList_textAt
  rw [if_pos (by rw [u9qi_ok _ (by omega)]; exact hi), u9qi_cl (by omega)]
theorem u9q_costAt (cs : Nat → Int32) {i : Nat} (hi : i < 24) : f_WordList_costAt cs (u9qi i) = some (cs i) := by
  unfold f_WordList_costAt
  rw [if_pos (by rw [u9qi_ok _ (by omega)]; exact hi), u9qi_cl (by omega)]
theorem u9q_cw_k {n : Nat} (hn : n ≤ 24) (u9tx : Nat → Int64) (cs : Nat → Int32) (h : Int64) (a1 : Int32) {m : Nat} (hm : m ≤ 8) : ∀ r k, k + r = n → ∀ fu, r < fu → f_Automaton_countWords_15 (u9qi n) u9tx a1 (u9qi m) h fu (u9qi k) = some (u9qi (u9wEnd (u9Wl n u9tx cs) h m r k)) := by
  intro r
  induction r with
  | zero =>
    intro k hk fu hf
    obtain ⟨fu, rfl⟩ : ∃ m, fu = m + 1 := ⟨fu - 1, by omega⟩
    have l1 : u9qi n ≤ u9qi k := by rw [u9qi_le (by omega) (by omega)]; omega
    simp only [f_Automaton_countWords_15, f_Automaton_countWords_15b, f_WordList_size, Option.bind_some, l1, if_true, u9wEnd]
  | succ r ih =>
    intro k hk fu hf
    obtain ⟨fu, rfl⟩ : ∃ m, fu = m + 1 := ⟨fu - 1, by omega⟩
    have l1 : ¬ (u9qi n ≤ u9qi k) := by rw [u9qi_le (by omega) (by omega)]; omega
    simp only [f_Automaton_countWords_15, f_Automaton_countWords_15b, f_WordList_size, Option.bind_some, l1, if_false, u9wEnd, u9q_textAt u9tx (show k < 24 by omega), u9q_head _ hm, u9wt_W (u9tx := u9tx) (cs := cs) (show k < n by omega), u9q_p1]
    rw [ih (k + 1) (by omega) fu (by omega)]
    split <;> rfl
theorem u9q_cw {n : Nat} (hn : n ≤ 24) (u9tx : Nat → Int64) (cs : Nat → Int32) {i m : Nat} (hi : i < n) (hm : m ≤ 8) : f_Automaton_countWords (u9qi n) u9tx (u9qi i) (u9qi m) = some (u9qi (u9wE (u9Wl n u9tx cs) i m - i)) := by
  unfold f_Automaton_countWords f_Automaton_countWords_45
  rw [u9q_textAt u9tx (by omega)]
  simp only [Option.bind_some, u9q_head _ hm, u9q_p1]
  rw [u9q_cw_k hn u9tx cs _ (u9qi i) hm (n - (i + 1)) (i + 1) (by omega) FU (by unfold FU; omega)]
  have hb := u9wE_bd (W := u9Wl n u9tx cs) (i := i) (m := m) (by rw [u9Wl_len]; exact hi)
  have e : u9wEnd (u9Wl n u9tx cs) (u9H (u9tx i) m) m (n - (i + 1)) (i + 1) = u9wE (u9Wl n u9tx cs) i m := by
    unfold u9wE; rw [u9Wl_len, u9wt_W hi]
  simp only [Option.bind_some, e]
  rw [u9qi_sub (by omega)]
theorem u9q_low_k {n : Nat} (hn : n ≤ 24) (u9tx : Nat → Int64) (cs : Nat → Int32) {i c : Nat} (hc : i + c ≤ n) : ∀ r k, k + r = c → 1 ≤ k → ∀ fu, r < fu → f_Automaton_lowestCost_9 cs (u9qi i) (u9qi c) fu (u9wLow (u9Wl n u9tx cs) i (k - 1)) (u9qi k) = some (u9wLow (u9Wl n u9tx cs) i (c - 1)) := by
  intro r
  induction r with
  | zero =>
    intro k hk h1 fu hf
    obtain ⟨fu, rfl⟩ : ∃ m, fu = m + 1 := ⟨fu - 1, by omega⟩
    have l1 : u9qi c ≤ u9qi k := by rw [u9qi_le (by omega) (by omega)]; omega
    simp only [f_Automaton_lowestCost_9, f_Automaton_lowestCost_9b, l1, if_true]
    rw [show k = c by omega]
  | succ r ih =>
    intro k hk h1 fu hf
    obtain ⟨fu, rfl⟩ : ∃ m, fu = m + 1 := ⟨fu - 1, by omega⟩
    have l1 : ¬ (u9qi c ≤ u9qi k) := by rw [u9qi_le (by omega) (by omega)]; omega
    simp only [f_Automaton_lowestCost_9, f_Automaton_lowestCost_9b, l1, if_false, u9qi_add, u9q_costAt cs (show i + k < 24 by omega), Option.bind_some, u9q_p1]
    have e : (if cs (i + k) < u9wLow (u9Wl n u9tx cs) i (k - 1) then cs (i + k) else u9wLow (u9Wl n u9tx cs) i (k - 1)) = u9wLow (u9Wl n u9tx cs) i (k + 1 - 1) := by
      obtain ⟨k, rfl⟩ : ∃ j, k = j + 1 := ⟨k - 1, by omega⟩
      simp only [Nat.add_sub_cancel, u9wLow]
      rw [u9wc_W (u9tx := u9tx) (cs := cs) (show i + k + 1 < n by omega)]
      rfl
    rw [e]
    exact ih (k + 1) (by omega) (by omega) fu (by omega)
theorem u9q_low {n : Nat} (hn : n ≤ 24) (u9tx : Nat → Int64) (cs : Nat → Int32) {i c : Nat} (h1 : 1 ≤ c) (hc : i + c ≤ n) : f_Automaton_lowestCost cs (u9qi i) (u9qi c) = some (u9wLow (u9Wl n u9tx cs) i (c - 1)) := by
  unfold f_Automaton_lowestCost
  rw [u9q_costAt cs (by omega)]
  have := u9q_low_k hn u9tx cs hc (c - 1) 1 (by omega) (by omega) FU (by unfold FU; omega)
  have e : u9wLow (u9Wl n u9tx cs) i (1 - 1) = cs i := by
    show u9wc (u9Wl n u9tx cs) i = cs i
    exact u9wc_W (by omega)
  rw [e] at this
  simp only [Option.bind_some]
  rw [show (1 : Int32) = u9qi 1 from rfl, this]; rfl
def u9Slot' (W : List (Int64 × Int32)) (b : Nat × Nat) (sb u9cb lb wb : Int32) : Prop := b.1 < W.length ∧ b.2 ≤ 8 ∧ sb = u9qi b.1 ∧ u9cb = u9qi (u9wE W b.1 b.2 - b.1) ∧ lb = u9qi b.2 ∧ wb = u9wL W b.1 b.2
theorem u9q_ending {n : Nat} (hn : n ≤ 24) {u9tx : Nat → Int64} {cs : Nat → Int32} {st ct le lo : Nat → Int32} {j : Nat} (hj : j < 193) {b : Nat × Nat} (hS : u9Slot' (u9Wl n u9tx cs) b (st j) (ct j) (le j) (lo j)) {k : Nat} (hk : k < u9wE (u9Wl n u9tx cs) b.1 b.2 - b.1) : f_Automaton_endingAt st le u9tx (u9qi j) (u9qi k) = some (u9TL (u9tx (b.1 + k)) b.2) := by
  obtain ⟨h1, h2, h3, h4, h5, h6⟩ := hS
  have hb := u9wE_bd (W := u9Wl n u9tx cs) (i := b.1) (m := b.2) h1
  rw [u9Wl_len] at h1 hb
  have o1 : okI (u9qi j) 193 = true := by rw [u9qi_ok _ (by omega)]; omega
  unfold f_Automaton_endingAt
  simp only [o1, if_true, u9qi_cl (show j < 2147483648 by omega), h3, h5, u9qi_add, u9q_textAt u9tx (show b.1 + k < 24 by omega), Option.bind_some, u9q_tail _ h2]
theorem u9q_above {n : Nat} (hn : n ≤ 24) {u9tx : Nat → Int64} {cs : Nat → Int32} {st ct le lo : Nat → Int32} {j : Nat} (hj : j < 193) {b : Nat × Nat} (hS : u9Slot' (u9Wl n u9tx cs) b (st j) (ct j) (le j) (lo j)) {k : Nat} (hk : k < u9wE (u9Wl n u9tx cs) b.1 b.2 - b.1) : f_Automaton_costAbove st lo cs (u9qi j) (u9qi k) = some (cs (b.1 + k) - u9wL (u9Wl n u9tx cs) b.1 b.2) := by
  obtain ⟨h1, h2, h3, h4, h5, h6⟩ := hS
  have hb := u9wE_bd (W := u9Wl n u9tx cs) (i := b.1) (m := b.2) h1
  rw [u9Wl_len] at h1 hb
  have o1 : okI (u9qi j) 193 = true := by rw [u9qi_ok _ (by omega)]; omega
  unfold f_Automaton_costAbove
  simp only [o1, if_true, u9qi_cl (show j < 2147483648 by omega), h3, h6, u9qi_add, u9q_costAt cs (show b.1 + k < 24 by omega), Option.bind_some]
theorem u9ls_get {α : Type} (f : Nat → α) {n i : Nat} (hi : i < n) : (u9ls f n)[i]? = some (f i) := by
  unfold u9ls; rw [List.getElem?_map, List.getElem?_range hi]; rfl
theorem u9ls_eq {α : Type} {f g : Nat → α} {n m : Nat} : (u9ls f n = u9ls g m) ↔ (n = m ∧ ∀ i, i < n → f i = g i) := by
  constructor
  · intro h
    have hl : n = m := by have := congrArg List.length h; rwa [u9ls_len, u9ls_len] at this
    subst hl
    refine ⟨rfl, fun i hi => ?_⟩
    have := congrArg (fun l => l[i]?) h
    simp only [u9ls_get f hi, u9ls_get g hi] at this
    exact Option.some.inj this
  · rintro ⟨rfl, h⟩; exact u9ls_congr h
theorem u9wD_eq {n : Nat} {u9tx : Nat → Int64} {cs : Nat → Int32} {b : Nat × Nat} (hb : b.1 < n) : u9wD (u9Wl n u9tx cs) b = u9ls (fun k => (u9TL (u9tx (b.1 + k)) b.2, cs (b.1 + k) - u9wL (u9Wl n u9tx cs) b.1 b.2)) (u9wE (u9Wl n u9tx cs) b.1 b.2 - b.1) := by
  unfold u9wD
  apply u9ls_congr
  intro k hk
  have := u9wE_bd (W := u9Wl n u9tx cs) (i := b.1) (m := b.2) (by rw [u9Wl_len]; exact hb)
  rw [u9Wl_len] at this
  rw [u9wt_W (show b.1 + k < n by omega), u9wc_W (show b.1 + k < n by omega)]
theorem u9q_beh_k {n : Nat} (hn : n ≤ 24) {u9tx : Nat → Int64} {cs : Nat → Int32} {st ct le lo : Nat → Int32} {j1 j2 : Nat} (hj1 : j1 < 193) (hj2 : j2 < 193) {b1 b2 : Nat × Nat} (hS1 : u9Slot' (u9Wl n u9tx cs) b1 (st j1) (ct j1) (le j1) (lo j1)) (hS2 : u9Slot' (u9Wl n u9tx cs) b2 (st j2) (ct j2) (le j2) (lo j2)) (hc : u9wE (u9Wl n u9tx cs) b1.1 b1.2 - b1.1 = u9wE (u9Wl n u9tx cs) b2.1 b2.2 - b2.1) :
    ∀ r k, k + r = u9wE (u9Wl n u9tx cs) b1.1 b1.2 - b1.1 → (∀ i, i < k → u9TL (u9tx (b1.1 + i)) b1.2 = u9TL (u9tx (b2.1 + i)) b2.2 ∧ cs (b1.1 + i) - u9wL (u9Wl n u9tx cs) b1.1 b1.2 = cs (b2.1 + i) - u9wL (u9Wl n u9tx cs) b2.1 b2.2) → ∀ fu, r < fu → f_Automaton_behaveTheSame_20 st ct le lo u9tx cs (u9qi j1) (u9qi j2) fu (u9qi k) = some (if u9wD (u9Wl n u9tx cs) b1 = u9wD (u9Wl n u9tx cs) b2 then .inl () else .inr ()) := by
  intro r
  have g1 := hS1.1
  have g2 := hS2.1
  have hb1 := u9wE_bd (W := u9Wl n u9tx cs) (i := b1.1) (m := b1.2) g1
  rw [u9Wl_len] at g1 g2 hb1
  have hsame : (u9wD (u9Wl n u9tx cs) b1 = u9wD (u9Wl n u9tx cs) b2) ↔ (∀ i, i < u9wE (u9Wl n u9tx cs) b1.1 b1.2 - b1.1 → u9TL (u9tx (b1.1 + i)) b1.2 = u9TL (u9tx (b2.1 + i)) b2.2 ∧ cs (b1.1 + i) - u9wL (u9Wl n u9tx cs) b1.1 b1.2 = cs (b2.1 + i) - u9wL (u9Wl n u9tx cs) b2.1 b2.2) := by
    rw [u9wD_eq g1, u9wD_eq g2, u9ls_eq]
    constructor
    · rintro ⟨_, h⟩ i hi; exact Prod.mk.inj (h i hi)
    · intro h; exact ⟨hc, fun i hi => by rw [(h i hi).1, (h i hi).2]⟩
  have o1 : okI (u9qi j1) 193 = true := by rw [u9qi_ok _ (by omega)]; omega
  have c1 : (u9qi j1).toNatClampNeg = j1 := u9qi_cl (by omega)
  induction r with
  | zero =>
    intro k hk h fu hf
    obtain ⟨fu, rfl⟩ : ∃ m, fu = m + 1 := ⟨fu - 1, by omega⟩
    have l1 : ct j1 ≤ u9qi k := by rw [hS1.2.2.2.1, u9qi_le (by omega) (by omega)]; omega
    simp only [f_Automaton_behaveTheSame_20, f_Automaton_behaveTheSame_20b, o1, if_true, c1, l1]
    rw [if_pos (hsame.2 (fun i hi => h i (by omega)))]
  | succ r ih =>
    intro k hk h fu hf
    obtain ⟨fu, rfl⟩ : ∃ m, fu = m + 1 := ⟨fu - 1, by omega⟩
    have l1 : ¬ (ct j1 ≤ u9qi k) := by rw [hS1.2.2.2.1, u9qi_le (by omega) (by omega)]; omega
    simp only [f_Automaton_behaveTheSame_20, f_Automaton_behaveTheSame_20b, o1, if_true, c1, l1, if_false, u9q_ending hn hj1 hS1 (show k < _ by omega), u9q_ending hn hj2 hS2 (show k < _ by omega), u9q_above hn hj1 hS1 (show k < _ by omega), u9q_above hn hj2 hS2 (show k < _ by omega), Option.bind_some, u9q_p1]
    by_cases a1 : u9TL (u9tx (b1.1 + k)) b1.2 = u9TL (u9tx (b2.1 + k)) b2.2
    · rw [if_pos a1]
      by_cases a2 : cs (b1.1 + k) - u9wL (u9Wl n u9tx cs) b1.1 b1.2 = cs (b2.1 + k) - u9wL (u9Wl n u9tx cs) b2.1 b2.2
      · rw [if_pos a2]
        refine ih (k + 1) (by omega) (fun i hi => ?_) fu (by omega)
        by_cases hik : i < k
        · exact h i hik
        · obtain rfl : i = k := by omega
          exact ⟨a1, a2⟩
      · rw [if_neg a2, if_neg (fun hh => a2 (hsame.1 hh k (by omega)).2)]
    · rw [if_neg a1, if_neg (fun hh => a1 (hsame.1 hh k (by omega)).1)]
theorem u9q_beh {n : Nat} (hn : n ≤ 24) {u9tx : Nat → Int64} {cs : Nat → Int32} {st ct le lo : Nat → Int32} {j1 j2 : Nat} (hj1 : j1 < 193) (hj2 : j2 < 193) {b1 b2 : Nat × Nat} (hS1 : u9Slot' (u9Wl n u9tx cs) b1 (st j1) (ct j1) (le j1) (lo j1)) (hS2 : u9Slot' (u9Wl n u9tx cs) b2 (st j2) (ct j2) (le j2) (lo j2)) :
    f_Automaton_behaveTheSame st ct le lo u9tx cs (u9qi j1) (u9qi j2) = some (if u9wD (u9Wl n u9tx cs) b1 = u9wD (u9Wl n u9tx cs) b2 then 1 else 0) := by
  have o1 : okI (u9qi j1) 193 = true := by rw [u9qi_ok _ (by omega)]; omega
  have o2 : okI (u9qi j2) 193 = true := by rw [u9qi_ok _ (by omega)]; omega
  have g1 := hS1.1
  have g2 := hS2.1
  have hb1 := u9wE_bd (W := u9Wl n u9tx cs) (i := b1.1) (m := b1.2) g1
  have hb2 := u9wE_bd (W := u9Wl n u9tx cs) (i := b2.1) (m := b2.2) g2
  rw [u9Wl_len] at g1 g2 hb1 hb2
  unfold f_Automaton_behaveTheSame
  simp only [o1, o2, if_true, u9qi_cl (show j1 < 2147483648 by omega), u9qi_cl (show j2 < 2147483648 by omega), hS1.2.2.2.1, hS2.2.2.2.1, u9qi_eq (show u9wE (u9Wl n u9tx cs) b1.1 b1.2 - b1.1 < 2147483648 by omega) (show u9wE (u9Wl n u9tx cs) b2.1 b2.2 - b2.1 < 2147483648 by omega)]
  by_cases hc : u9wE (u9Wl n u9tx cs) b1.1 b1.2 - b1.1 = u9wE (u9Wl n u9tx cs) b2.1 b2.2 - b2.1
  · rw [if_pos hc]
    have := u9q_beh_k hn hj1 hj2 hS1 hS2 hc (u9wE (u9Wl n u9tx cs) b1.1 b1.2 - b1.1) 0 (by omega) (fun i hi => absurd hi (by omega)) FU (by unfold FU; omega)
    rw [show (0 : Int32) = u9qi 0 from rfl, this]
    split <;> rfl
  · rw [if_neg hc, if_neg]
    intro hh
    rw [u9wD_eq g1, u9wD_eq g2, u9ls_eq] at hh
    exact hc hh.1
theorem u9q_arcs_k {n : Nat} (hn : n ≤ 24) {u9tx : Nat → Int64} {cs : Nat → Int32} {st ct le lo : Nat → Int32} {j : Nat} (hj : j < 193) {b : Nat × Nat} (hS : u9Slot' (u9Wl n u9tx cs) b (st j) (ct j) (le j) (lo j)) :
    ∀ r k f l, k + r = u9wE (u9Wl n u9tx cs) b.1 b.2 - b.1 → l < 256 → ∀ fu, r < fu → f_Automaton_countArcs_8 st ct le u9tx (u9qi j) fu (u9qi f) (u9qi l) (u9qi k) = some (u9qi (f + u9fol l ((u9wD (u9Wl n u9tx cs) b).drop k))) := by
  intro r
  have g1 := hS.1
  have hb1 := u9wE_bd (W := u9Wl n u9tx cs) (i := b.1) (m := b.2) g1
  rw [u9Wl_len] at g1 hb1
  have o1 : okI (u9qi j) 193 = true := by rw [u9qi_ok _ (by omega)]; omega
  have c1 : (u9qi j).toNatClampNeg = j := u9qi_cl (by omega)
  have hlen : (u9wD (u9Wl n u9tx cs) b).length = u9wE (u9Wl n u9tx cs) b.1 b.2 - b.1 := u9ls_len _ _
  induction r with
  | zero =>
    intro k f l hk hl fu hf
    obtain ⟨fu, rfl⟩ : ∃ m, fu = m + 1 := ⟨fu - 1, by omega⟩
    have l1 : ct j ≤ u9qi k := by rw [hS.2.2.2.1, u9qi_le (by omega) (by omega)]; omega
    simp only [f_Automaton_countArcs_8, f_Automaton_countArcs_8b, o1, if_true, c1, l1]
    rw [List.drop_eq_nil_of_le (by omega)]; rfl
  | succ r ih =>
    intro k f l hk hl fu hf
    obtain ⟨fu, rfl⟩ : ∃ m, fu = m + 1 := ⟨fu - 1, by omega⟩
    have l1 : ¬ (ct j ≤ u9qi k) := by rw [hS.2.2.2.1, u9qi_le (by omega) (by omega)]; omega
    have hql := u9ql_lt (u9TL (u9tx (b.1 + k)) b.2) 0
    have hla := u9q_letterAt (u9TL (u9tx (b.1 + k)) b.2) (p := 0) (by omega)
    rw [show (u9qi 0 : Int32) = 0 from rfl] at hla
    simp only [f_Automaton_countArcs_8, f_Automaton_countArcs_8b, f_Automaton_countArcs_47, o1, if_true, c1, l1, if_false, u9q_ending hn hj hS (show k < _ by omega), Option.bind_some, hla, u9qi_eq (show u9ql (u9TL (u9tx (b.1 + k)) b.2) 0 < 2147483648 by omega) (show l < 2147483648 by omega), u9q_p1]
    have hdrop : (u9wD (u9Wl n u9tx cs) b).drop k = (u9TL (u9tx (b.1 + k)) b.2, cs (b.1 + k) - u9wL (u9Wl n u9tx cs) b.1 b.2) :: (u9wD (u9Wl n u9tx cs) b).drop (k + 1) := by
      rw [List.drop_eq_getElem_cons (by omega)]
      congr 1
      have : (u9wD (u9Wl n u9tx cs) b)[k]? = some (u9TL (u9tx (b.1 + k)) b.2, cs (b.1 + k) - u9wL (u9Wl n u9tx cs) b.1 b.2) := by
        rw [u9wD_eq g1, u9ls_get _ (by omega)]
      rw [List.getElem?_eq_getElem (by omega)] at this
      exact Option.some.inj this
    rw [hdrop]
    simp only [u9fol]
    by_cases hc : u9ql (u9TL (u9tx (b.1 + k)) b.2) 0 = l
    · rw [if_pos hc, if_pos hc]; exact ih (k + 1) f l (by omega) hl fu (by omega)
    · rw [if_neg hc, if_neg hc, ih (k + 1) (f + 1) _ (by omega) hql fu (by omega)]
      congr 2; omega
theorem u9q_arcs {n : Nat} (hn : n ≤ 24) {u9tx : Nat → Int64} {cs : Nat → Int32} {st ct le lo : Nat → Int32} {j : Nat} (hj : j < 193) {b : Nat × Nat} (hS : u9Slot' (u9Wl n u9tx cs) b (st j) (ct j) (le j) (lo j)) : f_Automaton_countArcs st ct le u9tx (u9qi j) = some (u9qi (u9fol 0 (u9wD (u9Wl n u9tx cs) b))) := by
  unfold f_Automaton_countArcs
  have := u9q_arcs_k hn hj hS (u9wE (u9Wl n u9tx cs) b.1 b.2 - b.1) 0 0 0 (by omega) (by omega) FU (by
    have g1 := hS.1
    have hb1 := u9wE_bd (W := u9Wl n u9tx cs) (i := b.1) (m := b.2) g1
    rw [u9Wl_len] at hb1; unfold FU; omega)
  rw [show (0 : Int32) = u9qi 0 from rfl, this]
  simp
