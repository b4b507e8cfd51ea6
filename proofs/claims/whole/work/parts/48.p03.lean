def u9tx (x : Nat) : Nat := x * 256 ^ (8 - u9nl x)
def u9T (w : Int64) : Int64 := u9ri (u9tx (u9un w))
theorem u9tx_lt {x : Nat} (h : x < 18446744073709551616) : u9tx x < 18446744073709551616 := by
  unfold u9tx u9nl
  (repeat' split) <;> simp <;> omega
theorem u9un_T (w : Int64) : u9un (u9T w) = u9tx (u9un w) := u9un_ri (u9tx_lt (u9un_lt w))
theorem u9T_zero : u9T 0 = 0 := by decide
theorem u9q8' {p : Nat} (h : p ≤ 8) : p = 0 ∨ p = 1 ∨ p = 2 ∨ p = 3 ∨ p = 4 ∨ p = 5 ∨ p = 6 ∨ p = 7 ∨ p = 8 := by omega
theorem u9nl_bd (x : Nat) : (u9nl x = 0 ∧ x = 0) ∨ (0 < u9nl x ∧ 256 ^ (u9nl x - 1) ≤ x) := by
  unfold u9nl
  (repeat' split) <;> simp <;> omega
theorem u9nl_hi {x : Nat} (h : x < 18446744073709551616) : x < 256 ^ u9nl x := by
  unfold u9nl
  (repeat' split) <;> simp <;> omega
theorem u9qb_mul (x j i : Nat) : u9qb (x * 256 ^ j) i = if i < j then 0 else u9qb x (i - j) := by
  unfold u9qb
  split
  · rename_i h
    obtain ⟨d, rfl⟩ : ∃ d, j = i + 1 + d := ⟨j - (i + 1), by omega⟩
    rw [show x * 256 ^ (i + 1 + d) = x * 256 ^ d * 256 * 256 ^ i by rw [Nat.pow_add, Nat.pow_succ]; ac_rfl]
    rw [Nat.mul_div_cancel _ (Nat.pow_pos (by decide))]
    omega
  · rename_i h
    obtain ⟨d, rfl⟩ : ∃ d, i = j + d := ⟨i - j, by omega⟩
    rw [Nat.pow_add, ← Nat.div_div_eq_div_mul, Nat.mul_div_cancel _ (Nat.pow_pos (by decide))]
    simp
theorem u9qb_top {x n i : Nat} (h : x < 256 ^ n) (hi : n ≤ i) : u9qb x i = 0 := by
  unfold u9qb
  have : x < 256 ^ i := Nat.lt_of_lt_of_le h (Nat.pow_le_pow_right (by decide) hi)
  rw [Nat.div_eq_of_lt this]
theorem u9ql_T (w : Int64) {p : Nat} (hp : p < 8) : u9ql (u9T w) p = u9la w p := by
  unfold u9ql u9la
  rw [u9un_T]
  unfold u9tx
  have h1 := u9nl_le (u9un w)
  rw [u9qb_mul]
  by_cases h : p < u9nl (u9un w)
  · rw [if_neg (by omega), if_pos h]; congr 1; omega
  · rw [if_pos (by omega), if_neg h]
theorem u9okB_iff {x : Nat} : u9okB x = true ↔ ∀ i, i < u9nl x → 97 ≤ u9qb x i ∧ u9qb x i ≤ 106 := by simp [u9okB]
theorem u9q_isB_k (w : Int64) : ∀ r k l, k + r = 8 → u9un l = u9un w / 256 ^ k → (∀ i, i < k → i < u9nl (u9un w) → 97 ≤ u9qb (u9un w) i ∧ u9qb (u9un w) i ≤ 106) → ∀ n, r < n → f_Texts_isBeginning_5 w n l (u9qi k) = some (if u9okB (u9un w) = true then .inl () else .inr ()) := by
  intro r
  have hx := u9un_lt w
  induction r with
  | zero =>
    intro k l hk hl hb n hn
    obtain ⟨n, rfl⟩ : ∃ m, n = m + 1 := ⟨n - 1, by omega⟩
    obtain rfl : k = 8 := by omega
    simp only [f_Texts_isBeginning_5, f_Texts_isBeginning_5b]
    rw [if_pos (by decide), if_pos (u9okB_iff.2 fun i hi => hb i (by have := u9nl_le (u9un w); omega) hi)]
  | succ r ih =>
    intro k l hk hl hb n hn
    obtain ⟨n, rfl⟩ : ∃ m, n = m + 1 := ⟨n - 1, by omega⟩
    simp only [f_Texts_isBeginning_5, f_Texts_isBeginning_5b]
    rw [if_neg (by rw [u9qi_lit, u9qi_le (by omega) (by omega)]; show ¬ (8 ≤ k); omega)]
    have hk8 : k < 8 := by omega
    have hz : (l = 0) = (u9nl (u9un w) ≤ k) := by
      rw [u9nl_up hk8, u9un_inj, hl]
      show (_ = 0) = _
      rw [Nat.div_eq_zero_iff]
      have : 0 < 256 ^ k := Nat.pow_pos (by decide)
      simp
    simp only [hz, u9un_and, u9un_shr8]
    have hm : u9un l % 256 = u9qb (u9un w) k := by rw [hl]; rfl
    have hm2 := u9qb_lt (u9un w) k
    rw [hm]
    simp only [u9ri_lit, u9ri_lt (show u9qb (u9un w) k < 9223372036854775808 by omega) (show (OfNat.ofNat 97 : Nat) < 9223372036854775808 by decide), u9ri_le (show u9qb (u9un w) k < 9223372036854775808 by omega) (show (OfNat.ofNat 106 : Nat) < 9223372036854775808 by decide)]
    show (if u9nl (u9un w) ≤ k then _ else if u9qb (u9un w) k < 97 then _ else if u9qb (u9un w) k ≤ 106 then _ else _) = _
    by_cases h : u9nl (u9un w) ≤ k
    · rw [if_pos h, if_pos (u9okB_iff.2 fun i hi => hb i (by omega) hi)]
    · rw [if_neg h]
      by_cases h1 : u9qb (u9un w) k < 97
      · rw [if_pos h1, if_neg (fun hc => by have := u9okB_iff.1 hc k (by omega); omega)]
      · rw [if_neg h1]
        by_cases h2 : u9qb (u9un w) k ≤ 106
        · rw [if_pos h2, u9qi_lit, u9qi_add]
          refine ih (k + 1) _ (by omega) ?_ ?_ n (by omega)
          · rw [u9un_ri (by have := u9un_lt l; omega), hl, Nat.div_div_eq_div_mul, Nat.pow_succ]
          · intro i hi hi2
            by_cases hik : i < k
            · exact hb i hik hi2
            · obtain rfl : i = k := by omega
              omega
        · rw [if_neg h2, if_neg (fun hc => by have := u9okB_iff.1 hc k (by omega); omega)]
theorem u9q_isB (w : Int64) : f_Texts_isBeginning w = some (if u9okB (u9un w) = true then 1 else 0) := by
  unfold f_Texts_isBeginning
  have := u9q_isB_k w 8 0 w (by omega) (by simp) (by intro i hi; omega) FU (by decide)
  rw [show (0 : Int32) = u9qi 0 from rfl, this]
  split <;> rfl
theorem u9q_isT_k (w : Int64) : ∀ r k s, k + r = u9nl (u9un w) → (s = 0 ∨ s = 1) → (s = 1 ↔ (u9un w < 9223372036854775808 ∧ ∀ i, i < k → 97 ≤ u9qb (u9un w) i ∧ u9qb (u9un w) i ≤ 106)) → ∀ n, r < n → f_M_isText_20 w (u9qi (u9nl (u9un w))) n s (u9qi k) = some (if (u9un w < 9223372036854775808 ∧ u9okB (u9un w) = true) then 1 else 0) := by
  intro r
  have hx := u9un_lt w
  have h8 := u9nl_le (u9un w)
  induction r with
  | zero =>
    intro k s hk hs hb n hn
    obtain ⟨n, rfl⟩ : ∃ m, n = m + 1 := ⟨n - 1, by omega⟩
    obtain rfl : k = u9nl (u9un w) := by omega
    simp only [f_M_isText_20, f_M_isText_20b]
    rw [if_pos (by rw [u9qi_le (by omega) (by omega)]; omega)]
    rw [← u9okB_iff] at hb
    rcases hs with rfl | rfl
    · rw [if_neg (fun h => absurd (hb.2 h) (by decide))]
    · rw [if_pos (hb.1 rfl)]
  | succ r ih =>
    intro k s hk hs hb n hn
    obtain ⟨n, rfl⟩ : ∃ m, n = m + 1 := ⟨n - 1, by omega⟩
    simp only [f_M_isText_20, f_M_isText_20b, f_M_isText_65, f_M_isText_66]
    have hk8 : k < 8 := by omega
    rw [if_neg (by rw [u9qi_le (by omega) (by omega)]; omega)]
    simp only [u9q_sarB w hk8]
    have hm2 := u9qb_lt (u9un w) k
    simp only [u9ri_lit, u9ri_lt (show u9qb (u9un w) k < 9223372036854775808 by omega) (show (OfNat.ofNat 97 : Nat) < 9223372036854775808 by decide), u9ri_lt (show (OfNat.ofNat 106 : Nat) < 9223372036854775808 by decide) (show u9qb (u9un w) k < 9223372036854775808 by omega)]
    have e : u9qi k + 1 = u9qi (k + 1) := by rw [u9qi_lit, u9qi_add]
    rw [e]
    have hkey : ∀ s', (s' = 0 ∨ s' = 1) → (s' = 1 ↔ (s = 1 ∧ 97 ≤ u9qb (u9un w) k ∧ u9qb (u9un w) k ≤ 106)) → f_M_isText_20 w (u9qi (u9nl (u9un w))) n s' (u9qi (k + 1)) = some (if (u9un w < 9223372036854775808 ∧ u9okB (u9un w) = true) then 1 else 0) := by
      intro s' hs' h'
      refine ih (k + 1) s' (by omega) hs' ?_ n (by omega)
      rw [h', hb]
      constructor
      · rintro ⟨⟨h1, h2⟩, h3⟩
        refine ⟨h1, fun i hi => ?_⟩
        by_cases hik : i < k
        · exact h2 i hik
        · obtain rfl : i = k := by omega
          exact h3
      · rintro ⟨h1, h2⟩
        exact ⟨⟨h1, fun i hi => h2 i (by omega)⟩, h2 k (by omega)⟩
    show (if s = 0 then _ else if u9qb (u9un w) k < 97 then _ else if 106 < u9qb (u9un w) k then _ else _) = _
    have hf : f_M_isText_20 w (u9qi (u9nl (u9un w))) n 0 (u9qi (k + 1)) = some (if (u9un w < 9223372036854775808 ∧ u9okB (u9un w) = true) then 1 else 0) ∨ (s = 1 ∧ 97 ≤ u9qb (u9un w) k ∧ u9qb (u9un w) k ≤ 106) := by
      by_cases hc : (s = 1 ∧ 97 ≤ u9qb (u9un w) k ∧ u9qb (u9un w) k ≤ 106)
      · exact Or.inr hc
      · exact Or.inl (hkey 0 (Or.inl rfl) ⟨fun h => absurd h (by decide), fun h => absurd h hc⟩)
    rcases hf with hf | hf
    · by_cases hc : (s = 1 ∧ 97 ≤ u9qb (u9un w) k ∧ u9qb (u9un w) k ≤ 106)
      · rw [if_neg (by rw [hc.1]; decide), if_neg (by omega), if_neg (by omega)]
        exact hkey 1 (Or.inr rfl) ⟨fun _ => hc, fun _ => rfl⟩
      · rcases hs with rfl | rfl
        · rw [if_pos rfl]; exact hf
        · rw [if_neg (by decide)]
          by_cases h1 : u9qb (u9un w) k < 97
          · rw [if_pos h1]; exact hf
          · rw [if_neg h1]
            rw [if_pos (by apply Nat.lt_of_not_le; intro h; exact hc ⟨rfl, by omega, h⟩)]; exact hf
    · rw [if_neg (by rw [hf.1]; decide), if_neg (by omega), if_neg (by omega)]
      exact hkey 1 (Or.inr rfl) ⟨fun _ => hf, fun _ => rfl⟩
theorem u9okB_pos {x : Nat} (hx : x < 18446744073709551616) (h : u9okB x = true) : x < 9223372036854775808 := by
  rw [u9okB_iff] at h
  by_cases h8 : u9nl x = 8
  · have := h 7 (by omega)
    unfold u9qb at this
    simp at this
    omega
  · have := u9nl_le x
    have := u9nl_hi hx
    have : u9nl x ≤ 7 := by omega
    have : 256 ^ u9nl x ≤ 256 ^ 7 := Nat.pow_le_pow_right (by decide) this
    omega
theorem u9q_isT (w : Int64) : f_M_isText w = some (if u9okB (u9un w) = true then 1 else 0) := by
  have hx := u9un_lt w
  have hn := u9un_neg w
  unfold f_M_isText f_M_isText_11
  rw [u9q_lettersOf]
  simp only [Option.bind_some]
  have e0 : (if (u9un w < 9223372036854775808 ∧ u9okB (u9un w) = true) then (1 : Int32) else 0) = if u9okB (u9un w) = true then 1 else 0 := by
    by_cases h : u9okB (u9un w) = true
    · rw [if_pos ⟨u9okB_pos hx h, h⟩, if_pos h]
    · rw [if_neg (fun hc => h hc.2), if_neg h]
  have key : ∀ s : Int32, (s = 0 ∨ s = 1) → (s = 1 ↔ u9un w < 9223372036854775808) → f_M_isText_20 w (u9qi (u9nl (u9un w))) FU s (0 : Int32) = some (if u9okB (u9un w) = true then 1 else 0) := by
    intro s h1 h2
    show f_M_isText_20 w (u9qi (u9nl (u9un w))) FU s (u9qi 0) = _
    rw [u9q_isT_k w (u9nl (u9un w)) 0 s (by omega) h1 (by rw [h2]; constructor; exact fun h => ⟨h, fun i hi => absurd hi (by omega)⟩; exact fun h => h.1) FU (by have := u9nl_le (u9un w); unfold FU; omega), e0]
  by_cases h : w < 0
  · rw [if_pos h, key 0 (Or.inl rfl) ⟨fun h => absurd h (by decide), fun h2 => by rw [hn] at h; omega⟩]
    simp only [Option.bind_some]
    split <;> rfl
  · rw [if_neg h, key 1 (Or.inr rfl) ⟨fun _ => by rw [hn] at h; omega, fun _ => rfl⟩]
    simp only [Option.bind_some]
    split <;> rfl
def u9okW (w : Int64) : Bool := decide (w ≠ 0) && u9okB (u9un w)
theorem u9q_isW (w : Int64) : f_Texts_isWord w = some (if u9okW w = true then 1 else 0) := by
  unfold f_Texts_isWord u9okW
  rw [u9q_isB]
  by_cases h : w = 0
  · simp [h]
  · by_cases h1 : u9okB (u9un w) = true <;> simp [h, h1]
theorem u9q_isMW (w : Int64) : f_M_isWord w = some (if u9okW w = true then 1 else 0) := by
  unfold f_M_isWord u9okW
  rw [u9q_isT]
  by_cases h : w = 0
  · simp [h]
  · by_cases h1 : u9okB (u9un w) = true <;> simp [h, h1]
