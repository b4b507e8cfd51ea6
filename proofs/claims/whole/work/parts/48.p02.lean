def u9shr (f g : Nat → Nat) : Nat → Nat → Nat
  | 0, k => k
  | r + 1, k => if f k = 0 then k else if f k = g k then u9shr f g r (k + 1) else k
def u9sh (f g : Nat → Nat) : Nat := u9shr f g 8 0
theorem u9shr_congr {f g f' g' : Nat → Nat} : ∀ r k, k + r = 8 → (∀ i, i < 8 → f i = f' i) → (∀ i, i < 8 → g i = g' i) → u9shr f g r k = u9shr f' g' r k := by
  intro r
  induction r with
  | zero => intros; rfl
  | succ r ih =>
    intro k hk hf hg
    simp only [u9shr]
    rw [hf k (by omega), hg k (by omega), ih (k + 1) (by omega) hf hg]
theorem u9sh_congr {f g f' g' : Nat → Nat} (hf : ∀ i, i < 8 → f i = f' i) (hg : ∀ i, i < 8 → g i = g' i) : u9sh f g = u9sh f' g' := u9shr_congr 8 0 rfl hf hg
theorem u9shr_le {f g : Nat → Nat} : ∀ r k, u9shr f g r k ≤ k + r := by
  intro r
  induction r with
  | zero => intro k; simp [u9shr]
  | succ r ih =>
    intro k
    simp only [u9shr]
    have := ih (k + 1)
    repeat' split
    all_goals omega
theorem u9sh_le (f g : Nat → Nat) : u9sh f g ≤ 8 := by have := u9shr_le (f := f) (g := g) 8 0; unfold u9sh; omega
theorem u9la_lt (w : Int64) (k : Nat) : u9la w k < 256 := by unfold u9la; split; exact u9qb_lt _ _; decide
theorem u9ql_lt (w : Int64) (k : Nat) : u9ql w k < 256 := u9qb_lt _ _
theorem u9q_common_k (a b : Int64) : ∀ r k, k + r = 8 → ∀ n, r < n → f_M_common_3 a b n (u9qi k) = some (u9qi (u9shr (u9la a) (u9la b) r k)) := by
  intro r
  induction r with
  | zero =>
    intro k hk n hn
    obtain ⟨n, rfl⟩ : ∃ m, n = m + 1 := ⟨n - 1, by omega⟩
    obtain rfl : k = 8 := by omega
    simp only [f_M_common_3, f_M_common_3b, u9shr]
    rw [if_pos (by decide)]
  | succ r ih =>
    intro k hk n hn
    obtain ⟨n, rfl⟩ : ∃ m, n = m + 1 := ⟨n - 1, by omega⟩
    have ha := u9la_lt a k
    have hb := u9la_lt b k
    simp only [f_M_common_3, f_M_common_3b, u9shr]
    rw [if_neg (by rw [u9qi_lit, u9qi_le (by omega) (by omega)]; show ¬ (8 ≤ k); omega)]
    simp only [u9q_at a (show k < 8 by omega), u9q_at b (show k < 8 by omega), Option.bind_some]
    rw [u9qi_lit, u9qi_lit, u9qi_add, ih (k + 1) (by omega) n (by omega)]
    simp only [u9qi_eq (show u9la a k < 2147483648 by omega) (show (OfNat.ofNat 0 : Nat) < 2147483648 by decide), u9qi_eq (show u9la a k < 2147483648 by omega) (show u9la b k < 2147483648 by omega)]
    show (if u9la a k = 0 then _ else _) = _
    by_cases h0 : u9la a k = 0
    · simp [h0]
    · by_cases h1 : u9la a k = u9la b k
      · rw [if_neg h0, if_pos h1, if_neg h0, if_pos h1]
      · rw [if_neg h0, if_neg h1, if_neg h0, if_neg h1]
theorem u9q_common (a b : Int64) : f_M_common a b = some (u9qi (u9sh (u9la a) (u9la b))) := by
  unfold f_M_common u9sh
  rw [u9qi_lit, u9q_common_k a b 8 0 (by omega) FU (by decide)]; first | done | rfl
theorem u9q_shared_k (a b : Int64) : ∀ r k, k + r = 8 → ∀ n, r < n → f_Texts_sharedLetters_3 a b n (u9qi k) = some (u9qi (u9shr (u9ql a) (u9ql b) r k)) := by
  intro r
  induction r with
  | zero =>
    intro k hk n hn
    obtain ⟨n, rfl⟩ : ∃ m, n = m + 1 := ⟨n - 1, by omega⟩
    obtain rfl : k = 8 := by omega
    simp only [f_Texts_sharedLetters_3, f_Texts_sharedLetters_3b, u9shr]
    rw [if_pos (by decide)]
  | succ r ih =>
    intro k hk n hn
    obtain ⟨n, rfl⟩ : ∃ m, n = m + 1 := ⟨n - 1, by omega⟩
    have ha := u9ql_lt a k
    have hb := u9ql_lt b k
    simp only [f_Texts_sharedLetters_3, f_Texts_sharedLetters_3b, u9shr]
    rw [if_neg (by rw [u9qi_lit, u9qi_le (by omega) (by omega)]; show ¬ (8 ≤ k); omega)]
    simp only [u9q_letterAt a (show k < 8 by omega), u9q_letterAt b (show k < 8 by omega), Option.bind_some]
    rw [u9qi_lit, u9qi_lit, u9qi_add, ih (k + 1) (by omega) n (by omega)]
    simp only [u9qi_eq (show u9ql a k < 2147483648 by omega) (show (OfNat.ofNat 0 : Nat) < 2147483648 by decide), u9qi_eq (show u9ql a k < 2147483648 by omega) (show u9ql b k < 2147483648 by omega)]
    show (if u9ql a k = 0 then _ else _) = _
    by_cases h0 : u9ql a k = 0
    · simp [h0]
    · by_cases h1 : u9ql a k = u9ql b k
      · rw [if_neg h0, if_pos h1, if_neg h0, if_pos h1]
      · rw [if_neg h0, if_neg h1, if_neg h0, if_neg h1]
theorem u9q_shared (a b : Int64) : f_Texts_sharedLetters a b = some (u9qi (u9sh (u9ql a) (u9ql b))) := by
  unfold f_Texts_sharedLetters u9sh
  rw [u9qi_lit, u9q_shared_k a b 8 0 (by omega) FU (by decide)]; first | done | rfl
def u9lnr (f : Nat → Nat) : Nat → Nat → Nat
  | 0, k => k
  | r + 1, k => if f k = 0 then k else u9lnr f r (k + 1)
theorem u9q_length_k (a : Int64) : ∀ r k, k + r = 8 → ∀ n, r < n → f_Texts_lengthOf_2 a n (u9qi k) = some (u9qi (u9lnr (u9ql a) r k)) := by
  intro r
  induction r with
  | zero =>
    intro k hk n hn
    obtain ⟨n, rfl⟩ : ∃ m, n = m + 1 := ⟨n - 1, by omega⟩
    obtain rfl : k = 8 := by omega
    simp only [f_Texts_lengthOf_2, f_Texts_lengthOf_2b, u9lnr]
    rw [if_pos (by decide)]
  | succ r ih =>
    intro k hk n hn
    obtain ⟨n, rfl⟩ : ∃ m, n = m + 1 := ⟨n - 1, by omega⟩
    have ha := u9ql_lt a k
    simp only [f_Texts_lengthOf_2, f_Texts_lengthOf_2b, u9lnr]
    rw [if_neg (by rw [u9qi_lit, u9qi_le (by omega) (by omega)]; show ¬ (8 ≤ k); omega)]
    simp only [u9q_letterAt a (show k < 8 by omega), Option.bind_some]
    rw [u9qi_lit, u9qi_lit, u9qi_add, ih (k + 1) (by omega) n (by omega)]
    simp only [u9qi_eq (show u9ql a k < 2147483648 by omega) (show (OfNat.ofNat 0 : Nat) < 2147483648 by decide)]
    show (if u9ql a k = 0 then _ else _) = _
    by_cases h0 : u9ql a k = 0
    · simp [h0]
    · rw [if_neg h0, if_neg h0]
theorem u9q_length (a : Int64) : f_Texts_lengthOf a = some (u9qi (u9lnr (u9ql a) 8 0)) := by
  unfold f_Texts_lengthOf
  rw [u9qi_lit, u9q_length_k a 8 0 (by omega) FU (by decide)]; first | done | rfl
