theorem u9ql_ext {t u : Int64} : (t = u) = (∀ i, i < 8 → u9ql t i = u9ql u i) := by
  have h := u9ql_top (u9un_lt t) (u9un_lt u) 8 (by omega)
  simp at h
  rw [u9un_inj]
  exact propext h.symm
theorem u9T_pos {w : Int64} (hw : u9okB (u9un w) = true) : u9tx (u9un w) < 9223372036854775808 := by
  have hlt := u9tx_lt (u9un_lt w)
  by_cases h : u9nl (u9un w) = 0
  · have := u9nl_bd (u9un w)
    have h0 : u9un w = 0 := by omega
    rw [h0]; decide
  · have h1 := u9la_pos hw (k := 0) (by omega)
    rw [← u9ql_T w (by omega)] at h1
    unfold u9ql at h1
    rw [u9un_T] at h1
    unfold u9qb at h1
    simp at h1
    omega
theorem u9T_lt {w v : Int64} (hw : u9okB (u9un w) = true) (hv : u9okB (u9un v) = true) : (u9T w < u9T v) = (u9tx (u9un w) < u9tx (u9un v)) := by
  unfold u9T; exact u9ri_lt (u9T_pos hw) (u9T_pos hv)
theorem u9T_le {w v : Int64} (hw : u9okB (u9un w) = true) (hv : u9okB (u9un v) = true) : (u9T w ≤ u9T v) = (u9tx (u9un w) ≤ u9tx (u9un v)) := by
  unfold u9T; exact u9ri_le (u9T_pos hw) (u9T_pos hv)
theorem u9la_lex {w v : Int64} {d : Nat} (hd : d < 8) (he : ∀ i, i < d → u9la w i = u9la v i) (hl : u9la w d < u9la v d) : u9tx (u9un w) < u9tx (u9un v) := by
  refine u9ql_lex (u9tx_lt (u9un_lt w)) (u9tx_lt (u9un_lt v)) hd (fun i hi => ?_) ?_
  · have := he i hi
    rw [← u9ql_T w (by omega), ← u9ql_T v (by omega)] at this
    simpa only [u9ql, u9un_T] using this
  · rw [← u9ql_T w (by omega), ← u9ql_T v (by omega)] at hl
    simpa only [u9ql, u9un_T] using hl
theorem u9q_before_k (a b : Int64) : ∀ r k, k + r = 8 → (∀ i, i < k → u9la a i = u9la b i) → ∀ n, r < n → (f_M_isBefore_3 a b n (u9qi k) = some (.inl ()) ∧ (∀ i, i < 8 → u9la a i = u9la b i)) ∨ (∃ d, d < 8 ∧ f_M_isBefore_3 a b n (u9qi k) = some (.inr (u9qi d)) ∧ (∀ i, i < d → u9la a i = u9la b i) ∧ u9la a d ≠ u9la b d) := by
  intro r
  induction r with
  | zero =>
    intro k hk he n hn
    obtain ⟨n, rfl⟩ : ∃ m, n = m + 1 := ⟨n - 1, by omega⟩
    obtain rfl : k = 8 := by omega
    refine Or.inl ⟨?_, he⟩
    simp only [f_M_isBefore_3, f_M_isBefore_3b]
    rw [if_pos (by decide)]
  | succ r ih =>
    intro k hk he n hn
    obtain ⟨n, rfl⟩ : ∃ m, n = m + 1 := ⟨n - 1, by omega⟩
    have ha := u9la_lt a k
    have hb := u9la_lt b k
    simp only [f_M_isBefore_3, f_M_isBefore_3b]
    rw [if_neg (by rw [u9qi_lit, u9qi_le (by omega) (by omega)]; show ¬ (8 ≤ k); omega)]
    simp only [u9q_at a (show k < 8 by omega), u9q_at b (show k < 8 by omega), Option.bind_some]
    simp only [u9qi_eq (show u9la a k < 2147483648 by omega) (show u9la b k < 2147483648 by omega)]
    by_cases h : u9la a k = u9la b k
    · rw [if_pos h, show u9qi k + 1 = u9qi (k + 1) by rw [u9qi_lit, u9qi_add]]
      refine ih (k + 1) (by omega) (fun i hi => ?_) n (by omega)
      by_cases hik : i < k
      · exact he i hik
      · obtain rfl : i = k := by omega
        exact h
    · rw [if_neg h]
      exact Or.inr ⟨k, by omega, rfl, he, h⟩
theorem u9q_before {a b : Int64} (ha : u9okB (u9un a) = true) (hb : u9okB (u9un b) = true) : f_M_isBefore a b = some (if u9T a < u9T b then 1 else 0) := by
  unfold f_M_isBefore
  simp only [u9T_lt ha hb]
  rcases u9q_before_k a b 8 0 (by omega) (by intro i hi; omega) FU (by decide) with ⟨h, he⟩ | ⟨d, hd, h, he, hne⟩
  · rw [show (0 : Int32) = u9qi 0 from rfl, h]
    have : u9T a = u9T b := by
      rw [u9ql_ext]; intro i hi; rw [u9ql_T a hi, u9ql_T b hi]; exact he i hi
    have h2 : u9tx (u9un a) = u9tx (u9un b) := by rw [← u9un_T, ← u9un_T, this]
    rw [h2]; simp
  · have e := h
    rw [show (f_M_isBefore_3 a b FU (0 : Int32)) = f_M_isBefore_3 a b FU (u9qi 0) from rfl, h]
    simp only [Option.bind_some, Sum.elim_inr, u9q_at a hd, u9q_at b hd]
    have h1 := u9la_lt a d
    have h2 := u9la_lt b d
    simp only [u9qi_le (show u9la b d < 2147483648 by omega) (show u9la a d < 2147483648 by omega)]
    by_cases hc : u9la b d ≤ u9la a d
    · have := u9la_lex (w := b) (v := a) hd (fun i hi => (he i hi).symm) (by omega)
      rw [if_pos hc, if_neg (by omega)]
    · have := u9la_lex (w := a) (v := b) hd he (by omega)
      rw [if_neg hc, if_pos this]
def u9H (t : Int64) (k : Nat) : Int64 := u9ri (u9un t / 256 ^ (8 - k) * 256 ^ (8 - k))
theorem u9q_hd (x : BitVec 64) {s : Nat} (h : s < 64) : x &&& (BitVec.allOnes 64 <<< s) = (x >>> s) <<< s := by
  apply BitVec.eq_of_getLsbD_eq
  intro i hi
  simp only [BitVec.getLsbD_and, BitVec.getLsbD_shiftLeft, BitVec.getLsbD_ushiftRight, BitVec.getLsbD_allOnes]
  by_cases h1 : i < s
  · simp [h1]
  · have h2 : s + (i - s) = i := by omega
    have h3 : i - s < 64 := by omega
    simp [h1, h2, hi, h3]
theorem u9un_hd {s : Nat} (h : s < 64) (t : Int64) : t &&& ((-1 : Int64) <<< Int64.ofNat s) = u9ri (u9un t / 2 ^ s * 2 ^ s) := by
  apply Int64.toBitVec_inj.1
  have h1 := u9q_hd t.toBitVec h
  have h2 : ((-1 : Int64) <<< Int64.ofNat s).toBitVec = BitVec.allOnes 64 <<< s := by
    simp [u9q_sm s h]
  rw [Int64.toBitVec_and, h2, h1]
  apply BitVec.eq_of_toNat_eq
  simp [u9ri, u9un, Nat.shiftRight_eq_div_pow, Nat.shiftLeft_eq]
theorem u9q_head (t : Int64) {k : Nat} (hk : k ≤ 8) : f_Texts_head t (u9qi k) = some (u9H t k) := by
  unfold f_Texts_head u9H
  rcases u9q8' hk with rfl | rfl | rfl | rfl | rfl | rfl | rfl | rfl | rfl
  · rw [if_neg (by decide)]
    congr 1
    rw [show u9un t / 256 ^ (8 - 0) = 0 from Nat.div_eq_of_lt (by have := u9un_lt t; omega)]
    simp; rfl
  · rw [if_pos (by decide)]; exact congrArg some (u9un_hd (s := 56) (by decide) t)
  · rw [if_pos (by decide)]; exact congrArg some (u9un_hd (s := 48) (by decide) t)
  · rw [if_pos (by decide)]; exact congrArg some (u9un_hd (s := 40) (by decide) t)
  · rw [if_pos (by decide)]; exact congrArg some (u9un_hd (s := 32) (by decide) t)
  · rw [if_pos (by decide)]; exact congrArg some (u9un_hd (s := 24) (by decide) t)
  · rw [if_pos (by decide)]; exact congrArg some (u9un_hd (s := 16) (by decide) t)
  · rw [if_pos (by decide)]; exact congrArg some (u9un_hd (s := 8) (by decide) t)
  · rw [if_pos (by decide)]; exact congrArg some (u9un_hd (s := 0) (by decide) t)
theorem u9H_eq (t u : Int64) {k : Nat} (hk : k ≤ 8) : (u9H t k = u9H u k) = (∀ i, i < k → u9ql t i = u9ql u i) := by
  have ht := u9un_lt t
  have hu := u9un_lt u
  have hp : 0 < 256 ^ (8 - k) := Nat.pow_pos (by decide)
  have h1 : u9un t / 256 ^ (8 - k) * 256 ^ (8 - k) ≤ u9un t := Nat.div_mul_le_self _ _
  have h2 : u9un u / 256 ^ (8 - k) * 256 ^ (8 - k) ≤ u9un u := Nat.div_mul_le_self _ _
  unfold u9H
  rw [u9ri_eq (by omega) (by omega)]
  have h := u9ql_top ht hu k hk
  unfold u9ql
  rw [propext h]
  apply propext; constructor
  · intro hh; exact Nat.eq_of_mul_eq_mul_right hp hh
  · intro hh; rw [hh]
def u9TL (t : Int64) (k : Nat) : Int64 := u9ri (u9un t * 256 ^ k)
theorem u9q_tail (t : Int64) {k : Nat} (hk : k ≤ 8) : f_Texts_tail t (u9qi k) = some (u9TL t k) := by
  unfold f_Texts_tail u9TL
  rcases u9q8' hk with rfl | rfl | rfl | rfl | rfl | rfl | rfl | rfl | rfl
  · rw [if_pos (by decide)]; exact congrArg some (u9un_shl (s := 0) (by decide) t)
  · rw [if_pos (by decide)]; exact congrArg some (u9un_shl (s := 8) (by decide) t)
  · rw [if_pos (by decide)]; exact congrArg some (u9un_shl (s := 16) (by decide) t)
  · rw [if_pos (by decide)]; exact congrArg some (u9un_shl (s := 24) (by decide) t)
  · rw [if_pos (by decide)]; exact congrArg some (u9un_shl (s := 32) (by decide) t)
  · rw [if_pos (by decide)]; exact congrArg some (u9un_shl (s := 40) (by decide) t)
  · rw [if_pos (by decide)]; exact congrArg some (u9un_shl (s := 48) (by decide) t)
  · rw [if_pos (by decide)]; exact congrArg some (u9un_shl (s := 56) (by decide) t)
  · rw [if_neg (by decide)]
    congr 1
    rw [u9un_inj]
    unfold u9un u9ri
    simp
theorem u9qb_mod (x : Nat) {i : Nat} (hi : i < 8) : u9qb (x % 18446744073709551616) i = u9qb x i := by
  unfold u9qb
  rw [show (18446744073709551616 : Nat) = 256 ^ i * 256 ^ (8 - i) by rw [← Nat.pow_add, show i + (8 - i) = 8 by omega], Nat.mod_mul_right_div_self]
  rw [show (256 : Nat) ^ (8 - i) = 256 * 256 ^ (7 - i) by rw [Nat.mul_comm, ← Nat.pow_succ]; congr 1; omega]
  rw [Nat.mod_mul_right_mod]
theorem u9ql_TL (t : Int64) {k c : Nat} (hk : k ≤ 8) (hc : c < 8) : u9ql (u9TL t k) c = if k + c < 8 then u9ql t (k + c) else 0 := by
  unfold u9ql u9TL
  have e : u9un (u9ri (u9un t * 256 ^ k)) = u9un t * 256 ^ k % 18446744073709551616 := by
    unfold u9un u9ri; simp
  rw [e, u9qb_mod _ (by omega), u9qb_mul]
  by_cases h : k + c < 8
  · rw [if_neg (by omega), if_pos h]; congr 1; omega
  · rw [if_pos (by omega), if_neg h]
theorem u9TL_eq (t u : Int64) {k j : Nat} (hk : k ≤ 8) (hj : j ≤ 8) : (u9TL t k = u9TL u j) = (∀ c, c < 8 → (if k + c < 8 then u9ql t (k + c) else 0) = (if j + c < 8 then u9ql u (j + c) else 0)) := by
  rw [u9ql_ext]
  apply propext; constructor
  · intro h c hc; have := h c hc; rwa [u9ql_TL t hk hc, u9ql_TL u hj hc] at this
  · intro h c hc; rw [u9ql_TL t hk hc, u9ql_TL u hj hc]; exact h c hc
