theorem u9q_of_k (w : Int64) : ∀ r k l, k + r = 8 → k ≤ 8 - u9nl (u9un w) → l = u9ri (u9un w * 256 ^ k) → ∀ n, r < n → f_Texts_ofNumber_5 w n l (u9qi k) = some (u9T w) := by
  intro r
  have hx := u9un_lt w
  have h8 := u9nl_le (u9un w)
  have hhi := u9nl_hi hx
  induction r with
  | zero =>
    intro k l hk hn hl n hnn
    obtain ⟨n, rfl⟩ : ∃ m, n = m + 1 := ⟨n - 1, by omega⟩
    obtain rfl : k = 8 := by omega
    simp only [f_Texts_ofNumber_5, f_Texts_ofNumber_5b]
    rw [if_pos (by decide), hl]
    unfold u9T u9tx
    rw [show u9nl (u9un w) = 0 by omega]
  | succ r ih =>
    intro k l hk hn hl n hnn
    obtain ⟨n, rfl⟩ : ∃ m, n = m + 1 := ⟨n - 1, by omega⟩
    have hk8 : k < 8 := by omega
    have hlt : u9un w * 256 ^ k < 18446744073709551616 := by
      have : u9un w * 256 ^ k < 256 ^ u9nl (u9un w) * 256 ^ k := Nat.mul_lt_mul_of_pos_right hhi (Nat.pow_pos (by decide))
      rw [← Nat.pow_add] at this
      have h2 : 256 ^ (u9nl (u9un w) + k) ≤ 256 ^ 8 := Nat.pow_le_pow_right (by decide) (by omega)
      omega
    have hu : u9un l = u9un w * 256 ^ k := by rw [hl, u9un_ri hlt]
    simp only [f_Texts_ofNumber_5, f_Texts_ofNumber_5b]
    rw [if_neg (by rw [u9qi_lit, u9qi_le (by omega) (by omega)]; show ¬ (8 ≤ k); omega)]
    have e0 := u9q_letterAt l (p := 0) (by decide)
    rw [show (0 : Int32) = u9qi 0 from rfl, e0]
    simp only [Option.bind_some]
    have hb := u9ql_lt l 0
    simp only [u9qi_eq (show u9ql l 0 < 2147483648 by omega) (show 0 < 2147483648 by decide)]
    have hq : u9ql l 0 = u9qb (u9un w) (7 - k) := by
      unfold u9ql; rw [hu, u9qb_mul, if_neg (by omega)]
    by_cases h : k < 8 - u9nl (u9un w)
    · have hz : u9ql l 0 = 0 := by rw [hq]; exact u9qb_top hhi (by omega)
      rw [if_pos hz, show u9qi k + 1 = u9qi (k + 1) by rw [u9qi_lit, u9qi_add]]
      refine ih (k + 1) _ (by omega) (by omega) ?_ n (by omega)
      have hs := u9un_shl (s := 8) (by decide) l
      rw [show ((8 : Int32).toInt64 &&& 63) = Int64.ofNat 8 by decide, hs, hu, show (2 : Nat) ^ 8 = 256 from rfl, Nat.mul_assoc, ← Nat.pow_succ]
    · have hz : ¬ u9ql l 0 = 0 := by
        rw [hq]
        have hk2 : k = 8 - u9nl (u9un w) := by omega
        have hnp : 0 < u9nl (u9un w) := by omega
        have hbd := u9nl_bd (u9un w)
        have hlo : 256 ^ (u9nl (u9un w) - 1) ≤ u9un w := by omega
        rw [show 7 - k = u9nl (u9un w) - 1 by omega]
        unfold u9qb
        have hpos : 0 < 256 ^ (u9nl (u9un w) - 1) := Nat.pow_pos (by decide)
        have h1 : 1 ≤ u9un w / 256 ^ (u9nl (u9un w) - 1) := (Nat.le_div_iff_mul_le hpos).2 (by omega)
        have h2 : u9un w / 256 ^ (u9nl (u9un w) - 1) < 256 := by
          rw [Nat.div_lt_iff_lt_mul hpos]
          rw [show 256 * 256 ^ (u9nl (u9un w) - 1) = 256 ^ u9nl (u9un w) by rw [Nat.mul_comm, ← Nat.pow_succ]; congr 1; omega]
          exact hhi
        rw [Nat.mod_eq_of_lt h2]; omega
      rw [if_neg hz, hl]
      unfold u9T u9tx
      rw [show 8 - u9nl (u9un w) = k by omega]
theorem u9q_of (w : Int64) : f_Texts_ofNumber w = some (u9T w) := by
  unfold f_Texts_ofNumber
  rw [show (0 : Int32) = u9qi 0 from rfl, u9q_of_k w 8 0 w (by omega) (by omega) (by simp [u9ri_un]) FU (by decide)]
  rfl
theorem u9q_to_k (w : Int64) (hw : u9okB (u9un w) = true) : ∀ r k l, k + r = 8 → k ≤ 8 - u9nl (u9un w) → l = u9ri (u9un w * 256 ^ (8 - u9nl (u9un w) - k)) → ∀ n, r < n → f_Texts_toNumber_5 (u9T w) n l (u9qi k) = some w := by
  intro r
  have hx := u9un_lt w
  have h8 := u9nl_le (u9un w)
  have hhi := u9nl_hi hx
  induction r with
  | zero =>
    intro k l hk hn hl n hnn
    obtain ⟨n, rfl⟩ : ∃ m, n = m + 1 := ⟨n - 1, by omega⟩
    obtain rfl : k = 8 := by omega
    simp only [f_Texts_toNumber_5, f_Texts_toNumber_5b]
    rw [if_pos (by decide), hl, show u9nl (u9un w) = 0 by omega]
    simp [u9ri_un]
  | succ r ih =>
    intro k l hk hn hl n hnn
    obtain ⟨n, rfl⟩ : ∃ m, n = m + 1 := ⟨n - 1, by omega⟩
    have hk8 : k < 8 := by omega
    have hlt : u9un w * 256 ^ (8 - u9nl (u9un w) - k) < 18446744073709551616 := by
      have : u9un w * 256 ^ (8 - u9nl (u9un w) - k) < 256 ^ u9nl (u9un w) * 256 ^ (8 - u9nl (u9un w) - k) := Nat.mul_lt_mul_of_pos_right hhi (Nat.pow_pos (by decide))
      rw [← Nat.pow_add] at this
      have h2 : 256 ^ (u9nl (u9un w) + (8 - u9nl (u9un w) - k)) ≤ 256 ^ 8 := Nat.pow_le_pow_right (by decide) (by omega)
      omega
    have hu : u9un l = u9un w * 256 ^ (8 - u9nl (u9un w) - k) := by rw [hl, u9un_ri hlt]
    simp only [f_Texts_toNumber_5, f_Texts_toNumber_5b]
    rw [if_neg (by rw [u9qi_lit, u9qi_le (by omega) (by omega)]; show ¬ (8 ≤ k); omega)]
    simp only [u9un_and, u9un_shr8]
    have hmod : u9un l % 256 = u9qb (u9un l) 0 := by simp [u9qb]
    have hlm : u9un l % 256 < 18446744073709551616 := by omega
    simp only [u9ri_lit, u9ri_eq hlm (show (OfNat.ofNat 0 : Nat) < 18446744073709551616 by decide)]
    show (if u9un l % 256 = 0 then _ else _) = _
    have hq : u9un l % 256 = if 0 < 8 - u9nl (u9un w) - k then 0 else u9qb (u9un w) 0 := by
      rw [hmod, hu, u9qb_mul]; simp
    by_cases h : k < 8 - u9nl (u9un w)
    · rw [if_pos (show 0 < 8 - u9nl (u9un w) - k by omega)] at hq
      rw [if_pos hq, show u9qi k + 1 = u9qi (k + 1) by rw [u9qi_lit, u9qi_add]]
      refine ih (k + 1) _ (by omega) (by omega) ?_ n (by omega)
      rw [hu, show 8 - u9nl (u9un w) - k = 8 - u9nl (u9un w) - (k + 1) + 1 by omega, Nat.pow_succ, ← Nat.mul_assoc, Nat.mul_div_cancel _ (by decide)]
    · have hnp : 0 < u9nl (u9un w) := by omega
      rw [if_neg (show ¬ 0 < 8 - u9nl (u9un w) - k by omega)] at hq
      have := u9okB_iff.1 hw 0 hnp
      rw [if_neg (by omega), hl, show 8 - u9nl (u9un w) - k = 0 by omega]
      simp [u9ri_un]
theorem u9q_to {w : Int64} (hw : u9okB (u9un w) = true) : f_Texts_toNumber (u9T w) = some w := by
  unfold f_Texts_toNumber
  rw [show (0 : Int32) = u9qi 0 from rfl, u9q_to_k w hw 8 0 (u9T w) (by omega) (by omega) rfl FU (by decide)]
  rfl
theorem u9T_inj {w v : Int64} (hw : u9okB (u9un w) = true) (hv : u9okB (u9un v) = true) : (u9T w = u9T v) = (w = v) := by
  apply propext; constructor
  · intro h
    have h1 := u9q_to hw
    rw [h, u9q_to hv] at h1
    exact (Option.some.inj h1).symm
  · intro h; rw [h]
theorem u9la_pos {w : Int64} (hw : u9okB (u9un w) = true) {k : Nat} (hk : k < u9nl (u9un w)) : 97 ≤ u9la w k ∧ u9la w k ≤ 106 := by
  unfold u9la; rw [if_pos hk]; exact u9okB_iff.1 hw _ (by omega)
theorem u9la_zero {w : Int64} {k : Nat} (hk : u9nl (u9un w) ≤ k) : u9la w k = 0 := by
  unfold u9la; rw [if_neg (by omega)]
theorem u9lnr_T {w : Int64} (hw : u9okB (u9un w) = true) : ∀ r k, k + r = 8 → k ≤ u9nl (u9un w) → u9lnr (u9ql (u9T w)) r k = u9nl (u9un w) := by
  intro r
  have h8 := u9nl_le (u9un w)
  induction r with
  | zero => intro k hk hn; simp only [u9lnr]; omega
  | succ r ih =>
    intro k hk hn
    simp only [u9lnr]
    rw [u9ql_T w (by omega)]
    by_cases h : k < u9nl (u9un w)
    · rw [if_neg (by have := u9la_pos hw h; omega), ih (k + 1) (by omega) (by omega)]
    · rw [if_pos (u9la_zero (by omega))]; omega
theorem u9q_len {w : Int64} (hw : u9okB (u9un w) = true) : f_Texts_lengthOf (u9T w) = some (u9qi (u9nl (u9un w))) := by
  rw [u9q_length, u9lnr_T hw 8 0 (by omega) (by omega)]
theorem u9qb_div (x k : Nat) : x / 256 ^ k = 256 * (x / 256 ^ (k + 1)) + u9qb x k := by
  unfold u9qb
  rw [Nat.pow_succ, ← Nat.div_div_eq_div_mul]; omega
theorem u9ql_top {x y : Nat} (hx : x < 18446744073709551616) (hy : y < 18446744073709551616) : ∀ p, p ≤ 8 → ((∀ i, i < p → u9qb x (7 - i) = u9qb y (7 - i)) ↔ x / 256 ^ (8 - p) = y / 256 ^ (8 - p)) := by
  intro p
  induction p with
  | zero =>
    intro _
    constructor
    · intro _
      have h1 : x / 256 ^ (8 - 0) = 0 := Nat.div_eq_of_lt (by omega)
      have h2 : y / 256 ^ (8 - 0) = 0 := Nat.div_eq_of_lt (by omega)
      rw [h1, h2]
    · intro _ i hi; omega
  | succ p ih =>
    intro hp
    have ihp := ih (by omega)
    have e : 8 - (p + 1) + 1 = 8 - p := by omega
    have h1 := u9qb_div x (8 - (p + 1))
    have h2 := u9qb_div y (8 - (p + 1))
    rw [e] at h1 h2
    have e2 : 8 - (p + 1) = 7 - p := by omega
    have b1 := u9qb_lt x (8 - (p + 1))
    have b2 := u9qb_lt y (8 - (p + 1))
    constructor
    · intro h
      have h3 := ihp.1 (fun i hi => h i (by omega))
      have h4 := h p (by omega)
      rw [← e2] at h4
      omega
    · intro h i hi
      have h3 : x / 256 ^ (8 - p) = y / 256 ^ (8 - p) := by omega
      by_cases hip : i < p
      · exact ihp.2 h3 i hip
      · obtain rfl : i = p := by omega
        rw [← e2]; omega
theorem u9ql_lex {x y : Nat} (hx : x < 18446744073709551616) (hy : y < 18446744073709551616) {p : Nat} (hp : p < 8) (he : ∀ i, i < p → u9qb x (7 - i) = u9qb y (7 - i)) (hl : u9qb x (7 - p) < u9qb y (7 - p)) : x < y := by
  have h := (u9ql_top hx hy p (by omega)).1 he
  have h1 := u9qb_div x (7 - p)
  have h2 := u9qb_div y (7 - p)
  rw [show 7 - p + 1 = 8 - p by omega] at h1 h2
  have h3 : x / 256 ^ (7 - p) < y / 256 ^ (7 - p) := by omega
  apply Nat.lt_of_not_le
  intro hc
  have := Nat.div_le_div_right (c := 256 ^ (7 - p)) hc
  omega
