theorem u9qb_shift (x j m : Nat) : u9qb (x / 256 ^ j) m = u9qb x (m + j) := by
  unfold u9qb; rw [Nat.div_div_eq_div_mul, ← Nat.pow_add, Nat.add_comm m j]
theorem u9ql_H (t : Int64) {k i : Nat} (hk : k ≤ 8) (hi : i < 8) : u9ql (u9H t k) i = if i < k then u9ql t i else 0 := by
  unfold u9ql u9H
  have ht := u9un_lt t
  have h1 : u9un t / 256 ^ (8 - k) * 256 ^ (8 - k) ≤ u9un t := Nat.div_mul_le_self _ _
  rw [u9un_ri (by omega), u9qb_mul]
  by_cases h : i < k
  · rw [if_neg (by omega), if_pos h, u9qb_shift]; congr 1; omega
  · rw [if_pos (by omega), if_neg h]
theorem u9shr_spec {f g : Nat → Nat} : ∀ r k, k + r = 8 → (∀ i, k ≤ i → i < u9shr f g r k → f i ≠ 0 ∧ f i = g i) ∧ (u9shr f g r k < 8 → f (u9shr f g r k) = 0 ∨ f (u9shr f g r k) ≠ g (u9shr f g r k)) ∧ k ≤ u9shr f g r k := by
  intro r
  induction r with
  | zero => intro k hk; simp only [u9shr]; refine ⟨fun i h1 h2 => by omega, fun h => by omega, Nat.le_refl _⟩
  | succ r ih =>
    intro k hk
    simp only [u9shr]
    by_cases h0 : f k = 0
    · rw [if_pos h0]; exact ⟨fun i h1 h2 => by omega, fun _ => Or.inl h0, Nat.le_refl _⟩
    · rw [if_neg h0]
      by_cases h1 : f k = g k
      · rw [if_pos h1]
        obtain ⟨a, b, c⟩ := ih (k + 1) (by omega)
        refine ⟨fun i hi hi2 => ?_, b, by omega⟩
        by_cases hik : i = k
        · subst hik; exact ⟨h0, h1⟩
        · exact a i (by omega) hi2
      · rw [if_neg h1]; exact ⟨fun i h1 h2 => by omega, fun _ => Or.inr h1, Nat.le_refl _⟩
theorem u9sh_eq_iff {w b : Int64} (hb : u9okB (u9un b) = true) : (u9sh (u9la w) (u9la b) = u9nl (u9un b)) = (∀ i, i < u9nl (u9un b) → u9la w i = u9la b i) := by
  have h8 := u9nl_le (u9un b)
  obtain ⟨a, c, _⟩ := u9shr_spec (f := u9la w) (g := u9la b) 8 0 (by omega)
  have hle := u9sh_le (u9la w) (u9la b)
  unfold u9sh at *
  generalize u9shr (u9la w) (u9la b) 8 0 = s at *
  apply propext; constructor
  · intro h i hi; exact (a i (by omega) (by omega)).2
  · intro h
    rcases Nat.lt_trichotomy s (u9nl (u9un b)) with hh | hh | hh
    · rcases c (by omega) with c1 | c1
      · have := u9la_pos hb hh; rw [← h s hh] at this; omega
      · exact absurd (h s hh) c1
    · exact hh
    · have := a (u9nl (u9un b)) (by omega) hh
      rw [u9la_zero (w := b) (Nat.le_refl _)] at this
      omega
theorem u9H_T {w b : Int64} (hb : u9okB (u9un b) = true) : (u9H (u9T w) (u9nl (u9un b)) = u9T b) = (u9sh (u9la w) (u9la b) = u9nl (u9un b)) := by
  have h8 := u9nl_le (u9un b)
  rw [u9sh_eq_iff hb, u9ql_ext]
  apply propext; constructor
  · intro h i hi
    have := h i (by omega)
    rw [u9ql_H _ h8 (by omega), if_pos hi, u9ql_T w (by omega), u9ql_T b (by omega)] at this
    exact this
  · intro h i hi
    rw [u9ql_H _ h8 hi, u9ql_T b hi]
    by_cases hin : i < u9nl (u9un b)
    · rw [if_pos hin, u9ql_T w hi]; exact h i hin
    · rw [if_neg hin, u9la_zero (by omega)]
theorem u9q_takeB {M n p : Nat} (hM : M ≤ 24) (hp : p < 3) {dt : Nat → Int64} {dc : Nat → Int32} {wd : Nat → Int64} {mc : Nat → Int32} (hW : u9WR n dt dc (fun i => wd (24 * p + i)) (fun i => mc (24 * p + i))) {nb sz : Nat → Int32} (hsz : sz p = u9qi n) (th a a2 t : Int32) {b : Int64} (hb : u9okB (u9un b) = true) :
    ∀ r k s g (u9tx : Nat → Int64) (rk : Nat → Int32) (gv : Nat → Int64) (ky : Nat → Int32), k + r = n → g ≤ k → u9GS M s g u9tx rk gv ky → ∀ fu, r < fu → ∃ s' g' tx' rk' gv' ky', f_Suggestions_takeBeginning_9 (u9qi M) (u9qi n) dt dc (u9T b) (u9qi (u9nl (u9un b))) fu (u9qi s) u9tx rk (u9qi k) = some (u9qi s', tx', rk') ∧ f_M_complete_68 th nb sz wd mc a b a2 t (u9qi p) (u9qi (u9nl (u9un b))) fu (u9qi g) gv ky (u9qi k) = some (u9qi g', gv', ky') ∧ g' ≤ n ∧ u9GS M s' g' tx' rk' gv' ky' := by
  obtain ⟨hn, hS, hw⟩ := hW
  intro r
  have h8 := u9nl_le (u9un b)
  have o3 : okI (u9qi p) 3 = true := by rw [u9qi_ok _ (by omega)]; omega
  have cp : (u9qi p).toNatClampNeg = p := u9qi_cl (by omega)
  induction r with
  | zero =>
    intro k s g u9tx rk gv ky hk hg hG fu hf
    obtain ⟨fu, rfl⟩ : ∃ m, fu = m + 1 := ⟨fu - 1, by omega⟩
    have l1 : u9qi n ≤ u9qi k := by rw [u9qi_le (by omega) (by omega)]; omega
    refine ⟨s, g, u9tx, rk, gv, ky, ?_, ?_, by omega, hG⟩
    · simp only [f_Suggestions_takeBeginning_9, f_Suggestions_takeBeginning_9b, f_WordList_size, Option.bind_some, l1, if_true]
    · simp only [f_M_complete_68, f_M_complete_68b, o3, if_true, cp, hsz, l1]
  | succ r ih =>
    intro k s g u9tx rk gv ky hk hg hG fu hf
    obtain ⟨fu, rfl⟩ : ∃ m, fu = m + 1 := ⟨fu - 1, by omega⟩
    have l1 : ¬ (u9qi n ≤ u9qi k) := by rw [u9qi_le (by omega) (by omega)]; omega
    have x1 : (24 : Int32) * u9qi p + u9qi k = u9qi (24 * p + k) := by rw [u9qi_lit, u9qi_mul, u9qi_add]
    have o1 : okI (u9qi (24 * p + k)) 72 = true := by rw [u9qi_ok _ (by omega)]; omega
    have o2 : okI (u9qi k) 24 = true := by rw [u9qi_ok _ (by omega)]; omega
    have c1 : (u9qi (24 * p + k)).toNatClampNeg = 24 * p + k := u9qi_cl (by omega)
    have c2 : (u9qi k).toNatClampNeg = k := u9qi_cl (by omega)
    obtain ⟨w1, w2, w3, c, c9, w4⟩ := hw k (by omega)
    have hsl := u9sh_le (u9la (wd (24 * p + k))) (u9la b)
    have hcond : (u9qi (u9sh (u9la (wd (24 * p + k))) (u9la b)) = u9qi (u9nl (u9un b))) = (u9sh (u9la (wd (24 * p + k))) (u9la b) = u9nl (u9un b)) := u9qi_eq (by omega) (by omega)
    simp only [f_Suggestions_takeBeginning_9, f_Suggestions_takeBeginning_9b, f_Suggestions_takeBeginning_50, f_WordList_size, f_WordList_textAt, f_WordList_costAt, Option.bind_some, l1, if_false, o2, if_true, c2, u9q_head _ h8, w2, u9H_T hb]
    simp only [f_M_complete_68, f_M_complete_68b, f_M_complete_132, o3, if_true, cp, hsz, l1, if_false, x1, o1, c1, u9q_common, Option.bind_some, hcond, u9q_p1]
    by_cases hc : u9sh (u9la (wd (24 * p + k))) (u9la b) = u9nl (u9un b)
    · simp only [hc, if_true]
      obtain ⟨s', tx', rk', gv', ky', e1, e2, hG'⟩ := u9q_gs hG hM (by omega) w1 (dc k)
      rw [w3] at e2
      simp only [e1, e2, Option.bind_some]
      exact ih (k + 1) s' (g + 1) tx' rk' gv' ky' (by omega) (by omega) hG' fu (by omega)
    · simp only [hc, if_false]
      exact ih (k + 1) s g u9tx rk gv ky (by omega) (by omega) hG fu (by omega)
theorem u9q_takeN {n p : Nat} (hp : p < 3) {dt : Nat → Int64} {dc : Nat → Int32} {wd : Nat → Int64} {mc : Nat → Int32} (hW : u9WR n dt dc (fun i => wd (24 * p + i)) (fun i => mc (24 * p + i))) {nb sz : Nat → Int32} (hsz : sz p = u9qi n) (th a t : Int32) (a2 : Int32) {b : Int64} (hb : u9okB (u9un b) = true) :
    ∀ r k s g (u9tx : Nat → Int64) (rk : Nat → Int32) (L : Nat → Nat → Int32) (gv : Nat → Int64) (ky Tb : Nat → Int32), k + r = n → g ≤ k → u9GS 24 s g u9tx rk gv ky → u9Bd L → ∀ fu, r < fu → ∃ s' g' tx' rk' L' gv' ky' Tb', f_Suggestions_takeNear_3 (u9qi 24) (u9qi n) dt dc (u9T b) a2 fu (u9qi s) u9tx rk L (u9qi k) = some (u9qi s', tx', rk', L') ∧ f_M_near_61 th nb sz wd mc a b a2 t (u9qi p) fu (u9qi g) gv ky Tb (u9qi k) = some (u9qi g', gv', ky', Tb') ∧ g' ≤ n ∧ u9GS 24 s' g' tx' rk' gv' ky' ∧ u9Bd L' := by
  obtain ⟨hn, hS, hw⟩ := hW
  intro r
  have o3 : okI (u9qi p) 3 = true := by rw [u9qi_ok _ (by omega)]; omega
  have cp : (u9qi p).toNatClampNeg = p := u9qi_cl (by omega)
  induction r with
  | zero =>
    intro k s g u9tx rk L gv ky Tb hk hg hG hL fu hf
    obtain ⟨fu, rfl⟩ : ∃ m, fu = m + 1 := ⟨fu - 1, by omega⟩
    have l1 : u9qi n ≤ u9qi k := by rw [u9qi_le (by omega) (by omega)]; omega
    refine ⟨s, g, u9tx, rk, L, gv, ky, Tb, ?_, ?_, by omega, hG, hL⟩
    · simp only [f_Suggestions_takeNear_3, f_Suggestions_takeNear_3b, f_WordList_size, Option.bind_some, l1, if_true]
    · simp only [f_M_near_61, f_M_near_61b, o3, if_true, cp, hsz, l1]
  | succ r ih =>
    intro k s g u9tx rk L gv ky Tb hk hg hG hL fu hf
    obtain ⟨fu, rfl⟩ : ∃ m, fu = m + 1 := ⟨fu - 1, by omega⟩
    have l1 : ¬ (u9qi n ≤ u9qi k) := by rw [u9qi_le (by omega) (by omega)]; omega
    have x1 : (24 : Int32) * u9qi p + u9qi k = u9qi (24 * p + k) := by rw [u9qi_lit, u9qi_mul, u9qi_add]
    have o1 : okI (u9qi (24 * p + k)) 72 = true := by rw [u9qi_ok _ (by omega)]; omega
    have o2 : okI (u9qi k) 24 = true := by rw [u9qi_ok _ (by omega)]; omega
    have c1 : (u9qi (24 * p + k)).toNatClampNeg = 24 * p + k := u9qi_cl (by omega)
    have c2 : (u9qi k).toNatClampNeg = k := u9qi_cl (by omega)
    obtain ⟨w1, w2, w3, c, c9, w4⟩ := hw k (by omega)
    obtain ⟨L1, e1, hL1⟩ := u9q_btw (L := L) hb (u9okW_B w1) hL
    obtain ⟨Tb1, e2⟩ := u9q_Mdist Tb b (wd (24 * p + k))
    simp only [f_Suggestions_takeNear_3, f_Suggestions_takeNear_3b, f_Suggestions_takeNear_56, f_WordList_size, f_WordList_textAt, f_WordList_costAt, Option.bind_some, l1, if_false, o2, if_true, c2, w2, e1]
    simp only [f_M_near_61, f_M_near_61b, f_M_near_137, o3, if_true, cp, hsz, l1, if_false, x1, o1, c1, e2, Option.bind_some, u9q_p1]
    generalize u9dd (u9la b) (u9la (wd (24 * p + k))) (u9nl (u9un b)) (u9nl (u9un (wd (24 * p + k)))) = D
    by_cases hc : a2 < u9qi D
    · simp only [hc, if_true]
      exact ih (k + 1) s g u9tx rk L1 gv ky Tb1 (by omega) (by omega) hG hL1 fu (by omega)
    · simp only [hc, if_false]
      obtain ⟨s', tx', rk', gv', ky', f1, f2, hG'⟩ := u9q_gs hG (by omega) (by omega) w1 (u9qi D * 10000 + dc k)
      have ec : (10000 : Int32) * u9qi D + mc (24 * p + k) = u9qi D * 10000 + dc k := by rw [w3, Int32.mul_comm]
      rw [← ec] at f2
      simp only [f1, f2, Option.bind_some]
      exact ih (k + 1) s' (g + 1) tx' rk' L1 gv' ky' Tb1 (by omega) (by omega) hG' hL1 fu (by omega)
