def u9dd (f g : Nat → Nat) : Nat → Nat → Nat
  | 0, j => j
  | i + 1, 0 => i + 1
  | i + 1, j + 1 =>
    if 1 ≤ i ∧ 1 ≤ j ∧ f i = g (j - 1) ∧ g j = f (i - 1) then
      min (min (min (u9dd f g i (j + 1)) (u9dd f g (i + 1) j) + 1) (u9dd f g i j + (if f i = g j then 0 else 1))) (u9dd f g (i - 1) (j - 1) + 1)
    else min (min (u9dd f g i (j + 1)) (u9dd f g (i + 1) j) + 1) (u9dd f g i j + (if f i = g j then 0 else 1))
termination_by i j => i + j
theorem u9dd_0 (f g : Nat → Nat) (j : Nat) : u9dd f g 0 j = j := by unfold u9dd; rfl
theorem u9dd_i0 (f g : Nat → Nat) (i : Nat) : u9dd f g i 0 = i := by
  cases i with
  | zero => exact u9dd_0 f g 0
  | succ i => unfold u9dd; rfl
theorem u9dd_s (f g : Nat → Nat) (i j : Nat) : u9dd f g (i + 1) (j + 1) = if 1 ≤ i ∧ 1 ≤ j ∧ f i = g (j - 1) ∧ g j = f (i - 1) then
      min (min (min (u9dd f g i (j + 1)) (u9dd f g (i + 1) j) + 1) (u9dd f g i j + (if f i = g j then 0 else 1))) (u9dd f g (i - 1) (j - 1) + 1)
    else min (min (u9dd f g i (j + 1)) (u9dd f g (i + 1) j) + 1) (u9dd f g i j + (if f i = g j then 0 else 1)) := by
  rw [u9dd]
theorem u9dd_le (f g : Nat → Nat) : ∀ s i j, i + j ≤ s → u9dd f g i j ≤ i + j := by
  intro s
  induction s with
  | zero =>
    intro i j h
    obtain rfl : i = 0 := by omega
    rw [u9dd_0]; omega
  | succ s ih =>
    intro i j h
    cases i with
    | zero => rw [u9dd_0]; omega
    | succ i =>
      cases j with
      | zero => rw [u9dd_i0]; omega
      | succ j =>
        have h1 := ih i (j + 1) (by omega)
        rw [u9dd_s]
        split <;> omega
theorem u9dd_congr {f g f' g' : Nat → Nat} {n m : Nat} (hf : ∀ i, i < n → f i = f' i) (hg : ∀ i, i < m → g i = g' i) : ∀ s i j, i + j ≤ s → i ≤ n → j ≤ m → u9dd f g i j = u9dd f' g' i j := by
  intro s
  induction s with
  | zero =>
    intro i j h _ _
    obtain rfl : i = 0 := by omega
    rw [u9dd_0, u9dd_0]
  | succ s ih =>
    intro i j h hn hm
    cases i with
    | zero => rw [u9dd_0, u9dd_0]
    | succ i =>
      cases j with
      | zero => rw [u9dd_i0, u9dd_i0]
      | succ j =>
        rw [u9dd_s, u9dd_s, ih i (j + 1) (by omega) (by omega) (by omega), ih (i + 1) j (by omega) (by omega) (by omega), ih i j (by omega) (by omega) (by omega), ih (i - 1) (j - 1) (by omega) (by omega) (by omega), hf i (by omega), hg j (by omega), hf (i - 1) (by omega), hg (j - 1) (by omega)]
theorem u9qi_min {x y : Nat} (hx : x < 2147483648) (hy : y < 2147483648) : (if u9qi x < u9qi y then u9qi x else u9qi y) = u9qi (min x y) := by
  simp only [u9qi_lt hx hy]
  split
  · rw [Nat.min_eq_left (by omega)]
  · rw [Nat.min_eq_right (by omega)]
def u9Bd (L : Nat → Nat → Int32) : Prop := ∀ i, i ≤ 8 → L i 0 = u9qi i ∧ L 0 i = u9qi i
theorem u9q_least {L : Nat → Nat → Int32} {a b : Int64} {i j : Nat} (hi : i < 8) (hj : j < 8)
    (h1 : L i j = u9qi (u9dd (u9ql a) (u9ql b) i j)) (h2 : L i (j + 1) = u9qi (u9dd (u9ql a) (u9ql b) i (j + 1))) (h3 : L (i + 1) j = u9qi (u9dd (u9ql a) (u9ql b) (i + 1) j)) (h4 : 1 ≤ i → 1 ≤ j → L (i - 1) (j - 1) = u9qi (u9dd (u9ql a) (u9ql b) (i - 1) (j - 1))) :
    f_Ruler_leastChanges L a b (u9qi (i + 1)) (u9qi (j + 1)) = some (u9qi (u9dd (u9ql a) (u9ql b) (i + 1) (j + 1))) := by
  have b1 := u9dd_le (u9ql a) (u9ql b) _ i j (Nat.le_refl _)
  have b2 := u9dd_le (u9ql a) (u9ql b) _ i (j + 1) (Nat.le_refl _)
  have b3 := u9dd_le (u9ql a) (u9ql b) _ (i + 1) j (Nat.le_refl _)
  have b4 := u9dd_le (u9ql a) (u9ql b) _ (i - 1) (j - 1) (Nat.le_refl _)
  have la1 := u9ql_lt a i
  have la2 := u9ql_lt a (i - 1)
  have lb1 := u9ql_lt b j
  have lb2 := u9ql_lt b (j - 1)
  rw [u9dd_s]
  generalize u9dd (u9ql a) (u9ql b) i j = D1 at *
  generalize u9dd (u9ql a) (u9ql b) i (j + 1) = D2 at *
  generalize u9dd (u9ql a) (u9ql b) (i + 1) j = D3 at *
  generalize u9dd (u9ql a) (u9ql b) (i - 1) (j - 1) = D4 at *
  have e1 : u9qi (i + 1) - 1 = u9qi i := by rw [u9qi_lit, u9qi_sub (by omega)]; rfl
  have e2 : u9qi (j + 1) - 1 = u9qi j := by rw [u9qi_lit, u9qi_sub (by omega)]; rfl
  have c1 : (u9qi i).toNatClampNeg = i := u9qi_cl (by omega)
  have c2 : (u9qi j).toNatClampNeg = j := u9qi_cl (by omega)
  have c3 : (u9qi (i + 1)).toNatClampNeg = i + 1 := u9qi_cl (by omega)
  have c4 : (u9qi (j + 1)).toNatClampNeg = j + 1 := u9qi_cl (by omega)
  have o1 : okI (u9qi i) 9 = true := by rw [u9qi_ok _ (by omega)]; omega
  have o2 : okI (u9qi j) 9 = true := by rw [u9qi_ok _ (by omega)]; omega
  have o3 : okI (u9qi (i + 1)) 9 = true := by rw [u9qi_ok _ (by omega)]; omega
  have o4 : okI (u9qi (j + 1)) 9 = true := by rw [u9qi_ok _ (by omega)]; omega
  have p1 : ∀ z : Nat, u9qi z + 1 = u9qi (z + 1) := fun z => by rw [u9qi_lit, u9qi_add]
  have hs : ∀ z, z ≤ 1 → f_Ruler_leastChanges_46 L a b (u9qi (i + 1)) (u9qi (j + 1)) (u9qi (u9ql a i)) (u9qi (u9ql b j)) (u9qi z) (u9qi D1) = some (u9qi (if 1 ≤ i ∧ 1 ≤ j ∧ u9ql a i = u9ql b (j - 1) ∧ u9ql b j = u9ql a (i - 1) then min (min (min D2 D3 + 1) (D1 + z)) (D4 + 1) else min (min D2 D3 + 1) (D1 + z))) := by
    intro z hz
    unfold f_Ruler_leastChanges_46
    simp only [e1, e2, c1, c2, c3, c4, o1, o2, o3, o4, h1, h2, h3, p1, u9qi_add, if_true]
    rw [u9qi_min (by omega) (by omega), u9qi_min (by omega) (by omega)]
    have hm : min (D3 + 1) (min (D2 + 1) (D1 + z)) = min (min D2 D3 + 1) (D1 + z) := by omega
    rw [hm]
    simp only [u9qi_lit, u9qi_le (show i + 1 < 2147483648 by omega) (show 1 < 2147483648 by omega), u9qi_le (show j + 1 < 2147483648 by omega) (show 1 < 2147483648 by omega)]
    by_cases hi1 : i + 1 ≤ 1
    · rw [if_pos hi1, if_neg (by omega)]
    · rw [if_neg hi1]
      by_cases hj1 : j + 1 ≤ 1
      · rw [if_pos hj1, if_neg (by omega)]
      · rw [if_neg hj1]
        obtain ⟨i, rfl⟩ : ∃ i', i = i' + 1 := ⟨i - 1, by omega⟩
        obtain ⟨j, rfl⟩ : ∃ j', j = j' + 1 := ⟨j - 1, by omega⟩
        have h4 := h4 (by omega) (by omega)
        simp only [Nat.add_sub_cancel] at *
        have e3 : u9qi (i + 1 + 1) - u9qi 2 = u9qi i := by rw [u9qi_sub (by omega)]; rfl
        have e4 : u9qi (j + 1 + 1) - u9qi 2 = u9qi j := by rw [u9qi_sub (by omega)]; rfl
        have c5 : (u9qi i).toNatClampNeg = i := u9qi_cl (by omega)
        have c6 : (u9qi j).toNatClampNeg = j := u9qi_cl (by omega)
        have o5 : okI (u9qi i) 9 = true := by rw [u9qi_ok _ (by omega)]; omega
        have o6 : okI (u9qi j) 9 = true := by rw [u9qi_ok _ (by omega)]; omega
        simp only [e3, e4, u9q_letterAt a (show i < 8 by omega), u9q_letterAt b (show j < 8 by omega), Option.bind_some, c5, c6, o5, o6, h4, u9qi_add, if_true]
        rw [u9qi_min (by omega) (by omega)]
        simp only [u9qi_eq (show u9ql a (i + 1) < 2147483648 by omega) (show u9ql b j < 2147483648 by omega), u9qi_eq (show u9ql b (j + 1) < 2147483648 by omega) (show u9ql a i < 2147483648 by omega)]
        by_cases k1 : u9ql a (i + 1) = u9ql b j
        · rw [if_pos k1]
          by_cases k2 : u9ql b (j + 1) = u9ql a i
          · rw [if_pos k2, if_pos ⟨by omega, by omega, k1, k2⟩, Nat.min_comm]
          · rw [if_neg k2, if_neg (fun h => k2 h.2.2.2)]
        · rw [if_neg k1, if_neg (fun h => k1 h.2.2.1)]
  unfold f_Ruler_leastChanges
  rw [e1, e2, u9q_letterAt a hi, u9q_letterAt b hj]
  simp only [Option.bind_some, c1, c2, o1, o2, if_true, h1, u9qi_eq (show u9ql a i < 2147483648 by omega) (show u9ql b j < 2147483648 by omega)]
  by_cases hc : u9ql a i = u9ql b j
  · simp only [hc, if_true] at hs ⊢
    exact hs 0 (by omega)
  · simp only [hc, if_false]
    exact hs 1 (by omega)

theorem u9q_btw_in {a b : Int64} {n m i : Nat} (hn : n ≤ 8) (hm : m ≤ 8) (hi : i < n) : ∀ r j (L : Nat → Nat → Int32), j + r = m → u9Bd L → (∀ x y, x ≤ i → y ≤ m → L x y = u9qi (u9dd (u9ql a) (u9ql b) x y)) → (∀ y, y ≤ j → L (i + 1) y = u9qi (u9dd (u9ql a) (u9ql b) (i + 1) y)) → ∀ fu, r < fu → ∃ L', f_Ruler_between_25 a b (u9qi n) (u9qi m) (u9qi (i + 1)) fu L (u9qi (j + 1)) = some L' ∧ u9Bd L' ∧ (∀ x y, x ≤ i + 1 → y ≤ m → L' x y = u9qi (u9dd (u9ql a) (u9ql b) x y)) := by
  intro r
  induction r with
  | zero =>
    intro j L hj hB h1 h2 fu hf
    obtain ⟨fu, rfl⟩ : ∃ m, fu = m + 1 := ⟨fu - 1, by omega⟩
    refine ⟨L, ?_, hB, fun x y hx hy => ?_⟩
    · simp only [f_Ruler_between_25, f_Ruler_between_25b]
      rw [if_pos (by rw [u9qi_lt (by omega) (by omega)]; omega)]
    · by_cases hxi : x ≤ i
      · exact h1 x y hxi hy
      · obtain rfl : x = i + 1 := by omega
        exact h2 y (by omega)
  | succ r ih =>
    intro j L hj hB h1 h2 fu hf
    obtain ⟨fu, rfl⟩ : ∃ m, fu = m + 1 := ⟨fu - 1, by omega⟩
    have hl := u9q_least (L := L) (a := a) (b := b) (i := i) (j := j) (by omega) (by omega) (h1 i j (by omega) (by omega)) (h1 i (j + 1) (by omega) (by omega)) (h2 j (by omega)) (fun _ _ => h1 (i - 1) (j - 1) (by omega) (by omega))
    have o1 : okI (u9qi (i + 1)) 9 = true := by rw [u9qi_ok _ (by omega)]; omega
    have o2 : okI (u9qi (j + 1)) 9 = true := by rw [u9qi_ok _ (by omega)]; omega
    have c1 : (u9qi (i + 1)).toNatClampNeg = i + 1 := u9qi_cl (by omega)
    have c2 : (u9qi (j + 1)).toNatClampNeg = j + 1 := u9qi_cl (by omega)
    simp only [f_Ruler_between_25, f_Ruler_between_25b]
    rw [if_neg (by rw [u9qi_lt (by omega) (by omega)]; omega)]
    simp only [hl, o1, o2, c1, c2, if_true, Option.bind_some]
    rw [show u9qi (j + 1) + 1 = u9qi (j + 1 + 1) by rw [u9qi_lit, u9qi_add]]
    refine ih (j + 1) _ (by omega) ?_ ?_ ?_ fu (by omega)
    · intro z hz
      have := hB z hz
      constructor
      · by_cases hzi : z = i + 1
        · subst hzi; simp [va_up, upd, this.1]
        · simp [va_up, hzi, this.1]
      · simp [va_up, this.2]
    · intro x y hx hy
      simp only [va_up]
      rw [if_neg (by omega)]; exact h1 x y hx hy
    · intro y hy
      simp only [va_up, upd, if_true]
      by_cases hy1 : y = j + 1
      · rw [if_pos hy1, hy1]
      · rw [if_neg hy1]; exact h2 y (by omega)
theorem u9q_btw_out {a b : Int64} {n m : Nat} (hn : n ≤ 8) (hm : m ≤ 8) : ∀ r i (L : Nat → Nat → Int32), i + r = n → u9Bd L → (∀ x y, x ≤ i → y ≤ m → L x y = u9qi (u9dd (u9ql a) (u9ql b) x y)) → ∀ fu, r < fu → ∃ L', f_Ruler_between_15 a b (u9qi n) (u9qi m) fu L (u9qi (i + 1)) = some L' ∧ u9Bd L' ∧ (∀ x y, x ≤ n → y ≤ m → L' x y = u9qi (u9dd (u9ql a) (u9ql b) x y)) := by
  intro r
  induction r with
  | zero =>
    intro i L hi hB h1 fu hf
    obtain ⟨fu, rfl⟩ : ∃ m, fu = m + 1 := ⟨fu - 1, by omega⟩
    refine ⟨L, ?_, hB, fun x y hx hy => h1 x y (by omega) hy⟩
    simp only [f_Ruler_between_15, f_Ruler_between_15b]
    rw [if_pos (by rw [u9qi_lt (by omega) (by omega)]; omega)]
  | succ r ih =>
    intro i L hi hB h1 fu hf
    obtain ⟨fu, rfl⟩ : ∃ m, fu = m + 1 := ⟨fu - 1, by omega⟩
    simp only [f_Ruler_between_15, f_Ruler_between_15b]
    rw [if_neg (by rw [u9qi_lt (by omega) (by omega)]; omega)]
    obtain ⟨L1, e1, hB1, h11⟩ := u9q_btw_in (a := a) (b := b) hn hm (i := i) (by omega) m 0 L (by omega) hB h1 (fun y hy => by
      obtain rfl : y = 0 := by omega
      rw [u9dd_i0]; exact (hB (i + 1) (by omega)).1) FU (by unfold FU; omega)
    rw [show (1 : Int32) = u9qi (0 + 1) from rfl, e1]
    simp only [Option.bind_some, u9qi_add]
    exact ih (i + 1) L1 (by omega) hB1 h11 fu (by omega)
theorem u9q_btw {L : Nat → Nat → Int32} {w v : Int64} (hw : u9okB (u9un w) = true) (hv : u9okB (u9un v) = true) (hB : u9Bd L) : ∃ L', f_Ruler_between L (u9T w) (u9T v) = some (u9qi (u9dd (u9la w) (u9la v) (u9nl (u9un w)) (u9nl (u9un v))), L') ∧ u9Bd L' := by
  have hn := u9nl_le (u9un w)
  have hm := u9nl_le (u9un v)
  obtain ⟨L', e, hB', h⟩ := u9q_btw_out (a := u9T w) (b := u9T v) hn hm (u9nl (u9un w)) 0 L (by omega) hB (fun x y hx hy => by
    obtain rfl : x = 0 := by omega
    rw [u9dd_0]; exact (hB y (by omega)).2) FU (by unfold FU; omega)
  refine ⟨L', ?_, hB'⟩
  unfold f_Ruler_between
  rw [u9q_len hw, u9q_len hv]
  simp only [Option.bind_some]
  have o1 : okI (u9qi (u9nl (u9un w))) 9 = true := by rw [u9qi_ok _ (by omega)]; omega
  have o2 : okI (u9qi (u9nl (u9un v))) 9 = true := by rw [u9qi_ok _ (by omega)]; omega
  have e0 : f_Ruler_between_15 (u9T w) (u9T v) (u9qi (u9nl (u9un w))) (u9qi (u9nl (u9un v))) FU L 1 = some L' := e
  rw [e0]
  simp only [Option.bind_some, o1, o2, if_true, u9qi_cl (show u9nl (u9un w) < 2147483648 by omega), u9qi_cl (show u9nl (u9un v) < 2147483648 by omega)]
  rw [h _ _ (Nat.le_refl _) (Nat.le_refl _), u9dd_congr (n := u9nl (u9un w)) (m := u9nl (u9un v)) (fun i hi => u9ql_T w (by omega)) (fun i hi => u9ql_T v (by omega)) _ _ _ (Nat.le_refl _) (Nat.le_refl _) (Nat.le_refl _)]
