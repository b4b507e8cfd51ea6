theorem u9q_lesser {x y : Nat} (hx : x < 2147483648) (hy : y < 2147483648) : f_M_lesser (u9qi x) (u9qi y) = some (u9qi (min x y)) := by
  unfold f_M_lesser
  simp only [u9qi_le hy hx]
  split
  · rw [Nat.min_eq_right (by omega)]
  · rw [Nat.min_eq_left (by omega)]
theorem u9q_Mcell {rec : (Nat → Int32) → Int32 → Option (Nat → Int32)} {Tb : Nat → Int32} {a b : Int64} {n m i j : Nat} (hn : n ≤ 8) (hm : m ≤ 8) (hi : i ≤ n) (hj : j ≤ m)
    (h1 : ∀ x y, x < i → y ≤ m → Tb (9 * x + y) = u9qi (u9dd (u9la a) (u9la b) x y)) (h2 : ∀ y, y < j → Tb (9 * i + y) = u9qi (u9dd (u9la a) (u9la b) i y)) :
    f_M_distanceOf_25b a b (u9qi n) (u9qi m) (u9qi i) rec Tb (u9qi j) = rec (upd Tb (9 * i + j) (u9qi (u9dd (u9la a) (u9la b) i j))) (u9qi (j + 1)) := by
  have p1 : u9qi j + 1 = u9qi (j + 1) := by rw [u9qi_lit, u9qi_add]
  have x1 : (9 : Int32) * u9qi i + u9qi j = u9qi (9 * i + j) := by rw [u9qi_lit, u9qi_mul, u9qi_add]
  have x1' : okI (u9qi (9 * i + j)) 81 = true := by rw [u9qi_ok _ (by omega)]; omega
  have x1c : (u9qi (9 * i + j)).toNatClampNeg = 9 * i + j := u9qi_cl (by omega)
  have fin : ∀ v, f_M_distanceOf_210 rec a b (u9qi n) (u9qi m) (u9qi i) Tb (u9qi j) v = rec (upd Tb (9 * i + j) v) (u9qi (j + 1)) := by
    intro v
    unfold f_M_distanceOf_210
    simp only [x1, x1', x1c, if_true, p1]
  unfold f_M_distanceOf_25b
  rw [if_neg (by rw [u9qi_lt (by omega) (by omega)]; omega)]
  have z1 : ∀ z, z < 100 → (u9qi z ≤ 0) = (z = 0) := by
    intro z hz; rw [u9qi_lit, u9qi_le (by omega) (by omega)]; simp
  have z2 : ∀ z, z < 100 → (u9qi z ≤ 1) = (z ≤ 1) := by
    intro z hz; rw [u9qi_lit, u9qi_le (by omega) (by omega)]
  simp only [z1 i (by omega), z1 j (by omega)]
  have hd0 : ∀ v, (i = 0 ∨ j = 0) → f_M_distanceOf_135 rec a b (u9qi n) (u9qi m) (u9qi i) Tb (u9qi j) v = rec (upd Tb (9 * i + j) v) (u9qi (j + 1)) := by
    intro v hv
    unfold f_M_distanceOf_135
    simp only [z2 i (by omega), z2 j (by omega), fin]
    by_cases hh : i ≤ 1
    · rw [if_pos hh]
    · rw [if_neg hh, if_pos (by omega)]
  by_cases hi0 : i = 0
  · rw [if_pos hi0, hd0 _ (Or.inl hi0), u9qi_add, hi0, u9dd_0, Nat.zero_add]
  · rw [if_neg hi0]
    by_cases hj0 : j = 0
    · rw [if_pos hj0, hd0 _ (Or.inr hj0), u9qi_add, hj0, u9dd_i0]; simp only [Nat.add_zero]
    · rw [if_neg hj0]
      obtain ⟨i, rfl⟩ : ∃ i', i = i' + 1 := ⟨i - 1, by omega⟩
      obtain ⟨j, rfl⟩ : ∃ j', j = j' + 1 := ⟨j - 1, by omega⟩
      have e1 : u9qi (i + 1) - 1 = u9qi i := by rw [u9qi_lit, u9qi_sub (by omega)]; rfl
      have e2 : u9qi (j + 1) - 1 = u9qi j := by rw [u9qi_lit, u9qi_sub (by omega)]; rfl
      have b1 := u9dd_le (u9la a) (u9la b) _ i j (Nat.le_refl _)
      have b2 := u9dd_le (u9la a) (u9la b) _ i (j + 1) (Nat.le_refl _)
      have b3 := u9dd_le (u9la a) (u9la b) _ (i + 1) j (Nat.le_refl _)
      have b4 := u9dd_le (u9la a) (u9la b) _ (i - 1) (j - 1) (Nat.le_refl _)
      have la1 := u9la_lt a i
      have la2 := u9la_lt a (i - 1)
      have lb1 := u9la_lt b j
      have lb2 := u9la_lt b (j - 1)
      have t1 := h1 i j (by omega) (by omega)
      have t2 := h1 i (j + 1) (by omega) (by omega)
      have t3 := h2 j (by omega)
      have t4 := h1 (i - 1) (j - 1) (by omega) (by omega)
      rw [u9dd_s]
      generalize u9dd (u9la a) (u9la b) i j = D1 at *
      generalize u9dd (u9la a) (u9la b) i (j + 1) = D2 at *
      generalize u9dd (u9la a) (u9la b) (i + 1) j = D3 at *
      generalize u9dd (u9la a) (u9la b) (i - 1) (j - 1) = D4 at *
      have g135 : ∀ V, V < 100 → f_M_distanceOf_135 rec a b (u9qi n) (u9qi m) (u9qi (i + 1)) Tb (u9qi (j + 1)) (u9qi V) = rec (upd Tb (9 * (i + 1) + (j + 1)) (u9qi (if 1 ≤ i ∧ 1 ≤ j ∧ u9la a i = u9la b (j - 1) ∧ u9la b j = u9la a (i - 1) then min V (D4 + 1) else V))) (u9qi (j + 1 + 1)) := by
        intro V hV
        unfold f_M_distanceOf_135
        simp only [z2 (i + 1) (by omega), z2 (j + 1) (by omega), fin]
        by_cases hh : i + 1 ≤ 1
        · rw [if_pos hh, if_neg (by omega)]
        · rw [if_neg hh]
          by_cases hk : j + 1 ≤ 1
          · rw [if_pos hk, if_neg (by omega)]
          · rw [if_neg hk]
            obtain ⟨i, rfl⟩ : ∃ i', i = i' + 1 := ⟨i - 1, by omega⟩
            obtain ⟨j, rfl⟩ : ∃ j', j = j' + 1 := ⟨j - 1, by omega⟩
            simp only [Nat.add_sub_cancel] at *
            have e3 : u9qi (i + 1 + 1) - 2 = u9qi i := by rw [u9qi_lit, u9qi_sub (by omega)]; rfl
            have e4 : u9qi (j + 1 + 1) - 2 = u9qi j := by rw [u9qi_lit, u9qi_sub (by omega)]; rfl
            have x4 : u9qi (9 * (i + 1 + 1) + (j + 1 + 1)) - 20 = u9qi (9 * i + j) := by
              rw [u9qi_lit, u9qi_sub (by omega)]; congr 1; omega
            have x4' : okI (u9qi (9 * i + j)) 81 = true := by rw [u9qi_ok _ (by omega)]; omega
            have x4c : (u9qi (9 * i + j)).toNatClampNeg = 9 * i + j := u9qi_cl (by omega)
            have p4 : u9qi D4 + 1 = u9qi (D4 + 1) := by rw [u9qi_lit, u9qi_add]
            simp only [e1, e2, e3, e4, u9q_at a (show i < 8 by omega), u9q_at b (show j < 8 by omega), u9q_at a (show i + 1 < 8 by omega), u9q_at b (show j + 1 < 8 by omega), Option.bind_some, x1, x4, x4', x4c, t4, p4, u9q_lesser (show V < 2147483648 by omega) (show D4 + 1 < 2147483648 by omega), if_true, fin]
            simp only [u9qi_eq (show u9la a i < 2147483648 by omega) (show u9la b (j + 1) < 2147483648 by omega), u9qi_eq (show u9la a (i + 1) < 2147483648 by omega) (show u9la b j < 2147483648 by omega)]
            by_cases k1 : u9la a i = u9la b (j + 1)
            · rw [if_pos k1]
              by_cases k2 : u9la a (i + 1) = u9la b j
              · rw [if_pos k2, if_pos ⟨by omega, by omega, k2, k1.symm⟩]
              · rw [if_neg k2, if_neg (fun h => k2 h.2.2.1)]
            · rw [if_neg k1, if_neg (fun h => k1 h.2.2.2.symm)]
      have g73 : ∀ z, z ≤ 1 → f_M_distanceOf_73 rec a b (u9qi n) (u9qi m) (u9qi (i + 1)) Tb (u9qi (j + 1)) (u9qi z) = f_M_distanceOf_135 rec a b (u9qi n) (u9qi m) (u9qi (i + 1)) Tb (u9qi (j + 1)) (u9qi (min (min D2 D3 + 1) (D1 + z))) := by
        intro z hz
        have y1 : (9 : Int32) * u9qi (i + 1) - 9 + u9qi (j + 1) = u9qi (9 * i + (j + 1)) := by
          rw [u9qi_lit, u9qi_mul, u9qi_sub (by omega), u9qi_add]; congr 1
        have y2 : u9qi (9 * (i + 1) + (j + 1)) - 1 = u9qi (9 * (i + 1) + j) := by
          rw [u9qi_lit, u9qi_sub (by omega)]; congr 1
        have y3 : u9qi (9 * (i + 1) + (j + 1)) - 10 = u9qi (9 * i + j) := by
          rw [u9qi_lit, u9qi_sub (by omega)]; congr 1; omega
        have y1' : okI (u9qi (9 * i + (j + 1))) 81 = true := by rw [u9qi_ok _ (by omega)]; omega
        have y2' : okI (u9qi (9 * (i + 1) + j)) 81 = true := by rw [u9qi_ok _ (by omega)]; omega
        have y3' : okI (u9qi (9 * i + j)) 81 = true := by rw [u9qi_ok _ (by omega)]; omega
        have y1c : (u9qi (9 * i + (j + 1))).toNatClampNeg = 9 * i + (j + 1) := u9qi_cl (by omega)
        have y2c : (u9qi (9 * (i + 1) + j)).toNatClampNeg = 9 * (i + 1) + j := u9qi_cl (by omega)
        have y3c : (u9qi (9 * i + j)).toNatClampNeg = 9 * i + j := u9qi_cl (by omega)
        have pm : u9qi (min D2 D3) + 1 = u9qi (min D2 D3 + 1) := by rw [u9qi_lit, u9qi_add]
        unfold f_M_distanceOf_73
        simp only [x1, y1, y2, y3, y1', y2', y3', y1c, y2c, y3c, t1, t2, t3, if_true, u9q_lesser (show D2 < 2147483648 by omega) (show D3 < 2147483648 by omega), Option.bind_some, pm, u9qi_add, u9q_lesser (show min D2 D3 + 1 < 2147483648 by omega) (show D1 + z < 2147483648 by omega)]
      simp only [e1, e2, u9q_at a (show i < 8 by omega), u9q_at b (show j < 8 by omega), Option.bind_some, u9qi_eq (show u9la a i < 2147483648 by omega) (show u9la b j < 2147483648 by omega)]
      by_cases hc : u9la a i = u9la b j
      · simp only [hc, if_true]
        refine (g73 0 (by omega)).trans ?_
        rw [g135 _ (by omega), hc]
      · simp only [hc, if_false]
        refine (g73 1 (by omega)).trans ?_
        rw [g135 _ (by omega)]
theorem u9q_Md_in {a b : Int64} {n m i : Nat} (hn : n ≤ 8) (hm : m ≤ 8) (hi : i ≤ n) : ∀ r j (L : Nat → Int32), j + r = m + 1 → (∀ x y, x < i → y ≤ m → L (9 * x + y) = u9qi (u9dd (u9la a) (u9la b) x y)) → (∀ y, y < j → L (9 * i + y) = u9qi (u9dd (u9la a) (u9la b) i y)) → ∀ fu, r < fu → ∃ L', f_M_distanceOf_25 a b (u9qi n) (u9qi m) (u9qi i) fu L (u9qi j) = some L' ∧ (∀ x y, x ≤ i → y ≤ m → L' (9 * x + y) = u9qi (u9dd (u9la a) (u9la b) x y)) := by
  intro r
  induction r with
  | zero =>
    intro j L hj h1 h2 fu hf
    obtain ⟨fu, rfl⟩ : ∃ m, fu = m + 1 := ⟨fu - 1, by omega⟩
    refine ⟨L, ?_, fun x y hx hy => ?_⟩
    · simp only [f_M_distanceOf_25, f_M_distanceOf_25b]
      rw [if_pos (by rw [u9qi_lt (by omega) (by omega)]; omega)]
    · by_cases hxi : x < i
      · exact h1 x y hxi hy
      · obtain rfl : x = i := by omega
        exact h2 y (by omega)
  | succ r ih =>
    intro j L hj h1 h2 fu hf
    obtain ⟨fu, rfl⟩ : ∃ m, fu = m + 1 := ⟨fu - 1, by omega⟩
    simp only [f_M_distanceOf_25]
    rw [u9q_Mcell hn hm hi (by omega) h1 h2]
    refine ih (j + 1) _ (by omega) ?_ ?_ fu (by omega)
    · intro x y hx hy
      simp only [upd]
      rw [if_neg (by omega)]; exact h1 x y hx hy
    · intro y hy
      simp only [upd]
      by_cases hy1 : y = j
      · rw [hy1, if_pos rfl]
      · rw [if_neg (by omega)]; exact h2 y (by omega)
theorem u9q_Md_out {a b : Int64} {n m : Nat} (hn : n ≤ 8) (hm : m ≤ 8) : ∀ r i (L : Nat → Int32), i + r = n + 1 → (∀ x y, x < i → y ≤ m → L (9 * x + y) = u9qi (u9dd (u9la a) (u9la b) x y)) → ∀ fu, r < fu → ∃ L', f_M_distanceOf_15 a b (u9qi n) (u9qi m) fu L (u9qi i) = some L' ∧ (∀ x y, x ≤ n → y ≤ m → L' (9 * x + y) = u9qi (u9dd (u9la a) (u9la b) x y)) := by
  intro r
  induction r with
  | zero =>
    intro i L hi h1 fu hf
    obtain ⟨fu, rfl⟩ : ∃ m, fu = m + 1 := ⟨fu - 1, by omega⟩
    refine ⟨L, ?_, fun x y hx hy => h1 x y (by omega) hy⟩
    simp only [f_M_distanceOf_15, f_M_distanceOf_15b]
    rw [if_pos (by rw [u9qi_lt (by omega) (by omega)]; omega)]
  | succ r ih =>
    intro i L hi h1 fu hf
    obtain ⟨fu, rfl⟩ : ∃ m, fu = m + 1 := ⟨fu - 1, by omega⟩
    simp only [f_M_distanceOf_15, f_M_distanceOf_15b]
    rw [if_neg (by rw [u9qi_lt (by omega) (by omega)]; omega)]
    obtain ⟨L1, e1, h11⟩ := u9q_Md_in (a := a) (b := b) hn hm (i := i) (by omega) (m + 1) 0 L (by omega) h1 (fun y hy => absurd hy (by omega)) FU (by unfold FU; omega)
    rw [show (0 : Int32) = u9qi 0 from rfl, e1]
    simp only [Option.bind_some]
    rw [show u9qi i + 1 = u9qi (i + 1) by rw [u9qi_lit, u9qi_add]]
    exact ih (i + 1) L1 (by omega) (fun x y hx hy => h11 x y (by omega) hy) fu (by omega)
theorem u9q_Mdist (Tb : Nat → Int32) (w v : Int64) : ∃ Tb', f_M_distanceOf Tb w v = some (u9qi (u9dd (u9la w) (u9la v) (u9nl (u9un w)) (u9nl (u9un v))), Tb') := by
  have hn := u9nl_le (u9un w)
  have hm := u9nl_le (u9un v)
  obtain ⟨L', e, h⟩ := u9q_Md_out (a := w) (b := v) hn hm (u9nl (u9un w) + 1) 0 Tb (by omega) (fun x y hx hy => absurd hx (by omega)) FU (by unfold FU; omega)
  refine ⟨L', ?_⟩
  unfold f_M_distanceOf
  rw [u9q_lettersOf, u9q_lettersOf]
  simp only [Option.bind_some]
  have x1 : (9 : Int32) * u9qi (u9nl (u9un w)) + u9qi (u9nl (u9un v)) = u9qi (9 * u9nl (u9un w) + u9nl (u9un v)) := by rw [u9qi_lit, u9qi_mul, u9qi_add]
  have x1' : okI (u9qi (9 * u9nl (u9un w) + u9nl (u9un v))) 81 = true := by rw [u9qi_ok _ (by omega)]; omega
  have x1c : (u9qi (9 * u9nl (u9un w) + u9nl (u9un v))).toNatClampNeg = 9 * u9nl (u9un w) + u9nl (u9un v) := u9qi_cl (by omega)
  have e0 : f_M_distanceOf_15 w v (u9qi (u9nl (u9un w))) (u9qi (u9nl (u9un v))) FU Tb 0 = some L' := e
  rw [e0]
  simp only [Option.bind_some, x1, x1', x1c, if_true]
  rw [h _ _ (Nat.le_refl _) (Nat.le_refl _)]
def u9dst (w v : Int64) : Nat := u9dd (u9la w) (u9la v) (u9nl (u9un w)) (u9nl (u9un v))
theorem u9dst_le (w v : Int64) : u9dst w v ≤ 16 := by
  have := u9dd_le (u9la w) (u9la v) _ (u9nl (u9un w)) (u9nl (u9un v)) (Nat.le_refl _)
  have := u9nl_le (u9un w); have := u9nl_le (u9un v); unfold u9dst; omega
