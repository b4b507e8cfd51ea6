theorem u9q_same_out {n p : Nat} (hp : p < 3) {dt : Nat → Int64} {dc : Nat → Int32} {wd : Nat → Int64} {mc : Nat → Int32} (hW : u9WR n dt dc (fun i => wd (24 * p + i)) (fun i => mc (24 * p + i))) {fr le en lo : Nat → Int32} {ky : Nat → Int64} {j1 j2 : Nat} (hj1 : j1 < 216) (hj2 : j2 < 216) {b1 b2 : Nat × Nat} (hb1 : b1.1 < n) (hb2 : b2.1 < n) (hm1 : b1.2 ≤ 8) (hm2 : b2.2 ≤ 8) (hS1 : u9MS (u9Wl n dt dc) b1 (fr j1) (le j1) (en j1) (lo j1) (ky j1)) (hS2 : u9MS (u9Wl n dt dc) b2 (fr j2) (le j2) (en j2) (lo j2) (ky j2)) (hc : u9wE (u9Wl n dt dc) b1.1 b1.2 - b1.1 = u9wE (u9Wl n dt dc) b2.1 b2.2 - b2.1) :
    ∀ r k, k + r = u9wE (u9Wl n dt dc) b1.1 b1.2 - b1.1 → (∀ i, i < k → u9TL (dt (b1.1 + i)) b1.2 = u9TL (dt (b2.1 + i)) b2.2 ∧ dc (b1.1 + i) - u9wL (u9Wl n dt dc) b1.1 b1.2 = dc (b2.1 + i) - u9wL (u9Wl n dt dc) b2.1 b2.2) → ∀ fu, r < fu → ∃ o, f_M_same_54 wd mc fr le en lo ky (u9qi p) (u9qi j1) (u9qi j2) (u9qi (u9wE (u9Wl n dt dc) b1.1 b1.2 - b1.1)) fu (u9qi k) = some o ∧ (o = .inl () ↔ u9wD (u9Wl n dt dc) b1 = u9wD (u9Wl n dt dc) b2) := by
  intro r
  have hn := hW.1
  have o1 : okI (u9qi j1) 216 = true := by rw [u9qi_ok _ (by omega)]; omega
  have o2 : okI (u9qi j2) 216 = true := by rw [u9qi_ok _ (by omega)]; omega
  have c1 : (u9qi j1).toNatClampNeg = j1 := u9qi_cl (by omega)
  have c2 : (u9qi j2).toNatClampNeg = j2 := u9qi_cl (by omega)
  have hE1 := u9wE_bd (W := u9Wl n dt dc) (i := b1.1) (m := b1.2) (by rw [u9Wl_len]; exact hb1)
  have hE2 := u9wE_bd (W := u9Wl n dt dc) (i := b2.1) (m := b2.2) (by rw [u9Wl_len]; exact hb2)
  rw [u9Wl_len] at hE1 hE2
  obtain ⟨s1, s2, s3, s4, s5⟩ := hS1
  obtain ⟨t1, t2, t3, t4, t5⟩ := hS2
  have hsame : (u9wD (u9Wl n dt dc) b1 = u9wD (u9Wl n dt dc) b2) ↔ (∀ i, i < u9wE (u9Wl n dt dc) b1.1 b1.2 - b1.1 → u9TL (dt (b1.1 + i)) b1.2 = u9TL (dt (b2.1 + i)) b2.2 ∧ dc (b1.1 + i) - u9wL (u9Wl n dt dc) b1.1 b1.2 = dc (b2.1 + i) - u9wL (u9Wl n dt dc) b2.1 b2.2) := by
    rw [u9wD_eq hb1, u9wD_eq hb2, u9ls_eq]
    constructor
    · rintro ⟨_, h⟩ i hi; exact Prod.mk.inj (h i hi)
    · intro h; exact ⟨hc, fun i hi => by rw [(h i hi).1, (h i hi).2]⟩
  induction r with
  | zero =>
    intro k hk h fu hf
    obtain ⟨fu, rfl⟩ : ∃ m, fu = m + 1 := ⟨fu - 1, by omega⟩
    have l1 : u9qi (u9wE (u9Wl n dt dc) b1.1 b1.2 - b1.1) ≤ u9qi k := by rw [u9qi_le (by omega) (by omega)]; omega
    refine ⟨.inl (), ?_, ?_⟩
    · simp only [f_M_same_54, f_M_same_54b, l1, if_true]
    · simp only [true_iff]; exact hsame.2 (fun i hi => h i (by omega))
  | succ r ih =>
    intro k hk h fu hf
    obtain ⟨fu, rfl⟩ : ∃ m, fu = m + 1 := ⟨fu - 1, by omega⟩
    have l1 : ¬ (u9qi (u9wE (u9Wl n dt dc) b1.1 b1.2 - b1.1) ≤ u9qi k) := by rw [u9qi_le (by omega) (by omega)]; omega
    have x1 : (24 : Int32) * u9qi p + u9qi b1.1 + u9qi k = u9qi (24 * p + (b1.1 + k)) := by rw [u9qi_lit, u9qi_mul, u9qi_add, u9qi_add, Nat.add_assoc]
    have x2 : (24 : Int32) * u9qi p + u9qi b2.1 + u9qi k = u9qi (24 * p + (b2.1 + k)) := by rw [u9qi_lit, u9qi_mul, u9qi_add, u9qi_add, Nat.add_assoc]
    have ox : okI (u9qi (24 * p + (b1.1 + k))) 72 = true := by rw [u9qi_ok _ (by omega)]; omega
    have oy : okI (u9qi (24 * p + (b2.1 + k))) 72 = true := by rw [u9qi_ok _ (by omega)]; omega
    have cx : (u9qi (24 * p + (b1.1 + k))).toNatClampNeg = 24 * p + (b1.1 + k) := u9qi_cl (by omega)
    have cy : (u9qi (24 * p + (b2.1 + k))).toNatClampNeg = 24 * p + (b2.1 + k) := u9qi_cl (by omega)
    obtain ⟨_, v2, v3, _⟩ := hW.2.2 (b1.1 + k) (by omega)
    obtain ⟨_, w2, w3, _⟩ := hW.2.2 (b2.1 + k) (by omega)
    have v2 : dt (b1.1 + k) = u9T (wd (24 * p + (b1.1 + k))) := v2
    have w2 : dt (b2.1 + k) = u9T (wd (24 * p + (b2.1 + k))) := w2
    have v3 : dc (b1.1 + k) = mc (24 * p + (b1.1 + k)) := v3
    have w3 : dc (b2.1 + k) = mc (24 * p + (b2.1 + k)) := w3
    have hin := u9q_same_in (n := n) hp (wd := wd) (mc := mc) (fr := fr) (le := le) (en := en) (lo := lo) (ky := ky) hj1 hj2 hm1 hm2 s2 t2 (x := 24 * p + (b1.1 + k)) (y := 24 * p + (b2.1 + k)) (by omega) (by omega) (u9qi p) (u9qi (u9wE (u9Wl n dt dc) b1.1 b1.2 - b1.1)) (u9qi k) 8 0 (by omega) (fun i hi => absurd hi (by omega)) FU (by decide)
    rw [show (u9qi 0 : Int32) = 0 from rfl] at hin
    simp only [f_M_same_54, f_M_same_54b, l1, if_false, o1, o2, if_true, c1, c2, s1, t1, x1, x2, ox, oy, cx, cy, s4, t4, ← v3, ← w3, hin, u9q_p1]
    by_cases a2 : dc (b1.1 + k) - u9wL (u9Wl n dt dc) b1.1 b1.2 = dc (b2.1 + k) - u9wL (u9Wl n dt dc) b2.1 b2.2
    · rw [if_pos a2]
      by_cases a1 : u9TL (u9T (wd (24 * p + (b1.1 + k)))) b1.2 = u9TL (u9T (wd (24 * p + (b2.1 + k)))) b2.2
      · simp only [a1, if_true, Option.bind_some, Sum.elim_inl]
        refine ih (k + 1) (by omega) (fun i hi => ?_) fu (by omega)
        by_cases hik : i < k
        · exact h i hik
        · obtain rfl : i = k := by omega
          exact ⟨by rw [v2, w2]; exact a1, a2⟩
      · simp only [a1, if_false, Option.bind_some, Sum.elim_inr]
        refine ⟨_, rfl, ?_⟩
        constructor
        · intro hh; cases hh
        · intro hh
          have := (hsame.1 hh k (by omega)).1
          rw [v2, w2] at this; exact absurd this a1
    · rw [if_neg a2]
      refine ⟨_, rfl, ?_⟩
      constructor
      · intro hh; cases hh
      · intro hh; exact absurd (hsame.1 hh k (by omega)).2 a2
theorem u9q_same {n p : Nat} (hp : p < 3) {dt : Nat → Int64} {dc : Nat → Int32} {wd : Nat → Int64} {mc : Nat → Int32} (hW : u9WR n dt dc (fun i => wd (24 * p + i)) (fun i => mc (24 * p + i))) {fr le en lo : Nat → Int32} {ky : Nat → Int64} {j1 j2 : Nat} (hj1 : j1 < 216) (hj2 : j2 < 216) {b1 b2 : Nat × Nat} (hb1 : b1.1 < n) (hb2 : b2.1 < n) (hm1 : b1.2 ≤ 8) (hm2 : b2.2 ≤ 8) (hS1 : u9MS (u9Wl n dt dc) b1 (fr j1) (le j1) (en j1) (lo j1) (ky j1)) (hS2 : u9MS (u9Wl n dt dc) b2 (fr j2) (le j2) (en j2) (lo j2) (ky j2)) :
    f_M_same wd mc fr le en lo ky (u9qi p) (u9qi j1) (u9qi j2) = some (if u9wD (u9Wl n dt dc) b1 = u9wD (u9Wl n dt dc) b2 then 1 else 0) := by
  have hn := hW.1
  have o1 : okI (u9qi j1) 216 = true := by rw [u9qi_ok _ (by omega)]; omega
  have o2 : okI (u9qi j2) 216 = true := by rw [u9qi_ok _ (by omega)]; omega
  have c1 : (u9qi j1).toNatClampNeg = j1 := u9qi_cl (by omega)
  have c2 : (u9qi j2).toNatClampNeg = j2 := u9qi_cl (by omega)
  have hE1 := u9wE_bd (W := u9Wl n dt dc) (i := b1.1) (m := b1.2) (by rw [u9Wl_len]; exact hb1)
  have hE2 := u9wE_bd (W := u9Wl n dt dc) (i := b2.1) (m := b2.2) (by rw [u9Wl_len]; exact hb2)
  rw [u9Wl_len] at hE1 hE2
  have hS1' := hS1
  have hS2' := hS2
  obtain ⟨s1, s2, s3, s4, s5⟩ := hS1
  obtain ⟨t1, t2, t3, t4, t5⟩ := hS2
  unfold f_M_same
  simp only [o1, o2, if_true, c1, c2, s1, t1, s3, t3, s5, t5, u9qi_sub (show b1.1 ≤ u9wE (u9Wl n dt dc) b1.1 b1.2 by omega), u9qi_sub (show b2.1 ≤ u9wE (u9Wl n dt dc) b2.1 b2.2 by omega), u9qi_eq (show u9wE (u9Wl n dt dc) b1.1 b1.2 - b1.1 < 2147483648 by omega) (show u9wE (u9Wl n dt dc) b2.1 b2.2 - b2.1 < 2147483648 by omega)]
  by_cases hk : u9keyF (u9wD (u9Wl n dt dc) b1) 0 = u9keyF (u9wD (u9Wl n dt dc) b2) 0
  · rw [if_pos hk]
    by_cases hc : u9wE (u9Wl n dt dc) b1.1 b1.2 - b1.1 = u9wE (u9Wl n dt dc) b2.1 b2.2 - b2.1
    · rw [if_pos hc]
      obtain ⟨o, e, ho⟩ := u9q_same_out hp hW hj1 hj2 hb1 hb2 hm1 hm2 hS1' hS2' hc (u9wE (u9Wl n dt dc) b1.1 b1.2 - b1.1) 0 (by omega) (fun i hi => absurd hi (by omega)) FU (by unfold FU; omega)
      rw [show (0 : Int32) = u9qi 0 from rfl, e]
      simp only [Option.bind_some]
      by_cases hD : u9wD (u9Wl n dt dc) b1 = u9wD (u9Wl n dt dc) b2
      · rw [ho.2 hD, if_pos hD]; rfl
      · rw [if_neg hD]
        rcases o with u | u | u
        · exact absurd (ho.1 rfl) hD
        · rfl
        · rfl
    · rw [if_neg hc, if_neg]
      intro hh
      rw [u9wD_eq hb1, u9wD_eq hb2, u9ls_eq] at hh
      exact hc hh.1
  · rw [if_neg hk, if_neg]
    intro hh; exact hk (by rw [hh])
theorem u9q_asc {n p : Nat} {dt : Nat → Int64} {dc : Nat → Int32} {wd : Nat → Int64} {mc : Nat → Int32} (hW : u9WR n dt dc (fun i => wd (24 * p + i)) (fun i => mc (24 * p + i))) {i m : Nat} (hi : i < n) (hm : m ≤ 8) {k : Nat} (h1 : i ≤ k) (h2 : k + 1 < u9wE (u9Wl n dt dc) i m) : u9ql (u9TL (dt k) m) 0 ≤ u9ql (u9TL (dt (k + 1)) m) 0 := by
  have hE := u9wE_bd (W := u9Wl n dt dc) (i := i) (m := m) (by rw [u9Wl_len]; exact hi)
  rw [u9Wl_len] at hE
  have e1 := u9wE_H (u9tx := dt) (cs := dc) hi h1 (show k < u9wE (u9Wl n dt dc) i m by omega)
  have e2 := u9wE_H (u9tx := dt) (cs := dc) hi (show i ≤ k + 1 by omega) h2
  have hH : u9H (dt (k + 1)) m = u9H (dt k) m := by rw [e1, e2]
  rw [u9H_eq _ _ hm] at hH
  rw [u9ql_TL _ hm (by omega), u9ql_TL _ hm (by omega)]
  simp only [Nat.add_zero]
  by_cases h8 : m < 8
  · rw [if_pos h8, if_pos h8]
    apply Nat.le_of_not_lt
    intro hlt
    have := u9ql_lex (u9un_lt (dt (k + 1))) (u9un_lt (dt k)) h8 (fun j hj => hH j hj) hlt
    have hs := hW.2.1 k (k + 1) (by omega) (by omega)
    obtain ⟨w1, w2, _⟩ := hW.2.2 k (by omega)
    obtain ⟨v1, v2, _⟩ := hW.2.2 (k + 1) (by omega)
    rw [w2, v2, u9T_lt (u9okW_B w1) (u9okW_B v1), ← u9un_T, ← u9un_T, ← w2, ← v2] at hs
    omega
  · rw [if_neg h8]; omega
theorem u9q_fol_k {n p : Nat} (hp : p < 3) {dt : Nat → Int64} {dc : Nat → Int32} {wd : Nat → Int64} {mc : Nat → Int32} (hW : u9WR n dt dc (fun i => wd (24 * p + i)) (fun i => mc (24 * p + i))) {fr le en : Nat → Int32} {j : Nat} (hj : j < 216) {b : Nat × Nat} (hb : b.1 < n) (hm : b.2 ≤ 8) (s2 : le j = u9qi b.2) (s3 : en j = u9qi (u9wE (u9Wl n dt dc) b.1 b.2)) :
    ∀ r k f l, k + r = u9wE (u9Wl n dt dc) b.1 b.2 → b.1 ≤ k → l < 256 → (k < u9wE (u9Wl n dt dc) b.1 b.2 → l ≤ u9ql (u9TL (dt k) b.2) 0) → ∀ fu, r < fu → f_M_followers_13 wd fr le en (u9qi p) (u9qi j) fu (u9qi f) (u9qi l) (u9qi k) = some (u9qi (f + u9fol l ((u9wD (u9Wl n dt dc) b).drop (k - b.1)))) := by
  intro r
  have hn := hW.1
  have o1 : okI (u9qi j) 216 = true := by rw [u9qi_ok _ (by omega)]; omega
  have c1 : (u9qi j).toNatClampNeg = j := u9qi_cl (by omega)
  have hE := u9wE_bd (W := u9Wl n dt dc) (i := b.1) (m := b.2) (by rw [u9Wl_len]; exact hb)
  rw [u9Wl_len] at hE
  have hlen : (u9wD (u9Wl n dt dc) b).length = u9wE (u9Wl n dt dc) b.1 b.2 - b.1 := u9ls_len _ _
  have t8 : ((8 : Int32) ≤ u9qi b.2) = (¬ (b.2 < 8)) := by
    rw [u9qi_lit, u9qi_le (by omega) (by omega)]
    apply propext
    constructor
    · intro hh
      have : 8 ≤ b.2 := hh
      omega
    · intro hh
      show 8 ≤ b.2
      omega
  induction r with
  | zero =>
    intro k f l hk hbk hl hasc fu hf
    obtain ⟨fu, rfl⟩ : ∃ m, fu = m + 1 := ⟨fu - 1, by omega⟩
    have l1 : u9qi (u9wE (u9Wl n dt dc) b.1 b.2) ≤ u9qi k := by rw [u9qi_le (by omega) (by omega)]; omega
    simp only [f_M_followers_13, f_M_followers_13b, o1, if_true, c1, s3, l1]
    rw [List.drop_eq_nil_of_le (by omega)]; rfl
  | succ r ih =>
    intro k f l hk hbk hl hasc fu hf
    obtain ⟨fu, rfl⟩ : ∃ m, fu = m + 1 := ⟨fu - 1, by omega⟩
    have l1 : ¬ (u9qi (u9wE (u9Wl n dt dc) b.1 b.2) ≤ u9qi k) := by rw [u9qi_le (by omega) (by omega)]; omega
    obtain ⟨w1, w2, w3, _⟩ := hW.2.2 k (by omega)
    have w2 : dt k = u9T (wd (24 * p + k)) := w2
    have x1 : (24 : Int32) * u9qi p + u9qi k = u9qi (24 * p + k) := by rw [u9qi_lit, u9qi_mul, u9qi_add]
    have o2 : okI (u9qi (24 * p + k)) 72 = true := by rw [u9qi_ok _ (by omega)]; omega
    have c2 : (u9qi (24 * p + k)).toNatClampNeg = 24 * p + k := u9qi_cl (by omega)
    have hql := u9ql_lt (u9TL (dt k) b.2) 0
    have hdrop : (u9wD (u9Wl n dt dc) b).drop (k - b.1) = (u9TL (dt k) b.2, dc k - u9wL (u9Wl n dt dc) b.1 b.2) :: (u9wD (u9Wl n dt dc) b).drop (k + 1 - b.1) := by
      rw [List.drop_eq_getElem_cons (by omega), show k + 1 - b.1 = k - b.1 + 1 by omega]
      congr 1
      have : (u9wD (u9Wl n dt dc) b)[k - b.1]? = some (u9TL (dt k) b.2, dc k - u9wL (u9Wl n dt dc) b.1 b.2) := by
        rw [u9wD_eq hb, u9ls_get _ (by omega)]
        simp only [show b.1 + (k - b.1) = k by omega]
      rw [List.getElem?_eq_getElem (by omega)] at this
      exact Option.some.inj this
    have h60 : f_M_followers_60 (f_M_followers_13 wd fr le en (u9qi p) (u9qi j) fu) wd fr le en (u9qi p) (u9qi j) (u9qi f) (u9qi l) (u9qi k) (u9qi (u9ql (u9TL (dt k) b.2) 0)) = some (u9qi (f + u9fol l ((u9wD (u9Wl n dt dc) b).drop (k - b.1)))) := by
      unfold f_M_followers_60 f_M_followers_76
      have hle := hasc (by omega)
      have hnext : ∀ f', f_M_followers_13 wd fr le en (u9qi p) (u9qi j) fu (u9qi f') (u9qi (u9ql (u9TL (dt k) b.2) 0)) (u9qi (k + 1)) = some (u9qi (f' + u9fol (u9ql (u9TL (dt k) b.2) 0) ((u9wD (u9Wl n dt dc) b).drop (k + 1 - b.1)))) := by
        intro f'
        refine ih (k + 1) f' _ (by omega) (by omega) hql (fun hk1 => ?_) fu (by omega)
        exact u9q_asc hW hb hm hbk hk1
      simp only [u9qi_le (show u9ql (u9TL (dt k) b.2) 0 < 2147483648 by omega) (show l < 2147483648 by omega), u9q_p1]
      rw [hdrop]
      simp only [u9fol]
      by_cases hc : u9ql (u9TL (dt k) b.2) 0 = l
      · rw [if_pos (by omega), if_pos hc, hnext f, hc]
      · rw [if_neg (by omega), if_neg hc, hnext (f + 1)]
        congr 2; omega
    simp only [f_M_followers_13, f_M_followers_13b, o1, if_true, c1, s3, l1, if_false, s2, t8, x1, o2, c2]
    by_cases h8 : b.2 < 8
    · simp only [h8, not_true, if_false, u9q_at _ h8, Option.bind_some]
      have : u9la (wd (24 * p + k)) b.2 = u9ql (u9TL (dt k) b.2) 0 := by
        rw [u9ql_TL _ hm (by omega), Nat.add_zero, if_pos h8, w2, u9ql_T _ h8]
      rw [this]; exact h60
    · simp only [h8, not_false_eq_true, if_true]
      have : (0 : Int32) = u9qi (u9ql (u9TL (dt k) b.2) 0) := by
        rw [u9ql_TL _ hm (by omega), Nat.add_zero, if_neg h8]; rfl
      rw [this]; exact h60
theorem u9q_fol {n p : Nat} (hp : p < 3) {dt : Nat → Int64} {dc : Nat → Int32} {wd : Nat → Int64} {mc : Nat → Int32} (hW : u9WR n dt dc (fun i => wd (24 * p + i)) (fun i => mc (24 * p + i))) {fr le en lo : Nat → Int32} {ky : Nat → Int64} {j : Nat} (hj : j < 216) {b : Nat × Nat} (hb : b.1 < n) (hm : b.2 ≤ 8) (hS : u9MS (u9Wl n dt dc) b (fr j) (le j) (en j) (lo j) (ky j)) : f_M_followers wd fr le en (u9qi p) (u9qi j) = some (u9qi (u9fol 0 (u9wD (u9Wl n dt dc) b))) := by
  have hn := hW.1
  have o1 : okI (u9qi j) 216 = true := by rw [u9qi_ok _ (by omega)]; omega
  have c1 : (u9qi j).toNatClampNeg = j := u9qi_cl (by omega)
  have hE := u9wE_bd (W := u9Wl n dt dc) (i := b.1) (m := b.2) (by rw [u9Wl_len]; exact hb)
  rw [u9Wl_len] at hE
  have := u9q_fol_k hp hW (fr := fr) hj hb hm hS.2.1 hS.2.2.1 (u9wE (u9Wl n dt dc) b.1 b.2 - b.1) b.1 0 0 (by omega) (by omega) (by omega) (fun _ => by omega) FU (by unfold FU; omega)
  rw [show (u9qi 0 : Int32) = 0 from rfl] at this
  unfold f_M_followers
  simp only [o1, if_true, c1, hS.1, this, Option.bind_some]
  simp
