theorem u9i32_lt_of {a b : Int32} (h : ¬ a ≤ b) : b < a := by
  rw [Int32.le_iff_toInt_le] at h; rw [Int32.lt_iff_toInt_lt]; omega
theorem u9i32_no {a b : Int32} (h : a < b) (h2 : b ≤ a) : False := by
  rw [Int32.le_iff_toInt_le] at h2; rw [Int32.lt_iff_toInt_lt] at h; omega
theorem u9i32_le_trans {a b c : Int32} (h : a ≤ b) (h2 : b ≤ c) : a ≤ c := by
  rw [Int32.le_iff_toInt_le] at *; omega
theorem u9i32_le_of_lt {a b : Int32} (h : a < b) : a ≤ b := by
  rw [Int32.lt_iff_toInt_lt] at h; rw [Int32.le_iff_toInt_le]; omega
theorem u9i32_refl (a : Int32) : a ≤ a := by rw [Int32.le_iff_toInt_le]; omega
theorem u9i32_lt_le {a b c : Int32} (h : a < b) (h2 : b ≤ c) : a < c := by
  rw [Int32.le_iff_toInt_le] at h2; rw [Int32.lt_iff_toInt_lt] at *; omega
def u9SrtK (n : Nat) (ky : Nat → Int32) : Prop := ∀ i j, i < j → j < n → ky i ≤ ky j
theorem u9q_neg1 {k : Nat} (h : 1 ≤ k) : u9qi k + (-1) = u9qi (k - 1) := by
  have := u9qi_dec (a := k) h; rw [← this]; rfl
theorem u9q_m1 {k : Nat} (h : 1 ≤ k) : u9qi k - 1 = u9qi (k - 1) := by rw [u9qi_lit, u9qi_sub (by omega)]
theorem u9q_p1 (k : Nat) : u9qi k + 1 = u9qi (k + 1) := by rw [u9qi_lit, u9qi_add]
theorem u9q_le0 {k : Nat} (h : k < 2147483648) : (u9qi k ≤ 0) = (k = 0) := by
  rw [u9qi_lit, u9qi_le h (by omega)]; simp
theorem u9q_give_k {g : Nat} (hg : g < 24) (w : Int64) (c : Int32) (gv0 : Nat → Int64) (ky0 : Nat → Int32) (hs : u9SrtK g ky0) : ∀ k (gv : Nat → Int64) (ky : Nat → Int32), k ≤ g → (∀ i, i ≤ k → gv i = gv0 i ∧ ky i = ky0 i) → (∀ i, k < i → i ≤ g → gv i = gv0 (i - 1) ∧ ky i = ky0 (i - 1)) → (∀ i, k ≤ i → i < g → c < ky0 i) → ∀ fu, k < fu → ∃ p gv' ky', p ≤ g ∧ f_M_give_6 w c (u9qi g) fu gv ky (u9qi k) = some (gv', ky', u9qi p) ∧ (∀ i, i < p → gv' i = gv0 i ∧ ky' i = ky0 i) ∧ (∀ i, p < i → i ≤ g → gv' i = gv0 (i - 1) ∧ ky' i = ky0 (i - 1)) ∧ (∀ i, i < p → ky0 i ≤ c) ∧ (∀ i, p ≤ i → i < g → c < ky0 i) := by
  intro k
  induction k with
  | zero =>
    intro gv ky hk h1 h2 h3 fu hf
    obtain ⟨fu, rfl⟩ : ∃ m, fu = m + 1 := ⟨fu - 1, by omega⟩
    refine ⟨0, gv, ky, by omega, ?_, fun i hi => absurd hi (by omega), h2, fun i hi => absurd hi (by omega), h3⟩
    simp only [f_M_give_6, f_M_give_6b]
    rw [if_pos (by decide)]
  | succ k ih =>
    intro gv ky hk h1 h2 h3 fu hf
    obtain ⟨fu, rfl⟩ : ∃ m, fu = m + 1 := ⟨fu - 1, by omega⟩
    have o1 : okI (u9qi k) 24 = true := by rw [u9qi_ok _ (by omega)]; omega
    have o2 : okI (u9qi (k + 1)) 24 = true := by rw [u9qi_ok _ (by omega)]; omega
    have e1 : u9qi (k + 1) - 1 = u9qi k := u9q_m1 (by omega)
    have e2 : u9qi (k + 1) + (-1) = u9qi k := u9q_neg1 (by omega)
    simp only [f_M_give_6, f_M_give_6b]
    rw [if_neg (by rw [u9q_le0 (by omega)]; omega)]
    simp only [e1, e2, o1, o2, if_true, u9qi_cl (show k < 2147483648 by omega), u9qi_cl (show k + 1 < 2147483648 by omega)]
    by_cases hc : ky k ≤ c
    · rw [if_pos hc]
      have hk0 := (h1 k (by omega)).2
      refine ⟨k + 1, gv, ky, hk, rfl, fun i hi => h1 i (by omega), h2, fun i hi => ?_, h3⟩
      by_cases hik : i = k
      · subst hik; rw [← hk0]; exact hc
      · rw [hk0] at hc; exact u9i32_le_trans (hs i k (by omega) (by omega)) hc
    · rw [if_neg hc]
      refine ih _ _ (by omega) (fun i hi => ?_) (fun i hi hin => ?_) (fun i hi hin => ?_) fu (by omega)
      · simp only [vp_updL, upd]; rw [if_neg (by omega), if_neg (by omega)]; exact h1 i (by omega)
      · simp only [vp_updL, upd]
        by_cases hik : i = k + 1
        · subst hik; rw [if_pos rfl, if_pos rfl]; exact h1 k (by omega)
        · rw [if_neg hik, if_neg hik]; exact h2 i (by omega) hin
      · by_cases hik : i = k
        · subst hik
          have := u9i32_lt_of hc
          rw [(h1 i (by omega)).2] at this; exact this
        · exact h3 i (by omega) hin
theorem u9q_give {g : Nat} (hg : g < 24) (w : Int64) (c : Int32) (gv : Nat → Int64) (ky : Nat → Int32) (hs : u9SrtK g ky) : ∃ p gv' ky', p ≤ g ∧ f_M_give (u9qi g) gv ky w c = some (u9qi (g + 1), gv', ky') ∧ (∀ i, i < p → gv' i = gv i ∧ ky' i = ky i) ∧ (gv' p = w ∧ ky' p = c) ∧ (∀ i, p < i → i ≤ g → gv' i = gv (i - 1) ∧ ky' i = ky (i - 1)) ∧ (∀ i, i < p → ky i ≤ c) ∧ (∀ i, p ≤ i → i < g → c < ky i) := by
  obtain ⟨p, gv', ky', hp, e, g1, g2, g3, g4⟩ := u9q_give_k hg w c gv ky hs g gv ky (Nat.le_refl _) (fun i _ => ⟨rfl, rfl⟩) (fun i hi hin => absurd hi (by omega)) (fun i hi hin => absurd hi (by omega)) FU (by unfold FU; omega)
  have o1 : okI (u9qi p) 24 = true := by rw [u9qi_ok _ (by omega)]; omega
  refine ⟨p, vp_updL gv' p w, upd ky' p c, hp, ?_, fun i hi => ?_, ?_, fun i hi hin => ?_, g3, g4⟩
  · unfold f_M_give f_M_give_62
    rw [e]
    simp only [Option.bind_some, o1, if_true, u9qi_cl (show p < 2147483648 by omega), u9q_p1]
  · simp only [vp_updL, upd]; rw [if_neg (by omega), if_neg (by omega)]; exact g1 i hi
  · simp [vp_updL, upd]
  · simp only [vp_updL, upd]; rw [if_neg (by omega), if_neg (by omega)]; exact g2 i hi hin
theorem u9q_offer_a {s : Nat} (hs24 : s ≤ 24) (mo : Int32) (w : Int64) (c : Int32) (u9tx : Nat → Int64) (rk : Nat → Int32) (hs : u9SrtK s rk) : ∀ k, k ≤ s → (∀ i, k ≤ i → i < s → c < rk i) → ∀ fu, k < fu → ∃ p, p ≤ s ∧ f_Suggestions_offer_6 mo w c (u9qi s) u9tx rk fu (u9qi k) = some (u9qi p) ∧ (∀ i, i < p → rk i ≤ c) ∧ (∀ i, p ≤ i → i < s → c < rk i) := by
  intro k
  induction k with
  | zero =>
    intro hk h3 fu hf
    obtain ⟨fu, rfl⟩ : ∃ m, fu = m + 1 := ⟨fu - 1, by omega⟩
    refine ⟨0, by omega, ?_, fun i hi => absurd hi (by omega), h3⟩
    simp only [f_Suggestions_offer_6, f_Suggestions_offer_6b]
    rw [if_pos (by decide)]
  | succ k ih =>
    intro hk h3 fu hf
    obtain ⟨fu, rfl⟩ : ∃ m, fu = m + 1 := ⟨fu - 1, by omega⟩
    have o1 : okI (u9qi k) 24 = true := by rw [u9qi_ok _ (by omega)]; omega
    have e1 : u9qi (k + 1) - 1 = u9qi k := u9q_m1 (by omega)
    have e2 : u9qi (k + 1) + (-1) = u9qi k := u9q_neg1 (by omega)
    simp only [f_Suggestions_offer_6, f_Suggestions_offer_6b]
    rw [if_neg (by rw [u9q_le0 (by omega)]; omega)]
    simp only [e1, e2, o1, if_true, u9qi_cl (show k < 2147483648 by omega)]
    by_cases hc : rk k ≤ c
    · rw [if_pos hc]
      refine ⟨k + 1, hk, rfl, fun i hi => ?_, h3⟩
      by_cases hik : i = k
      · subst hik; exact hc
      · exact u9i32_le_trans (hs i k (by omega) (by omega)) hc
    · rw [if_neg hc]
      refine ih (by omega) (fun i hi hin => ?_) fu (by omega)
      by_cases hik : i = k
      · subst hik; exact u9i32_lt_of hc
      · exact h3 i (by omega) hin
theorem u9q_offer_b {at' : Nat} (mo : Int32) (w : Int64) (c sz l5 : Int32) (tx0 : Nat → Int64) (rk0 : Nat → Int32) (la' : Nat) (hla : la' < 24) (ha : at' ≤ la') : ∀ r k (u9tx : Nat → Int64) (rk : Nat → Int32), k = at' + r → k ≤ la' → (∀ i, i ≤ k → u9tx i = tx0 i ∧ rk i = rk0 i) → (∀ i, k < i → i ≤ la' → u9tx i = tx0 (i - 1) ∧ rk i = rk0 (i - 1)) → ∀ fu, r < fu → ∃ tx' rk', f_Suggestions_offer_59 mo w c sz (u9qi at') l5 fu u9tx rk (u9qi k) = some (tx', rk') ∧ (∀ i, i < at' → tx' i = tx0 i ∧ rk' i = rk0 i) ∧ (∀ i, at' < i → i ≤ la' → tx' i = tx0 (i - 1) ∧ rk' i = rk0 (i - 1)) := by
  intro r
  induction r with
  | zero =>
    intro k u9tx rk hk hkn h1 h2 fu hf
    obtain ⟨fu, rfl⟩ : ∃ m, fu = m + 1 := ⟨fu - 1, by omega⟩
    obtain rfl : k = at' := by omega
    refine ⟨u9tx, rk, ?_, fun i hi => h1 i (by omega), h2⟩
    simp only [f_Suggestions_offer_59, f_Suggestions_offer_59b]
    rw [if_pos (by rw [u9qi_le (by omega) (by omega)]; omega)]
  | succ r ih =>
    intro k u9tx rk hk hkn h1 h2 fu hf
    obtain ⟨fu, rfl⟩ : ∃ m, fu = m + 1 := ⟨fu - 1, by omega⟩
    have e1 : u9qi k - 1 = u9qi (k - 1) := u9q_m1 (by omega)
    have e2 : u9qi k + (-1) = u9qi (k - 1) := u9q_neg1 (by omega)
    have o1 : okI (u9qi (k - 1)) 24 = true := by rw [u9qi_ok _ (by omega)]; omega
    have o2 : okI (u9qi k) 24 = true := by rw [u9qi_ok _ (by omega)]; omega
    simp only [f_Suggestions_offer_59, f_Suggestions_offer_59b]
    rw [if_neg (by rw [u9qi_le (by omega) (by omega)]; omega)]
    simp only [e1, e2, o1, o2, if_true, u9qi_cl (show k < 2147483648 by omega), u9qi_cl (show k - 1 < 2147483648 by omega)]
    refine ih (k - 1) _ _ (by omega) (by omega) (fun i hi => ?_) (fun i hi hin => ?_) fu (by omega)
    · simp only [vp_updL, upd]
      rw [if_neg (by omega), if_neg (by omega)]; exact h1 i (by omega)
    · simp only [vp_updL, upd]
      by_cases hik : i = k
      · subst hik
        rw [if_pos rfl, if_pos rfl]; exact h1 (i - 1) (by omega)
      · rw [if_neg hik, if_neg hik]; exact h2 i (by omega) hin
theorem u9q_offer {s M : Nat} (hsM : s ≤ M) (hM : M ≤ 24) (w : Int64) (c : Int32) (u9tx : Nat → Int64) (rk : Nat → Int32) (hs : u9SrtK s rk) : ∃ at', at' ≤ s ∧ (∀ i, i < at' → rk i ≤ c) ∧ (∀ i, at' ≤ i → i < s → c < rk i) ∧ ((at' = M ∧ f_Suggestions_offer (u9qi s) (u9qi M) u9tx rk w c = some (u9qi s, u9tx, rk)) ∨ (at' < M ∧ ∃ tx' rk', f_Suggestions_offer (u9qi s) (u9qi M) u9tx rk w c = some (u9qi (min (s + 1) M), tx', rk') ∧ (∀ i, i < at' → tx' i = u9tx i ∧ rk' i = rk i) ∧ (tx' at' = w ∧ rk' at' = c) ∧ (∀ i, at' < i → i < min (s + 1) M → tx' i = u9tx (i - 1) ∧ rk' i = rk (i - 1)))) := by
  obtain ⟨p, hp, e, g1, g2⟩ := u9q_offer_a (by omega) (u9qi M) w c u9tx rk hs s (Nat.le_refl _) (fun i hi hin => absurd hi (by omega)) FU (by unfold FU; omega)
  refine ⟨p, hp, g1, g2, ?_⟩
  unfold f_Suggestions_offer f_Suggestions_offer_30
  rw [e]
  simp only [Option.bind_some, u9qi_lt (show p < 2147483648 by omega) (show M < 2147483648 by omega)]
  by_cases hpM : p < M
  · right
    refine ⟨hpM, ?_⟩
    have el : (if u9qi M - 1 < u9qi s then u9qi M - 1 else u9qi s) = u9qi (min (M - 1) s) := by
      rw [u9q_m1 (by omega), u9qi_min (by omega) (by omega)]
    obtain ⟨tx', rk', e2, k1, k2⟩ := u9q_offer_b (at' := p) (u9qi M) w c (u9qi s) (u9qi (min (M - 1) s)) u9tx rk (min (M - 1) s) (by omega) (by omega) (min (M - 1) s - p) (min (M - 1) s) u9tx rk (by omega) (by omega) (fun i _ => ⟨rfl, rfl⟩) (fun i hi hin => absurd hi (by omega)) FU (by unfold FU; omega)
    have o1 : okI (u9qi p) 24 = true := by rw [u9qi_ok _ (by omega)]; omega
    refine ⟨vp_updL tx' p w, upd rk' p c, ?_, fun i hi => ?_, ?_, fun i hi hin => ?_⟩
    · simp only [hpM, if_true, el, e2, Option.bind_some, o1, u9qi_cl (show p < 2147483648 by omega), u9q_p1]
      rw [show min (M - 1) s + 1 = min (s + 1) M by omega]
    · simp only [vp_updL, upd]; rw [if_neg (by omega), if_neg (by omega)]; exact k1 i hi
    · simp [vp_updL, upd]
    · simp only [vp_updL, upd]; rw [if_neg (by omega), if_neg (by omega)]; exact k2 i hi (by omega)
  · left
    refine ⟨by omega, ?_⟩
    rw [if_neg hpM]
def u9GS (M s g : Nat) (u9tx : Nat → Int64) (rk : Nat → Int32) (gv : Nat → Int64) (ky : Nat → Int32) : Prop :=
  s = min g M ∧ u9SrtK g ky ∧ (∀ k, k < g → u9okW (gv k) = true) ∧ ∀ k, k < s → u9tx k = u9T (gv k) ∧ rk k = ky k
theorem u9q_gs {M s g u9tx rk gv ky} (h : u9GS M s g u9tx rk gv ky) (hM : M ≤ 24) (hg : g < 24) {w : Int64} (hw : u9okW w = true) (c : Int32) :
    ∃ s' tx' rk' gv' ky', f_Suggestions_offer (u9qi s) (u9qi M) u9tx rk (u9T w) c = some (u9qi s', tx', rk') ∧ f_M_give (u9qi g) gv ky w c = some (u9qi (g + 1), gv', ky') ∧ u9GS M s' (g + 1) tx' rk' gv' ky' := by
  obtain ⟨h1, h2, h3, h4⟩ := h
  have hsr : u9SrtK s rk := fun i j hij hj => by
    rw [(h4 i (by omega)).2, (h4 j hj).2]; exact h2 i j hij (by omega)
  obtain ⟨p, gv', ky', hp, e, g1, g2, g3, g4, g5⟩ := u9q_give hg w c gv ky h2
  obtain ⟨q, hq, f1, f2, f3⟩ := u9q_offer (s := s) (M := M) (by omega) hM (u9T w) c u9tx rk hsr
  have hpq : q = min p s := by
    by_cases hps : p < s
    · rcases Nat.lt_trichotomy q p with hh | hh | hh
      · have a1 := f2 q (by omega) (by omega)
        have a2 := g4 q hh
        rw [(h4 q (by omega)).2] at a1
        exact (u9i32_no a1 a2).elim
      · omega
      · have a1 := f1 p hh
        have a2 := g5 p (by omega) (by omega)
        rw [(h4 p hps).2] at a1
        exact (u9i32_no a2 a1).elim
    · by_cases hqs : q = s
      · omega
      · have a1 := f2 q (by omega) (by omega)
        have a2 := g4 q (by omega)
        rw [(h4 q (by omega)).2] at a1
        exact (u9i32_no a1 a2).elim
  have hsk : u9SrtK (g + 1) ky' := by
    intro i j hij hj
    rcases Nat.lt_trichotomy j p with hh | hh | hh
    · rw [(g1 i (by omega)).2, (g1 j hh).2]; exact h2 i j hij (by omega)
    · subst hh; rw [(g1 i hij).2, g2.2]; exact g4 i hij
    · rw [(g3 j hh (by omega)).2]
      rcases Nat.lt_trichotomy i p with hi | hi | hi
      · rw [(g1 i hi).2]; exact h2 i (j - 1) (by omega) (by omega)
      · subst hi; rw [g2.2]; exact u9i32_le_of_lt (g5 (j - 1) (by omega) (by omega))
      · rw [(g3 i hi (by omega)).2]; exact h2 (i - 1) (j - 1) (by omega) (by omega)
  have hok : ∀ k, k < g + 1 → u9okW (gv' k) = true := by
    intro k hk
    rcases Nat.lt_trichotomy k p with hh | hh | hh
    · rw [(g1 k hh).1]; exact h3 k (by omega)
    · subst hh; rw [g2.1]; exact hw
    · rw [(g3 k hh (by omega)).1]; exact h3 (k - 1) (by omega)
  rcases f3 with ⟨hqM, e2⟩ | ⟨hqM, tx', rk', e2, k1, k2, k3⟩
  · refine ⟨s, u9tx, rk, gv', ky', e2, e, by omega, hsk, hok, fun k hk => ?_⟩
    rw [(g1 k (by omega)).1, (g1 k (by omega)).2]; exact h4 k hk
  · refine ⟨min (s + 1) M, tx', rk', gv', ky', e2, e, by omega, hsk, hok, fun k hk => ?_⟩
    have hpq2 : q = p := by omega
    subst hpq2
    rcases Nat.lt_trichotomy k q with hh | hh | hh
    · rw [(g1 k hh).1, (g1 k hh).2, (k1 k hh).1, (k1 k hh).2]; exact h4 k (by omega)
    · subst hh; rw [g2.1, g2.2, k2.1, k2.2]; exact ⟨rfl, rfl⟩
    · rw [(g3 k hh (by omega)).1, (g3 k hh (by omega)).2, (k3 k hh hk).1, (k3 k hh hk).2]; exact h4 (k - 1) (by omega)
