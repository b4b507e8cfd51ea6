theorem u9spS_le {n : Nat} (hn : n ≤ 24) (dt : Nat → Int64) (dc : Nat → Int32) : u9spS (u9Wl n dt dc) ≤ 193 := by
  have h1 := u9kS_len (u9Wl n dt dc) (u9wB (u9Wl n dt dc))
  have h2 := u9wP_len (u9Wl n dt dc) n
  have e : u9wP (u9Wl n dt dc) n = u9wB (u9Wl n dt dc) := by
    have := u9wP_B (u9Wl n dt dc); rwa [u9Wl_len] at this
  rw [e] at h2
  have h3 : u9spS (u9Wl n dt dc) = (u9kS (u9Wl n dt dc) (u9wB (u9Wl n dt dc))).length := rfl
  omega
theorem u9SHR_nz {made th dn dr ds da dz dt dc nb sz rd wd mc st ar} (h : u9SHR made th dn dr ds da dz dt dc nb sz rd wd mc st ar) (hm : made < 100000) {p : Nat} (hp : p < th) : nb p ≠ 0 := by
  obtain ⟨k, ek, k1, k2⟩ := h.2.2.2.1 p hp
  rw [ek, u9qi_lit]; intro hc
  rw [u9qi_eq (by omega) (by omega)] at hc
  have : k = 0 := hc
  omega
theorem u9SHR_st {made th dn dr ds da dz dt dc nb sz rd wd mc st ar} (h : u9SHR made th dn dr ds da dz dt dc nb sz rd wd mc st ar) (hm : made < 100000) {p d : Nat} (hd : d < 3) (hp : p < th) (hdp : dn d = nb p) {st' ar' : Nat → Int32} (e1 : st' p = ds d) (e2 : ar' p = da d) (e3 : ∀ q, q ≠ p → st' q = st q ∧ ar' q = ar q) : u9SHR made th dn dr ds da dz dt dc nb sz rd wd mc st' ar' := by
  have hnz := u9SHR_nz h hm hp
  obtain ⟨h1, h2, h3, h4, h5, h6, h7, h8⟩ := h
  refine ⟨h1, h2, h3, h4, h5, fun e he => ?_, h7, h8⟩
  rcases h6 e he with hz | ⟨p', hp', hD⟩
  · exact Or.inl hz
  · right
    refine ⟨p', hp', ?_⟩
    by_cases hpp : p' = p
    · subst hpp
      have hed : e = d := by
        apply Classical.byContradiction
        intro hne
        exact h8 e d he hd hne (by rw [hD.1]; exact hnz) (by rw [hD.1, hdp])
      subst hed
      obtain ⟨x1, x2, x3, n, x4, x5, x6, x7, x8, x9⟩ := hD
      exact ⟨x1, x2, x3, n, x4, x5, x6, x7, x8, Or.inr ⟨e1, e2⟩⟩
    · rw [(e3 p' hpp).1, (e3 p' hpp).2]; exact hD
theorem u9q_Slook {n0 r0 s0 a0 z0 n1 r1 s1 a1 z1 n2 r2 s2 a2 z2 : Int32} {a b : Int32} {d : Nat} (hd : d < 3) (hf : f_S_find n0 n1 n2 a = some d) :
    f_S_look n0 r0 s0 a0 z0 n1 r1 s1 a1 z1 n2 r2 s2 a2 z2 a b = if b = 0 then some (0, u9tri z0 z1 z2 d) else if b = 1 then some (0, u9tri s0 s1 s2 d) else if b = 2 then some (0, u9tri a0 a1 a2 d) else if b = 3 then some (0, u9tri r0 r1 r2 d) else some (1, 0) := by
  unfold f_S_look f_Dictionary_words f_Dictionary_states f_Dictionary_arcs f_Dictionary_readers f_WordList_size
  rw [hf]
  rcases u9d3 hd with rfl | rfl | rfl <;> simp only [Option.bind_some, if_true, if_false, u9d01, u9d02, u9d12, u9tri]
theorem u9qw_look {made th dn dr ds da dz dt dc nb sz rd wd mc st ar} (h : u9SHR made th dn dr ds da dz dt dc nb sz rd wd mc st ar) (hm : made < 100000) (a b t bg : Int32) (fr le en lo : Nat → Int32) (ky : Nat → Int64) :
    ∃ k ans t' bg' st' ar' fr' le' en' lo' ky', f_S_look (dn 0) (dr 0) (ds 0) (da 0) (dz 0) (dn 1) (dr 1) (ds 1) (da 1) (dz 1) (dn 2) (dr 2) (ds 2) (da 2) (dz 2) a b = some (k, ans) ∧ f_M_look t (u9qi th) bg nb sz rd wd mc st ar fr le en lo ky a b = some (ans, t', bg', st', ar', fr', le', en', lo', ky') ∧ u9SHR made th dn dr ds da dz dt dc nb sz rd wd mc st' ar' ∧ ((k = 0 ∧ t' = 0) ∨ (k = 3 ∧ t' = 1) ∨ (k = 1 ∧ t' = 2)) := by
  have hth := h.1
  have em : ¬ ((0 : Int32) ≤ -1) := by decide
  rcases u9q_find h hm a with ⟨d, p, hd, hp, e1, e2, e3, e4, hD⟩ | ⟨e1, e2, hn⟩
  · have hD' := hD
    obtain ⟨x1, x2, x3, n, x4, x5, x6, x7, x8, x9⟩ := hD
    rw [u9q_Slook hd e1, u9tri_f dz d hd, u9tri_f ds d hd, u9tri_f da d hd, u9tri_f dr d hd]
    have o3 : okI (u9qi p) 3 = true := by rw [u9qi_ok _ (by omega)]; omega
    have cp : (u9qi p).toNatClampNeg = p := u9qi_cl (by omega)
    have l0 : (0 : Int32) ≤ u9qi p := by rw [u9qi_lit, u9qi_le (by omega) (by omega)]; omega
    have hsp : u9spS (u9ls (fun i => (dt d i, dc d i)) n) ≤ 193 := u9spS_le x6.1 (dt d) (dc d)
    by_cases hb : b < 0 ∨ ¬ (b ≤ 3)
    · have hbn : ¬ (b = 0) ∧ ¬ (b = 1) ∧ ¬ (b = 2) ∧ ¬ (b = 3) := by
        refine ⟨?_, ?_, ?_, ?_⟩ <;> (rintro rfl; revert hb; decide)
      refine ⟨1, 0, 2, bg, st, ar, fr, le, en, lo, ky, ?_, ?_, h, Or.inr (Or.inr ⟨rfl, rfl⟩)⟩
      · simp only [hbn.1, hbn.2.1, hbn.2.2.1, hbn.2.2.2, if_false]
      · unfold f_M_look f_M_look_16 f_M_look_25 f_M_look_30
        rw [e2]
        simp only [Option.bind_some, l0, if_true]
        rcases hb with hb | hb
        · simp only [hb, if_true, (u9q_throwing t).2.2.1, Option.bind_some, u9n10, if_false]
        · by_cases hb0 : b < 0
          · simp only [hb0, if_true, (u9q_throwing t).2.2.1, Option.bind_some, u9n10, if_false]
          · simp only [hb0, hb, if_false, (u9q_throwing t).2.2.1, Option.bind_some, u9n10]
    · have hb0 : ¬ (b < 0) := fun hh => hb (Or.inl hh)
      have hb3 : b ≤ 3 := Classical.byContradiction (fun hh => hb (Or.inr hh))
      have hst : ∃ bg' st' ar' fr' le' en' lo' ky', (f_M_look_30 (u9qi th) nb sz rd wd mc a b t bg st ar fr le en lo ky (u9qi p) 0 0 = f_M_look_52 (u9qi th) nb sz rd wd mc a b 0 bg' st' ar' fr' le' en' lo' ky' (u9qi p)) ∧ st' p = ds d ∧ ar' p = da d ∧ (∀ q, q ≠ p → st' q = st q ∧ ar' q = ar q) := by
        unfold f_M_look_30
        simp only [(u9q_throwing t).1, Option.bind_some, if_true, o3, cp]
        rcases x9 with x9 | ⟨x9, x10⟩
        · rw [x9]
          obtain ⟨bg', st', ar', fr', le', en', lo', ky', ec, g1, g2, g3⟩ := u9q_count (p := p) (by omega) x6 x5 bg st ar fr le en lo ky
          simp only [em, if_false, ec, Option.bind_some]
          exact ⟨bg', st', ar', fr', le', en', lo', ky', rfl, by rw [g1, x7]; rfl, by rw [g2, x8]; rfl, g3⟩
        · have l2 : (0 : Int32) ≤ st p := by
            rw [x9, x7, u9qi_lit, u9qi_le (by omega) (by omega)]; omega
          simp only [l2, if_true]
          exact ⟨bg, st, ar, fr, le, en, lo, ky, rfl, x9, x10, fun _ _ => ⟨rfl, rfl⟩⟩
      obtain ⟨bg', st', ar', fr', le', en', lo', ky', ee, g1, g2, g3⟩ := hst
      have hM : f_M_look t (u9qi th) bg nb sz rd wd mc st ar fr le en lo ky a b = f_M_look_52 (u9qi th) nb sz rd wd mc a b 0 bg' st' ar' fr' le' en' lo' ky' (u9qi p) := by
        rw [← ee]
        unfold f_M_look f_M_look_16
        rw [e2]
        simp only [Option.bind_some, l0, if_true, hb0, hb3, if_false]
      have hS := u9SHR_st h hm hd hp (by rw [x1]) g1 g2 g3
      rw [hM]
      unfold f_M_look_52
      simp only [o3, if_true, cp, x5, g1, g2, ← x2, x4]
      by_cases b0 : b = 0
      · subst b0; simp only [if_true]
        exact ⟨0, _, 0, bg', st', ar', fr', le', en', lo', ky', rfl, rfl, hS, Or.inl ⟨rfl, rfl⟩⟩
      · by_cases b1 : b = 1
        · subst b1; simp only [u9n10, if_false, if_true]
          exact ⟨0, _, 0, bg', st', ar', fr', le', en', lo', ky', rfl, rfl, hS, Or.inl ⟨rfl, rfl⟩⟩
        · by_cases b2 : b = 2
          · subst b2; simp only [b0, b1, if_false, if_true]
            exact ⟨0, _, 0, bg', st', ar', fr', le', en', lo', ky', rfl, rfl, hS, Or.inl ⟨rfl, rfl⟩⟩
          · have b3 : b = 3 := by
              obtain ⟨k, hk, rfl⟩ := u9q_int hb0
              rw [u9qi_lit, u9qi_le (by omega) (by omega)] at hb3
              rw [u9qi_lit, u9qi_eq (by omega) (by omega)] at b0 b1 b2
              have h1 : k ≤ 3 := hb3
              have h2 : ¬ (k = 0) := b0
              have h3 : ¬ (k = 1) := b1
              have h4 : ¬ (k = 2) := b2
              obtain rfl : k = 3 := by omega
              rfl
            subst b3; simp only [b0, b1, b2, if_false, if_true]
            exact ⟨0, _, 0, bg', st', ar', fr', le', en', lo', ky', rfl, rfl, hS, Or.inl ⟨rfl, rfl⟩⟩
  · refine ⟨3, 0, 1, bg, st, ar, fr, le, en, lo, ky, ?_, ?_, h, Or.inr (Or.inl ⟨rfl, rfl⟩)⟩
    · unfold f_S_look
      rw [e1]
      simp only [Option.bind_some, u9d30, u9d31, u9d32, if_false]
    · unfold f_M_look f_M_look_16 f_M_look_25 f_M_look_30
      rw [e2]
      simp only [Option.bind_some, em, if_false]
      by_cases hb0 : b < 0
      · simp only [hb0, if_true, (u9q_throwing t).2.2.2, Option.bind_some, u9n10, if_false]
      · by_cases hb3 : b ≤ 3
        · simp only [hb0, hb3, if_true, if_false, (u9q_throwing t).2.1, Option.bind_some, u9n10]
        · simp only [hb0, hb3, if_false, (u9q_throwing t).2.2.2, Option.bind_some, u9n10]
theorem u9SHR_new {made th dn dr ds da dz dt dc nb sz rd wd mc st ar} (h : u9SHR made th dn dr ds da dz dt dc nb sz rd wd mc st ar) (hm : made + 1 < 100000) {d s : Nat} (hd : d < 3) (hs : (s = 1 ∧ dn d = 0 ∧ th < 3) ∨ (s = 0 ∧ 0 < th ∧ dn d = nb 0))
    {dn' dr' ds' da' dz' : Nat → Int32} {dt' : Nat → Nat → Int64} {dc' : Nat → Nat → Int32} {nb' sz' rd' : Nat → Int32} {wd' : Nat → Int64} {mc' st' ar' : Nat → Int32}
    (hnb : nb' 0 = u9qi (made + 1)) (e1 : u9DD (dn' d) (dr' d) (ds' d) (da' d) (dz' d) (dt' d) (dc' d) (nb' 0) (sz' 0) (rd' 0) (st' 0) (ar' 0) (fun i => wd' (24 * 0 + i)) (fun i => mc' (24 * 0 + i)))
    (e2 : ∀ e, e < 3 → e ≠ d → dn' e = dn e ∧ dr' e = dr e ∧ ds' e = ds e ∧ da' e = da e ∧ dz' e = dz e ∧ dt' e = dt e ∧ dc' e = dc e)
    (g : ∀ q, q < th → (s = 1 ∨ 1 ≤ q) → nb' (q + s) = nb q ∧ sz' (q + s) = sz q ∧ rd' (q + s) = rd q ∧ st' (q + s) = st q ∧ ar' (q + s) = ar q ∧ ∀ i, i < 24 → wd' (24 * (q + s) + i) = wd (24 * q + i) ∧ mc' (24 * (q + s) + i) = mc (24 * q + i)) :
    u9SHR (made + 1) (th + s) dn' dr' ds' da' dz' dt' dc' nb' sz' rd' wd' mc' st' ar' := by
  have hnz : ∀ p, p < th → nb p ≠ 0 := fun p hp => u9SHR_nz h (by omega) hp
  obtain ⟨h1, h2, h3, h4, h5, h6, h7, h8⟩ := h
  have hdd : dn' d = u9qi (made + 1) := by rw [e1.1, hnb]
  have hold : ∀ p, 0 < p → p < th + s → ∃ q, q < th ∧ p = q + s ∧ (s = 1 ∨ 1 ≤ q) ∧ nb' p = nb q := by
    intro p hp hp2
    refine ⟨p - s, by omega, by omega, by omega, ?_⟩
    have := (g (p - s) (by omega) (by omega)).1
    rwa [show p - s + s = p by omega] at this
  have hlt : ∀ q, q < th → ∃ k, nb q = u9qi k ∧ 1 ≤ k ∧ k ≤ made := h4
  have hne0 : ∀ q, q < th → nb q ≠ u9qi (made + 1) := by
    intro q hq hc
    obtain ⟨k, ek, k1, k2⟩ := hlt q hq
    rw [ek, u9qi_eq (by omega) (by omega)] at hc; omega
  have hed : ∀ e, e < 3 → e ≠ d → dn e ≠ u9qi (made + 1) := by
    intro e he _ hc
    rcases h6 e he with hz | ⟨q, hq, hD⟩
    · rw [hz, u9qi_lit, u9qi_eq (by omega) (by omega)] at hc
      have : 0 = made + 1 := hc
      omega
    · exact hne0 q hq (by rw [← hD.1, hc])
  refine ⟨by omega, by omega, fun _ => hnb, fun p hp => ?_, fun p q hpq hq => ?_, fun e he => ?_, fun p hp => ?_, fun e f he hf hef hne => ?_⟩
  · by_cases hp0 : p = 0
    · subst hp0; exact ⟨made + 1, hnb, by omega, by omega⟩
    · obtain ⟨q, hq, _, _, e⟩ := hold p (by omega) hp
      obtain ⟨k, ek, k1, k2⟩ := h4 q hq
      exact ⟨k, by rw [e, ek], k1, by omega⟩
  · obtain ⟨y, hy, hyq, _, ey⟩ := hold q (by omega) hq
    by_cases hp0 : p = 0
    · subst hp0; rw [hnb, ey]; exact Ne.symm (hne0 y hy)
    · obtain ⟨x, hx, hxp, _, ex⟩ := hold p (by omega) (by omega)
      rw [ex, ey]; exact h5 x y (by omega) hy
  · by_cases hede : e = d
    · subst hede; exact Or.inr ⟨0, by omega, e1⟩
    · obtain ⟨a1, a2, a3, a4, a5, a6, a7⟩ := e2 e he hede
      rcases h6 e he with hz | ⟨q, hq, hD⟩
      · exact Or.inl (by rw [a1, hz])
      · right
        have hq1 : s = 1 ∨ 1 ≤ q := by
          rcases hs with ⟨hs, _⟩ | ⟨hs, hth, hdn⟩
          · exact Or.inl hs
          · right
            apply Nat.one_le_iff_ne_zero.2
            intro hq0; subst hq0
            exact h8 d e hd he (Ne.symm hede) (by rw [hdn]; exact hnz 0 hq) (by rw [hdn, hD.1])
        obtain ⟨b1, b2, b3, b4, b5, b6⟩ := g q hq hq1
        refine ⟨q + s, by omega, ?_⟩
        rw [a1, a2, a3, a4, a5, a6, a7, b1, b2, b3, b4, b5]
        exact u9DD_congr hD b6
  · by_cases hp0 : p = 0
    · subst hp0; exact ⟨d, hd, by rw [hdd, hnb]⟩
    · obtain ⟨q, hq, hpq, hq1, e⟩ := hold p (by omega) hp
      obtain ⟨f, hf, ef⟩ := h7 q hq
      have hfd : f ≠ d := by
        intro hc; subst hc
        rcases hs with ⟨_, hz, _⟩ | ⟨hs, hth, hdn⟩
        · exact hnz q hq (by rw [← ef, hz])
        · exact h5 0 q (by omega) hq (by rw [← hdn, ef])
      exact ⟨f, hf, by rw [(e2 f hf hfd).1, ef, e]⟩
  · by_cases hede : e = d
    · subst hede
      rw [hdd, (e2 f hf (Ne.symm hef)).1]
      exact Ne.symm (hed f hf (Ne.symm hef))
    · by_cases hfd : f = d
      · subst hfd
        rw [hdd, (e2 e he hede).1]; exact hed e he hede
      · rw [(e2 e he hede).1] at hne ⊢
        rw [(e2 f hf hfd).1]; exact h8 e f he hf hef hne
