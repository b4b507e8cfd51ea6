theorem u9SHR_go {made th dn dr ds da dz dt dc nb sz rd wd mc st ar} (h : u9SHR made th dn dr ds da dz dt dc nb sz rd wd mc st ar) (hm : made < 100000) {d p : Nat} (hd : d < 3) (hp : p < th) (hp0 : 0 < p) (hdp : dn d = nb p) {dn' dr' : Nat → Int32} {nb' sz' rd' : Nat → Int32} {wd' : Nat → Int64} {mc' st' ar' : Nat → Int32}
    (e1 : dn' d = 0) (e2 : ∀ e, e < 3 → e ≠ d → dn' e = dn e ∧ dr' e = dr e)
    (g1 : ∀ q, q < p → nb' q = nb q ∧ sz' q = sz q ∧ rd' q = rd q ∧ st' q = st q ∧ ar' q = ar q ∧ ∀ i, i < 24 → wd' (24 * q + i) = wd (24 * q + i) ∧ mc' (24 * q + i) = mc (24 * q + i))
    (g2 : ∀ q, p ≤ q → q + 1 < th → nb' q = nb (q + 1) ∧ sz' q = sz (q + 1) ∧ rd' q = rd (q + 1) ∧ st' q = st (q + 1) ∧ ar' q = ar (q + 1) ∧ ∀ i, i < 24 → wd' (24 * q + i) = wd (24 * (q + 1) + i) ∧ mc' (24 * q + i) = mc (24 * (q + 1) + i)) :
    u9SHR made (th - 1) dn' dr' ds da dz dt dc nb' sz' rd' wd' mc' st' ar' := by
  obtain ⟨h1, h2, h3, h4, h5, h6, h7, h8⟩ := h
  have hnum : ∀ q, q < th - 1 → ∃ q', q' < th ∧ q' ≠ p ∧ nb' q = nb q' ∧ (∀ x, x < q → (x < p ∨ x + 1 < th)) ∧ ((q < p ∧ q' = q) ∨ (p ≤ q ∧ q' = q + 1)) := by
    intro q hq
    by_cases hqp : q < p
    · exact ⟨q, by omega, by omega, (g1 q hqp).1, fun x hx => by omega, Or.inl ⟨hqp, rfl⟩⟩
    · exact ⟨q + 1, by omega, by omega, (g2 q (by omega) (by omega)).1, fun x hx => by omega, Or.inr ⟨by omega, rfl⟩⟩
  have hpd : dn d ≠ 0 := by
    obtain ⟨k, ek, k1, k2⟩ := h4 p hp
    rw [hdp, ek, u9qi_lit]; intro hc
    rw [u9qi_eq (by omega) (by omega)] at hc
    have : k = 0 := hc
    omega
  refine ⟨by omega, by omega, fun _ => ?_, fun q hq => ?_, fun q q2 hqq hq2 => ?_, fun e he => ?_, fun q hq => ?_, fun e f he hf hef hne => ?_⟩
  · rw [(g1 0 hp0).1]; exact h3 (by omega)
  · obtain ⟨q', hq', _, e, _⟩ := hnum q hq
    rw [e]; exact h4 q' hq'
  · obtain ⟨x, hx, _, ex, _, hxx⟩ := hnum q (by omega)
    obtain ⟨y, hy, _, ey, _, hyy⟩ := hnum q2 hq2
    rw [ex, ey]
    exact h5 x y (by omega) hy
  · by_cases hed : e = d
    · subst hed; exact Or.inl e1
    · rw [(e2 e he hed).1, (e2 e he hed).2]
      rcases h6 e he with hz | ⟨p', hp', hD⟩
      · exact Or.inl hz
      · right
        have hpp : p' ≠ p := by
          intro hc; subst hc
          exact h8 d e hd he (Ne.symm hed) hpd (by rw [hdp, hD.1])
        by_cases hlt : p' < p
        · obtain ⟨a1, a2, a3, a4, a5, a6⟩ := g1 p' hlt
          exact ⟨p', by omega, by rw [a1, a2, a3, a4, a5]; exact u9DD_congr hD a6⟩
        · obtain ⟨a1, a2, a3, a4, a5, a6⟩ := g2 (p' - 1) (by omega) (by omega)
          rw [show p' - 1 + 1 = p' by omega] at a1 a2 a3 a4 a5 a6
          exact ⟨p' - 1, by omega, by rw [a1, a2, a3, a4, a5]; exact u9DD_congr hD a6⟩
  · obtain ⟨q', hq', hne, e, _⟩ := hnum q hq
    obtain ⟨f, hf, ef⟩ := h7 q' hq'
    have hfd : f ≠ d := by
      intro hc; subst hc
      rw [hdp] at ef
      rcases Nat.lt_trichotomy q' p with hh | hh | hh
      · exact h5 q' p hh hp ef.symm
      · exact hne hh
      · exact h5 p q' hh hq' ef
    exact ⟨f, hf, by rw [(e2 f hf hfd).1, ef, e]⟩
  · by_cases hed : e = d
    · subst hed; exact absurd e1 hne
    · by_cases hfd : f = d
      · subst hfd
        rw [e1]; exact hne
      · rw [(e2 e he hed).1] at hne ⊢
        rw [(e2 f hf hfd).1]; exact h8 e f he hf hef hne
theorem u9q_rel61 {made th dn dr ds da dz dt dc nb sz rd wd mc st ar} (h : u9SHR made th dn dr ds da dz dt dc nb sz rd wd mc st ar) (a t : Int32) {p : Nat} (hp : p < th) (hp0 : 0 < p) : ∃ nb' sz' rd' wd' mc' st' ar', f_M_release_61 a t (u9qi th) FU nb sz rd wd mc st ar (u9qi p) = some (nb', sz', rd', wd', mc', st', ar') ∧ (∀ q, q < p → nb' q = nb q ∧ sz' q = sz q ∧ rd' q = rd q ∧ st' q = st q ∧ ar' q = ar q ∧ ∀ i, i < 24 → wd' (24 * q + i) = wd (24 * q + i) ∧ mc' (24 * q + i) = mc (24 * q + i)) ∧ (∀ q, p ≤ q → q + 1 < th → nb' q = nb (q + 1) ∧ sz' q = sz (q + 1) ∧ rd' q = rd (q + 1) ∧ st' q = st (q + 1) ∧ ar' q = ar (q + 1) ∧ ∀ i, i < 24 → wd' (24 * q + i) = wd (24 * (q + 1) + i) ∧ mc' (24 * q + i) = mc (24 * (q + 1) + i)) := by
  have hth := h.1
  by_cases hl : th ≤ p + 1
  · refine ⟨nb, sz, rd, wd, mc, st, ar, ?_, fun q _ => ⟨rfl, rfl, rfl, rfl, rfl, fun i _ => ⟨rfl, rfl⟩⟩, fun q h1 h2 => absurd h1 (by omega)⟩
    show f_M_release_61b a t (u9qi th) _ nb sz rd wd mc st ar (u9qi p) = _
    unfold f_M_release_61b
    rw [u9q_p1, if_pos (by rw [u9qi_le (by omega) (by omega)]; exact hl)]
  · obtain rfl : p = 1 := by omega
    obtain rfl : th = 3 := by omega
    obtain ⟨wd', mc', e, g1, g2⟩ := u9q_move (a := 2) (b := 1) (by omega) (by omega) (by omega) nb sz rd wd mc st ar
    refine ⟨upd nb 1 (nb 2), upd sz 1 (sz 2), upd rd 1 (rd 2), wd', mc', upd st 1 (st 2), upd ar 1 (ar 2), ?_, fun q hq => ?_, fun q hq1 hq2 => ?_⟩
    rotate_left 1
    · obtain rfl : q = 0 := by omega
      exact ⟨by simp [upd], by simp [upd], by simp [upd], by simp [upd], by simp [upd], fun i hi => g2 _ (by omega)⟩
    · obtain rfl : q = 1 := by omega
      exact ⟨by simp [upd], by simp [upd], by simp [upd], by simp [upd], by simp [upd], fun i hi => g1 i hi⟩
    · show f_M_release_61b a t (u9qi 3) (f_M_release_61b a t (u9qi 3) _) nb sz rd wd mc st ar (u9qi 1) = _
      unfold f_M_release_61b
      have e1 : ¬ (u9qi 3 ≤ u9qi 1 + 1) := by decide
      have e2 : u9qi 3 ≤ u9qi 1 + 1 + 1 := by decide
      have e3 : u9qi 1 + 1 = u9qi 2 := by decide
      rw [e3] at e1 e2 ⊢
      simp only [e1, if_false, e, Option.bind_some, e2, if_true]
theorem u9SHR_self {made th dn dr ds da dz dt dc nb sz rd wd mc st ar} (h : u9SHR made th dn dr ds da dz dt dc nb sz rd wd mc st ar) : u9SHR made th (u9tri (dn 0) (dn 1) (dn 2)) (u9tri (dr 0) (dr 1) (dr 2)) ds da dz dt dc nb sz rd wd mc st ar := by
  obtain ⟨h1, h2, h3, h4, h5, h6, h7, h8⟩ := h
  refine ⟨h1, h2, h3, h4, h5, fun e he => ?_, fun p hp => ?_, fun d e hd he => ?_⟩
  · rw [u9tri_f dr e he, u9tri_f dn e he]; exact h6 e he
  · obtain ⟨d, hd, hh⟩ := h7 p hp
    exact ⟨d, hd, by rw [u9tri_f dn d hd]; exact hh⟩
  · rw [u9tri_f dn e he, u9tri_f dn d hd]; exact h8 d e hd he
theorem u9SHR_ext {made th dn dr ds da dz dt dc nb sz rd wd mc st ar} (h : u9SHR made th dn dr ds da dz dt dc nb sz rd wd mc st ar) {dn' dr' : Nat → Int32} (e1 : ∀ d, d < 3 → dn' d = dn d) (e2 : ∀ d, d < 3 → dr' d = dr d) : u9SHR made th dn' dr' ds da dz dt dc nb sz rd wd mc st ar := by
  obtain ⟨h1, h2, h3, h4, h5, h6, h7, h8⟩ := h
  refine ⟨h1, h2, h3, h4, h5, fun e he => ?_, fun p hp => ?_, fun d e hd he => ?_⟩
  · rw [e1 e he, e2 e he]; exact h6 e he
  · obtain ⟨d, hd, hh⟩ := h7 p hp
    exact ⟨d, hd, by rw [e1 d hd]; exact hh⟩
  · rw [e1 e he, e1 d hd]; exact h8 d e hd he
theorem u9q_Srel {made : Nat} {n0 r0 n1 r1 n2 r2 : Int32} {a : Int32} {d r : Nat} (hd : d < 3) (hr : r ≤ 9) (hf : f_S_find n0 n1 n2 a = some d) (hrd : u9tri r0 r1 r2 d = u9qi r) (hpos : ¬ (u9tri n0 n1 n2 d ≤ 0)) :
    f_S_release (u9qi made) n0 r0 n1 r1 n2 r2 a = if r = 0 then some (1, 0, n0, r0, n1, r1, n2, r2) else
      if r = 1 ∧ ¬ (a = u9qi made) then some (0, 0, va_up (u9tri n0 n1 n2) d 0 0, va_up (u9tri r0 r1 r2) d (u9qi (r - 1)) 0, va_up (u9tri n0 n1 n2) d 0 1, va_up (u9tri r0 r1 r2) d (u9qi (r - 1)) 1, va_up (u9tri n0 n1 n2) d 0 2, va_up (u9tri r0 r1 r2) d (u9qi (r - 1)) 2)
      else some (0, 1, n0, va_up (u9tri r0 r1 r2) d (u9qi (r - 1)) 0, n1, va_up (u9tri r0 r1 r2) d (u9qi (r - 1)) 1, n2, va_up (u9tri r0 r1 r2) d (u9qi (r - 1)) 2) := by
  unfold f_S_release f_S_release_17 f_S_release_50 f_S_release_50_1 f_S_release_50_2
  rw [hf]
  have z1 : okZ 1 = true := by decide
  have z0 : okZ 0 = true := by decide
  have zz : f_Dictionary_isThere 0 = some 0 := by decide
  have e0 : (u9qi r = 0) = (r = 0) := by rw [u9qi_lit, u9qi_eq (by omega) (by omega)]
  have hh : f_Dictionary_isThere (u9tri n0 n1 n2 d) = some 1 := by
    rcases u9q_isThere (u9tri n0 n1 n2 d) with ⟨x, y⟩ | ⟨x, y⟩
    · exact absurd x hpos
    · exact y
  rcases u9d3 hd with rfl | rfl | rfl
  all_goals
    simp only [u9tri, if_true, if_false, show ¬ (1 = 0) by omega, show ¬ (2 = 0) by omega, show ¬ (2 = 1) by omega] at hrd hh
    subst hrd
    simp only [Option.bind_some, if_true, if_false, show ¬ (1 = 0) by omega, show ¬ (2 = 0) by omega, show ¬ (2 = 1) by omega, f_Dictionary_readers, f_Dictionary_removeReader, f_Dictionary_clear, e0, hh, zz, z0, z1, u9tri, va_up, show ¬ (0 = 1) by omega, show ¬ (0 = 2) by omega, show ¬ (1 = 2) by omega]
    by_cases hr0 : r = 0
    · simp only [hr0, if_true]
    · have e1 : u9qi r - 1 = u9qi (r - 1) := u9q_m1 (by omega)
      have e2 : (u9qi (r - 1) = 0) = (r = 1) := by
        rw [u9qi_lit, u9qi_eq (by omega) (by omega)]
        apply propext
        constructor
        · intro hx
          have : r - 1 = 0 := hx
          omega
        · intro hx; subst hx; rfl
      simp only [hr0, if_false, e1, e2]
      by_cases hr1 : r = 1
      · by_cases ham : a = u9qi made <;> simp [hr1, ham]
      · simp [hr1]

theorem u9qw_release {made th dn dr ds da dz dt dc nb sz rd wd mc st ar} (h : u9SHR made th dn dr ds da dz dt dc nb sz rd wd mc st ar) (hm : made < 100000) (a t : Int32) :
    ∃ k ans n0 r0 n1 r1 n2 r2 t' th' nb' sz' rd' wd' mc' st' ar', f_S_release (u9qi made) (dn 0) (dr 0) (dn 1) (dr 1) (dn 2) (dr 2) a = some (k, ans, n0, r0, n1, r1, n2, r2) ∧ f_M_release t (u9qi th) nb sz rd wd mc st ar a = some (ans, t', u9qi th', nb', sz', rd', wd', mc', st', ar') ∧ u9SHR made th' (u9tri n0 n1 n2) (u9tri r0 r1 r2) ds da dz dt dc nb' sz' rd' wd' mc' st' ar' ∧ ((k = 0 ∧ t' = 0 ∧ (ans = 0 ∨ ans = 1)) ∨ (k = 1 ∧ t' = 1)) := by
  have hth := h.1
  rcases u9q_find h hm a with ⟨d, p, hd, hp, e1, e2, e3, e4, hD⟩ | ⟨e1, e2, hn⟩
  · obtain ⟨r, hr, er⟩ := hD.2.2.1
    have edr : dr d = u9qi r := by rw [hD.2.1, er]
    have hpos : ¬ (u9tri (dn 0) (dn 1) (dn 2) d ≤ 0) := by
      obtain ⟨k, ek, k1, k2⟩ := h.2.2.2.1 p hp
      rw [u9tri_f dn d hd, hD.1, ek, u9q_le0 (by omega)]; omega
    have o1 : okI (u9qi p) 3 = true := by rw [u9qi_ok _ (by omega)]; omega
    have l1 : ¬ (u9qi p < 0) := by rw [u9qi_lit, u9qi_lt (by omega) (by omega)]; omega
    have c1 : (u9qi p).toNatClampNeg = p := u9qi_cl (by omega)
    rw [u9q_Srel (made := made) hd hr e1 (by rw [u9tri_f dr d hd]; exact edr) hpos]
    unfold f_M_release f_M_release_20 f_M_release_25
    rw [e2]
    simp only [Option.bind_some, l1, if_false, o1, if_true, c1, er]
    have e0 : (u9qi r = 0) = (r = 0) := by rw [u9qi_lit, u9qi_eq (by omega) (by omega)]
    have p0 : (u9qi p = 0) = (p = 0) := by rw [u9qi_lit, u9qi_eq (by omega) (by omega)]
    by_cases hr0 : r = 0
    · simp only [hr0, if_true, (u9q_throwing t).2.1, Option.bind_some, u9n10, if_false, show u9qi 0 = 0 from rfl]
      exact ⟨1, 0, _, _, _, _, _, _, 1, th, nb, sz, rd, wd, mc, st, ar, rfl, rfl, u9SHR_self h, Or.inr ⟨rfl, rfl⟩⟩
    · have ham : (a = u9qi made) = (p = 0) := by
        apply propext; constructor
        · intro hx
          by_cases hp0 : p = 0
          · exact hp0
          · exact absurd (by rw [h.2.2.1 (by omega), e4, hx]) (h.2.2.2.2.1 0 p (by omega) hp)
        · intro hx; subst hx; rw [← e4]; exact h.2.2.1 hp
      have eu : upd rd p (u9qi (r - 1)) p = u9qi (r - 1) := by simp [upd]
      simp only [hr0, if_false, e0, p0, ham, (u9q_throwing t).1, Option.bind_some, if_true, u9q_m1 (show 1 ≤ r by omega), eu, u9q_le0 (show r - 1 < 2147483648 by omega)]
      have hkeep : u9SHR made th (u9tri (dn 0) (dn 1) (dn 2)) (u9tri (va_up (u9tri (dr 0) (dr 1) (dr 2)) d (u9qi (r - 1)) 0) (va_up (u9tri (dr 0) (dr 1) (dr 2)) d (u9qi (r - 1)) 1) (va_up (u9tri (dr 0) (dr 1) (dr 2)) d (u9qi (r - 1)) 2)) ds da dz dt dc nb sz (upd rd p (u9qi (r - 1))) wd mc st ar := by
        have := u9SHR_rd (u9SHR_self h) hm hd hp (by rw [u9tri_f dn d hd, hD.1]) (r := r - 1) (by omega) (dr' := va_up (u9tri (dr 0) (dr 1) (dr 2)) d (u9qi (r - 1))) (rd' := upd rd p (u9qi (r - 1))) (by simp [va_up]) (fun e he hne => by simp [va_up, hne]) (by simp [upd]) (fun q _ hne => by simp [upd, hne])
        exact u9SHR_ext this (fun d _ => rfl) (fun d hd => u9tri_f _ d hd)
      by_cases hp0 : p = 0
      · subst hp0
        simp only [if_true, not_true, and_false, if_false]
        exact ⟨0, 1, _, _, _, _, _, _, 0, th, nb, sz, upd rd 0 (u9qi (r - 1)), wd, mc, st, ar, rfl, rfl, hkeep, Or.inl ⟨rfl, rfl, Or.inr rfl⟩⟩
      · simp only [hp0, if_false, not_false_eq_true, and_true]
        by_cases hr1 : r = 1
        · subst hr1
          simp only [if_true]
          have hsh : u9SHR made th dn (va_up dr d (u9qi 0)) ds da dz dt dc nb sz (upd rd p (u9qi 0)) wd mc st ar := u9SHR_rd h hm hd hp (by rw [hD.1]) (r := 0) (by omega) (by simp [va_up]) (fun e he hne => by simp [va_up, hne]) (by simp [upd]) (fun q _ hne => by simp [upd, hne])
          obtain ⟨nb', sz', rd', wd', mc', st', ar', ee, g1, g2⟩ := u9q_rel61 hsh a 0 hp (by omega)
          simp only [show 1 - 1 = 0 by omega, if_true, ee, Option.bind_some, u9q_m1 (show 1 ≤ th by omega)]
          refine ⟨0, 0, _, _, _, _, _, _, 0, th - 1, nb', sz', rd', wd', mc', st', ar', rfl, rfl, ?_, Or.inl ⟨rfl, rfl, Or.inl rfl⟩⟩
          refine u9SHR_go hsh hm hd hp (by omega) (by rw [hD.1]) ?_ (fun e he hne => ?_) g1 g2
          · rw [u9tri_f (va_up (u9tri (dn 0) (dn 1) (dn 2)) d 0) d hd]; simp [va_up]
          · rw [u9tri_f (va_up (u9tri (dn 0) (dn 1) (dn 2)) d 0) e he, u9tri_f (va_up (u9tri (dr 0) (dr 1) (dr 2)) d (u9qi 0)) e he]
            simp only [va_up, hne, if_false]
            exact ⟨u9tri_f dn e he, u9tri_f dr e he⟩
        · have hx : ¬ (r - 1 = 0) := by omega
          simp only [hr1, hx, if_false]
          exact ⟨0, 1, _, _, _, _, _, _, 0, th, nb, sz, upd rd p (u9qi (r - 1)), wd, mc, st, ar, rfl, rfl, hkeep, Or.inl ⟨rfl, rfl, Or.inr rfl⟩⟩
  · unfold f_S_release f_S_release_17 f_M_release f_M_release_20 f_M_release_25
    rw [e1, e2]
    have l1 : (-1 : Int32) < 0 := by decide
    simp only [Option.bind_some, l1, if_true, (u9q_throwing t).2.1, u9n10, if_false, show ¬ (3 = 0) by omega, show ¬ (3 = 1) by omega, show ¬ (3 = 2) by omega]
    exact ⟨1, 0, _, _, _, _, _, _, 1, th, nb, sz, rd, wd, mc, st, ar, rfl, rfl, u9SHR_self h, Or.inr ⟨rfl, rfl⟩⟩
