theorem u9q_int {b : Int32} (h : ¬ b < 0) : ∃ k, k < 2147483648 ∧ b = u9qi k := by
  rw [Int32.lt_iff_toInt_lt] at h
  have h0 : (0 : Int32).toInt = 0 := by decide
  have h1 : b.toInt < 2147483648 := by have := b.toInt_lt; simpa using this
  have hk : b.toNatClampNeg < 2147483648 := by unfold Int32.toNatClampNeg; omega
  refine ⟨b.toNatClampNeg, hk, ?_⟩
  apply Int32.toInt_inj.1
  rw [u9qi_toInt hk]
  unfold Int32.toNatClampNeg; omega
theorem u9PR_mono {n fs sc tm ft sd le q q'} (h : u9PR n fs sc tm ft sd le q) (hq : q ≤ q') : u9PR n fs sc tm ft sd le q' := by
  refine ⟨h.1, fun k hk => ?_⟩
  obtain ⟨a, b, c, d, e, v, h1, h2, h3⟩ := h.2 k hk
  exact ⟨a, b, c, d, e, v, h1, by omega, h3⟩
theorem u9PR_w {n fs sc tm ft sd le q} (h : u9PR n fs sc tm ft sd le q) : ∀ k, k < n → u9okW (ft k) = true ∧ u9okW (sd k) = true ∧ fs k = u9T (ft k) ∧ sc k = u9T (sd k) := by
  intro k hk
  obtain ⟨a, b, c, d, _⟩ := h.2 k hk
  exact ⟨a, b, c, d⟩
theorem u9qw_learn {n fs sc tm ft sd le q} (h : u9PR n fs sc tm ft sd le q) (hq : q < 100000) (a b : Int64) (th : Int32) :
    ∃ k ans n' fs' sc' tm' ft' sd' le' th', f_S_learn (u9qi n) fs sc tm a b = some (k, ans, u9qi n', fs', sc', tm') ∧ f_M_learn th (u9qi n) ft sd le a b = some (ans, th', u9qi n', ft', sd', le') ∧ u9PR n' fs' sc' tm' ft' sd' le' (q + 1) ∧ ((k = 0 ∧ th' = 0) ∨ (k = 1 ∧ th' = 1) ∨ (k = 2 ∧ th' = 2)) := by
  have hn := h.1
  have bad : f_M_learn_14 a b th (u9qi n) ft sd le = some (0, 1, u9qi n, ft, sd, le) := by
    unfold f_M_learn_14 f_M_learn_19
    rw [u9q_Mpix hn]
    simp only [Option.bind_some, u9n10, if_false, f_M_learn_48, f_M_learn_49, (u9q_throwing th).2.1]
  unfold f_S_learn f_M_learn
  rw [u9q_isW, u9q_isMW]
  simp only [Option.bind_some]
  by_cases ha : u9okW a = true
  · simp only [ha, if_true, u9n10, if_false]
    rw [u9q_isW, u9q_isMW]
    simp only [Option.bind_some]
    by_cases hb : u9okW b = true
    · simp only [hb, if_true, u9n10, if_false]
      rw [u9q_of, u9q_of]
      simp only [Option.bind_some]
      unfold f_Pairs_add f_M_learn_19
      rw [u9q_pix hn (u9PR_w h) ha hb, u9q_Mpix hn]
      simp only [Option.bind_some, if_true]
      have hle := u9pix_le (n := n) (ft := ft) (sd := sd) (a := a) (b := b) n 0 (by omega)
      have hat := u9pix_at (n := n) (ft := ft) (sd := sd) (a := a) (b := b) n 0 (by omega)
      generalize u9pix n ft sd a b n 0 = p at *
      by_cases hp : p < n
      · obtain ⟨w1, w2, t1, t2, t3, v, v1, v2, v3⟩ := h.2 p hp
        have o1 : okI (u9qi p) 40 = true := by rw [u9qi_ok _ (by omega)]; omega
        have e0 : (0 : Int32) ≤ u9qi p := by rw [u9qi_lit, u9qi_le (by omega) (by omega)]; omega
        have e1 : ¬ (u9qi p = 40) := by rw [u9qi_lit, u9qi_eq (by omega) (by omega)]; show ¬ (p = 40); omega
        have e2 : ¬ (u9qi p = u9qi n) := by rw [u9qi_eq (by omega) (by omega)]; omega
        have e3 : u9qi v + 1 = u9qi (v + 1) := by rw [u9qi_lit, u9qi_add]
        have e4 : ¬ (u9qi (v + 1) = 0) := by rw [u9qi_lit, u9qi_eq (by omega) (by omega)]; show ¬ (v + 1 = 0); omega
        simp only [hp, if_true, e0, f_Pairs_add_64, o1, u9qi_cl (show p < 2147483648 by omega), Option.bind_some, e1, if_false, f_M_learn_48, f_M_learn_49, (u9q_throwing th).1, e2, f_M_learn_100, t3, v3, e3, upd, e4]
        refine ⟨0, u9qi (v + 1), n, fs, sc, _, ft, sd, _, 0, rfl, rfl, ⟨hn, fun k hk => ?_⟩, Or.inl ⟨rfl, rfl⟩⟩
        obtain ⟨x1, x2, x3, x4, x5, x, y1, y2, y3⟩ := h.2 k hk
        refine ⟨x1, x2, x3, x4, ?_, ?_⟩
        · by_cases hkp : k = p
          · simp only [upd, hkp, if_true]
          · simp only [upd, hkp, if_false]; exact x5
        · by_cases hkp : k = p
          · exact ⟨v + 1, by omega, by omega, by simp only [upd, hkp, if_true]⟩
          · exact ⟨x, y1, by omega, by simp only [upd, hkp, if_false]; exact y3⟩
      · obtain rfl : p = n := by omega
        have em : ¬ ((0 : Int32) ≤ -1) := by decide
        have hp' : ¬ (p < p) := by omega
        simp only [hp', if_false, em]
        by_cases h40 : p < 40
        · have o1 : okI (u9qi p) 40 = true := by rw [u9qi_ok _ (by omega)]; omega
          have l1 : u9qi p < 40 := by rw [u9qi_lit, u9qi_lt (by omega) (by omega)]; exact h40
          have e1 : ¬ (u9qi p = 40) := by rw [u9qi_lit, u9qi_eq (by omega) (by omega)]; show ¬ (p = 40); omega
          have e3 : u9qi p + 1 = u9qi (p + 1) := by rw [u9qi_lit, u9qi_add]
          have e4 : ¬ (u9qi 1 = 0) := by decide
          have e5 : (0 : Int32) + 1 = u9qi 1 := by decide
          simp only [l1, if_true, f_Pairs_add_64, o1, u9qi_cl (show p < 2147483648 by omega), Option.bind_some, e1, if_false, f_M_learn_48, f_M_learn_49, (u9q_throwing th).1, f_M_learn_100, e3, upd, e4, e5]
          refine ⟨0, u9qi 1, p + 1, _, _, _, _, _, _, 0, rfl, rfl, ⟨by omega, fun k hk => ?_⟩, Or.inl ⟨rfl, rfl⟩⟩
          by_cases hkp : k = p
          · subst hkp
            simp only [vp_updL, upd, if_true]
            exact ⟨ha, hb, trivial, trivial, trivial, 1, by omega, by omega, rfl⟩
          · obtain ⟨x1, x2, x3, x4, x5, x, y1, y2, y3⟩ := h.2 k (by omega)
            simp only [vp_updL, upd, hkp, if_false]
            exact ⟨x1, x2, x3, x4, x5, x, y1, by omega, y3⟩
        · obtain rfl : p = 40 := by omega
          have l1 : ¬ (u9qi 40 < 40) := by decide
          have e1 : u9qi 40 = 40 := by decide
          simp only [l1, if_false, Option.bind_some, e1, if_true, f_M_learn_49, (u9q_throwing th).2.2.1, u9n10]
          exact ⟨2, 0, 40, fs, sc, tm, ft, sd, le, 2, rfl, rfl, u9PR_mono h (by omega), Or.inr (Or.inr ⟨rfl, rfl⟩)⟩
    · have hb' : u9okW b = false := by simpa using hb
      simp only [hb']
      rw [bad]
      exact ⟨1, 0, n, fs, sc, tm, ft, sd, le, 1, rfl, rfl, u9PR_mono h (by omega), Or.inr (Or.inl ⟨rfl, rfl⟩)⟩
  · have ha' : u9okW a = false := by simpa using ha
    simp only [ha']
    rw [bad]
    exact ⟨1, 0, n, fs, sc, tm, ft, sd, le, 1, rfl, rfl, u9PR_mono h (by omega), Or.inr (Or.inl ⟨rfl, rfl⟩)⟩
def u9sv (n : Nat) (ft sd : Nat → Int64) (le : Nat → Int32) (a b : Int64) : Nat := if u9pix n ft sd a b n 0 < n then 400 * min (le (u9pix n ft sd a b n 0)).toNatClampNeg 5 else 0
theorem u9sv_le {n ft sd le a b} : u9sv n ft sd le a b ≤ 2000 := by unfold u9sv; split <;> omega
theorem u9q_saving {n fs sc tm ft sd le q} (h : u9PR n fs sc tm ft sd le q) (hq : q < 100000) {a b : Int64} (ha : u9okW a = true) (hb : u9okW b = true) : f_Pairs_saving (u9qi n) fs sc tm (u9T a) (u9T b) = some (u9qi (u9sv n ft sd le a b)) := by
  have hn := h.1
  unfold f_Pairs_saving u9sv
  rw [u9q_pix hn (u9PR_w h) ha hb]
  simp only [Option.bind_some]
  have hle := u9pix_le (n := n) (ft := ft) (sd := sd) (a := a) (b := b) n 0 (by omega)
  generalize u9pix n ft sd a b n 0 = p at *
  by_cases hp : p < n
  · obtain ⟨w1, w2, t1, t2, t3, v, v1, v2, v3⟩ := h.2 p hp
    have o1 : okI (u9qi p) 40 = true := by rw [u9qi_ok _ (by omega)]; omega
    have e0 : (0 : Int32) ≤ u9qi p := by rw [u9qi_lit, u9qi_le (by omega) (by omega)]; omega
    have e5 : (if (5 : Int32) < u9qi v then (5 : Int32) else u9qi v) = u9qi (min v 5) := by
      rw [u9qi_lit, u9qi_min (by omega) (by omega), Nat.min_comm]
    simp only [hp, if_true, e0, o1, u9qi_cl (show p < 2147483648 by omega), t3, v3, u9qi_cl (show v < 2147483648 by omega), e5]
    rw [u9qi_lit, u9qi_mul]
  · have em : ¬ ((0 : Int32) ≤ -1) := by decide
    simp only [hp, if_false, em]; rfl
def u9PH (n : Nat) (sd ph : Nat → Int64) : Prop := n ≤ 4 ∧ ∀ k, k < n → u9okW (ph k) = true ∧ sd k = u9T (ph k)
def u9GR (n : Nat) (st gv : Nat → Int64) : Prop := n ≤ 24 ∧ ∀ k, k < n → u9okW (gv k) = true ∧ st k = u9T (gv k)
theorem u9qw_say {n sd ph} (h : u9PH n sd ph) (a : Int64) (th : Int32) :
    ∃ k ans n' sd' ph' th', f_S_say (u9qi n) sd a = some (k, ans, u9qi n', sd') ∧ f_M_say th (u9qi n) ph a = some (ans, th', u9qi n', ph') ∧ u9PH n' sd' ph' ∧ ((k = 0 ∧ th' = 0) ∨ (k = 1 ∧ th' = 1) ∨ (k = 2 ∧ th' = 2)) := by
  have hn := h.1
  unfold f_S_say f_M_say
  rw [u9q_isW, u9q_isMW]
  simp only [Option.bind_some]
  by_cases ha : u9okW a = true
  · simp only [ha, if_true, u9n10, if_false]
    rw [u9q_of]
    simp only [Option.bind_some]
    unfold f_Phrase_add f_M_say_12 f_M_say_31 f_M_say_32
    by_cases h4 : n < 4
    · have o1 : okI (u9qi n) 4 = true := by rw [u9qi_ok _ (by omega)]; omega
      have l1 : u9qi n < 4 := by rw [u9qi_lit, u9qi_lt (by omega) (by omega)]; exact h4
      have e1 : ¬ (u9qi n = 4) := by rw [u9qi_lit, u9qi_eq (by omega) (by omega)]; show ¬ (n = 4); omega
      have e3 : u9qi n + 1 = u9qi (n + 1) := by rw [u9qi_lit, u9qi_add]
      simp only [l1, o1, if_true, u9qi_cl (show n < 2147483648 by omega), Option.bind_some, u9n10, if_false, e1, (u9q_throwing th).1, e3, f_Phrase_size]
      refine ⟨0, u9qi (n + 1), n + 1, _, _, 0, rfl, rfl, ⟨by omega, fun k hk => ?_⟩, Or.inl ⟨rfl, rfl⟩⟩
      by_cases hkn : k = n
      · subst hkn; simp only [vp_updL, if_true]; exact ⟨ha, trivial⟩
      · simp only [vp_updL, hkn, if_false]; exact h.2 k (by omega)
    · obtain rfl : n = 4 := by omega
      have l1 : ¬ (u9qi 4 < 4) := by decide
      have e1 : u9qi 4 = 4 := by decide
      simp only [l1, if_false, Option.bind_some, if_true, e1, (u9q_throwing th).2.2.1, u9n10]
      exact ⟨2, 0, 4, sd, ph, 2, rfl, rfl, h, Or.inr (Or.inr ⟨rfl, rfl⟩)⟩
  · have ha' : u9okW a = false := by simpa using ha
    simp only [ha']
    unfold f_M_say_12 f_M_say_31 f_M_say_32
    refine ⟨1, 0, n, sd, ph, 1, by simp, ?_, h, Or.inr (Or.inl ⟨rfl, rfl⟩)⟩
    simp [u9n10, (u9q_throwing th).2.1]
theorem u9qw_given {n st gv} (h : u9GR n st gv) (a : Int32) (th : Int32) :
    ∃ k ans th', f_S_given (u9qi n) st a = some (k, ans) ∧ f_M_given th (u9qi n) gv a = some (ans, th') ∧ ((k = 0 ∧ th' = 0) ∨ (k = 4 ∧ th' = 1)) := by
  have hn := h.1
  unfold f_S_given f_M_given f_S_given_15 f_M_given_13 f_M_given_18
  by_cases h0 : a < 0
  · simp only [h0, if_true, (u9q_throwing th).2.1, Option.bind_some, u9n10, if_false]
    exact ⟨4, 0, 1, rfl, rfl, Or.inr ⟨rfl, rfl⟩⟩
  · obtain ⟨k, hk, rfl⟩ := u9q_int h0
    simp only [h0, if_false, f_Suggestions_size, Option.bind_some, u9qi_lt hk (show n < 2147483648 by omega)]
    by_cases hkn : k < n
    · have o1 : okI (u9qi k) 24 = true := by rw [u9qi_ok _ (by omega)]; omega
      simp only [hkn, if_true, f_Suggestions_textAt, o1, u9qi_cl hk, Option.bind_some, (u9q_throwing th).1, (h.2 k hkn).2, u9q_to (u9okW_B (h.2 k hkn).1)]
      exact ⟨0, gv k, 0, rfl, rfl, Or.inl ⟨rfl, rfl⟩⟩
    · simp only [hkn, if_false, (u9q_throwing th).2.1, Option.bind_some, u9n10]
      exact ⟨4, 0, 1, rfl, rfl, Or.inr ⟨rfl, rfl⟩⟩
theorem u9qw_corrected {n st gv} (h : u9PH n st gv) (a : Int32) (th : Int32) :
    ∃ k ans th', f_S_corrected (u9qi n) st a = some (k, ans) ∧ f_M_corrected th (u9qi n) gv a = some (ans, th') ∧ ((k = 0 ∧ th' = 0) ∨ (k = 4 ∧ th' = 1)) := by
  have hn := h.1
  unfold f_S_corrected f_M_corrected f_S_corrected_15 f_M_corrected_13 f_M_corrected_18
  by_cases h0 : a < 0
  · simp only [h0, if_true, (u9q_throwing th).2.1, Option.bind_some, u9n10, if_false]
    exact ⟨4, 0, 1, rfl, rfl, Or.inr ⟨rfl, rfl⟩⟩
  · obtain ⟨k, hk, rfl⟩ := u9q_int h0
    simp only [h0, if_false, f_Phrase_chosenSize, Option.bind_some, u9qi_lt hk (show n < 2147483648 by omega)]
    by_cases hkn : k < n
    · have o1 : okI (u9qi k) 4 = true := by rw [u9qi_ok _ (by omega)]; omega
      simp only [hkn, if_true, f_Phrase_chosenAt, o1, u9qi_cl hk, Option.bind_some, (u9q_throwing th).1, (h.2 k hkn).2, u9q_to (u9okW_B (h.2 k hkn).1)]
      exact ⟨0, gv k, 0, rfl, rfl, Or.inl ⟨rfl, rfl⟩⟩
    · simp only [hkn, if_false, (u9q_throwing th).2.1, Option.bind_some, u9n10]
      exact ⟨4, 0, 1, rfl, rfl, Or.inr ⟨rfl, rfl⟩⟩
theorem u9qw_distance {L : Nat → Nat → Int32} (h : u9Bd L) (Tb : Nat → Int32) (a b : Int64) (th : Int32) :
    ∃ k ans L' Tb' th', f_S_distance L a b = some (k, ans, L') ∧ f_M_distance th Tb a b = some (ans, th', Tb') ∧ u9Bd L' ∧ ((k = 0 ∧ th' = 0) ∨ (k = 1 ∧ th' = 1)) := by
  unfold f_S_distance f_M_distance f_S_distance_14 f_M_distance_15 f_M_distance_20
  rw [u9q_isW, u9q_isMW]
  simp only [Option.bind_some]
  by_cases ha : u9okW a = true
  · simp only [ha, if_true, u9n10, if_false]
    rw [u9q_isW, u9q_isMW]
    simp only [Option.bind_some]
    by_cases hb : u9okW b = true
    · simp only [hb, if_true, u9n10, if_false]
      rw [u9q_of, u9q_of]
      obtain ⟨L', e1, hL'⟩ := u9q_btw (u9okW_B ha) (u9okW_B hb) h
      obtain ⟨Tb', e2⟩ := u9q_Mdist Tb a b
      simp only [Option.bind_some, e1, (u9q_throwing th).1, if_true, e2]
      exact ⟨0, _, L', Tb', 0, rfl, rfl, hL', Or.inl ⟨rfl, rfl⟩⟩
    · have hb' : u9okW b = false := by simpa using hb
      refine ⟨1, 0, L, Tb, 1, by simp [hb'], by simp [hb', (u9q_throwing th).2.1], h, Or.inr ⟨rfl, rfl⟩⟩
  · have ha' : u9okW a = false := by simpa using ha
    refine ⟨1, 0, L, Tb, 1, by simp [ha'], by simp [ha', (u9q_throwing th).2.1], h, Or.inr ⟨rfl, rfl⟩⟩
