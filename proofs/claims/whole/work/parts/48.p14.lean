theorem u9q_move_k {a b : Nat} (ha : a < 3) (hb : b < 3) (hab : a ≠ b) (n1 n2 n3 n4 n5 : Nat → Int32) (wd0 : Nat → Int64) (mc0 : Nat → Int32) : ∀ r k (wd : Nat → Int64) (mc : Nat → Int32), k + r = 24 → (∀ i, i < k → wd (24 * b + i) = wd0 (24 * a + i) ∧ mc (24 * b + i) = mc0 (24 * a + i)) → (∀ j, (j < 24 * b ∨ 24 * b + k ≤ j) → wd j = wd0 j ∧ mc j = mc0 j) → ∀ fu, r < fu → ∃ wd' mc', f_M_move_62 (u9qi a) (u9qi b) n1 n2 n3 n4 n5 fu wd mc (u9qi k) = some (wd', mc') ∧ (∀ i, i < 24 → wd' (24 * b + i) = wd0 (24 * a + i) ∧ mc' (24 * b + i) = mc0 (24 * a + i)) ∧ (∀ j, (j < 24 * b ∨ 24 * b + 24 ≤ j) → wd' j = wd0 j ∧ mc' j = mc0 j) := by
  intro r
  induction r with
  | zero =>
    intro k wd mc hk h1 h2 fu hf
    obtain ⟨fu, rfl⟩ : ∃ m, fu = m + 1 := ⟨fu - 1, by omega⟩
    obtain rfl : k = 24 := by omega
    refine ⟨wd, mc, ?_, h1, h2⟩
    simp only [f_M_move_62, f_M_move_62b]
    rw [if_pos (by decide)]
  | succ r ih =>
    intro k wd mc hk h1 h2 fu hf
    obtain ⟨fu, rfl⟩ : ∃ m, fu = m + 1 := ⟨fu - 1, by omega⟩
    have x1 : (24 : Int32) * u9qi a + u9qi k = u9qi (24 * a + k) := by rw [u9qi_lit, u9qi_mul, u9qi_add]
    have x2 : (24 : Int32) * u9qi b + u9qi k = u9qi (24 * b + k) := by rw [u9qi_lit, u9qi_mul, u9qi_add]
    have o1 : okI (u9qi (24 * a + k)) 72 = true := by rw [u9qi_ok _ (by omega)]; omega
    have o2 : okI (u9qi (24 * b + k)) 72 = true := by rw [u9qi_ok _ (by omega)]; omega
    have hn : ¬ ((24 : Int32) ≤ u9qi k) := by rw [u9qi_lit, u9qi_le (by omega) (by omega)]; show ¬ (24 ≤ k); omega
    simp only [f_M_move_62, f_M_move_62b]
    simp only [hn, if_false, x1, x2, o1, o2, if_true, u9qi_cl (show 24 * a + k < 2147483648 by omega), u9qi_cl (show 24 * b + k < 2147483648 by omega), u9q_p1]
    refine ih (k + 1) _ _ (by omega) (fun i hi => ?_) (fun j hj => ?_) fu (by omega)
    · simp only [vp_updL, upd]
      by_cases hik : i = k
      · subst hik
        rw [if_pos rfl, if_pos rfl]
        exact h2 (24 * a + i) (by omega)
      · rw [if_neg (by omega), if_neg (by omega)]; exact h1 i (by omega)
    · simp only [vp_updL, upd]
      rw [if_neg (by omega), if_neg (by omega)]; exact h2 j (by omega)
theorem u9q_move {a b : Nat} (ha : a < 3) (hb : b < 3) (hab : a ≠ b) (nb sz rd : Nat → Int32) (wd : Nat → Int64) (mc st ar : Nat → Int32) : ∃ wd' mc', f_M_move nb sz rd wd mc st ar (u9qi a) (u9qi b) = some (upd nb b (nb a), upd sz b (sz a), upd rd b (rd a), wd', mc', upd st b (st a), upd ar b (ar a)) ∧ (∀ i, i < 24 → wd' (24 * b + i) = wd (24 * a + i) ∧ mc' (24 * b + i) = mc (24 * a + i)) ∧ (∀ j, (j < 24 * b ∨ 24 * b + 24 ≤ j) → wd' j = wd j ∧ mc' j = mc j) := by
  obtain ⟨wd', mc', e, g1, g2⟩ := u9q_move_k ha hb hab (upd nb b (nb a)) (upd sz b (sz a)) (upd rd b (rd a)) (upd st b (st a)) (upd ar b (ar a)) wd mc 24 0 wd mc (by omega) (fun i hi => absurd hi (by omega)) (fun j _ => ⟨rfl, rfl⟩) FU (by decide)
  refine ⟨wd', mc', ?_, g1, g2⟩
  have o1 : okI (u9qi a) 3 = true := by rw [u9qi_ok _ (by omega)]; omega
  have o2 : okI (u9qi b) 3 = true := by rw [u9qi_ok _ (by omega)]; omega
  unfold f_M_move
  simp only [o1, o2, if_true, u9qi_cl (show a < 2147483648 by omega), u9qi_cl (show b < 2147483648 by omega)]
  rw [show (0 : Int32) = u9qi 0 from rfl, e]
  rfl
theorem u9DD_congr {dn dr ds da dz : Int32} {dt : Nat → Int64} {dc : Nat → Int32} {nb sz rd st ar : Int32} {ws ws' : Nat → Int64} {mc mc' : Nat → Int32} (h : u9DD dn dr ds da dz dt dc nb sz rd st ar ws mc) (hw : ∀ i, i < 24 → ws' i = ws i ∧ mc' i = mc i) : u9DD dn dr ds da dz dt dc nb sz rd st ar ws' mc' := by
  obtain ⟨h1, h2, h3, n, h4, h5, h6, h7⟩ := h
  refine ⟨h1, h2, h3, n, h4, h5, ⟨h6.1, h6.2.1, fun i hi => ?_⟩, h7⟩
  have hn := h6.1
  rw [(hw i (by omega)).1, (hw i (by omega)).2]; exact h6.2.2 i hi
theorem u9DD_rd {dn dr ds da dz : Int32} {dt : Nat → Int64} {dc : Nat → Int32} {nb sz rd st ar : Int32} {ws : Nat → Int64} {mc : Nat → Int32} (h : u9DD dn dr ds da dz dt dc nb sz rd st ar ws mc) {r : Nat} (hr : r ≤ 9) : u9DD dn (u9qi r) ds da dz dt dc nb sz (u9qi r) st ar ws mc := by
  obtain ⟨h1, h2, h3, h4⟩ := h
  exact ⟨h1, rfl, ⟨r, hr, rfl⟩, h4⟩
theorem u9SHR_rd {made th dn dr ds da dz dt dc nb sz rd wd mc st ar} (h : u9SHR made th dn dr ds da dz dt dc nb sz rd wd mc st ar) (hm : made < 100000) {d p r : Nat} (hd : d < 3) (hp : p < th) (hdp : dn d = nb p) (hr : r ≤ 9) {dr' rd' : Nat → Int32} (e1 : dr' d = u9qi r) (e2 : ∀ e, e < 3 → e ≠ d → dr' e = dr e) (e3 : rd' p = u9qi r) (e4 : ∀ q, q < 3 → q ≠ p → rd' q = rd q) : u9SHR made th dn dr' ds da dz dt dc nb sz rd' wd mc st ar := by
  obtain ⟨h1, h2, h3, h4, h5, h6, h7, h8⟩ := h
  refine ⟨h1, h2, h3, h4, h5, fun e he => ?_, h7, h8⟩
  have hne : ∀ p', p' < th → dn d ≠ 0 := by
    intro p' _
    obtain ⟨k, ek, k1, k2⟩ := h4 p hp
    rw [hdp, ek, u9qi_lit]; intro hc
    rw [u9qi_eq (by omega) (by omega)] at hc
    have : k = 0 := hc
    omega
  rcases h6 e he with hz | ⟨p', hp', hD⟩
  · exact Or.inl hz
  · right
    by_cases hed : e = d
    · subst hed
      have : p' = p := by
        rcases Nat.lt_trichotomy p' p with hh | hh | hh
        · exact absurd (by rw [← hD.1, hdp]) (h5 p' p hh hp)
        · exact hh
        · exact absurd (by rw [← hD.1, hdp]) (h5 p p' hh hp')
      subst this
      exact ⟨p', hp', by rw [e1, e3]; exact u9DD_rd hD hr⟩
    · have : p' ≠ p := by
        intro hc; subst hc
        exact h8 d e hd he (Ne.symm hed) (hne p' hp) (by rw [hdp, hD.1])
      exact ⟨p', hp', by rw [e2 e he hed, e4 p' (by omega) this]; exact hD⟩
theorem u9q_cur {made th dn dr ds da dz dt dc nb sz rd wd mc st ar} (h : u9SHR made th dn dr ds da dz dt dc nb sz rd wd mc st ar) (hm : made < 100000) :
    (0 < th ∧ ∃ d, d < 3 ∧ f_S_find (dn 0) (dn 1) (dn 2) (u9qi made) = some d ∧ dn d = u9qi made ∧ nb 0 = u9qi made ∧ u9DD (dn d) (dr d) (ds d) (da d) (dz d) (dt d) (dc d) (nb 0) (sz 0) (rd 0) (st 0) (ar 0) (fun i => wd (24 * 0 + i)) (fun i => mc (24 * 0 + i))) ∨ (th = 0 ∧ f_S_find (dn 0) (dn 1) (dn 2) (u9qi made) = some 3) := by
  rcases u9q_find h hm (u9qi made) with ⟨d, p, hd, hp, e1, e2, e3, e4, hD⟩ | ⟨e1, e2, hn⟩
  · left
    have h0 := h.2.2.1 (by omega)
    have : p = 0 := by
      by_cases hp0 : p = 0
      · exact hp0
      · exact absurd (by rw [h0, e4]) (h.2.2.2.2.1 0 p (by omega) hp)
    subst this
    exact ⟨hp, d, hd, e1, e3, h0, hD⟩
  · right
    by_cases h0 : th = 0
    · exact ⟨h0, e1⟩
    · exact absurd (h.2.2.1 (by omega)) (hn 0 (by omega))
theorem u9qw_hold {made th dn dr ds da dz dt dc nb sz rd wd mc st ar} (h : u9SHR made th dn dr ds da dz dt dc nb sz rd wd mc st ar) (hm : made < 100000) (t : Int32) :
    ∃ k ans r0 r1 r2 t' rd', f_S_hold (u9qi made) (dn 0) (dr 0) (dn 1) (dr 1) (dn 2) (dr 2) = some (k, ans, r0, r1, r2) ∧ f_M_hold t (u9qi th) nb rd = some (ans, t', rd') ∧ u9SHR made th dn (u9tri r0 r1 r2) ds da dz dt dc nb sz rd' wd mc st ar ∧ ((k = 0 ∧ t' = 0) ∨ (k = 2 ∧ t' = 1)) := by
  have hth := h.1
  have hself : u9SHR made th dn (u9tri (dr 0) (dr 1) (dr 2)) ds da dz dt dc nb sz rd wd mc st ar := by
    obtain ⟨h1, h2, h3, h4, h5, h6, h7, h8⟩ := h
    refine ⟨h1, h2, h3, h4, h5, fun e he => ?_, h7, h8⟩
    rw [u9tri_f dr e he]; exact h6 e he
  unfold f_S_hold f_M_hold f_M_hold_19 f_M_hold_24
  rcases u9q_cur h hm with ⟨hpos, d, hd, e1, e3, h0, hD⟩ | ⟨h0, e1⟩
  · rw [e1]
    obtain ⟨r, hr, er⟩ := hD.2.2.1
    have edr : dr d = u9qi r := by rw [hD.2.1, er]
    have t0 : ¬ (u9qi th = 0) := by rw [u9qi_lit, u9qi_eq (by omega) (by omega)]; show ¬ (th = 0); omega
    have z0 : (0 : Int32).toNatClampNeg = 0 := by decide
    simp only [Option.bind_some, t0, if_false, z0, er]
    by_cases h9 : r = 9
    · subst h9
      have n9 : ¬ (u9qi 9 < 9) := by decide
      have u9e9 : u9qi 9 = 9 := by decide
      refine ⟨2, 0, dr 0, dr 1, dr 2, 1, rd, ?_, ?_, hself, Or.inr ⟨rfl, rfl⟩⟩
      · rcases u9d3 hd with rfl | rfl | rfl <;> simp only [f_Dictionary_readers, Option.bind_some, edr, n9, if_false, if_true] <;> simp
      · simp only [u9e9, if_true, (u9q_throwing t).2.1, Option.bind_some, u9n10, if_false]
    · have l9 : u9qi r < 9 := by rw [u9qi_lit, u9qi_lt (by omega) (by omega)]; show r < 9; omega
      have u9e9 : ¬ (u9qi r = 9) := by rw [u9qi_lit, u9qi_eq (by omega) (by omega)]; exact h9
      have hnew : ∀ dr' : Nat → Int32, dr' d = u9qi (r + 1) → (∀ e, e < 3 → e ≠ d → dr' e = dr e) → u9SHR made th dn dr' ds da dz dt dc nb sz (upd rd 0 (u9qi (r + 1))) wd mc st ar := by
        intro dr' a1 a2
        refine u9SHR_rd h hm hd hpos (by rw [e3, h0]) (r := r + 1) (by omega) a1 a2 (by simp [upd]) (fun q _ hq => by simp [upd, hq])
      have hM : (if u9qi r = 9 then (f_M_throwing t 1 0).bind fun o25 => if o25.fst = 0 then some (nb 0, o25.snd, upd rd 0 (u9qi r + 1)) else some (0, o25.snd, rd) else (f_M_throwing t 0 0).bind fun o25 => if o25.fst = 0 then some (nb 0, o25.snd, upd rd 0 (u9qi r + 1)) else some (0, o25.snd, rd)) = some (u9qi made, 0, upd rd 0 (u9qi (r + 1))) := by
        simp only [u9e9, if_false, (u9q_throwing t).1, Option.bind_some, if_true, u9q_p1, h0]
      rcases u9d3 hd with rfl | rfl | rfl
      · refine ⟨0, u9qi made, u9qi (r + 1), dr 1, dr 2, 0, upd rd 0 (u9qi (r + 1)), ?_, hM, hnew _ rfl (fun e he hne => ?_), Or.inl ⟨rfl, rfl⟩⟩
        · simp only [f_Dictionary_readers, f_Dictionary_addReader, Option.bind_some, edr, l9, if_true, u9q_p1]
        · rcases u9d3 he with rfl | rfl | rfl
          · exact absurd rfl hne
          · rfl
          · rfl
      · refine ⟨0, u9qi made, dr 0, u9qi (r + 1), dr 2, 0, upd rd 0 (u9qi (r + 1)), ?_, hM, hnew _ rfl (fun e he hne => ?_), Or.inl ⟨rfl, rfl⟩⟩
        · simp only [f_Dictionary_readers, f_Dictionary_addReader, Option.bind_some, edr, l9, if_true, u9q_p1]; rfl
        · rcases u9d3 he with rfl | rfl | rfl
          · rfl
          · exact absurd rfl hne
          · rfl
      · refine ⟨0, u9qi made, dr 0, dr 1, u9qi (r + 1), 0, upd rd 0 (u9qi (r + 1)), ?_, hM, hnew _ rfl (fun e he hne => ?_), Or.inl ⟨rfl, rfl⟩⟩
        · simp only [f_Dictionary_readers, f_Dictionary_addReader, Option.bind_some, edr, l9, if_true, u9q_p1]; rfl
        · rcases u9d3 he with rfl | rfl | rfl
          · rfl
          · rfl
          · exact absurd rfl hne
  · rw [e1]
    have t0 : u9qi th = 0 := by rw [h0]; rfl
    refine ⟨2, 0, dr 0, dr 1, dr 2, 1, rd, by simp, ?_, hself, Or.inr ⟨rfl, rfl⟩⟩
    simp only [t0, if_true, (u9q_throwing t).2.1, Option.bind_some, u9n10, if_false]
