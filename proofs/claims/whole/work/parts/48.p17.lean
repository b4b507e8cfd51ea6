theorem u9q_Mcost_k {n p : Nat} (hn : n ≤ 24) (hp : p < 3) {nb sz : Nat → Int32} (hsz : sz p = u9qi n) (th a t : Int32) (wd : Nat → Int64) (mc : Nat → Int32) (w : Int64) :
    ∀ r k (l : Int32), k + r = n → ((∃ i, i < k ∧ wd (24 * p + i) = w ∧ l = mc (24 * p + i)) ∨ ((∀ i, i < k → wd (24 * p + i) ≠ w) ∧ l = -1)) → ∀ fu, r < fu → ((∃ i, i < n ∧ wd (24 * p + i) = w ∧ f_M_cost_13 th nb sz wd mc a w t (u9qi p) fu l (u9qi k) = some (mc (24 * p + i))) ∨ ((∀ i, i < n → wd (24 * p + i) ≠ w) ∧ f_M_cost_13 th nb sz wd mc a w t (u9qi p) fu l (u9qi k) = some (-1))) := by
  intro r
  have o3 : okI (u9qi p) 3 = true := by rw [u9qi_ok _ (by omega)]; omega
  have cp : (u9qi p).toNatClampNeg = p := u9qi_cl (by omega)
  have lp : ¬ (u9qi p < 0) := by rw [u9qi_lit, u9qi_lt (by omega) (by omega)]; omega
  induction r with
  | zero =>
    intro k l hk hl fu hf
    obtain ⟨fu, rfl⟩ : ∃ m, fu = m + 1 := ⟨fu - 1, by omega⟩
    obtain rfl : k = n := by omega
    have l1 : u9qi k ≤ u9qi k := u9i32_refl _
    have e : f_M_cost_13 th nb sz wd mc a w t (u9qi p) (fu + 1) l (u9qi k) = some l := by
      simp only [f_M_cost_13, f_M_cost_13b, lp, if_false, o3, if_true, cp, hsz, l1]
    rw [e]
    rcases hl with ⟨i, h1, h2, h3⟩ | ⟨h1, h2⟩
    · exact Or.inl ⟨i, h1, h2, by rw [h3]⟩
    · exact Or.inr ⟨h1, by rw [h2]⟩
  | succ r ih =>
    intro k l hk hl fu hf
    obtain ⟨fu, rfl⟩ : ∃ m, fu = m + 1 := ⟨fu - 1, by omega⟩
    have l1 : ¬ (u9qi n ≤ u9qi k) := by rw [u9qi_le (by omega) (by omega)]; omega
    have x1 : (24 : Int32) * u9qi p + u9qi k = u9qi (24 * p + k) := by rw [u9qi_lit, u9qi_mul, u9qi_add]
    have o1 : okI (u9qi (24 * p + k)) 72 = true := by rw [u9qi_ok _ (by omega)]; omega
    have c1 : (u9qi (24 * p + k)).toNatClampNeg = 24 * p + k := u9qi_cl (by omega)
    simp only [f_M_cost_13, f_M_cost_13b, f_M_cost_66, lp, if_false, o3, if_true, cp, hsz, l1, x1, o1, c1, u9q_p1]
    by_cases hc : wd (24 * p + k) = w
    · simp only [hc, if_true]
      exact ih (k + 1) _ (by omega) (Or.inl ⟨k, by omega, hc, rfl⟩) fu (by omega)
    · simp only [hc, if_false]
      refine ih (k + 1) l (by omega) ?_ fu (by omega)
      rcases hl with ⟨i, h1, h2, h3⟩ | ⟨h1, h2⟩
      · exact Or.inl ⟨i, by omega, h2, h3⟩
      · refine Or.inr ⟨fun i hi => ?_, h2⟩
        by_cases hik : i < k
        · exact h1 i hik
        · obtain rfl : i = k := by omega
          exact hc
theorem u9d01 : ¬ (1 = 0) := by omega
theorem u9d02 : ¬ (2 = 0) := by omega
theorem u9d12 : ¬ (2 = 1) := by omega
theorem u9d30 : ¬ (3 = 0) := by omega
theorem u9d31 : ¬ (3 = 1) := by omega
theorem u9d32 : ¬ (3 = 2) := by omega
theorem u9q_Scost {n0 z0 n1 z1 n2 z2 : Int32} {t0 t1 t2 : Nat → Int64} {c0 c1 c2 : Nat → Int32} {a : Int32} {d : Nat} (hd : d < 3) (hf : f_S_find n0 n1 n2 a = some d) (w : Int64) :
    f_S_cost n0 z0 t0 c0 n1 z1 t1 c1 n2 z2 t2 c2 a w = (if u9okW w = true then f_WordList_indexOf (u9tri z0 z1 z2 d) (u9tri t0 t1 t2 d) (u9T w) else some (-1)).bind (fun s => if 0 ≤ s then (f_WordList_costAt (u9tri c0 c1 c2 d) s).bind (fun o => some (0, o)) else some (3, 0)) := by
  unfold f_S_cost f_S_cost_45 f_S_cost_45_1 f_S_cost_45_2 f_Dictionary_words
  rw [hf, u9q_isW, u9q_of]
  by_cases hw : u9okW w = true
  · rcases u9d3 hd with rfl | rfl | rfl <;> simp only [Option.bind_some, hw, if_true, if_false, u9n10, u9d01, u9d02, u9d12, u9tri]
  · rcases u9d3 hd with rfl | rfl | rfl <;> simp only [Option.bind_some, hw, if_true, if_false, u9d01, u9d02, u9d12, u9tri] <;> rfl
theorem u9qw_cost {made th dn dr ds da dz dt dc nb sz rd wd mc st ar} (h : u9SHR made th dn dr ds da dz dt dc nb sz rd wd mc st ar) (hm : made < 100000) (a : Int32) (w : Int64) (t : Int32) :
    ∃ k ans t', f_S_cost (dn 0) (dz 0) (dt 0) (dc 0) (dn 1) (dz 1) (dt 1) (dc 1) (dn 2) (dz 2) (dt 2) (dc 2) a w = some (k, ans) ∧ f_M_cost t (u9qi th) nb sz wd mc a w = some (ans, t') ∧ ((k = 0 ∧ t' = 0) ∨ (k = 3 ∧ t' = 1)) := by
  have hth := h.1
  rcases u9q_find h hm a with ⟨d, p, hd, hp, e1, e2, e3, e4, hD⟩ | ⟨e1, e2, hn⟩
  · obtain ⟨_, _, _, n, hz, hsz, ⟨hn, hS, hw⟩, _⟩ := hD
    rw [u9q_Scost hd e1, u9tri_f dz d hd, u9tri_f dt d hd, u9tri_f dc d hd, hz]
    unfold f_M_cost f_M_cost_74 f_M_cost_85
    rw [e2]
    simp only [Option.bind_some]
    have hk := u9q_Mcost_k hn (show p < 3 by omega) (nb := nb) (sz := sz) hsz (u9qi th) a t wd mc w n 0 (-1) (by omega) (Or.inr ⟨fun i hi => absurd hi (by omega), rfl⟩) FU (by unfold FU; omega)
    rw [show (u9qi 0 : Int32) = 0 from rfl] at hk
    have em : ¬ ((0 : Int32) ≤ -1) := by decide
    have hmiss : (∀ i, i < n → wd (24 * p + i) ≠ w) → f_M_cost_13 (u9qi th) nb sz wd mc a w t (u9qi p) FU (-1) 0 = some (-1) := by
      intro hno
      rcases hk with ⟨i, hi, hc, _⟩ | ⟨_, he⟩
      · exact absurd hc (hno i hi)
      · exact he
    by_cases hwk : u9okW w = true
    · simp only [hwk, if_true]
      rcases u9q_indexOf hn hS (u9T w) with ⟨i, hi, he, hx⟩ | ⟨hno, hx⟩
      · obtain ⟨w1, w2, w3, c, c9, w4⟩ := hw i hi
        have hwi : wd (24 * p + i) = w := by
          rw [w2] at he; exact (u9T_inj (u9okW_B w1) (u9okW_B hwk)).mp he
        rcases hk with ⟨j, hj, hc, hje⟩ | ⟨hno, _⟩
        · obtain ⟨v1, v2, v3, c', c9', v4⟩ := hw j hj
          have : j = i := u9Srt_inj hS hj hi (by rw [v2, w2]; simp only [hc, hwi])
          subst this
          have o2 : okI (u9qi j) 24 = true := by rw [u9qi_ok _ (by omega)]; omega
          have l0 : (0 : Int32) ≤ u9qi j := by rw [u9qi_lit, u9qi_le (by omega) (by omega)]; omega
          have l1 : (0 : Int32) ≤ mc (24 * p + j) := by
            have : dc d j = mc (24 * p + j) := w3
            rw [← this, w4, u9qi_lit, u9qi_le (by omega) (by omega)]; omega
          rw [hx, hje]
          simp only [Option.bind_some, l0, if_true, f_WordList_costAt, o2, u9qi_cl (show j < 2147483648 by omega), l1, (u9q_throwing t).1]
          exact ⟨0, dc d j, 0, rfl, by rw [w3], Or.inl ⟨rfl, rfl⟩⟩
        · exact absurd hwi (hno i hi)
      · rw [hx, hmiss (fun i hi hc => by
          obtain ⟨w1, w2, _⟩ := hw i hi
          exact hno i hi (by rw [w2]; simp only [hc]))]
        simp only [Option.bind_some, em, if_false, (u9q_throwing t).2.1, u9n10]
        exact ⟨3, 0, 1, rfl, rfl, Or.inr ⟨rfl, rfl⟩⟩
    · rw [hmiss (fun i hi hc => by
          obtain ⟨w1, w2, _⟩ := hw i hi
          exact hwk (by rw [← hc]; exact w1))]
      simp only [hwk, Option.bind_some, em, if_false, (u9q_throwing t).2.1, u9n10]
      exact ⟨3, 0, 1, rfl, rfl, Or.inr ⟨rfl, rfl⟩⟩
  · unfold f_S_cost f_M_cost f_M_cost_74 f_M_cost_85
    rw [e1, e2]
    have em : ¬ ((0 : Int32) ≤ -1) := by decide
    have em2 : (-1 : Int32) < 0 := by decide
    have e3 : f_M_cost_13 (u9qi th) nb sz wd mc a w t (-1) FU (-1) 0 = some (-1) := by
      show f_M_cost_13b (u9qi th) nb sz wd mc a w t (-1) _ (-1) 0 = _
      unfold f_M_cost_13b
      rw [if_pos em2]
    simp only [Option.bind_some, u9d30, u9d31, u9d32, if_false, e3, em, (u9q_throwing t).2.1, u9n10]
    exact ⟨3, 0, 1, rfl, rfl, Or.inr ⟨rfl, rfl⟩⟩
theorem u9q_start (s m : Int32) {M : Nat} (hM : M ≤ 24) : f_Suggestions_startAnew s m (u9qi M) = some (0, u9qi M) := by
  unfold f_Suggestions_startAnew
  rw [if_neg (by rw [u9qi_lit, u9qi_lt (by omega) (by omega)]; show ¬ (24 < M); omega)]
theorem u9GS0 (M : Nat) (u9tx rk gv ky) : u9GS M 0 0 u9tx rk gv ky := ⟨by omega, fun i j h1 h2 => absurd h2 (by omega), fun k hk => absurd hk (by omega), fun k hk => absurd hk (by omega)⟩
theorem u9GR0 (u9tx gv) : u9GR 0 u9tx gv := ⟨by omega, fun k hk => absurd hk (by omega)⟩
theorem u9q_Scomp {n0 z0 n1 z1 n2 z2 : Int32} {t0 t1 t2 : Nat → Int64} {c0 c1 c2 : Nat → Int32} {a : Int32} {d : Nat} (hd : d < 3) (hf : f_S_find n0 n1 n2 a = some d) (s mo : Int32) (u9tx : Nat → Int64) (rk : Nat → Int32) {w : Int64} (hw : u9okB (u9un w) = true) {M : Nat} (hM : M ≤ 24) :
    f_S_complete n0 z0 t0 c0 n1 z1 t1 c1 n2 z2 t2 c2 s mo u9tx rk a w (u9qi M) = (f_Suggestions_takeBeginning 0 (u9qi M) u9tx rk (u9tri z0 z1 z2 d) (u9tri t0 t1 t2 d) (u9tri c0 c1 c2 d) (u9T w)).bind (fun o => some (0, o.1, o.1, u9qi M, o.2.1, o.2.2)) := by
  unfold f_S_complete f_Dictionary_words
  have l0 : ¬ (u9qi M < 0) := by rw [u9qi_lit, u9qi_lt (by omega) (by omega)]; omega
  have l1 : u9qi M ≤ 24 := by rw [u9qi_lit, u9qi_le (by omega) (by omega)]; exact hM
  rw [show (0 : Int32) = u9qi 0 from rfl, u9q_start s mo (M := 0) (by omega), u9q_isB]
  simp only [Option.bind_some, hw, if_true]
  rw [show (u9qi 0 : Int32) = 0 from rfl] at *
  rw [hf, u9q_of]
  rcases u9d3 hd with rfl | rfl | rfl <;> simp only [Option.bind_some, u9n10, l0, l1, if_true, if_false, u9d01, u9d02, u9d12, u9tri, u9q_start _ _ hM, f_Suggestions_size]
theorem u9qw_complete {made th dn dr ds da dz dt dc nb sz rd wd mc st ar} (h : u9SHR made th dn dr ds da dz dt dc nb sz rd wd mc st ar) (hm : made < 100000) (s mo : Int32) (u9tx : Nat → Int64) (rk : Nat → Int32) (g : Int32) (gv : Nat → Int64) (ky : Nat → Int32) (a : Int32) (w : Int64) (b : Int32) (t : Int32) :
    ∃ k ans s' mo' tx' rk' t' gv' ky', f_S_complete (dn 0) (dz 0) (dt 0) (dc 0) (dn 1) (dz 1) (dt 1) (dc 1) (dn 2) (dz 2) (dt 2) (dc 2) s mo u9tx rk a w b = some (k, ans, u9qi s', mo', tx', rk') ∧ f_M_complete t (u9qi th) g nb sz wd mc gv ky a w b = some (ans, t', u9qi s', gv', ky') ∧ u9GR s' tx' gv' ∧ ((k = 0 ∧ t' = 0) ∨ (k = 1 ∧ t' = 1) ∨ (k = 3 ∧ t' = 2)) := by
  have hth := h.1
  have em : ¬ ((0 : Int32) ≤ -1) := by decide
  have hbad : f_M_complete_24 (u9qi th) nb sz wd mc a w b t 0 gv ky = some (0, 1, 0, gv, ky) := by
    unfold f_M_complete_24 f_M_complete_29 f_M_complete_51
    rcases u9q_find h hm a with ⟨d, p, hd, hp, e1, e2, _⟩ | ⟨e1, e2, _⟩
    · rw [e2]
      have l0 : (0 : Int32) ≤ u9qi p := by rw [u9qi_lit, u9qi_le (by omega) (by omega)]; omega
      simp only [Option.bind_some, l0, if_true, (u9q_throwing t).2.1, u9n10, if_false]
    · rw [e2]
      simp only [Option.bind_some, em, if_false, (u9q_throwing t).2.2.2, u9n10]
  have u9st0 : f_Suggestions_startAnew s mo 0 = some (0, 0) := u9q_start s mo (M := 0) (by omega)
  by_cases hw : u9okB (u9un w) = true
  · by_cases hb0 : b < 0
    · refine ⟨1, 0, 0, 0, u9tx, rk, 1, gv, ky, ?_, ?_, u9GR0 _ _, Or.inr (Or.inl ⟨rfl, rfl⟩)⟩
      · unfold f_S_complete f_S_complete_37
        rw [u9st0, u9q_isB]
        simp only [Option.bind_some, hw, if_true, u9n10, if_false, hb0]; rfl
      · unfold f_M_complete
        rw [u9q_isT]
        simp only [Option.bind_some, hw, if_true, u9n10, if_false, hb0]; exact hbad
    · obtain ⟨M, hM2, rfl⟩ := u9q_int hb0
      by_cases hM : M ≤ 24
      · have l1 : u9qi M ≤ 24 := by rw [u9qi_lit, u9qi_le (by omega) (by omega)]; exact hM
        unfold f_M_complete f_M_complete_29 f_M_complete_51 f_M_complete_157
        rw [u9q_isT]
        simp only [Option.bind_some, hw, if_true, u9n10, if_false, hb0, l1]
        rcases u9q_find h hm a with ⟨d, p, hd, hp, e1, e2, e3, e4, hD⟩ | ⟨e1, e2, hn⟩
        · obtain ⟨_, _, _, n, hz, hsz, hW, _⟩ := hD
          rw [u9q_Scomp hd e1 s mo u9tx rk hw hM, u9tri_f dz d hd, u9tri_f dt d hd, u9tri_f dc d hd, hz, e2]
          have l0 : (0 : Int32) ≤ u9qi p := by rw [u9qi_lit, u9qi_le (by omega) (by omega)]; omega
          obtain ⟨s', g', tx', rk', gv', ky', f1, f2, hg, hG⟩ := u9q_takeB hM (show p < 3 by omega) hW (nb := nb) (sz := sz) hsz (u9qi th) a (u9qi M) 0 hw n 0 0 0 u9tx rk gv ky (by omega) (by omega) (u9GS0 _ _ _ _ _) FU (by have := hW.1; unfold FU; omega)
          rw [show (u9qi 0 : Int32) = 0 from rfl] at f1 f2
          have hn24 := hW.1
          have hgm : (u9qi M ≤ u9qi g') = (M ≤ g') := u9qi_le (by omega) (by omega)
          unfold f_Suggestions_takeBeginning
          rw [u9q_len hw]
          simp only [Option.bind_some, l0, if_true, (u9q_throwing t).1, u9q_lettersOf, f1, f2, hgm]
          have hs' : s' = min g' M := hG.1
          have hgr : u9GR s' tx' gv' := ⟨by omega, fun k hk => ⟨hG.2.2.1 k (by omega), (hG.2.2.2 k hk).1⟩⟩
          refine ⟨0, u9qi s', s', u9qi M, tx', rk', 0, gv', ky', rfl, ?_, hgr, Or.inl ⟨rfl, rfl⟩⟩
          by_cases hc : M ≤ g'
          · rw [if_pos hc, show s' = M by omega]
          · rw [if_neg hc, show s' = g' by omega]
        · rw [e2]
          simp only [Option.bind_some, em, if_false, (u9q_throwing t).2.2.1, u9n10]
          refine ⟨3, 0, 0, 0, u9tx, rk, 2, gv, ky, ?_, rfl, u9GR0 _ _, Or.inr (Or.inr ⟨rfl, rfl⟩)⟩
          unfold f_S_complete
          rw [u9st0, u9q_isB, e1]
          simp only [Option.bind_some, hw, if_true, u9n10, if_false, hb0, l1, u9d30, u9d31, u9d32]; rfl
      · have l1 : ¬ (u9qi M ≤ 24) := by rw [u9qi_lit, u9qi_le (by omega) (by omega)]; exact hM
        refine ⟨1, 0, 0, 0, u9tx, rk, 1, gv, ky, ?_, ?_, u9GR0 _ _, Or.inr (Or.inl ⟨rfl, rfl⟩)⟩
        · unfold f_S_complete f_S_complete_37
          rw [u9st0, u9q_isB]
          simp only [Option.bind_some, hw, if_true, u9n10, if_false, hb0, l1]; rfl
        · unfold f_M_complete
          rw [u9q_isT]
          simp only [Option.bind_some, hw, if_true, u9n10, if_false, hb0, l1]; exact hbad
  · refine ⟨1, 0, 0, 0, u9tx, rk, 1, gv, ky, ?_, ?_, u9GR0 _ _, Or.inr (Or.inl ⟨rfl, rfl⟩)⟩
    · unfold f_S_complete
      rw [u9st0, u9q_isB]
      have hw' : u9okB (u9un w) = false := by simpa using hw
      simp only [Option.bind_some, hw']; rfl
    · unfold f_M_complete
      rw [u9q_isT]
      have hw' : u9okB (u9un w) = false := by simpa using hw
      simp only [Option.bind_some, hw']; exact hbad
