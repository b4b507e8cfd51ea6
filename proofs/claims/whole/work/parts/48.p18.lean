theorem u9q_Snear {n0 z0 n1 z1 n2 z2 : Int32} {t0 t1 t2 : Nat → Int64} {c0 c1 c2 : Nat → Int32} {a : Int32} {d : Nat} (hd : d < 3) (hf : f_S_find n0 n1 n2 a = some d) (L : Nat → Nat → Int32) (s mo : Int32) (u9tx : Nat → Int64) (rk : Nat → Int32) {w : Int64} (hw : u9okW w = true) {M : Nat} (hM : M ≤ 2) :
    f_S_near n0 z0 t0 c0 n1 z1 t1 c1 n2 z2 t2 c2 L s mo u9tx rk a w (u9qi M) = (f_Suggestions_takeNear 0 (u9qi 24) u9tx rk (u9tri z0 z1 z2 d) (u9tri t0 t1 t2 d) (u9tri c0 c1 c2 d) L (u9T w) (u9qi M)).bind (fun o => some (0, o.1, o.2.2.2, o.1, u9qi 24, o.2.1, o.2.2.1)) := by
  unfold f_S_near f_Dictionary_words
  have l0 : ¬ (u9qi M < 0) := by rw [u9qi_lit, u9qi_lt (by omega) (by omega)]; omega
  have l1 : u9qi M ≤ 2 := by rw [u9qi_lit, u9qi_le (by omega) (by omega)]; exact hM
  have u9st0 : f_Suggestions_startAnew s mo 0 = some (0, 0) := u9q_start s mo (M := 0) (by omega)
  have st24 : ∀ x y, f_Suggestions_startAnew x y 24 = some (0, u9qi 24) := fun x y => u9q_start x y (M := 24) (by omega)
  rw [u9st0, u9q_isW]
  simp only [Option.bind_some, hw, if_true]
  rw [hf, u9q_of]
  rcases u9d3 hd with rfl | rfl | rfl <;> simp only [Option.bind_some, u9n10, l0, l1, if_true, if_false, u9d01, u9d02, u9d12, u9tri, st24, f_Suggestions_size]
theorem u9qw_near {made th dn dr ds da dz dt dc nb sz rd wd mc st ar} (h : u9SHR made th dn dr ds da dz dt dc nb sz rd wd mc st ar) (hm : made < 100000) {L : Nat → Nat → Int32} (hL : u9Bd L) (s mo : Int32) (u9tx : Nat → Int64) (rk : Nat → Int32) (g : Int32) (gv : Nat → Int64) (ky Tb : Nat → Int32) (a : Int32) (w : Int64) (b : Int32) (t : Int32) :
    ∃ k ans L' s' mo' tx' rk' t' gv' ky' Tb', f_S_near (dn 0) (dz 0) (dt 0) (dc 0) (dn 1) (dz 1) (dt 1) (dc 1) (dn 2) (dz 2) (dt 2) (dc 2) L s mo u9tx rk a w b = some (k, ans, L', u9qi s', mo', tx', rk') ∧ f_M_near t (u9qi th) g nb sz wd mc gv ky Tb a w b = some (ans, t', u9qi s', gv', ky', Tb') ∧ u9GR s' tx' gv' ∧ u9Bd L' ∧ ((k = 0 ∧ t' = 0) ∨ (k = 1 ∧ t' = 1) ∨ (k = 3 ∧ t' = 2)) := by
  have hth := h.1
  have em : ¬ ((0 : Int32) ≤ -1) := by decide
  have hbad : f_M_near_23 (u9qi th) nb sz wd mc a w b t 0 gv ky Tb = some (0, 1, 0, gv, ky, Tb) := by
    unfold f_M_near_23 f_M_near_28 f_M_near_50
    rcases u9q_find h hm a with ⟨d, p, hd, hp, e1, e2, _⟩ | ⟨e1, e2, _⟩
    · rw [e2]
      have l0 : (0 : Int32) ≤ u9qi p := by rw [u9qi_lit, u9qi_le (by omega) (by omega)]; omega
      simp only [Option.bind_some, l0, if_true, (u9q_throwing t).2.1, u9n10, if_false]
    · rw [e2]
      simp only [Option.bind_some, em, if_false, (u9q_throwing t).2.2.2, u9n10]
  have u9st0 : f_Suggestions_startAnew s mo 0 = some (0, 0) := u9q_start s mo (M := 0) (by omega)
  by_cases hw : u9okW w = true
  · by_cases hb0 : b < 0
    · refine ⟨1, 0, L, 0, 0, u9tx, rk, 1, gv, ky, Tb, ?_, ?_, u9GR0 _ _, hL, Or.inr (Or.inl ⟨rfl, rfl⟩)⟩
      · unfold f_S_near f_S_near_36
        rw [u9st0, u9q_isW]
        simp only [Option.bind_some, hw, if_true, u9n10, if_false, hb0]; rfl
      · unfold f_M_near
        rw [u9q_isMW]
        simp only [Option.bind_some, hw, if_true, u9n10, if_false, hb0]; exact hbad
    · obtain ⟨M, hM2, rfl⟩ := u9q_int hb0
      by_cases hM : M ≤ 2
      · have l1 : u9qi M ≤ 2 := by rw [u9qi_lit, u9qi_le (by omega) (by omega)]; exact hM
        unfold f_M_near f_M_near_28 f_M_near_50
        rw [u9q_isMW]
        simp only [Option.bind_some, hw, if_true, u9n10, if_false, hb0, l1]
        rcases u9q_find h hm a with ⟨d, p, hd, hp, e1, e2, e3, e4, hD⟩ | ⟨e1, e2, hn⟩
        · obtain ⟨_, _, _, n, hz, hsz, hW, _⟩ := hD
          rw [u9q_Snear hd e1 L s mo u9tx rk hw hM, u9tri_f dz d hd, u9tri_f dt d hd, u9tri_f dc d hd, hz, e2]
          have l0 : (0 : Int32) ≤ u9qi p := by rw [u9qi_lit, u9qi_le (by omega) (by omega)]; omega
          obtain ⟨s', g', tx', rk', L', gv', ky', Tb', f1, f2, hg, hG, hL'⟩ := u9q_takeN (show p < 3 by omega) hW (nb := nb) (sz := sz) hsz (u9qi th) a 0 (u9qi M) (u9okW_B hw) n 0 0 0 u9tx rk L gv ky Tb (by omega) (by omega) (u9GS0 _ _ _ _ _) hL FU (by have := hW.1; unfold FU; omega)
          rw [show (u9qi 0 : Int32) = 0 from rfl] at f1 f2
          have hn24 := hW.1
          unfold f_Suggestions_takeNear
          simp only [Option.bind_some, l0, if_true, (u9q_throwing t).1, f1, f2]
          have hs' : s' = min g' 24 := hG.1
          have hgr : u9GR s' tx' gv' := ⟨by omega, fun k hk => ⟨hG.2.2.1 k (by omega), (hG.2.2.2 k hk).1⟩⟩
          have : s' = g' := by omega
          subst this
          exact ⟨0, u9qi s', L', s', u9qi 24, tx', rk', 0, gv', ky', Tb', rfl, rfl, hgr, hL', Or.inl ⟨rfl, rfl⟩⟩
        · rw [e2]
          simp only [Option.bind_some, em, if_false, (u9q_throwing t).2.2.1, u9n10]
          refine ⟨3, 0, L, 0, 0, u9tx, rk, 2, gv, ky, Tb, ?_, rfl, u9GR0 _ _, hL, Or.inr (Or.inr ⟨rfl, rfl⟩)⟩
          unfold f_S_near
          rw [u9st0, u9q_isW, e1]
          simp only [Option.bind_some, hw, if_true, u9n10, if_false, hb0, l1, u9d30, u9d31, u9d32]; rfl
      · have l1 : ¬ (u9qi M ≤ 2) := by rw [u9qi_lit, u9qi_le (by omega) (by omega)]; exact hM
        refine ⟨1, 0, L, 0, 0, u9tx, rk, 1, gv, ky, Tb, ?_, ?_, u9GR0 _ _, hL, Or.inr (Or.inl ⟨rfl, rfl⟩)⟩
        · unfold f_S_near f_S_near_36
          rw [u9st0, u9q_isW]
          simp only [Option.bind_some, hw, if_true, u9n10, if_false, hb0, l1]; rfl
        · unfold f_M_near
          rw [u9q_isMW]
          simp only [Option.bind_some, hw, if_true, u9n10, if_false, hb0, l1]; exact hbad
  · have hw' : u9okW w = false := by simpa using hw
    refine ⟨1, 0, L, 0, 0, u9tx, rk, 1, gv, ky, Tb, ?_, ?_, u9GR0 _ _, hL, Or.inr (Or.inl ⟨rfl, rfl⟩)⟩
    · unfold f_S_near
      rw [u9st0, u9q_isW]
      simp only [Option.bind_some, hw']; rfl
    · unfold f_M_near
      rw [u9q_isMW]
      simp only [Option.bind_some, hw']; exact hbad
