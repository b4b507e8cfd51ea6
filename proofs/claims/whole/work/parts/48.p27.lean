theorem u9q_shift {th : Nat} (hth : th < 3) (x1 : Int32) (x2 : Nat → Int64) (x3 : Nat → Int32) (x4 x5 x6 : Int32) (nb sz rd : Nat → Int32) (wd : Nat → Int64) (mc st ar : Nat → Int32) : ∃ nb' sz' rd' wd' mc' st' ar', f_M_build_65 x1 x2 x3 x4 x5 x6 FU nb sz rd wd mc st ar (u9qi th) = some (nb', sz', rd', wd', mc', st', ar') ∧ ∀ q, q < th → nb' (q + 1) = nb q ∧ sz' (q + 1) = sz q ∧ rd' (q + 1) = rd q ∧ st' (q + 1) = st q ∧ ar' (q + 1) = ar q ∧ ∀ i, i < 24 → wd' (24 * (q + 1) + i) = wd (24 * q + i) ∧ mc' (24 * (q + 1) + i) = mc (24 * q + i) := by
  have hstop : ∀ fu nb sz rd wd mc st ar, f_M_build_65 x1 x2 x3 x4 x5 x6 (fu + 1) nb sz rd wd mc st ar (u9qi 0) = some (nb, sz, rd, wd, mc, st, ar) := by
    intro fu nb sz rd wd mc st ar
    show f_M_build_65b x1 x2 x3 x4 x5 x6 _ nb sz rd wd mc st ar (u9qi 0) = _
    unfold f_M_build_65b
    rw [if_pos (by decide)]
  have hstep : ∀ fu (k : Nat) nb sz rd wd mc st ar, 1 ≤ k → k < 3 → ∃ wd' mc', f_M_build_65 x1 x2 x3 x4 x5 x6 (fu + 1) nb sz rd wd mc st ar (u9qi k) = f_M_build_65 x1 x2 x3 x4 x5 x6 fu (upd nb k (nb (k - 1))) (upd sz k (sz (k - 1))) (upd rd k (rd (k - 1))) wd' mc' (upd st k (st (k - 1))) (upd ar k (ar (k - 1))) (u9qi (k - 1)) ∧ (∀ i, i < 24 → wd' (24 * k + i) = wd (24 * (k - 1) + i) ∧ mc' (24 * k + i) = mc (24 * (k - 1) + i)) ∧ (∀ j, (j < 24 * k ∨ 24 * k + 24 ≤ j) → wd' j = wd j ∧ mc' j = mc j) := by
    intro fu k nb sz rd wd mc st ar hk1 hk3
    obtain ⟨wd', mc', e, g1, g2⟩ := u9q_move (a := k - 1) (b := k) (by omega) hk3 (by omega) nb sz rd wd mc st ar
    refine ⟨wd', mc', ?_, g1, g2⟩
    show f_M_build_65b x1 x2 x3 x4 x5 x6 _ nb sz rd wd mc st ar (u9qi k) = _
    unfold f_M_build_65b
    have l1 : ¬ (u9qi k ≤ 0) := by rw [u9q_le0 (by omega)]; omega
    simp only [l1, if_false, u9q_m1 hk1, u9q_neg1 hk1, e, Option.bind_some]
  have h3 : th = 0 ∨ th = 1 ∨ th = 2 := by omega
  rcases h3 with rfl | rfl | rfl
  · exact ⟨nb, sz, rd, wd, mc, st, ar, hstop 999999 _ _ _ _ _ _ _, fun q hq => absurd hq (by omega)⟩
  · obtain ⟨wd1, mc1, e1, g1, g2⟩ := hstep 999999 1 nb sz rd wd mc st ar (by omega) (by omega)
    refine ⟨upd nb 1 (nb 0), upd sz 1 (sz 0), upd rd 1 (rd 0), wd1, mc1, upd st 1 (st 0), upd ar 1 (ar 0), ?_, fun q hq => ?_⟩
    · exact e1.trans (hstop 999998 _ _ _ _ _ _ _)
    · obtain rfl : q = 0 := by omega
      exact ⟨by simp [upd], by simp [upd], by simp [upd], by simp [upd], by simp [upd], fun i hi => g1 i hi⟩
  · obtain ⟨wd1, mc1, e1, g1, g2⟩ := hstep 999999 2 nb sz rd wd mc st ar (by omega) (by omega)
    obtain ⟨wd2, mc2, e2, k1, k2⟩ := hstep 999998 1 (upd nb 2 (nb 1)) (upd sz 2 (sz 1)) (upd rd 2 (rd 1)) wd1 mc1 (upd st 2 (st 1)) (upd ar 2 (ar 1)) (by omega) (by omega)
    refine ⟨_, _, _, wd2, mc2, _, _, e1.trans (e2.trans (hstop 999997 _ _ _ _ _ _ _)), fun q hq => ?_⟩
    have hq2 : q = 0 ∨ q = 1 := by omega
    rcases hq2 with rfl | rfl
    · refine ⟨by simp [upd], by simp [upd], by simp [upd], by simp [upd], by simp [upd], fun i hi => ?_⟩
      have a := k1 i hi
      have b := g2 (24 * 0 + i) (by omega)
      simp only [show 1 - 1 = 0 by omega] at a
      rw [a.1, a.2]; exact b
    · refine ⟨by simp [upd], by simp [upd], by simp [upd], by simp [upd], by simp [upd], fun i hi => ?_⟩
      have a := k2 (24 * (1 + 1) + i) (by omega)
      rw [a.1, a.2]; exact g1 i hi
theorem u9q_93 {made n : Nat} {u9tx cs dr u9wt} (h : u9DR n u9tx cs dr u9wt) (t thr : Int32) (nb sz rd : Nat → Int32) (wd : Nat → Int64) (mc st ar : Nat → Int32) : ∃ wd' mc', f_M_build_93 (u9qi n) dr u9wt t thr (u9qi made) nb sz rd wd mc st ar = some (u9qi (made + 1), t, thr, u9qi (made + 1), upd nb 0 (u9qi (made + 1)), upd sz 0 (u9qi n), upd rd 0 0, wd', mc', upd st 0 (-1), ar) ∧ u9WR n u9tx cs (fun i => wd' (24 * 0 + i)) (fun i => mc' (24 * 0 + i)) ∧ (∀ j, 24 ≤ j → wd' j = wd j ∧ mc' j = mc j) := by
  have z0 : (0 : Int32).toNatClampNeg = 0 := by decide
  obtain ⟨wd', mc', e, g1, g2⟩ := u9q_sort h t thr (u9qi (made + 1)) (upd nb 0 (u9qi (made + 1))) (upd sz 0 (u9qi n)) (upd rd 0 0) (upd st 0 (-1)) ar wd mc
  refine ⟨wd', mc', ?_, g1, fun j hj => g2 j (by have := h.1; omega)⟩
  unfold f_M_build_93
  simp only [u9q_p1, z0, e, Option.bind_some]
theorem u9q_Sbuild {made n : Nat} (hn : n ≤ 24) (hn0 : n ≠ 0) {u9tx : Nat → Int64} {cs : Nat → Int32} {n0 r0 s0 a0 z0 n1 r1 s1 a1 z1 n2 r2 s2 a2 z2 : Int32} {t0 t1 t2 : Nat → Int64} {c0 c1 c2 : Nat → Int32} {d : Nat} (hd : d < 3) (hf : f_S_placeForNext (u9qi made) n0 r0 n1 r1 n2 r2 = some d) (as aa : Int32) (st ct le lo : Nat → Int32) :
    ∃ tx' cs' st' ct' le' lo', (∀ i, i < n → tx' i = u9tx i ∧ cs' i = cs i) ∧ f_S_build (u9qi made) (u9qi n) u9tx cs n0 r0 s0 a0 z0 t0 c0 n1 r1 s1 a1 z1 t1 c1 n2 r2 s2 a2 z2 t2 c2 as aa st ct le lo = some (0, u9qi (made + 1), u9qi (made + 1),
      va_up (u9tri n0 n1 n2) d (u9qi (made + 1)) 0, va_up (u9tri r0 r1 r2) d 0 0, va_up (u9tri s0 s1 s2) d (u9qi (u9spS (u9Wl n u9tx cs))) 0, va_up (u9tri a0 a1 a2) d (u9qi (u9spA (u9Wl n u9tx cs))) 0, va_up (u9tri z0 z1 z2) d (u9qi n) 0, va_up (u9tri t0 t1 t2) d tx' 0, va_up (u9tri c0 c1 c2) d cs' 0,
      va_up (u9tri n0 n1 n2) d (u9qi (made + 1)) 1, va_up (u9tri r0 r1 r2) d 0 1, va_up (u9tri s0 s1 s2) d (u9qi (u9spS (u9Wl n u9tx cs))) 1, va_up (u9tri a0 a1 a2) d (u9qi (u9spA (u9Wl n u9tx cs))) 1, va_up (u9tri z0 z1 z2) d (u9qi n) 1, va_up (u9tri t0 t1 t2) d tx' 1, va_up (u9tri c0 c1 c2) d cs' 1,
      va_up (u9tri n0 n1 n2) d (u9qi (made + 1)) 2, va_up (u9tri r0 r1 r2) d 0 2, va_up (u9tri s0 s1 s2) d (u9qi (u9spS (u9Wl n u9tx cs))) 2, va_up (u9tri a0 a1 a2) d (u9qi (u9spA (u9Wl n u9tx cs))) 2, va_up (u9tri z0 z1 z2) d (u9qi n) 2, va_up (u9tri t0 t1 t2) d tx' 2, va_up (u9tri c0 c1 c2) d cs' 2,
      u9qi (u9spS (u9Wl n u9tx cs)), u9qi (u9spA (u9Wl n u9tx cs)), st', ct', le', lo') := by
  obtain ⟨st', ct', le', lo', em⟩ := u9q_measure hn u9tx cs as aa st ct le lo
  obtain ⟨tx', cs', ec, hc⟩ := u9q_copy hn (u9tri z0 z1 z2 d) (u9tri t0 t1 t2 d) (u9tri c0 c1 c2 d) u9tx cs
  refine ⟨tx', cs', st', ct', le', lo', hc, ?_⟩
  have hz : ¬ (u9qi n = 0) := by rw [u9qi_lit, u9qi_eq (by omega) (by omega)]; exact hn0
  unfold f_S_build f_WordList_size f_Automaton_states f_Automaton_arcs f_Dictionary_fill
  rcases u9d3 hd with rfl | rfl | rfl
  all_goals
    simp only [u9tri, if_true, if_false, u9d01, u9d02, u9d12] at ec
    simp only [Option.bind_some, hz, if_false, hf, if_true, em, ec, u9q_p1, u9tri, va_up, u9d01, u9d02, u9d12, show ¬ (0 = 1) by omega, show ¬ (0 = 2) by omega, show ¬ (1 = 2) by omega]
theorem u9SHR_x {made th dn dr ds da dz dt dc nb sz rd wd mc st ar} (h : u9SHR made th dn dr ds da dz dt dc nb sz rd wd mc st ar) {dn' dr' ds' da' dz' : Nat → Int32} {dt' : Nat → Nat → Int64} {dc' : Nat → Nat → Int32} (e : ∀ d, d < 3 → dn' d = dn d ∧ dr' d = dr d ∧ ds' d = ds d ∧ da' d = da d ∧ dz' d = dz d ∧ dt' d = dt d ∧ dc' d = dc d) : u9SHR made th dn' dr' ds' da' dz' dt' dc' nb sz rd wd mc st ar := by
  obtain ⟨h1, h2, h3, h4, h5, h6, h7, h8⟩ := h
  refine ⟨h1, h2, h3, h4, h5, fun d hd => ?_, fun p hp => ?_, fun d f hd hf => ?_⟩
  · obtain ⟨a1, a2, a3, a4, a5, a6, a7⟩ := e d hd
    rw [a1, a2, a3, a4, a5, a6, a7]; exact h6 d hd
  · obtain ⟨d, hd, hh⟩ := h7 p hp
    exact ⟨d, hd, by rw [(e d hd).1]; exact hh⟩
  · rw [(e d hd).1, (e f hf).1]; exact h8 d f hd hf
theorem u9qw_build {made th dn dr ds da dz dt dc nb sz rd wd mc st ar} (h : u9SHR made th dn dr ds da dz dt dc nb sz rd wd mc st ar) (hm : made + 1 < 100000) {n u9tx cs dra wei} (hDR : u9DR n u9tx cs dra wei) (as aa : Int32) (ast act ale alo : Nat → Int32) (t : Int32) :
    ∃ k ans made' n0 r0 s0 a0 z0 t0 c0 n1 r1 s1 a1 z1 t1 c1 n2 r2 s2 a2 z2 t2 c2 as' aa' ast' act' ale' alo' t' th' nb' sz' rd' wd' mc' st' ar',
      f_S_build (u9qi made) (u9qi n) u9tx cs (dn 0) (dr 0) (ds 0) (da 0) (dz 0) (dt 0) (dc 0) (dn 1) (dr 1) (ds 1) (da 1) (dz 1) (dt 1) (dc 1) (dn 2) (dr 2) (ds 2) (da 2) (dz 2) (dt 2) (dc 2) as aa ast act ale alo = some (k, ans, u9qi made', n0, r0, s0, a0, z0, t0, c0, n1, r1, s1, a1, z1, t1, c1, n2, r2, s2, a2, z2, t2, c2, as', aa', ast', act', ale', alo') ∧
      f_M_build t (u9qi n) (u9qi th) (u9qi made) dra wei nb sz rd wd mc st ar = some (ans, t', u9qi th', u9qi made', nb', sz', rd', wd', mc', st', ar') ∧
      made' ≤ made + 1 ∧ u9SHR made' th' (u9tri n0 n1 n2) (u9tri r0 r1 r2) (u9tri s0 s1 s2) (u9tri a0 a1 a2) (u9tri z0 z1 z2) (u9tri t0 t1 t2) (u9tri c0 c1 c2) nb' sz' rd' wd' mc' st' ar' ∧ ((k = 0 ∧ t' = 0) ∨ (k = 2 ∧ t' = 1)) := by
  have hth := h.1
  have hn := hDR.1
  have z0 : (0 : Int32).toNatClampNeg = 0 := by decide
  have hself : u9SHR made th (u9tri (dn 0) (dn 1) (dn 2)) (u9tri (dr 0) (dr 1) (dr 2)) (u9tri (ds 0) (ds 1) (ds 2)) (u9tri (da 0) (da 1) (da 2)) (u9tri (dz 0) (dz 1) (dz 2)) (u9tri (dt 0) (dt 1) (dt 2)) (u9tri (dc 0) (dc 1) (dc 2)) nb sz rd wd mc st ar :=
    u9SHR_x h (fun d hd => ⟨u9tri_f dn d hd, u9tri_f dr d hd, u9tri_f ds d hd, u9tri_f da d hd, u9tri_f dz d hd, u9tri_f dt d hd, u9tri_f dc d hd⟩)
  by_cases hn0 : n = 0
  · subst hn0
    refine ⟨2, 0, made, _, _, _, _, _, _, _, _, _, _, _, _, _, _, _, _, _, _, _, _, _, as, aa, ast, act, ale, alo, 1, th, nb, sz, rd, wd, mc, st, ar, ?_, ?_, by omega, hself, Or.inr ⟨rfl, rfl⟩⟩
    · unfold f_S_build f_WordList_size
      have e0 : u9qi 0 = 0 := rfl
      simp only [Option.bind_some, e0, if_true]
    · unfold f_M_build f_M_build_20 f_M_build_21 f_M_build_42 f_M_build_47
      have e0 : u9qi 0 = 0 := rfl
      simp only [e0, if_true, (u9q_throwing t).2.1, Option.bind_some, u9n10, if_false]
      repeat' split
      all_goals rfl
  · have hnz : ¬ (u9qi n = 0) := by rw [u9qi_lit, u9qi_eq (by omega) (by omega)]; exact hn0
    have hth0 : (u9qi th ≤ 0) = (th = 0) := u9q_le0 (by omega)
    have hth3 : (u9qi th = 3) = (th = 3) := by rw [u9qi_lit, u9qi_eq (by omega) (by omega)]
    have hnew : ∀ (tx' : Nat → Int64) (cs' : Nat → Int32) (ws : Nat → Int64) (ms : Nat → Int32), (∀ i, i < n → tx' i = u9tx i ∧ cs' i = cs i) → u9WR n u9tx cs ws ms → ∀ ar0, u9DD (u9qi (made + 1)) 0 (u9qi (u9spS (u9Wl n u9tx cs))) (u9qi (u9spA (u9Wl n u9tx cs))) (u9qi n) tx' cs' (u9qi (made + 1)) (u9qi n) 0 (-1) ar0 ws ms := by
      intro tx' cs' ws ms he hW ar0
      have hl : u9ls (fun i => (tx' i, cs' i)) n = u9Wl n u9tx cs := u9ls_congr (fun i hi => by rw [(he i hi).1, (he i hi).2])
      refine ⟨rfl, rfl, ⟨0, by omega, rfl⟩, n, rfl, rfl, ⟨hn, fun i j hij hj => ?_, fun i hi => ?_⟩, by rw [hl], by rw [hl], Or.inl rfl⟩
      · rw [(he i (by omega)).1, (he j hj).1]; exact hW.2.1 i j hij hj
      · rw [(he i hi).1, (he i hi).2]; exact hW.2.2 i hi
    rcases u9q_pfn h (by omega) with ⟨hpos, hr, d, hd, ef, hdn⟩ | ⟨hg, hlt, d, hd, ef, hdn⟩ | ⟨hg, h3, ef⟩
    · obtain ⟨tx', cs', ast', act', ale', alo', hc, eb⟩ := u9q_Sbuild hn hn0 (u9tx := u9tx) (cs := cs) (s0 := ds 0) (a0 := da 0) (z0 := dz 0) (s1 := ds 1) (a1 := da 1) (z1 := dz 1) (s2 := ds 2) (a2 := da 2) (z2 := dz 2) (t0 := dt 0) (t1 := dt 1) (t2 := dt 2) (c0 := dc 0) (c1 := dc 1) (c2 := dc 2) hd ef as aa ast act ale alo
      obtain ⟨wd', mc', e93, g1, g2⟩ := u9q_93 (made := made) hDR 0 (u9qi th) nb sz rd wd mc st ar
      refine ⟨0, u9qi (made + 1), made + 1, _, _, _, _, _, _, _, _, _, _, _, _, _, _, _, _, _, _, _, _, _, _, _, _, _, _, _, 0, th, upd nb 0 (u9qi (made + 1)), upd sz 0 (u9qi n), upd rd 0 0, wd', mc', upd st 0 (-1), ar, eb, ?_, by omega, ?_, Or.inl ⟨rfl, rfl⟩⟩
      · unfold f_M_build f_M_build_21 f_M_build_46 f_M_build_47
        have hp0 : ¬ (th = 0) := by omega
        simp only [hth0, hp0, if_false, z0, hr, if_true, hnz, hth3, u9n10, (u9q_throwing t).1, Option.bind_some, e93]
        split <;> rfl
      · have := u9SHR_new (s := 0) h hm hd (Or.inr ⟨rfl, hpos, hdn⟩) (dn' := va_up (u9tri (dn 0) (dn 1) (dn 2)) d (u9qi (made + 1))) (dr' := va_up (u9tri (dr 0) (dr 1) (dr 2)) d 0) (ds' := va_up (u9tri (ds 0) (ds 1) (ds 2)) d (u9qi (u9spS (u9Wl n u9tx cs)))) (da' := va_up (u9tri (da 0) (da 1) (da 2)) d (u9qi (u9spA (u9Wl n u9tx cs)))) (dz' := va_up (u9tri (dz 0) (dz 1) (dz 2)) d (u9qi n)) (dt' := va_up (u9tri (dt 0) (dt 1) (dt 2)) d tx') (dc' := va_up (u9tri (dc 0) (dc 1) (dc 2)) d cs') (nb' := upd nb 0 (u9qi (made + 1))) (sz' := upd sz 0 (u9qi n)) (rd' := upd rd 0 0) (wd' := wd') (mc' := mc') (st' := upd st 0 (-1)) (ar' := ar) (by simp [upd]) (by
            simp only [va_up, if_true, upd]
            exact hnew tx' cs' _ _ hc g1 _) (fun e he hne => by
            simp only [va_up, hne, if_false]
            exact ⟨u9tri_f dn e he, u9tri_f dr e he, u9tri_f ds e he, u9tri_f da e he, u9tri_f dz e he, u9tri_f dt e he, u9tri_f dc e he⟩) (fun q hq hq1 => by
            have hq0 : ¬ (q = 0) := by omega
            simp only [Nat.add_zero, upd, hq0, if_false, true_and]
            intro i hi
            exact g2 _ (by omega))
        exact u9SHR_x this (fun e he => ⟨u9tri_f _ e he, u9tri_f _ e he, u9tri_f _ e he, u9tri_f _ e he, u9tri_f _ e he, u9tri_f _ e he, u9tri_f _ e he⟩)
    · obtain ⟨tx', cs', ast', act', ale', alo', hc, eb⟩ := u9q_Sbuild hn hn0 (u9tx := u9tx) (cs := cs) (s0 := ds 0) (a0 := da 0) (z0 := dz 0) (s1 := ds 1) (a1 := da 1) (z1 := dz 1) (s2 := ds 2) (a2 := da 2) (z2 := dz 2) (t0 := dt 0) (t1 := dt 1) (t2 := dt 2) (c0 := dc 0) (c1 := dc 1) (c2 := dc 2) hd ef as aa ast act ale alo
      obtain ⟨nb1, sz1, rd1, wd1, mc1, u9st1, ar1, esh, hsh⟩ := u9q_shift hlt (u9qi n) dra wei 0 (u9qi th) (u9qi made) nb sz rd wd mc st ar
      obtain ⟨wd', mc', e93, g1, g2⟩ := u9q_93 (made := made) hDR 0 (u9qi (th + 1)) nb1 sz1 rd1 wd1 mc1 u9st1 ar1
      refine ⟨0, u9qi (made + 1), made + 1, _, _, _, _, _, _, _, _, _, _, _, _, _, _, _, _, _, _, _, _, _, _, _, _, _, _, _, 0, th + 1, upd nb1 0 (u9qi (made + 1)), upd sz1 0 (u9qi n), upd rd1 0 0, wd', mc', upd u9st1 0 (-1), ar1, eb, ?_, by omega, ?_, Or.inl ⟨rfl, rfl⟩⟩
      · have h3 : ¬ (th = 3) := by omega
        have e47 : f_M_build_47 (u9qi n) dra wei t (u9qi th) (u9qi made) nb sz rd wd mc st ar 0 0 = some (u9qi (made + 1), 0, u9qi (th + 1), u9qi (made + 1), upd nb1 0 (u9qi (made + 1)), upd sz1 0 (u9qi n), upd rd1 0 0, wd', mc', upd u9st1 0 (-1), ar1) := by
          unfold f_M_build_47
          simp only [(u9q_throwing t).1, Option.bind_some, if_true, esh, u9q_p1, e93]
        unfold f_M_build f_M_build_20 f_M_build_21 f_M_build_46
        simp only [hth0, z0, hnz, if_false, hth3, h3, e47]
        by_cases hp0 : th = 0
        · simp only [hp0, if_true]
        · have hr : ¬ (rd 0 = 0) := fun hh => hg ⟨by omega, hh⟩
          simp only [hp0, hr, if_false]
      · have := u9SHR_new (s := 1) h hm hd (Or.inl ⟨rfl, hdn, hlt⟩) (dn' := va_up (u9tri (dn 0) (dn 1) (dn 2)) d (u9qi (made + 1))) (dr' := va_up (u9tri (dr 0) (dr 1) (dr 2)) d 0) (ds' := va_up (u9tri (ds 0) (ds 1) (ds 2)) d (u9qi (u9spS (u9Wl n u9tx cs)))) (da' := va_up (u9tri (da 0) (da 1) (da 2)) d (u9qi (u9spA (u9Wl n u9tx cs)))) (dz' := va_up (u9tri (dz 0) (dz 1) (dz 2)) d (u9qi n)) (dt' := va_up (u9tri (dt 0) (dt 1) (dt 2)) d tx') (dc' := va_up (u9tri (dc 0) (dc 1) (dc 2)) d cs') (nb' := upd nb1 0 (u9qi (made + 1))) (sz' := upd sz1 0 (u9qi n)) (rd' := upd rd1 0 0) (wd' := wd') (mc' := mc') (st' := upd u9st1 0 (-1)) (ar' := ar1) (by simp [upd]) (by
            simp only [va_up, if_true, upd]
            exact hnew tx' cs' _ _ hc g1 _) (fun e he hne => by
            simp only [va_up, hne, if_false]
            exact ⟨u9tri_f dn e he, u9tri_f dr e he, u9tri_f ds e he, u9tri_f da e he, u9tri_f dz e he, u9tri_f dt e he, u9tri_f dc e he⟩) (fun q hq hq1 => by
            have hq0 : ¬ (q + 1 = 0) := by omega
            obtain ⟨a1, a2, a3, a4, a5, a6⟩ := hsh q hq
            simp only [upd, hq0, if_false]
            refine ⟨a1, a2, a3, a4, a5, fun i hi => ?_⟩
            have b := g2 (24 * (q + 1) + i) (by omega)
            rw [b.1, b.2]; exact a6 i hi)
        exact u9SHR_x this (fun e he => ⟨u9tri_f _ e he, u9tri_f _ e he, u9tri_f _ e he, u9tri_f _ e he, u9tri_f _ e he, u9tri_f _ e he, u9tri_f _ e he⟩)
    · refine ⟨2, 0, made, _, _, _, _, _, _, _, _, _, _, _, _, _, _, _, _, _, _, _, _, _, as, aa, ast, act, ale, alo, 1, th, nb, sz, rd, wd, mc, st, ar, ?_, ?_, by omega, hself, Or.inr ⟨rfl, rfl⟩⟩
      · unfold f_S_build f_WordList_size
        simp only [Option.bind_some, hnz, if_false, ef, u9d30, u9d31, u9d32]
      · have e47 : f_M_build_47 (u9qi n) dra wei t (u9qi th) (u9qi made) nb sz rd wd mc st ar 0 1 = some (0, 1, u9qi th, u9qi made, nb, sz, rd, wd, mc, st, ar) := by
          unfold f_M_build_47
          simp only [(u9q_throwing t).2.1, Option.bind_some, u9n10, if_false]
        have hr : ¬ (rd 0 = 0) := fun hh => hg ⟨by omega, hh⟩
        subst h3
        have l3 : ¬ (u9qi 3 ≤ 0) := by decide
        have e3 : (u9qi 3 = 3) = True := by simp; decide
        unfold f_M_build f_M_build_20 f_M_build_21 f_M_build_42
        simp only [l3, e3, z0, hnz, hr, if_false, if_true, e47]
