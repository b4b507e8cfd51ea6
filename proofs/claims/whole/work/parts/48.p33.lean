theorem u9q_46_k {m n p : Nat} (hm : m ≤ 4) (hp : p < 3) {dt : Nat → Int64} {dc : Nat → Int32} {wd : Nat → Int64} {mc : Nat → Int32} (hW : u9WR n dt dc (fun i => wd (24 * p + i)) (fun i => mc (24 * p + i))) {sz : Nat → Int32} (hsz : sz p = u9qi n) {ph : Nat → Int64} (x1 x2 : Int32) (x3 : Nat → Int32) (x4 x5 : Nat → Int64) (x6 : Nat → Int32) (y1 y2 y3 y4 : Int32) (y5 : Nat → Int64) :
    ∀ s k (Tb mn : Nat → Int32) (cd : Nat → Int64) (ao ch : Nat → Int32), k + s = m → (∀ j, j < k → mn j = u9qi (u9gk n (fun i => wd (24 * p + i)) (fun i => mc (24 * p + i)) (ph j)).length ∧ u9MRow (u9gk n (fun i => wd (24 * p + i)) (fun i => mc (24 * p + i)) (ph j)) j cd ao ∧ ch j = u9qi 0) → ∀ fu, s < fu → ∃ Tb' mn' cd' ao' ch', f_M_correct_46 x1 x2 x3 sz wd mc x4 x5 x6 ph y1 y2 y3 y4 y5 (u9qi m) (u9qi p) fu Tb mn cd ao ch (u9qi k) = some (Tb', mn', cd', ao', ch') ∧ (∀ j, j < m → mn' j = u9qi (u9gk n (fun i => wd (24 * p + i)) (fun i => mc (24 * p + i)) (ph j)).length ∧ u9MRow (u9gk n (fun i => wd (24 * p + i)) (fun i => mc (24 * p + i)) (ph j)) j cd' ao' ∧ ch' j = u9qi 0) := by
  intro s
  have hn := hW.1
  induction s with
  | zero =>
    intro k Tb mn cd ao ch hk h fu hf
    obtain ⟨fu, rfl⟩ : ∃ m, fu = m + 1 := ⟨fu - 1, by omega⟩
    obtain rfl : k = m := by omega
    have l1 : u9qi k ≤ u9qi k := u9i32_refl _
    refine ⟨Tb, mn, cd, ao, ch, ?_, h⟩
    simp only [f_M_correct_46, f_M_correct_46b, l1, if_true]
  | succ s ih =>
    intro k Tb mn cd ao ch hk h fu hf
    obtain ⟨fu, rfl⟩ : ∃ m, fu = m + 1 := ⟨fu - 1, by omega⟩
    have l1 : ¬ (u9qi m ≤ u9qi k) := by rw [u9qi_le (by omega) (by omega)]; omega
    have ok : okI (u9qi k) 4 = true := by rw [u9qi_ok _ (by omega)]; omega
    have ck : (u9qi k).toNatClampNeg = k := u9qi_cl (by omega)
    obtain ⟨Tb1, mn1, cd1, ao1, e, g1, g2, g3, g4⟩ := u9q_Mgather hp hW hsz (ph := ph) (show k < 4 by omega) Tb mn cd ao
    simp only [f_M_correct_46, f_M_correct_46b, l1, if_false, e, Option.bind_some, ok, if_true, ck, u9q_p1]
    refine ih (k + 1) Tb1 mn1 cd1 ao1 _ (by omega) (fun j hj => ?_) fu (by omega)
    by_cases hjk : j = k
    · subst hjk; exact ⟨g1, g3, by simp only [upd, if_true]; rfl⟩
    · obtain ⟨a1, a2, a3⟩ := h j (by omega)
      refine ⟨by rw [g2 j hjk]; exact a1, fun i e he => ?_, by simp only [upd, hjk, if_false]; exact a3⟩
      have hl := lt_of_getElem? he
      have h24 := (u9gk_len hn (fun i => wd (24 * p + i)) (fun i => mc (24 * p + i)) (ph j)).2
      have hb := g4 (24 * j + i) (by omega)
      rw [hb.1, hb.2]; exact a2 i e he
theorem u9q_Scorr {n0 z0 n1 z1 n2 z2 : Int32} {t0 t1 t2 : Nat → Int64} {c0 c1 c2 : Nat → Int32} {a : Int32} {d : Nat} (hd : d < 3) (hf : f_S_find n0 n1 n2 a = some d) (L : Nat → Nat → Int32) (pn : Int32) (fs sc : Nat → Int64) (tm : Nat → Int32) (ps csz : Int32) (sd0 cho : Nat → Int64) (cd : Nat → Nat → Int64) (co fo : Nat → Nat → Int32) (cts : Nat → Int32) :
    f_S_correct n0 z0 t0 c0 n1 z1 t1 c1 n2 z2 t2 c2 L pn fs sc tm ps csz sd0 cho cd co fo cts a = if ps = 0 then some (2, 0, L, ps, csz, cho, cd, co, fo, cts) else (f_Phrase_settle ps csz sd0 cho cd co fo cts (u9tri z0 z1 z2 d) (u9tri t0 t1 t2 d) (u9tri c0 c1 c2 d) L pn fs sc tm).bind (fun o => some (0, o.1, o.2.2.2.2.2.2.2, 0, o.2.1, o.2.2.1, o.2.2.2.1, o.2.2.2.2.1, o.2.2.2.2.2.1, o.2.2.2.2.2.2.1)) := by
  unfold f_S_correct f_Phrase_size f_Dictionary_words f_Phrase_clear
  rw [hf]
  rcases u9d3 hd with rfl | rfl | rfl <;> simp only [Option.bind_some, if_true, if_false, u9d01, u9d02, u9d12, u9tri]
theorem u9qw_correct {made th dn dr ds da dz dt dc nb sz rd wd mc st ar} (h : u9SHR made th dn dr ds da dz dt dc nb sz rd wd mc st ar) (hm : made < 100000) {L : Nat → Nat → Int32} (hL : u9Bd L) {pn fs sc tm ft sd le q} (hP : u9PR pn fs sc tm ft sd le q) (hq : q < 100000) {m : Nat} {sd0 ph : Nat → Int64} (hPH : u9PH m sd0 ph) {cs : Nat} {cho crr : Nat → Int64} (hCH : u9PH cs cho crr) (cd : Nat → Nat → Int64) (co fo : Nat → Nat → Int32) (cts : Nat → Int32) (Tb mn : Nat → Int32) (mcd : Nat → Int64) (mao mch : Nat → Int32) (a t : Int32) :
    ∃ k ans L' cs' cho' cd' co' fo' cts' t' Tb' crr' mn' mcd' mao' mch',
      f_S_correct (dn 0) (dz 0) (dt 0) (dc 0) (dn 1) (dz 1) (dt 1) (dc 1) (dn 2) (dz 2) (dt 2) (dc 2) L (u9qi pn) fs sc tm (u9qi m) (u9qi cs) sd0 cho cd co fo cts a = some (k, ans, L', 0, u9qi cs', cho', cd', co', fo', cts') ∧
      f_M_correct t (u9qi th) (u9qi pn) (u9qi m) (u9qi cs) nb sz wd mc Tb ft sd le ph crr mn mcd mao mch a = some (ans, t', 0, u9qi cs', Tb', crr', mn', mcd', mao', mch') ∧
      u9Bd L' ∧ u9PH cs' cho' crr' ∧ ((k = 0 ∧ t' = 0) ∨ (k = 3 ∧ t' = 1) ∨ (k = 2 ∧ t' = 2)) := by
  have hth := h.1
  have hm4 := hPH.1
  have em : ¬ ((0 : Int32) ≤ -1) := by decide
  have hz : (u9qi m = 0) = (m = 0) := by rw [u9qi_lit, u9qi_eq (by omega) (by omega)]
  rcases u9q_find h hm a with ⟨d, p, hd, hp, e1, e2, e3, e4, hD⟩ | ⟨e1, e2, hn⟩
  · obtain ⟨_, _, _, n, hzz, hsz, hW, _⟩ := hD
    have hn := hW.1
    rw [u9q_Scorr hd e1, u9tri_f dz d hd, u9tri_f dt d hd, u9tri_f dc d hd, hzz]
    unfold f_M_correct f_M_correct_26 f_M_correct_35
    rw [e2]
    have l0 : (0 : Int32) ≤ u9qi p := by rw [u9qi_lit, u9qi_le (by omega) (by omega)]; omega
    simp only [Option.bind_some, l0, if_true, hz]
    by_cases hm0 : m = 0
    · subst hm0
      simp only [if_true, (u9q_throwing t).2.2.1, Option.bind_some, u9n10, if_false]
      exact ⟨2, 0, L, cs, cho, cd, co, fo, cts, 2, Tb, crr, mn, mcd, mao, mch, rfl, rfl, hL, hCH, Or.inr (Or.inr ⟨rfl, rfl⟩)⟩
    · simp only [hm0, if_false, (u9q_throwing t).1, Option.bind_some, if_true]
      have hm1 : 1 ≤ m := by omega
      have hph0 : u9okW (ph 0) = true := (hPH.2 0 (by omega)).1
      obtain ⟨G, hGdef⟩ : ∃ G : Nat → List (Int64 × Int32), G = fun k => u9gk n (fun i => wd (24 * p + i)) (fun i => mc (24 * p + i)) (ph k) := ⟨_, rfl⟩
      have hGk : ∀ k, u9gk n (fun i => wd (24 * p + i)) (fun i => mc (24 * p + i)) (ph k) = G k := fun k => by rw [hGdef]
      have hGlen : ∀ k, 1 ≤ (G k).length ∧ (G k).length ≤ 24 := fun k => by rw [← hGk]; exact u9gk_len hn _ _ _
      have hGok : ∀ k, k < m → ∀ e, e ∈ G k → u9okW e.1 = true ∧ ∃ a, a ≤ 20000 ∧ e.2 = u9qi a := fun k hk e he => by
        rw [← hGk] at he; exact u9gk_ok hW (hPH.2 k hk).1 e he
      obtain ⟨cnt, hcnt⟩ : ∃ cnt : Nat → Nat, cnt = fun k => if k < m then (G k).length else 1 := ⟨_, rfl⟩
      obtain ⟨gw, hgw⟩ : ∃ gw : Nat → Nat → Int64, gw = fun k i => if k < m ∧ i < (G k).length then ((G k).getD i (0, 0)).1 else ph 0 := ⟨_, rfl⟩
      obtain ⟨al, hal⟩ : ∃ al : Nat → Nat → Int, al = fun k i => if k < m ∧ i < (G k).length then ((G k).getD i (0, 0)).2.toInt else 0 := ⟨_, rfl⟩
      obtain ⟨sg, hsgd⟩ : ∃ sg : Nat → Nat → Nat → Int, sg = fun k i j => (u9sv pn ft sd le (gw k i) (gw (k + 1) j) : Int) := ⟨_, rfl⟩
      have hsg : ∀ k i j, sg k i j = (u9sv pn ft sd le (gw k i) (gw (k + 1) j) : Int) := fun k i j => by rw [hsgd]
      have hcm : ∀ k, k < m → cnt k = (G k).length := fun k hk => by rw [hcnt]; exact if_pos hk
      have hcn : ∀ k, 1 ≤ cnt k ∧ cnt k ≤ 24 := by
        intro k
        rw [hcnt]
        show 1 ≤ (if k < m then (G k).length else 1) ∧ (if k < m then (G k).length else 1) ≤ 24
        split
        · exact hGlen k
        · omega
      have hget : ∀ k i, k < m → i < (G k).length → (G k)[i]? = some ((G k).getD i (0, 0)) := by
        intro k i _ hi
        rw [List.getD_eq_getElem?_getD, List.getElem?_eq_getElem hi]; rfl
      have hge : ∀ k, k < m → ∀ i, i < cnt k → (G k)[i]? = some (gw k i, u9zi (al k i)) := by
        intro k hk i hi
        rw [hcm k hk] at hi
        rw [hget k i hk hi, hgw, hal]
        show some ((G k).getD i (0, 0)) = some (if k < m ∧ i < (G k).length then ((G k).getD i (0, 0)).1 else ph 0, u9zi (if k < m ∧ i < (G k).length then ((G k).getD i (0, 0)).2.toInt else 0))
        rw [if_pos ⟨hk, hi⟩, if_pos ⟨hk, hi⟩, u9zi_of]
      have hw : ∀ k i, i < cnt k → u9okW (gw k i) = true := by
        intro k i hi
        by_cases hk : k < m
        · exact (hGok k hk _ (List.mem_of_getElem? (hge k hk i hi))).1
        · rw [hgw]
          show u9okW (if k < m ∧ i < (G k).length then ((G k).getD i (0, 0)).1 else ph 0) = true
          rw [if_neg (fun hh => hk hh.1)]; exact hph0
      have ha : ∀ k i, 0 ≤ al k i ∧ al k i ≤ 20000 := by
        intro k i
        rw [hal]
        show 0 ≤ (if k < m ∧ i < (G k).length then ((G k).getD i (0, 0)).2.toInt else 0) ∧ (if k < m ∧ i < (G k).length then ((G k).getD i (0, 0)).2.toInt else 0) ≤ 20000
        by_cases hk : k < m ∧ i < (G k).length
        · rw [if_pos hk]
          obtain ⟨_, x, hx, ex⟩ := hGok k hk.1 _ (List.mem_of_getElem? (hget k i hk.1 hk.2))
          rw [ex, u9qi_toInt (by omega)]; omega
        · rw [if_neg hk]; omega
      obtain ⟨cho', cd', co', fo', cts', L', es, hL', hch'⟩ := u9q_settle hm1 hW hPH hP hq hcn hw hsg ha (fun k hk => ⟨by rw [hGk, hcm k hk], fun i hi => by rw [hGk]; exact hge k hk i hi⟩) (u9qi cs) cho cd co fo cts hL
      obtain ⟨Tb1, mn1, mcd1, mao1, mch1, e46, h46⟩ := u9q_46_k hm4 (show p < 3 by omega) hW hsz (ph := ph) (u9qi th) (u9qi pn) nb ft sd le a 0 0 (u9qi cs) crr m 0 Tb mn mcd mao mch (by omega) (fun j hj => absurd hj (by omega)) FU (by unfold FU; omega)
      have e46' : f_M_correct_46 (u9qi th) (u9qi pn) nb sz wd mc ft sd le ph a 0 0 (u9qi cs) crr (u9qi m) (u9qi p) FU Tb mn mcd mao mch 0 = some (Tb1, mn1, mcd1, mao1, mch1) := e46
      have hMG : u9MG m cnt gw al mn1 mcd1 mao1 := by
        intro k hk
        obtain ⟨a1, a2, _⟩ := h46 k hk
        rw [hGk] at a1 a2
        exact ⟨by rw [a1, hcm k hk], fun i hi => a2 i _ (hge k hk i hi)⟩
      have hsb : ∀ k i j, 0 ≤ sg k i j ∧ sg k i j ≤ 2000 := by
        intro k i j; rw [hsg]; have := u9sv_le (n := pn) (ft := ft) (sd := sd) (le := le) (a := gw k i) (b := gw (k + 1) j); omega
      have hCb := u9Cc_bd (cnt := cnt) ha hsb (m - 1) 0 (u9Pp al sg cnt m 0)
      have hrr : ((m - 1 : Nat) : Int) ≤ 3 := by omega
      have hWp := u9Wd_pos hcn m 0
      have hWl := u9Wd_le hcn m 0
      have hpw : 24 ^ m ≤ 24 ^ 4 := Nat.pow_le_pow_right (by omega) hm4
      have hnu0 : u9nu cnt (fun _ => 0) m 0 = 0 := u9nu_zero m 0 (fun _ _ _ => rfl)
      obtain ⟨crr', mch', e80, hcr⟩ := u9q_80_k hm1 hm4 hMG hcn hP hq hsg ha (u9qi th) nb sz wd mc ph a 0 0 (u9qi cs) Tb1 (u9Wd cnt m 0 - 1) (fun _ => 0) mch1 crr 1000000 (by rw [hnu0]; omega) (fun k => by have := hcn k; omega) (fun j hj => (h46 j hj).2.2) (by omega) (fun hh => by rw [hnu0] at hh; omega) (fun _ => by omega) FU (by unfold FU; omega)
      have e80' : f_M_correct_80 (u9qi th) (u9qi pn) nb sz wd mc ft sd le ph a 0 0 (u9qi cs) Tb1 mn1 mcd1 mao1 (u9qi m) FU crr mch1 1000000 1 = some (crr', mch', u9zi (u9Cc al sg cnt (m - 1) 0 (u9Pp al sg cnt m 0))) := e80
      have hPv := u9Pp_lt (al := al) (sg := sg) hcn m
      simp only [es, e46', e80', Option.bind_some]
      exact ⟨0, _, L', m, cho', cd', co', fo', cts', 0, Tb1, crr', mn1, mcd1, mao1, mch', rfl, rfl, hL', ⟨hm4, fun k hk => ⟨by rw [hcr k hk]; exact hw k _ (hPv k), by rw [hch' k hk, hcr k hk]⟩⟩, Or.inl ⟨rfl, rfl⟩⟩
  · refine ⟨3, 0, L, cs, cho, cd, co, fo, cts, 1, Tb, crr, mn, mcd, mao, mch, ?_, ?_, hL, hCH, Or.inr (Or.inl ⟨rfl, rfl⟩)⟩
    · unfold f_S_correct f_Phrase_clear
      rw [e1]
      simp only [Option.bind_some, u9d30, u9d31, u9d32, if_false]
    · unfold f_M_correct f_M_correct_26 f_M_correct_35
      rw [e2]
      simp only [Option.bind_some, em, if_false, hz]
      by_cases hm0 : m = 0
      · simp only [hm0, if_true, (u9q_throwing t).2.2.2, Option.bind_some, u9n10, if_false]
      · simp only [hm0, if_false, (u9q_throwing t).2.1, Option.bind_some, u9n10]
