theorem u9q_cf {cnt : Nat → Nat} {gw : Nat → Nat → Int64} {al : Nat → Nat → Int} {cd : Nat → Nat → Int64} {cts : Nat → Int32} {pn fs sc tm ft sd le q} (hP : u9PR pn fs sc tm ft sd le q) (hq : q < 100000) (hcn : ∀ k, 1 ≤ cnt k ∧ cnt k ≤ 24) (hw : ∀ k i, i < cnt k → u9okW (gw k i) = true) {sg : Nat → Nat → Nat → Int} (hsg : ∀ k i j, sg k i j = (u9sv pn ft sd le (gw k i) (gw (k + 1) j) : Int)) (ha : ∀ k i, 0 ≤ al k i ∧ al k i ≤ 20000) {pl r : Nat} (hpl : pl + 1 < 4) (hr : r ≤ 4) (hct0 : cts pl = u9qi (cnt pl)) (hct : cts (pl + 1) = u9qi (cnt (pl + 1))) (hd0 : u9Gd gw cnt cd pl) (hd1 : u9Gd gw cnt cd (pl + 1)) (co fo : Nat → Nat → Int32) (hc0 : ∀ i, i < cnt pl → co pl i = u9zi (al pl i)) (hc1 : ∀ j, j < cnt (pl + 1) → co (pl + 1) j = u9zi (u9Cc al sg cnt r (pl + 1) j)) :
    ∃ co' fo', f_Phrase_chooseFollowers cd co fo cts (u9qi pn) fs sc tm (u9qi pl) = some (co', fo') ∧ (∀ i', i' < cnt pl → co' pl i' = u9zi (u9Cc al sg cnt (r + 1) pl i') ∧ fo' pl i' = u9qi (u9Fc al sg cnt r pl i')) ∧ (∀ k, k ≠ pl → co' k = co k ∧ fo' k = fo k) := by
  have h0 := hcn pl
  obtain ⟨co', fo', e, g1, g2⟩ := u9q_cf_out hP hq hcn hw hsg ha hpl hr hct0 hct hd0 hd1 co fo hc1 (cnt pl) 0 co fo (by omega) (fun i' hi' => absurd hi' (by omega)) (fun i' _ hi' => hc0 i' hi') (fun _ _ => ⟨rfl, rfl⟩) FU (by unfold FU; omega)
  refine ⟨co', fo', ?_, g1, g2⟩
  unfold f_Phrase_chooseFollowers
  have e' : f_Phrase_chooseFollowers_2 cd cts (u9qi pn) fs sc tm (u9qi pl) FU co fo 0 = some (co', fo') := e
  rw [e']; rfl
def u9Pl (m : Nat) (cnt : Nat → Nat) (gw : Nat → Nat → Int64) (al : Nat → Nat → Int) (sg : Nat → Nat → Nat → Int) (cd : Nat → Nat → Int64) (co fo : Nat → Nat → Int32) (cts : Nat → Int32) (k : Nat) : Prop :=
  cts k = u9qi (cnt k) ∧ u9Gd gw cnt cd k ∧ (∀ i, i < cnt k → co k i = u9zi (u9Cc al sg cnt (m - 1 - k) k i)) ∧ (k + 1 < m → ∀ i, i < cnt k → fo k i = u9qi (u9Fc al sg cnt (m - 2 - k) k i))
theorem u9q_settle_k {m n : Nat} (hm : m ≤ 4) {dt : Nat → Int64} {dc : Nat → Int32} {ws : Nat → Int64} {mc : Nat → Int32} (hW : u9WR n dt dc ws mc) {sd0 ph : Nat → Int64} (hPH : u9PH m sd0 ph) {cnt : Nat → Nat} {gw : Nat → Nat → Int64} {al : Nat → Nat → Int} {pn fs sc tm ft sd le q} (hP : u9PR pn fs sc tm ft sd le q) (hq : q < 100000) (hcn : ∀ k, 1 ≤ cnt k ∧ cnt k ≤ 24) (hw : ∀ k i, i < cnt k → u9okW (gw k i) = true) {sg : Nat → Nat → Nat → Int} (hsg : ∀ k i j, sg k i j = (u9sv pn ft sd le (gw k i) (gw (k + 1) j) : Int)) (ha : ∀ k i, 0 ≤ al k i ∧ al k i ≤ 20000)
    (hG : ∀ k, k < m → (u9gk n ws mc (ph k)).length = cnt k ∧ ∀ i, i < cnt k → (u9gk n ws mc (ph k))[i]? = some (gw k i, u9zi (al k i))) (csz : Int32) (cho : Nat → Int64) :
    ∀ pl (cd : Nat → Nat → Int64) (co fo : Nat → Nat → Int32) (cts : Nat → Int32) (L : Nat → Nat → Int32), pl ≤ m → u9Bd L → (∀ k, pl ≤ k → k < m → u9Pl m cnt gw al sg cd co fo cts k) → ∀ fu, pl < fu → ∃ cd' co' fo' cts' L', f_Phrase_settle_8 (u9qi m) sd0 (u9qi n) dt dc (u9qi pn) fs sc tm csz cho fu cd co fo cts L (u9qi pl - 1) = some (cd', co', fo', cts', L') ∧ u9Bd L' ∧ (∀ k, k < m → u9Pl m cnt gw al sg cd' co' fo' cts' k) := by
  intro pl
  induction pl with
  | zero =>
    intro cd co fo cts L hpl hL hPl fu hf
    obtain ⟨fu, rfl⟩ : ∃ m, fu = m + 1 := ⟨fu - 1, by omega⟩
    refine ⟨cd, co, fo, cts, L, ?_, hL, fun k hk => hPl k (by omega) hk⟩
    simp only [f_Phrase_settle_8, f_Phrase_settle_8b]
    rw [if_pos (by decide)]
  | succ pl ih =>
    intro cd co fo cts L hpl hL hPl fu hf
    obtain ⟨fu, rfl⟩ : ∃ m, fu = m + 1 := ⟨fu - 1, by omega⟩
    have e1 : u9qi (pl + 1) - 1 = u9qi pl := u9q_m1 (by omega)
    have l1 : ¬ (u9qi pl < 0) := by rw [u9qi_lit, u9qi_lt (by omega) (by omega)]; omega
    obtain ⟨hx, hsd⟩ := hPH.2 pl (by omega)
    obtain ⟨cd1, co1, L1, eg, hL1, hR, hoth⟩ := u9q_gather hW (show pl < 4 by omega) hx hsd cts cd co L hL
    obtain ⟨hGl, hGe⟩ := hG pl (by omega)
    rw [hGl] at eg
    have hd1 : u9Gd gw cnt cd1 pl := fun i hi => (hR i _ (hGe i hi)).1
    have hc1 : ∀ i, i < cnt pl → co1 pl i = u9zi (al pl i) := fun i hi => (hR i _ (hGe i hi)).2
    have hst : (u9qi m - 1 ≤ u9qi pl) = (m - 1 ≤ pl) := by rw [u9q_m1 (by omega), u9qi_le (by omega) (by omega)]
    have ed : u9qi pl + (-1) = u9qi pl - 1 := (Int32.sub_eq_add_neg (u9qi pl) 1).symm
    rw [e1]
    simp only [f_Phrase_settle_8, f_Phrase_settle_8b, f_Phrase_settle_39, l1, if_false, eg, Option.bind_some, hst, ed]
    have hct1 : upd cts pl (u9qi (cnt pl)) pl = u9qi (cnt pl) := by simp [upd]
    have hkeep : ∀ (co2 fo2 : Nat → Nat → Int32), (∀ k, k ≠ pl → co2 k = co1 k ∧ fo2 k = fo k) → ∀ k, pl < k → k < m → u9Pl m cnt gw al sg cd1 co2 fo2 (upd cts pl (u9qi (cnt pl))) k := by
      intro co2 fo2 h2 k hk1 hk2
      obtain ⟨p1, p2, p3, p4⟩ := hPl k (by omega) hk2
      have hkp : k ≠ pl := by omega
      refine ⟨by simp only [upd, hkp, if_false]; exact p1, fun i hi => ?_, fun i hi => ?_, fun h i hi => ?_⟩
      · rw [(hoth k hkp).1]; exact p2 i hi
      · rw [(h2 k hkp).1, (hoth k hkp).2]; exact p3 i hi
      · rw [(h2 k hkp).2]; exact p4 h i hi
    by_cases hlast : m - 1 ≤ pl
    · simp only [hlast, if_true]
      refine ih cd1 co1 fo _ L1 (by omega) hL1 (fun k hk1 hk2 => ?_) fu (by omega)
      by_cases hkp : k = pl
      · subst hkp
        refine ⟨hct1, hd1, fun i hi => ?_, fun h => absurd h (by omega)⟩
        rw [hc1 i hi, show m - 1 - k = 0 by omega]; rfl
      · exact hkeep co1 fo (fun _ _ => ⟨rfl, rfl⟩) k (by omega) hk2
    · simp only [hlast, if_false]
      obtain ⟨p1, p2, p3, p4⟩ := hPl (pl + 1) (by omega) (by omega)
      have hpp : pl + 1 ≠ pl := by omega
      obtain ⟨co2, fo2, ef, g1, g2⟩ := u9q_cf hP hq hcn hw hsg ha (show pl + 1 < 4 by omega) (r := m - 1 - (pl + 1)) (by omega) hct1 (cts := upd cts pl (u9qi (cnt pl))) (by simp only [upd, hpp, if_false]; exact p1) hd1 (fun i hi => by rw [(hoth (pl + 1) hpp).1]; exact p2 i hi) co1 fo hc1 (fun j hj => by rw [(hoth (pl + 1) hpp).2]; exact p3 j hj)
      simp only [ef, Option.bind_some]
      refine ih cd1 co2 fo2 _ L1 (by omega) hL1 (fun k hk1 hk2 => ?_) fu (by omega)
      by_cases hkp : k = pl
      · subst hkp
        refine ⟨hct1, hd1, fun i hi => ?_, fun h i hi => ?_⟩
        · rw [(g1 i hi).1]; congr 2; omega
        · rw [(g1 i hi).2, show m - 1 - (k + 1) = m - 2 - k by omega]
      · exact hkeep co2 fo2 g2 k (by omega) hk2
def u9Pp (al : Nat → Nat → Int) (sg : Nat → Nat → Nat → Int) (cnt : Nat → Nat) (m : Nat) : Nat → Nat
  | 0 => u9am (u9Cc al sg cnt (m - 1) 0) (cnt 0 - 1)
  | k + 1 => u9Fc al sg cnt (m - 2 - k) k (u9Pp al sg cnt m k)
theorem u9Pp_lt {al sg} {cnt : Nat → Nat} (hcn : ∀ k, 1 ≤ cnt k ∧ cnt k ≤ 24) (m : Nat) : ∀ k, u9Pp al sg cnt m k < cnt k := by
  intro k
  cases k with
  | zero => have := u9am_le (u9Cc al sg cnt (m - 1) 0) (cnt 0 - 1); have := hcn 0; simp only [u9Pp]; omega
  | succ k =>
    have h1 := hcn (k + 1)
    simp only [u9Pp, u9Fc]
    have := u9am_le (fun j => al k (u9Pp al sg cnt m k) + u9Cc al sg cnt (m - 2 - k) (k + 1) j - sg k (u9Pp al sg cnt m k) j) (cnt (k + 1) - 1)
    omega
theorem u9q_ch4_k {m : Nat} (hm1 : 1 ≤ m) {c : Nat} (hc1 : 1 ≤ c) (hc : c ≤ 24) {cd : Nat → Nat → Int64} {co fo : Nat → Nat → Int32} {cts : Nat → Int32} (hct : cts 0 = u9qi c) {f : Nat → Int} (hco : ∀ i, i < c → co 0 i = u9zi (f i)) (hfb : ∀ j, -1000000000 ≤ f j ∧ f j ≤ 1000000000) (csz : Int32) (cho : Nat → Int64) :
    ∀ s j, j + s = c → 1 ≤ j → ∀ fu, s < fu → f_Phrase_choose_4 (u9qi m) cd co fo cts csz cho fu (u9qi (u9am f (j - 1))) (u9qi j) = some (u9qi (u9am f (c - 1))) := by
  intro s
  have z0 : (0 : Int32).toNatClampNeg = 0 := by decide
  induction s with
  | zero =>
    intro j hj hj1 fu hfu
    obtain ⟨fu, rfl⟩ : ∃ m, fu = m + 1 := ⟨fu - 1, by omega⟩
    have l1 : u9qi c ≤ u9qi j := by rw [u9qi_le (by omega) (by omega)]; omega
    simp only [f_Phrase_choose_4, f_Phrase_choose_4b, z0, hct, l1, if_true]
    rw [show j = c by omega]
  | succ s ih =>
    intro j hj hj1 fu hfu
    obtain ⟨fu, rfl⟩ : ∃ m, fu = m + 1 := ⟨fu - 1, by omega⟩
    have l1 : ¬ (u9qi c ≤ u9qi j) := by rw [u9qi_le (by omega) (by omega)]; omega
    have ham := u9am_le f (j - 1)
    have oj : okI (u9qi j) 24 = true := by rw [u9qi_ok _ (by omega)]; omega
    have oa : okI (u9qi (u9am f (j - 1))) 24 = true := by rw [u9qi_ok _ (by omega)]; omega
    have ihh := ih (j + 1) (by omega) (by omega) fu (by omega)
    have hb1 := hfb (u9am f (j - 1))
    have hb2 := hfb j
    have hle := u9zi_le hb1.1 hb1.2 hb2.1 hb2.2
    simp only [f_Phrase_choose_4, f_Phrase_choose_4b, f_Phrase_choose_35, z0, hct, l1, if_false, oj, oa, if_true, u9qi_cl (show j < 2147483648 by omega), u9qi_cl (show u9am f (j - 1) < 2147483648 by omega), hco j (by omega), hco (u9am f (j - 1)) (by omega), hle, u9q_p1]
    obtain ⟨j', rfl⟩ : ∃ j', j = j' + 1 := ⟨j - 1, by omega⟩
    simp only [Nat.add_sub_cancel] at ihh ⊢
    simp only [u9am] at ihh
    by_cases hcc : f (u9am f j') ≤ f (j' + 1)
    · simp only [hcc, if_true] at ihh ⊢
      exact ihh
    · simp only [hcc, if_false] at ihh ⊢
      exact ihh
theorem u9q_ch59_k {m : Nat} (hm : m ≤ 4) {cnt : Nat → Nat} {gw : Nat → Nat → Int64} {al : Nat → Nat → Int} {sg : Nat → Nat → Nat → Int} (hcn : ∀ k, 1 ≤ cnt k ∧ cnt k ≤ 24) {cd : Nat → Nat → Int64} {co fo : Nat → Nat → Int32} {cts : Nat → Int32} (hPl : ∀ k, k < m → u9Pl m cnt gw al sg cd co fo cts k) (csz l1 : Int32) :
    ∀ s k (cho : Nat → Int64), k + s = m → 1 ≤ k → (∀ j, j < k → cho j = u9T (gw j (u9Pp al sg cnt m j))) → ∀ fu, s < fu → ∃ cho', f_Phrase_choose_59 (u9qi m) cd co fo cts csz l1 fu cho (u9qi (u9Pp al sg cnt m (k - 1))) (u9qi k) = some cho' ∧ (∀ j, j < m → cho' j = u9T (gw j (u9Pp al sg cnt m j))) := by
  intro s
  induction s with
  | zero =>
    intro k cho hk hk1 h fu hfu
    obtain ⟨fu, rfl⟩ : ∃ m, fu = m + 1 := ⟨fu - 1, by omega⟩
    have l1 : u9qi m ≤ u9qi k := by rw [u9qi_le (by omega) (by omega)]; omega
    refine ⟨cho, ?_, fun j hj => h j (by omega)⟩
    simp only [f_Phrase_choose_59, f_Phrase_choose_59b, l1, if_true]
  | succ s ih =>
    intro k cho hk hk1 h fu hfu
    obtain ⟨fu, rfl⟩ : ∃ m, fu = m + 1 := ⟨fu - 1, by omega⟩
    have ll : ¬ (u9qi m ≤ u9qi k) := by rw [u9qi_le (by omega) (by omega)]; omega
    have hp1 := u9Pp_lt (al := al) (sg := sg) hcn m (k - 1)
    have hp2 := u9Pp_lt (al := al) (sg := sg) hcn m k
    have hc1 := hcn (k - 1)
    have hc2 := hcn k
    have ok1 : okI (u9qi (k - 1)) 4 = true := by rw [u9qi_ok _ (by omega)]; omega
    have ok2 : okI (u9qi k) 4 = true := by rw [u9qi_ok _ (by omega)]; omega
    have o3 : okI (u9qi (u9Pp al sg cnt m (k - 1))) 24 = true := by rw [u9qi_ok _ (by omega)]; omega
    have o4 : okI (u9qi (u9Pp al sg cnt m k)) 24 = true := by rw [u9qi_ok _ (by omega)]; omega
    have hfo : fo (k - 1) (u9Pp al sg cnt m (k - 1)) = u9qi (u9Pp al sg cnt m k) := by
      rw [(hPl (k - 1) (by omega)).2.2.2 (by omega) _ hp1]
      obtain ⟨k', rfl⟩ : ∃ k', k = k' + 1 := ⟨k - 1, by omega⟩
      rfl
    simp only [f_Phrase_choose_59, f_Phrase_choose_59b, ll, if_false, u9q_m1 hk1, ok1, ok2, o3, if_true, u9qi_cl (show k - 1 < 2147483648 by omega), u9qi_cl (show k < 2147483648 by omega), u9qi_cl (show u9Pp al sg cnt m (k - 1) < 2147483648 by omega), hfo, o4, u9qi_cl (show u9Pp al sg cnt m k < 2147483648 by omega), u9q_p1]
    have := ih (k + 1) (vp_updL cho k (cd k (u9Pp al sg cnt m k))) (by omega) (by omega) (fun j hj => by
      simp only [vp_updL]
      by_cases hjk : j = k
      · subst hjk; rw [if_pos rfl]; exact (hPl j (by omega)).2.1 _ hp2
      · rw [if_neg hjk]; exact h j (by omega)) fu (by omega)
    simpa only [Nat.add_sub_cancel] using this
theorem u9q_settle {m n : Nat} (hm1 : 1 ≤ m) {dt : Nat → Int64} {dc : Nat → Int32} {ws : Nat → Int64} {mc : Nat → Int32} (hW : u9WR n dt dc ws mc) {sd0 ph : Nat → Int64} (hPH : u9PH m sd0 ph) {cnt : Nat → Nat} {gw : Nat → Nat → Int64} {al : Nat → Nat → Int} {pn fs sc tm ft sd le q} (hP : u9PR pn fs sc tm ft sd le q) (hq : q < 100000) (hcn : ∀ k, 1 ≤ cnt k ∧ cnt k ≤ 24) (hw : ∀ k i, i < cnt k → u9okW (gw k i) = true) {sg : Nat → Nat → Nat → Int} (hsg : ∀ k i j, sg k i j = (u9sv pn ft sd le (gw k i) (gw (k + 1) j) : Int)) (ha : ∀ k i, 0 ≤ al k i ∧ al k i ≤ 20000)
    (hG : ∀ k, k < m → (u9gk n ws mc (ph k)).length = cnt k ∧ ∀ i, i < cnt k → (u9gk n ws mc (ph k))[i]? = some (gw k i, u9zi (al k i))) (csz : Int32) (cho : Nat → Int64) (cd : Nat → Nat → Int64) (co fo : Nat → Nat → Int32) (cts : Nat → Int32) {L : Nat → Nat → Int32} (hL : u9Bd L) :
    ∃ cho' cd' co' fo' cts' L', f_Phrase_settle (u9qi m) csz sd0 cho cd co fo cts (u9qi n) dt dc L (u9qi pn) fs sc tm = some (u9zi (u9Cc al sg cnt (m - 1) 0 (u9Pp al sg cnt m 0)), u9qi m, cho', cd', co', fo', cts', L') ∧ u9Bd L' ∧ (∀ j, j < m → cho' j = u9T (gw j (u9Pp al sg cnt m j))) := by
  have hm := hPH.1
  obtain ⟨cd', co', fo', cts', L', e, hL', hPl⟩ := u9q_settle_k hm hW hPH hP hq hcn hw hsg ha hG csz cho m cd co fo cts L (Nat.le_refl _) hL (fun k h1 h2 => absurd h1 (by omega)) FU (by unfold FU; omega)
  have hsb : ∀ k i j, 0 ≤ sg k i j ∧ sg k i j ≤ 2000 := by
    intro k i j; rw [hsg]; have := u9sv_le (n := pn) (ft := ft) (sd := sd) (le := le) (a := gw k i) (b := gw (k + 1) j); omega
  have hCb := u9Cc_bd (cnt := cnt) ha hsb (m - 1) 0
  have hrr : ((m - 1 : Nat) : Int) ≤ 4 := by omega
  have h0 := hcn 0
  obtain ⟨p1, p2, p3, p4⟩ := hPl 0 (by omega)
  have e4 := u9q_ch4_k (fo := fo') (cd := cd') hm1 h0.1 h0.2 p1 (f := u9Cc al sg cnt (m - 1) 0) (fun i hi => by have := p3 i hi; rwa [Nat.sub_zero] at this) (fun j => by have := hCb j; omega) csz cho (cnt 0 - 1) 1 (by omega) (by omega) FU (by unfold FU; omega)
  have e4' : f_Phrase_choose_4 (u9qi m) cd' co' fo' cts' csz cho FU 0 1 = some (u9qi (u9Pp al sg cnt m 0)) := e4
  have hp0 := u9Pp_lt (al := al) (sg := sg) hcn m 0
  have o0 : okI (u9qi (u9Pp al sg cnt m 0)) 24 = true := by rw [u9qi_ok _ (by omega)]; omega
  have z0 : (0 : Int32).toNatClampNeg = 0 := by decide
  obtain ⟨cho', e59, hcho⟩ := u9q_ch59_k hm hcn hPl csz (u9qi (u9Pp al sg cnt m 0)) (m - 1) 1 (vp_updL cho 0 (cd' 0 (u9Pp al sg cnt m 0))) (by omega) (by omega) (fun j hj => by
    obtain rfl : j = 0 := by omega
    simp only [vp_updL, if_true]; exact p2 _ hp0) FU (by unfold FU; omega)
  have e59' : f_Phrase_choose_59 (u9qi m) cd' co' fo' cts' csz (u9qi (u9Pp al sg cnt m 0)) FU (vp_updL cho 0 (cd' 0 (u9Pp al sg cnt m 0))) (u9qi (u9Pp al sg cnt m 0)) 1 = some cho' := e59
  refine ⟨cho', cd', co', fo', cts', L', ?_, hL', hcho⟩
  unfold f_Phrase_settle f_Phrase_choose
  have p3' := p3 _ hp0
  rw [Nat.sub_zero] at p3'
  simp only [e, Option.bind_some, e4', o0, if_true, z0, u9qi_cl (show u9Pp al sg cnt m 0 < 2147483648 by omega), e59', p3']
