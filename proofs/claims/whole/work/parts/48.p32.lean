def u9MG (m : Nat) (cnt : Nat → Nat) (gw : Nat → Nat → Int64) (al : Nat → Nat → Int) (mn : Nat → Int32) (cd : Nat → Int64) (ao : Nat → Int32) : Prop := ∀ k, k < m → mn k = u9qi (cnt k) ∧ ∀ i, i < cnt k → cd (24 * k + i) = gw k i ∧ ao (24 * k + i) = u9zi (al k i)
theorem u9q_costOf_k {m : Nat} (hm : m ≤ 4) {cnt : Nat → Nat} {gw : Nat → Nat → Int64} {al : Nat → Nat → Int} {mn : Nat → Int32} {cd : Nat → Int64} {ao : Nat → Int32} (hM : u9MG m cnt gw al mn cd ao) (hcn : ∀ k, 1 ≤ cnt k ∧ cnt k ≤ 24) {pn fs sc tm ft sd le q} (hP : u9PR pn fs sc tm ft sd le q) (hq : q < 100000) {sg : Nat → Nat → Nat → Int} (hsg : ∀ k i j, sg k i j = (u9sv pn ft sd le (gw k i) (gw (k + 1) j) : Int)) {c : Nat → Nat} (hv : ∀ k, c k < cnt k) {ch : Nat → Int32} (hch : ∀ k, k < m → ch k = u9qi (c k)) :
    ∀ s k, k + s = m → ∀ fu, s < fu → f_M_costOf_4 (u9qi pn) ft sd le cd ao ch (u9qi m) fu (u9zi (u9ts al sg c k)) (u9qi k) = some (u9zi (u9ts al sg c m)) := by
  intro s
  have hpn := hP.1
  induction s with
  | zero =>
    intro k hk fu hf
    obtain ⟨fu, rfl⟩ : ∃ m, fu = m + 1 := ⟨fu - 1, by omega⟩
    obtain rfl : k = m := by omega
    have l1 : u9qi k ≤ u9qi k := u9i32_refl _
    simp only [f_M_costOf_4, f_M_costOf_4b, l1, if_true]
  | succ s ih =>
    intro k hk fu hf
    obtain ⟨fu, rfl⟩ : ∃ m, fu = m + 1 := ⟨fu - 1, by omega⟩
    have l1 : ¬ (u9qi m ≤ u9qi k) := by rw [u9qi_le (by omega) (by omega)]; omega
    have hck := hv k
    have h24 := hcn k
    have ok : okI (u9qi k) 4 = true := by rw [u9qi_ok _ (by omega)]; omega
    have ck : (u9qi k).toNatClampNeg = k := u9qi_cl (by omega)
    have x1 : (24 : Int32) * u9qi k + u9qi (c k) = u9qi (24 * k + c k) := by rw [u9qi_lit, u9qi_mul, u9qi_add]
    have o1 : okI (u9qi (24 * k + c k)) 96 = true := by rw [u9qi_ok _ (by omega)]; omega
    have c1 : (u9qi (24 * k + c k)).toNatClampNeg = 24 * k + c k := u9qi_cl (by omega)
    obtain ⟨hcd, hao⟩ := (hM k (by omega)).2 (c k) hck
    have ihh := ih (k + 1) (by omega) fu (by omega)
    simp only [f_M_costOf_4, f_M_costOf_4b, f_M_costOf_119, l1, if_false, ok, if_true, ck, hch k (by omega), x1, o1, c1, hao, u9zi_add, u9q_p1]
    by_cases hk0 : k = 0
    · subst hk0
      rw [if_pos (by decide)]
      simp only [u9ts, if_true] at ihh
      simpa [u9ts] using ihh
    · have z0 : ¬ (u9qi k = 0) := by rw [u9qi_lit, u9qi_eq (by omega) (by omega)]; exact hk0
      have hck1 := hv (k - 1)
      have h241 := hcn (k - 1)
      have ok1 : okI (u9qi (k - 1)) 4 = true := by rw [u9qi_ok _ (by omega)]; omega
      have ck1 : (u9qi (k - 1)).toNatClampNeg = k - 1 := u9qi_cl (by omega)
      have x2 : (24 : Int32) * u9qi k - 24 + u9qi (c (k - 1)) = u9qi (24 * (k - 1) + c (k - 1)) := by
        rw [u9qi_lit, u9qi_mul, u9qi_sub (by omega), u9qi_add]; congr 1; omega
      have o2 : okI (u9qi (24 * (k - 1) + c (k - 1))) 96 = true := by rw [u9qi_ok _ (by omega)]; omega
      have c2 : (u9qi (24 * (k - 1) + c (k - 1))).toNatClampNeg = 24 * (k - 1) + c (k - 1) := u9qi_cl (by omega)
      obtain ⟨hcd1, _⟩ := (hM (k - 1) (by omega)).2 (c (k - 1)) hck1
      have hle := u9pix_le (n := pn) (ft := ft) (sd := sd) (a := gw (k - 1) (c (k - 1))) (b := gw k (c k)) pn 0 (by omega)
      have hts : u9ts al sg c (k + 1) = u9ts al sg c k + al k (c k) - (u9sv pn ft sd le (gw (k - 1) (c (k - 1))) (gw k (c k)) : Int) := by
        simp only [u9ts]; rw [if_neg hk0, hsg, show k - 1 + 1 = k by omega]
      rw [hts] at ihh
      simp only [z0, if_false, u9q_m1 (show 1 ≤ k by omega), ok1, if_true, ck1, hch (k - 1) (by omega), x2, o2, c2, hcd1, hcd, u9q_Mpix hpn, Option.bind_some]
      have h98 : ∀ v : Nat, v < 1000000 → f_M_costOf_98 (f_M_costOf_4 (u9qi pn) ft sd le cd ao ch (u9qi m) fu) (u9qi pn) ft sd le cd ao ch (u9qi m) (u9zi (u9ts al sg c k + al k (c k))) (u9qi k) (u9qi v) = f_M_costOf_4 (u9qi pn) ft sd le cd ao ch (u9qi m) fu (u9zi (u9ts al sg c k + al k (c k) - ((400 * min v 5 : Nat) : Int))) (u9qi (k + 1)) := by
        intro v hv'
        unfold f_M_costOf_98 f_M_costOf_116 f_M_costOf_119
        have l5 : ((5 : Int32) ≤ u9qi v) = (5 ≤ v) := by rw [u9qi_lit, u9qi_le (by omega) (by omega)]
        simp only [l5, u9q_p1]
        by_cases h5 : 5 ≤ v
        · simp only [h5, if_true]
          rw [show (400 : Int32) * 5 = u9zi ((400 * min v 5 : Nat) : Int) by rw [Nat.min_eq_right h5]; decide, u9zi_sub]
        · simp only [h5, if_false]
          rw [show (400 : Int32) * u9qi v = u9zi ((400 * min v 5 : Nat) : Int) by rw [Nat.min_eq_left (by omega), u9qi_lit, u9qi_mul, u9zi_q], u9zi_sub]
      have hsv : u9sv pn ft sd le (gw (k - 1) (c (k - 1))) (gw k (c k)) = if u9pix pn ft sd (gw (k - 1) (c (k - 1))) (gw k (c k)) pn 0 < pn then 400 * min (le (u9pix pn ft sd (gw (k - 1) (c (k - 1))) (gw k (c k)) pn 0)).toNatClampNeg 5 else 0 := rfl
      rw [hsv] at ihh
      generalize u9pix pn ft sd (gw (k - 1) (c (k - 1))) (gw k (c k)) pn 0 = p at *
      by_cases hp : p < pn
      · obtain ⟨_, _, _, _, _, v, v1, v2, v3⟩ := hP.2 p hp
        have lp : ¬ (u9qi pn ≤ u9qi p) := by rw [u9qi_le (by omega) (by omega)]; omega
        have op : okI (u9qi p) 40 = true := by rw [u9qi_ok _ (by omega)]; omega
        simp only [lp, if_false, op, if_true, u9qi_cl (show p < 2147483648 by omega), v3, h98 v (by omega)]
        simp only [hp, if_true, v3, u9qi_cl (show v < 2147483648 by omega)] at ihh
        exact ihh
      · have lp : u9qi pn ≤ u9qi p := by rw [u9qi_le (by omega) (by omega)]; omega
        simp only [lp, if_true]
        have := h98 0 (by omega)
        simp only [hp, if_false] at ihh
        refine (h98 0 (by omega)).trans ?_
        simpa using ihh
theorem u9q_costOf {m : Nat} (hm : m ≤ 4) {cnt : Nat → Nat} {gw : Nat → Nat → Int64} {al : Nat → Nat → Int} {mn : Nat → Int32} {cd : Nat → Int64} {ao : Nat → Int32} (hM : u9MG m cnt gw al mn cd ao) (hcn : ∀ k, 1 ≤ cnt k ∧ cnt k ≤ 24) {pn fs sc tm ft sd le q} (hP : u9PR pn fs sc tm ft sd le q) (hq : q < 100000) {sg : Nat → Nat → Nat → Int} (hsg : ∀ k i j, sg k i j = (u9sv pn ft sd le (gw k i) (gw (k + 1) j) : Int)) {c : Nat → Nat} (hv : ∀ k, c k < cnt k) {ch : Nat → Int32} (hch : ∀ k, k < m → ch k = u9qi (c k)) : f_M_costOf (u9qi pn) ft sd le cd ao ch (u9qi m) = some (u9zi (u9ts al sg c m)) := by
  unfold f_M_costOf
  have h := u9q_costOf_k hm hM hcn hP hq hsg hv hch m 0 (by omega) FU (by unfold FU; omega)
  have h' : f_M_costOf_4 (u9qi pn) ft sd le cd ao ch (u9qi m) FU 0 0 = some (u9zi (u9ts al sg c m)) := h
  rw [h']; rfl
theorem u9q_next_k {m : Nat} (hm : m ≤ 4) {cnt : Nat → Nat} (hcn : ∀ k, 1 ≤ cnt k ∧ cnt k ≤ 24) {mn : Nat → Int32} (hmn : ∀ k, k < m → mn k = u9qi (cnt k)) {c : Nat → Nat} (hv : ∀ k, c k < cnt k) (a0 : Int32) :
    ∀ k (ch : Nat → Int32), k ≤ m → (∀ j, j < k → ch j = u9qi (c j)) → (∀ j, k ≤ j → j < m → ch j = u9qi 0 ∧ c j + 1 = cnt j) → ∀ fu, k < fu → (∃ ch', f_M_next_4 mn a0 fu ch (u9qi k - 1) = some (.inl ch') ∧ u9nu cnt c m 0 + 1 = u9Wd cnt m 0) ∨ (∃ ch' c', f_M_next_4 mn a0 fu ch (u9qi k - 1) = some (.inr ch') ∧ (∀ j, c' j < cnt j) ∧ (∀ j, j < m → ch' j = u9qi (c' j)) ∧ u9nu cnt c' m 0 = u9nu cnt c m 0 + 1) := by
  intro k
  induction k with
  | zero =>
    intro ch hk h1 h2 fu hf
    obtain ⟨fu, rfl⟩ : ∃ m, fu = m + 1 := ⟨fu - 1, by omega⟩
    refine Or.inl ⟨ch, ?_, u9nu_max hcn m 0 (fun j _ hj => (h2 j (by omega) (by omega)).2)⟩
    simp only [f_M_next_4, f_M_next_4b]
    rw [if_pos (by decide)]
  | succ k ih =>
    intro ch hk h1 h2 fu hf
    obtain ⟨fu, rfl⟩ : ∃ m, fu = m + 1 := ⟨fu - 1, by omega⟩
    have e1 : u9qi (k + 1) - 1 = u9qi k := u9q_m1 (by omega)
    have l1 : ¬ (u9qi k < 0) := by rw [u9qi_lit, u9qi_lt (by omega) (by omega)]; omega
    have ok : okI (u9qi k) 4 = true := by rw [u9qi_ok _ (by omega)]; omega
    have ck : (u9qi k).toNatClampNeg = k := u9qi_cl (by omega)
    have hck := hv k
    have h24 := hcn k
    have eu : upd ch k (u9qi (c k + 1)) k = u9qi (c k + 1) := by simp [upd]
    have hle : (u9qi (cnt k) ≤ u9qi (c k + 1)) = (cnt k ≤ c k + 1) := u9qi_le (by omega) (by omega)
    have ed : u9qi k + (-1) = u9qi k - 1 := (Int32.sub_eq_add_neg (u9qi k) 1).symm
    rw [e1]
    simp only [f_M_next_4, f_M_next_4b, l1, if_false, ok, if_true, ck, h1 k (by omega), u9q_p1, eu, hmn k (by omega), hle, ed]
    by_cases hc : cnt k ≤ c k + 1
    · simp only [hc, if_true]
      refine ih _ (by omega) (fun j hj => ?_) (fun j hj1 hj2 => ?_) fu (by omega)
      · simp only [upd]
        rw [if_neg (by omega), if_neg (by omega)]; exact h1 j (by omega)
      · simp only [upd]
        by_cases hjk : j = k
        · subst hjk; rw [if_pos rfl]; exact ⟨rfl, by omega⟩
        · rw [if_neg hjk, if_neg hjk]; exact h2 j (by omega) hj2
    · simp only [hc, if_false]
      refine Or.inr ⟨_, fun j => if j < k then c j else if j = k then c k + 1 else 0, rfl, fun j => ?_, fun j hj => ?_, ?_⟩
      · have := hv j; have := hcn j
        simp only
        split
        · omega
        · split
          · rename_i hjk; subst hjk; omega
          · omega
      · simp only [upd]
        by_cases hjk : j = k
        · subst hjk; rw [if_pos rfl, if_neg (by omega), if_pos rfl]
        · rw [if_neg hjk]
          by_cases hlt : j < k
          · rw [if_pos hlt]; exact h1 j (by omega)
          · rw [if_neg hlt, if_neg hjk]; exact (h2 j (by omega) hj).1
      · refine u9nu_inc hcn (k := k) (by omega) (fun j hj => if_pos hj) (by simp) (fun j hj1 hj2 => (if_neg (by omega)).trans (if_neg (by omega))) (fun j hj1 hj2 => (h2 j (by omega) hj2).2) m 0 (by omega) (by omega)
theorem u9q_next {m : Nat} (hm : m ≤ 4) {cnt : Nat → Nat} (hcn : ∀ k, 1 ≤ cnt k ∧ cnt k ≤ 24) {mn : Nat → Int32} (hmn : ∀ k, k < m → mn k = u9qi (cnt k)) {c : Nat → Nat} (hv : ∀ k, c k < cnt k) {ch : Nat → Int32} (hch : ∀ j, j < m → ch j = u9qi (c j)) :
    (∃ ch', f_M_next mn ch (u9qi m) = some (0, ch') ∧ u9nu cnt c m 0 + 1 = u9Wd cnt m 0) ∨ (∃ ch' c', f_M_next mn ch (u9qi m) = some (1, ch') ∧ (∀ j, c' j < cnt j) ∧ (∀ j, j < m → ch' j = u9qi (c' j)) ∧ u9nu cnt c' m 0 = u9nu cnt c m 0 + 1) := by
  unfold f_M_next
  rcases u9q_next_k hm hcn hmn hv (u9qi m) m ch (Nat.le_refl _) hch (fun j h1 h2 => absurd h1 (by omega)) FU (by unfold FU; omega) with ⟨ch', e, h⟩ | ⟨ch', c', e, h⟩
  · exact Or.inl ⟨ch', by rw [e]; rfl, h⟩
  · exact Or.inr ⟨ch', c', by rw [e]; rfl, h⟩
theorem u9q_95 {m : Nat} (hm : m ≤ 4) {cnt : Nat → Nat} {gw : Nat → Nat → Int64} {al : Nat → Nat → Int} {mn : Nat → Int32} {cd : Nat → Int64} {ao : Nat → Int32} (hM : u9MG m cnt gw al mn cd ao) (hcn : ∀ k, 1 ≤ cnt k ∧ cnt k ≤ 24) {c : Nat → Nat} (hv : ∀ k, c k < cnt k) {ch : Nat → Int32} (hch : ∀ k, k < m → ch k = u9qi (c k)) (x1 x2 : Int32) (x3 x4 : Nat → Int32) (x5 : Nat → Int64) (x6 : Nat → Int32) (x7 x8 : Nat → Int64) (x9 : Nat → Int32) (y1 : Nat → Int64) (y2 y3 y4 y5 : Int32) (y6 y7 : Nat → Int32) (be co : Int32) :
    ∀ s k (cr : Nat → Int64), k + s = m → ((be ≤ co) ∨ ∀ j, j < k → cr j = gw j (c j)) → ∀ fu, s < fu → ∃ cr', f_M_correct_95 x1 x2 x3 x4 x5 x6 x7 x8 x9 y1 y2 y3 y4 y5 y6 y7 cd ao ch (u9qi m) be co fu cr (u9qi k) = some cr' ∧ ((be ≤ co ∧ cr' = cr) ∨ (¬ (be ≤ co) ∧ ∀ j, j < m → cr' j = gw j (c j))) := by
  intro s
  induction s with
  | zero =>
    intro k cr hk h fu hf
    obtain ⟨fu, rfl⟩ : ∃ m, fu = m + 1 := ⟨fu - 1, by omega⟩
    obtain rfl : k = m := by omega
    have l1 : u9qi k ≤ u9qi k := u9i32_refl _
    refine ⟨cr, ?_, ?_⟩
    · simp only [f_M_correct_95, f_M_correct_95b, l1, if_true]
    · by_cases hb : be ≤ co
      · exact Or.inl ⟨hb, rfl⟩
      · rcases h with h | h
        · exact absurd h hb
        · exact Or.inr ⟨hb, h⟩
  | succ s ih =>
    intro k cr hk h fu hf
    obtain ⟨fu, rfl⟩ : ∃ m, fu = m + 1 := ⟨fu - 1, by omega⟩
    have l1 : ¬ (u9qi m ≤ u9qi k) := by rw [u9qi_le (by omega) (by omega)]; omega
    have hck := hv k
    have h24 := hcn k
    by_cases hb : be ≤ co
    · refine ⟨cr, ?_, Or.inl ⟨hb, rfl⟩⟩
      simp only [f_M_correct_95, f_M_correct_95b, l1, if_false, hb, if_true]
    · have ok : okI (u9qi k) 4 = true := by rw [u9qi_ok _ (by omega)]; omega
      have ck : (u9qi k).toNatClampNeg = k := u9qi_cl (by omega)
      have z1 : (24 : Int32) * u9qi k + u9qi (c k) = u9qi (24 * k + c k) := by rw [u9qi_lit, u9qi_mul, u9qi_add]
      have o1 : okI (u9qi (24 * k + c k)) 96 = true := by rw [u9qi_ok _ (by omega)]; omega
      have c1 : (u9qi (24 * k + c k)).toNatClampNeg = 24 * k + c k := u9qi_cl (by omega)
      obtain ⟨hcd, hao⟩ := (hM k (by omega)).2 (c k) hck
      simp only [f_M_correct_95, f_M_correct_95b, l1, if_false, hb, ok, if_true, ck, hch k (by omega), z1, o1, c1, hcd, u9q_p1]
      obtain ⟨cr', e, hh⟩ := ih (k + 1) (vp_updL cr k (gw k (c k))) (by omega) (Or.inr (fun j hj => by
        simp only [vp_updL]
        by_cases hjk : j = k
        · subst hjk; rw [if_pos rfl]
        · rw [if_neg hjk]
          rcases h with h | h
          · exact absurd h hb
          · exact h j (by omega))) fu (by omega)
      refine ⟨cr', e, ?_⟩
      rcases hh with ⟨h1, _⟩ | h1
      · exact absurd h1 hb
      · exact Or.inr ⟨not_false, h1.2⟩
theorem u9q_80_k {m : Nat} (hm1 : 1 ≤ m) (hm : m ≤ 4) {cnt : Nat → Nat} {gw : Nat → Nat → Int64} {al : Nat → Nat → Int} {mn : Nat → Int32} {cd : Nat → Int64} {ao : Nat → Int32} (hM : u9MG m cnt gw al mn cd ao) (hcn : ∀ k, 1 ≤ cnt k ∧ cnt k ≤ 24) {pn fs sc tm ft sd le q} (hP : u9PR pn fs sc tm ft sd le q) (hq : q < 100000) {sg : Nat → Nat → Nat → Int} (hsg : ∀ k i j, sg k i j = (u9sv pn ft sd le (gw k i) (gw (k + 1) j) : Int)) (ha : ∀ k i, 0 ≤ al k i ∧ al k i ≤ 20000) (x1 : Int32) (x3 x4 : Nat → Int32) (x5 : Nat → Int64) (x6 : Nat → Int32) (y1 : Nat → Int64) (y2 y3 y4 y5 : Int32) (y6 : Nat → Int32) :
    ∀ s (c : Nat → Nat) (ch : Nat → Int32) (cr : Nat → Int64) (be : Int), u9nu cnt c m 0 + s + 1 = u9Wd cnt m 0 → (∀ k, c k < cnt k) → (∀ j, j < m → ch j = u9qi (c j)) → (-1000000000 ≤ be ∧ be ≤ 1000000000) → (u9nu cnt (u9Pp al sg cnt m) m 0 < u9nu cnt c m 0 → be = u9Cc al sg cnt (m - 1) 0 (u9Pp al sg cnt m 0) ∧ ∀ j, j < m → cr j = gw j (u9Pp al sg cnt m j)) → (u9nu cnt c m 0 ≤ u9nu cnt (u9Pp al sg cnt m) m 0 → u9Cc al sg cnt (m - 1) 0 (u9Pp al sg cnt m 0) < be) → ∀ fu, s + 2 < fu → ∃ cr' ch', f_M_correct_80 x1 (u9qi pn) x3 x4 x5 x6 ft sd le y1 y2 y3 y4 y5 y6 mn cd ao (u9qi m) fu cr ch (u9zi be) 1 = some (cr', ch', u9zi (u9Cc al sg cnt (m - 1) 0 (u9Pp al sg cnt m 0))) ∧ ∀ j, j < m → cr' j = gw j (u9Pp al sg cnt m j) := by
  intro s
  have hsb : ∀ k i j, 0 ≤ sg k i j ∧ sg k i j ≤ 2000 := by
    intro k i j; rw [hsg]; have := u9sv_le (n := pn) (ft := ft) (sd := sd) (le := le) (a := gw k i) (b := gw (k + 1) j); omega
  have hPv := u9Pp_lt (al := al) (sg := sg) hcn m
  have hmm : (m : Int) ≤ 4 := by omega
  have hstop : ∀ fu cr ch b, f_M_correct_80 x1 (u9qi pn) x3 x4 x5 x6 ft sd le y1 y2 y3 y4 y5 y6 mn cd ao (u9qi m) (fu + 1) cr ch b 0 = some (cr, ch, b) := by
    intro fu cr ch b
    simp only [f_M_correct_80, f_M_correct_80b, if_true]
  have hstep : ∀ (c : Nat → Nat) (ch : Nat → Int32) (cr : Nat → Int64) (be : Int), (∀ k, c k < cnt k) → (∀ j, j < m → ch j = u9qi (c j)) → (-1000000000 ≤ be ∧ be ≤ 1000000000) → (u9nu cnt (u9Pp al sg cnt m) m 0 < u9nu cnt c m 0 → be = u9Cc al sg cnt (m - 1) 0 (u9Pp al sg cnt m 0) ∧ ∀ j, j < m → cr j = gw j (u9Pp al sg cnt m j)) → (u9nu cnt c m 0 ≤ u9nu cnt (u9Pp al sg cnt m) m 0 → u9Cc al sg cnt (m - 1) 0 (u9Pp al sg cnt m 0) < be) → ∀ fu, ∃ cr' be', (f_M_correct_80 x1 (u9qi pn) x3 x4 x5 x6 ft sd le y1 y2 y3 y4 y5 y6 mn cd ao (u9qi m) (fu + 1) cr ch (u9zi be) 1 = (f_M_next mn ch (u9qi m)).bind (fun o157 => f_M_correct_80 x1 (u9qi pn) x3 x4 x5 x6 ft sd le y1 y2 y3 y4 y5 y6 mn cd ao (u9qi m) fu cr' o157.2 (u9zi be') o157.1)) ∧ (-1000000000 ≤ be' ∧ be' ≤ 1000000000) ∧ (u9nu cnt (u9Pp al sg cnt m) m 0 < u9nu cnt c m 0 + 1 → be' = u9Cc al sg cnt (m - 1) 0 (u9Pp al sg cnt m 0) ∧ ∀ j, j < m → cr' j = gw j (u9Pp al sg cnt m j)) ∧ (u9nu cnt c m 0 + 1 ≤ u9nu cnt (u9Pp al sg cnt m) m 0 → u9Cc al sg cnt (m - 1) 0 (u9Pp al sg cnt m 0) < be') := by
    intro c ch cr be hv hch hbe h1 h2 fu
    have hco := u9q_costOf hm hM hcn hP hq hsg hv hch
    have htb := u9ts_bd ha hsb c m
    obtain ⟨b1, b2⟩ := u9cl_best (al := al) (sg := sg) hcn hm1 hv
    rw [← u9ts_all hm1] at b1 b2
    obtain ⟨cr', e95, h95⟩ := u9q_95 hm hM hcn hv hch x1 (u9qi pn) x3 x4 x5 x6 ft sd le y1 y2 y3 y4 y5 y6 mn (u9zi be) (u9zi (u9ts al sg c m)) m 0 cr (by omega) (Or.inr (fun j hj => absurd hj (by omega))) FU (by unfold FU; omega)
    have e95' : f_M_correct_95 x1 (u9qi pn) x3 x4 x5 x6 ft sd le y1 y2 y3 y4 y5 y6 mn cd ao ch (u9qi m) (u9zi be) (u9zi (u9ts al sg c m)) FU cr 0 = some cr' := e95
    have hle : (u9zi be ≤ u9zi (u9ts al sg c m)) = (be ≤ u9ts al sg c m) := u9zi_le hbe.1 hbe.2 (by omega) (by omega)
    rw [hle] at h95
    refine ⟨cr', if be ≤ u9ts al sg c m then be else u9ts al sg c m, ?_, by split <;> omega, fun hn => ?_, fun hn => ?_⟩
    · simp only [f_M_correct_80, f_M_correct_80b, f_M_correct_139, f_M_correct_153, u9n10, if_false, hco, Option.bind_some, e95', hle]
      by_cases hc : be ≤ u9ts al sg c m
      · simp only [hc, if_true]
      · simp only [hc, if_false]
    · by_cases hlt : u9nu cnt (u9Pp al sg cnt m) m 0 < u9nu cnt c m 0
      · obtain ⟨k1, k2⟩ := h1 hlt
        have hc : be ≤ u9ts al sg c m := by omega
        rw [if_pos hc]
        rcases h95 with ⟨_, hh⟩ | ⟨hh, _⟩
        · exact ⟨k1, fun j hj => by rw [hh]; exact k2 j hj⟩
        · exact absurd hc hh
      · have heq : u9nu cnt c m 0 = u9nu cnt (u9Pp al sg cnt m) m 0 := by omega
        have hdig : ∀ j, j < m → c j = u9Pp al sg cnt m j := fun j hj => u9nu_inj hv hPv m 0 heq j (by omega) (by omega)
        have htP : u9ts al sg c m = u9Cc al sg cnt (m - 1) 0 (u9Pp al sg cnt m 0) := by
          have hcP := (u9cl_P (al := al) (sg := sg) (cnt := cnt) (m := m) (m - 1) 0 (by omega)).2
          rw [← hcP, ← u9ts_all hm1]
          have : ∀ k, k ≤ m → u9ts al sg c k = u9ts al sg (u9Pp al sg cnt m) k := by
            intro k
            induction k with
            | zero => intro _; rfl
            | succ k ih =>
              intro hk
              simp only [u9ts]
              rw [ih (by omega), hdig k (by omega)]
              by_cases hk0 : k = 0
              · rw [if_pos hk0, if_pos hk0]
              · rw [if_neg hk0, if_neg hk0, hdig (k - 1) (by omega)]
          exact this m (Nat.le_refl _)
        have hc : ¬ (be ≤ u9ts al sg c m) := by have := h2 (by omega); omega
        rw [if_neg hc]
        rcases h95 with ⟨hh, _⟩ | ⟨_, hh⟩
        · exact absurd hh hc
        · exact ⟨htP, fun j hj => by rw [hh j hj, hdig j hj]⟩
    · have k1 := h2 (by omega)
      have hne : u9ts al sg c m ≠ u9Cc al sg cnt (m - 1) 0 (u9Pp al sg cnt m 0) := by
        intro hh
        have := b2 hh
        omega
      split <;> omega
  induction s with
  | zero =>
    intro c ch cr be hs hv hch hbe h1 h2 fu hf
    obtain ⟨fu, rfl⟩ : ∃ m, fu = m + 1 + 1 := ⟨fu - 2, by omega⟩
    obtain ⟨cr', be', e, hbe', k1, k2⟩ := hstep c ch cr be hv hch hbe h1 h2 (fu + 1)
    have hPlt := u9nu_lt hPv m 0
    rcases u9q_next hm hcn (fun k hk => (hM k hk).1) hv hch with ⟨ch', en, _⟩ | ⟨ch', c', en, hv', hch', hn'⟩
    · obtain ⟨g1, g2⟩ := k1 (by omega)
      refine ⟨cr', ch', ?_, g2⟩
      rw [e, en]
      simp only [Option.bind_some]
      rw [hstop, g1]
    · have := u9nu_lt hv' m 0
      omega
  | succ s ih =>
    intro c ch cr be hs hv hch hbe h1 h2 fu hf
    obtain ⟨fu, rfl⟩ : ∃ m, fu = m + 1 := ⟨fu - 1, by omega⟩
    obtain ⟨cr', be', e, hbe', k1, k2⟩ := hstep c ch cr be hv hch hbe h1 h2 fu
    rcases u9q_next hm hcn (fun k hk => (hM k hk).1) hv hch with ⟨ch', en, hmax⟩ | ⟨ch', c', en, hv', hch', hn'⟩
    · omega
    · rw [e, en]
      simp only [Option.bind_some]
      exact ih c' ch' cr' be' (by omega) hv' hch' hbe' (by rw [hn']; exact k1) (by rw [hn']; exact k2) fu (by omega)
