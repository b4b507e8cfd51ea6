def u9cb (f : Nat → Int64) (t : Int64) : Nat → Nat
  | 0 => 0
  | n + 1 => if f n < t then u9cb f t n + 1 else u9cb f t n
theorem u9cb_countP (f : Nat → Int64) (t : Int64) : ∀ n, u9cb f t n = (u9ls f n).countP (fun x => decide (x < t)) := by
  intro n
  induction n with
  | zero => rfl
  | succ n ih =>
    rw [u9ls_succ, List.countP_append, ← ih]
    simp only [u9cb]
    split <;> rename_i h <;> simp [h]
theorem u9cb_le (f t) : ∀ n, u9cb f t n ≤ n := by
  intro n
  induction n with
  | zero => exact Nat.le_refl _
  | succ n ih => simp only [u9cb]; split <;> omega
theorem u9cb_srt {n : Nat} {u9tx : Nat → Int64} (hs : u9Srt n u9tx) {i : Nat} (hi : i < n) : ∀ m, m ≤ n → u9cb u9tx (u9tx i) m = min m i := by
  intro m
  induction m with
  | zero => intro _; simp [u9cb]
  | succ m ih =>
    intro hm
    simp only [u9cb]
    rw [ih (by omega)]
    by_cases hmi : m < i
    · rw [if_pos (hs m i hmi hi)]; omega
    · rw [if_neg]
      · omega
      · intro hc
        by_cases hme : m = i
        · subst hme; exact u9i64_irrefl hc
        · exact u9i64_irrefl (u9i64_trans hc (hs i m (by omega) (by omega)))
theorem u9cb_draft {n u9tx cs dr u9wt} (h : u9DR n u9tx cs dr u9wt) {k i : Nat} (hi : i < n) (he : u9tx i = u9T (dr k)) : u9cb (fun j => u9T (dr j)) (u9T (dr k)) n = i := by
  have p : (u9ls u9tx n).Perm (u9ls (fun j => u9T (dr j)) n) := by
    have e1 : (u9ls (fun k => u9T (dr k)) n) = (u9ls (fun k => (u9T (dr k), (9999 : Int32) - u9wt k)) n).map Prod.fst := by simp [u9ls, Function.comp_def]
    have e2 : (u9ls (fun i => (u9tx i, cs i)) n).map Prod.fst = u9ls u9tx n := by simp [u9ls, Function.comp_def]
    rw [e1, ← e2]
    exact h.2.2.1.map Prod.fst
  rw [u9cb_countP, ← p.countP_eq, ← u9cb_countP, ← he, u9cb_srt h.2.1 hi n (Nat.le_refl _)]
  omega
theorem u9q_less_k {n : Nat} (hn : n ≤ 24) {dr : Nat → Int64} (hw : ∀ k, k < n → u9okW (dr k) = true) (u9wt : Nat → Int32) (x1 x2 x3 : Int32) (y1 y2 y3 : Nat → Int32) (y4 : Nat → Int64) (y5 y6 y7 : Nat → Int32) {k : Nat} (hk : k < n) :
    ∀ r j, j + r = n → ∀ fu, r < fu → f_M_build_152 (u9qi n) dr u9wt x1 x2 x3 y1 y2 y3 y4 y5 y6 y7 (u9qi k) fu (u9qi (u9cb (fun j => u9T (dr j)) (u9T (dr k)) j)) (u9qi j) = some (u9qi (u9cb (fun j => u9T (dr j)) (u9T (dr k)) n)) := by
  intro r
  have ok : okI (u9qi k) 24 = true := by rw [u9qi_ok _ (by omega)]; omega
  have ck : (u9qi k).toNatClampNeg = k := u9qi_cl (by omega)
  induction r with
  | zero =>
    intro j hj fu hf
    obtain ⟨fu, rfl⟩ : ∃ m, fu = m + 1 := ⟨fu - 1, by omega⟩
    obtain rfl : j = n := by omega
    have l1 : u9qi j ≤ u9qi j := u9i32_refl _
    simp only [f_M_build_152, f_M_build_152b, l1, if_true]
  | succ r ih =>
    intro j hj fu hf
    obtain ⟨fu, rfl⟩ : ∃ m, fu = m + 1 := ⟨fu - 1, by omega⟩
    have l1 : ¬ (u9qi n ≤ u9qi j) := by rw [u9qi_le (by omega) (by omega)]; omega
    have oj : okI (u9qi j) 24 = true := by rw [u9qi_ok _ (by omega)]; omega
    have cj : (u9qi j).toNatClampNeg = j := u9qi_cl (by omega)
    have ihh := ih (j + 1) (by omega) fu (by omega)
    simp only [u9cb] at ihh
    simp only [f_M_build_152, f_M_build_152b, f_M_build_187, l1, if_false, oj, ok, cj, ck, if_true, u9q_before (u9okW_B (hw j (by omega))) (u9okW_B (hw k hk)), Option.bind_some, u9q_p1]
    by_cases hc : u9T (dr j) < u9T (dr k)
    · simp only [hc, if_true] at ihh
      simp only [hc, if_true, u9n10, if_false]; exact ihh
    · simp only [hc, if_false] at ihh
      simp only [hc, if_false, if_true]; exact ihh
theorem u9q_sort_k {n u9tx cs dr u9wt} (h : u9DR n u9tx cs dr u9wt) (x1 x2 x3 : Int32) (y1 y2 y3 y6 y7 : Nat → Int32) (wd0 : Nat → Int64) (mc0 : Nat → Int32) :
    ∀ r k (wd : Nat → Int64) (mc : Nat → Int32), k + r = n → (∀ k', k' < k → ∀ i, i < n → u9tx i = u9T (dr k') → wd i = dr k' ∧ mc i = cs i) → (∀ j, n ≤ j → wd j = wd0 j ∧ mc j = mc0 j) → ∀ fu, r < fu → ∃ wd' mc', f_M_build_139 (u9qi n) dr u9wt x1 x2 x3 y1 y2 y3 y6 y7 fu wd mc (u9qi k) = some (wd', mc') ∧ (∀ k', k' < n → ∀ i, i < n → u9tx i = u9T (dr k') → wd' i = dr k' ∧ mc' i = cs i) ∧ (∀ j, n ≤ j → wd' j = wd0 j ∧ mc' j = mc0 j) := by
  intro r
  have hn := h.1
  induction r with
  | zero =>
    intro k wd mc hk h1 h2 fu hf
    obtain ⟨fu, rfl⟩ : ∃ m, fu = m + 1 := ⟨fu - 1, by omega⟩
    obtain rfl : k = n := by omega
    have l1 : u9qi k ≤ u9qi k := u9i32_refl _
    refine ⟨wd, mc, ?_, h1, h2⟩
    simp only [f_M_build_139, f_M_build_139b, l1, if_true]
  | succ r ih =>
    intro k wd mc hk h1 h2 fu hf
    obtain ⟨fu, rfl⟩ : ∃ m, fu = m + 1 := ⟨fu - 1, by omega⟩
    have l1 : ¬ (u9qi n ≤ u9qi k) := by rw [u9qi_le (by omega) (by omega)]; omega
    have ok : okI (u9qi k) 24 = true := by rw [u9qi_ok _ (by omega)]; omega
    have ck : (u9qi k).toNatClampNeg = k := u9qi_cl (by omega)
    obtain ⟨i, hi, hti, hci⟩ := u9DR_of h (k := k) (by omega)
    have hcb := u9cb_draft h hi hti
    have hl := u9q_less_k hn h.2.2.2.1 u9wt x1 x2 x3 y1 y2 y3 wd mc y6 y7 (k := k) (by omega) n 0 (by omega) FU (by unfold FU; omega)
    have hl' : f_M_build_152 (u9qi n) dr u9wt x1 x2 x3 y1 y2 y3 wd mc y6 y7 (u9qi k) FU 0 0 = some (u9qi i) := by rw [hcb] at hl; exact hl
    have o2 : okI (u9qi i) 72 = true := by rw [u9qi_ok _ (by omega)]; omega
    have c2 : (u9qi i).toNatClampNeg = i := u9qi_cl (by omega)
    simp only [f_M_build_139, f_M_build_139b, l1, if_false, hl', Option.bind_some, ok, o2, if_true, ck, c2, u9q_p1]
    refine ih (k + 1) _ _ (by omega) (fun k' hk' i' hi' ht' => ?_) (fun j hj => ?_) fu (by omega)
    · simp only [vp_updL, upd]
      by_cases hii : i' = i
      · subst hii
        rw [if_pos rfl, if_pos rfl]
        have hkk : dr k' = dr k := by
          rw [hti] at ht'
          exact ((u9T_inj (u9okW_B (h.2.2.2.1 k (by omega))) (u9okW_B (h.2.2.2.1 k' (by omega)))).mp ht').symm
        exact ⟨hkk.symm, hci.symm⟩
      · rw [if_neg hii, if_neg hii]
        refine h1 k' ?_ i' hi' ht'
        apply Classical.byContradiction
        intro hc
        obtain rfl : k' = k := by omega
        exact hii (u9Srt_inj h.2.1 hi' hi (by rw [ht', hti]))
    · simp only [vp_updL, upd]
      rw [if_neg (by omega), if_neg (by omega)]; exact h2 j hj
theorem u9q_sort {n u9tx cs dr u9wt} (h : u9DR n u9tx cs dr u9wt) (x1 x2 x3 : Int32) (y1 y2 y3 y6 y7 : Nat → Int32) (wd : Nat → Int64) (mc : Nat → Int32) : ∃ wd' mc', f_M_build_139 (u9qi n) dr u9wt x1 x2 x3 y1 y2 y3 y6 y7 FU wd mc 0 = some (wd', mc') ∧ u9WR n u9tx cs (fun i => wd' (24 * 0 + i)) (fun i => mc' (24 * 0 + i)) ∧ (∀ j, n ≤ j → wd' j = wd j ∧ mc' j = mc j) := by
  have hn := h.1
  obtain ⟨wd', mc', e, g1, g2⟩ := u9q_sort_k h x1 x2 x3 y1 y2 y3 y6 y7 wd mc n 0 wd mc (by omega) (fun k' hk' => absurd hk' (by omega)) (fun j _ => ⟨rfl, rfl⟩) FU (by unfold FU; omega)
  refine ⟨wd', mc', e, ⟨hn, h.2.1, fun i hi => ?_⟩, g2⟩
  obtain ⟨k, hk, ht, hc⟩ := u9DR_to h hi
  obtain ⟨a1, a2⟩ := g1 k hk i hi ht
  obtain ⟨v, hv, hwv⟩ := h.2.2.2.2 k hk
  simp only [show 24 * 0 + i = i by omega]
  refine ⟨by rw [a1]; exact h.2.2.2.1 k hk, by rw [a1]; exact ht, a2.symm, 9999 - v, by omega, ?_⟩
  rw [hc, hwv, u9q_sub9 hv]
theorem u9q_free {made th dn dr ds da dz dt dc nb sz rd wd mc st ar} (h : u9SHR made th dn dr ds da dz dt dc nb sz rd wd mc st ar) (hm : made < 100000) : (∃ d, d < 3 ∧ dn d = 0) ↔ th < 3 := by
  have hnz : ∀ p, p < th → nb p ≠ 0 := fun p hp => u9SHR_nz h hm hp
  obtain ⟨h1, h2, h3, h4, h5, h6, h7, h8⟩ := h
  constructor
  · rintro ⟨d, hd, hz⟩
    apply Classical.byContradiction
    intro hc
    obtain ⟨d0, k0, e0⟩ := h7 0 (by omega)
    obtain ⟨d1, k1, e1⟩ := h7 1 (by omega)
    obtain ⟨d2, k2, e2⟩ := h7 2 (by omega)
    have n01 : d0 ≠ d1 := by rintro rfl; exact h5 0 1 (by omega) (by omega) (by rw [← e0, e1])
    have n02 : d0 ≠ d2 := by rintro rfl; exact h5 0 2 (by omega) (by omega) (by rw [← e0, e2])
    have n12 : d1 ≠ d2 := by rintro rfl; exact h5 1 2 (by omega) (by omega) (by rw [← e1, e2])
    have : d = d0 ∨ d = d1 ∨ d = d2 := by omega
    rcases this with rfl | rfl | rfl
    · exact hnz 0 (by omega) (by rw [← e0, hz])
    · exact hnz 1 (by omega) (by rw [← e1, hz])
    · exact hnz 2 (by omega) (by rw [← e2, hz])
  · intro hlt
    apply Classical.byContradiction
    intro hc
    have hx : ∀ d, d < 3 → ∃ p, p < th ∧ dn d = nb p := by
      intro d hd
      rcases h6 d hd with hz | ⟨p, hp, hD⟩
      · exact absurd ⟨d, hd, hz⟩ hc
      · exact ⟨p, hp, hD.1⟩
    obtain ⟨p0, k0, e0⟩ := hx 0 (by omega)
    obtain ⟨p1, k1, e1⟩ := hx 1 (by omega)
    obtain ⟨p2, k2, e2⟩ := hx 2 (by omega)
    have n01 : p0 ≠ p1 := by rintro rfl; exact h8 0 1 (by omega) (by omega) (by omega) (by rw [e0]; exact hnz _ k0) (by rw [e0, e1])
    have n02 : p0 ≠ p2 := by rintro rfl; exact h8 0 2 (by omega) (by omega) (by omega) (by rw [e0]; exact hnz _ k0) (by rw [e0, e2])
    have n12 : p1 ≠ p2 := by rintro rfl; exact h8 1 2 (by omega) (by omega) (by omega) (by rw [e1]; exact hnz _ k1) (by rw [e1, e2])
    omega
theorem u9q_pfn {made th dn dr ds da dz dt dc nb sz rd wd mc st ar} (h : u9SHR made th dn dr ds da dz dt dc nb sz rd wd mc st ar) (hm : made < 100000) :
    (0 < th ∧ rd 0 = 0 ∧ ∃ d, d < 3 ∧ f_S_placeForNext (u9qi made) (dn 0) (dr 0) (dn 1) (dr 1) (dn 2) (dr 2) = some d ∧ dn d = nb 0) ∨
    (¬ (0 < th ∧ rd 0 = 0) ∧ th < 3 ∧ ∃ d, d < 3 ∧ f_S_placeForNext (u9qi made) (dn 0) (dr 0) (dn 1) (dr 1) (dn 2) (dr 2) = some d ∧ dn d = 0) ∨
    (¬ (0 < th ∧ rd 0 = 0) ∧ th = 3 ∧ f_S_placeForNext (u9qi made) (dn 0) (dr 0) (dn 1) (dr 1) (dn 2) (dr 2) = some 3) := by
  have hth := h.1
  have hfree := u9q_free h hm
  have hle : ∀ d, d < 3 → (dn d ≤ 0) = (dn d = 0) := by
    intro d hd
    rcases h.2.2.2.2.2.1 d hd with hz | ⟨p, hp, hD⟩
    · rw [hz]; simp
    · obtain ⟨k, ek, k1, k2⟩ := h.2.2.2.1 p hp
      rw [hD.1, ek, u9q_le0 (by omega), u9qi_lit, u9qi_eq (by omega) (by omega)]
  have hrest : ∃ d, ((f_Dictionary_isThere (dn 0)).bind (fun o35 => if o35 = 0 then some (0 : Nat) else (f_Dictionary_isThere (dn 1)).bind (fun o35 => if o35 = 0 then some (1 : Nat) else (f_Dictionary_isThere (dn 2)).bind (fun o35 => if o35 = 0 then some (2 : Nat) else some (3 : Nat))))) = some d ∧ ((d < 3 ∧ dn d = 0) ∨ (d = 3 ∧ ∀ e, e < 3 → dn e ≠ 0)) := by
    rcases u9q_isThere (dn 0) with ⟨a0, e0⟩ | ⟨a0, e0⟩
    · rw [hle 0 (by omega)] at a0
      exact ⟨0, by rw [e0]; rfl, Or.inl ⟨by omega, a0⟩⟩
    · rcases u9q_isThere (dn 1) with ⟨a1, e1⟩ | ⟨a1, e1⟩
      · rw [hle 1 (by omega)] at a1
        exact ⟨1, by rw [e0, e1]; rfl, Or.inl ⟨by omega, a1⟩⟩
      · rcases u9q_isThere (dn 2) with ⟨a2, e2⟩ | ⟨a2, e2⟩
        · rw [hle 2 (by omega)] at a2
          exact ⟨2, by rw [e0, e1, e2]; rfl, Or.inl ⟨by omega, a2⟩⟩
        · refine ⟨3, by rw [e0, e1, e2]; rfl, Or.inr ⟨rfl, fun e he => ?_⟩⟩
          rw [hle 0 (by omega)] at a0
          rw [hle 1 (by omega)] at a1
          rw [hle 2 (by omega)] at a2
          rcases u9d3 he with rfl | rfl | rfl
          · exact a0
          · exact a1
          · exact a2
  obtain ⟨dF, eF, hF⟩ := hrest
  have hfin : (f_S_placeForNext (u9qi made) (dn 0) (dr 0) (dn 1) (dr 1) (dn 2) (dr 2) = some dF) → ¬ (0 < th ∧ rd 0 = 0) → ((¬ (0 < th ∧ rd 0 = 0) ∧ th < 3 ∧ ∃ d, d < 3 ∧ f_S_placeForNext (u9qi made) (dn 0) (dr 0) (dn 1) (dr 1) (dn 2) (dr 2) = some d ∧ dn d = 0) ∨ (¬ (0 < th ∧ rd 0 = 0) ∧ th = 3 ∧ f_S_placeForNext (u9qi made) (dn 0) (dr 0) (dn 1) (dr 1) (dn 2) (dr 2) = some 3)) := by
    intro he hg
    rcases hF with ⟨hF1, hF2⟩ | ⟨hF1, hF2⟩
    · exact Or.inl ⟨hg, hfree.1 ⟨dF, hF1, hF2⟩, dF, hF1, he, hF2⟩
    · refine Or.inr ⟨hg, ?_, by rw [he, hF1]⟩
      apply Classical.byContradiction
      intro hc
      obtain ⟨d, hd, hz⟩ := hfree.2 (by omega)
      exact hF2 d hd hz
  rcases u9q_cur h hm with ⟨hpos, d, hd, e1, e3, h0, hD⟩ | ⟨h0, e1⟩
  · by_cases hr : rd 0 = 0
    · left
      refine ⟨hpos, hr, d, hd, ?_, by rw [e3, h0]⟩
      have hdr : dr d = 0 := by rw [hD.2.1, hr]
      unfold f_S_placeForNext f_Dictionary_readers
      rw [e1]
      rcases u9d3 hd with rfl | rfl | rfl <;> simp only [Option.bind_some, if_true, if_false, u9d01, u9d02, u9d12, hdr]
    · right
      refine hfin ?_ (fun hh => hr hh.2)
      have hdr : ¬ (dr d = 0) := by rw [hD.2.1]; exact hr
      unfold f_S_placeForNext f_Dictionary_readers
      rw [e1]
      rcases u9d3 hd with rfl | rfl | rfl <;> simp only [Option.bind_some, if_true, if_false, u9d01, u9d02, u9d12, hdr] <;> exact eF
  · right
    refine hfin ?_ (fun hh => by omega)
    unfold f_S_placeForNext
    rw [e1]
    simp only [Option.bind_some, if_false, u9d30, u9d31, u9d32]
    exact eF
