def u9MS (W : List (Int64 × Int32)) (b : Nat × Nat) (fr le en lo : Int32) (ky : Int64) : Prop := fr = u9qi b.1 ∧ le = u9qi b.2 ∧ en = u9qi (u9wE W b.1 b.2) ∧ lo = u9wL W b.1 b.2 ∧ ky = u9keyF (u9wD W b) 0
theorem u9wE_share {n : Nat} {u9tx : Nat → Int64} {cs : Nat → Int32} {h : Int64} {m : Nat} : ∀ r k, k + r = n → ∀ j, k ≤ j → j < u9wEnd (u9Wl n u9tx cs) h m r k → u9H (u9tx j) m = h := by
  intro r
  induction r with
  | zero => intro k hk j h1 h2; simp only [u9wEnd] at h2; omega
  | succ r ih =>
    intro k hk j h1 h2
    simp only [u9wEnd] at h2
    rw [u9wt_W (show k < n by omega)] at h2
    by_cases hc : u9H (u9tx k) m = h
    · rw [if_pos hc] at h2
      by_cases hjk : j = k
      · subst hjk; exact hc
      · exact ih (k + 1) (by omega) j (by omega) h2
    · rw [if_neg hc] at h2; omega
theorem u9wE_H {n : Nat} {u9tx : Nat → Int64} {cs : Nat → Int32} {i m : Nat} (hi : i < n) {j : Nat} (h1 : i ≤ j) (h2 : j < u9wE (u9Wl n u9tx cs) i m) : u9H (u9tx j) m = u9H (u9tx i) m := by
  by_cases hji : j = i
  · rw [hji]
  · unfold u9wE at h2
    rw [u9Wl_len, u9wt_W hi] at h2
    exact u9wE_share (n - (i + 1)) (i + 1) (by omega) j (by omega) h2
theorem u9q_begin {n p : Nat} (hp : p < 3) {dt : Nat → Int64} {dc : Nat → Int32} {wd : Nat → Int64} {mc : Nat → Int32} (hW : u9WR n dt dc (fun i => wd (24 * p + i)) (fun i => mc (24 * p + i))) {sz : Nat → Int32} (hsz : sz p = u9qi n) {i m : Nat} (hi : i < n) (hm : m ≤ u9nl (u9un (wd (24 * p + i)))) (fr le en lo : Nat → Int32) (ky : Nat → Int64) {B : Nat} (hB : B < 216) :
    ∃ fr' le' en' lo' ky', f_M_begin (u9qi B) sz wd mc fr le en lo ky (u9qi p) (u9qi i) (u9qi m) = some (u9qi (B + 1), fr', le', en', lo', ky') ∧ u9MS (u9Wl n dt dc) (i, m) (fr' B) (le' B) (en' B) (lo' B) (ky' B) ∧ ∀ x, x ≠ B → fr' x = fr x ∧ le' x = le x ∧ en' x = en x ∧ lo' x = lo x ∧ ky' x = ky x := by
  have hn := hW.1
  have h8 := u9nl_le (u9un (wd (24 * p + i)))
  have o1 : okI (u9qi B) 216 = true := by rw [u9qi_ok _ (by omega)]; omega
  have cB : (u9qi B).toNatClampNeg = B := u9qi_cl (by omega)
  have o3 : okI (u9qi p) 3 = true := by rw [u9qi_ok _ (by omega)]; omega
  have cp : (u9qi p).toNatClampNeg = p := u9qi_cl (by omega)
  obtain ⟨v1, v2, v3, cv, cv9, v4⟩ := hW.2.2 i hi
  have v1 : u9okW (wd (24 * p + i)) = true := v1
  have v2 : dt i = u9T (wd (24 * p + i)) := v2
  have xi : (24 : Int32) * u9qi p + u9qi i = u9qi (24 * p + i) := by rw [u9qi_lit, u9qi_mul, u9qi_add]
  have oi : okI (u9qi (24 * p + i)) 72 = true := by rw [u9qi_ok _ (by omega)]; omega
  have ci : (u9qi (24 * p + i)).toNatClampNeg = 24 * p + i := u9qi_cl (by omega)
  have hE := u9wE_bd (W := u9Wl n dt dc) (i := i) (m := m) (by rw [u9Wl_len]; exact hi)
  rw [u9Wl_len] at hE
  have v3' : mc (24 * p + i) = u9qi cv := by rw [← v4, v3]
  have hfirst : f_M_begin_45 sz wd mc (u9qi p) (u9qi i) (u9qi m) (u9qi (B + 1)) (upd fr B (u9qi i)) (upd le B (u9qi m)) en ky (u9qi B) FU (upd lo B 10000) (u9qi i) = f_M_begin_45 sz wd mc (u9qi p) (u9qi i) (u9qi m) (u9qi (B + 1)) (upd fr B (u9qi i)) (upd le B (u9qi m)) en ky (u9qi B) 999999 (upd (upd lo B 10000) B (u9qi cv)) (u9qi (i + 1)) := by
    show f_M_begin_45b sz wd mc (u9qi p) (u9qi i) (u9qi m) (u9qi (B + 1)) (upd fr B (u9qi i)) (upd le B (u9qi m)) en ky (u9qi B) (f_M_begin_45 sz wd mc (u9qi p) (u9qi i) (u9qi m) (u9qi (B + 1)) (upd fr B (u9qi i)) (upd le B (u9qi m)) en ky (u9qi B) 999999) (upd lo B 10000) (u9qi i) = _
    have l1 : ¬ (u9qi n ≤ u9qi i) := by rw [u9qi_le (by omega) (by omega)]; omega
    have hlo : upd lo B 10000 B = 10000 := by simp [upd]
    have hlc : ¬ ((10000 : Int32) ≤ u9qi cv) := by rw [u9qi_lit, u9qi_le (by omega) (by omega)]; show ¬ (10000 ≤ cv); omega
    have h90 : f_M_begin_90 (f_M_begin_45 sz wd mc (u9qi p) (u9qi i) (u9qi m) (u9qi (B + 1)) (upd fr B (u9qi i)) (upd le B (u9qi m)) en ky (u9qi B) 999999) sz wd mc (u9qi p) (u9qi i) (u9qi m) (u9qi (B + 1)) (upd fr B (u9qi i)) (upd le B (u9qi m)) en ky (u9qi B) (upd lo B 10000) (u9qi i) = f_M_begin_45 sz wd mc (u9qi p) (u9qi i) (u9qi m) (u9qi (B + 1)) (upd fr B (u9qi i)) (upd le B (u9qi m)) en ky (u9qi B) 999999 (upd (upd lo B 10000) B (u9qi cv)) (u9qi (i + 1)) := by
      unfold f_M_begin_90 f_M_begin_140
      simp only [xi, oi, o1, ci, cB, if_true, hlo, v3', hlc, if_false, u9q_p1]
    unfold f_M_begin_45b
    simp only [o3, if_true, cp, hsz, l1, if_false, h90]
    by_cases hm0 : m = 0
    · rw [if_pos (by rw [hm0]; rfl)]
    · have z0 : ¬ (u9qi m = 0) := by rw [u9qi_lit, u9qi_eq (by omega) (by omega)]; exact hm0
      have hsl := u9sh_le (u9la (wd (24 * p + i))) (u9la (wd (24 * p + i)))
      have := u9sh_self (u9okW_B v1) hm
      simp only [z0, if_false, xi, oi, ci, if_true, u9q_common, Option.bind_some, u9qi_lt (show u9sh (u9la (wd (24 * p + i))) (u9la (wd (24 * p + i))) < 2147483648 by omega) (show m < 2147483648 by omega)]
      rw [if_neg (by omega)]
  obtain ⟨lo1, e1, g1, g2⟩ := u9q_bg_k hp hW hsz hi hm (u9qi (B + 1)) (upd fr B (u9qi i)) (upd le B (u9qi m)) en ky hB (n - (i + 1)) (i + 1) (upd (upd lo B 10000) B (u9qi cv)) (by omega) (by omega) (by
    rw [show i + 1 - 1 - i = 0 by omega]
    show upd (upd lo B 10000) B (u9qi cv) B = u9wc (u9Wl n dt dc) i
    rw [u9wc_W hi, v4]; simp [upd]) 999999 (by omega)
  have eE : u9wEnd (u9Wl n dt dc) (u9H (dt i) m) m (n - (i + 1)) (i + 1) = u9wE (u9Wl n dt dc) i m := by
    unfold u9wE; rw [u9Wl_len, u9wt_W hi]
  rw [eE] at e1 g1
  have hlo1 : lo1 B = u9wL (u9Wl n dt dc) i m := by rw [g1]; unfold u9wL; congr 1; omega
  obtain ⟨ky1, e2, k1, k2⟩ := u9q_key_out hp hW sz hi (m := m) (fun k hk1 hk2 => by
    obtain ⟨w1, w2, _⟩ := hW.2.2 k (by omega)
    have w1 : u9okW (wd (24 * p + k)) = true := w1
    have w2 : dt k = u9T (wd (24 * p + k)) := w2
    have hH := u9wE_H (u9tx := dt) (cs := dc) hi hk1 hk2
    rw [w2, v2] at hH
    have := (u9sh_ge (w := wd (24 * p + k)) (u9okW_B v1) hm).mpr hH
    apply Nat.le_of_not_lt
    intro hlt
    have h8k := u9nl_le (u9un (wd (24 * p + k)))
    have h2 := (u9H_eq (u9T (wd (24 * p + k))) (u9T (wd (24 * p + i))) (k := m) (by omega)).mp hH (u9nl (u9un (wd (24 * p + k)))) hlt
    rw [u9ql_T _ (by omega), u9ql_T _ (by omega), u9la_zero (Nat.le_refl _)] at h2
    have h3 := u9la_pos (u9okW_B v1) (k := u9nl (u9un (wd (24 * p + k)))) (by omega)
    omega) (u9qi (B + 1)) (upd fr B (u9qi i)) (upd le B (u9qi m)) (upd en B (u9qi (u9wE (u9Wl n dt dc) i m))) lo1 hB hlo1 (u9wE (u9Wl n dt dc) i m - i) i (vp_updL ky B 0) (by omega) (by omega) FU (by unfold FU; omega)
  refine ⟨upd fr B (u9qi i), upd le B (u9qi m), upd en B (u9qi (u9wE (u9Wl n dt dc) i m)), lo1, ky1, ?_, ⟨by simp [upd], by simp [upd], by simp [upd], hlo1, ?_⟩, fun x hx => ⟨by simp [upd, hx], by simp [upd, hx], by simp [upd, hx], ?_, ?_⟩⟩
  · unfold f_M_begin f_M_begin_147
    simp only [o1, if_true, u9q_p1, cB, hfirst, e1, Option.bind_some, e2]
  · rw [k1]; simp [vp_updL]
  · rw [g2 x hx]; simp [upd, hx]
  · rw [k2 x hx]; simp [vp_updL, hx]
theorem u9q_same_in {n p : Nat} (hp : p < 3) {wd : Nat → Int64} {mc : Nat → Int32} {fr le en lo : Nat → Int32} {ky : Nat → Int64} {j1 j2 : Nat} (hj1 : j1 < 216) (hj2 : j2 < 216) {m1 m2 : Nat} (hm1 : m1 ≤ 8) (hm2 : m2 ≤ 8) (hl1 : le j1 = u9qi m1) (hl2 : le j2 = u9qi m2) {x y : Nat} (hx : x < 72) (hy : y < 72) (a0 l4 l5 : Int32) :
    ∀ r c, c + r = 8 → (∀ i, i < c → (if m1 + i < 8 then u9la (wd x) (m1 + i) else 0) = (if m2 + i < 8 then u9la (wd y) (m2 + i) else 0)) → ∀ fu, r < fu → f_M_same_129 wd mc fr le en lo ky a0 (u9qi j1) (u9qi j2) l4 l5 (u9qi x) (u9qi y) fu (u9qi c) = some (if u9TL (u9T (wd x)) m1 = u9TL (u9T (wd y)) m2 then .inl () else .inr ()) := by
  intro r
  have o1 : okI (u9qi j1) 216 = true := by rw [u9qi_ok _ (by omega)]; omega
  have o2 : okI (u9qi j2) 216 = true := by rw [u9qi_ok _ (by omega)]; omega
  have c1 : (u9qi j1).toNatClampNeg = j1 := u9qi_cl (by omega)
  have c2 : (u9qi j2).toNatClampNeg = j2 := u9qi_cl (by omega)
  have ox : okI (u9qi x) 72 = true := by rw [u9qi_ok _ (by omega)]; omega
  have oy : okI (u9qi y) 72 = true := by rw [u9qi_ok _ (by omega)]; omega
  have cx : (u9qi x).toNatClampNeg = x := u9qi_cl (by omega)
  have cy : (u9qi y).toNatClampNeg = y := u9qi_cl (by omega)
  have hTL : (u9TL (u9T (wd x)) m1 = u9TL (u9T (wd y)) m2) ↔ ∀ i, i < 8 → (if m1 + i < 8 then u9la (wd x) (m1 + i) else 0) = (if m2 + i < 8 then u9la (wd y) (m2 + i) else 0) := by
    rw [u9TL_eq _ _ hm1 hm2]
    constructor
    · intro h i hi
      have := h i hi
      by_cases a1 : m1 + i < 8 <;> by_cases a2 : m2 + i < 8 <;> simp only [a1, a2, if_true, if_false] at this ⊢ <;> first | (rw [u9ql_T _ a1, u9ql_T _ a2] at this; exact this) | (rw [u9ql_T _ a1] at this; exact this) | (rw [u9ql_T _ a2] at this; exact this)
    · intro h i hi
      have := h i hi
      by_cases a1 : m1 + i < 8 <;> by_cases a2 : m2 + i < 8 <;> simp only [a1, a2, if_true, if_false] at this ⊢ <;> first | (rw [u9ql_T _ a1, u9ql_T _ a2]; exact this) | (rw [u9ql_T _ a1]; exact this) | (rw [u9ql_T _ a2]; exact this)
  induction r with
  | zero =>
    intro c hc h fu hf
    obtain ⟨fu, rfl⟩ : ∃ m, fu = m + 1 := ⟨fu - 1, by omega⟩
    obtain rfl : c = 8 := by omega
    have l1 : (8 : Int32) ≤ u9qi 8 := by decide
    simp only [f_M_same_129, f_M_same_129b, l1, if_true]
    rw [if_pos (hTL.2 h)]
  | succ r ih =>
    intro c hc h fu hf
    obtain ⟨fu, rfl⟩ : ∃ m, fu = m + 1 := ⟨fu - 1, by omega⟩
    have l1 : ¬ ((8 : Int32) ≤ u9qi c) := by rw [u9qi_lit, u9qi_le (by omega) (by omega)]; show ¬ (8 ≤ c); omega
    have t1 : ((8 : Int32) ≤ u9qi (m1 + c)) = (¬ (m1 + c < 8)) := by
      rw [u9qi_lit, u9qi_le (by omega) (by omega)]
      apply propext
      constructor
      · intro hh
        have : 8 ≤ m1 + c := hh
        omega
      · intro hh
        show 8 ≤ m1 + c
        omega
    have t2 : ((8 : Int32) ≤ u9qi (m2 + c)) = (¬ (m2 + c < 8)) := by
      rw [u9qi_lit, u9qi_le (by omega) (by omega)]
      apply propext
      constructor
      · intro hh
        have : 8 ≤ m2 + c := hh
        omega
      · intro hh
        show 8 ≤ m2 + c
        omega
    have hxl := u9la_lt (wd x) (m1 + c)
    have hyl := u9la_lt (wd y) (m2 + c)
    have key : ∀ u v : Nat, u < 256 → v < 256 → (u = (if m1 + c < 8 then u9la (wd x) (m1 + c) else 0)) → (v = (if m2 + c < 8 then u9la (wd y) (m2 + c) else 0)) → f_M_same_212 (f_M_same_129 wd mc fr le en lo ky a0 (u9qi j1) (u9qi j2) l4 l5 (u9qi x) (u9qi y) fu) wd mc fr le en lo ky a0 (u9qi j1) (u9qi j2) l4 l5 (u9qi x) (u9qi y) (u9qi c) (u9qi u) (u9qi v) = some (if u9TL (u9T (wd x)) m1 = u9TL (u9T (wd y)) m2 then .inl () else .inr ()) := by
      intro u v hu hv eu ev
      unfold f_M_same_212
      simp only [u9qi_eq (show u < 2147483648 by omega) (show v < 2147483648 by omega), u9q_p1]
      by_cases huv : u = v
      · rw [if_pos huv]
        refine ih (c + 1) (by omega) (fun i hi => ?_) fu (by omega)
        by_cases hic : i < c
        · exact h i hic
        · obtain rfl : i = c := by omega
          rw [← eu, ← ev]; exact huv
      · rw [if_neg huv, if_neg]
        intro hh
        exact huv (by rw [eu, ev]; exact hTL.1 hh c (by omega))
    simp only [f_M_same_129, f_M_same_129b, f_M_same_173, l1, if_false, o1, o2, c1, c2, hl1, hl2, u9qi_add, t1, t2, ox, oy, cx, cy, if_true]
    by_cases a1 : m1 + c < 8
    · by_cases a2 : m2 + c < 8
      · simp only [a1, a2, not_true, if_false, u9q_at _ a1, u9q_at _ a2, Option.bind_some]
        exact key _ _ hxl hyl (by rw [if_pos a1]) (by rw [if_pos a2])
      · simp only [a1, a2, not_true, not_false_eq_true, if_false, if_true, u9q_at _ a1, Option.bind_some]
        exact key _ 0 hxl (by omega) (by rw [if_pos a1]) (by rw [if_neg a2])
    · by_cases a2 : m2 + c < 8
      · simp only [a1, a2, not_true, not_false_eq_true, if_false, if_true, u9q_at _ a2, Option.bind_some]
        exact key 0 _ (by omega) hyl (by rw [if_neg a1]) (by rw [if_pos a2])
      · simp only [a1, a2, not_false_eq_true, if_true]
        exact key 0 0 (by omega) (by omega) (by rw [if_neg a1]) (by rw [if_neg a2])
