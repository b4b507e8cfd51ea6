theorem u9sh_ge {w v : Int64} (hv : u9okB (u9un v) = true) {m : Nat} (hm : m ≤ u9nl (u9un v)) : (m ≤ u9sh (u9la w) (u9la v)) = (u9H (u9T w) m = u9H (u9T v) m) := by
  have h8 := u9nl_le (u9un v)
  rw [u9H_eq _ _ (by omega)]
  obtain ⟨a, c, _⟩ := u9shr_spec (f := u9la w) (g := u9la v) 8 0 (by omega)
  have hle := u9sh_le (u9la w) (u9la v)
  unfold u9sh at *
  generalize u9shr (u9la w) (u9la v) 8 0 = s at *
  apply propext; constructor
  · intro h i hi
    rw [u9ql_T w (by omega), u9ql_T v (by omega)]; exact (a i (by omega) (by omega)).2
  · intro h
    apply Nat.le_of_not_lt
    intro hs
    have h1 := h s hs
    rw [u9ql_T w (by omega), u9ql_T v (by omega)] at h1
    rcases c (by omega) with c1 | c1
    · have := u9la_pos hv (k := s) (by omega); omega
    · exact c1 h1
theorem u9sh_self {v : Int64} (hv : u9okB (u9un v) = true) {m : Nat} (hm : m ≤ u9nl (u9un v)) : m ≤ u9sh (u9la v) (u9la v) := by rw [u9sh_ge hv hm]
theorem u9wLow_q {n : Nat} {u9tx : Nat → Int64} {cs : Nat → Int32} (hc : ∀ i, i < n → ∃ c, c ≤ 9999 ∧ cs i = u9qi c) {i : Nat} : ∀ r, i + r < n → ∃ l, l ≤ 9999 ∧ u9wLow (u9Wl n u9tx cs) i r = u9qi l := by
  intro r
  induction r with
  | zero => intro h; show ∃ l, l ≤ 9999 ∧ u9wc (u9Wl n u9tx cs) i = u9qi l; rw [u9wc_W (by omega)]; exact hc i (by omega)
  | succ r ih =>
    intro h
    simp only [u9wLow]
    split
    · rw [u9wc_W (by omega)]; exact hc _ (by omega)
    · exact ih (by omega)
def u9kl (f : Nat → Nat) : Nat → Nat → Int64 → Int64
  | 0, _, x => x
  | r + 1, c, x => u9kl f r (c + 1) ((131 : Int64) * x + (u9qi (f c)).toInt64)
def u9keyW (E : Int64) (x : Int64) : Int64 := u9kl (u9ql E) (u9lnr (u9ql E) 8 0) 0 x
def u9keyF : List (Int64 × Int32) → Int64 → Int64
  | [], x => x
  | e :: es, x => u9keyF es (u9keyW e.1 ((31 : Int64) * x + e.2.toInt64))
theorem u9q_sub64 (x : Int64) {c l : Nat} (hc : c ≤ 9999) (hl : l ≤ 9999) : (x + (u9qi c).toInt64) - (u9qi l).toInt64 = x + (u9qi c - u9qi l).toInt64 := by
  have h : (u9qi c).toInt64 - (u9qi l).toInt64 = (u9qi c - u9qi l).toInt64 := by
    apply Int64.toInt_inj.1
    rw [Int64.toInt_sub, Int32.toInt_toInt64, Int32.toInt_toInt64, Int32.toInt_toInt64, Int32.toInt_sub, u9qi_toInt (by omega), u9qi_toInt (by omega)]
    rw [Int.bmod_eq_of_le (by omega) (by omega), Int.bmod_eq_of_le (by omega) (by omega)]
  rw [← h, Int64.sub_eq_add_neg, Int64.sub_eq_add_neg, Int64.add_assoc]
theorem u9kl_shift {f g : Nat → Nat} {m : Nat} : ∀ r c x, (∀ i, c ≤ i → i < c + r → f (m + i) = g i) → u9kl f r (m + c) x = u9kl g r c x := by
  intro r
  induction r with
  | zero => intro c x h; rfl
  | succ r ih =>
    intro c x h
    simp only [u9kl]
    rw [h c (by omega) (by omega), show m + c + 1 = m + (c + 1) by omega]
    exact ih (c + 1) _ (fun i h1 h2 => h i (by omega) (by omega))
theorem u9lnr_is {f : Nat → Nat} {s : Nat} : ∀ r k, k + r = 8 → k ≤ s → s ≤ 8 → (∀ i, k ≤ i → i < s → f i ≠ 0) → (s < 8 → f s = 0) → u9lnr f r k = s := by
  intro r
  induction r with
  | zero => intro k hk h1 h2 h3 h4; simp only [u9lnr]; omega
  | succ r ih =>
    intro k hk h1 h2 h3 h4
    simp only [u9lnr]
    by_cases hks : k = s
    · rw [if_pos (by rw [hks]; exact h4 (by omega))]; exact hks
    · rw [if_neg (h3 k (by omega) (by omega))]
      exact ih (k + 1) (by omega) (by omega) h2 (fun i a b => h3 i (by omega) b) h4
theorem u9lnr_TL {w : Int64} (hw : u9okB (u9un w) = true) {m : Nat} (hm : m ≤ u9nl (u9un w)) : u9lnr (u9ql (u9TL (u9T w) m)) 8 0 = u9nl (u9un w) - m := by
  have h8 := u9nl_le (u9un w)
  refine u9lnr_is 8 0 (by omega) (by omega) (by omega) (fun i _ hi => ?_) (fun h => ?_)
  · rw [u9ql_TL _ (by omega) (by omega), if_pos (by omega), u9ql_T w (by omega)]
    have := u9la_pos hw (k := m + i) (by omega); omega
  · rw [u9ql_TL _ (by omega) h]
    by_cases hh : m + (u9nl (u9un w) - m) < 8
    · rw [if_pos hh, u9ql_T w (by omega)]; exact u9la_zero (by omega)
    · rw [if_neg hh]
theorem u9q_key_in {n p : Nat} (hp : p < 3) (sz : Nat → Int32) (wd : Nat → Int64) (mc : Nat → Int32) (a1 a2 nb : Int32) (fr le en lo : Nat → Int32) {B : Nat} (hB : B < 216) (l5 : Int32) {j : Nat} (hj : j < 24) {q : Nat} (hq : q ≤ 8) :
    ∀ r c (ky : Nat → Int64), c + r = q → ∀ fu, r < fu → ∃ ky', f_M_begin_235 sz wd mc (u9qi p) a1 a2 nb fr le en lo (u9qi B) l5 (u9qi j) (u9qi q) fu ky (u9qi c) = some ky' ∧ ky' B = u9kl (u9la (wd (24 * p + j))) r c (ky B) ∧ ∀ x, x ≠ B → ky' x = ky x := by
  intro r
  have o1 : okI (u9qi B) 216 = true := by rw [u9qi_ok _ (by omega)]; omega
  have cB : (u9qi B).toNatClampNeg = B := u9qi_cl (by omega)
  have x1 : (24 : Int32) * u9qi p + u9qi j = u9qi (24 * p + j) := by rw [u9qi_lit, u9qi_mul, u9qi_add]
  have o2 : okI (u9qi (24 * p + j)) 72 = true := by rw [u9qi_ok _ (by omega)]; omega
  have c2 : (u9qi (24 * p + j)).toNatClampNeg = 24 * p + j := u9qi_cl (by omega)
  induction r with
  | zero =>
    intro c ky hc fu hf
    obtain ⟨fu, rfl⟩ : ∃ m, fu = m + 1 := ⟨fu - 1, by omega⟩
    have l1 : u9qi q ≤ u9qi c := by rw [u9qi_le (by omega) (by omega)]; omega
    refine ⟨ky, ?_, rfl, fun _ _ => rfl⟩
    simp only [f_M_begin_235, f_M_begin_235b, l1, if_true]
  | succ r ih =>
    intro c ky hc fu hf
    obtain ⟨fu, rfl⟩ : ∃ m, fu = m + 1 := ⟨fu - 1, by omega⟩
    have l1 : ¬ (u9qi q ≤ u9qi c) := by rw [u9qi_le (by omega) (by omega)]; omega
    simp only [f_M_begin_235, f_M_begin_235b, l1, if_false, o1, if_true, x1, o2, c2, cB, u9q_at _ (show c < 8 by omega), Option.bind_some, u9q_p1]
    obtain ⟨ky', e, g1, g2⟩ := ih (c + 1) (vp_updL ky B ((131 : Int64) * ky B + (u9qi (u9la (wd (24 * p + j)) c)).toInt64)) (by omega) fu (by omega)
    refine ⟨ky', e, ?_, fun x hx => ?_⟩
    · rw [g1]; simp [vp_updL, u9kl]
    · rw [g2 x hx]; simp [vp_updL, hx]
theorem u9q_key_out {n p : Nat} (hp : p < 3) {dt : Nat → Int64} {dc : Nat → Int32} {wd : Nat → Int64} {mc : Nat → Int32} (hW : u9WR n dt dc (fun i => wd (24 * p + i)) (fun i => mc (24 * p + i))) (sz : Nat → Int32) {i m : Nat} (hi : i < n) (hm : ∀ k, i ≤ k → k < u9wE (u9Wl n dt dc) i m → m ≤ u9nl (u9un (wd (24 * p + k)))) (nb : Int32) (fr le en lo : Nat → Int32) {B : Nat} (hB : B < 216) (hlo : lo B = u9wL (u9Wl n dt dc) i m) :
    ∀ r k (ky : Nat → Int64), k + r = u9wE (u9Wl n dt dc) i m → i ≤ k → ∀ fu, r < fu → ∃ ky', f_M_begin_167 sz wd mc (u9qi p) (u9qi i) (u9qi m) nb fr le en lo (u9qi B) (u9qi (u9wE (u9Wl n dt dc) i m)) fu ky (u9qi k) = some ky' ∧ ky' B = u9keyF ((u9wD (u9Wl n dt dc) (i, m)).drop (k - i)) (ky B) ∧ ∀ x, x ≠ B → ky' x = ky x := by
  intro r
  have hE := u9wE_bd (W := u9Wl n dt dc) (i := i) (m := m) (by rw [u9Wl_len]; exact hi)
  rw [u9Wl_len] at hE
  have hn := hW.1
  have o1 : okI (u9qi B) 216 = true := by rw [u9qi_ok _ (by omega)]; omega
  have cB : (u9qi B).toNatClampNeg = B := u9qi_cl (by omega)
  have hlen : (u9wD (u9Wl n dt dc) (i, m)).length = u9wE (u9Wl n dt dc) i m - i := u9ls_len _ _
  obtain ⟨l, hl9, hlq⟩ := u9wLow_q (u9tx := dt) (fun j hj => (hW.2.2 j hj).2.2.2) (i := i) (u9wE (u9Wl n dt dc) i m - i - 1) (by omega)
  have hwl : u9wL (u9Wl n dt dc) i m = u9qi l := hlq
  induction r with
  | zero =>
    intro k ky hk hik fu hf
    obtain ⟨fu, rfl⟩ : ∃ m, fu = m + 1 := ⟨fu - 1, by omega⟩
    have l1 : u9qi (u9wE (u9Wl n dt dc) i m) ≤ u9qi k := by rw [u9qi_le (by omega) (by omega)]; omega
    refine ⟨ky, ?_, ?_, fun _ _ => rfl⟩
    · simp only [f_M_begin_167, f_M_begin_167b, l1, if_true]
    · rw [List.drop_eq_nil_of_le (by omega)]; rfl
  | succ r ih =>
    intro k ky hk hik fu hf
    obtain ⟨fu, rfl⟩ : ∃ m, fu = m + 1 := ⟨fu - 1, by omega⟩
    have l1 : ¬ (u9qi (u9wE (u9Wl n dt dc) i m) ≤ u9qi k) := by rw [u9qi_le (by omega) (by omega)]; omega
    obtain ⟨w1, w2, w3, c, c9, w4⟩ := hW.2.2 k (by omega)
    have w3 : mc (24 * p + k) = u9qi c := by rw [← w4, w3]
    have x1 : (24 : Int32) * u9qi p + u9qi k = u9qi (24 * p + k) := by rw [u9qi_lit, u9qi_mul, u9qi_add]
    have o2 : okI (u9qi (24 * p + k)) 72 = true := by rw [u9qi_ok _ (by omega)]; omega
    have c2 : (u9qi (24 * p + k)).toNatClampNeg = 24 * p + k := u9qi_cl (by omega)
    have h8 := u9nl_le (u9un (wd (24 * p + k)))
    have hmk := hm k hik (by omega)
    obtain ⟨ky1, e1, g1, g2⟩ := u9q_key_in (n := n) hp sz wd mc (u9qi i) (u9qi m) nb fr le en lo hB (u9qi (u9wE (u9Wl n dt dc) i m)) (j := k) (by omega) h8 (u9nl (u9un (wd (24 * p + k))) - m) m (vp_updL ky B ((((31 : Int64) * ky B) + (mc (24 * p + k)).toInt64) - (lo B).toInt64)) (by omega) FU (by unfold FU; omega)
    simp only [f_M_begin_167, f_M_begin_167b, l1, if_false, o1, if_true, x1, o2, c2, cB, u9q_lettersOf, Option.bind_some, e1, u9q_p1]
    obtain ⟨ky2, e2, k1, k2⟩ := ih (k + 1) ky1 (by omega) (by omega) fu (by omega)
    refine ⟨ky2, e2, ?_, fun x hx => ?_⟩
    · rw [k1, g1]
      have hdrop : (u9wD (u9Wl n dt dc) (i, m)).drop (k - i) = (u9TL (dt k) m, dc k - u9wL (u9Wl n dt dc) i m) :: (u9wD (u9Wl n dt dc) (i, m)).drop (k + 1 - i) := by
        rw [List.drop_eq_getElem_cons (by omega), show k + 1 - i = k - i + 1 by omega]
        congr 1
        have : (u9wD (u9Wl n dt dc) (i, m))[k - i]? = some (u9TL (dt k) m, dc k - u9wL (u9Wl n dt dc) i m) := by
          rw [u9wD_eq (b := (i, m)) hi, u9ls_get _ (by show k - i < _; simp only; omega)]
          simp only [show i + (k - i) = k by omega]
        rw [List.getElem?_eq_getElem (by omega)] at this
        exact Option.some.inj this
      rw [hdrop]
      simp only [u9keyF]
      congr 1
      have hv : vp_updL ky B ((((31 : Int64) * ky B) + (mc (24 * p + k)).toInt64) - (lo B).toInt64) B = (31 : Int64) * ky B + (dc k - u9wL (u9Wl n dt dc) i m).toInt64 := by
        simp only [vp_updL, if_true]
        rw [hlo, hwl, w3, w4, u9q_sub64 _ c9 hl9]
      rw [hv]
      unfold u9keyW
      have hTL : u9TL (dt k) m = u9TL (u9T (wd (24 * p + k))) m := by rw [w2]
      rw [hTL, u9lnr_TL (u9okW_B w1) hmk]
      have := u9kl_shift (f := u9la (wd (24 * p + k))) (g := u9ql (u9TL (u9T (wd (24 * p + k))) m)) (m := m) (u9nl (u9un (wd (24 * p + k))) - m) 0 ((31 : Int64) * ky B + (dc k - u9wL (u9Wl n dt dc) i m).toInt64) (fun x hx1 hx2 => by
        rw [u9ql_TL _ (by omega) (by omega), if_pos (by omega), u9ql_T _ (by omega)])
      simpa using this
    · rw [k2 x hx, g2 x hx]; simp [vp_updL, hx]
theorem u9q_bg_k {n p : Nat} (hp : p < 3) {dt : Nat → Int64} {dc : Nat → Int32} {wd : Nat → Int64} {mc : Nat → Int32} (hW : u9WR n dt dc (fun i => wd (24 * p + i)) (fun i => mc (24 * p + i))) {sz : Nat → Int32} (hsz : sz p = u9qi n) {i m : Nat} (hi : i < n) (hm : m ≤ u9nl (u9un (wd (24 * p + i)))) (nb : Int32) (fr le en : Nat → Int32) (ky : Nat → Int64) {B : Nat} (hB : B < 216) :
    ∀ r k (lo : Nat → Int32), k + r = n → i + 1 ≤ k → lo B = u9wLow (u9Wl n dt dc) i (k - 1 - i) → ∀ fu, r < fu → ∃ lo', f_M_begin_45 sz wd mc (u9qi p) (u9qi i) (u9qi m) nb fr le en ky (u9qi B) fu lo (u9qi k) = some (lo', u9qi (u9wEnd (u9Wl n dt dc) (u9H (dt i) m) m r k)) ∧ lo' B = u9wLow (u9Wl n dt dc) i (u9wEnd (u9Wl n dt dc) (u9H (dt i) m) m r k - 1 - i) ∧ ∀ x, x ≠ B → lo' x = lo x := by
  intro r
  have hn := hW.1
  have o1 : okI (u9qi B) 216 = true := by rw [u9qi_ok _ (by omega)]; omega
  have cB : (u9qi B).toNatClampNeg = B := u9qi_cl (by omega)
  have o3 : okI (u9qi p) 3 = true := by rw [u9qi_ok _ (by omega)]; omega
  have cp : (u9qi p).toNatClampNeg = p := u9qi_cl (by omega)
  obtain ⟨v1, v2, v3, cv, cv9, v4⟩ := hW.2.2 i hi
  have h8 := u9nl_le (u9un (wd (24 * p + i)))
  have xi : (24 : Int32) * u9qi p + u9qi i = u9qi (24 * p + i) := by rw [u9qi_lit, u9qi_mul, u9qi_add]
  have oi : okI (u9qi (24 * p + i)) 72 = true := by rw [u9qi_ok _ (by omega)]; omega
  have ci : (u9qi (24 * p + i)).toNatClampNeg = 24 * p + i := u9qi_cl (by omega)
  induction r with
  | zero =>
    intro k lo hk hik hlo fu hf
    obtain ⟨fu, rfl⟩ : ∃ m, fu = m + 1 := ⟨fu - 1, by omega⟩
    have l1 : u9qi n ≤ u9qi k := by rw [u9qi_le (by omega) (by omega)]; omega
    refine ⟨lo, ?_, hlo, fun _ _ => rfl⟩
    simp only [f_M_begin_45, f_M_begin_45b, o3, if_true, cp, hsz, l1, u9wEnd]
  | succ r ih =>
    intro k lo hk hik hlo fu hf
    obtain ⟨fu, rfl⟩ : ∃ m, fu = m + 1 := ⟨fu - 1, by omega⟩
    have l1 : ¬ (u9qi n ≤ u9qi k) := by rw [u9qi_le (by omega) (by omega)]; omega
    obtain ⟨w1, w2, w3, c, c9, w4⟩ := hW.2.2 k (by omega)
    have x1 : (24 : Int32) * u9qi p + u9qi k = u9qi (24 * p + k) := by rw [u9qi_lit, u9qi_mul, u9qi_add]
    have o2 : okI (u9qi (24 * p + k)) 72 = true := by rw [u9qi_ok _ (by omega)]; omega
    have c2 : (u9qi (24 * p + k)).toNatClampNeg = 24 * p + k := u9qi_cl (by omega)
    have hcond : (m ≤ u9sh (u9la (wd (24 * p + k))) (u9la (wd (24 * p + i)))) = (u9H (dt k) m = u9H (dt i) m) := by
      have := u9sh_ge (w := wd (24 * p + k)) (v := wd (24 * p + i)) (u9okW_B v1) hm
      rw [w2, v2]; exact this
    have hsl := u9sh_le (u9la (wd (24 * p + k))) (u9la (wd (24 * p + i)))
    have h90 : u9H (dt k) m = u9H (dt i) m → ∃ lo', f_M_begin_90 (f_M_begin_45 sz wd mc (u9qi p) (u9qi i) (u9qi m) nb fr le en ky (u9qi B) fu) sz wd mc (u9qi p) (u9qi i) (u9qi m) nb fr le en ky (u9qi B) lo (u9qi k) = some (lo', u9qi (u9wEnd (u9Wl n dt dc) (u9H (dt i) m) m r (k + 1))) ∧ lo' B = u9wLow (u9Wl n dt dc) i (u9wEnd (u9Wl n dt dc) (u9H (dt i) m) m r (k + 1) - 1 - i) ∧ ∀ x, x ≠ B → lo' x = lo x := by
      intro hH
      have hstep : ∃ v, f_M_begin_90 (f_M_begin_45 sz wd mc (u9qi p) (u9qi i) (u9qi m) nb fr le en ky (u9qi B) fu) sz wd mc (u9qi p) (u9qi i) (u9qi m) nb fr le en ky (u9qi B) lo (u9qi k) = f_M_begin_45 sz wd mc (u9qi p) (u9qi i) (u9qi m) nb fr le en ky (u9qi B) fu (upd lo B v) (u9qi (k + 1)) ∧ v = u9wLow (u9Wl n dt dc) i (k - i) := by
        have hwl : u9wLow (u9Wl n dt dc) i (k - i) = if dc k < lo B then dc k else lo B := by
          rw [hlo]
          obtain ⟨j, hj⟩ : ∃ j, k = i + j + 1 := ⟨k - 1 - i, by omega⟩
          subst hj
          rw [show i + j + 1 - i = j + 1 by omega, show i + j + 1 - 1 - i = j by omega]
          simp only [u9wLow]
          rw [u9wc_W (show i + j + 1 < n by omega)]
        have w3' : dc k = mc (24 * p + k) := w3
        rw [w3'] at hwl
        unfold f_M_begin_90 f_M_begin_140
        simp only [x1, o2, o1, c2, cB, if_true, u9q_p1]
        by_cases hc : lo B ≤ mc (24 * p + k)
        · simp only [hc, if_true]
          refine ⟨lo B, rfl, ?_⟩
          rw [hwl, if_neg (fun hh => u9i32_no hh hc)]
        · simp only [hc, if_false]
          refine ⟨mc (24 * p + k), rfl, ?_⟩
          rw [hwl, if_pos (u9i32_lt_of hc)]
      obtain ⟨v, e, ev⟩ := hstep
      obtain ⟨lo', e2, g1, g2⟩ := ih (k + 1) (upd lo B v) (by omega) (by omega) (by simp only [upd, if_true, ev]; first | done | (congr 1; done) | (congr 1; omega)) fu (by omega)
      refine ⟨lo', by rw [e, e2], g1, fun x hx => ?_⟩
      rw [g2 x hx]; simp [upd, hx]
    simp only [f_M_begin_45, f_M_begin_45b, o3, if_true, cp, hsz, l1, if_false, u9wEnd, u9wt_W (u9tx := dt) (cs := dc) (show k < n by omega)]
    by_cases hm0 : m = 0
    · have hH : u9H (dt k) m = u9H (dt i) m := by rw [← hcond]; omega
      have z0 : u9qi m = 0 := by rw [hm0]; rfl
      rw [if_pos z0]
      simp only [hH, if_true]
      exact h90 hH
    · have z0 : ¬ (u9qi m = 0) := by rw [u9qi_lit, u9qi_eq (by omega) (by omega)]; exact hm0
      rw [if_neg z0]
      simp only [x1, o2, c2, xi, oi, ci, if_true, u9q_common, Option.bind_some, u9qi_lt (show u9sh (u9la (wd (24 * p + k))) (u9la (wd (24 * p + i))) < 2147483648 by omega) (show m < 2147483648 by omega)]
      by_cases hH : u9H (dt k) m = u9H (dt i) m
      · have := hcond.mpr hH
        rw [if_neg (by omega)]
        simp only [hH, if_true]
        exact h90 hH
      · have : ¬ (m ≤ u9sh (u9la (wd (24 * p + k))) (u9la (wd (24 * p + i)))) := fun hh => hH (hcond.mp hh)
        rw [if_pos (by omega)]
        simp only [hH, if_false]
        exact ⟨lo, rfl, hlo, fun _ _ => rfl⟩
