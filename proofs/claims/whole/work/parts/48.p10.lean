theorem u9q_Md_k {n : Nat} (hn : n ≤ 24) (a0 : Int64) (th : Int32) (dr : Nat → Int64) (u9wt : Nat → Int32) : ∀ r k, k + r = n → (∀ i, i < k → dr i ≠ a0) → ∀ fu, r < fu → (∃ i, i < n ∧ dr i = a0 ∧ f_M_drop_7 a0 th (u9qi n) dr u9wt fu (u9qi k) = some (.inr (u9qi i))) ∨ ((∀ i, i < n → dr i ≠ a0) ∧ f_M_drop_7 a0 th (u9qi n) dr u9wt fu (u9qi k) = some (.inl ())) := by
  intro r
  induction r with
  | zero =>
    intro k hk hb fu hf
    obtain ⟨fu, rfl⟩ : ∃ m, fu = m + 1 := ⟨fu - 1, by omega⟩
    obtain rfl : k = n := by omega
    refine Or.inr ⟨hb, ?_⟩
    simp only [f_M_drop_7, f_M_drop_7b]
    rw [if_pos (by rw [u9qi_le (by omega) (by omega)]; omega)]
  | succ r ih =>
    intro k hk hb fu hf
    obtain ⟨fu, rfl⟩ : ∃ m, fu = m + 1 := ⟨fu - 1, by omega⟩
    simp only [f_M_drop_7, f_M_drop_7b]
    rw [if_neg (by rw [u9qi_le (by omega) (by omega)]; omega), if_pos (by rw [u9qi_ok _ (by omega)]; omega), u9qi_cl (by omega)]
    by_cases h : dr k = a0
    · rw [if_pos h]; exact Or.inl ⟨k, by omega, h, rfl⟩
    · rw [if_neg h, show u9qi k + 1 = u9qi (k + 1) by rw [u9qi_lit, u9qi_add]]
      refine ih (k + 1) (by omega) (fun i hi => ?_) fu (by omega)
      by_cases hik : i < k
      · exact hb i hik
      · obtain rfl : i = k := by omega
        exact h
theorem u9q_Mdrop {n : Nat} (hn : n ≤ 24) (a0 : Int64) (th : Int32) (dr : Nat → Int64) (u9wt : Nat → Int32) :
    (∃ i, i < n ∧ dr i = a0 ∧ f_M_drop th (u9qi n) dr u9wt a0 = some (1, 0, u9qi (n - 1), vp_updL dr i (dr (n - 1)), upd u9wt i (u9wt (n - 1)))) ∨ ((∀ i, i < n → dr i ≠ a0) ∧ f_M_drop th (u9qi n) dr u9wt a0 = some (0, 0, u9qi n, dr, u9wt)) := by
  unfold f_M_drop
  rcases u9q_Md_k hn a0 0 dr u9wt n 0 (by omega) (fun i hi => absurd hi (by omega)) FU (by unfold FU; omega) with ⟨i, hi, hd, h⟩ | ⟨hno, h⟩
  · refine Or.inl ⟨i, hi, hd, ?_⟩
    have h' := h
    rw [show (u9qi 0 : Int32) = 0 from rfl] at h'
    rw [h']
    have e1 : u9qi n - 1 = u9qi (n - 1) := by rw [u9qi_lit, u9qi_sub (by omega)]
    have o1 : okI (u9qi (n - 1)) 24 = true := by rw [u9qi_ok _ (by omega)]; omega
    have o2 : okI (u9qi i) 24 = true := by rw [u9qi_ok _ (by omega)]; omega
    simp only [Option.bind_some, Sum.elim_inr, e1, o1, o2, if_true, u9qi_cl (show i < 2147483648 by omega), u9qi_cl (show n - 1 < 2147483648 by omega)]
  · refine Or.inr ⟨hno, ?_⟩
    have h' := h
    rw [show (u9qi 0 : Int32) = 0 from rfl] at h'
    rw [h']; rfl
theorem u9qw_drop {n u9tx cs dr u9wt} (h : u9DR n u9tx cs dr u9wt) (a : Int64) (th : Int32) :
    ∃ ans n' tx' cs' dr' wt', f_S_drop (u9qi n) u9tx cs a = some (ans, u9qi n', tx', cs') ∧ f_M_drop th (u9qi n) dr u9wt a = some (ans, 0, u9qi n', dr', wt') ∧ u9DR n' tx' cs' dr' wt' := by
  have hn := h.1
  unfold f_S_drop
  rw [u9q_isW]
  simp only [Option.bind_some]
  by_cases hw : u9okW a = true
  · simp only [hw, if_true, u9n10, if_false]
    rw [u9q_of]
    simp only [Option.bind_some]
    rcases u9q_remove hn cs h.2.1 (u9T a) with ⟨i, tx', cs', hi, he, hp, g1, g2⟩ | ⟨hno, hp⟩
    · obtain ⟨k, hk, hdk⟩ := (u9DR_has h hw).1 ⟨i, hi, he⟩
      rcases u9q_Mdrop hn a th dr u9wt with ⟨k', hk', hdk', hm⟩ | ⟨hno', hm⟩
      · rw [hp, hm]
        refine ⟨1, n - 1, tx', cs', vp_updL dr k' (dr (n - 1)), upd u9wt k' (u9wt (n - 1)), ?_, rfl, ?_⟩
        · simp [u9n10]
        · obtain ⟨m, rfl⟩ : ∃ m, n = m + 1 := ⟨n - 1, by omega⟩
          simp only [Nat.add_sub_cancel] at *
          refine ⟨by omega, ?_, ?_, ?_, ?_⟩
          · intro x y hxy hy
            by_cases hyi : y < i
            · rw [(g1 x (by omega)).1, (g1 y hyi).1]; exact h.2.1 x y hxy (by omega)
            · rw [(g2 y (by omega) (by omega)).1]
              by_cases hxi : x < i
              · rw [(g1 x hxi).1]; exact h.2.1 x (y + 1) (by omega) (by omega)
              · rw [(g2 x (by omega) (by omega)).1]; exact h.2.1 (x + 1) (y + 1) (by omega) (by omega)
          · have p1 := u9ls_ins (f := fun j => (tx' j, cs' j)) (f' := fun j => (u9tx j, cs j)) (x := (u9tx i, cs i)) m i (by omega) (fun j hj => by simp only [(g1 j hj).1, (g1 j hj).2]) rfl (fun j hj hjm => by
              have := g2 (j - 1) (by omega) (by omega)
              rw [show j - 1 + 1 = j by omega] at this
              simp only [this.1, this.2])
            have heq : (u9tx i, cs i) = (u9T (dr k'), (9999 : Int32) - u9wt k') := by
              obtain ⟨i', hi', e1, e2⟩ := u9DR_of h hk'
              have : i' = i := u9Srt_inj h.2.1 hi' hi (by rw [e1, he, hdk'])
              subst this
              rw [e1, e2]
            have p2 : (u9ls (fun k => (u9T (dr k), (9999 : Int32) - u9wt k)) (m + 1)).Perm ((u9T (dr k'), (9999 : Int32) - u9wt k') :: u9ls (fun j => (u9T (vp_updL dr k' (dr m) j), (9999 : Int32) - upd u9wt k' (u9wt m) j)) m) := by
              rw [u9ls_succ]
              by_cases hkm : k' = m
              · subst hkm
                rw [u9ls_congr (f := fun j => (u9T (vp_updL dr k' (dr k') j), (9999 : Int32) - upd u9wt k' (u9wt k') j)) (g := fun k => (u9T (dr k), (9999 : Int32) - u9wt k)) (fun j hj => by simp only [vp_updL, upd]; rw [if_neg (by omega), if_neg (by omega)])]
                exact List.perm_append_comm
              · have p := u9ls_set (g := fun j => (u9T (dr j), (9999 : Int32) - u9wt j)) (g' := fun j => (u9T (vp_updL dr k' (dr m) j), (9999 : Int32) - upd u9wt k' (u9wt m) j)) (y := (u9T (dr m), (9999 : Int32) - u9wt m)) (k := k') (by simp [upd, vp_updL]) (fun j hj => by simp [upd, vp_updL, hj]) m (by omega)
                have q : (u9ls (fun k => (u9T (dr k), (9999 : Int32) - u9wt k)) m ++ [(u9T (dr m), (9999 : Int32) - u9wt m)]).Perm ((u9T (dr m), (9999 : Int32) - u9wt m) :: u9ls (fun k => (u9T (dr k), (9999 : Int32) - u9wt k)) m) := List.perm_append_comm
                exact q.trans p
            have p3 := p1.symm.trans (h.2.2.1.trans p2)
            rw [heq] at p3
            exact p3.cons_inv
          · intro j hj
            simp only [vp_updL]
            split
            · exact h.2.2.2.1 m (by omega)
            · exact h.2.2.2.1 j (by omega)
          · intro j hj
            simp only [upd]
            split
            · exact h.2.2.2.2 m (by omega)
            · exact h.2.2.2.2 j (by omega)
      · exact absurd hdk (hno' k hk)
    · rcases u9q_Mdrop hn a th dr u9wt with ⟨k', hk', hdk', hm⟩ | ⟨hno', hm⟩
      · obtain ⟨i, hi, he⟩ := (u9DR_has h hw).2 ⟨k', hk', hdk'⟩
        exact absurd he (hno i hi)
      · rw [hp, hm]
        exact ⟨0, n, u9tx, cs, dr, u9wt, by simp, rfl, h⟩
  · have hw' : u9okW a = false := by simpa using hw
    simp only [hw']
    rcases u9q_Mdrop hn a th dr u9wt with ⟨k', hk', hdk', hm⟩ | ⟨hno', hm⟩
    · have := h.2.2.2.1 k' hk'
      rw [hdk'] at this; exact absurd this hw
    · rw [hm]
      exact ⟨0, n, u9tx, cs, dr, u9wt, by simp, rfl, h⟩
def u9PR (n : Nat) (fs sc : Nat → Int64) (tm : Nat → Int32) (ft sd : Nat → Int64) (le : Nat → Int32) (q : Nat) : Prop :=
  n ≤ 40 ∧ ∀ k, k < n → u9okW (ft k) = true ∧ u9okW (sd k) = true ∧ fs k = u9T (ft k) ∧ sc k = u9T (sd k) ∧ tm k = le k ∧ ∃ v, 1 ≤ v ∧ v ≤ q ∧ le k = u9qi v
def u9pix (n : Nat) (ft sd : Nat → Int64) (a b : Int64) : Nat → Nat → Nat
  | 0, k => k
  | r + 1, k => if ft k = a ∧ sd k = b then k else u9pix n ft sd a b r (k + 1)
theorem u9pix_le {n : Nat} {ft sd : Nat → Int64} {a b : Int64} : ∀ r k, k + r = n → k ≤ u9pix n ft sd a b r k ∧ u9pix n ft sd a b r k ≤ n := by
  intro r
  induction r with
  | zero => intro k hk; simp only [u9pix]; omega
  | succ r ih =>
    intro k hk
    have := ih (k + 1) (by omega)
    simp only [u9pix]
    split <;> omega
theorem u9pix_at {n : Nat} {ft sd : Nat → Int64} {a b : Int64} : ∀ r k, k + r = n → u9pix n ft sd a b r k < n → ft (u9pix n ft sd a b r k) = a ∧ sd (u9pix n ft sd a b r k) = b := by
  intro r
  induction r with
  | zero => intro k hk h; simp only [u9pix] at h; omega
  | succ r ih =>
    intro k hk h
    simp only [u9pix] at h ⊢
    by_cases hc : ft k = a ∧ sd k = b
    · rw [if_pos hc]; exact hc
    · rw [if_neg hc] at h ⊢; exact ih (k + 1) (by omega) h
def u9pres (n p : Nat) : Unit ⊕ Int32 := if p < n then .inr (u9qi p) else .inl ()
theorem u9q_pix_k {n : Nat} (hn : n ≤ 40) {fs sc : Nat → Int64} {ft sd : Nat → Int64} (hp : ∀ k, k < n → u9okW (ft k) = true ∧ u9okW (sd k) = true ∧ fs k = u9T (ft k) ∧ sc k = u9T (sd k)) {a b : Int64} (ha : u9okW a = true) (hb : u9okW b = true) : ∀ r k, k + r = n → ∀ fu, r < fu → f_Pairs_indexOf_3 (u9qi n) fs sc (u9T a) (u9T b) fu (u9qi k) = some (u9pres n (u9pix n ft sd a b r k)) := by
  intro r
  induction r with
  | zero =>
    intro k hk fu hf
    obtain ⟨fu, rfl⟩ : ∃ m, fu = m + 1 := ⟨fu - 1, by omega⟩
    simp only [f_Pairs_indexOf_3, f_Pairs_indexOf_3b, u9pix]
    rw [if_pos (by rw [u9qi_le (by omega) (by omega)]; omega)]; unfold u9pres; rw [if_neg (by omega)]
  | succ r ih =>
    intro k hk fu hf
    obtain ⟨fu, rfl⟩ : ∃ m, fu = m + 1 := ⟨fu - 1, by omega⟩
    have o1 : okI (u9qi k) 40 = true := by rw [u9qi_ok _ (by omega)]; omega
    obtain ⟨w1, w2, t1, t2⟩ := hp k (by omega)
    have i1 := ih (k + 1) (by omega) fu (by omega)
    have e1 : u9qi k + 1 = u9qi (k + 1) := by rw [u9qi_lit, u9qi_add]
    simp only [f_Pairs_indexOf_3, f_Pairs_indexOf_3b, f_Pairs_indexOf_39, u9pix]
    rw [if_neg (by rw [u9qi_le (by omega) (by omega)]; omega)]
    simp only [o1, if_true, u9qi_cl (show k < 2147483648 by omega), t1, t2, u9T_inj (u9okW_B w1) (u9okW_B ha), u9T_inj (u9okW_B w2) (u9okW_B hb), e1, i1]
    by_cases h1 : ft k = a
    · by_cases h2 : sd k = b
      · rw [if_pos h1, if_pos h2, if_pos ⟨h1, h2⟩]; unfold u9pres; rw [if_pos (by omega)]
      · rw [if_pos h1, if_neg h2, if_neg (fun h => h2 h.2)]
    · rw [if_neg h1, if_neg (fun h => h1 h.1)]
theorem u9q_pix {n : Nat} (hn : n ≤ 40) {fs sc : Nat → Int64} {ft sd : Nat → Int64} (hp : ∀ k, k < n → u9okW (ft k) = true ∧ u9okW (sd k) = true ∧ fs k = u9T (ft k) ∧ sc k = u9T (sd k)) {a b : Int64} (ha : u9okW a = true) (hb : u9okW b = true) : f_Pairs_indexOf (u9qi n) fs sc (u9T a) (u9T b) = some (if u9pix n ft sd a b n 0 < n then u9qi (u9pix n ft sd a b n 0) else -1) := by
  unfold f_Pairs_indexOf
  have h := u9q_pix_k hn hp ha hb n 0 (by omega) FU (by unfold FU; omega)
  rw [show (0 : Int32) = u9qi 0 from rfl, h]
  unfold u9pres
  split <;> rfl
theorem u9q_Mpix_k {n : Nat} (hn : n ≤ 40) (ft sd : Nat → Int64) (a b : Int64) : ∀ r k, k + r = n → ∀ fu, r < fu → f_M_pairOf_3 (u9qi n) ft sd a b fu (u9qi k) = some (u9qi (u9pix n ft sd a b r k)) := by
  intro r
  induction r with
  | zero =>
    intro k hk fu hf
    obtain ⟨fu, rfl⟩ : ∃ m, fu = m + 1 := ⟨fu - 1, by omega⟩
    simp only [f_M_pairOf_3, f_M_pairOf_3b, u9pix]
    rw [if_pos (by rw [u9qi_le (by omega) (by omega)]; omega)]
  | succ r ih =>
    intro k hk fu hf
    obtain ⟨fu, rfl⟩ : ∃ m, fu = m + 1 := ⟨fu - 1, by omega⟩
    have o1 : okI (u9qi k) 40 = true := by rw [u9qi_ok _ (by omega)]; omega
    have i1 := ih (k + 1) (by omega) fu (by omega)
    have e1 : u9qi k + 1 = u9qi (k + 1) := by rw [u9qi_lit, u9qi_add]
    simp only [f_M_pairOf_3, f_M_pairOf_3b, f_M_pairOf_36, u9pix]
    rw [if_neg (by rw [u9qi_le (by omega) (by omega)]; omega)]
    simp only [o1, if_true, u9qi_cl (show k < 2147483648 by omega), e1, i1]
    by_cases h1 : ft k = a
    · by_cases h2 : sd k = b
      · rw [if_pos h1, if_pos h2, if_pos ⟨h1, h2⟩]
      · rw [if_pos h1, if_neg h2, if_neg (fun h => h2 h.2)]
    · rw [if_neg h1, if_neg (fun h => h1 h.1)]
theorem u9q_Mpix {n : Nat} (hn : n ≤ 40) (ft sd : Nat → Int64) (a b : Int64) : f_M_pairOf (u9qi n) ft sd a b = some (u9qi (u9pix n ft sd a b n 0)) := by
  unfold f_M_pairOf
  have h := u9q_Mpix_k hn ft sd a b n 0 (by omega) FU (by unfold FU; omega)
  rw [show (0 : Int32) = u9qi 0 from rfl, h]
  rfl
