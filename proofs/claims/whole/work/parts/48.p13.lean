def u9wt (W : List (Int64 × Int32)) (i : Nat) : Int64 := (W.getD i (0, 0)).1
def u9wc (W : List (Int64 × Int32)) (i : Nat) : Int32 := (W.getD i (0, 0)).2
def u9wEnd (W : List (Int64 × Int32)) (h : Int64) (m : Nat) : Nat → Nat → Nat
  | 0, k => k
  | r + 1, k => if u9H (u9wt W k) m = h then u9wEnd W h m r (k + 1) else k
def u9wE (W : List (Int64 × Int32)) (i m : Nat) : Nat := u9wEnd W (u9H (u9wt W i) m) m (W.length - (i + 1)) (i + 1)
def u9wLow (W : List (Int64 × Int32)) (i : Nat) : Nat → Int32
  | 0 => u9wc W i
  | r + 1 => if u9wc W (i + r + 1) < u9wLow W i r then u9wc W (i + r + 1) else u9wLow W i r
def u9wL (W : List (Int64 × Int32)) (i m : Nat) : Int32 := u9wLow W i (u9wE W i m - i - 1)
def u9wD (W : List (Int64 × Int32)) (b : Nat × Nat) : List (Int64 × Int32) := u9ls (fun k => (u9TL (u9wt W (b.1 + k)) b.2, u9wc W (b.1 + k) - u9wL W b.1 b.2)) (u9wE W b.1 b.2 - b.1)
def u9wF (W : List (Int64 × Int32)) (i : Nat) : Nat := if i = 0 then 0 else u9sh (u9ql (u9wt W (i - 1))) (u9ql (u9wt W i)) + 1
def u9wN (W : List (Int64 × Int32)) (i : Nat) : Nat := u9lnr (u9ql (u9wt W i)) 8 0
def u9wB (W : List (Int64 × Int32)) : List (Nat × Nat) := (List.range W.length).flatMap (fun i => (List.range (u9wN W i + 1 - u9wF W i)).map (fun k => (i, u9wF W i + k)))
def u9kd (K : List (List (Int64 × Int32))) : List (List (Int64 × Int32)) → List (List (Int64 × Int32))
  | [] => K
  | x :: xs => if x ∈ K then u9kd K xs else u9kd (K ++ [x]) xs
def u9fol : Nat → List (Int64 × Int32) → Nat
  | _, [] => 0
  | l, x :: xs => if u9ql x.1 0 = l then u9fol l xs else u9fol (u9ql x.1 0) xs + 1
def u9wK (W : List (Int64 × Int32)) : List (List (Int64 × Int32)) := u9kd [] ((u9wB W).map (u9wD W))
def u9spS (W : List (Int64 × Int32)) : Nat := (u9wK W).length
def u9spA (W : List (Int64 × Int32)) : Nat := ((u9wK W).map (u9fol 0)).sum
def u9tri {α : Type} (a b c : α) (d : Nat) : α := if d = 0 then a else if d = 1 then b else c
def u9WR (n : Nat) (dt : Nat → Int64) (dc : Nat → Int32) (ws : Nat → Int64) (mc : Nat → Int32) : Prop :=
  n ≤ 24 ∧ u9Srt n dt ∧ ∀ i, i < n → u9okW (ws i) = true ∧ dt i = u9T (ws i) ∧ dc i = mc i ∧ ∃ c, c ≤ 9999 ∧ dc i = u9qi c
def u9DD (dn dr ds da dz : Int32) (dt : Nat → Int64) (dc : Nat → Int32) (nb sz rd st ar : Int32) (ws : Nat → Int64) (mc : Nat → Int32) : Prop :=
  dn = nb ∧ dr = rd ∧ (∃ r, r ≤ 9 ∧ rd = u9qi r) ∧ ∃ n, dz = u9qi n ∧ sz = u9qi n ∧ u9WR n dt dc ws mc ∧ ds = u9qi (u9spS (u9ls (fun i => (dt i, dc i)) n)) ∧ da = u9qi (u9spA (u9ls (fun i => (dt i, dc i)) n)) ∧ (st = -1 ∨ (st = ds ∧ ar = da))
def u9SHR (made th : Nat) (dn dr ds da dz : Nat → Int32) (dt : Nat → Nat → Int64) (dc : Nat → Nat → Int32) (nb sz rd : Nat → Int32) (wd : Nat → Int64) (mc st ar : Nat → Int32) : Prop :=
  th ≤ 3 ∧ (th = 0 → made = 0) ∧ (0 < th → nb 0 = u9qi made) ∧ (∀ p, p < th → ∃ k, nb p = u9qi k ∧ 1 ≤ k ∧ k ≤ made) ∧ (∀ p q, p < q → q < th → nb p ≠ nb q) ∧
  (∀ d, d < 3 → dn d = 0 ∨ ∃ p, p < th ∧ u9DD (dn d) (dr d) (ds d) (da d) (dz d) (dt d) (dc d) (nb p) (sz p) (rd p) (st p) (ar p) (fun i => wd (24 * p + i)) (fun i => mc (24 * p + i))) ∧
  (∀ p, p < th → ∃ d, d < 3 ∧ dn d = nb p) ∧ (∀ d e, d < 3 → e < 3 → d ≠ e → dn d ≠ 0 → dn d ≠ dn e)
theorem u9q_isThere (n : Int32) : (n ≤ 0 ∧ f_Dictionary_isThere n = some 0) ∨ (¬ (n ≤ 0) ∧ f_Dictionary_isThere n = some 1) := by
  unfold f_Dictionary_isThere
  by_cases h : n ≤ 0
  · exact Or.inl ⟨h, by rw [if_pos h]⟩
  · exact Or.inr ⟨h, by rw [if_neg h]⟩
theorem u9q_find_c (n0 n1 n2 a : Int32) : (∃ d, d < 3 ∧ f_S_find n0 n1 n2 a = some d ∧ ¬ (u9tri n0 n1 n2 d ≤ 0) ∧ u9tri n0 n1 n2 d = a) ∨ (f_S_find n0 n1 n2 a = some 3 ∧ ∀ d, d < 3 → u9tri n0 n1 n2 d ≤ 0 ∨ u9tri n0 n1 n2 d ≠ a) := by
  unfold f_S_find f_Dictionary_number
  have key : ∀ (P0 P1 P2 : Prop), (n0 ≤ 0) = P0 → (n1 ≤ 0) = P1 → (n2 ≤ 0) = P2 → (∀ d, d < 3 → u9tri n0 n1 n2 d ≤ 0 ∨ u9tri n0 n1 n2 d ≠ a) = ((P0 ∨ n0 ≠ a) ∧ (P1 ∨ n1 ≠ a) ∧ (P2 ∨ n2 ≠ a)) := by
    intro P0 P1 P2 e0 e1 e2
    subst e0 e1 e2
    apply propext; constructor
    · intro h; exact ⟨h 0 (by omega), h 1 (by omega), h 2 (by omega)⟩
    · rintro ⟨h0, h1, h2⟩ d hd
      have : d = 0 ∨ d = 1 ∨ d = 2 := by omega
      rcases this with rfl | rfl | rfl
      · exact h0
      · exact h1
      · exact h2
  rw [key _ _ _ rfl rfl rfl]
  rcases u9q_isThere n0 with ⟨a0, e0⟩ | ⟨a0, e0⟩ <;> rcases u9q_isThere n1 with ⟨a1, e1⟩ | ⟨a1, e1⟩ <;> rcases u9q_isThere n2 with ⟨a2, e2⟩ | ⟨a2, e2⟩ <;> simp only [e0, e1, e2, Option.bind_some, if_true, u9n10, if_false, a0, a1, a2, true_or, false_or, true_and, and_true] <;> by_cases c0 : n0 = a <;> by_cases c1 : n1 = a <;> by_cases c2 : n2 = a <;> simp only [c0, c1, c2, if_true, if_false, ne_eq, not_true, not_false_eq_true, and_true, true_and, and_false, false_and, or_false, or_true, and_self] <;> first | trivial | exact ⟨0, by omega, rfl, by first | exact a0 | (rw [c0] at a0; exact a0), by first | exact c0 | rfl⟩ | exact ⟨1, by omega, rfl, by first | exact a1 | (rw [c1] at a1; exact a1), by first | exact c1 | rfl⟩ | exact ⟨2, by omega, rfl, by first | exact a2 | (rw [c2] at a2; exact a2), by first | exact c2 | rfl⟩
theorem u9q_place_k {th : Nat} (hth : th ≤ 3) (nb : Nat → Int32) (a : Int32) (hd : ∀ p q, p < q → q < th → nb p ≠ nb q) : ∀ r k (l : Int32), k + r = th → ((∃ p, p < k ∧ nb p = a ∧ l = u9qi p) ∨ ((∀ p, p < k → nb p ≠ a) ∧ l = -1)) → ∀ fu, r < fu → ((∃ p, p < th ∧ nb p = a ∧ f_M_placeOf_4 (u9qi th) nb a fu l (u9qi k) = some (u9qi p)) ∨ ((∀ p, p < th → nb p ≠ a) ∧ f_M_placeOf_4 (u9qi th) nb a fu l (u9qi k) = some (-1))) := by
  intro r
  induction r with
  | zero =>
    intro k l hk hl fu hf
    obtain ⟨fu, rfl⟩ : ∃ m, fu = m + 1 := ⟨fu - 1, by omega⟩
    obtain rfl : k = th := by omega
    have e : f_M_placeOf_4 (u9qi k) nb a (fu + 1) l (u9qi k) = some l := by
      simp only [f_M_placeOf_4, f_M_placeOf_4b]
      rw [if_pos (by rw [u9qi_le (by omega) (by omega)]; omega)]
    rw [e]
    rcases hl with ⟨p, h1, h2, h3⟩ | ⟨h1, h2⟩
    · exact Or.inl ⟨p, h1, h2, by rw [h3]⟩
    · exact Or.inr ⟨h1, by rw [h2]⟩
  | succ r ih =>
    intro k l hk hl fu hf
    obtain ⟨fu, rfl⟩ : ∃ m, fu = m + 1 := ⟨fu - 1, by omega⟩
    have o1 : okI (u9qi k) 3 = true := by rw [u9qi_ok _ (by omega)]; omega
    simp only [f_M_placeOf_4, f_M_placeOf_4b, f_M_placeOf_27]
    have hn : ¬ (u9qi th ≤ u9qi k) := by rw [u9qi_le (by omega) (by omega)]; omega
    simp only [hn, if_false, o1, if_true, u9qi_cl (show k < 2147483648 by omega), u9q_p1]
    by_cases hc : nb k = a
    · simp only [hc, if_true]
      refine ih (k + 1) (u9qi k) (by omega) (Or.inl ⟨k, by omega, hc, rfl⟩) fu (by omega)
    · simp only [hc, if_false]
      refine ih (k + 1) l (by omega) ?_ fu (by omega)
      rcases hl with ⟨p, h1, h2, h3⟩ | ⟨h1, h2⟩
      · exact Or.inl ⟨p, by omega, h2, h3⟩
      · refine Or.inr ⟨fun p hp => ?_, h2⟩
        by_cases hpk : p < k
        · exact h1 p hpk
        · obtain rfl : p = k := by omega
          exact hc
theorem u9q_place {th : Nat} (hth : th ≤ 3) (nb : Nat → Int32) (a : Int32) (hd : ∀ p q, p < q → q < th → nb p ≠ nb q) : (∃ p, p < th ∧ nb p = a ∧ f_M_placeOf (u9qi th) nb a = some (u9qi p)) ∨ ((∀ p, p < th → nb p ≠ a) ∧ f_M_placeOf (u9qi th) nb a = some (-1)) := by
  unfold f_M_placeOf
  have h := u9q_place_k hth nb a hd th 0 (-1) (by omega) (Or.inr ⟨fun p hp => absurd hp (by omega), rfl⟩) FU (by unfold FU; omega)
  rw [show (u9qi 0 : Int32) = 0 from rfl] at h
  rcases h with ⟨p, h1, h2, h3⟩ | ⟨h1, h2⟩
  · exact Or.inl ⟨p, h1, h2, by rw [h3]; rfl⟩
  · exact Or.inr ⟨h1, by rw [h2]; rfl⟩
theorem u9tri_f {α : Type} (f : Nat → α) : ∀ d, d < 3 → u9tri (f 0) (f 1) (f 2) d = f d := by
  intro d hd
  have : d = 0 ∨ d = 1 ∨ d = 2 := by omega
  rcases this with rfl | rfl | rfl <;> rfl
theorem u9d3 {d : Nat} (h : d < 3) : d = 0 ∨ d = 1 ∨ d = 2 := by omega
theorem u9q_find {made th dn dr ds da dz dt dc nb sz rd wd mc st ar} (h : u9SHR made th dn dr ds da dz dt dc nb sz rd wd mc st ar) (hm : made < 100000) (a : Int32) :
    (∃ d p, d < 3 ∧ p < th ∧ f_S_find (dn 0) (dn 1) (dn 2) a = some d ∧ f_M_placeOf (u9qi th) nb a = some (u9qi p) ∧ dn d = a ∧ nb p = a ∧ u9DD (dn d) (dr d) (ds d) (da d) (dz d) (dt d) (dc d) (nb p) (sz p) (rd p) (st p) (ar p) (fun i => wd (24 * p + i)) (fun i => mc (24 * p + i))) ∨
    (f_S_find (dn 0) (dn 1) (dn 2) a = some 3 ∧ f_M_placeOf (u9qi th) nb a = some (-1) ∧ (∀ p, p < th → nb p ≠ a)) := by
  obtain ⟨h1, h2, h3, h4, h5, h6, h7, h8⟩ := h
  have hpos : ∀ d, d < 3 → dn d ≠ 0 → ¬ (dn d ≤ 0) := by
    intro d hd hne
    rcases h6 d hd with hz | ⟨p, hp, hD⟩
    · exact absurd hz hne
    · obtain ⟨k, e, k1, k2⟩ := h4 p hp
      rw [hD.1, e, u9q_le0 (by omega)]; omega
  rcases u9q_find_c (dn 0) (dn 1) (dn 2) a with ⟨d, hd, e, hp, ha⟩ | ⟨e, hno⟩
  · rw [u9tri_f dn d hd] at hp ha
    have hne : dn d ≠ 0 := by intro hc; rw [hc] at hp; exact hp (by decide)
    rcases h6 d hd with hz | ⟨p, hp', hD⟩
    · exact absurd hz hne
    · rcases u9q_place h1 nb a h5 with ⟨p2, hp2, e2, e3⟩ | ⟨hn, e3⟩
      · have : p2 = p := by
          rcases Nat.lt_trichotomy p2 p with hh | hh | hh
          · exact absurd (by rw [e2, ← hD.1, ha]) (h5 p2 p hh hp')
          · exact hh
          · exact absurd (by rw [e2, ← hD.1, ha]) (h5 p p2 hh hp2)
        subst this
        exact Or.inl ⟨d, p2, hd, hp', e, e3, ha, e2, hD⟩
      · exact absurd (by rw [← hD.1, ha]) (hn p hp')
  · rcases u9q_place h1 nb a h5 with ⟨p2, hp2, e2, e3⟩ | ⟨hn, e3⟩
    · obtain ⟨d, hd, hdn⟩ := h7 p2 hp2
      obtain ⟨k, ek, k1, k2⟩ := h4 p2 hp2
      rcases hno d hd with hx | hx
      · rw [u9tri_f dn d hd, hdn, ek, u9q_le0 (by omega)] at hx; omega
      · rw [u9tri_f dn d hd, hdn, e2] at hx; exact absurd rfl hx
    · exact Or.inr ⟨e, e3, hn⟩
