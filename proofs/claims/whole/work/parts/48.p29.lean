def u9zi (x : Int) : Int32 := Int32.ofInt x
theorem u9zi_toInt {x : Int} (h1 : -2147483648 ≤ x) (h2 : x < 2147483648) : (u9zi x).toInt = x := by
  unfold u9zi; exact Int32.toInt_ofInt_of_le (by simpa using h1) (by simpa using h2)
theorem u9zi_add (a b : Int) : u9zi a + u9zi b = u9zi (a + b) := by unfold u9zi; rw [Int32.ofInt_add]
theorem u9zi_sub (a b : Int) : u9zi a - u9zi b = u9zi (a - b) := by unfold u9zi; rw [Int32.ofInt_sub]
theorem u9zi_q (n : Nat) : u9qi n = u9zi n := by unfold u9qi u9zi; rfl
theorem u9zi_le {a b : Int} (a1 : -1000000000 ≤ a) (a2 : a ≤ 1000000000) (b1 : -1000000000 ≤ b) (b2 : b ≤ 1000000000) : (u9zi a ≤ u9zi b) = (a ≤ b) := by
  rw [Int32.le_iff_toInt_le, u9zi_toInt (by omega) (by omega), u9zi_toInt (by omega) (by omega)]
theorem u9zi_of (x : Int32) : u9zi x.toInt = x := by unfold u9zi; exact Int32.ofInt_toInt x
def u9am (f : Nat → Int) : Nat → Nat
  | 0 => 0
  | j + 1 => if f (u9am f j) ≤ f (j + 1) then u9am f j else j + 1
theorem u9am_le (f : Nat → Int) : ∀ n, u9am f n ≤ n := by
  intro n
  induction n with
  | zero => exact Nat.le_refl _
  | succ n ih => simp only [u9am]; split <;> omega
theorem u9am_min (f : Nat → Int) : ∀ n j : Nat, j ≤ n → f (u9am f n) ≤ f j := by
  intro n
  induction n with
  | zero =>
    intro j hj
    obtain rfl : j = 0 := by omega
    exact Int.le_refl _
  | succ n ih =>
    intro j hj
    simp only [u9am]
    split
    · rename_i h
      by_cases hjn : j ≤ n
      · exact ih j hjn
      · obtain rfl : j = n + 1 := by omega
        exact h
    · rename_i h
      by_cases hjn : j ≤ n
      · have := ih j hjn; omega
      · obtain rfl : j = n + 1 := by omega
        exact Int.le_refl _
theorem u9am_first (f : Nat → Int) : ∀ n j : Nat, j < u9am f n → f (u9am f n) < f j := by
  intro n
  induction n with
  | zero => intro j hj; simp only [u9am] at hj; omega
  | succ n ih =>
    intro j hj
    simp only [u9am] at hj ⊢
    split
    · rename_i h; rw [if_pos h] at hj; exact ih j hj
    · rename_i h
      rw [if_neg h] at hj
      have := u9am_min f n j (by omega)
      omega
def u9Cc (al : Nat → Nat → Int) (sg : Nat → Nat → Nat → Int) (cnt : Nat → Nat) : Nat → Nat → Nat → Int
  | 0, k, i => al k i
  | r + 1, k, i => al k i + u9Cc al sg cnt r (k + 1) (u9am (fun j => al k i + u9Cc al sg cnt r (k + 1) j - sg k i j) (cnt (k + 1) - 1)) - sg k i (u9am (fun j => al k i + u9Cc al sg cnt r (k + 1) j - sg k i j) (cnt (k + 1) - 1))
def u9Fc (al : Nat → Nat → Int) (sg : Nat → Nat → Nat → Int) (cnt : Nat → Nat) (r k i : Nat) : Nat := u9am (fun j => al k i + u9Cc al sg cnt r (k + 1) j - sg k i j) (cnt (k + 1) - 1)
theorem u9Cc_bd {al : Nat → Nat → Int} {sg : Nat → Nat → Nat → Int} {cnt : Nat → Nat} (ha : ∀ k i, 0 ≤ al k i ∧ al k i ≤ 20000) (hs : ∀ k i j, 0 ≤ sg k i j ∧ sg k i j ≤ 2000) : ∀ r k i : Nat, -(2000 * (r : Int)) ≤ u9Cc al sg cnt r k i ∧ u9Cc al sg cnt r k i ≤ 20000 * ((r : Int) + 1) := by
  intro r
  induction r with
  | zero => intro k i; have := ha k i; simp only [u9Cc]; omega
  | succ r ih =>
    intro k i
    have h1 := ha k i
    simp only [u9Cc]
    generalize u9am (fun j => al k i + u9Cc al sg cnt r (k + 1) j - sg k i j) (cnt (k + 1) - 1) = j
    have h2 := ih (k + 1) j
    have h3 := hs k i j
    omega
theorem u9q_costWith {cd : Nat → Nat → Int64} {co : Nat → Nat → Int32} {pn fs sc tm ft sd le q} (hP : u9PR pn fs sc tm ft sd le q) (hq : q < 100000) {pl i j : Nat} (hpl : pl + 1 < 4) (hi : i < 24) (hj : j < 24) {a b : Int64} (ha : u9okW a = true) (hb : u9okW b = true) (e1 : cd pl i = u9T a) (e2 : cd (pl + 1) j = u9T b) {x y : Int} (e3 : co pl i = u9zi x) (e4 : co (pl + 1) j = u9zi y) : f_Phrase_costWith cd co (u9qi pn) fs sc tm (u9qi pl) (u9qi i) (u9qi j) = some (u9zi (x + y - (u9sv pn ft sd le a b : Int))) := by
  have op : okI (u9qi pl) 4 = true := by rw [u9qi_ok _ (by omega)]; omega
  have op1 : okI (u9qi (pl + 1)) 4 = true := by rw [u9qi_ok _ (by omega)]; omega
  have oi : okI (u9qi i) 24 = true := by rw [u9qi_ok _ (by omega)]; omega
  have oj : okI (u9qi j) 24 = true := by rw [u9qi_ok _ (by omega)]; omega
  unfold f_Phrase_costWith
  simp only [u9q_p1, op, op1, oi, oj, if_true, u9qi_cl (show pl < 2147483648 by omega), u9qi_cl (show pl + 1 < 2147483648 by omega), u9qi_cl (show i < 2147483648 by omega), u9qi_cl (show j < 2147483648 by omega), e1, e2, e3, e4, u9q_saving hP hq ha hb, Option.bind_some]
  rw [u9zi_add, u9zi_q, u9zi_sub]
def u9Gd (gw : Nat → Nat → Int64) (cnt : Nat → Nat) (cd : Nat → Nat → Int64) (k : Nat) : Prop := ∀ i, i < cnt k → cd k i = u9T (gw k i)
theorem u9q_cf_in {c : Nat} (hc1 : 1 ≤ c) (hc : c ≤ 24) {cd : Nat → Nat → Int64} {co fo : Nat → Nat → Int32} {cts : Nat → Int32} {pn : Int32} {fs sc : Nat → Int64} {tm : Nat → Int32} {pl i : Nat} (hpl : pl + 1 < 4) (hct : cts (pl + 1) = u9qi c) {f : Nat → Int} (hf : ∀ j, j < c → f_Phrase_costWith cd co pn fs sc tm (u9qi pl) (u9qi i) (u9qi j) = some (u9zi (f j))) (hfb : ∀ j, -1000000000 ≤ f j ∧ f j ≤ 1000000000) :
    ∀ s j, j + s = c → 1 ≤ j → ∀ fu, s < fu → f_Phrase_chooseFollowers_28 cd cts pn fs sc tm (u9qi pl) co fo (u9qi i) fu (u9qi (u9am f (j - 1))) (u9zi (f (u9am f (j - 1)))) (u9qi j) = some (u9qi (u9am f (c - 1)), u9zi (f (u9am f (c - 1)))) := by
  intro s
  have op1 : okI (u9qi (pl + 1)) 4 = true := by rw [u9qi_ok _ (by omega)]; omega
  have cp1 : (u9qi (pl + 1)).toNatClampNeg = pl + 1 := u9qi_cl (by omega)
  induction s with
  | zero =>
    intro j hj hj1 fu hfu
    obtain ⟨fu, rfl⟩ : ∃ m, fu = m + 1 := ⟨fu - 1, by omega⟩
    have l1 : u9qi c ≤ u9qi j := by rw [u9qi_le (by omega) (by omega)]; omega
    simp only [f_Phrase_chooseFollowers_28, f_Phrase_chooseFollowers_28b, u9q_p1, op1, if_true, cp1, hct, l1]
    rw [show j = c by omega]
  | succ s ih =>
    intro j hj hj1 fu hfu
    obtain ⟨fu, rfl⟩ : ∃ m, fu = m + 1 := ⟨fu - 1, by omega⟩
    have l1 : ¬ (u9qi c ≤ u9qi j) := by rw [u9qi_le (by omega) (by omega)]; omega
    have ihh := ih (j + 1) (by omega) (by omega) fu (by omega)
    have hb1 := hfb (u9am f (j - 1))
    have hb2 := hfb j
    have hle := u9zi_le hb1.1 hb1.2 hb2.1 hb2.2
    simp only [f_Phrase_chooseFollowers_28, f_Phrase_chooseFollowers_28b, f_Phrase_chooseFollowers_67, u9q_p1, op1, if_true, cp1, hct, l1, if_false, hf j (show j < c by omega), Option.bind_some, hle]
    obtain ⟨j', rfl⟩ : ∃ j', j = j' + 1 := ⟨j - 1, by omega⟩
    simp only [Nat.add_sub_cancel] at ihh ⊢
    simp only [u9am] at ihh
    by_cases hcc : f (u9am f j') ≤ f (j' + 1)
    · simp only [hcc, if_true] at ihh ⊢
      exact ihh
    · simp only [hcc, if_false] at ihh ⊢
      exact ihh
theorem u9q_cf_out {cnt : Nat → Nat} {gw : Nat → Nat → Int64} {al : Nat → Nat → Int} {cd : Nat → Nat → Int64} {cts : Nat → Int32} {pn fs sc tm ft sd le q} (hP : u9PR pn fs sc tm ft sd le q) (hq : q < 100000) (hcn : ∀ k, 1 ≤ cnt k ∧ cnt k ≤ 24) (hw : ∀ k i, i < cnt k → u9okW (gw k i) = true) {sg : Nat → Nat → Nat → Int} (hsg : ∀ k i j, sg k i j = (u9sv pn ft sd le (gw k i) (gw (k + 1) j) : Int)) (ha : ∀ k i, 0 ≤ al k i ∧ al k i ≤ 20000) {pl r : Nat} (hpl : pl + 1 < 4) (hr : r ≤ 4) (hct0 : cts pl = u9qi (cnt pl)) (hct : cts (pl + 1) = u9qi (cnt (pl + 1))) (hd0 : u9Gd gw cnt cd pl) (hd1 : u9Gd gw cnt cd (pl + 1)) (co0 fo0 : Nat → Nat → Int32) (hc1 : ∀ j, j < cnt (pl + 1) → co0 (pl + 1) j = u9zi (u9Cc al sg cnt r (pl + 1) j)) :
    ∀ s i (co fo : Nat → Nat → Int32), i + s = cnt pl → (∀ i', i' < i → co pl i' = u9zi (u9Cc al sg cnt (r + 1) pl i') ∧ fo pl i' = u9qi (u9Fc al sg cnt r pl i')) → (∀ i', i ≤ i' → i' < cnt pl → co pl i' = u9zi (al pl i')) → (∀ k, k ≠ pl → co k = co0 k ∧ fo k = fo0 k) → ∀ fu, s < fu → ∃ co' fo', f_Phrase_chooseFollowers_2 cd cts (u9qi pn) fs sc tm (u9qi pl) fu co fo (u9qi i) = some (co', fo') ∧ (∀ i', i' < cnt pl → co' pl i' = u9zi (u9Cc al sg cnt (r + 1) pl i') ∧ fo' pl i' = u9qi (u9Fc al sg cnt r pl i')) ∧ (∀ k, k ≠ pl → co' k = co0 k ∧ fo' k = fo0 k) := by
  intro s
  have h1 := hcn (pl + 1)
  have h0 := hcn pl
  have op : okI (u9qi pl) 4 = true := by rw [u9qi_ok _ (by omega)]; omega
  have cp : (u9qi pl).toNatClampNeg = pl := u9qi_cl (by omega)
  induction s with
  | zero =>
    intro i co fo hi h2 h3 h4 fu hf
    obtain ⟨fu, rfl⟩ : ∃ m, fu = m + 1 := ⟨fu - 1, by omega⟩
    have l1 : u9qi (cnt pl) ≤ u9qi i := by rw [u9qi_le (by omega) (by omega)]; omega
    refine ⟨co, fo, ?_, fun i' hi' => h2 i' (by omega), h4⟩
    simp only [f_Phrase_chooseFollowers_2, f_Phrase_chooseFollowers_2b, op, if_true, cp, hct0, l1]
  | succ s ih =>
    intro i co fo hi h2 h3 h4 fu hf
    obtain ⟨fu, rfl⟩ : ∃ m, fu = m + 1 := ⟨fu - 1, by omega⟩
    have l1 : ¬ (u9qi (cnt pl) ≤ u9qi i) := by rw [u9qi_le (by omega) (by omega)]; omega
    have oi : okI (u9qi i) 24 = true := by rw [u9qi_ok _ (by omega)]; omega
    have ci : (u9qi i).toNatClampNeg = i := u9qi_cl (by omega)
    have hco1 : ∀ j, j < cnt (pl + 1) → co (pl + 1) j = u9zi (u9Cc al sg cnt r (pl + 1) j) := by
      intro j hj; rw [(h4 (pl + 1) (by omega)).1]; exact hc1 j hj
    have hcw : ∀ j, j < cnt (pl + 1) → f_Phrase_costWith cd co (u9qi pn) fs sc tm (u9qi pl) (u9qi i) (u9qi j) = some (u9zi (al pl i + u9Cc al sg cnt r (pl + 1) j - sg pl i j)) := by
      intro j hj
      have := u9q_costWith hP hq hpl (show i < 24 by omega) (show j < 24 by omega) (hw pl i (by omega)) (hw (pl + 1) j (by omega)) (hd0 i (by omega)) (hd1 j (by omega)) (h3 i (by omega) (by omega)) (hco1 j (by omega))
      rwa [← hsg] at this
    have hsb : ∀ k i j, 0 ≤ sg k i j ∧ sg k i j ≤ 2000 := by
      intro k i j; rw [hsg]; have := u9sv_le (n := pn) (ft := ft) (sd := sd) (le := le) (a := gw k i) (b := gw (k + 1) j); omega
    have hCb := u9Cc_bd (cnt := cnt) ha hsb r (pl + 1)
    have hrr : (r : Int) ≤ 4 := by omega
    have hin := u9q_cf_in (fo := fo) (f := fun j => al pl i + u9Cc al sg cnt r (pl + 1) j - sg pl i j) (by omega) (by omega) hpl hct hcw (fun j => by
      have a1 := ha pl i
      have a2 := hCb j
      have a3 := hsb pl i j
      show _ ≤ al pl i + u9Cc al sg cnt r (pl + 1) j - sg pl i j ∧ al pl i + u9Cc al sg cnt r (pl + 1) j - sg pl i j ≤ _
      omega) (cnt (pl + 1) - 1) 1 (by omega) (by omega) FU (by unfold FU; omega)
    have hin' : f_Phrase_chooseFollowers_28 cd cts (u9qi pn) fs sc tm (u9qi pl) co fo (u9qi i) FU 0 (u9zi (al pl i + u9Cc al sg cnt r (pl + 1) 0 - sg pl i 0)) 1 = some (u9qi (u9Fc al sg cnt r pl i), u9zi (u9Cc al sg cnt (r + 1) pl i)) := hin
    have hcw' : f_Phrase_costWith cd co (u9qi pn) fs sc tm (u9qi pl) (u9qi i) 0 = some (u9zi (al pl i + u9Cc al sg cnt r (pl + 1) 0 - sg pl i 0)) := hcw 0 (by omega)
    simp only [f_Phrase_chooseFollowers_2, f_Phrase_chooseFollowers_2b, op, if_true, cp, hct0, l1, if_false, hcw', Option.bind_some, hin', oi, ci, u9q_p1]
    refine ih (i + 1) _ _ (by omega) (fun i' hi' => ?_) (fun i' hi1 hi2 => ?_) (fun k hk => ?_) fu (by omega)
    · simp only [va_up, if_true, upd]
      by_cases hii : i' = i
      · subst hii; rw [if_pos rfl, if_pos rfl]; exact ⟨rfl, rfl⟩
      · rw [if_neg hii, if_neg hii]; exact h2 i' (by omega)
    · simp only [va_up, if_true, upd]
      rw [if_neg (by omega)]; exact h3 i' (by omega) hi2
    · simp only [va_up, hk, if_false]; exact h4 k hk
