theorem u9kd_mem (xs : List (List (Int64 × Int32))) : ∀ K x, x ∈ u9kd K xs ↔ (x ∈ K ∨ x ∈ xs) := by
  induction xs with
  | nil => intro K x; simp [u9kd]
  | cons y ys ih =>
    intro K x
    simp only [u9kd]
    split
    · rename_i hy
      rw [ih]
      constructor
      · rintro (h | h)
        · exact Or.inl h
        · exact Or.inr (List.mem_cons_of_mem _ h)
      · rintro (h | h)
        · exact Or.inl h
        · rcases List.mem_cons.1 h with h | h
          · subst h; exact Or.inl hy
          · exact Or.inr h
    · rw [ih, List.mem_append, List.mem_singleton, List.mem_cons]
      constructor
      · rintro ((h | h) | h)
        · exact Or.inl h
        · exact Or.inr (Or.inl h)
        · exact Or.inr (Or.inr h)
      · rintro (h | h | h)
        · exact Or.inl (Or.inl h)
        · exact Or.inl (Or.inr h)
        · exact Or.inr h
def u9MB (W : List (Int64 × Int32)) (P : List (Nat × Nat)) (fr le en lo : Nat → Int32) (ky : Nat → Int64) : Prop := ∀ j b, P[j]? = some b → u9MS W b (fr j) (le j) (en j) (lo j) (ky j)
theorem u9wN_nl {n p : Nat} {dt : Nat → Int64} {dc : Nat → Int32} {wd : Nat → Int64} {mc : Nat → Int32} (hW : u9WR n dt dc (fun i => wd (24 * p + i)) (fun i => mc (24 * p + i))) {i : Nat} (hi : i < n) : u9wN (u9Wl n dt dc) i = u9nl (u9un (wd (24 * p + i))) := by
  obtain ⟨w1, w2, _⟩ := hW.2.2 i hi
  unfold u9wN
  rw [u9wt_W hi, w2]
  exact u9lnr_T (u9okW_B w1) 8 0 (by omega) (by omega)
theorem u9wF_la {n p : Nat} {dt : Nat → Int64} {dc : Nat → Int32} {wd : Nat → Int64} {mc : Nat → Int32} (hW : u9WR n dt dc (fun i => wd (24 * p + i)) (fun i => mc (24 * p + i))) {i : Nat} (hi : i < n) (h0 : i ≠ 0) : u9wF (u9Wl n dt dc) i = u9sh (u9la (wd (24 * p + (i - 1)))) (u9la (wd (24 * p + i))) + 1 := by
  obtain ⟨w1, w2, _⟩ := hW.2.2 i hi
  obtain ⟨v1, v2, _⟩ := hW.2.2 (i - 1) (by omega)
  unfold u9wF
  rw [if_neg h0, u9wt_W hi, u9wt_W (show i - 1 < n by omega), w2, v2]
  congr 1
  exact u9sh_congr (fun k hk => u9ql_T _ hk) (fun k hk => u9ql_T _ hk)
theorem u9q_cnt_in {n p : Nat} (hp : p < 3) {dt : Nat → Int64} {dc : Nat → Int32} {wd : Nat → Int64} {mc : Nat → Int32} (hW : u9WR n dt dc (fun i => wd (24 * p + i)) (fun i => mc (24 * p + i))) {sz : Nat → Int32} (hsz : sz p = u9qi n) (sa sb : Nat → Int32) {i : Nat} (hi : i < n) :
    ∀ r m (fr le en lo : Nat → Int32) (ky : Nat → Int64), m + r = max (u9wN (u9Wl n dt dc) i + 1) (u9wF (u9Wl n dt dc) i) → u9wF (u9Wl n dt dc) i ≤ m → u9MB (u9Wl n dt dc) (u9wP (u9Wl n dt dc) i ++ u9wBi (u9Wl n dt dc) i m) fr le en lo ky → ∀ fu, r < fu → ∃ fr' le' en' lo' ky', f_M_count_58 sz wd mc (u9qi p) sa sb (u9qi i) fu (u9qi (u9wP (u9Wl n dt dc) i ++ u9wBi (u9Wl n dt dc) i m).length) fr le en lo ky (u9qi m) = some (u9qi (u9wP (u9Wl n dt dc) (i + 1)).length, fr', le', en', lo', ky') ∧ u9MB (u9Wl n dt dc) (u9wP (u9Wl n dt dc) (i + 1)) fr' le' en' lo' ky' := by
  intro r
  have hn := hW.1
  have hN := u9wN_le (u9Wl n dt dc) i
  have hsh := u9sh_le (u9ql (u9wt (u9Wl n dt dc) (i - 1))) (u9ql (u9wt (u9Wl n dt dc) i))
  have hF : u9wF (u9Wl n dt dc) i ≤ 9 := by unfold u9wF; split <;> omega
  have x1 : (24 : Int32) * u9qi p + u9qi i = u9qi (24 * p + i) := by rw [u9qi_lit, u9qi_mul, u9qi_add]
  have o2 : okI (u9qi (24 * p + i)) 72 = true := by rw [u9qi_ok _ (by omega)]; omega
  have c2 : (u9qi (24 * p + i)).toNatClampNeg = 24 * p + i := u9qi_cl (by omega)
  have hNl := u9wN_nl hW hi
  induction r with
  | zero =>
    intro m fr le en lo ky hm hF2 hK fu hf
    obtain ⟨fu, rfl⟩ : ∃ m, fu = m + 1 := ⟨fu - 1, by omega⟩
    have l1 : u9qi (u9nl (u9un (wd (24 * p + i)))) < u9qi m := by rw [← hNl, u9qi_lt (by omega) (by omega)]; omega
    have e : u9wP (u9Wl n dt dc) i ++ u9wBi (u9Wl n dt dc) i m = u9wP (u9Wl n dt dc) (i + 1) := by
      rw [u9wP_succ]
      congr 1
      by_cases hc : u9wF (u9Wl n dt dc) i ≤ u9wN (u9Wl n dt dc) i + 1
      · rw [show m = u9wN (u9Wl n dt dc) i + 1 by omega]
      · rw [u9wBi_nil _ (by omega), u9wBi_nil _ (by omega)]
    rw [e] at hK ⊢
    refine ⟨fr, le, en, lo, ky, ?_, hK⟩
    simp only [f_M_count_58, f_M_count_58b, x1, o2, c2, if_true, u9q_lettersOf, Option.bind_some, l1]
  | succ r ih =>
    intro m fr le en lo ky hm hF2 hK fu hf
    obtain ⟨fu, rfl⟩ : ∃ m, fu = m + 1 := ⟨fu - 1, by omega⟩
    have hmN : m ≤ u9wN (u9Wl n dt dc) i := by omega
    have l1 : ¬ (u9qi (u9nl (u9un (wd (24 * p + i)))) < u9qi m) := by rw [← hNl, u9qi_lt (by omega) (by omega)]; omega
    have hlen : (u9wP (u9Wl n dt dc) i ++ u9wBi (u9Wl n dt dc) i m).length < 193 := by
      rw [List.length_append, u9wBi_len]
      have h2 := u9wP_len (u9Wl n dt dc) i
      by_cases hi0 : i = 0
      · have := h2.2 hi0; omega
      · have := u9wF_pos (u9Wl n dt dc) (i := i) (by omega); have := h2.1; omega
    obtain ⟨fr1, le1, en1, lo1, ky1, e1, hS1, hold⟩ := u9q_begin hp hW hsz hi (show m ≤ u9nl (u9un (wd (24 * p + i))) by omega) fr le en lo ky (B := (u9wP (u9Wl n dt dc) i ++ u9wBi (u9Wl n dt dc) i m).length) (by omega)
    have hsn : u9wP (u9Wl n dt dc) i ++ u9wBi (u9Wl n dt dc) i (m + 1) = (u9wP (u9Wl n dt dc) i ++ u9wBi (u9Wl n dt dc) i m) ++ [(i, m)] := by
      rw [u9wBi_succ _ hF2, List.append_assoc]
    have hK1 : u9MB (u9Wl n dt dc) (u9wP (u9Wl n dt dc) i ++ u9wBi (u9Wl n dt dc) i (m + 1)) fr1 le1 en1 lo1 ky1 := by
      rw [hsn]
      intro j b hj
      by_cases hjl : j < (u9wP (u9Wl n dt dc) i ++ u9wBi (u9Wl n dt dc) i m).length
      · rw [List.getElem?_append_left hjl] at hj
        obtain ⟨a1, a2, a3, a4, a5⟩ := hold j (by omega)
        rw [a1, a2, a3, a4, a5]; exact hK j b hj
      · rw [List.getElem?_append_right (by omega)] at hj
        have hj0 : j = (u9wP (u9Wl n dt dc) i ++ u9wBi (u9Wl n dt dc) i m).length := by
          apply Classical.byContradiction
          intro hne
          rw [List.getElem?_eq_none (by simp; simp at hjl hne; omega)] at hj
          cases hj
        subst hj0
        simp at hj
        subst hj
        exact hS1
    have hl1 : (u9wP (u9Wl n dt dc) i ++ u9wBi (u9Wl n dt dc) i m).length + 1 = (u9wP (u9Wl n dt dc) i ++ u9wBi (u9Wl n dt dc) i (m + 1)).length := by rw [hsn]; simp; omega
    rw [hl1] at e1
    simp only [f_M_count_58, f_M_count_58b, x1, o2, c2, if_true, u9q_lettersOf, Option.bind_some, l1, if_false, e1, u9q_p1]
    exact ih (m + 1) fr1 le1 en1 lo1 ky1 (by omega) (by omega) hK1 fu (by omega)
theorem u9q_cnt_out {n p : Nat} (hp : p < 3) {dt : Nat → Int64} {dc : Nat → Int32} {wd : Nat → Int64} {mc : Nat → Int32} (hW : u9WR n dt dc (fun i => wd (24 * p + i)) (fun i => mc (24 * p + i))) {sz : Nat → Int32} (hsz : sz p = u9qi n) (sa sb : Nat → Int32) :
    ∀ r i (fr le en lo : Nat → Int32) (ky : Nat → Int64), i + r = n → u9MB (u9Wl n dt dc) (u9wP (u9Wl n dt dc) i) fr le en lo ky → ∀ fu, r < fu → ∃ fr' le' en' lo' ky', f_M_count_7 sz wd mc (u9qi p) sa sb fu (u9qi (u9wP (u9Wl n dt dc) i).length) fr le en lo ky (u9qi i) = some (u9qi (u9wB (u9Wl n dt dc)).length, fr', le', en', lo', ky') ∧ u9MB (u9Wl n dt dc) (u9wB (u9Wl n dt dc)) fr' le' en' lo' ky' := by
  intro r
  have hn := hW.1
  have o3 : okI (u9qi p) 3 = true := by rw [u9qi_ok _ (by omega)]; omega
  have cp : (u9qi p).toNatClampNeg = p := u9qi_cl (by omega)
  induction r with
  | zero =>
    intro i fr le en lo ky hi hK fu hf
    obtain ⟨fu, rfl⟩ : ∃ m, fu = m + 1 := ⟨fu - 1, by omega⟩
    obtain rfl : i = n := by omega
    have l1 : u9qi i ≤ u9qi i := u9i32_refl _
    have e : u9wP (u9Wl i dt dc) i = u9wB (u9Wl i dt dc) := by
      have := u9wP_B (u9Wl i dt dc); rwa [u9Wl_len] at this
    rw [e] at hK ⊢
    refine ⟨fr, le, en, lo, ky, ?_, hK⟩
    simp only [f_M_count_7, f_M_count_7b, o3, if_true, cp, hsz, l1]
  | succ r ih =>
    intro i fr le en lo ky hi hK fu hf
    obtain ⟨fu, rfl⟩ : ∃ m, fu = m + 1 := ⟨fu - 1, by omega⟩
    have hii : i < n := by omega
    have l1 : ¬ (u9qi n ≤ u9qi i) := by rw [u9qi_le (by omega) (by omega)]; omega
    have hN := u9wN_le (u9Wl n dt dc) i
    have hsh := u9sh_le (u9ql (u9wt (u9Wl n dt dc) (i - 1))) (u9ql (u9wt (u9Wl n dt dc) i))
    have hF : u9wF (u9Wl n dt dc) i ≤ 9 := by unfold u9wF; split <;> omega
    have hK0 : u9MB (u9Wl n dt dc) (u9wP (u9Wl n dt dc) i ++ u9wBi (u9Wl n dt dc) i (u9wF (u9Wl n dt dc) i)) fr le en lo ky := by
      rw [u9wBi_nil _ (Nat.le_refl _), List.append_nil]; exact hK
    obtain ⟨fr1, le1, en1, lo1, ky1, e1, hK1⟩ := u9q_cnt_in hp hW hsz sa sb hii (max (u9wN (u9Wl n dt dc) i + 1) (u9wF (u9Wl n dt dc) i) - u9wF (u9Wl n dt dc) i) (u9wF (u9Wl n dt dc) i) fr le en lo ky (by omega) (by omega) hK0 FU (by unfold FU; omega)
    rw [u9wBi_nil _ (Nat.le_refl _), List.append_nil] at e1
    have ihh := ih (i + 1) fr1 le1 en1 lo1 ky1 (by omega) hK1 fu (by omega)
    simp only [f_M_count_7, f_M_count_7b, f_M_count_52, o3, if_true, cp, hsz, l1, if_false]
    by_cases hi0 : i = 0
    · subst hi0
      have hf0 : u9wF (u9Wl n dt dc) 0 = 0 := rfl
      rw [hf0] at e1
      rw [if_pos (by decide), show (-1 : Int32) + 1 = u9qi 0 by decide, e1]
      simp only [Option.bind_some, u9q_p1]
      exact ihh
    · have z0 : ¬ (u9qi i = 0) := by rw [u9qi_lit, u9qi_eq (by omega) (by omega)]; exact hi0
      have x1 : (24 : Int32) * u9qi p + u9qi i = u9qi (24 * p + i) := by rw [u9qi_lit, u9qi_mul, u9qi_add]
      have o2 : okI (u9qi (24 * p + i)) 72 = true := by rw [u9qi_ok _ (by omega)]; omega
      have c2 : (u9qi (24 * p + i)).toNatClampNeg = 24 * p + i := u9qi_cl (by omega)
      have x3 : u9qi (24 * p + i) - 1 = u9qi (24 * p + (i - 1)) := by
        rw [u9q_m1 (by omega)]; congr 1; omega
      have o4 : okI (u9qi (24 * p + (i - 1))) 72 = true := by rw [u9qi_ok _ (by omega)]; omega
      have c4 : (u9qi (24 * p + (i - 1))).toNatClampNeg = 24 * p + (i - 1) := u9qi_cl (by omega)
      have ef := u9wF_la hW hii hi0
      simp only [z0, if_false, x1, o2, c2, x3, o4, c4, if_true, u9q_common, Option.bind_some, u9q_p1, ← ef, e1]
      exact ihh
theorem u9q_fresh_k {n p : Nat} (hp : p < 3) {dt : Nat → Int64} {dc : Nat → Int32} {wd : Nat → Int64} {mc : Nat → Int32} (hW : u9WR n dt dc (fun i => wd (24 * p + i)) (fun i => mc (24 * p + i))) (sz sa sb : Nat → Int32) (nb : Int32) {fr le en lo : Nat → Int32} {ky : Nat → Int64} {P : List (Nat × Nat)} (hPl : P.length ≤ 193) (hM : u9MB (u9Wl n dt dc) P fr le en lo ky) (hP : ∀ b, b ∈ P → b.1 < n ∧ b.2 ≤ 8) {j : Nat} {b : Nat × Nat} (hb : P[j]? = some b) :
    ∀ r k (l : Int32), k + r = j → ((l = 1 ∧ u9wD (u9Wl n dt dc) b ∉ (P.take k).map (u9wD (u9Wl n dt dc))) ∨ (l = 0 ∧ u9wD (u9Wl n dt dc) b ∈ (P.take k).map (u9wD (u9Wl n dt dc)))) → ∀ fu, r < fu → f_M_count_126 sz wd mc (u9qi p) nb sa sb fr le en lo ky (u9qi j) fu l (u9qi k) = some (if u9wD (u9Wl n dt dc) b ∈ (P.take j).map (u9wD (u9Wl n dt dc)) then 0 else 1) := by
  intro r
  have hjl : j < P.length := by
    apply Classical.byContradiction
    intro hc
    rw [List.getElem?_eq_none (by omega)] at hb; cases hb
  have hbm := hP b (List.mem_of_getElem? hb)
  induction r with
  | zero =>
    intro k l hk hl fu hf
    obtain ⟨fu, rfl⟩ : ∃ m, fu = m + 1 := ⟨fu - 1, by omega⟩
    obtain rfl : k = j := by omega
    have l1 : u9qi k ≤ u9qi k := u9i32_refl _
    simp only [f_M_count_126, f_M_count_126b, l1, if_true]
    rcases hl with ⟨h1, h2⟩ | ⟨h1, h2⟩
    · rw [if_neg h2, h1]
    · rw [if_pos h2, h1]
  | succ r ih =>
    intro k l hk hl fu hf
    obtain ⟨fu, rfl⟩ : ∃ m, fu = m + 1 := ⟨fu - 1, by omega⟩
    have l1 : ¬ (u9qi j ≤ u9qi k) := by rw [u9qi_le (by omega) (by omega)]; omega
    have hsub : ∀ x, x ∈ (P.take k).map (u9wD (u9Wl n dt dc)) → x ∈ (P.take j).map (u9wD (u9Wl n dt dc)) := by
      intro x hx
      rw [List.mem_map] at hx ⊢
      obtain ⟨y, hy, hyx⟩ := hx
      refine ⟨y, ?_, hyx⟩
      have : P.take k = (P.take j).take k := by rw [List.take_take, Nat.min_eq_left (by omega)]
      rw [this] at hy
      exact List.mem_of_mem_take hy
    rcases hl with ⟨h1, h2⟩ | ⟨h1, h2⟩
    · subst h1
      obtain ⟨c, hc⟩ : ∃ c, P[k]? = some c := ⟨P[k]'(by omega), List.getElem?_eq_getElem (by omega)⟩
      have hcm := hP c (List.mem_of_getElem? hc)
      have hsm := u9q_same hp hW (show k < 216 by omega) (show j < 216 by omega) hcm.1 hbm.1 hcm.2 hbm.2 (hM k c hc) (hM j b hb)
      simp only [f_M_count_126, f_M_count_126b, f_M_count_152, l1, if_false, u9n10, hsm, Option.bind_some, u9q_p1]
      have htk : (P.take (k + 1)).map (u9wD (u9Wl n dt dc)) = (P.take k).map (u9wD (u9Wl n dt dc)) ++ [u9wD (u9Wl n dt dc) c] := by
        rw [List.take_add_one, hc]; simp
      by_cases hcb : u9wD (u9Wl n dt dc) c = u9wD (u9Wl n dt dc) b
      · simp only [hcb, if_true, u9n10, if_false]
        refine ih (k + 1) 0 (by omega) (Or.inr ⟨rfl, ?_⟩) fu (by omega)
        rw [htk, hcb]; simp
      · simp only [hcb, if_false, if_true]
        refine ih (k + 1) 1 (by omega) (Or.inl ⟨rfl, ?_⟩) fu (by omega)
        rw [htk]
        intro hm
        rcases List.mem_append.1 hm with hm | hm
        · exact h2 hm
        · rw [List.mem_singleton] at hm; exact hcb hm.symm
    · subst h1
      simp only [f_M_count_126, f_M_count_126b, l1, if_false, if_true]
      rw [if_pos (hsub _ h2)]
theorem u9q_113_k {n p : Nat} (hp : p < 3) {dt : Nat → Int64} {dc : Nat → Int32} {wd : Nat → Int64} {mc : Nat → Int32} (hW : u9WR n dt dc (fun i => wd (24 * p + i)) (fun i => mc (24 * p + i))) (sz : Nat → Int32) {fr le en lo : Nat → Int32} {ky : Nat → Int64} {P : List (Nat × Nat)} (hPl : P.length ≤ 193) (hM : u9MB (u9Wl n dt dc) P fr le en lo ky) (hP : ∀ b, b ∈ P → b.1 < n ∧ b.2 ≤ 8) :
    ∀ r j (sa sb : Nat → Int32), j + r = P.length → sa p = u9qi (u9kS (u9Wl n dt dc) (P.take j)).length → sb p = u9qi (((u9kS (u9Wl n dt dc) (P.take j)).map (u9fol 0)).sum) → ∀ fu, r < fu → ∃ sa' sb', f_M_count_113 sz wd mc (u9qi p) (u9qi P.length) fr le en lo ky fu sa sb (u9qi j) = some (sa', sb') ∧ sa' p = u9qi (u9kS (u9Wl n dt dc) P).length ∧ sb' p = u9qi (((u9kS (u9Wl n dt dc) P).map (u9fol 0)).sum) ∧ (∀ x, x ≠ p → sa' x = sa x ∧ sb' x = sb x) := by
  intro r
  have o3 : okI (u9qi p) 3 = true := by rw [u9qi_ok _ (by omega)]; omega
  have cp : (u9qi p).toNatClampNeg = p := u9qi_cl (by omega)
  induction r with
  | zero =>
    intro j sa sb hj h1 h2 fu hf
    obtain ⟨fu, rfl⟩ : ∃ m, fu = m + 1 := ⟨fu - 1, by omega⟩
    have l1 : u9qi P.length ≤ u9qi j := by rw [u9qi_le (by omega) (by omega)]; omega
    rw [List.take_of_length_le (by omega)] at h1 h2
    refine ⟨sa, sb, ?_, h1, h2, fun _ _ => ⟨rfl, rfl⟩⟩
    simp only [f_M_count_113, f_M_count_113b, l1, if_true]
  | succ r ih =>
    intro j sa sb hj h1 h2 fu hf
    obtain ⟨fu, rfl⟩ : ∃ m, fu = m + 1 := ⟨fu - 1, by omega⟩
    have l1 : ¬ (u9qi P.length ≤ u9qi j) := by rw [u9qi_le (by omega) (by omega)]; omega
    obtain ⟨b, hb⟩ : ∃ b, P[j]? = some b := ⟨P[j]'(by omega), List.getElem?_eq_getElem (by omega)⟩
    have hbm := hP b (List.mem_of_getElem? hb)
    have hfr := u9q_fresh_k hp hW sz sa sb (u9qi P.length) hPl hM hP hb j 0 1 (by omega) (Or.inl ⟨rfl, by simp⟩) FU (by unfold FU; omega)
    rw [show (u9qi 0 : Int32) = 0 from rfl] at hfr
    have htk : P.take (j + 1) = P.take j ++ [b] := by rw [List.take_add_one, hb]; simp
    have hmem : (u9wD (u9Wl n dt dc) b ∈ u9kS (u9Wl n dt dc) (P.take j)) ↔ (u9wD (u9Wl n dt dc) b ∈ (P.take j).map (u9wD (u9Wl n dt dc))) := by
      unfold u9kS; rw [u9kd_mem]; simp
    simp only [f_M_count_113, f_M_count_113b, f_M_count_159, f_M_count_195, l1, if_false, hfr, Option.bind_some, u9q_p1]
    by_cases hc : u9wD (u9Wl n dt dc) b ∈ (P.take j).map (u9wD (u9Wl n dt dc))
    · simp only [hc, if_true]
      refine ih (j + 1) sa sb (by omega) ?_ ?_ fu (by omega)
      · rw [htk, u9kS_snoc, u9kd_one, if_pos (hmem.2 hc)]; exact h1
      · rw [htk, u9kS_snoc, u9kd_one, if_pos (hmem.2 hc)]; exact h2
    · have hfo := u9q_fol hp hW (show j < 216 by omega) hbm.1 hbm.2 (hM j b hb)
      simp only [hc, if_false, u9n10, o3, if_true, hfo, Option.bind_some, cp, h1, h2, u9q_p1, u9qi_add]
      obtain ⟨sa', sb', e, g1, g2, g3⟩ := ih (j + 1) (upd sa p (u9qi ((u9kS (u9Wl n dt dc) (P.take j)).length + 1))) (upd sb p (u9qi (((u9kS (u9Wl n dt dc) (P.take j)).map (u9fol 0)).sum + u9fol 0 (u9wD (u9Wl n dt dc) b)))) (by omega) (by
        rw [htk, u9kS_snoc, u9kd_one, if_neg (fun hh => hc (hmem.1 hh))]; simp [upd]) (by
        rw [htk, u9kS_snoc, u9kd_one, if_neg (fun hh => hc (hmem.1 hh))]; simp [upd]) fu (by omega)
      refine ⟨sa', sb', e, g1, g2, fun x hx => ?_⟩
      have := g3 x hx
      simp only [upd, hx, if_false] at this
      exact this
theorem u9wP_in {n : Nat} {dt : Nat → Int64} {dc : Nat → Int32} {b : Nat × Nat} (h : b ∈ u9wB (u9Wl n dt dc)) : b.1 < n ∧ b.2 ≤ 8 := by
  unfold u9wB at h
  rw [List.mem_flatMap] at h
  obtain ⟨i, hi, hb⟩ := h
  rw [List.mem_range, u9Wl_len] at hi
  rw [List.mem_map] at hb
  obtain ⟨k, hk, rfl⟩ := hb
  rw [List.mem_range] at hk
  have := u9wN_le (u9Wl n dt dc) i
  exact ⟨hi, by show u9wF (u9Wl n dt dc) i + k ≤ 8; omega⟩
theorem u9q_count {n p : Nat} (hp : p < 3) {dt : Nat → Int64} {dc : Nat → Int32} {wd : Nat → Int64} {mc : Nat → Int32} (hW : u9WR n dt dc (fun i => wd (24 * p + i)) (fun i => mc (24 * p + i))) {sz : Nat → Int32} (hsz : sz p = u9qi n) (nb : Int32) (sa sb fr le en lo : Nat → Int32) (ky : Nat → Int64) :
    ∃ nb' sa' sb' fr' le' en' lo' ky', f_M_count nb sz wd mc sa sb fr le en lo ky (u9qi p) = some (nb', sa', sb', fr', le', en', lo', ky') ∧ sa' p = u9qi (u9spS (u9Wl n dt dc)) ∧ sb' p = u9qi (u9spA (u9Wl n dt dc)) ∧ (∀ x, x ≠ p → sa' x = sa x ∧ sb' x = sb x) := by
  have hn := hW.1
  have o3 : okI (u9qi p) 3 = true := by rw [u9qi_ok _ (by omega)]; omega
  have cp : (u9qi p).toNatClampNeg = p := u9qi_cl (by omega)
  obtain ⟨fr1, le1, en1, lo1, ky1, e1, hM⟩ := u9q_cnt_out hp hW hsz sa sb n 0 fr le en lo ky (by omega) (by intro j b hj; simp [u9wP] at hj) FU (by unfold FU; omega)
  have hlen : (u9wB (u9Wl n dt dc)).length ≤ 193 := by
    have := u9wP_len (u9Wl n dt dc) n
    have e : u9wP (u9Wl n dt dc) n = u9wB (u9Wl n dt dc) := by
      have := u9wP_B (u9Wl n dt dc); rwa [u9Wl_len] at this
    rw [e] at this; omega
  obtain ⟨sa', sb', e2, g1, g2, g3⟩ := u9q_113_k hp hW sz hlen hM (fun b hb => u9wP_in hb) (u9wB (u9Wl n dt dc)).length 0 (upd sa p 0) (upd sb p 0) (by omega) (by simp [upd, u9kS, u9kd]; rfl) (by simp [upd, u9kS, u9kd]; rfl) FU (by unfold FU; omega)
  refine ⟨u9qi (u9wB (u9Wl n dt dc)).length, sa', sb', fr1, le1, en1, lo1, ky1, ?_, g1, g2, fun x hx => ?_⟩
  rotate_left 1
  · have := g3 x hx
    simp only [upd, hx, if_false] at this
    exact this
  · unfold f_M_count
    have e1' : f_M_count_7 sz wd mc (u9qi p) sa sb FU 0 fr le en lo ky 0 = some (u9qi (u9wB (u9Wl n dt dc)).length, fr1, le1, en1, lo1, ky1) := e1
    rw [e1']
    simp only [Option.bind_some, o3, if_true, cp]
    rw [show (0 : Int32) = u9qi 0 from rfl] at *
    rw [e2]
    rfl
