theorem u9kd_app (xs : List (List (Int64 × Int32))) : ∀ K ys, u9kd K (xs ++ ys) = u9kd (u9kd K xs) ys := by
  induction xs with
  | nil => intro K ys; rfl
  | cons x xs ih =>
    intro K ys
    simp only [List.cons_append, u9kd]
    split
    · exact ih K ys
    · exact ih _ ys
theorem u9kd_one (K : List (List (Int64 × Int32))) (x : List (Int64 × Int32)) : u9kd K [x] = if x ∈ K then K else K ++ [x] := by
  simp only [u9kd]
theorem u9kd_len (xs : List (List (Int64 × Int32))) : ∀ K, (u9kd K xs).length ≤ K.length + xs.length := by
  induction xs with
  | nil => intro K; simp [u9kd]
  | cons x xs ih =>
    intro K
    simp only [u9kd]
    split
    · have := ih K; simp; omega
    · have := ih (K ++ [x]); simp at this ⊢; omega
def u9KS (W : List (Int64 × Int32)) (K : List (List (Int64 × Int32))) (st ct le lo : Nat → Int32) : Prop := ∀ j, j < K.length → ∃ b : Nat × Nat, u9Slot' W b (st j) (ct j) (le j) (lo j) ∧ K[j]? = some (u9wD W b)
theorem u9q_add_k {n : Nat} (hn : n ≤ 24) {u9tx : Nat → Int64} {cs : Nat → Int32} {K : List (List (Int64 × Int32))} (hK : K.length < 193) {st ct le lo : Nat → Int32} (hS : u9KS (u9Wl n u9tx cs) K st ct le lo) {b : Nat × Nat} (hb : u9Slot' (u9Wl n u9tx cs) b (st K.length) (ct K.length) (le K.length) (lo K.length)) (sz a1 a2 ar : Int32) :
    ∀ r k, k + r = K.length → (∀ x, x ∈ K.take k → x ≠ u9wD (u9Wl n u9tx cs) b) → ∀ fu, r < fu → f_Automaton_addBeginning_72 sz u9tx cs a1 a2 (u9qi K.length) ar st ct le lo fu (u9qi k) = some (if u9wD (u9Wl n u9tx cs) b ∈ K then .inr () else .inl ()) := by
  intro r
  induction r with
  | zero =>
    intro k hk h fu hf
    obtain ⟨fu, rfl⟩ : ∃ m, fu = m + 1 := ⟨fu - 1, by omega⟩
    have l1 : u9qi K.length ≤ u9qi k := by rw [u9qi_le (by omega) (by omega)]; omega
    simp only [f_Automaton_addBeginning_72, f_Automaton_addBeginning_72b, l1, if_true]
    rw [if_neg]
    intro hc
    rw [List.take_of_length_le (by omega)] at h
    exact h _ hc rfl
  | succ r ih =>
    intro k hk h fu hf
    obtain ⟨fu, rfl⟩ : ∃ m, fu = m + 1 := ⟨fu - 1, by omega⟩
    have l1 : ¬ (u9qi K.length ≤ u9qi k) := by rw [u9qi_le (by omega) (by omega)]; omega
    obtain ⟨b1, hb1, hk1⟩ := hS k (by omega)
    simp only [f_Automaton_addBeginning_72, f_Automaton_addBeginning_72b, l1, if_false, u9q_beh hn (show k < 193 by omega) hK hb1 hb, Option.bind_some, u9q_p1]
    by_cases hc : u9wD (u9Wl n u9tx cs) b1 = u9wD (u9Wl n u9tx cs) b
    · simp only [hc, if_true, u9n10, if_false]
      rw [if_pos]
      rw [hc] at hk1
      exact List.mem_of_getElem? hk1
    · simp only [hc, if_false, if_true]
      refine ih (k + 1) (by omega) (fun x hx => ?_) fu (by omega)
      rw [List.take_add_one, hk1] at hx
      simp at hx
      rcases hx with hx | hx
      · exact h x hx
      · rw [hx]; exact hc
theorem u9q_add {n : Nat} (hn : n ≤ 24) {u9tx : Nat → Int64} {cs : Nat → Int32} {K : List (List (Int64 × Int32))} (hK : K.length < 193) {st ct le lo : Nat → Int32} (hS : u9KS (u9Wl n u9tx cs) K st ct le lo) {i m : Nat} (hi : i < n) (hm : m ≤ 8) :
    ∃ st' ct' le' lo', f_Automaton_addBeginning (u9qi K.length) (u9qi ((K.map (u9fol 0)).sum)) st ct le lo (u9qi n) u9tx cs (u9qi i) (u9qi m) = some (u9qi (u9kd K [u9wD (u9Wl n u9tx cs) (i, m)]).length, u9qi (((u9kd K [u9wD (u9Wl n u9tx cs) (i, m)]).map (u9fol 0)).sum), st', ct', le', lo') ∧ u9KS (u9Wl n u9tx cs) (u9kd K [u9wD (u9Wl n u9tx cs) (i, m)]) st' ct' le' lo' := by
  have l1 : u9qi K.length < 193 := by rw [u9qi_lit, u9qi_lt (by omega) (by omega)]; exact hK
  have o1 : okI (u9qi K.length) 193 = true := by rw [u9qi_ok _ (by omega)]; exact hK
  have c1 : (u9qi K.length).toNatClampNeg = K.length := u9qi_cl (by omega)
  have hE := u9wE_bd (W := u9Wl n u9tx cs) (i := i) (m := m) (by rw [u9Wl_len]; exact hi)
  rw [u9Wl_len] at hE
  have hL : f_Automaton_lowestCost cs (u9qi i) (u9qi (u9wE (u9Wl n u9tx cs) i m - i)) = some (u9wL (u9Wl n u9tx cs) i m) := by
    rw [u9q_low hn u9tx cs (by omega) (by omega)]; rfl
  have hu : upd ct K.length (u9qi (u9wE (u9Wl n u9tx cs) i m - i)) K.length = u9qi (u9wE (u9Wl n u9tx cs) i m - i) := by simp [upd]
  have hnew : u9Slot' (u9Wl n u9tx cs) (i, m) (upd st K.length (u9qi i) K.length) (upd ct K.length (u9qi (u9wE (u9Wl n u9tx cs) i m - i)) K.length) (upd le K.length (u9qi m) K.length) (upd lo K.length (u9wL (u9Wl n u9tx cs) i m) K.length) := by
    refine ⟨by rw [u9Wl_len]; exact hi, hm, by simp [upd], by simp [upd], by simp [upd], by simp [upd]⟩
  have hold : ∀ j, j < K.length → ∃ b : Nat × Nat, u9Slot' (u9Wl n u9tx cs) b (upd st K.length (u9qi i) j) (upd ct K.length (u9qi (u9wE (u9Wl n u9tx cs) i m - i)) j) (upd le K.length (u9qi m) j) (upd lo K.length (u9wL (u9Wl n u9tx cs) i m) j) ∧ K[j]? = some (u9wD (u9Wl n u9tx cs) b) := by
    intro j hj
    obtain ⟨b, hb, hk⟩ := hS j hj
    refine ⟨b, ?_, hk⟩
    simp only [upd]
    rw [if_neg (by omega), if_neg (by omega), if_neg (by omega), if_neg (by omega)]; exact hb
  have hkk := u9q_add_k hn hK (K := K) hold hnew (u9qi n) (u9qi i) (u9qi m) (u9qi ((K.map (u9fol 0)).sum)) K.length 0 (by omega) (by simp) FU (by unfold FU; omega)
  rw [show (u9qi 0 : Int32) = 0 from rfl] at hkk
  unfold f_Automaton_addBeginning
  simp only [l1, if_true, o1, u9q_cw hn u9tx cs hi hm, Option.bind_some, c1, hu, hL, hkk]
  refine ⟨upd st K.length (u9qi i), upd ct K.length (u9qi (u9wE (u9Wl n u9tx cs) i m - i)), upd le K.length (u9qi m), upd lo K.length (u9wL (u9Wl n u9tx cs) i m), ?_, ?_⟩
  rotate_left 1
  · rw [u9kd_one]
    by_cases hc : u9wD (u9Wl n u9tx cs) (i, m) ∈ K
    · rw [if_pos hc]; exact hold
    · rw [if_neg hc]
      intro j hj
      simp only [List.length_append, List.length_singleton] at hj
      by_cases hjK : j < K.length
      · obtain ⟨b, hb, hk⟩ := hold j hjK
        exact ⟨b, hb, by rw [List.getElem?_append_left hjK]; exact hk⟩
      · obtain rfl : j = K.length := by omega
        exact ⟨(i, m), hnew, by simp⟩
  · rw [u9kd_one]
    by_cases hc : u9wD (u9Wl n u9tx cs) (i, m) ∈ K
    · simp only [hc, if_true, Sum.elim_inr]
    · have ha := u9q_arcs hn hK (lo := upd lo K.length (u9wL (u9Wl n u9tx cs) i m)) hnew
      simp only [hc, if_false, Sum.elim_inl, ha, Option.bind_some, u9q_p1, u9qi_add]
      simp
def u9wBi (W : List (Int64 × Int32)) (i m : Nat) : List (Nat × Nat) := (List.range (m - u9wF W i)).map (fun k => (i, u9wF W i + k))
def u9wP (W : List (Int64 × Int32)) (i : Nat) : List (Nat × Nat) := (List.range i).flatMap (fun i => u9wBi W i (u9wN W i + 1))
theorem u9wP_B (W : List (Int64 × Int32)) : u9wP W W.length = u9wB W := rfl
theorem u9wP_succ (W : List (Int64 × Int32)) (i : Nat) : u9wP W (i + 1) = u9wP W i ++ u9wBi W i (u9wN W i + 1) := by
  unfold u9wP; rw [List.range_succ, List.flatMap_append]; simp
theorem u9wBi_succ (W : List (Int64 × Int32)) {i m : Nat} (h : u9wF W i ≤ m) : u9wBi W i (m + 1) = u9wBi W i m ++ [(i, m)] := by
  unfold u9wBi
  rw [show m + 1 - u9wF W i = (m - u9wF W i) + 1 by omega, List.range_succ, List.map_append]
  simp; omega
theorem u9wBi_nil (W : List (Int64 × Int32)) {i m : Nat} (h : m ≤ u9wF W i) : u9wBi W i m = [] := by
  unfold u9wBi; rw [show m - u9wF W i = 0 by omega]; rfl
theorem u9lnr_le (f : Nat → Nat) : ∀ r k, u9lnr f r k ≤ k + r := by
  intro r
  induction r with
  | zero => intro k; simp [u9lnr]
  | succ r ih => intro k; have := ih (k + 1); simp only [u9lnr]; split <;> omega
theorem u9wN_le (W i) : u9wN W i ≤ 8 := by have := u9lnr_le (u9ql (u9wt W i)) 8 0; unfold u9wN; omega
theorem u9wF_pos (W) {i : Nat} (hi : 0 < i) : 1 ≤ u9wF W i := by unfold u9wF; rw [if_neg (by omega)]; omega
theorem u9wBi_len (W i m) : (u9wBi W i m).length = m - u9wF W i := by simp [u9wBi]
theorem u9wP_len (W) : ∀ i, (u9wP W i).length ≤ 8 * i + 1 ∧ (i = 0 → (u9wP W i).length = 0) := by
  intro i
  induction i with
  | zero => simp [u9wP]
  | succ i ih =>
    have hN := u9wN_le W i
    refine ⟨?_, fun h => absurd h (by omega)⟩
    rw [u9wP_succ, List.length_append, u9wBi_len]
    by_cases hi : i = 0
    · have := ih.2 hi; omega
    · have := u9wF_pos W (i := i) (by omega); have := ih.1; omega
def u9kS (W : List (Int64 × Int32)) (P : List (Nat × Nat)) : List (List (Int64 × Int32)) := u9kd [] (P.map (u9wD W))
theorem u9kS_len (W P) : (u9kS W P).length ≤ P.length := by
  have := u9kd_len (P.map (u9wD W)) []; unfold u9kS; simp at this ⊢; exact this
theorem u9kS_snoc (W P b) : u9kS W (P ++ [b]) = u9kd (u9kS W P) [u9wD W b] := by
  unfold u9kS; rw [List.map_append, u9kd_app]; rfl
theorem u9q_mes_in {n : Nat} (hn : n ≤ 24) {u9tx : Nat → Int64} {cs : Nat → Int32} {i : Nat} (hi : i < n) : ∀ r m (st ct le lo : Nat → Int32), m + r = max (u9wN (u9Wl n u9tx cs) i + 1) (u9wF (u9Wl n u9tx cs) i) → u9wF (u9Wl n u9tx cs) i ≤ m → u9KS (u9Wl n u9tx cs) (u9kS (u9Wl n u9tx cs) (u9wP (u9Wl n u9tx cs) i ++ u9wBi (u9Wl n u9tx cs) i m)) st ct le lo → ∀ fu, r < fu → ∃ st' ct' le' lo', f_Automaton_measure_59 (u9qi n) u9tx cs (u9qi i) (u9qi (u9wN (u9Wl n u9tx cs) i)) fu (u9qi (u9kS (u9Wl n u9tx cs) (u9wP (u9Wl n u9tx cs) i ++ u9wBi (u9Wl n u9tx cs) i m)).length) (u9qi (((u9kS (u9Wl n u9tx cs) (u9wP (u9Wl n u9tx cs) i ++ u9wBi (u9Wl n u9tx cs) i m)).map (u9fol 0)).sum)) st ct le lo (u9qi m) = some (u9qi (u9kS (u9Wl n u9tx cs) (u9wP (u9Wl n u9tx cs) (i + 1))).length, u9qi (((u9kS (u9Wl n u9tx cs) (u9wP (u9Wl n u9tx cs) (i + 1))).map (u9fol 0)).sum), st', ct', le', lo') ∧ u9KS (u9Wl n u9tx cs) (u9kS (u9Wl n u9tx cs) (u9wP (u9Wl n u9tx cs) (i + 1))) st' ct' le' lo' := by
  intro r
  have hN := u9wN_le (u9Wl n u9tx cs) i
  have hsh := u9sh_le (u9ql (u9wt (u9Wl n u9tx cs) (i - 1))) (u9ql (u9wt (u9Wl n u9tx cs) i))
  have hF : u9wF (u9Wl n u9tx cs) i ≤ 9 := by unfold u9wF; split <;> omega
  induction r with
  | zero =>
    intro m st ct le lo hm hF2 hK fu hf
    obtain ⟨fu, rfl⟩ : ∃ m, fu = m + 1 := ⟨fu - 1, by omega⟩
    have l1 : u9qi (u9wN (u9Wl n u9tx cs) i) < u9qi m := by rw [u9qi_lt (by omega) (by omega)]; omega
    have e : u9wP (u9Wl n u9tx cs) i ++ u9wBi (u9Wl n u9tx cs) i m = u9wP (u9Wl n u9tx cs) (i + 1) := by
      rw [u9wP_succ]
      congr 1
      by_cases hc : u9wF (u9Wl n u9tx cs) i ≤ u9wN (u9Wl n u9tx cs) i + 1
      · rw [show m = u9wN (u9Wl n u9tx cs) i + 1 by omega]
      · rw [u9wBi_nil _ (by omega), u9wBi_nil _ (by omega)]
    rw [e] at hK ⊢
    refine ⟨st, ct, le, lo, ?_, hK⟩
    simp only [f_Automaton_measure_59, f_Automaton_measure_59b, l1, if_true]
  | succ r ih =>
    intro m st ct le lo hm hF2 hK fu hf
    obtain ⟨fu, rfl⟩ : ∃ m, fu = m + 1 := ⟨fu - 1, by omega⟩
    have hmN : m ≤ u9wN (u9Wl n u9tx cs) i := by omega
    have l1 : ¬ (u9qi (u9wN (u9Wl n u9tx cs) i) < u9qi m) := by rw [u9qi_lt (by omega) (by omega)]; omega
    have hlen : (u9kS (u9Wl n u9tx cs) (u9wP (u9Wl n u9tx cs) i ++ u9wBi (u9Wl n u9tx cs) i m)).length < 193 := by
      have h1 := u9kS_len (u9Wl n u9tx cs) (u9wP (u9Wl n u9tx cs) i ++ u9wBi (u9Wl n u9tx cs) i m)
      rw [List.length_append, u9wBi_len] at h1
      have h2 := u9wP_len (u9Wl n u9tx cs) i
      by_cases hi0 : i = 0
      · have := h2.2 hi0; omega
      · have := u9wF_pos (u9Wl n u9tx cs) (i := i) (by omega); have := h2.1; omega
    obtain ⟨u9st1, ct1, le1, lo1, e1, hK1⟩ := u9q_add hn hlen hK hi (show m ≤ 8 by omega)
    rw [← u9kS_snoc, List.append_assoc, ← u9wBi_succ _ hF2] at e1 hK1
    simp only [f_Automaton_measure_59, f_Automaton_measure_59b, l1, if_false, e1, Option.bind_some, u9q_p1]
    exact ih (m + 1) u9st1 ct1 le1 lo1 (by omega) (by omega) hK1 fu (by omega)
theorem u9q_mes_out {n : Nat} (hn : n ≤ 24) {u9tx : Nat → Int64} {cs : Nat → Int32} : ∀ r i (st ct le lo : Nat → Int32), i + r = n → u9KS (u9Wl n u9tx cs) (u9kS (u9Wl n u9tx cs) (u9wP (u9Wl n u9tx cs) i)) st ct le lo → ∀ fu, r < fu → ∃ st' ct' le' lo', f_Automaton_measure_12 (u9qi n) u9tx cs fu (u9qi (u9kS (u9Wl n u9tx cs) (u9wP (u9Wl n u9tx cs) i)).length) (u9qi (((u9kS (u9Wl n u9tx cs) (u9wP (u9Wl n u9tx cs) i)).map (u9fol 0)).sum)) st ct le lo (u9qi i) = some (u9qi (u9spS (u9Wl n u9tx cs)), u9qi (u9spA (u9Wl n u9tx cs)), st', ct', le', lo') := by
  intro r
  induction r with
  | zero =>
    intro i st ct le lo hi hK fu hf
    obtain ⟨fu, rfl⟩ : ∃ m, fu = m + 1 := ⟨fu - 1, by omega⟩
    obtain rfl : i = n := by omega
    refine ⟨st, ct, le, lo, ?_⟩
    have l1 : u9qi i ≤ u9qi i := u9i32_refl _
    simp only [f_Automaton_measure_12, f_Automaton_measure_12b, f_WordList_size, Option.bind_some, l1, if_true]
    have e : u9wP (u9Wl i u9tx cs) i = u9wB (u9Wl i u9tx cs) := by
      have := u9wP_B (u9Wl i u9tx cs); rwa [u9Wl_len] at this
    rw [e]; rfl
  | succ r ih =>
    intro i st ct le lo hi hK fu hf
    obtain ⟨fu, rfl⟩ : ∃ m, fu = m + 1 := ⟨fu - 1, by omega⟩
    have l1 : ¬ (u9qi n ≤ u9qi i) := by rw [u9qi_le (by omega) (by omega)]; omega
    have hii : i < n := by omega
    have hN := u9wN_le (u9Wl n u9tx cs) i
    have hsh := u9sh_le (u9ql (u9wt (u9Wl n u9tx cs) (i - 1))) (u9ql (u9wt (u9Wl n u9tx cs) i))
    have hF : u9wF (u9Wl n u9tx cs) i ≤ 9 := by unfold u9wF; split <;> omega
    have hlenq : f_Texts_lengthOf (u9tx i) = some (u9qi (u9wN (u9Wl n u9tx cs) i)) := by
      rw [u9q_length]; unfold u9wN; rw [u9wt_W hii]
    have hK0 : u9KS (u9Wl n u9tx cs) (u9kS (u9Wl n u9tx cs) (u9wP (u9Wl n u9tx cs) i ++ u9wBi (u9Wl n u9tx cs) i (u9wF (u9Wl n u9tx cs) i))) st ct le lo := by
      rw [u9wBi_nil _ (Nat.le_refl _), List.append_nil]; exact hK
    obtain ⟨u9st1, ct1, le1, lo1, e1, hK1⟩ := u9q_mes_in hn hii (max (u9wN (u9Wl n u9tx cs) i + 1) (u9wF (u9Wl n u9tx cs) i) - u9wF (u9Wl n u9tx cs) i) (u9wF (u9Wl n u9tx cs) i) st ct le lo (by omega) (by omega) hK0 FU (by unfold FU; omega)
    rw [u9wBi_nil _ (Nat.le_refl _), List.append_nil] at e1
    have ihh := ih (i + 1) u9st1 ct1 le1 lo1 (by omega) hK1 fu (by omega)
    simp only [f_Automaton_measure_12, f_Automaton_measure_12b, f_Automaton_measure_47, f_WordList_size, Option.bind_some, l1, if_false, u9q_textAt u9tx (show i < 24 by omega), hlenq]
    by_cases hi0 : i = 0
    · subst hi0
      have hf0 : u9wF (u9Wl n u9tx cs) 0 = 0 := rfl
      rw [hf0] at e1
      rw [if_pos (by decide)]
      rw [show (u9qi 0 : Int32) = 0 from rfl] at *
      rw [e1]
      simp only [Option.bind_some]
      exact ihh
    · have z0 : ¬ (u9qi i = 0) := by rw [u9qi_lit, u9qi_eq (by omega) (by omega)]; exact hi0
      have es : f_Texts_sharedLetters (u9tx (i - 1)) (u9tx i) = some (u9qi (u9sh (u9ql (u9tx (i - 1))) (u9ql (u9tx i)))) := u9q_shared _ _
      have ef : u9qi (u9sh (u9ql (u9tx (i - 1))) (u9ql (u9tx i))) + 1 = u9qi (u9wF (u9Wl n u9tx cs) i) := by
        rw [u9q_p1]; unfold u9wF; rw [if_neg hi0, u9wt_W hii, u9wt_W (show i - 1 < n by omega)]
      simp only [z0, if_false, u9q_m1 (show 1 ≤ i by omega), u9q_textAt u9tx (show i - 1 < 24 by omega), Option.bind_some, es, ef, e1, u9q_p1]
      exact ihh
theorem u9q_measure {n : Nat} (hn : n ≤ 24) (u9tx : Nat → Int64) (cs : Nat → Int32) (s a : Int32) (st ct le lo : Nat → Int32) : ∃ st' ct' le' lo', f_Automaton_measure s a st ct le lo (u9qi n) u9tx cs = some (u9qi (u9spS (u9Wl n u9tx cs)), u9qi (u9spA (u9Wl n u9tx cs)), st', ct', le', lo') := by
  obtain ⟨st', ct', le', lo', e⟩ := u9q_mes_out hn (u9tx := u9tx) (cs := cs) n 0 st ct le lo (by omega) (by intro j hj; simp [u9wP, u9kS, u9kd] at hj) FU (by unfold FU; omega)
  refine ⟨st', ct', le', lo', ?_⟩
  unfold f_Automaton_measure
  have e' : f_Automaton_measure_12 (u9qi n) u9tx cs FU 0 0 st ct le lo 0 = some (u9qi (u9spS (u9Wl n u9tx cs)), u9qi (u9spA (u9Wl n u9tx cs)), st', ct', le', lo') := e
  rw [e']; rfl
