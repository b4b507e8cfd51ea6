def u9gr (ws : Nat → Int64) (mc : Nat → Int32) (x : Int64) : Nat → List (Int64 × Int32)
  | 0 => []
  | i + 1 => if u9dst x (ws i) ≤ 1 then u9gr ws mc x i ++ [(ws i, (3000 : Int32) * u9qi (u9dst x (ws i)) + mc i)] else u9gr ws mc x i
def u9gk (n : Nat) (ws : Nat → Int64) (mc : Nat → Int32) (x : Int64) : List (Int64 × Int32) := if u9gr ws mc x n = [] then [(x, 20000)] else u9gr ws mc x n
theorem u9gr_len (ws mc x) : ∀ i, (u9gr ws mc x i).length ≤ i := by
  intro i
  induction i with
  | zero => simp [u9gr]
  | succ i ih =>
    simp only [u9gr]
    split
    · simp; omega
    · omega
theorem u9gk_len {n : Nat} (hn : n ≤ 24) (ws mc x) : 1 ≤ (u9gk n ws mc x).length ∧ (u9gk n ws mc x).length ≤ 24 := by
  have := u9gr_len ws mc x n
  unfold u9gk
  split
  · simp
  · rename_i h
    have : 0 < (u9gr ws mc x n).length := List.length_pos_iff.2 h
    omega
theorem u9gr_ok {n p : Nat} {dt : Nat → Int64} {dc : Nat → Int32} {ws : Nat → Int64} {mc : Nat → Int32} (hW : u9WR n dt dc ws mc) (x : Int64) : ∀ i, i ≤ n → ∀ e, e ∈ u9gr ws mc x i → u9okW e.1 = true ∧ ∃ a, a ≤ 20000 ∧ e.2 = u9qi a := by
  intro i
  induction i with
  | zero => intro _ e he; simp [u9gr] at he
  | succ i ih =>
    intro hi e he
    simp only [u9gr] at he
    split at he
    · rename_i hd
      rcases List.mem_append.1 he with he | he
      · exact ih (by omega) e he
      · rw [List.mem_singleton] at he
        subst he
        obtain ⟨w1, w2, w3, c, c9, w4⟩ := hW.2.2 i (by omega)
        refine ⟨w1, 3000 * u9dst x (ws i) + c, by omega, ?_⟩
        show (3000 : Int32) * u9qi (u9dst x (ws i)) + mc i = _
        rw [← w3, w4, u9qi_lit, u9qi_mul, u9qi_add]
    · exact ih (by omega) e he
theorem u9gk_ok {n : Nat} {dt : Nat → Int64} {dc : Nat → Int32} {ws : Nat → Int64} {mc : Nat → Int32} (hW : u9WR n dt dc ws mc) {x : Int64} (hx : u9okW x = true) : ∀ e, e ∈ u9gk n ws mc x → u9okW e.1 = true ∧ ∃ a, a ≤ 20000 ∧ e.2 = u9qi a := by
  intro e he
  unfold u9gk at he
  split at he
  · rw [List.mem_singleton] at he; subst he; exact ⟨hx, 20000, by omega, rfl⟩
  · exact u9gr_ok (p := 0) hW x n (Nat.le_refl _) e he
def u9CRow (l : List (Int64 × Int32)) (cd : Nat → Int64) (co : Nat → Int32) : Prop := ∀ i e, l[i]? = some e → cd i = u9T e.1 ∧ co i = e.2
def u9MRow (l : List (Int64 × Int32)) (k : Nat) (cd : Nat → Int64) (al : Nat → Int32) : Prop := ∀ i e, l[i]? = some e → cd (24 * k + i) = e.1 ∧ al (24 * k + i) = e.2
theorem getElem?_snoc {α : Type} {l : List α} {x e : α} {i : Nat} (h : (l ++ [x])[i]? = some e) : l[i]? = some e ∨ (i = l.length ∧ e = x) := by
  by_cases hi : i < l.length
  · rw [List.getElem?_append_left hi] at h; exact Or.inl h
  · rw [List.getElem?_append_right (by omega)] at h
    by_cases hil : i = l.length
    · subst hil; simp at h; exact Or.inr ⟨rfl, h.symm⟩
    · rw [List.getElem?_eq_none (by simp; omega)] at h; cases h
theorem lt_of_getElem? {α : Type} {l : List α} {e : α} {i : Nat} (h : l[i]? = some e) : i < l.length := by
  apply Classical.byContradiction
  intro hc
  rw [List.getElem?_eq_none (by omega)] at h; cases h
theorem u9q_gather_k {n : Nat} {dt : Nat → Int64} {dc : Nat → Int32} {ws : Nat → Int64} {mc : Nat → Int32} (hW : u9WR n dt dc ws mc) {sd : Nat → Int64} {pl : Nat} (hpl : pl < 4) {x : Int64} (hx : u9okW x = true) (hsd : sd pl = u9T x) (cts : Nat → Int32) (cd0 : Nat → Nat → Int64) (co0 : Nat → Nat → Int32) :
    ∀ r i (cd : Nat → Nat → Int64) (co : Nat → Nat → Int32) (L : Nat → Nat → Int32), i + r = n → u9Bd L → u9CRow (u9gr ws mc x i) (cd pl) (co pl) → (∀ q, q ≠ pl → cd q = cd0 q ∧ co q = co0 q) → ∀ fu, r < fu → ∃ cd' co' L', f_Phrase_gather_6 sd (u9qi n) dt dc (u9qi pl) cts fu cd co L (u9qi (u9gr ws mc x i).length) (u9qi i) = some (cd', co', L', u9qi (u9gr ws mc x n).length) ∧ u9Bd L' ∧ u9CRow (u9gr ws mc x n) (cd' pl) (co' pl) ∧ (∀ q, q ≠ pl → cd' q = cd0 q ∧ co' q = co0 q) := by
  intro r
  have hn := hW.1
  have op : okI (u9qi pl) 4 = true := by rw [u9qi_ok _ (by omega)]; omega
  have cp : (u9qi pl).toNatClampNeg = pl := u9qi_cl (by omega)
  induction r with
  | zero =>
    intro i cd co L hi hL hR hq fu hf
    obtain ⟨fu, rfl⟩ : ∃ m, fu = m + 1 := ⟨fu - 1, by omega⟩
    obtain rfl : i = n := by omega
    have l1 : u9qi i ≤ u9qi i := u9i32_refl _
    refine ⟨cd, co, L, ?_, hL, hR, hq⟩
    simp only [f_Phrase_gather_6, f_Phrase_gather_6b, f_WordList_size, Option.bind_some, l1, if_true]
  | succ r ih =>
    intro i cd co L hi hL hR hq fu hf
    obtain ⟨fu, rfl⟩ : ∃ m, fu = m + 1 := ⟨fu - 1, by omega⟩
    have l1 : ¬ (u9qi n ≤ u9qi i) := by rw [u9qi_le (by omega) (by omega)]; omega
    obtain ⟨w1, w2, w3, c, c9, w4⟩ := hW.2.2 i (by omega)
    obtain ⟨L1, e1, hL1⟩ := u9q_btw (L := L) (u9okW_B hx) (u9okW_B w1) hL
    have hlen := u9gr_len ws mc x i
    have ol : okI (u9qi (u9gr ws mc x i).length) 24 = true := by rw [u9qi_ok _ (by omega)]; omega
    have cl : (u9qi (u9gr ws mc x i).length).toNatClampNeg = (u9gr ws mc x i).length := u9qi_cl (by omega)
    have hd16 := u9dst_le x (ws i)
    have hdef : u9dd (u9la x) (u9la (ws i)) (u9nl (u9un x)) (u9nl (u9un (ws i))) = u9dst x (ws i) := rfl
    rw [hdef] at e1
    have hgt : ((1 : Int32) < u9qi (u9dst x (ws i))) = (1 < u9dst x (ws i)) := by rw [u9qi_lit, u9qi_lt (by omega) (by omega)]
    simp only [f_Phrase_gather_6, f_Phrase_gather_6b, f_Phrase_gather_79, f_WordList_size, Option.bind_some, l1, if_false, op, if_true, cp, hsd, u9q_textAt dt (show i < 24 by omega), u9q_costAt dc (show i < 24 by omega), w2, e1, hgt, ol, cl, u9q_p1]
    by_cases hc : 1 < u9dst x (ws i)
    · simp only [hc, if_true]
      have hg : u9gr ws mc x (i + 1) = u9gr ws mc x i := by simp only [u9gr]; rw [if_neg (by omega)]
      have := ih (i + 1) cd co L1 (by omega) hL1 (by rw [hg]; exact hR) hq fu (by omega)
      rw [hg] at this
      exact this
    · simp only [hc, if_false]
      have hg : u9gr ws mc x (i + 1) = u9gr ws mc x i ++ [(ws i, (3000 : Int32) * u9qi (u9dst x (ws i)) + mc i)] := by simp only [u9gr]; rw [if_pos (by omega)]
      have := ih (i + 1) (va_up cd pl (vp_updL (cd pl) (u9gr ws mc x i).length (u9T (ws i)))) (va_up co pl (upd (co pl) (u9gr ws mc x i).length (3000 * u9qi (u9dst x (ws i)) + dc i))) L1 (by omega) hL1 (by
        rw [hg]
        intro j e he
        simp only [va_up, if_true, vp_updL, upd]
        rcases getElem?_snoc he with he | ⟨hj, hee⟩
        · have hjl := lt_of_getElem? he
          rw [if_neg (by omega), if_neg (by omega)]; exact hR j e he
        · subst hj; subst hee
          rw [if_pos rfl, if_pos rfl, w3]; exact ⟨rfl, rfl⟩) (fun q hqp => by
        simp only [va_up, hqp, if_false]; exact hq q hqp) fu (by omega)
      rw [hg, List.length_append, List.length_singleton] at this
      exact this
theorem u9q_gather {n : Nat} {dt : Nat → Int64} {dc : Nat → Int32} {ws : Nat → Int64} {mc : Nat → Int32} (hW : u9WR n dt dc ws mc) {sd : Nat → Int64} {pl : Nat} (hpl : pl < 4) {x : Int64} (hx : u9okW x = true) (hsd : sd pl = u9T x) (cts : Nat → Int32) (cd : Nat → Nat → Int64) (co L : Nat → Nat → Int32) (hL : u9Bd L) :
    ∃ cd' co' L', f_Phrase_gather sd cd co cts (u9qi n) dt dc L (u9qi pl) = some (cd', co', upd cts pl (u9qi (u9gk n ws mc x).length), L') ∧ u9Bd L' ∧ u9CRow (u9gk n ws mc x) (cd' pl) (co' pl) ∧ (∀ q, q ≠ pl → cd' q = cd q ∧ co' q = co q) := by
  have hn := hW.1
  have op : okI (u9qi pl) 4 = true := by rw [u9qi_ok _ (by omega)]; omega
  have cp : (u9qi pl).toNatClampNeg = pl := u9qi_cl (by omega)
  have hlen := u9gr_len ws mc x n
  obtain ⟨cd1, co1, L1, e, hL1, hR, hq⟩ := u9q_gather_k hW hpl hx hsd cts cd co n 0 cd co L (by omega) hL (by intro i e he; simp [u9gr] at he) (fun _ _ => ⟨rfl, rfl⟩) FU (by unfold FU; omega)
  have e' : f_Phrase_gather_6 sd (u9qi n) dt dc (u9qi pl) cts FU cd co L 0 0 = some (cd1, co1, L1, u9qi (u9gr ws mc x n).length) := e
  have z0 : (0 : Int32).toNatClampNeg = 0 := by decide
  have hz : (u9qi (u9gr ws mc x n).length = 0) = (u9gr ws mc x n = []) := by
    rw [u9qi_lit, u9qi_eq (by omega) (by omega)]
    exact propext List.length_eq_zero_iff
  unfold f_Phrase_gather f_Phrase_gather_118 u9gk
  simp only [e', Option.bind_some, hz, op, if_true, cp, hsd, z0]
  by_cases hc : u9gr ws mc x n = []
  · simp only [hc, if_true]
    refine ⟨_, _, L1, rfl, hL1, ?_, fun q hqp => ?_⟩
    · intro i e he
      have hi := lt_of_getElem? he
      simp at hi
      subst hi
      simp at he
      subst he
      simp only [va_up, if_true, vp_updL, upd]
      exact ⟨trivial, trivial⟩
    · simp only [va_up, hqp, if_false]; exact hq q hqp
  · simp only [hc, if_false]
    exact ⟨cd1, co1, L1, rfl, hL1, hR, hq⟩
theorem u9q_Mgather_k {n p : Nat} (hp : p < 3) {dt : Nat → Int64} {dc : Nat → Int32} {wd : Nat → Int64} {mc : Nat → Int32} (hW : u9WR n dt dc (fun i => wd (24 * p + i)) (fun i => mc (24 * p + i))) {sz : Nat → Int32} (hsz : sz p = u9qi n) {ph : Nat → Int64} {k : Nat} (hk : k < 4) {x : Int64} (hph : ph k = x) (cd0 : Nat → Int64) (al0 : Nat → Int32) (mn0 : Nat → Int32) :
    ∀ r i (Tb mn : Nat → Int32) (cd : Nat → Int64) (al : Nat → Int32), i + r = n → mn k = u9qi (u9gr (fun i => wd (24 * p + i)) (fun i => mc (24 * p + i)) x i).length → (∀ q, q ≠ k → mn q = mn0 q) → u9MRow (u9gr (fun i => wd (24 * p + i)) (fun i => mc (24 * p + i)) x i) k cd al → (∀ j, (j < 24 * k ∨ 24 * k + 24 ≤ j) → cd j = cd0 j ∧ al j = al0 j) → ∀ fu, r < fu → ∃ Tb' mn' cd' al', f_M_gather_9 sz wd mc ph (u9qi p) (u9qi k) fu Tb mn cd al (u9qi i) = some (Tb', mn', cd', al') ∧ mn' k = u9qi (u9gr (fun i => wd (24 * p + i)) (fun i => mc (24 * p + i)) x n).length ∧ (∀ q, q ≠ k → mn' q = mn0 q) ∧ u9MRow (u9gr (fun i => wd (24 * p + i)) (fun i => mc (24 * p + i)) x n) k cd' al' ∧ (∀ j, (j < 24 * k ∨ 24 * k + 24 ≤ j) → cd' j = cd0 j ∧ al' j = al0 j) := by
  intro r
  have hn := hW.1
  have o3 : okI (u9qi p) 3 = true := by rw [u9qi_ok _ (by omega)]; omega
  have cp : (u9qi p).toNatClampNeg = p := u9qi_cl (by omega)
  have ok : okI (u9qi k) 4 = true := by rw [u9qi_ok _ (by omega)]; omega
  have ck : (u9qi k).toNatClampNeg = k := u9qi_cl (by omega)
  generalize hG : u9gr (fun i => wd (24 * p + i)) (fun i => mc (24 * p + i)) x = G
  have hGl : ∀ i, (G i).length ≤ i := by intro i; rw [← hG]; exact u9gr_len _ _ _ i
  have hGs : ∀ i, G (i + 1) = if u9dst x (wd (24 * p + i)) ≤ 1 then G i ++ [(wd (24 * p + i), (3000 : Int32) * u9qi (u9dst x (wd (24 * p + i))) + mc (24 * p + i))] else G i := by
    intro i; rw [← hG]; rfl
  induction r with
  | zero =>
    intro i Tb mn cd al hi hm hmq hR hq fu hf
    obtain ⟨fu, rfl⟩ : ∃ m, fu = m + 1 := ⟨fu - 1, by omega⟩
    obtain rfl : i = n := by omega
    have l1 : u9qi i ≤ u9qi i := u9i32_refl _
    refine ⟨Tb, mn, cd, al, ?_, hm, hmq, hR, hq⟩
    simp only [f_M_gather_9, f_M_gather_9b, o3, if_true, cp, hsz, l1]
  | succ r ih =>
    intro i Tb mn cd al hi hm hmq hR hq fu hf
    obtain ⟨fu, rfl⟩ : ∃ m, fu = m + 1 := ⟨fu - 1, by omega⟩
    have l1 : ¬ (u9qi n ≤ u9qi i) := by rw [u9qi_le (by omega) (by omega)]; omega
    have x1 : (24 : Int32) * u9qi p + u9qi i = u9qi (24 * p + i) := by rw [u9qi_lit, u9qi_mul, u9qi_add]
    have o2 : okI (u9qi (24 * p + i)) 72 = true := by rw [u9qi_ok _ (by omega)]; omega
    have c2 : (u9qi (24 * p + i)).toNatClampNeg = 24 * p + i := u9qi_cl (by omega)
    obtain ⟨Tb1, e1⟩ := u9q_Mdist Tb x (wd (24 * p + i))
    have hlen := hGl i
    have x2 : (24 : Int32) * u9qi k + u9qi (G i).length = u9qi (24 * k + (G i).length) := by rw [u9qi_lit, u9qi_mul, u9qi_add]
    have o4 : okI (u9qi (24 * k + (G i).length)) 96 = true := by rw [u9qi_ok _ (by omega)]; omega
    have c4 : (u9qi (24 * k + (G i).length)).toNatClampNeg = 24 * k + (G i).length := u9qi_cl (by omega)
    have hd16 := u9dst_le x (wd (24 * p + i))
    have hdef : u9dd (u9la x) (u9la (wd (24 * p + i))) (u9nl (u9un x)) (u9nl (u9un (wd (24 * p + i)))) = u9dst x (wd (24 * p + i)) := rfl
    rw [hdef] at e1
    have hle : (u9qi (u9dst x (wd (24 * p + i))) ≤ (1 : Int32)) = (u9dst x (wd (24 * p + i)) ≤ 1) := by rw [u9qi_lit, u9qi_le (by omega) (by omega)]
    simp only [f_M_gather_9, f_M_gather_9b, f_M_gather_122, o3, if_true, cp, hsz, l1, if_false, ok, ck, x1, o2, c2, hph, e1, Option.bind_some, hle, hm, x2, o4, c4, u9q_p1]
    by_cases hc : u9dst x (wd (24 * p + i)) ≤ 1
    · simp only [hc, if_true]
      have hg := hGs i
      rw [if_pos hc] at hg
      refine ih (i + 1) Tb1 _ _ _ (by omega) ?_ (fun q hqk => ?_) ?_ (fun j hj => ?_) fu (by omega)
      · rw [hg]; simp [upd]
      · simp only [upd, hqk, if_false]; exact hmq q hqk
      · rw [hg]
        intro j e he
        simp only [vp_updL, upd]
        rcases getElem?_snoc he with he | ⟨hj, hee⟩
        · have hjl := lt_of_getElem? he
          rw [if_neg (by omega), if_neg (by omega)]; exact hR j e he
        · subst hj; subst hee
          rw [if_pos rfl, if_pos rfl]; exact ⟨rfl, rfl⟩
      · simp only [vp_updL, upd]
        rw [if_neg (by omega), if_neg (by omega)]; exact hq j hj
    · simp only [hc, if_false]
      have hg := hGs i
      rw [if_neg hc] at hg
      exact ih (i + 1) Tb1 mn cd al (by omega) (by rw [hg]; exact hm) hmq (by rw [hg]; exact hR) hq fu (by omega)
theorem u9q_Mgather {n p : Nat} (hp : p < 3) {dt : Nat → Int64} {dc : Nat → Int32} {wd : Nat → Int64} {mc : Nat → Int32} (hW : u9WR n dt dc (fun i => wd (24 * p + i)) (fun i => mc (24 * p + i))) {sz : Nat → Int32} (hsz : sz p = u9qi n) {ph : Nat → Int64} {k : Nat} (hk : k < 4) (Tb mn : Nat → Int32) (cd : Nat → Int64) (al : Nat → Int32) :
    ∃ Tb' mn' cd' al', f_M_gather sz wd mc Tb ph mn cd al (u9qi p) (u9qi k) = some (Tb', mn', cd', al') ∧ mn' k = u9qi (u9gk n (fun i => wd (24 * p + i)) (fun i => mc (24 * p + i)) (ph k)).length ∧ (∀ q, q ≠ k → mn' q = mn q) ∧ u9MRow (u9gk n (fun i => wd (24 * p + i)) (fun i => mc (24 * p + i)) (ph k)) k cd' al' ∧ (∀ j, (j < 24 * k ∨ 24 * k + 24 ≤ j) → cd' j = cd j ∧ al' j = al j) := by
  have hn := hW.1
  have ok : okI (u9qi k) 4 = true := by rw [u9qi_ok _ (by omega)]; omega
  have ck : (u9qi k).toNatClampNeg = k := u9qi_cl (by omega)
  have hlen := u9gr_len (fun i => wd (24 * p + i)) (fun i => mc (24 * p + i)) (ph k) n
  obtain ⟨Tb1, mn1, cd1, al1, e, g1, g2, g3, g4⟩ := u9q_Mgather_k hp hW hsz hk (x := ph k) rfl cd al mn n 0 Tb (upd mn k 0) cd al (by omega) (by simp [upd, u9gr]; rfl) (fun q hq => by simp [upd, hq]) (by intro i e he; simp [u9gr] at he) (fun _ _ => ⟨rfl, rfl⟩) FU (by unfold FU; omega)
  have e' : f_M_gather_9 sz wd mc ph (u9qi p) (u9qi k) FU Tb (upd mn k 0) cd al 0 = some (Tb1, mn1, cd1, al1) := e
  have x2 : (24 : Int32) * u9qi k = u9qi (24 * k) := by rw [u9qi_lit, u9qi_mul]
  have o4 : okI (u9qi (24 * k)) 96 = true := by rw [u9qi_ok _ (by omega)]; omega
  have c4 : (u9qi (24 * k)).toNatClampNeg = 24 * k := u9qi_cl (by omega)
  have hz : (mn1 k ≤ 0) = (u9gr (fun i => wd (24 * p + i)) (fun i => mc (24 * p + i)) (ph k) n = []) := by
    rw [g1, u9q_le0 (by omega)]
    exact propext List.length_eq_zero_iff
  unfold f_M_gather u9gk
  simp only [ok, if_true, ck, e', Option.bind_some, hz, x2, o4, c4]
  by_cases hc : u9gr (fun i => wd (24 * p + i)) (fun i => mc (24 * p + i)) (ph k) n = []
  · simp only [hc, if_true]
    refine ⟨_, _, _, _, rfl, by simp [upd]; rfl, fun q hq => by simp only [upd, hq, if_false]; exact g2 q hq, ?_, fun j hj => ?_⟩
    · intro i e he
      have hi := lt_of_getElem? he
      simp at hi
      subst hi
      simp at he
      subst he
      simp only [vp_updL, upd, Nat.add_zero, if_true]
      exact ⟨trivial, trivial⟩
    · simp only [vp_updL, upd]
      rw [if_neg (by omega), if_neg (by omega)]; exact g4 j hj
  · simp only [hc, if_false]
    exact ⟨Tb1, mn1, cd1, al1, rfl, g1, g2, g3, g4⟩
