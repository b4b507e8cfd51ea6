def u9qi (k : Nat) : Int32 := Int32.ofNat k
def u9un (w : Int64) : Nat := w.toBitVec.toNat
def u9qb (x k : Nat) : Nat := x / 256 ^ k % 256
def u9ql (w : Int64) (p : Nat) : Nat := u9qb (u9un w) (7 - p)

theorem u9qi_toInt {k : Nat} (h : k < 2147483648) : (u9qi k).toInt = k := by
  unfold u9qi; exact Int32.toInt_ofNat_of_lt (by simpa using h)
theorem u9qi_lit (n : Nat) : (OfNat.ofNat n : Int32) = u9qi (OfNat.ofNat n) := rfl
theorem u9qi_add (a b : Nat) : u9qi a + u9qi b = u9qi (a + b) := by
  unfold u9qi; simp [Int32.ofNat_add]
theorem u9qi_mul (a b : Nat) : u9qi a * u9qi b = u9qi (a * b) := by
  unfold u9qi; simp [Int32.ofNat_mul]
theorem u9qi_sub {a b : Nat} (h : b ≤ a) : u9qi a - u9qi b = u9qi (a - b) := by
  unfold u9qi; rw [Int32.ofNat_sub _ _ h]
theorem u9qi_dec {a : Nat} (h : 1 ≤ a) : u9qi a + -u9qi 1 = u9qi (a - 1) := by
  rw [← u9qi_sub h, Int32.sub_eq_add_neg]
theorem u9qi_le {a b : Nat} (ha : a < 2147483648) (hb : b < 2147483648) : (u9qi a ≤ u9qi b) = (a ≤ b) := by
  rw [Int32.le_iff_toInt_le, u9qi_toInt ha, u9qi_toInt hb]; simp
theorem u9qi_lt {a b : Nat} (ha : a < 2147483648) (hb : b < 2147483648) : (u9qi a < u9qi b) = (a < b) := by
  rw [Int32.lt_iff_toInt_lt, u9qi_toInt ha, u9qi_toInt hb]; simp
theorem u9qi_eq {a b : Nat} (ha : a < 2147483648) (hb : b < 2147483648) : (u9qi a = u9qi b) = (a = b) := by
  rw [← Int32.toInt_inj, u9qi_toInt ha, u9qi_toInt hb]; simp; omega
theorem u9qi_cl {k : Nat} (h : k < 2147483648) : (u9qi k).toNatClampNeg = k := by
  unfold Int32.toNatClampNeg; rw [u9qi_toInt h]; simp
theorem u9qi_ok {k : Nat} (n : Nat) (h : k < 2147483648) : (okI (u9qi k) n = true) = (k < n) := by
  have h0 : ¬ (u9qi k < 0) := by rw [u9qi_lit, u9qi_lt h (by decide)]; simp
  simp [okI, h0, u9qi_cl h]


theorem u9qs64 {s : Nat} (h : s < 64) (t : Int64) : ((t.toUInt64 >>> UInt64.ofNat s).toInt64.toInt32 &&& (255 : Int32)) = u9qi (u9un t / 2 ^ s % 256) := by
  apply Int32.toBitVec_inj.1
  apply BitVec.eq_of_toNat_eq
  simp [u9qi, u9un, BitVec.signExtend_eq_setWidth_of_le, Nat.mod_eq_of_lt h, Nat.shiftRight_eq_div_pow]
  rw [show (255 : Nat) = 2 ^ 8 - 1 from rfl, Nat.and_two_pow_sub_one_eq_mod]
  omega
theorem u9q8 {p : Nat} (h : p < 8) : p = 0 ∨ p = 1 ∨ p = 2 ∨ p = 3 ∨ p = 4 ∨ p = 5 ∨ p = 6 ∨ p = 7 := by omega
theorem u9q_letterAt (t : Int64) {p : Nat} (h : p < 8) : f_Texts_letterAt t (u9qi p) = some (u9qi (u9ql t p)) := by
  unfold f_Texts_letterAt
  rcases u9q8 h with rfl | rfl | rfl | rfl | rfl | rfl | rfl | rfl
  all_goals first
    | exact congrArg some (u9qs64 (s := 56) (by decide) t)
    | exact congrArg some (u9qs64 (s := 48) (by decide) t)
    | exact congrArg some (u9qs64 (s := 40) (by decide) t)
    | exact congrArg some (u9qs64 (s := 32) (by decide) t)
    | exact congrArg some (u9qs64 (s := 24) (by decide) t)
    | exact congrArg some (u9qs64 (s := 16) (by decide) t)
    | exact congrArg some (u9qs64 (s := 8) (by decide) t)
    | exact congrArg some (u9qs64 (s := 0) (by decide) t)
def u9ri (k : Nat) : Int64 := Int64.ofNat k
theorem u9un_lt (w : Int64) : u9un w < 18446744073709551616 := by
  unfold u9un; exact w.toBitVec.isLt
theorem u9ri_un (w : Int64) : u9ri (u9un w) = w := by
  apply Int64.toBitVec_inj.1; apply BitVec.eq_of_toNat_eq; simp [u9ri, u9un]
theorem u9un_ri {k : Nat} (h : k < 18446744073709551616) : u9un (u9ri k) = k := by
  unfold u9un u9ri; simp; omega
theorem u9un_inj {a b : Int64} : (a = b) = (u9un a = u9un b) := by
  apply propext; constructor
  · intro h; rw [h]
  · intro h; rw [← u9ri_un a, ← u9ri_un b, h]
theorem u9ri_toInt {k : Nat} (h : k < 9223372036854775808) : (u9ri k).toInt = k := by
  unfold u9ri; exact Int64.toInt_ofNat_of_lt (by simpa using h)
theorem u9ri_lit (n : Nat) : (OfNat.ofNat n : Int64) = u9ri (OfNat.ofNat n) := rfl
theorem u9ri_le {a b : Nat} (ha : a < 9223372036854775808) (hb : b < 9223372036854775808) : (u9ri a ≤ u9ri b) = (a ≤ b) := by
  rw [Int64.le_iff_toInt_le, u9ri_toInt ha, u9ri_toInt hb]; simp
theorem u9ri_lt {a b : Nat} (ha : a < 9223372036854775808) (hb : b < 9223372036854775808) : (u9ri a < u9ri b) = (a < b) := by
  rw [Int64.lt_iff_toInt_lt, u9ri_toInt ha, u9ri_toInt hb]; simp
theorem u9ri_eq {a b : Nat} (ha : a < 18446744073709551616) (hb : b < 18446744073709551616) : (u9ri a = u9ri b) = (a = b) := by
  rw [u9un_inj, u9un_ri ha, u9un_ri hb]
theorem u9un_neg (w : Int64) : (w < 0) = (9223372036854775808 ≤ u9un w) := by
  have := u9un_lt w
  rw [Int64.lt_iff_toInt_lt]
  have h : w.toInt = w.toBitVec.toInt := rfl
  rw [h, BitVec.toInt_eq_toNat_cond]
  show ((if 2 * u9un w < _ then (u9un w : Int) else (u9un w : Int) - _) < 0) = _
  simp
  split <;> omega
theorem u9un_and (w : Int64) : w &&& (255 : Int64) = u9ri (u9un w % 256) := by
  apply Int64.toBitVec_inj.1; apply BitVec.eq_of_toNat_eq
  simp [u9ri, u9un]
  rw [show (255 : Nat) = 2 ^ 8 - 1 from rfl, Nat.and_two_pow_sub_one_eq_mod]; omega
theorem u9un_shr8 (w : Int64) : (w.toUInt64 >>> ((8 : Int32).toInt64.toUInt64 &&& Int64.toUInt64 63)).toInt64 = u9ri (u9un w / 256) := by
  have h : ((8 : Int32).toInt64.toUInt64 &&& Int64.toUInt64 63) = 8 := by decide
  rw [h]
  apply Int64.toBitVec_inj.1; apply BitVec.eq_of_toNat_eq
  simp [u9ri, u9un, Nat.shiftRight_eq_div_pow]; omega
theorem u9q_sm : ∀ s < 64, ((BitVec.ofNat 64 s).smod 64#64).toNat = s := by decide
theorem u9un_shl {s : Nat} (h : s < 64) (w : Int64) : w <<< Int64.ofNat s = u9ri (u9un w * 2 ^ s) := by
  apply Int64.toBitVec_inj.1; apply BitVec.eq_of_toNat_eq
  simp [u9ri, u9un, Nat.shiftLeft_eq, u9q_sm s h]
theorem u9q_sar (x : BitVec 64) {s : Nat} (h : s < 57) : x.sshiftRight s &&& 255#64 = x >>> s &&& 255#64 := by
  apply BitVec.eq_of_getLsbD_eq
  intro i hi
  simp only [BitVec.getLsbD_and, BitVec.getLsbD_sshiftRight, BitVec.getLsbD_ushiftRight]
  by_cases h8 : i < 8
  · have h1 : s + i < 64 := by omega
    have h2 : ¬ (64 ≤ i) := by omega
    simp [h1, h2]
  · have h3 : (255#64).getLsbD i = false := by
      have : ∀ i < 64, 8 ≤ i → (255#64).getLsbD i = false := by decide
      exact this i hi (by omega)
    rw [h3]; simp
theorem u9un_sar {s : Nat} (h : s < 57) (w : Int64) : (w >>> Int64.ofNat s) &&& (255 : Int64) = u9ri (u9un w / 2 ^ s % 256) := by
  apply Int64.toBitVec_inj.1; apply BitVec.eq_of_toNat_eq
  have h1 := congrArg BitVec.toNat (u9q_sar w.toBitVec h)
  simp [u9ri, u9un, u9q_sm s (by omega)] at h1 ⊢
  rw [h1, Nat.shiftRight_eq_div_pow]
  rw [show (255 : Nat) = 2 ^ 8 - 1 from rfl, Nat.and_two_pow_sub_one_eq_mod]
  omega
theorem u9un_toInt (w : Int64) : w.toInt = if u9un w < 9223372036854775808 then (u9un w : Int) else (u9un w : Int) - 18446744073709551616 := by
  have h : w.toInt = w.toBitVec.toInt := rfl
  rw [h, BitVec.toInt_eq_toNat_cond]
  show (if 2 * u9un w < _ then (u9un w : Int) else (u9un w : Int) - _) = _
  simp
  split <;> split <;> omega
theorem u9un_sar0 {s : Nat} (h : s < 63) (w : Int64) : (w >>> Int64.ofNat s = 0) = (u9un w < 2 ^ s) := by
  rw [← Int64.toBitVec_inj, ← BitVec.toInt_inj]
  simp [u9q_sm s (by omega)]
  rw [Int.shiftRight_eq_div_pow, u9un_toInt]
  have h0 : 0 < 2 ^ s := Nat.pow_pos (by decide)
  have h1 : 2 ^ s ≤ 2 ^ 62 := Nat.pow_le_pow_right (by decide) (by omega)
  have h2 := u9un_lt w
  split
  · constructor
    · intro h
      have : u9un w / 2 ^ s = 0 := by exact_mod_cast h
      rw [Nat.div_eq_zero_iff] at this
      omega
    · intro h
      have : u9un w / 2 ^ s = 0 := Nat.div_eq_of_lt h
      exact_mod_cast this
  · constructor
    · intro h
      have h3 : ((u9un w : Int) - 18446744073709551616) / ((2 ^ s : Nat) : Int) < 0 := Int.ediv_neg_of_neg_of_pos (by omega) (by omega)
      rw [h] at h3; omega
    · intro h; omega
def u9nl (x : Nat) : Nat := if x < 1 then 0 else if x < 256 then 1 else if x < 65536 then 2 else if x < 16777216 then 3 else if x < 4294967296 then 4 else if x < 1099511627776 then 5 else if x < 281474976710656 then 6 else if x < 72057594037927936 then 7 else 8
theorem u9nl_le (x : Nat) : u9nl x ≤ 8 := by unfold u9nl; (repeat' split) <;> omega
def u9p256 (k : Nat) : Nat := 256 ^ k
theorem u9nl_up {x k : Nat} (hk : k < 8) : (u9nl x ≤ k) = (x < 256 ^ k) := by
  unfold u9nl
  rcases u9q8 hk with rfl | rfl | rfl | rfl | rfl | rfl | rfl | rfl <;> simp <;> (repeat' split) <;> omega
theorem u9q_sarI (w : Int64) {k : Nat} (h : k < 8) : (w >>> (((8 : Int32) * u9qi k).toInt64 &&& 63) = 0) = (u9un w < 256 ^ k) := by
  rcases u9q8 h with rfl | rfl | rfl | rfl | rfl | rfl | rfl | rfl
  · exact u9un_sar0 (s := 0) (by decide) w
  · exact u9un_sar0 (s := 8) (by decide) w
  · exact u9un_sar0 (s := 16) (by decide) w
  · exact u9un_sar0 (s := 24) (by decide) w
  · exact u9un_sar0 (s := 32) (by decide) w
  · exact u9un_sar0 (s := 40) (by decide) w
  · exact u9un_sar0 (s := 48) (by decide) w
  · exact u9un_sar0 (s := 56) (by decide) w
theorem u9q_sarB (w : Int64) {k : Nat} (h : k < 8) : (w >>> (((8 : Int32) * u9qi k).toInt64 &&& 63)) &&& (255 : Int64) = u9ri (u9qb (u9un w) k) := by
  rcases u9q8 h with rfl | rfl | rfl | rfl | rfl | rfl | rfl | rfl
  · exact u9un_sar (s := 0) (by decide) w
  · exact u9un_sar (s := 8) (by decide) w
  · exact u9un_sar (s := 16) (by decide) w
  · exact u9un_sar (s := 24) (by decide) w
  · exact u9un_sar (s := 32) (by decide) w
  · exact u9un_sar (s := 40) (by decide) w
  · exact u9un_sar (s := 48) (by decide) w
  · exact u9un_sar (s := 56) (by decide) w
theorem u9qb_lt (x k : Nat) : u9qb x k < 256 := by unfold u9qb; omega
theorem u9q_lettersOf_k (w : Int64) : ∀ r k, k + r = 8 → k ≤ u9nl (u9un w) → ∀ n, r < n → f_M_lettersOf_2 w n (u9qi k) = some (u9qi (u9nl (u9un w))) := by
  intro r
  induction r with
  | zero =>
    intro k hk hl n hn
    obtain ⟨n, rfl⟩ : ∃ m, n = m + 1 := ⟨n - 1, by omega⟩
    have := u9nl_le (u9un w)
    obtain rfl : k = 8 := by omega
    have : u9nl (u9un w) = 8 := by omega
    simp only [f_M_lettersOf_2, f_M_lettersOf_2b, this]
    simp [u9qi]
  | succ r ih =>
    intro k hk hl n hn
    obtain ⟨n, rfl⟩ : ∃ m, n = m + 1 := ⟨n - 1, by omega⟩
    simp only [f_M_lettersOf_2, f_M_lettersOf_2b]
    rw [if_neg (by rw [u9qi_lit, u9qi_le (by omega) (by omega)]; show ¬ (8 ≤ k); omega)]
    simp only [u9q_sarI w (show k < 8 by omega), ← u9nl_up (x := u9un w) (show k < 8 by omega)]
    by_cases h : u9nl (u9un w) ≤ k
    · rw [if_pos h, show u9nl (u9un w) = k by omega]
    · rw [if_neg h, u9qi_lit, u9qi_add]
      exact ih (k + 1) (by omega) (by omega) n (by omega)
theorem u9q_lettersOf (w : Int64) : f_M_lettersOf w = some (u9qi (u9nl (u9un w))) := by
  unfold f_M_lettersOf
  rw [u9qi_lit, u9q_lettersOf_k w 8 0 (by omega) (by omega) FU (by decide)]; first | done | rfl
def u9okB (x : Nat) : Bool := decide (∀ i, i < u9nl x → 97 ≤ u9qb x i ∧ u9qb x i ≤ 106)
def u9la (w : Int64) (k : Nat) : Nat := if k < u9nl (u9un w) then u9qb (u9un w) (u9nl (u9un w) - 1 - k) else 0
theorem u9q_at (w : Int64) {k : Nat} (hk : k < 8) : f_M_at w (u9qi k) = some (u9qi (u9la w k)) := by
  have := u9nl_le (u9un w)
  unfold f_M_at u9la
  rw [u9q_lettersOf]
  simp only [Option.bind_some, u9qi_lit]
  by_cases h : k < u9nl (u9un w)
  · rw [if_neg (by rw [u9qi_le (by omega) (by omega)]; omega), if_pos h]
    have e : u9qi (u9nl (u9un w)) - u9qi (OfNat.ofNat 1) - u9qi k = u9qi (u9nl (u9un w) - 1 - k) := by
      rw [u9qi_sub (by show 1 ≤ _; omega), u9qi_sub (by show k ≤ u9nl (u9un w) - 1; omega)]
    rw [e]
    have e2 := u9q_sarB w (k := u9nl (u9un w) - 1 - k) (by omega)
    simp only [u9qi_lit] at e2
    rw [e2]
    congr 1
    have := u9qb_lt (u9un w) (u9nl (u9un w) - 1 - k)
    generalize u9qb (u9un w) (u9nl (u9un w) - 1 - k) = b at *
    apply Int32.toBitVec_inj.1; apply BitVec.eq_of_toNat_eq
    simp [u9qi, u9ri, BitVec.signExtend_eq_setWidth_of_le]
  · rw [if_pos (by rw [u9qi_le (by omega) (by omega)]; omega), if_neg h]
