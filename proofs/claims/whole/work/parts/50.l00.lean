theorem u9i32_lt' {a b : Int32} (h : a.toInt < b.toInt) : a < b := by rw [Int32.lt_iff_toInt_lt]; exact h
theorem u9lc {L q : Nat} (hL : L ≤ 2560) (hq : q ≤ L / 5) : (Int32.ofNat L - (5 : Int32) < u9qi (5 * q)) = (L / 5 ≤ q) := by
  have e : Int32.ofNat L - (5 : Int32) = u9zi ((L : Int) - 5) := by
    show u9qi L - u9qi 5 = _
    rw [u9zi_q, u9zi_q, u9zi_sub]; rfl
  rw [e, Int32.lt_iff_toInt_lt, u9zi_toInt (by omega) (by omega), u9qi_toInt (by omega)]
  apply propext
  omega
theorem u9and15 (a : Int32) : ∃ k, k < 16 ∧ a &&& (15 : Int32) = u9qi k := by
  refine ⟨a.toBitVec.toNat % 16, by omega, ?_⟩
  apply Int32.toBitVec_inj.1
  apply BitVec.eq_of_toNat_eq
  simp [u9qi]
  rw [show (15 : Nat) = 2 ^ 4 - 1 from rfl, Nat.and_two_pow_sub_one_eq_mod]
  omega
theorem u9gd {L q k : Nat} (hL : L ≤ 2560) (hq : q + 1 ≤ L / 5) (hk : k ≤ 4) : okI (u9qi (5 * q) + u9qi k) L = true := by
  rw [u9qi_add, u9qi_ok _ (by omega)]; omega
theorem u9i5 (q : Nat) : u9qi (5 * q) + (5 : Int32) = u9qi (5 * (q + 1)) := by
  show u9qi (5 * q) + u9qi 5 = _
  rw [u9qi_add]; congr 1

