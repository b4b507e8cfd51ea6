def u9Wd (cnt : Nat → Nat) : Nat → Nat → Nat
  | 0, _ => 1
  | r + 1, k => cnt k * u9Wd cnt r (k + 1)
def u9nu (cnt c : Nat → Nat) : Nat → Nat → Nat
  | 0, _ => 0
  | r + 1, k => c k * u9Wd cnt r (k + 1) + u9nu cnt c r (k + 1)
def u9tcs (al : Nat → Nat → Int) (sg : Nat → Nat → Nat → Int) (c : Nat → Nat) : Nat → Nat → Int
  | 0, k => al k (c k)
  | r + 1, k => al k (c k) + u9tcs al sg c r (k + 1) - sg k (c k) (c (k + 1))
def u9nuF (al : Nat → Nat → Int) (sg : Nat → Nat → Nat → Int) (cnt : Nat → Nat) : Nat → Nat → Nat → Nat
  | 0, _, i => i
  | r + 1, k, i => i * u9Wd cnt (r + 1) (k + 1) + u9nuF al sg cnt r (k + 1) (u9Fc al sg cnt r k i)
theorem u9Wd_pos {cnt : Nat → Nat} (hcn : ∀ k, 1 ≤ cnt k ∧ cnt k ≤ 24) : ∀ r k, 1 ≤ u9Wd cnt r k := by
  intro r
  induction r with
  | zero => intro k; simp [u9Wd]
  | succ r ih =>
    intro k
    simp only [u9Wd]
    have h1 := hcn k
    have h2 := ih (k + 1)
    have := Nat.mul_le_mul h1.1 h2
    omega
theorem u9Wd_le {cnt : Nat → Nat} (hcn : ∀ k, 1 ≤ cnt k ∧ cnt k ≤ 24) : ∀ r k, u9Wd cnt r k ≤ 24 ^ r := by
  intro r
  induction r with
  | zero => intro k; simp [u9Wd]
  | succ r ih =>
    intro k
    simp only [u9Wd]
    have h1 := hcn k
    have h2 := ih (k + 1)
    have := Nat.mul_le_mul h1.2 h2
    rw [Nat.pow_succ, Nat.mul_comm (24 ^ r)]
    exact this
theorem u9nuF_lt {al sg} {cnt : Nat → Nat} (hcn : ∀ k, 1 ≤ cnt k ∧ cnt k ≤ 24) : ∀ r k i, u9nuF al sg cnt r k i < (i + 1) * u9Wd cnt r (k + 1) := by
  intro r
  induction r with
  | zero => intro k i; simp [u9nuF, u9Wd]
  | succ r ih =>
    intro k i
    simp only [u9nuF]
    have h1 := ih (k + 1) (u9Fc al sg cnt r k i)
    have hF : u9Fc al sg cnt r k i + 1 ≤ cnt (k + 1) := by
      have := u9am_le (fun j => al k i + u9Cc al sg cnt r (k + 1) j - sg k i j) (cnt (k + 1) - 1)
      have := hcn (k + 1)
      unfold u9Fc; omega
    have h2 : (u9Fc al sg cnt r k i + 1) * u9Wd cnt r (k + 1 + 1) ≤ cnt (k + 1) * u9Wd cnt r (k + 1 + 1) := Nat.mul_le_mul_right _ hF
    have h3 : u9Wd cnt (r + 1) (k + 1) = cnt (k + 1) * u9Wd cnt r (k + 1 + 1) := rfl
    rw [Nat.add_mul, Nat.one_mul]
    omega
theorem u9cl_A {al : Nat → Nat → Int} {sg : Nat → Nat → Nat → Int} {cnt : Nat → Nat} (hcn : ∀ k, 1 ≤ cnt k ∧ cnt k ≤ 24) {c : Nat → Nat} (hv : ∀ k, c k < cnt k) : ∀ r k, u9Cc al sg cnt r k (c k) ≤ u9tcs al sg c r k ∧ (u9tcs al sg c r k = u9Cc al sg cnt r k (c k) → u9nuF al sg cnt r k (c k) ≤ u9nu cnt c (r + 1) k) := by
  intro r
  induction r with
  | zero =>
    intro k
    refine ⟨by simp only [u9Cc, u9tcs]; exact Int.le_refl _, fun _ => ?_⟩
    simp [u9nuF, u9nu, u9Wd]
  | succ r ih =>
    intro k
    obtain ⟨h1, h2⟩ := ih (k + 1)
    have hc1 := hv (k + 1)
    have hmin : u9Cc al sg cnt (r + 1) k (c k) ≤ al k (c k) + u9Cc al sg cnt r (k + 1) (c (k + 1)) - sg k (c k) (c (k + 1)) := u9am_min (fun j => al k (c k) + u9Cc al sg cnt r (k + 1) j - sg k (c k) j) (cnt (k + 1) - 1) (c (k + 1)) (by omega)
    have hfirst : c (k + 1) < u9Fc al sg cnt r k (c k) → u9Cc al sg cnt (r + 1) k (c k) < al k (c k) + u9Cc al sg cnt r (k + 1) (c (k + 1)) - sg k (c k) (c (k + 1)) := u9am_first (fun j => al k (c k) + u9Cc al sg cnt r (k + 1) j - sg k (c k) j) (cnt (k + 1) - 1) (c (k + 1))
    simp only [u9tcs]
    refine ⟨by omega, fun he => ?_⟩
    have e1 : u9tcs al sg c r (k + 1) = u9Cc al sg cnt r (k + 1) (c (k + 1)) := by omega
    have hle : u9Fc al sg cnt r k (c k) ≤ c (k + 1) := by
      apply Nat.le_of_not_lt
      intro hlt
      have := hfirst hlt
      omega
    have hn := h2 e1
    show c k * u9Wd cnt (r + 1) (k + 1) + u9nuF al sg cnt r (k + 1) (u9Fc al sg cnt r k (c k)) ≤ c k * u9Wd cnt (r + 1) (k + 1) + u9nu cnt c (r + 1) (k + 1)
    apply Nat.add_le_add_left
    by_cases heq : u9Fc al sg cnt r k (c k) = c (k + 1)
    · rw [heq]; exact hn
    · have h3 := u9nuF_lt (al := al) (sg := sg) hcn r (k + 1) (u9Fc al sg cnt r k (c k))
      have h4 : (u9Fc al sg cnt r k (c k) + 1) * u9Wd cnt r (k + 1 + 1) ≤ c (k + 1) * u9Wd cnt r (k + 1 + 1) := Nat.mul_le_mul_right _ (by omega)
      have h5 : u9nu cnt c (r + 1) (k + 1) = c (k + 1) * u9Wd cnt r (k + 1 + 1) + u9nu cnt c r (k + 1 + 1) := rfl
      omega
theorem u9cl_P {al : Nat → Nat → Int} {sg : Nat → Nat → Nat → Int} {cnt : Nat → Nat} {m : Nat} : ∀ r k, k + r + 1 = m → u9nu cnt (u9Pp al sg cnt m) (r + 1) k = u9nuF al sg cnt r k (u9Pp al sg cnt m k) ∧ u9tcs al sg (u9Pp al sg cnt m) r k = u9Cc al sg cnt r k (u9Pp al sg cnt m k) := by
  intro r
  induction r with
  | zero => intro k hk; simp [u9nu, u9nuF, u9Wd, u9tcs, u9Cc]
  | succ r ih =>
    intro k hk
    obtain ⟨h1, h2⟩ := ih (k + 1) (by omega)
    have hP : u9Pp al sg cnt m (k + 1) = u9Fc al sg cnt r k (u9Pp al sg cnt m k) := by
      simp only [u9Pp]; rw [show m - 2 - k = r by omega]
    rw [hP] at h1 h2
    constructor
    · show u9Pp al sg cnt m k * u9Wd cnt (r + 1) (k + 1) + u9nu cnt (u9Pp al sg cnt m) (r + 1) (k + 1) = _
      rw [h1]; rfl
    · simp only [u9tcs]; rw [h2, hP]; rfl
theorem u9cl_best {al : Nat → Nat → Int} {sg : Nat → Nat → Nat → Int} {cnt : Nat → Nat} (hcn : ∀ k, 1 ≤ cnt k ∧ cnt k ≤ 24) {m : Nat} (hm : 1 ≤ m) {c : Nat → Nat} (hv : ∀ k, c k < cnt k) : u9Cc al sg cnt (m - 1) 0 (u9Pp al sg cnt m 0) ≤ u9tcs al sg c (m - 1) 0 ∧ (u9tcs al sg c (m - 1) 0 = u9Cc al sg cnt (m - 1) 0 (u9Pp al sg cnt m 0) → u9nu cnt (u9Pp al sg cnt m) m 0 ≤ u9nu cnt c m 0) := by
  obtain ⟨h1, h2⟩ := u9cl_A (al := al) (sg := sg) hcn hv (m - 1) 0
  have hc0 := hv 0
  have hmin := u9am_min (u9Cc al sg cnt (m - 1) 0) (cnt 0 - 1) (c 0) (by omega)
  have hfirst := u9am_first (u9Cc al sg cnt (m - 1) 0) (cnt 0 - 1) (c 0)
  have hPdef : u9Pp al sg cnt m 0 = u9am (u9Cc al sg cnt (m - 1) 0) (cnt 0 - 1) := rfl
  rw [← hPdef] at hmin hfirst
  have hP := (u9cl_P (al := al) (sg := sg) (cnt := cnt) (m := m) (m - 1) 0 (by omega)).1
  rw [show m - 1 + 1 = m by omega] at hP h2
  refine ⟨by omega, fun he => ?_⟩
  have e1 : u9tcs al sg c (m - 1) 0 = u9Cc al sg cnt (m - 1) 0 (c 0) := by omega
  have hle : u9Pp al sg cnt m 0 ≤ c 0 := by
    apply Nat.le_of_not_lt
    intro hlt
    have := hfirst hlt
    omega
  have hn := h2 e1
  rw [hP]
  by_cases heq : u9Pp al sg cnt m 0 = c 0
  · rw [heq]; exact hn
  · have h3 := u9nuF_lt (al := al) (sg := sg) hcn (m - 1) 0 (u9Pp al sg cnt m 0)
    have h4 : (u9Pp al sg cnt m 0 + 1) * u9Wd cnt (m - 1) (0 + 1) ≤ c 0 * u9Wd cnt (m - 1) (0 + 1) := Nat.mul_le_mul_right _ (by omega)
    obtain ⟨m', rfl⟩ : ∃ m', m = m' + 1 := ⟨m - 1, by omega⟩
    have h5 : u9nu cnt c (m' + 1) 0 = c 0 * u9Wd cnt m' (0 + 1) + u9nu cnt c m' (0 + 1) := rfl
    simp only [Nat.add_sub_cancel] at *
    omega
theorem u9nu_lt {cnt c : Nat → Nat} (hv : ∀ k, c k < cnt k) : ∀ r k, u9nu cnt c r k < u9Wd cnt r k := by
  intro r
  induction r with
  | zero => intro k; simp [u9nu, u9Wd]
  | succ r ih =>
    intro k
    simp only [u9nu, u9Wd]
    have h1 := ih (k + 1)
    have h2 : (c k + 1) * u9Wd cnt r (k + 1) ≤ cnt k * u9Wd cnt r (k + 1) := Nat.mul_le_mul_right _ (hv k)
    rw [Nat.add_mul, Nat.one_mul] at h2
    omega
theorem u9nu_inj {cnt c c' : Nat → Nat} (hv : ∀ k, c k < cnt k) (hv' : ∀ k, c' k < cnt k) : ∀ r k, u9nu cnt c r k = u9nu cnt c' r k → ∀ j, k ≤ j → j < k + r → c j = c' j := by
  intro r
  induction r with
  | zero => intro k _ j h1 h2; omega
  | succ r ih =>
    intro k he j h1 h2
    simp only [u9nu] at he
    have l1 := u9nu_lt hv r (k + 1)
    have l2 := u9nu_lt hv' r (k + 1)
    have hkk : c k = c' k := by
      rcases Nat.lt_trichotomy (c k) (c' k) with hh | hh | hh
      · have := Nat.mul_le_mul_right (u9Wd cnt r (k + 1)) (show c k + 1 ≤ c' k from hh)
        rw [Nat.add_mul, Nat.one_mul] at this; omega
      · exact hh
      · have := Nat.mul_le_mul_right (u9Wd cnt r (k + 1)) (show c' k + 1 ≤ c k from hh)
        rw [Nat.add_mul, Nat.one_mul] at this; omega
    by_cases hj : j = k
    · subst hj; exact hkk
    · rw [hkk] at he
      exact ih (k + 1) (by omega) j (by omega) (by omega)
theorem u9nu_max {cnt c : Nat → Nat} (hcn : ∀ k, 1 ≤ cnt k ∧ cnt k ≤ 24) : ∀ r k, (∀ j, k ≤ j → j < k + r → c j + 1 = cnt j) → u9nu cnt c r k + 1 = u9Wd cnt r k := by
  intro r
  induction r with
  | zero => intro k _; simp [u9nu, u9Wd]
  | succ r ih =>
    intro k h
    simp only [u9nu, u9Wd]
    have h1 := ih (k + 1) (fun j a b => h j (by omega) (by omega))
    have h2 := h k (by omega) (by omega)
    rw [← h2, Nat.add_mul, Nat.one_mul]; omega
theorem u9nu_zero {cnt c : Nat → Nat} : ∀ r k, (∀ j, k ≤ j → j < k + r → c j = 0) → u9nu cnt c r k = 0 := by
  intro r
  induction r with
  | zero => intro k _; rfl
  | succ r ih =>
    intro k h
    simp only [u9nu]
    rw [h k (by omega) (by omega), ih (k + 1) (fun j a b => h j (by omega) (by omega))]; omega
theorem u9nu_inc {cnt c c' : Nat → Nat} (hcn : ∀ k, 1 ≤ cnt k ∧ cnt k ≤ 24) {m k : Nat} (hk : k < m) (h1 : ∀ j, j < k → c' j = c j) (h2 : c' k = c k + 1) (h3 : ∀ j, k < j → j < m → c' j = 0) (h4 : ∀ j, k < j → j < m → c j + 1 = cnt j) : ∀ r t, t + r = m → t ≤ k → u9nu cnt c' r t = u9nu cnt c r t + 1 := by
  intro r
  induction r with
  | zero => intro t ht htk; omega
  | succ r ih =>
    intro t ht htk
    simp only [u9nu]
    by_cases htk' : t = k
    · subst htk'
      have a := u9nu_max (c := c) hcn r (t + 1) (fun j x y => h4 j (by omega) (by omega))
      have b := u9nu_zero (cnt := cnt) (c := c') r (t + 1) (fun j x y => h3 j (by omega) (by omega))
      rw [h2, b, Nat.add_mul, Nat.one_mul]; omega
    · rw [h1 t (by omega), ih (t + 1) (by omega) (by omega)]; omega
def u9ts (al : Nat → Nat → Int) (sg : Nat → Nat → Nat → Int) (c : Nat → Nat) : Nat → Int
  | 0 => 0
  | k + 1 => u9ts al sg c k + al k (c k) - (if k = 0 then 0 else sg (k - 1) (c (k - 1)) (c k))
theorem u9ts_tcs {al : Nat → Nat → Int} {sg : Nat → Nat → Nat → Int} {c : Nat → Nat} : ∀ r k, u9ts al sg c (k + r + 1) = u9ts al sg c k + u9tcs al sg c r k - (if k = 0 then 0 else sg (k - 1) (c (k - 1)) (c k)) := by
  intro r
  induction r with
  | zero => intro k; simp only [u9ts, u9tcs, Nat.add_zero]
  | succ r ih =>
    intro k
    have h := ih (k + 1)
    rw [show k + (r + 1) + 1 = k + 1 + r + 1 by omega, h]
    simp only [u9ts, u9tcs, Nat.add_sub_cancel]
    rw [if_neg (show ¬ (k + 1 = 0) by omega)]
    split <;> omega
theorem u9ts_all {al : Nat → Nat → Int} {sg : Nat → Nat → Nat → Int} {c : Nat → Nat} {m : Nat} (hm : 1 ≤ m) : u9ts al sg c m = u9tcs al sg c (m - 1) 0 := by
  have := u9ts_tcs (al := al) (sg := sg) (c := c) (m - 1) 0
  rw [show 0 + (m - 1) + 1 = m by omega] at this
  rw [this]; simp [u9ts]
theorem u9ts_bd {al : Nat → Nat → Int} {sg : Nat → Nat → Nat → Int} (ha : ∀ k i, 0 ≤ al k i ∧ al k i ≤ 20000) (hs : ∀ k i j, 0 ≤ sg k i j ∧ sg k i j ≤ 2000) (c : Nat → Nat) : ∀ k : Nat, -(2000 * (k : Int)) ≤ u9ts al sg c k ∧ u9ts al sg c k ≤ 20000 * (k : Int) := by
  intro k
  induction k with
  | zero => simp [u9ts]
  | succ k ih =>
    simp only [u9ts]
    have h1 := ha k (c k)
    have h2 := hs (k - 1) (c (k - 1)) (c k)
    split <;> omega
