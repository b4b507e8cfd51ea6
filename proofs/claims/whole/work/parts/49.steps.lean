def u9IvD (xz : Int32) (xt : Nat → Int64) (xc : Nat → Int32) (yz : Int32) (yd : Nat → Int64) (yw : Nat → Int32) : Prop := ∃ n, xz = u9qi n ∧ yz = u9qi n ∧ u9DR n xt xc yd yw
def u9IvS (q : Nat) (xm : Int32) (n0 r0 s0 a0 z0 : Int32) (t0 : Nat → Int64) (c0 : Nat → Int32) (n1 r1 s1 a1 z1 : Int32) (t1 : Nat → Int64) (c1 : Nat → Int32) (n2 r2 s2 a2 z2 : Int32) (t2 : Nat → Int64) (c2 : Nat → Int32) (yt ym : Int32) (yn yz yr : Nat → Int32) (yw : Nat → Int64) (yc ys ya : Nat → Int32) : Prop :=
  ∃ made th, xm = u9qi made ∧ ym = u9qi made ∧ yt = u9qi th ∧ made ≤ q ∧ u9SHR made th (u9tri n0 n1 n2) (u9tri r0 r1 r2) (u9tri s0 s1 s2) (u9tri a0 a1 a2) (u9tri z0 z1 z2) (u9tri t0 t1 t2) (u9tri c0 c1 c2) yn yz yr yw yc ys ya
def u9IvG (xz : Int32) (xt : Nat → Int64) (yz : Int32) (yg : Nat → Int64) : Prop := ∃ n, xz = u9qi n ∧ yz = u9qi n ∧ u9GR n xt yg
def u9IvP (q : Nat) (xz : Int32) (xf xs : Nat → Int64) (xt : Nat → Int32) (yz : Int32) (yf ys : Nat → Int64) (yl : Nat → Int32) : Prop := ∃ n, xz = u9qi n ∧ yz = u9qi n ∧ u9PR n xf xs xt yf ys yl q
def u9IvH (xz : Int32) (xt : Nat → Int64) (yz : Int32) (yt : Nat → Int64) : Prop := ∃ n, xz = u9qi n ∧ yz = u9qi n ∧ u9PH n xt yt
theorem u9IvS_mono {q q' : Nat} (hq : q ≤ q') {xm n0 r0 s0 a0 z0 t0 c0 n1 r1 s1 a1 z1 t1 c1 n2 r2 s2 a2 z2 t2 c2 yt ym yn yz yr yw yc ys ya} (h : u9IvS q xm n0 r0 s0 a0 z0 t0 c0 n1 r1 s1 a1 z1 t1 c1 n2 r2 s2 a2 z2 t2 c2 yt ym yn yz yr yw yc ys ya) : u9IvS q' xm n0 r0 s0 a0 z0 t0 c0 n1 r1 s1 a1 z1 t1 c1 n2 r2 s2 a2 z2 t2 c2 yt ym yn yz yr yw yc ys ya := by
  obtain ⟨made, th, h1, h2, h3, h4, h5⟩ := h
  exact ⟨made, th, h1, h2, h3, by omega, h5⟩
theorem u9IvP_mono {q q' : Nat} (hq : q ≤ q') {xz xf xs xt yz yf ys yl} (h : u9IvP q xz xf xs xt yz yf ys yl) : u9IvP q' xz xf xs xt yz yf ys yl := by
  obtain ⟨n, h1, h2, h3⟩ := h
  exact ⟨n, h1, h2, u9PR_mono h3 hq⟩
theorem u9n20 : ¬ ((2 : Int32) = 0) := by decide
theorem u9k40 : ¬ (4 = 0) := by omega
theorem u9k13 : ¬ (1 = 3) := by omega
theorem u9vu (f : Nat → Int64) (v : Int64) : vp_updL f (0 : Int32).toNatClampNeg v (0 : Int32).toNatClampNeg = v := by simp [vp_updL]
theorem u9st0 {xz : Int32} {xt : Nat → Int64} {xc : Nat → Int32} {yz : Int32} {yd : Nat → Int64} {yw : Nat → Int32} (h : u9IvD xz xt xc yz yd yw) (t : Int32) (ou : Nat → Int64) {L : Nat} {xs : Nat → Int32} {i : Int32} (g1 : okI (i + (1 : Int32)) L = true) (g2 : okI (i + (2 : Int32)) L = true) (g3 : okI (i + (3 : Int32)) L = true) :
    ∃ o, f_L_case0 xz xt xc t yz yd yw ou L xs i = some o ∧ u9IvD o.1 o.2.1 o.2.2.1 o.2.2.2.2.1 o.2.2.2.2.2.1 o.2.2.2.2.2.2.1 := by
  obtain ⟨n, rfl, rfl, h⟩ := h
  obtain ⟨k, ans, n', tx', cs', dr', wt', t', e1, e2, h', hk⟩ := u9qw_word h ((((xs (i + (1 : Int32)).toNatClampNeg).toInt64) <<< ((32 : Int32).toInt64 &&& 63)) ||| (((xs (i + (2 : Int32)).toNatClampNeg).toInt64) &&& (4294967295 : Int64))) (xs (i + (3 : Int32)).toNatClampNeg) t
  unfold f_L_case0 f_L_word f_M_thrown
  simp only [g1, g2, g3, if_true, e1, e2, Option.bind_some]
  rcases hk with ⟨rfl, rfl⟩ | ⟨rfl, rfl⟩ | ⟨rfl, rfl⟩
  · simp only [Option.bind_some, if_true, u9vu]
    exact ⟨_, rfl, n', rfl, rfl, h'⟩
  · simp only [Option.bind_some, u9d01, if_false, if_true, u9n10]
    exact ⟨_, rfl, n', rfl, rfl, h'⟩
  · simp only [Option.bind_some, u9d02, u9d12, if_false, if_true, u9n20]
    exact ⟨_, rfl, n', rfl, rfl, h'⟩
theorem u9st1 {xz : Int32} {xt : Nat → Int64} {xc : Nat → Int32} {yz : Int32} {yd : Nat → Int64} {yw : Nat → Int32} (h : u9IvD xz xt xc yz yd yw) (t : Int32) {L : Nat} {xs : Nat → Int32} {i : Int32} (g1 : okI (i + (1 : Int32)) L = true) (g2 : okI (i + (2 : Int32)) L = true) :
    ∃ o, f_L_case1 xz xt xc t yz yd yw L xs i = some o ∧ u9IvD o.1 o.2.1 o.2.2.1 o.2.2.2.2.1 o.2.2.2.2.2.1 o.2.2.2.2.2.2 := by
  obtain ⟨n, rfl, rfl, h⟩ := h
  obtain ⟨ans, n', tx', cs', dr', wt', e1, e2, h'⟩ := u9qw_drop h ((((xs (i + (1 : Int32)).toNatClampNeg).toInt64) <<< ((32 : Int32).toInt64 &&& 63)) ||| (((xs (i + (2 : Int32)).toNatClampNeg).toInt64) &&& (4294967295 : Int64))) t
  unfold f_L_case1
  simp only [g1, g2, if_true, e1, e2, Option.bind_some]
  exact ⟨_, rfl, n', rfl, rfl, h'⟩
theorem u9st2 {q : Nat} (hq : q < 90000) {xm n0 r0 s0 a0 z0 : Int32} {t0 : Nat → Int64} {c0 : Nat → Int32} {n1 r1 s1 a1 z1 : Int32} {t1 : Nat → Int64} {c1 : Nat → Int32} {n2 r2 s2 a2 z2 : Int32} {t2 : Nat → Int64} {c2 : Nat → Int32} {yt ym : Int32} {yn yz yr : Nat → Int32} {yw : Nat → Int64} {yc ys ya : Nat → Int32} (h : u9IvS q xm n0 r0 s0 a0 z0 t0 c0 n1 r1 s1 a1 z1 t1 c1 n2 r2 s2 a2 z2 t2 c2 yt ym yn yz yr yw yc ys ya) {xz : Int32} {xt : Nat → Int64} {xc : Nat → Int32} {dz : Int32} {yd : Nat → Int64} {ye : Nat → Int32} (hD : u9IvD xz xt xc dz yd ye) (as aa : Int32) (ast act ale alo : Nat → Int32) (t : Int32) (ou : Nat → Int64) {L : Nat} {xs : Nat → Int32} {i : Int32} :
    ∃ o, f_L_case2 xm xz xt xc n0 r0 s0 a0 z0 t0 c0 n1 r1 s1 a1 z1 t1 c1 n2 r2 s2 a2 z2 t2 c2 as aa ast act ale alo t dz yt ym yd ye yn yz yr yw yc ys ya ou L xs i = some o ∧ u9IvS (q + 1) o.1 o.2.1 o.2.2.1 o.2.2.2.1 o.2.2.2.2.1 o.2.2.2.2.2.1 o.2.2.2.2.2.2.1 o.2.2.2.2.2.2.2.1 o.2.2.2.2.2.2.2.2.1 o.2.2.2.2.2.2.2.2.2.1 o.2.2.2.2.2.2.2.2.2.2.1 o.2.2.2.2.2.2.2.2.2.2.2.1 o.2.2.2.2.2.2.2.2.2.2.2.2.1 o.2.2.2.2.2.2.2.2.2.2.2.2.2.1 o.2.2.2.2.2.2.2.2.2.2.2.2.2.2.1 o.2.2.2.2.2.2.2.2.2.2.2.2.2.2.2.1 o.2.2.2.2.2.2.2.2.2.2.2.2.2.2.2.2.1 o.2.2.2.2.2.2.2.2.2.2.2.2.2.2.2.2.2.1 o.2.2.2.2.2.2.2.2.2.2.2.2.2.2.2.2.2.2.1 o.2.2.2.2.2.2.2.2.2.2.2.2.2.2.2.2.2.2.2.1 o.2.2.2.2.2.2.2.2.2.2.2.2.2.2.2.2.2.2.2.2.1 o.2.2.2.2.2.2.2.2.2.2.2.2.2.2.2.2.2.2.2.2.2.1 o.2.2.2.2.2.2.2.2.2.2.2.2.2.2.2.2.2.2.2.2.2.2.2.2.2.2.2.2.2.1 o.2.2.2.2.2.2.2.2.2.2.2.2.2.2.2.2.2.2.2.2.2.2.2.2.2.2.2.2.2.2.1 o.2.2.2.2.2.2.2.2.2.2.2.2.2.2.2.2.2.2.2.2.2.2.2.2.2.2.2.2.2.2.2.1 o.2.2.2.2.2.2.2.2.2.2.2.2.2.2.2.2.2.2.2.2.2.2.2.2.2.2.2.2.2.2.2.2.1 o.2.2.2.2.2.2.2.2.2.2.2.2.2.2.2.2.2.2.2.2.2.2.2.2.2.2.2.2.2.2.2.2.2.1 o.2.2.2.2.2.2.2.2.2.2.2.2.2.2.2.2.2.2.2.2.2.2.2.2.2.2.2.2.2.2.2.2.2.2.1 o.2.2.2.2.2.2.2.2.2.2.2.2.2.2.2.2.2.2.2.2.2.2.2.2.2.2.2.2.2.2.2.2.2.2.2.1 o.2.2.2.2.2.2.2.2.2.2.2.2.2.2.2.2.2.2.2.2.2.2.2.2.2.2.2.2.2.2.2.2.2.2.2.2.1 o.2.2.2.2.2.2.2.2.2.2.2.2.2.2.2.2.2.2.2.2.2.2.2.2.2.2.2.2.2.2.2.2.2.2.2.2.2.1 := by
  obtain ⟨made, th, rfl, rfl, rfl, hm, h⟩ := h
  obtain ⟨n, rfl, rfl, hD⟩ := hD
  obtain ⟨k, ans, made', n0', r0', s0', a0', z0', t0', c0', n1', r1', s1', a1', z1', t1', c1', n2', r2', s2', a2', z2', t2', c2', as', aa', ast', act', ale', alo', t', th', nb', sz', rd', wd', mc', st', ar', e1, e2, hm', h', hk⟩ := u9qw_build h (by omega) hD as aa ast act ale alo t
  replace e1 : f_S_build (u9qi made) (u9qi n) xt xc n0 r0 s0 a0 z0 t0 c0 n1 r1 s1 a1 z1 t1 c1 n2 r2 s2 a2 z2 t2 c2 as aa ast act ale alo = some (k, ans, u9qi made', n0', r0', s0', a0', z0', t0', c0', n1', r1', s1', a1', z1', t1', c1', n2', r2', s2', a2', z2', t2', c2', as', aa', ast', act', ale', alo') := e1
  unfold f_L_case2 f_L_build f_M_thrown
  simp only [e1, e2, Option.bind_some]
  rcases hk with ⟨rfl, rfl⟩ | ⟨rfl, rfl⟩
  · simp only [Option.bind_some, if_true, u9vu]
    exact ⟨_, rfl, made', th', rfl, rfl, rfl, by omega, h'⟩
  · simp only [Option.bind_some, u9d02, if_false, if_true, u9n10]
    exact ⟨_, rfl, made', th', rfl, rfl, rfl, by omega, h'⟩
theorem u9st3 {q : Nat} (hq : q < 90000) {xm n0 r0 s0 a0 z0 : Int32} {t0 : Nat → Int64} {c0 : Nat → Int32} {n1 r1 s1 a1 z1 : Int32} {t1 : Nat → Int64} {c1 : Nat → Int32} {n2 r2 s2 a2 z2 : Int32} {t2 : Nat → Int64} {c2 : Nat → Int32} {yt ym : Int32} {yn yz yr : Nat → Int32} {yw : Nat → Int64} {yc ys ya : Nat → Int32} (h : u9IvS q xm n0 r0 s0 a0 z0 t0 c0 n1 r1 s1 a1 z1 t1 c1 n2 r2 s2 a2 z2 t2 c2 yt ym yn yz yr yw yc ys ya) (t : Int32) (ou : Nat → Int64) {L : Nat} {xs : Nat → Int32} {i : Int32} :
    ∃ o, f_L_case3 xm n0 r0 n1 r1 n2 r2 t yt yn yr ou L xs i = some o ∧ u9IvS (q + 1) xm n0 o.1 s0 a0 z0 t0 c0 n1 o.2.1 s1 a1 z1 t1 c1 n2 o.2.2.1 s2 a2 z2 t2 c2 yt ym yn yz o.2.2.2.2.1 yw yc ys ya := by
  obtain ⟨made, th, rfl, rfl, rfl, hm, h⟩ := h
  obtain ⟨k, ans, r0', r1', r2', t', rd', e1, e2, h', hk⟩ := u9qw_hold h (by omega) t
  replace e1 : f_S_hold (u9qi made) n0 r0 n1 r1 n2 r2 = some (k, ans, r0', r1', r2') := e1
  unfold f_L_case3 f_L_hold f_M_thrown
  simp only [e1, e2, Option.bind_some]
  rcases hk with ⟨rfl, rfl⟩ | ⟨rfl, rfl⟩
  · simp only [Option.bind_some, if_true, u9vu]
    exact ⟨_, rfl, made, th, rfl, rfl, rfl, by omega, h'⟩
  · simp only [Option.bind_some, u9d02, if_false, if_true, u9n10]
    exact ⟨_, rfl, made, th, rfl, rfl, rfl, by omega, h'⟩
theorem u9st4 {q : Nat} (hq : q < 90000) {xm n0 r0 s0 a0 z0 : Int32} {t0 : Nat → Int64} {c0 : Nat → Int32} {n1 r1 s1 a1 z1 : Int32} {t1 : Nat → Int64} {c1 : Nat → Int32} {n2 r2 s2 a2 z2 : Int32} {t2 : Nat → Int64} {c2 : Nat → Int32} {yt ym : Int32} {yn yz yr : Nat → Int32} {yw : Nat → Int64} {yc ys ya : Nat → Int32} (h : u9IvS q xm n0 r0 s0 a0 z0 t0 c0 n1 r1 s1 a1 z1 t1 c1 n2 r2 s2 a2 z2 t2 c2 yt ym yn yz yr yw yc ys ya) (t : Int32) (ou : Nat → Int64) {L : Nat} {xs : Nat → Int32} {i : Int32} (g1 : okI (i + (1 : Int32)) L = true) :
    ∃ o, f_L_case4 xm n0 r0 n1 r1 n2 r2 t yt yn yz yr yw yc ys ya ou L xs i = some o ∧ u9IvS (q + 1) xm o.1 o.2.1 s0 a0 z0 t0 c0 o.2.2.1 o.2.2.2.1 s1 a1 z1 t1 c1 o.2.2.2.2.1 o.2.2.2.2.2.1 s2 a2 z2 t2 c2 o.2.2.2.2.2.2.2.1 ym o.2.2.2.2.2.2.2.2.1 o.2.2.2.2.2.2.2.2.2.1 o.2.2.2.2.2.2.2.2.2.2.1 o.2.2.2.2.2.2.2.2.2.2.2.1 o.2.2.2.2.2.2.2.2.2.2.2.2.1 o.2.2.2.2.2.2.2.2.2.2.2.2.2.1 o.2.2.2.2.2.2.2.2.2.2.2.2.2.2.1 := by
  obtain ⟨made, th, rfl, rfl, rfl, hm, h⟩ := h
  obtain ⟨k, ans, n0', r0', n1', r1', n2', r2', t', th', nb', sz', rd', wd', mc', st', ar', e1, e2, h', hk⟩ := u9qw_release h (by omega) (xs (i + (1 : Int32)).toNatClampNeg) t
  replace e1 : f_S_release (u9qi made) n0 r0 n1 r1 n2 r2 (xs (i + (1 : Int32)).toNatClampNeg) = some (k, ans, n0', r0', n1', r1', n2', r2') := e1
  unfold f_L_case4 f_L_release f_M_thrown
  simp only [g1, if_true, e1, e2, Option.bind_some]
  rcases hk with ⟨rfl, rfl, rfl | rfl⟩ | ⟨rfl, rfl⟩
  · simp only [Option.bind_some, if_true, u9vu]
    exact ⟨_, rfl, made, th', rfl, rfl, rfl, by omega, h'⟩
  · simp only [Option.bind_some, if_true, u9vu, u9n10, if_false]
    exact ⟨_, rfl, made, th', rfl, rfl, rfl, by omega, h'⟩
  · simp only [Option.bind_some, u9d01, if_false, if_true, u9n10]
    exact ⟨_, rfl, made, th', rfl, rfl, rfl, by omega, h'⟩
theorem u9st5 {q : Nat} (hq : q < 90000) {xm n0 r0 s0 a0 z0 : Int32} {t0 : Nat → Int64} {c0 : Nat → Int32} {n1 r1 s1 a1 z1 : Int32} {t1 : Nat → Int64} {c1 : Nat → Int32} {n2 r2 s2 a2 z2 : Int32} {t2 : Nat → Int64} {c2 : Nat → Int32} {yt ym : Int32} {yn yz yr : Nat → Int32} {yw : Nat → Int64} {yc ys ya : Nat → Int32} (h : u9IvS q xm n0 r0 s0 a0 z0 t0 c0 n1 r1 s1 a1 z1 t1 c1 n2 r2 s2 a2 z2 t2 c2 yt ym yn yz yr yw yc ys ya) (bg : Int32) (fr le en lo : Nat → Int32) (ky : Nat → Int64) (t : Int32) (ou : Nat → Int64) {L : Nat} {xs : Nat → Int32} {i : Int32} (g1 : okI (i + (1 : Int32)) L = true) (g2 : okI (i + (2 : Int32)) L = true) :
    ∃ o, f_L_case5 n0 r0 s0 a0 z0 n1 r1 s1 a1 z1 n2 r2 s2 a2 z2 t yt bg yn yz yr yw yc ys ya fr le en lo ky ou L xs i = some o ∧ u9IvS (q + 1) xm n0 r0 s0 a0 z0 t0 c0 n1 r1 s1 a1 z1 t1 c1 n2 r2 s2 a2 z2 t2 c2 yt ym yn yz yr yw yc o.2.2.1 o.2.2.2.1 := by
  obtain ⟨made, th, rfl, rfl, rfl, hm, h⟩ := h
  obtain ⟨k, ans, t', bg', st', ar', fr', le', en', lo', ky', e1, e2, h', hk⟩ := u9qw_look h (by omega) (xs (i + (1 : Int32)).toNatClampNeg) (xs (i + (2 : Int32)).toNatClampNeg) t bg fr le en lo ky
  replace e1 : f_S_look n0 r0 s0 a0 z0 n1 r1 s1 a1 z1 n2 r2 s2 a2 z2 (xs (i + (1 : Int32)).toNatClampNeg) (xs (i + (2 : Int32)).toNatClampNeg) = some (k, ans) := e1
  unfold f_L_case5 f_L_look f_M_thrown
  simp only [g1, g2, if_true, e1, e2, Option.bind_some]
  rcases hk with ⟨rfl, rfl⟩ | ⟨rfl, rfl⟩ | ⟨rfl, rfl⟩
  · simp only [Option.bind_some, if_true, u9vu]
    exact ⟨_, rfl, made, th, rfl, rfl, rfl, by omega, h'⟩
  · simp only [Option.bind_some, u9d30, if_false, if_true, u9n10]
    exact ⟨_, rfl, made, th, rfl, rfl, rfl, by omega, h'⟩
  · simp only [Option.bind_some, u9d01, u9k13, if_false, if_true, u9n20]
    exact ⟨_, rfl, made, th, rfl, rfl, rfl, by omega, h'⟩
theorem u9st6 {q : Nat} (hq : q < 90000) {xm n0 r0 s0 a0 z0 : Int32} {t0 : Nat → Int64} {c0 : Nat → Int32} {n1 r1 s1 a1 z1 : Int32} {t1 : Nat → Int64} {c1 : Nat → Int32} {n2 r2 s2 a2 z2 : Int32} {t2 : Nat → Int64} {c2 : Nat → Int32} {yt ym : Int32} {yn yz yr : Nat → Int32} {yw : Nat → Int64} {yc ys ya : Nat → Int32} (h : u9IvS q xm n0 r0 s0 a0 z0 t0 c0 n1 r1 s1 a1 z1 t1 c1 n2 r2 s2 a2 z2 t2 c2 yt ym yn yz yr yw yc ys ya) (t : Int32) (ou : Nat → Int64) {L : Nat} {xs : Nat → Int32} {i : Int32} (g1 : okI (i + (1 : Int32)) L = true) (g2 : okI (i + (2 : Int32)) L = true) (g3 : okI (i + (3 : Int32)) L = true) :
    ∃ o, f_L_case6 n0 z0 t0 c0 n1 z1 t1 c1 n2 z2 t2 c2 t yt yn yz yw yc ou L xs i = some o := by
  obtain ⟨made, th, rfl, rfl, rfl, hm, h⟩ := h
  obtain ⟨k, ans, t', e1, e2, hk⟩ := u9qw_cost h (by omega) (xs (i + (1 : Int32)).toNatClampNeg) ((((xs (i + (2 : Int32)).toNatClampNeg).toInt64) <<< ((32 : Int32).toInt64 &&& 63)) ||| (((xs (i + (3 : Int32)).toNatClampNeg).toInt64) &&& (4294967295 : Int64))) t
  replace e1 : f_S_cost n0 z0 t0 c0 n1 z1 t1 c1 n2 z2 t2 c2 (xs (i + (1 : Int32)).toNatClampNeg) ((((xs (i + (2 : Int32)).toNatClampNeg).toInt64) <<< ((32 : Int32).toInt64 &&& 63)) ||| (((xs (i + (3 : Int32)).toNatClampNeg).toInt64) &&& (4294967295 : Int64))) = some (k, ans) := e1
  unfold f_L_case6 f_L_cost f_M_thrown
  simp only [g1, g2, g3, if_true, e1, e2, Option.bind_some]
  rcases hk with ⟨rfl, rfl⟩ | ⟨rfl, rfl⟩
  · simp only [Option.bind_some, if_true, u9vu]
    exact ⟨_, rfl⟩
  · simp only [Option.bind_some, u9d30, if_false, if_true, u9n10]
    exact ⟨_, rfl⟩
theorem u9st7 {q : Nat} (hq : q < 90000) {xm n0 r0 s0 a0 z0 : Int32} {t0 : Nat → Int64} {c0 : Nat → Int32} {n1 r1 s1 a1 z1 : Int32} {t1 : Nat → Int64} {c1 : Nat → Int32} {n2 r2 s2 a2 z2 : Int32} {t2 : Nat → Int64} {c2 : Nat → Int32} {yt ym : Int32} {yn yz yr : Nat → Int32} {yw : Nat → Int64} {yc ys ya : Nat → Int32} (h : u9IvS q xm n0 r0 s0 a0 z0 t0 c0 n1 r1 s1 a1 z1 t1 c1 n2 r2 s2 a2 z2 t2 c2 yt ym yn yz yr yw yc ys ya) (gx gm : Int32) (gt : Nat → Int64) (gr' : Nat → Int32) (gy : Int32) (gg : Nat → Int64) (gk' : Nat → Int32) (t : Int32) (ou : Nat → Int64) {L : Nat} {xs : Nat → Int32} {i : Int32} (g1 : okI (i + (1 : Int32)) L = true) (g2 : okI (i + (2 : Int32)) L = true) (g3 : okI (i + (3 : Int32)) L = true) (g4 : okI (i + (4 : Int32)) L = true) :
    ∃ o, f_L_case7 n0 z0 t0 c0 n1 z1 t1 c1 n2 z2 t2 c2 gx gm gt gr' t yt gy yn yz yw yc gg gk' ou L xs i = some o ∧ u9IvG o.1 o.2.2.1 o.2.2.2.2.2.1 o.2.2.2.2.2.2.1 := by
  obtain ⟨made, th, rfl, rfl, rfl, hm, h⟩ := h
  obtain ⟨k, ans, s', mo', tx', rk', t', gv', ky', e1, e2, h', hk⟩ := u9qw_complete h (by omega) gx gm gt gr' gy gg gk' (xs (i + (1 : Int32)).toNatClampNeg) ((((xs (i + (2 : Int32)).toNatClampNeg).toInt64) <<< ((32 : Int32).toInt64 &&& 63)) ||| (((xs (i + (3 : Int32)).toNatClampNeg).toInt64) &&& (4294967295 : Int64))) (xs (i + (4 : Int32)).toNatClampNeg) t
  replace e1 : f_S_complete n0 z0 t0 c0 n1 z1 t1 c1 n2 z2 t2 c2 gx gm gt gr' (xs (i + (1 : Int32)).toNatClampNeg) ((((xs (i + (2 : Int32)).toNatClampNeg).toInt64) <<< ((32 : Int32).toInt64 &&& 63)) ||| (((xs (i + (3 : Int32)).toNatClampNeg).toInt64) &&& (4294967295 : Int64))) (xs (i + (4 : Int32)).toNatClampNeg) = some (k, ans, u9qi s', mo', tx', rk') := e1
  unfold f_L_case7 f_L_complete f_M_thrown
  simp only [g1, g2, g3, g4, if_true, e1, e2, Option.bind_some]
  rcases hk with ⟨rfl, rfl⟩ | ⟨rfl, rfl⟩ | ⟨rfl, rfl⟩
  · simp only [Option.bind_some, if_true, u9vu]
    exact ⟨_, rfl, s', rfl, rfl, h'⟩
  · simp only [Option.bind_some, u9d01, if_false, if_true, u9n10]
    exact ⟨_, rfl, s', rfl, rfl, h'⟩
  · simp only [Option.bind_some, u9d30, u9d31, if_false, if_true, u9n20]
    exact ⟨_, rfl, s', rfl, rfl, h'⟩
theorem u9st8 {q : Nat} (hq : q < 90000) {xm n0 r0 s0 a0 z0 : Int32} {t0 : Nat → Int64} {c0 : Nat → Int32} {n1 r1 s1 a1 z1 : Int32} {t1 : Nat → Int64} {c1 : Nat → Int32} {n2 r2 s2 a2 z2 : Int32} {t2 : Nat → Int64} {c2 : Nat → Int32} {yt ym : Int32} {yn yz yr : Nat → Int32} {yw : Nat → Int64} {yc ys ya : Nat → Int32} (h : u9IvS q xm n0 r0 s0 a0 z0 t0 c0 n1 r1 s1 a1 z1 t1 c1 n2 r2 s2 a2 z2 t2 c2 yt ym yn yz yr yw yc ys ya) {R : Nat → Nat → Int32} (hR : u9Bd R) (gx gm : Int32) (gt : Nat → Int64) (gr' : Nat → Int32) (gy : Int32) (gg : Nat → Int64) (gk' tb : Nat → Int32) (t : Int32) (ou : Nat → Int64) {L : Nat} {xs : Nat → Int32} {i : Int32} (g1 : okI (i + (1 : Int32)) L = true) (g2 : okI (i + (2 : Int32)) L = true) (g3 : okI (i + (3 : Int32)) L = true) (g4 : okI (i + (4 : Int32)) L = true) :
    ∃ o, f_L_case8 n0 z0 t0 c0 n1 z1 t1 c1 n2 z2 t2 c2 R gx gm gt gr' t yt gy yn yz yw yc gg gk' tb ou L xs i = some o ∧ u9IvG o.2.1 o.2.2.2.1 o.2.2.2.2.2.2.1 o.2.2.2.2.2.2.2.1 ∧ u9Bd o.1 := by
  obtain ⟨made, th, rfl, rfl, rfl, hm, h⟩ := h
  obtain ⟨k, ans, R', s', mo', tx', rk', t', gv', ky', tb', e1, e2, h', hR', hk⟩ := u9qw_near h (by omega) hR gx gm gt gr' gy gg gk' tb (xs (i + (1 : Int32)).toNatClampNeg) ((((xs (i + (2 : Int32)).toNatClampNeg).toInt64) <<< ((32 : Int32).toInt64 &&& 63)) ||| (((xs (i + (3 : Int32)).toNatClampNeg).toInt64) &&& (4294967295 : Int64))) (xs (i + (4 : Int32)).toNatClampNeg) t
  replace e1 : f_S_near n0 z0 t0 c0 n1 z1 t1 c1 n2 z2 t2 c2 R gx gm gt gr' (xs (i + (1 : Int32)).toNatClampNeg) ((((xs (i + (2 : Int32)).toNatClampNeg).toInt64) <<< ((32 : Int32).toInt64 &&& 63)) ||| (((xs (i + (3 : Int32)).toNatClampNeg).toInt64) &&& (4294967295 : Int64))) (xs (i + (4 : Int32)).toNatClampNeg) = some (k, ans, R', u9qi s', mo', tx', rk') := e1
  unfold f_L_case8 f_L_near f_M_thrown
  simp only [g1, g2, g3, g4, if_true, e1, e2, Option.bind_some]
  rcases hk with ⟨rfl, rfl⟩ | ⟨rfl, rfl⟩ | ⟨rfl, rfl⟩
  · simp only [Option.bind_some, if_true, u9vu]
    exact ⟨_, rfl, ⟨s', rfl, rfl, h'⟩, hR'⟩
  · simp only [Option.bind_some, u9d01, if_false, if_true, u9n10]
    exact ⟨_, rfl, ⟨s', rfl, rfl, h'⟩, hR'⟩
  · simp only [Option.bind_some, u9d30, u9d31, if_false, if_true, u9n20]
    exact ⟨_, rfl, ⟨s', rfl, rfl, h'⟩, hR'⟩
theorem u9st9 {xz : Int32} {xt : Nat → Int64} {yz : Int32} {yg : Nat → Int64} (h : u9IvG xz xt yz yg) (t : Int32) (ou : Nat → Int64) {L : Nat} {xs : Nat → Int32} {i : Int32} (g1 : okI (i + (1 : Int32)) L = true) :
    ∃ o, f_L_case9 xz xt t yz yg ou L xs i = some o := by
  obtain ⟨n, rfl, rfl, h⟩ := h
  obtain ⟨k, ans, t', e1, e2, hk⟩ := u9qw_given h (xs (i + (1 : Int32)).toNatClampNeg) t
  unfold f_L_case9 f_L_given f_M_thrown
  simp only [g1, if_true, e1, e2, Option.bind_some]
  rcases hk with ⟨rfl, rfl⟩ | ⟨rfl, rfl⟩
  · simp only [Option.bind_some, if_true, u9vu]
    exact ⟨_, rfl⟩
  · simp only [Option.bind_some, u9k40, if_false, if_true, u9n10]
    exact ⟨_, rfl⟩
theorem u9st10 {R : Nat → Nat → Int32} (hR : u9Bd R) (tb : Nat → Int32) (t : Int32) (ou : Nat → Int64) {L : Nat} {xs : Nat → Int32} {i : Int32} (g1 : okI (i + (1 : Int32)) L = true) (g2 : okI (i + (2 : Int32)) L = true) (g3 : okI (i + (3 : Int32)) L = true) (g4 : okI (i + (4 : Int32)) L = true) :
    ∃ o, f_L_case10 R t tb ou L xs i = some o ∧ u9Bd o.1 := by
  obtain ⟨k, ans, R', tb', t', e1, e2, hR', hk⟩ := u9qw_distance hR tb ((((xs (i + (1 : Int32)).toNatClampNeg).toInt64) <<< ((32 : Int32).toInt64 &&& 63)) ||| (((xs (i + (2 : Int32)).toNatClampNeg).toInt64) &&& (4294967295 : Int64))) ((((xs (i + (3 : Int32)).toNatClampNeg).toInt64) <<< ((32 : Int32).toInt64 &&& 63)) ||| (((xs (i + (4 : Int32)).toNatClampNeg).toInt64) &&& (4294967295 : Int64))) t
  unfold f_L_case10 f_L_distance f_M_thrown
  simp only [g1, g2, g3, g4, if_true, e1, e2, Option.bind_some]
  rcases hk with ⟨rfl, rfl⟩ | ⟨rfl, rfl⟩
  · simp only [Option.bind_some, if_true, u9vu]
    exact ⟨_, rfl, hR'⟩
  · simp only [Option.bind_some, u9d01, if_false, if_true, u9n10]
    exact ⟨_, rfl, hR'⟩
theorem u9st11 {q : Nat} (hq : q < 90000) {xz : Int32} {xf xs' : Nat → Int64} {xt : Nat → Int32} {yz : Int32} {yf ys : Nat → Int64} {yl : Nat → Int32} (h : u9IvP q xz xf xs' xt yz yf ys yl) (t : Int32) (ou : Nat → Int64) {L : Nat} {xs : Nat → Int32} {i : Int32} (g1 : okI (i + (1 : Int32)) L = true) (g2 : okI (i + (2 : Int32)) L = true) (g3 : okI (i + (3 : Int32)) L = true) (g4 : okI (i + (4 : Int32)) L = true) :
    ∃ o, f_L_case11 xz xf xs' xt t yz yf ys yl ou L xs i = some o ∧ u9IvP (q + 1) o.1 o.2.1 o.2.2.1 o.2.2.2.1 o.2.2.2.2.2.1 o.2.2.2.2.2.2.1 o.2.2.2.2.2.2.2.1 o.2.2.2.2.2.2.2.2.1 := by
  obtain ⟨n, rfl, rfl, h⟩ := h
  obtain ⟨k, ans, n', fs', sc', tm', ft', sd', le', t', e1, e2, h', hk⟩ := u9qw_learn h (by omega) ((((xs (i + (1 : Int32)).toNatClampNeg).toInt64) <<< ((32 : Int32).toInt64 &&& 63)) ||| (((xs (i + (2 : Int32)).toNatClampNeg).toInt64) &&& (4294967295 : Int64))) ((((xs (i + (3 : Int32)).toNatClampNeg).toInt64) <<< ((32 : Int32).toInt64 &&& 63)) ||| (((xs (i + (4 : Int32)).toNatClampNeg).toInt64) &&& (4294967295 : Int64))) t
  unfold f_L_case11 f_L_learn f_M_thrown
  simp only [g1, g2, g3, g4, if_true, e1, e2, Option.bind_some]
  rcases hk with ⟨rfl, rfl⟩ | ⟨rfl, rfl⟩ | ⟨rfl, rfl⟩
  · simp only [Option.bind_some, if_true, u9vu]
    exact ⟨_, rfl, n', rfl, rfl, h'⟩
  · simp only [Option.bind_some, u9d01, if_false, if_true, u9n10]
    exact ⟨_, rfl, n', rfl, rfl, h'⟩
  · simp only [Option.bind_some, u9d02, u9d12, if_false, if_true, u9n20]
    exact ⟨_, rfl, n', rfl, rfl, h'⟩
theorem u9st12 {xz : Int32} {xt : Nat → Int64} {yz : Int32} {yt : Nat → Int64} (h : u9IvH xz xt yz yt) (t : Int32) (ou : Nat → Int64) {L : Nat} {xs : Nat → Int32} {i : Int32} (g1 : okI (i + (1 : Int32)) L = true) (g2 : okI (i + (2 : Int32)) L = true) :
    ∃ o, f_L_case12 xz xt t yz yt ou L xs i = some o ∧ u9IvH o.1 o.2.1 o.2.2.2.1 o.2.2.2.2.1 := by
  obtain ⟨n, rfl, rfl, h⟩ := h
  obtain ⟨k, ans, n', sd', ph', t', e1, e2, h', hk⟩ := u9qw_say h ((((xs (i + (1 : Int32)).toNatClampNeg).toInt64) <<< ((32 : Int32).toInt64 &&& 63)) ||| (((xs (i + (2 : Int32)).toNatClampNeg).toInt64) &&& (4294967295 : Int64))) t
  unfold f_L_case12 f_L_say f_M_thrown
  simp only [g1, g2, if_true, e1, e2, Option.bind_some]
  rcases hk with ⟨rfl, rfl⟩ | ⟨rfl, rfl⟩ | ⟨rfl, rfl⟩
  · simp only [Option.bind_some, if_true, u9vu]
    exact ⟨_, rfl, n', rfl, rfl, h'⟩
  · simp only [Option.bind_some, u9d01, if_false, if_true, u9n10]
    exact ⟨_, rfl, n', rfl, rfl, h'⟩
  · simp only [Option.bind_some, u9d02, u9d12, if_false, if_true, u9n20]
    exact ⟨_, rfl, n', rfl, rfl, h'⟩
theorem u9st13 {q : Nat} (hq : q < 90000) {xm n0 r0 s0 a0 z0 : Int32} {t0 : Nat → Int64} {c0 : Nat → Int32} {n1 r1 s1 a1 z1 : Int32} {t1 : Nat → Int64} {c1 : Nat → Int32} {n2 r2 s2 a2 z2 : Int32} {t2 : Nat → Int64} {c2 : Nat → Int32} {yt ym : Int32} {yn yz yr : Nat → Int32} {yw : Nat → Int64} {yc ys ya : Nat → Int32} (h : u9IvS q xm n0 r0 s0 a0 z0 t0 c0 n1 r1 s1 a1 z1 t1 c1 n2 r2 s2 a2 z2 t2 c2 yt ym yn yz yr yw yc ys ya) {R : Nat → Nat → Int32} (hR : u9Bd R) {pz : Int32} {pf ps : Nat → Int64} {pt : Nat → Int32} {py : Int32} {qf qs : Nat → Int64} {ql' : Nat → Int32} (hP : u9IvP q pz pf ps pt py qf qs ql') {hz : Int32} {hs : Nat → Int64} {hy : Int32} {hp : Nat → Int64} (hH : u9IvH hz hs hy hp) {cz : Int32} {ch : Nat → Int64} {cy : Int32} {cr : Nat → Int64} (hC : u9IvH cz ch cy cr) (cd : Nat → Nat → Int64) (co fo : Nat → Nat → Int32) (cts tb mn : Nat → Int32) (mcd : Nat → Int64) (mao mch : Nat → Int32) (t : Int32) (ou : Nat → Int64) {L : Nat} {xs : Nat → Int32} {i : Int32} (g1 : okI (i + (1 : Int32)) L = true) :
    ∃ o, f_L_case13 n0 z0 t0 c0 n1 z1 t1 c1 n2 z2 t2 c2 R pz pf ps pt hz cz hs ch cd co fo cts t yt py hy cy yn yz yw yc tb qf qs ql' hp cr mn mcd mao mch ou L xs i = some o ∧ u9Bd o.1 ∧ u9IvH o.2.1 hs o.2.2.2.2.2.2.2.2.2.1 hp ∧ u9IvH o.2.2.1 o.2.2.2.1 o.2.2.2.2.2.2.2.2.2.2.1 o.2.2.2.2.2.2.2.2.2.2.2.2.1 := by
  obtain ⟨made, th, rfl, rfl, rfl, hm, h⟩ := h
  obtain ⟨pn, rfl, rfl, hP⟩ := hP
  obtain ⟨hn, rfl, rfl, hH⟩ := hH
  obtain ⟨cn, rfl, rfl, hC⟩ := hC
  obtain ⟨k, ans, R', cn', ch', cd', co', fo', cts', t', tb', cr', mn', mcd', mao', mch', e1, e2, hR', hC', hk⟩ := u9qw_correct h (by omega) hR hP (by omega) hH hC cd co fo cts tb mn mcd mao mch (xs (i + (1 : Int32)).toNatClampNeg) t
  replace e1 : f_S_correct n0 z0 t0 c0 n1 z1 t1 c1 n2 z2 t2 c2 R (u9qi pn) pf ps pt (u9qi hn) (u9qi cn) hs ch cd co fo cts (xs (i + (1 : Int32)).toNatClampNeg) = some (k, ans, R', 0, u9qi cn', ch', cd', co', fo', cts') := e1
  have h0 : u9PH 0 hs hp := ⟨by omega, fun k hk => absurd hk (by omega)⟩
  unfold f_L_case13 f_L_correct f_M_thrown
  simp only [g1, if_true, e1, e2, Option.bind_some]
  rcases hk with ⟨rfl, rfl⟩ | ⟨rfl, rfl⟩ | ⟨rfl, rfl⟩
  · simp only [Option.bind_some, if_true, u9vu]
    exact ⟨_, rfl, hR', ⟨0, rfl, rfl, h0⟩, ⟨cn', rfl, rfl, hC'⟩⟩
  · simp only [Option.bind_some, u9d30, if_false, if_true, u9n10]
    exact ⟨_, rfl, hR', ⟨0, rfl, rfl, h0⟩, ⟨cn', rfl, rfl, hC'⟩⟩
  · simp only [Option.bind_some, u9d02, show ¬ (2 = 3) by omega, if_false, if_true, u9n20]
    exact ⟨_, rfl, hR', ⟨0, rfl, rfl, h0⟩, ⟨cn', rfl, rfl, hC'⟩⟩
theorem u9st14 {xz : Int32} {xt : Nat → Int64} {yz : Int32} {yg : Nat → Int64} (h : u9IvH xz xt yz yg) (t : Int32) (ou : Nat → Int64) {L : Nat} {xs : Nat → Int32} {i : Int32} (g1 : okI (i + (1 : Int32)) L = true) :
    ∃ o, f_L_case14 xz xt t yz yg ou L xs i = some o := by
  obtain ⟨n, rfl, rfl, h⟩ := h
  obtain ⟨k, ans, t', e1, e2, hk⟩ := u9qw_corrected h (xs (i + (1 : Int32)).toNatClampNeg) t
  unfold f_L_case14 f_L_corrected f_M_thrown
  simp only [g1, if_true, e1, e2, Option.bind_some]
  rcases hk with ⟨rfl, rfl⟩ | ⟨rfl, rfl⟩
  · simp only [Option.bind_some, if_true, u9vu]
    exact ⟨_, rfl⟩
  · simp only [Option.bind_some, u9k40, if_false, if_true, u9n10]
    exact ⟨_, rfl⟩
