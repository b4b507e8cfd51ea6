def f_Texts_isBeginning_5b (a0 : Int64) (rec : Int64 → Int32 → Option ((Unit) ⊕ (Unit))) (l2 : Int64) (l4 : Int32) : Option ((Unit) ⊕ (Unit)) :=
  if (8 : Int32) ≤ l4 then some (.inl  ()) else if l2 = (0 : Int64) then some (.inl  ()) else if (l2 &&& (255 : Int64)) < (97 : Int64) then some (.inr <|  ()) else if (l2 &&& (255 : Int64)) ≤ (106 : Int64) then rec ((l2.toUInt64 >>> ((8 : Int32).toInt64.toUInt64 &&& Int64.toUInt64 63)).toInt64) (l4 + (1 : Int32)) else some (.inr <|  ())
def f_Texts_isBeginning_5 (a0 : Int64) : Nat → Int64 → Int32 → Option ((Unit) ⊕ (Unit))
  | 0 => fun _ _ => none
  | n + 1 => f_Texts_isBeginning_5b a0 (f_Texts_isBeginning_5 a0 n)
def f_Texts_isBeginning (a0 : Int64) : Option (Int32) :=
  (f_Texts_isBeginning_5 a0 FU a0 (0 : Int32)).bind (Sum.elim (fun x5 => some (1 : Int32)) (fun x5 => some (0 : Int32)))
set_option maxRecDepth 100000 in
set_option maxHeartbeats 4000000 in
theorem c_Texts_isBeginning (l : Launch) (D : va_G) (tc : Nat → ClassId) (a0 : Int64) {o : (Int32)} (hf : f_Texts_isBeginning a0 = some o) (POST : Option Value → va_W → Prop) (hPOST : POST (some (.int o)) []) : Std l y_Texts_isBeginning (.code y_Texts_isBeginning b_Texts_isBeginning 7 (some .boolean)) { frames := 0, cells := 0, slots := 0, locals := 0 } D tc [.long a0] [] 0 0 POST := by
  refine std_of (lv := [(0, .long a0)]) (by decide) (Nat.le_of_ble_eq_true rfl) rfl (fun p e s m args below meth c A C hr hnm => ?_)
  have K5 : ∀ (n : Nat) (l2 : Int64) (l4 : Int32) (x : ((Unit) ⊕ (Unit))), f_Texts_isBeginning_5 a0 n l2 l4 = some x → ((∀ d, x = .inl d → Go p l e { frames := 0, cells := 0, slots := 0, locals := 0 } s m args below meth c (MQ below (Qs D A POST) args s 0 0 A) D A 7 0 0 [] [] 56 []) ∧ (∀ d, x = .inr d → Go p l e { frames := 0, cells := 0, slots := 0, locals := 0 } s m args below meth c (MQ below (Qs D A POST) args s 0 0 A) D A 7 0 0 [] [] 43 [])) → Go p l e { frames := 0, cells := 0, slots := 0, locals := 0 } s m args below meth c (MQ below (Qs D A POST) args s 0 0 A) D A 7 0 0 [] [(2, .long l2), (4, .int l4)] 5 [] := by
    intro n
    induction n with
    | zero =>
      intro l2 l4 x hf hE
      simp [f_Texts_isBeginning_5] at hf
    | succ n ih =>
      intro l2 l4 x hf hE
      have hf : f_Texts_isBeginning_5b a0 (f_Texts_isBeginning_5 a0 n) l2 l4 = some x := hf
      unfold f_Texts_isBeginning_5b at hf
      refine go_iload C d_Texts_isBeginning_5 1 rfl (n := 7) rfl ?_
      refine go_bipush C (v := 8) d_Texts_isBeginning_7 rfl (n := 9) rfl ?_
      have hi9 := iteS hf
      refine go_icmp_ge C d_Texts_isBeginning_9 (tgt := 56) (by decide) (n := 12) rfl (fun h9 => ?_) (fun h9 => ?_)
      · have hf := hi9.1 h9
        refine go_lv (lv' := []) [] rfl ?_
        cases hf
        exact hE.1 _ rfl
      · have hf := hi9.2 h9
        refine go_lload_n C d_Texts_isBeginning_12 rfl 0 rfl (n := 13) rfl ?_
        refine go_lconst C (v := 0) d_Texts_isBeginning_13 rfl (n := 14) rfl ?_
        have hi14 := iteS hf
        refine go_lcmp_eq C d_Texts_isBeginning_14 (n1 := 15) rfl d_Texts_isBeginning_15 (tgt := 56) (by decide) (n := 18) rfl (fun h14 => ?_) (fun h14 => ?_)
        · have hf := hi14.1 h14
          refine go_lv (lv' := []) [] rfl ?_
          cases hf
          exact hE.1 _ rfl
        · have hf := hi14.2 h14
          refine go_lload_n C d_Texts_isBeginning_18 rfl 0 rfl (n := 19) rfl ?_
          refine go_ldc2 C d_Texts_isBeginning_19 wk_Texts_15 (n := 22) rfl ?_
          refine go_land C d_Texts_isBeginning_22 (n := 23) rfl ?_
          refine go_lstore C d_Texts_isBeginning_23 (lv' := [(5, .long (l2 &&& (255 : Int64))), (2, .long l2), (4, .int l4)]) (by decide) rfl (n := 25) rfl ?_
          refine go_lload C d_Texts_isBeginning_25 0 rfl (n := 27) rfl ?_
          refine go_ldc2 C d_Texts_isBeginning_27 wk_Texts_17 (n := 30) rfl ?_
          have hi30 := iteS hf
          refine go_lcmp_lt C d_Texts_isBeginning_30 (n1 := 31) rfl d_Texts_isBeginning_31 (tgt := 43) (by decide) (n := 34) rfl (fun h30 => ?_) (fun h30 => ?_)
          · have hf := hi30.1 h30
            refine go_lv (lv' := []) [] rfl ?_
            cases hf
            exact hE.2 _ rfl
          · have hf := hi30.2 h30
            refine go_lload C d_Texts_isBeginning_34 0 rfl (n := 36) rfl ?_
            refine go_ldc2 C d_Texts_isBeginning_36 wk_Texts_19 (n := 39) rfl ?_
            have hi39 := iteS hf
            refine go_lcmp_le C d_Texts_isBeginning_39 (n1 := 40) rfl d_Texts_isBeginning_40 (tgt := 45) (by decide) (n := 43) rfl (fun h39 => ?_) (fun h39 => ?_)
            · have hf := hi39.1 h39
              refine go_lload_n C d_Texts_isBeginning_45 rfl 1 rfl (n := 46) rfl ?_
              refine go_bipush C (v := 8) d_Texts_isBeginning_46 rfl (n := 48) rfl ?_
              refine go_lushr C d_Texts_isBeginning_48 (n := 49) rfl ?_
              refine go_lstore_n C d_Texts_isBeginning_49 rfl (lv' := [(2, .long ((l2.toUInt64 >>> ((8 : Int32).toInt64.toUInt64 &&& Int64.toUInt64 63)).toInt64)), (5, .long (l2 &&& (255 : Int64))), (4, .int l4)]) (by decide) rfl (n := 50) rfl ?_
              refine go_iinc C d_Texts_isBeginning_50 2 rfl (v := l4 + (1 : Int32)) rfl (lv' := [(4, .int (l4 + (1 : Int32))), (2, .long ((l2.toUInt64 >>> ((8 : Int32).toInt64.toUInt64 &&& Int64.toUInt64 63)).toInt64)), (5, .long (l2 &&& (255 : Int64)))]) (by decide) rfl (n := 53) rfl ?_
              refine go_goto C d_Texts_isBeginning_53 (tgt := 5) (by decide) ?_
              refine go_lv (lv' := [(2, .long ((l2.toUInt64 >>> ((8 : Int32).toInt64.toUInt64 &&& Int64.toUInt64 63)).toInt64)), (4, .int (l4 + (1 : Int32)))]) [1, 0] rfl ?_
              exact ih ((l2.toUInt64 >>> ((8 : Int32).toInt64.toUInt64 &&& Int64.toUInt64 63)).toInt64) (l4 + (1 : Int32)) x hf hE
            · have hf := hi39.2 h39
              refine go_lv (lv' := []) [] rfl ?_
              cases hf
              exact hE.2 _ rfl
  unfold f_Texts_isBeginning at hf
  refine go_lload_n C d_Texts_isBeginning_0 rfl 0 rfl (n := 1) rfl ?_
  refine go_lstore_n C d_Texts_isBeginning_1 rfl (lv' := [(2, .long a0), (0, .long a0)]) (by decide) rfl (n := 2) rfl ?_
  refine go_iconst C (v := 0) d_Texts_isBeginning_2 rfl (n := 3) rfl ?_
  refine go_istore C d_Texts_isBeginning_3 (lv' := [(4, .int (0 : Int32)), (2, .long a0), (0, .long a0)]) (by decide) rfl (n := 5) rfl ?_
  refine go_lv (lv' := [(2, .long a0), (4, .int (0 : Int32))]) [1, 0] rfl ?_
  obtain ⟨y5, hx5, hf⟩ := bindS hf
  refine K5 FU a0 (0 : Int32) y5 hx5 ⟨fun x5 hd => ?_, fun x5 hd => ?_⟩
  · subst hd
    dsimp only [Sum.elim_inl, Sum.elim_inr] at hf
    refine go_iconst C (v := 1) d_Texts_isBeginning_56 rfl (n := 57) rfl ?_
    cases hf
    exact go_zret C d_Texts_isBeginning_57 hr rfl hPOST
  · subst hd
    dsimp only [Sum.elim_inl, Sum.elim_inr] at hf
    refine go_iconst C (v := 0) d_Texts_isBeginning_43 rfl (n := 44) rfl ?_
    cases hf
    exact go_zret C d_Texts_isBeginning_44 hr rfl hPOST

def f_Texts_toNumber_5b (a0 : Int64) (rec : Int64 → Int32 → Option (Int64)) (l2 : Int64) (l4 : Int32) : Option (Int64) :=
  if (8 : Int32) ≤ l4 then some ( l2) else if (l2 &&& (255 : Int64)) = (0 : Int64) then rec ((l2.toUInt64 >>> ((8 : Int32).toInt64.toUInt64 &&& Int64.toUInt64 63)).toInt64) (l4 + (1 : Int32)) else some ( l2)
def f_Texts_toNumber_5 (a0 : Int64) : Nat → Int64 → Int32 → Option (Int64)
  | 0 => fun _ _ => none
  | n + 1 => f_Texts_toNumber_5b a0 (f_Texts_toNumber_5 a0 n)
def f_Texts_toNumber (a0 : Int64) : Option (Int64) :=
  (f_Texts_toNumber_5 a0 FU a0 (0 : Int32)).bind (fun x5 => some x5)
set_option maxRecDepth 100000 in
set_option maxHeartbeats 4000000 in
theorem c_Texts_toNumber (l : Launch) (D : va_G) (tc : Nat → ClassId) (a0 : Int64) {o : (Int64)} (hf : f_Texts_toNumber a0 = some o) (POST : Option Value → va_W → Prop) (hPOST : POST (some (.long o)) []) : Std l y_Texts_toNumber (.code y_Texts_toNumber b_Texts_toNumber 5 (some .long)) { frames := 0, cells := 0, slots := 0, locals := 0 } D tc [.long a0] [] 0 0 POST := by
  refine std_of (lv := [(0, .long a0)]) (by decide) (Nat.le_of_ble_eq_true rfl) rfl (fun p e s m args below meth c A C hr hnm => ?_)
  have K5 : ∀ (n : Nat) (l2 : Int64) (l4 : Int32) (x : (Int64)), f_Texts_toNumber_5 a0 n l2 l4 = some x → (Go p l e { frames := 0, cells := 0, slots := 0, locals := 0 } s m args below meth c (MQ below (Qs D A POST) args s 0 0 A) D A 5 0 0 [] [(2, .long x)] 33 []) → Go p l e { frames := 0, cells := 0, slots := 0, locals := 0 } s m args below meth c (MQ below (Qs D A POST) args s 0 0 A) D A 5 0 0 [] [(2, .long l2), (4, .int l4)] 5 [] := by
    intro n
    induction n with
    | zero =>
      intro l2 l4 x hf hE
      simp [f_Texts_toNumber_5] at hf
    | succ n ih =>
      intro l2 l4 x hf hE
      have hf : f_Texts_toNumber_5b a0 (f_Texts_toNumber_5 a0 n) l2 l4 = some x := hf
      unfold f_Texts_toNumber_5b at hf
      refine go_iload C d_Texts_toNumber_5 1 rfl (n := 7) rfl ?_
      refine go_bipush C (v := 8) d_Texts_toNumber_7 rfl (n := 9) rfl ?_
      have hi9 := iteS hf
      refine go_icmp_ge C d_Texts_toNumber_9 (tgt := 33) (by decide) (n := 12) rfl (fun h9 => ?_) (fun h9 => ?_)
      · have hf := hi9.1 h9
        refine go_lv (lv' := [(2, .long l2)]) [0] rfl ?_
        cases hf
        exact hE
      · have hf := hi9.2 h9
        refine go_lload_n C d_Texts_toNumber_12 rfl 0 rfl (n := 13) rfl ?_
        refine go_ldc2 C d_Texts_toNumber_13 wk_Texts_15 (n := 16) rfl ?_
        refine go_land C d_Texts_toNumber_16 (n := 17) rfl ?_
        refine go_lconst C (v := 0) d_Texts_toNumber_17 rfl (n := 18) rfl ?_
        have hi18 := iteS hf
        refine go_lcmp_ne C d_Texts_toNumber_18 (n1 := 19) rfl d_Texts_toNumber_19 (tgt := 33) (by decide) (n := 22) rfl (fun h18 => ?_) (fun h18 => ?_)
        · have hf := hi18.2 h18
          refine go_lv (lv' := [(2, .long l2)]) [0] rfl ?_
          cases hf
          exact hE
        · have hf := hi18.1 h18
          refine go_lload_n C d_Texts_toNumber_22 rfl 0 rfl (n := 23) rfl ?_
          refine go_bipush C (v := 8) d_Texts_toNumber_23 rfl (n := 25) rfl ?_
          refine go_lushr C d_Texts_toNumber_25 (n := 26) rfl ?_
          refine go_lstore_n C d_Texts_toNumber_26 rfl (lv' := [(2, .long ((l2.toUInt64 >>> ((8 : Int32).toInt64.toUInt64 &&& Int64.toUInt64 63)).toInt64)), (4, .int l4)]) (by decide) rfl (n := 27) rfl ?_
          refine go_iinc C d_Texts_toNumber_27 1 rfl (v := l4 + (1 : Int32)) rfl (lv' := [(4, .int (l4 + (1 : Int32))), (2, .long ((l2.toUInt64 >>> ((8 : Int32).toInt64.toUInt64 &&& Int64.toUInt64 63)).toInt64))]) (by decide) rfl (n := 30) rfl ?_
          refine go_goto C d_Texts_toNumber_30 (tgt := 5) (by decide) ?_
          refine go_lv (lv' := [(2, .long ((l2.toUInt64 >>> ((8 : Int32).toInt64.toUInt64 &&& Int64.toUInt64 63)).toInt64)), (4, .int (l4 + (1 : Int32)))]) [1, 0] rfl ?_
          exact ih ((l2.toUInt64 >>> ((8 : Int32).toInt64.toUInt64 &&& Int64.toUInt64 63)).toInt64) (l4 + (1 : Int32)) x hf hE
  unfold f_Texts_toNumber at hf
  refine go_lload_n C d_Texts_toNumber_0 rfl 0 rfl (n := 1) rfl ?_
  refine go_lstore_n C d_Texts_toNumber_1 rfl (lv' := [(2, .long a0), (0, .long a0)]) (by decide) rfl (n := 2) rfl ?_
  refine go_iconst C (v := 0) d_Texts_toNumber_2 rfl (n := 3) rfl ?_
  refine go_istore C d_Texts_toNumber_3 (lv' := [(4, .int (0 : Int32)), (2, .long a0), (0, .long a0)]) (by decide) rfl (n := 5) rfl ?_
  refine go_lv (lv' := [(2, .long a0), (4, .int (0 : Int32))]) [1, 0] rfl ?_
  obtain ⟨x5, hx5, hf⟩ := bindS hf
  refine K5 FU a0 (0 : Int32) x5 hx5 ?_
  refine go_lload_n C d_Texts_toNumber_33 rfl 0 rfl (n := 34) rfl ?_
  cases hf
  exact go_lret C d_Texts_toNumber_34 hr hPOST

def f_Texts_letterAt (a0 : Int64) (a1 : Int32) : Option (Int32) :=
  some ((((a0.toUInt64 >>> (((64 : Int32) - ((8 : Int32) * (a1 + (1 : Int32)))).toInt64.toUInt64 &&& Int64.toUInt64 63)).toInt64).toInt32) &&& (255 : Int32))
set_option maxRecDepth 100000 in
set_option maxHeartbeats 4000000 in
theorem c_Texts_letterAt (l : Launch) (D : va_G) (tc : Nat → ClassId) (a0 : Int64) (a1 : Int32) {o : (Int32)} (hf : f_Texts_letterAt a0 a1 = some o) (POST : Option Value → va_W → Prop) (hPOST : POST (some (.int o)) []) : Std l y_Texts_letterAt (.code y_Texts_letterAt b_Texts_letterAt 3 (some .int)) { frames := 0, cells := 0, slots := 0, locals := 0 } D tc [.long a0, .int a1] [] 0 0 POST := by
  refine std_of (lv := [(0, .long a0), (2, .int a1)]) (by decide) (Nat.le_of_ble_eq_true rfl) rfl (fun p e s m args below meth c A C hr hnm => ?_)
  unfold f_Texts_letterAt at hf
  refine go_lload_n C d_Texts_letterAt_0 rfl 0 rfl (n := 1) rfl ?_
  refine go_bipush C (v := 64) d_Texts_letterAt_1 rfl (n := 3) rfl ?_
  refine go_bipush C (v := 8) d_Texts_letterAt_3 rfl (n := 5) rfl ?_
  refine go_iload_n C d_Texts_letterAt_5 rfl 1 rfl (n := 6) rfl ?_
  refine go_iconst C (v := 1) d_Texts_letterAt_6 rfl (n := 7) rfl ?_
  refine go_iadd C d_Texts_letterAt_7 (n := 8) rfl ?_
  refine go_imul C d_Texts_letterAt_8 (n := 9) rfl ?_
  refine go_isub C d_Texts_letterAt_9 (n := 10) rfl ?_
  refine go_lushr C d_Texts_letterAt_10 (n := 11) rfl ?_
  refine go_l2i C d_Texts_letterAt_11 (n := 12) rfl ?_
  refine go_sipush C (v := 255) d_Texts_letterAt_12 rfl (n := 15) rfl ?_
  refine go_iand C d_Texts_letterAt_15 (n := 16) rfl ?_
  cases hf
  exact go_iret C d_Texts_letterAt_16 hr hPOST

def f_Texts_head (a0 : Int64) (a1 : Int32) : Option (Int64) :=
  if 0 < a1 then some (a0 &&& ((-1 : Int64) <<< (((64 : Int32) - ((8 : Int32) * a1)).toInt64 &&& 63))) else some (0 : Int64)
set_option maxRecDepth 100000 in
set_option maxHeartbeats 4000000 in
theorem c_Texts_head (l : Launch) (D : va_G) (tc : Nat → ClassId) (a0 : Int64) (a1 : Int32) {o : (Int64)} (hf : f_Texts_head a0 a1 = some o) (POST : Option Value → va_W → Prop) (hPOST : POST (some (.long o)) []) : Std l y_Texts_head (.code y_Texts_head b_Texts_head 3 (some .long)) { frames := 0, cells := 0, slots := 0, locals := 0 } D tc [.long a0, .int a1] [] 0 0 POST := by
  refine std_of (lv := [(0, .long a0), (2, .int a1)]) (by decide) (Nat.le_of_ble_eq_true rfl) rfl (fun p e s m args below meth c A C hr hnm => ?_)
  unfold f_Texts_head at hf
  refine go_iload_n C d_Texts_head_0 rfl 1 rfl (n := 1) rfl ?_
  have hi1 := iteS hf
  refine go_if_gt C d_Texts_head_1 (tgt := 8) (by decide) (n := 4) rfl (fun h1 => ?_) (fun h1 => ?_)
  · have hf := hi1.1 h1
    refine go_lload_n C d_Texts_head_8 rfl 0 rfl (n := 9) rfl ?_
    refine go_ldc2 C d_Texts_head_9 wk_Texts_25 (n := 12) rfl ?_
    refine go_bipush C (v := 64) d_Texts_head_12 rfl (n := 14) rfl ?_
    refine go_bipush C (v := 8) d_Texts_head_14 rfl (n := 16) rfl ?_
    refine go_iload_n C d_Texts_head_16 rfl 1 rfl (n := 17) rfl ?_
    refine go_imul C d_Texts_head_17 (n := 18) rfl ?_
    refine go_isub C d_Texts_head_18 (n := 19) rfl ?_
    refine go_lshl C d_Texts_head_19 (n := 20) rfl ?_
    refine go_land C d_Texts_head_20 (n := 21) rfl ?_
    cases hf
    exact go_lret C d_Texts_head_21 hr hPOST
  · have hf := hi1.2 h1
    refine go_lconst C (v := 0) d_Texts_head_4 rfl (n := 5) rfl ?_
    refine go_goto C d_Texts_head_5 (tgt := 21) (by decide) ?_
    cases hf
    exact go_lret C d_Texts_head_21 hr hPOST

def f_Texts_tail (a0 : Int64) (a1 : Int32) : Option (Int64) :=
  if a1 < (8 : Int32) then some (a0 <<< (((8 : Int32) * a1).toInt64 &&& 63)) else some (0 : Int64)
set_option maxRecDepth 100000 in
set_option maxHeartbeats 4000000 in
theorem c_Texts_tail (l : Launch) (D : va_G) (tc : Nat → ClassId) (a0 : Int64) (a1 : Int32) {o : (Int64)} (hf : f_Texts_tail a0 a1 = some o) (POST : Option Value → va_W → Prop) (hPOST : POST (some (.long o)) []) : Std l y_Texts_tail (.code y_Texts_tail b_Texts_tail 3 (some .long)) { frames := 0, cells := 0, slots := 0, locals := 0 } D tc [.long a0, .int a1] [] 0 0 POST := by
  refine std_of (lv := [(0, .long a0), (2, .int a1)]) (by decide) (Nat.le_of_ble_eq_true rfl) rfl (fun p e s m args below meth c A C hr hnm => ?_)
  unfold f_Texts_tail at hf
  refine go_iload_n C d_Texts_tail_0 rfl 1 rfl (n := 1) rfl ?_
  refine go_bipush C (v := 8) d_Texts_tail_1 rfl (n := 3) rfl ?_
  have hi3 := iteS hf
  refine go_icmp_lt C d_Texts_tail_3 (tgt := 10) (by decide) (n := 6) rfl (fun h3 => ?_) (fun h3 => ?_)
  · have hf := hi3.1 h3
    refine go_lload_n C d_Texts_tail_10 rfl 0 rfl (n := 11) rfl ?_
    refine go_bipush C (v := 8) d_Texts_tail_11 rfl (n := 13) rfl ?_
    refine go_iload_n C d_Texts_tail_13 rfl 1 rfl (n := 14) rfl ?_
    refine go_imul C d_Texts_tail_14 (n := 15) rfl ?_
    refine go_lshl C d_Texts_tail_15 (n := 16) rfl ?_
    cases hf
    exact go_lret C d_Texts_tail_16 hr hPOST
  · have hf := hi3.2 h3
    refine go_lconst C (v := 0) d_Texts_tail_6 rfl (n := 7) rfl ?_
    refine go_goto C d_Texts_tail_7 (tgt := 16) (by decide) ?_
    cases hf
    exact go_lret C d_Texts_tail_16 hr hPOST

def f_Texts_sharedLetters_3b (a0 : Int64) (a1 : Int64) (rec : Int32 → Option (Int32)) (l4 : Int32) : Option (Int32) :=
  if (8 : Int32) ≤ l4 then some ( l4) else (f_Texts_letterAt a0 l4).bind (fun o13 => if o13 = 0 then some ( l4) else (f_Texts_letterAt a0 l4).bind (fun o22 => (f_Texts_letterAt a1 l4).bind (fun o28 => if o22 = o28 then rec (l4 + (1 : Int32)) else some ( l4))))
def f_Texts_sharedLetters_3 (a0 : Int64) (a1 : Int64) : Nat → Int32 → Option (Int32)
  | 0 => fun _ => none
  | n + 1 => f_Texts_sharedLetters_3b a0 a1 (f_Texts_sharedLetters_3 a0 a1 n)
def f_Texts_sharedLetters (a0 : Int64) (a1 : Int64) : Option (Int32) :=
  (f_Texts_sharedLetters_3 a0 a1 FU (0 : Int32)).bind (fun x3 => some x3)
set_option maxRecDepth 100000 in
set_option maxHeartbeats 4000000 in
theorem c_Texts_sharedLetters (l : Launch) (D : va_G) (tc : Nat → ClassId) (a0 : Int64) (a1 : Int64) {o : (Int32)} (hf : f_Texts_sharedLetters a0 a1 = some o) (POST : Option Value → va_W → Prop) (hPOST : POST (some (.int o)) []) : Std l y_Texts_sharedLetters (.code y_Texts_sharedLetters b_Texts_sharedLetters 5 (some .int)) { frames := 1, cells := 0, slots := 0, locals := 22 } D tc [.long a0, .long a1] [] 0 0 POST := by
  refine std_of (lv := [(0, .long a0), (2, .long a1)]) (by decide) (Nat.le_of_ble_eq_true rfl) rfl (fun p e s m args below meth c A C hr hnm => ?_)
  have K3 : ∀ (n : Nat) (l4 : Int32) (x : (Int32)), f_Texts_sharedLetters_3 a0 a1 n l4 = some x → (Go p l e { frames := 1, cells := 0, slots := 0, locals := 22 } s m args below meth c (MQ below (Qs D A POST) args s 0 0 A) D A 5 0 0 [] [(4, .int x)] 40 []) → Go p l e { frames := 1, cells := 0, slots := 0, locals := 22 } s m args below meth c (MQ below (Qs D A POST) args s 0 0 A) D A 5 0 0 [] [(0, .long a0), (2, .long a1), (4, .int l4)] 3 [] := by
    intro n
    induction n with
    | zero =>
      intro l4 x hf hE
      simp [f_Texts_sharedLetters_3] at hf
    | succ n ih =>
      intro l4 x hf hE
      have hf : f_Texts_sharedLetters_3b a0 a1 (f_Texts_sharedLetters_3 a0 a1 n) l4 = some x := hf
      unfold f_Texts_sharedLetters_3b at hf
      refine go_iload C d_Texts_sharedLetters_3 2 rfl (n := 5) rfl ?_
      refine go_bipush C (v := 8) d_Texts_sharedLetters_5 rfl (n := 7) rfl ?_
      have hi7 := iteS hf
      refine go_icmp_ge C d_Texts_sharedLetters_7 (tgt := 40) (by decide) (n := 10) rfl (fun h7 => ?_) (fun h7 => ?_)
      · have hf := hi7.1 h7
        refine go_lv (lv' := [(4, .int l4)]) [2] rfl ?_
        cases hf
        exact hE
      · have hf := hi7.2 h7
        refine go_lload_n C d_Texts_sharedLetters_10 rfl 0 rfl (n := 11) rfl ?_
        refine go_iload C d_Texts_sharedLetters_11 2 rfl (n := 13) rfl ?_
        obtain ⟨o13, ho13, hf⟩ := bindS hf
        refine go_callP C (As := [.long a0, .int l4]) (rest := []) d_Texts_sharedLetters_13 (c_Texts_letterAt l D tc a0 l4 ho13 (fun r w => r = some (.int o13) ∧ w = []) ⟨rfl, rfl⟩) lk_Texts_21 mw_Texts_letterAt ws_Texts_letterAt rfl rfl ⟨(Nat.le_of_ble_eq_true rfl), (Nat.le_of_ble_eq_true rfl)⟩ rfl rfl (Nat.le_of_ble_eq_true rfl) ⟨(Nat.le_of_ble_eq_true rfl), (Nat.le_of_ble_eq_true rfl)⟩ (n := 16) rfl ?_
        rintro _ _ ⟨rfl, rfl⟩
        have hi16 := iteS hf
        refine go_if_eq C d_Texts_sharedLetters_16 (tgt := 40) (by decide) (n := 19) rfl (fun h16 => ?_) (fun h16 => ?_)
        · have hf := hi16.1 h16
          refine go_lv (lv' := [(4, .int l4)]) [2] rfl ?_
          cases hf
          exact hE
        · have hf := hi16.2 h16
          refine go_lload_n C d_Texts_sharedLetters_19 rfl 0 rfl (n := 20) rfl ?_
          refine go_iload C d_Texts_sharedLetters_20 2 rfl (n := 22) rfl ?_
          obtain ⟨o22, ho22, hf⟩ := bindS hf
          refine go_callP C (As := [.long a0, .int l4]) (rest := []) d_Texts_sharedLetters_22 (c_Texts_letterAt l D tc a0 l4 ho22 (fun r w => r = some (.int o22) ∧ w = []) ⟨rfl, rfl⟩) lk_Texts_21 mw_Texts_letterAt ws_Texts_letterAt rfl rfl ⟨(Nat.le_of_ble_eq_true rfl), (Nat.le_of_ble_eq_true rfl)⟩ rfl rfl (Nat.le_of_ble_eq_true rfl) ⟨(Nat.le_of_ble_eq_true rfl), (Nat.le_of_ble_eq_true rfl)⟩ (n := 25) rfl ?_
          rintro _ _ ⟨rfl, rfl⟩
          refine go_lload_n C d_Texts_sharedLetters_25 rfl 1 rfl (n := 26) rfl ?_
          refine go_iload C d_Texts_sharedLetters_26 2 rfl (n := 28) rfl ?_
          obtain ⟨o28, ho28, hf⟩ := bindS hf
          refine go_callP C (As := [.long a1, .int l4]) (rest := [.int o22]) d_Texts_sharedLetters_28 (c_Texts_letterAt l D tc a1 l4 ho28 (fun r w => r = some (.int o28) ∧ w = []) ⟨rfl, rfl⟩) lk_Texts_21 mw_Texts_letterAt ws_Texts_letterAt rfl rfl ⟨(Nat.le_of_ble_eq_true rfl), (Nat.le_of_ble_eq_true rfl)⟩ rfl rfl (Nat.le_of_ble_eq_true rfl) ⟨(Nat.le_of_ble_eq_true rfl), (Nat.le_of_ble_eq_true rfl)⟩ (n := 31) rfl ?_
          rintro _ _ ⟨rfl, rfl⟩
          have hi31 := iteS hf
          refine go_icmp_ne C d_Texts_sharedLetters_31 (tgt := 40) (by decide) (n := 34) rfl (fun h31 => ?_) (fun h31 => ?_)
          · have hf := hi31.2 h31
            refine go_lv (lv' := [(4, .int l4)]) [2] rfl ?_
            cases hf
            exact hE
          · have hf := hi31.1 h31
            refine go_iinc C d_Texts_sharedLetters_34 2 rfl (v := l4 + (1 : Int32)) rfl (lv' := [(4, .int (l4 + (1 : Int32))), (0, .long a0), (2, .long a1)]) (by decide) rfl (n := 37) rfl ?_
            refine go_goto C d_Texts_sharedLetters_37 (tgt := 3) (by decide) ?_
            refine go_lv (lv' := [(0, .long a0), (2, .long a1), (4, .int (l4 + (1 : Int32)))]) [1, 2, 0] rfl ?_
            exact ih (l4 + (1 : Int32)) x hf hE
  unfold f_Texts_sharedLetters at hf
  refine go_iconst C (v := 0) d_Texts_sharedLetters_0 rfl (n := 1) rfl ?_
  refine go_istore C d_Texts_sharedLetters_1 (lv' := [(4, .int (0 : Int32)), (0, .long a0), (2, .long a1)]) (by decide) rfl (n := 3) rfl ?_
  refine go_lv (lv' := [(0, .long a0), (2, .long a1), (4, .int (0 : Int32))]) [1, 2, 0] rfl ?_
  obtain ⟨x3, hx3, hf⟩ := bindS hf
  refine K3 FU (0 : Int32) x3 hx3 ?_
  refine go_iload C d_Texts_sharedLetters_40 0 rfl (n := 42) rfl ?_
  cases hf
  exact go_iret C d_Texts_sharedLetters_42 hr hPOST

def f_Texts_isWord (a0 : Int64) : Option (Int32) :=
  if a0 = (0 : Int64) then some (0 : Int32) else (f_Texts_isBeginning a0).bind (fun o7 => if o7 = 0 then some (0 : Int32) else some (1 : Int32))
set_option maxRecDepth 100000 in
set_option maxHeartbeats 4000000 in
theorem c_Texts_isWord (l : Launch) (D : va_G) (tc : Nat → ClassId) (a0 : Int64) {o : (Int32)} (hf : f_Texts_isWord a0 = some o) (POST : Option Value → va_W → Prop) (hPOST : POST (some (.int o)) []) : Std l y_Texts_isWord (.code y_Texts_isWord b_Texts_isWord 2 (some .boolean)) { frames := 1, cells := 0, slots := 0, locals := 26 } D tc [.long a0] [] 0 0 POST := by
  refine std_of (lv := [(0, .long a0)]) (by decide) (Nat.le_of_ble_eq_true rfl) rfl (fun p e s m args below meth c A C hr hnm => ?_)
  unfold f_Texts_isWord at hf
  refine go_lload_n C d_Texts_isWord_0 rfl 0 rfl (n := 1) rfl ?_
  refine go_lconst C (v := 0) d_Texts_isWord_1 rfl (n := 2) rfl ?_
  have hi2 := iteS hf
  refine go_lcmp_eq C d_Texts_isWord_2 (n1 := 3) rfl d_Texts_isWord_3 (tgt := 17) (by decide) (n := 6) rfl (fun h2 => ?_) (fun h2 => ?_)
  · have hf := hi2.1 h2
    refine go_iconst C (v := 0) d_Texts_isWord_17 rfl (n := 18) rfl ?_
    cases hf
    exact go_zret C d_Texts_isWord_18 hr rfl hPOST
  · have hf := hi2.2 h2
    refine go_lload_n C d_Texts_isWord_6 rfl 0 rfl (n := 7) rfl ?_
    obtain ⟨o7, ho7, hf⟩ := bindS hf
    refine go_callP C (As := [.long a0]) (rest := []) d_Texts_isWord_7 (c_Texts_isBeginning l D tc a0 ho7 (fun r w => r = some (.int o7) ∧ w = []) ⟨rfl, rfl⟩) lk_Texts_9 mw_Texts_isBeginning ws_Texts_isBeginning rfl rfl ⟨(Nat.le_of_ble_eq_true rfl), (Nat.le_of_ble_eq_true rfl)⟩ rfl rfl (Nat.le_of_ble_eq_true rfl) ⟨(Nat.le_of_ble_eq_true rfl), (Nat.le_of_ble_eq_true rfl)⟩ (n := 10) rfl ?_
    rintro _ _ ⟨rfl, rfl⟩
    have hi10 := iteS hf
    refine go_if_eq C d_Texts_isWord_10 (tgt := 17) (by decide) (n := 13) rfl (fun h10 => ?_) (fun h10 => ?_)
    · have hf := hi10.1 h10
      refine go_iconst C (v := 0) d_Texts_isWord_17 rfl (n := 18) rfl ?_
      cases hf
      exact go_zret C d_Texts_isWord_18 hr rfl hPOST
    · have hf := hi10.2 h10
      refine go_iconst C (v := 1) d_Texts_isWord_13 rfl (n := 14) rfl ?_
      refine go_goto C d_Texts_isWord_14 (tgt := 18) (by decide) ?_
      cases hf
      exact go_zret C d_Texts_isWord_18 hr rfl hPOST

def f_Texts_ofNumber_5b (a0 : Int64) (rec : Int64 → Int32 → Option (Int64)) (l2 : Int64) (l4 : Int32) : Option (Int64) :=
  if (8 : Int32) ≤ l4 then some ( l2) else (f_Texts_letterAt l2 (0 : Int32)).bind (fun o14 => if o14 = 0 then rec (l2 <<< ((8 : Int32).toInt64 &&& 63)) (l4 + (1 : Int32)) else some ( l2))
def f_Texts_ofNumber_5 (a0 : Int64) : Nat → Int64 → Int32 → Option (Int64)
  | 0 => fun _ _ => none
  | n + 1 => f_Texts_ofNumber_5b a0 (f_Texts_ofNumber_5 a0 n)
def f_Texts_ofNumber (a0 : Int64) : Option (Int64) :=
  (f_Texts_ofNumber_5 a0 FU a0 (0 : Int32)).bind (fun x5 => some x5)
set_option maxRecDepth 100000 in
set_option maxHeartbeats 4000000 in
theorem c_Texts_ofNumber (l : Launch) (D : va_G) (tc : Nat → ClassId) (a0 : Int64) {o : (Int64)} (hf : f_Texts_ofNumber a0 = some o) (POST : Option Value → va_W → Prop) (hPOST : POST (some (.long o)) []) : Std l y_Texts_ofNumber (.code y_Texts_ofNumber b_Texts_ofNumber 5 (some .long)) { frames := 1, cells := 0, slots := 0, locals := 22 } D tc [.long a0] [] 0 0 POST := by
  refine std_of (lv := [(0, .long a0)]) (by decide) (Nat.le_of_ble_eq_true rfl) rfl (fun p e s m args below meth c A C hr hnm => ?_)
  have K5 : ∀ (n : Nat) (l2 : Int64) (l4 : Int32) (x : (Int64)), f_Texts_ofNumber_5 a0 n l2 l4 = some x → (Go p l e { frames := 1, cells := 0, slots := 0, locals := 22 } s m args below meth c (MQ below (Qs D A POST) args s 0 0 A) D A 5 0 0 [] [(2, .long x)] 31 []) → Go p l e { frames := 1, cells := 0, slots := 0, locals := 22 } s m args below meth c (MQ below (Qs D A POST) args s 0 0 A) D A 5 0 0 [] [(2, .long l2), (4, .int l4)] 5 [] := by
    intro n
    induction n with
    | zero =>
      intro l2 l4 x hf hE
      simp [f_Texts_ofNumber_5] at hf
    | succ n ih =>
      intro l2 l4 x hf hE
      have hf : f_Texts_ofNumber_5b a0 (f_Texts_ofNumber_5 a0 n) l2 l4 = some x := hf
      unfold f_Texts_ofNumber_5b at hf
      refine go_iload C d_Texts_ofNumber_5 1 rfl (n := 7) rfl ?_
      refine go_bipush C (v := 8) d_Texts_ofNumber_7 rfl (n := 9) rfl ?_
      have hi9 := iteS hf
      refine go_icmp_ge C d_Texts_ofNumber_9 (tgt := 31) (by decide) (n := 12) rfl (fun h9 => ?_) (fun h9 => ?_)
      · have hf := hi9.1 h9
        refine go_lv (lv' := [(2, .long l2)]) [0] rfl ?_
        cases hf
        exact hE
      · have hf := hi9.2 h9
        refine go_lload_n C d_Texts_ofNumber_12 rfl 0 rfl (n := 13) rfl ?_
        refine go_iconst C (v := 0) d_Texts_ofNumber_13 rfl (n := 14) rfl ?_
        obtain ⟨o14, ho14, hf⟩ := bindS hf
        refine go_callP C (As := [.long l2, .int (0 : Int32)]) (rest := []) d_Texts_ofNumber_14 (c_Texts_letterAt l D tc l2 (0 : Int32) ho14 (fun r w => r = some (.int o14) ∧ w = []) ⟨rfl, rfl⟩) lk_Texts_21 mw_Texts_letterAt ws_Texts_letterAt rfl rfl ⟨(Nat.le_of_ble_eq_true rfl), (Nat.le_of_ble_eq_true rfl)⟩ rfl rfl (Nat.le_of_ble_eq_true rfl) ⟨(Nat.le_of_ble_eq_true rfl), (Nat.le_of_ble_eq_true rfl)⟩ (n := 17) rfl ?_
        rintro _ _ ⟨rfl, rfl⟩
        have hi17 := iteS hf
        refine go_if_ne C d_Texts_ofNumber_17 (tgt := 31) (by decide) (n := 20) rfl (fun h17 => ?_) (fun h17 => ?_)
        · have hf := hi17.2 h17
          refine go_lv (lv' := [(2, .long l2)]) [0] rfl ?_
          cases hf
          exact hE
        · have hf := hi17.1 h17
          refine go_lload_n C d_Texts_ofNumber_20 rfl 0 rfl (n := 21) rfl ?_
          refine go_bipush C (v := 8) d_Texts_ofNumber_21 rfl (n := 23) rfl ?_
          refine go_lshl C d_Texts_ofNumber_23 (n := 24) rfl ?_
          refine go_lstore_n C d_Texts_ofNumber_24 rfl (lv' := [(2, .long (l2 <<< ((8 : Int32).toInt64 &&& 63))), (4, .int l4)]) (by decide) rfl (n := 25) rfl ?_
          refine go_iinc C d_Texts_ofNumber_25 1 rfl (v := l4 + (1 : Int32)) rfl (lv' := [(4, .int (l4 + (1 : Int32))), (2, .long (l2 <<< ((8 : Int32).toInt64 &&& 63)))]) (by decide) rfl (n := 28) rfl ?_
          refine go_goto C d_Texts_ofNumber_28 (tgt := 5) (by decide) ?_
          refine go_lv (lv' := [(2, .long (l2 <<< ((8 : Int32).toInt64 &&& 63))), (4, .int (l4 + (1 : Int32)))]) [1, 0] rfl ?_
          exact ih (l2 <<< ((8 : Int32).toInt64 &&& 63)) (l4 + (1 : Int32)) x hf hE
  unfold f_Texts_ofNumber at hf
  refine go_lload_n C d_Texts_ofNumber_0 rfl 0 rfl (n := 1) rfl ?_
  refine go_lstore_n C d_Texts_ofNumber_1 rfl (lv' := [(2, .long a0), (0, .long a0)]) (by decide) rfl (n := 2) rfl ?_
  refine go_iconst C (v := 0) d_Texts_ofNumber_2 rfl (n := 3) rfl ?_
  refine go_istore C d_Texts_ofNumber_3 (lv' := [(4, .int (0 : Int32)), (2, .long a0), (0, .long a0)]) (by decide) rfl (n := 5) rfl ?_
  refine go_lv (lv' := [(2, .long a0), (4, .int (0 : Int32))]) [1, 0] rfl ?_
  obtain ⟨x5, hx5, hf⟩ := bindS hf
  refine K5 FU a0 (0 : Int32) x5 hx5 ?_
  refine go_lload_n C d_Texts_ofNumber_31 rfl 0 rfl (n := 32) rfl ?_
  cases hf
  exact go_lret C d_Texts_ofNumber_32 hr hPOST

def f_Texts_lengthOf_2b (a0 : Int64) (rec : Int32 → Option (Int32)) (l2 : Int32) : Option (Int32) :=
  if (8 : Int32) ≤ l2 then some ( l2) else (f_Texts_letterAt a0 l2).bind (fun o10 => if o10 = 0 then some ( l2) else rec (l2 + (1 : Int32)))
def f_Texts_lengthOf_2 (a0 : Int64) : Nat → Int32 → Option (Int32)
  | 0 => fun _ => none
  | n + 1 => f_Texts_lengthOf_2b a0 (f_Texts_lengthOf_2 a0 n)
def f_Texts_lengthOf (a0 : Int64) : Option (Int32) :=
  (f_Texts_lengthOf_2 a0 FU (0 : Int32)).bind (fun x2 => some x2)
set_option maxRecDepth 100000 in
set_option maxHeartbeats 4000000 in
theorem c_Texts_lengthOf (l : Launch) (D : va_G) (tc : Nat → ClassId) (a0 : Int64) {o : (Int32)} (hf : f_Texts_lengthOf a0 = some o) (POST : Option Value → va_W → Prop) (hPOST : POST (some (.int o)) []) : Std l y_Texts_lengthOf (.code y_Texts_lengthOf b_Texts_lengthOf 3 (some .int)) { frames := 1, cells := 0, slots := 0, locals := 22 } D tc [.long a0] [] 0 0 POST := by
  refine std_of (lv := [(0, .long a0)]) (by decide) (Nat.le_of_ble_eq_true rfl) rfl (fun p e s m args below meth c A C hr hnm => ?_)
  have K2 : ∀ (n : Nat) (l2 : Int32) (x : (Int32)), f_Texts_lengthOf_2 a0 n l2 = some x → (Go p l e { frames := 1, cells := 0, slots := 0, locals := 22 } s m args below meth c (MQ below (Qs D A POST) args s 0 0 A) D A 3 0 0 [] [(2, .int x)] 22 []) → Go p l e { frames := 1, cells := 0, slots := 0, locals := 22 } s m args below meth c (MQ below (Qs D A POST) args s 0 0 A) D A 3 0 0 [] [(0, .long a0), (2, .int l2)] 2 [] := by
    intro n
    induction n with
    | zero =>
      intro l2 x hf hE
      simp [f_Texts_lengthOf_2] at hf
    | succ n ih =>
      intro l2 x hf hE
      have hf : f_Texts_lengthOf_2b a0 (f_Texts_lengthOf_2 a0 n) l2 = some x := hf
      unfold f_Texts_lengthOf_2b at hf
      refine go_iload_n C d_Texts_lengthOf_2 rfl 1 rfl (n := 3) rfl ?_
      refine go_bipush C (v := 8) d_Texts_lengthOf_3 rfl (n := 5) rfl ?_
      have hi5 := iteS hf
      refine go_icmp_ge C d_Texts_lengthOf_5 (tgt := 22) (by decide) (n := 8) rfl (fun h5 => ?_) (fun h5 => ?_)
      · have hf := hi5.1 h5
        refine go_lv (lv' := [(2, .int l2)]) [1] rfl ?_
        cases hf
        exact hE
      · have hf := hi5.2 h5
        refine go_lload_n C d_Texts_lengthOf_8 rfl 0 rfl (n := 9) rfl ?_
        refine go_iload_n C d_Texts_lengthOf_9 rfl 1 rfl (n := 10) rfl ?_
        obtain ⟨o10, ho10, hf⟩ := bindS hf
        refine go_callP C (As := [.long a0, .int l2]) (rest := []) d_Texts_lengthOf_10 (c_Texts_letterAt l D tc a0 l2 ho10 (fun r w => r = some (.int o10) ∧ w = []) ⟨rfl, rfl⟩) lk_Texts_21 mw_Texts_letterAt ws_Texts_letterAt rfl rfl ⟨(Nat.le_of_ble_eq_true rfl), (Nat.le_of_ble_eq_true rfl)⟩ rfl rfl (Nat.le_of_ble_eq_true rfl) ⟨(Nat.le_of_ble_eq_true rfl), (Nat.le_of_ble_eq_true rfl)⟩ (n := 13) rfl ?_
        rintro _ _ ⟨rfl, rfl⟩
        have hi13 := iteS hf
        refine go_if_eq C d_Texts_lengthOf_13 (tgt := 22) (by decide) (n := 16) rfl (fun h13 => ?_) (fun h13 => ?_)
        · have hf := hi13.1 h13
          refine go_lv (lv' := [(2, .int l2)]) [1] rfl ?_
          cases hf
          exact hE
        · have hf := hi13.2 h13
          refine go_iinc C d_Texts_lengthOf_16 1 rfl (v := l2 + (1 : Int32)) rfl (lv' := [(2, .int (l2 + (1 : Int32))), (0, .long a0)]) (by decide) rfl (n := 19) rfl ?_
          refine go_goto C d_Texts_lengthOf_19 (tgt := 2) (by decide) ?_
          refine go_lv (lv' := [(0, .long a0), (2, .int (l2 + (1 : Int32)))]) [1, 0] rfl ?_
          exact ih (l2 + (1 : Int32)) x hf hE
  unfold f_Texts_lengthOf at hf
  refine go_iconst C (v := 0) d_Texts_lengthOf_0 rfl (n := 1) rfl ?_
  refine go_istore_n C d_Texts_lengthOf_1 rfl (lv' := [(2, .int (0 : Int32)), (0, .long a0)]) (by decide) rfl (n := 2) rfl ?_
  refine go_lv (lv' := [(0, .long a0), (2, .int (0 : Int32))]) [1, 0] rfl ?_
  obtain ⟨x2, hx2, hf⟩ := bindS hf
  refine K2 FU (0 : Int32) x2 hx2 ?_
  refine go_iload_n C d_Texts_lengthOf_22 rfl 0 rfl (n := 23) rfl ?_
  cases hf
  exact go_iret C d_Texts_lengthOf_23 hr hPOST

