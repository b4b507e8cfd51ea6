def f_Phrase_choose_35 (rec : Int32 → Int32 → Option (Int32)) (t_size : Int32) (t_candidates : Nat → Nat → Int64) (t_costs : Nat → Nat → Int32) (t_followers : Nat → Nat → Int32) (t_counts : Nat → Int32) (v_t_chosenSize : Int32) (v_t_chosen : Nat → Int64) (l1 : Int32) (l2 : Int32) : Option (Int32) :=
  rec l1 (l2 + (1 : Int32))
def f_Phrase_choose_4b (t_size : Int32) (t_candidates : Nat → Nat → Int64) (t_costs : Nat → Nat → Int32) (t_followers : Nat → Nat → Int32) (t_counts : Nat → Int32) (v_t_chosenSize : Int32) (v_t_chosen : Nat → Int64) (rec : Int32 → Int32 → Option (Int32)) (l1 : Int32) (l2 : Int32) : Option (Int32) :=
  if (t_counts (0 : Int32).toNatClampNeg) ≤ l2 then some ( l1) else if okI l2 24 = true then if okI l1 24 = true then if (t_costs (0 : Int32).toNatClampNeg l1.toNatClampNeg) ≤ (t_costs (0 : Int32).toNatClampNeg l2.toNatClampNeg) then f_Phrase_choose_35 rec t_size t_candidates t_costs t_followers t_counts v_t_chosenSize v_t_chosen l1 l2 else f_Phrase_choose_35 rec t_size t_candidates t_costs t_followers t_counts v_t_chosenSize v_t_chosen l2 l2 else none else none
def f_Phrase_choose_4 (t_size : Int32) (t_candidates : Nat → Nat → Int64) (t_costs : Nat → Nat → Int32) (t_followers : Nat → Nat → Int32) (t_counts : Nat → Int32) (v_t_chosenSize : Int32) (v_t_chosen : Nat → Int64) : Nat → Int32 → Int32 → Option (Int32)
  | 0 => fun _ _ => none
  | n + 1 => f_Phrase_choose_4b t_size t_candidates t_costs t_followers t_counts v_t_chosenSize v_t_chosen (f_Phrase_choose_4 t_size t_candidates t_costs t_followers t_counts v_t_chosenSize v_t_chosen n)
def f_Phrase_choose_59b (t_size : Int32) (t_candidates : Nat → Nat → Int64) (t_costs : Nat → Nat → Int32) (t_followers : Nat → Nat → Int32) (t_counts : Nat → Int32) (v_t_chosenSize : Int32) (l1 : Int32) (rec : (Nat → Int64) → Int32 → Int32 → Option ((Nat → Int64))) (v_t_chosen : Nat → Int64) (l2 : Int32) (l3 : Int32) : Option ((Nat → Int64)) :=
  if t_size ≤ l3 then some ( v_t_chosen) else if okI (l3 - (1 : Int32)) 4 = true then if okI l2 24 = true then if okI l3 4 = true then if okI (t_followers (l3 - (1 : Int32)).toNatClampNeg l2.toNatClampNeg) 24 = true then if okI l3 4 = true then rec (vp_updL v_t_chosen l3.toNatClampNeg (t_candidates l3.toNatClampNeg (t_followers (l3 - (1 : Int32)).toNatClampNeg l2.toNatClampNeg).toNatClampNeg)) (t_followers (l3 - (1 : Int32)).toNatClampNeg l2.toNatClampNeg) (l3 + (1 : Int32)) else none else none else none else none else none
def f_Phrase_choose_59 (t_size : Int32) (t_candidates : Nat → Nat → Int64) (t_costs : Nat → Nat → Int32) (t_followers : Nat → Nat → Int32) (t_counts : Nat → Int32) (v_t_chosenSize : Int32) (l1 : Int32) : Nat → (Nat → Int64) → Int32 → Int32 → Option ((Nat → Int64))
  | 0 => fun _ _ _ => none
  | n + 1 => f_Phrase_choose_59b t_size t_candidates t_costs t_followers t_counts v_t_chosenSize l1 (f_Phrase_choose_59 t_size t_candidates t_costs t_followers t_counts v_t_chosenSize l1 n)
def f_Phrase_choose (t_size : Int32) (t_chosenSize : Int32) (t_chosen : Nat → Int64) (t_candidates : Nat → Nat → Int64) (t_costs : Nat → Nat → Int32) (t_followers : Nat → Nat → Int32) (t_counts : Nat → Int32) : Option (Int32 × Int32 × (Nat → Int64)) :=
  (f_Phrase_choose_4 t_size t_candidates t_costs t_followers t_counts t_chosenSize t_chosen FU (0 : Int32) (1 : Int32)).bind (fun x4 => if okI x4 24 = true then (f_Phrase_choose_59 t_size t_candidates t_costs t_followers t_counts t_chosenSize x4 FU (vp_updL t_chosen (0 : Int32).toNatClampNeg (t_candidates (0 : Int32).toNatClampNeg x4.toNatClampNeg)) x4 (1 : Int32)).bind (fun x59 => if okI x4 24 = true then some (t_costs (0 : Int32).toNatClampNeg x4.toNatClampNeg, t_size, x59) else none) else none)
set_option maxRecDepth 100000 in
set_option maxHeartbeats 4000000 in
theorem c_Phrase_choose (l : Launch) (D : va_G) (tc : Nat → ClassId) (qt : Nat) (qt_said : Nat) (qt_chosen : Nat) (qt_candidates : Nat) (rt_candidates : Nat → Nat) (qt_costs : Nat) (rt_costs : Nat → Nat) (qt_followers : Nat) (rt_followers : Nat → Nat) (qt_counts : Nat) (t_size : Int32) (t_chosenSize : Int32) (t_said : Nat → Int64) (t_chosen : Nat → Int64) (t_candidates : Nat → Nat → Int64) (t_costs : Nat → Nat → Int32) (t_followers : Nat → Nat → Int32) (t_counts : Nat → Int32) {o : (Int32 × Int32 × (Nat → Int64))} (hf : f_Phrase_choose t_size t_chosenSize t_chosen t_candidates t_costs t_followers t_counts = some o) (POST : Option Value → va_W → Prop) (hPOST : POST (some (.int o.1)) [(qt, .inr (3, [.ref qt_said, .ref qt_chosen, .ref qt_candidates, .ref qt_costs, .ref qt_followers, .ref qt_counts, .int t_size, .int o.2.1])), (qt_said, .inl (tc 1, 4, .inr (.inl t_said))), (qt_chosen, .inl (tc 1, 4, .inr (.inl o.2.2))), (qt_candidates, .inl (tc 4, 4, .inr (.inr (.inr (.inr (fun i => some (rt_candidates i))))))), (rt_candidates 0, .inl (tc 1, 24, .inr (.inl (t_candidates 0)))), (rt_candidates 1, .inl (tc 1, 24, .inr (.inl (t_candidates 1)))), (rt_candidates 2, .inl (tc 1, 24, .inr (.inl (t_candidates 2)))), (rt_candidates 3, .inl (tc 1, 24, .inr (.inl (t_candidates 3)))), (qt_costs, .inl (tc 3, 4, .inr (.inr (.inr (.inr (fun i => some (rt_costs i))))))), (rt_costs 0, .inl (tc 0, 24, .inl (t_costs 0))), (rt_costs 1, .inl (tc 0, 24, .inl (t_costs 1))), (rt_costs 2, .inl (tc 0, 24, .inl (t_costs 2))), (rt_costs 3, .inl (tc 0, 24, .inl (t_costs 3))), (qt_followers, .inl (tc 3, 4, .inr (.inr (.inr (.inr (fun i => some (rt_followers i))))))), (rt_followers 0, .inl (tc 0, 24, .inl (t_followers 0))), (rt_followers 1, .inl (tc 0, 24, .inl (t_followers 1))), (rt_followers 2, .inl (tc 0, 24, .inl (t_followers 2))), (rt_followers 3, .inl (tc 0, 24, .inl (t_followers 3))), (qt_counts, .inl (tc 0, 4, .inl t_counts))]) : Std l y_Phrase_choose (.code y_Phrase_choose b_Phrase_choose 4 (some .int)) { frames := 0, cells := 0, slots := 0, locals := 0 } D tc [.ref qt] [(qt, .inr (3, [.ref qt_said, .ref qt_chosen, .ref qt_candidates, .ref qt_costs, .ref qt_followers, .ref qt_counts, .int t_size, .int t_chosenSize])), (qt_said, .inl (tc 1, 4, .inr (.inl t_said))), (qt_chosen, .inl (tc 1, 4, .inr (.inl t_chosen))), (qt_candidates, .inl (tc 4, 4, .inr (.inr (.inr (.inr (fun i => some (rt_candidates i))))))), (rt_candidates 0, .inl (tc 1, 24, .inr (.inl (t_candidates 0)))), (rt_candidates 1, .inl (tc 1, 24, .inr (.inl (t_candidates 1)))), (rt_candidates 2, .inl (tc 1, 24, .inr (.inl (t_candidates 2)))), (rt_candidates 3, .inl (tc 1, 24, .inr (.inl (t_candidates 3)))), (qt_costs, .inl (tc 3, 4, .inr (.inr (.inr (.inr (fun i => some (rt_costs i))))))), (rt_costs 0, .inl (tc 0, 24, .inl (t_costs 0))), (rt_costs 1, .inl (tc 0, 24, .inl (t_costs 1))), (rt_costs 2, .inl (tc 0, 24, .inl (t_costs 2))), (rt_costs 3, .inl (tc 0, 24, .inl (t_costs 3))), (qt_followers, .inl (tc 3, 4, .inr (.inr (.inr (.inr (fun i => some (rt_followers i))))))), (rt_followers 0, .inl (tc 0, 24, .inl (t_followers 0))), (rt_followers 1, .inl (tc 0, 24, .inl (t_followers 1))), (rt_followers 2, .inl (tc 0, 24, .inl (t_followers 2))), (rt_followers 3, .inl (tc 0, 24, .inl (t_followers 3))), (qt_counts, .inl (tc 0, 4, .inl t_counts))] 0 0 POST := by
  refine std_of (lv := [(0, .ref qt)]) (by decide) (Nat.le_of_ble_eq_true rfl) rfl (fun p e s m args below meth c A C hr hnm => ?_)
  have K4 : ∀ (v_t_chosenSize : Int32) (v_t_chosen : Nat → Int64) (n : Nat) (l1 : Int32) (l2 : Int32) (x : (Int32)), f_Phrase_choose_4 t_size t_candidates t_costs t_followers t_counts v_t_chosenSize v_t_chosen n l1 l2 = some x → (Go p l e { frames := 0, cells := 0, slots := 0, locals := 0 } s m args below meth c (MQ below (Qs D A POST) args s 0 0 A) D A 4 0 0 [(qt, .inr (3, [.ref qt_said, .ref qt_chosen, .ref qt_candidates, .ref qt_costs, .ref qt_followers, .ref qt_counts, .int t_size, .int v_t_chosenSize])), (qt_said, .inl (tc 1, 4, .inr (.inl t_said))), (qt_chosen, .inl (tc 1, 4, .inr (.inl v_t_chosen))), (qt_candidates, .inl (tc 4, 4, .inr (.inr (.inr (.inr (fun i => some (rt_candidates i))))))), (rt_candidates 0, .inl (tc 1, 24, .inr (.inl (t_candidates 0)))), (rt_candidates 1, .inl (tc 1, 24, .inr (.inl (t_candidates 1)))), (rt_candidates 2, .inl (tc 1, 24, .inr (.inl (t_candidates 2)))), (rt_candidates 3, .inl (tc 1, 24, .inr (.inl (t_candidates 3)))), (qt_costs, .inl (tc 3, 4, .inr (.inr (.inr (.inr (fun i => some (rt_costs i))))))), (rt_costs 0, .inl (tc 0, 24, .inl (t_costs 0))), (rt_costs 1, .inl (tc 0, 24, .inl (t_costs 1))), (rt_costs 2, .inl (tc 0, 24, .inl (t_costs 2))), (rt_costs 3, .inl (tc 0, 24, .inl (t_costs 3))), (qt_followers, .inl (tc 3, 4, .inr (.inr (.inr (.inr (fun i => some (rt_followers i))))))), (rt_followers 0, .inl (tc 0, 24, .inl (t_followers 0))), (rt_followers 1, .inl (tc 0, 24, .inl (t_followers 1))), (rt_followers 2, .inl (tc 0, 24, .inl (t_followers 2))), (rt_followers 3, .inl (tc 0, 24, .inl (t_followers 3))), (qt_counts, .inl (tc 0, 4, .inl t_counts))] [(0, .ref qt), (1, .int x)] 41 []) → Go p l e { frames := 0, cells := 0, slots := 0, locals := 0 } s m args below meth c (MQ below (Qs D A POST) args s 0 0 A) D A 4 0 0 [(qt, .inr (3, [.ref qt_said, .ref qt_chosen, .ref qt_candidates, .ref qt_costs, .ref qt_followers, .ref qt_counts, .int t_size, .int v_t_chosenSize])), (qt_said, .inl (tc 1, 4, .inr (.inl t_said))), (qt_chosen, .inl (tc 1, 4, .inr (.inl v_t_chosen))), (qt_candidates, .inl (tc 4, 4, .inr (.inr (.inr (.inr (fun i => some (rt_candidates i))))))), (rt_candidates 0, .inl (tc 1, 24, .inr (.inl (t_candidates 0)))), (rt_candidates 1, .inl (tc 1, 24, .inr (.inl (t_candidates 1)))), (rt_candidates 2, .inl (tc 1, 24, .inr (.inl (t_candidates 2)))), (rt_candidates 3, .inl (tc 1, 24, .inr (.inl (t_candidates 3)))), (qt_costs, .inl (tc 3, 4, .inr (.inr (.inr (.inr (fun i => some (rt_costs i))))))), (rt_costs 0, .inl (tc 0, 24, .inl (t_costs 0))), (rt_costs 1, .inl (tc 0, 24, .inl (t_costs 1))), (rt_costs 2, .inl (tc 0, 24, .inl (t_costs 2))), (rt_costs 3, .inl (tc 0, 24, .inl (t_costs 3))), (qt_followers, .inl (tc 3, 4, .inr (.inr (.inr (.inr (fun i => some (rt_followers i))))))), (rt_followers 0, .inl (tc 0, 24, .inl (t_followers 0))), (rt_followers 1, .inl (tc 0, 24, .inl (t_followers 1))), (rt_followers 2, .inl (tc 0, 24, .inl (t_followers 2))), (rt_followers 3, .inl (tc 0, 24, .inl (t_followers 3))), (qt_counts, .inl (tc 0, 4, .inl t_counts))] [(0, .ref qt), (1, .int l1), (2, .int l2)] 4 [] := by
    intro v_t_chosenSize v_t_chosen n
    induction n with
    | zero =>
      intro l1 l2 x hf hE
      simp [f_Phrase_choose_4] at hf
    | succ n ih =>
      intro l1 l2 x hf hE
      have hf : f_Phrase_choose_4b t_size t_candidates t_costs t_followers t_counts v_t_chosenSize v_t_chosen (f_Phrase_choose_4 t_size t_candidates t_costs t_followers t_counts v_t_chosenSize v_t_chosen n) l1 l2 = some x := hf
      have K35 : ∀ (l1 : Int32) (l2 : Int32), f_Phrase_choose_35 (f_Phrase_choose_4 t_size t_candidates t_costs t_followers t_counts v_t_chosenSize v_t_chosen n) t_size t_candidates t_costs t_followers t_counts v_t_chosenSize v_t_chosen l1 l2 = some x → Go p l e { frames := 0, cells := 0, slots := 0, locals := 0 } s m args below meth c (MQ below (Qs D A POST) args s 0 0 A) D A 4 0 0 [(qt, .inr (3, [.ref qt_said, .ref qt_chosen, .ref qt_candidates, .ref qt_costs, .ref qt_followers, .ref qt_counts, .int t_size, .int v_t_chosenSize])), (qt_said, .inl (tc 1, 4, .inr (.inl t_said))), (qt_chosen, .inl (tc 1, 4, .inr (.inl v_t_chosen))), (qt_candidates, .inl (tc 4, 4, .inr (.inr (.inr (.inr (fun i => some (rt_candidates i))))))), (rt_candidates 0, .inl (tc 1, 24, .inr (.inl (t_candidates 0)))), (rt_candidates 1, .inl (tc 1, 24, .inr (.inl (t_candidates 1)))), (rt_candidates 2, .inl (tc 1, 24, .inr (.inl (t_candidates 2)))), (rt_candidates 3, .inl (tc 1, 24, .inr (.inl (t_candidates 3)))), (qt_costs, .inl (tc 3, 4, .inr (.inr (.inr (.inr (fun i => some (rt_costs i))))))), (rt_costs 0, .inl (tc 0, 24, .inl (t_costs 0))), (rt_costs 1, .inl (tc 0, 24, .inl (t_costs 1))), (rt_costs 2, .inl (tc 0, 24, .inl (t_costs 2))), (rt_costs 3, .inl (tc 0, 24, .inl (t_costs 3))), (qt_followers, .inl (tc 3, 4, .inr (.inr (.inr (.inr (fun i => some (rt_followers i))))))), (rt_followers 0, .inl (tc 0, 24, .inl (t_followers 0))), (rt_followers 1, .inl (tc 0, 24, .inl (t_followers 1))), (rt_followers 2, .inl (tc 0, 24, .inl (t_followers 2))), (rt_followers 3, .inl (tc 0, 24, .inl (t_followers 3))), (qt_counts, .inl (tc 0, 4, .inl t_counts))] [(0, .ref qt), (1, .int l1), (2, .int l2)] 35 [] := by
        intro l1 l2 hf
        unfold f_Phrase_choose_35 at hf
        refine go_iinc C d_Phrase_choose_35 2 rfl (v := l2 + (1 : Int32)) rfl (lv' := [(2, .int (l2 + (1 : Int32))), (0, .ref qt), (1, .int l1)]) (by decide) rfl (n := 38) rfl ?_
        refine go_goto C d_Phrase_choose_38 (tgt := 4) (by decide) ?_
        refine go_lv (lv' := [(0, .ref qt), (1, .int l1), (2, .int (l2 + (1 : Int32)))]) [1, 2, 0] rfl ?_
        exact ih l1 (l2 + (1 : Int32)) x hf hE
      unfold f_Phrase_choose_4b at hf
      refine go_iload_n C d_Phrase_choose_4 rfl 2 rfl (n := 5) rfl ?_
      refine go_aload_n C d_Phrase_choose_5 rfl 0 rfl (n := 6) rfl ?_
      refine go_get C d_Phrase_choose_6 fl_Phrase_31 0 rfl rfl (n := 9) rfl ?_
      refine go_iconst C (v := 0) d_Phrase_choose_9 rfl (n := 10) rfl ?_
      refine go_iald C d_Phrase_choose_10 18 rfl (by decide) (n := 11) rfl ?_
      have hi11 := iteS hf
      refine go_icmp_ge C d_Phrase_choose_11 (tgt := 41) (by decide) (n := 14) rfl (fun h11 => ?_) (fun h11 => ?_)
      · have hf := hi11.1 h11
        refine go_lv (lv' := [(0, .ref qt), (1, .int l1)]) [0, 1] rfl ?_
        cases hf
        exact hE
      · have hf := hi11.2 h11
        refine go_aload_n C d_Phrase_choose_14 rfl 0 rfl (n := 15) rfl ?_
        refine go_get C d_Phrase_choose_15 fl_Phrase_25 0 rfl rfl (n := 18) rfl ?_
        refine go_iconst C (v := 0) d_Phrase_choose_18 rfl (n := 19) rfl ?_
        refine go_aaldR C d_Phrase_choose_19 8 3 rfl rfl rfl (by decide) (n := 20) rfl ?_
        refine go_iload_n C d_Phrase_choose_20 rfl 2 rfl (n := 21) rfl ?_
        obtain ⟨hg21, hf⟩ := guardS hf
        refine go_ialdR C d_Phrase_choose_21 9 (rows4 rfl rfl rfl rfl) (by decide) hg21 (n := 22) rfl ?_
        refine go_aload_n C d_Phrase_choose_22 rfl 0 rfl (n := 23) rfl ?_
        refine go_get C d_Phrase_choose_23 fl_Phrase_25 0 rfl rfl (n := 26) rfl ?_
        refine go_iconst C (v := 0) d_Phrase_choose_26 rfl (n := 27) rfl ?_
        refine go_aaldR C d_Phrase_choose_27 8 3 rfl rfl rfl (by decide) (n := 28) rfl ?_
        refine go_iload_n C d_Phrase_choose_28 rfl 1 rfl (n := 29) rfl ?_
        obtain ⟨hg29, hf⟩ := guardS hf
        refine go_ialdR C d_Phrase_choose_29 9 (rows4 rfl rfl rfl rfl) (by decide) hg29 (n := 30) rfl ?_
        have hi30 := iteS hf
        refine go_icmp_ge C d_Phrase_choose_30 (tgt := 35) (by decide) (n := 33) rfl (fun h30 => ?_) (fun h30 => ?_)
        · have hf := hi30.1 h30
          exact K35 l1 l2 hf
        · have hf := hi30.2 h30
          refine go_iload_n C d_Phrase_choose_33 rfl 2 rfl (n := 34) rfl ?_
          refine go_istore_n C d_Phrase_choose_34 rfl (lv' := [(1, .int l2), (0, .ref qt), (2, .int l2)]) (by decide) rfl (n := 35) rfl ?_
          refine go_lv (lv' := [(0, .ref qt), (1, .int l2), (2, .int l2)]) [1, 0, 2] rfl ?_
          exact K35 l2 l2 hf
  have K59 : ∀ (v_t_chosenSize : Int32) (l1 : Int32) (n : Nat) (v_t_chosen : Nat → Int64) (l2 : Int32) (l3 : Int32) (x : ((Nat → Int64))), f_Phrase_choose_59 t_size t_candidates t_costs t_followers t_counts v_t_chosenSize l1 n v_t_chosen l2 l3 = some x → (Go p l e { frames := 0, cells := 0, slots := 0, locals := 0 } s m args below meth c (MQ below (Qs D A POST) args s 0 0 A) D A 4 0 0 [(qt, .inr (3, [.ref qt_said, .ref qt_chosen, .ref qt_candidates, .ref qt_costs, .ref qt_followers, .ref qt_counts, .int t_size, .int v_t_chosenSize])), (qt_said, .inl (tc 1, 4, .inr (.inl t_said))), (qt_chosen, .inl (tc 1, 4, .inr (.inl x))), (qt_candidates, .inl (tc 4, 4, .inr (.inr (.inr (.inr (fun i => some (rt_candidates i))))))), (rt_candidates 0, .inl (tc 1, 24, .inr (.inl (t_candidates 0)))), (rt_candidates 1, .inl (tc 1, 24, .inr (.inl (t_candidates 1)))), (rt_candidates 2, .inl (tc 1, 24, .inr (.inl (t_candidates 2)))), (rt_candidates 3, .inl (tc 1, 24, .inr (.inl (t_candidates 3)))), (qt_costs, .inl (tc 3, 4, .inr (.inr (.inr (.inr (fun i => some (rt_costs i))))))), (rt_costs 0, .inl (tc 0, 24, .inl (t_costs 0))), (rt_costs 1, .inl (tc 0, 24, .inl (t_costs 1))), (rt_costs 2, .inl (tc 0, 24, .inl (t_costs 2))), (rt_costs 3, .inl (tc 0, 24, .inl (t_costs 3))), (qt_followers, .inl (tc 3, 4, .inr (.inr (.inr (.inr (fun i => some (rt_followers i))))))), (rt_followers 0, .inl (tc 0, 24, .inl (t_followers 0))), (rt_followers 1, .inl (tc 0, 24, .inl (t_followers 1))), (rt_followers 2, .inl (tc 0, 24, .inl (t_followers 2))), (rt_followers 3, .inl (tc 0, 24, .inl (t_followers 3))), (qt_counts, .inl (tc 0, 4, .inl t_counts))] [(0, .ref qt), (1, .int l1)] 98 []) → Go p l e { frames := 0, cells := 0, slots := 0, locals := 0 } s m args below meth c (MQ below (Qs D A POST) args s 0 0 A) D A 4 0 0 [(qt, .inr (3, [.ref qt_said, .ref qt_chosen, .ref qt_candidates, .ref qt_costs, .ref qt_followers, .ref qt_counts, .int t_size, .int v_t_chosenSize])), (qt_said, .inl (tc 1, 4, .inr (.inl t_said))), (qt_chosen, .inl (tc 1, 4, .inr (.inl v_t_chosen))), (qt_candidates, .inl (tc 4, 4, .inr (.inr (.inr (.inr (fun i => some (rt_candidates i))))))), (rt_candidates 0, .inl (tc 1, 24, .inr (.inl (t_candidates 0)))), (rt_candidates 1, .inl (tc 1, 24, .inr (.inl (t_candidates 1)))), (rt_candidates 2, .inl (tc 1, 24, .inr (.inl (t_candidates 2)))), (rt_candidates 3, .inl (tc 1, 24, .inr (.inl (t_candidates 3)))), (qt_costs, .inl (tc 3, 4, .inr (.inr (.inr (.inr (fun i => some (rt_costs i))))))), (rt_costs 0, .inl (tc 0, 24, .inl (t_costs 0))), (rt_costs 1, .inl (tc 0, 24, .inl (t_costs 1))), (rt_costs 2, .inl (tc 0, 24, .inl (t_costs 2))), (rt_costs 3, .inl (tc 0, 24, .inl (t_costs 3))), (qt_followers, .inl (tc 3, 4, .inr (.inr (.inr (.inr (fun i => some (rt_followers i))))))), (rt_followers 0, .inl (tc 0, 24, .inl (t_followers 0))), (rt_followers 1, .inl (tc 0, 24, .inl (t_followers 1))), (rt_followers 2, .inl (tc 0, 24, .inl (t_followers 2))), (rt_followers 3, .inl (tc 0, 24, .inl (t_followers 3))), (qt_counts, .inl (tc 0, 4, .inl t_counts))] [(0, .ref qt), (1, .int l1), (2, .int l2), (3, .int l3)] 59 [] := by
    intro v_t_chosenSize l1 n
    induction n with
    | zero =>
      intro v_t_chosen l2 l3 x hf hE
      simp [f_Phrase_choose_59] at hf
    | succ n ih =>
      intro v_t_chosen l2 l3 x hf hE
      have hf : f_Phrase_choose_59b t_size t_candidates t_costs t_followers t_counts v_t_chosenSize l1 (f_Phrase_choose_59 t_size t_candidates t_costs t_followers t_counts v_t_chosenSize l1 n) v_t_chosen l2 l3 = some x := hf
      unfold f_Phrase_choose_59b at hf
      refine go_iload_n C d_Phrase_choose_59 rfl 3 rfl (n := 60) rfl ?_
      refine go_aload_n C d_Phrase_choose_60 rfl 0 rfl (n := 61) rfl ?_
      refine go_get C d_Phrase_choose_61 fl_Phrase_35 0 rfl rfl (n := 64) rfl ?_
      have hi64 := iteS hf
      refine go_icmp_ge C d_Phrase_choose_64 (tgt := 98) (by decide) (n := 67) rfl (fun h64 => ?_) (fun h64 => ?_)
      · have hf := hi64.1 h64
        refine go_lv (lv' := [(0, .ref qt), (1, .int l1)]) [0, 1] rfl ?_
        cases hf
        exact hE
      · have hf := hi64.2 h64
        refine go_aload_n C d_Phrase_choose_67 rfl 0 rfl (n := 68) rfl ?_
        refine go_get C d_Phrase_choose_68 fl_Phrase_28 0 rfl rfl (n := 71) rfl ?_
        refine go_iload_n C d_Phrase_choose_71 rfl 3 rfl (n := 72) rfl ?_
        refine go_iconst C (v := 1) d_Phrase_choose_72 rfl (n := 73) rfl ?_
        refine go_isub C d_Phrase_choose_73 (n := 74) rfl ?_
        obtain ⟨hg74, hf⟩ := guardS hf
        refine go_aaldR C d_Phrase_choose_74 13 3 rfl rfl rfl hg74 (n := 75) rfl ?_
        refine go_iload_n C d_Phrase_choose_75 rfl 2 rfl (n := 76) rfl ?_
        obtain ⟨hg76, hf⟩ := guardS hf
        refine go_ialdR C d_Phrase_choose_76 14 (rows4 rfl rfl rfl rfl) hg74 hg76 (n := 77) rfl ?_
        refine go_istore_n C d_Phrase_choose_77 rfl (lv' := [(2, .int (t_followers (l3 - (1 : Int32)).toNatClampNeg l2.toNatClampNeg)), (0, .ref qt), (1, .int l1), (3, .int l3)]) (by decide) rfl (n := 78) rfl ?_
        refine go_aload_n C d_Phrase_choose_78 rfl 1 rfl (n := 79) rfl ?_
        refine go_get C d_Phrase_choose_79 fl_Phrase_15 0 rfl rfl (n := 82) rfl ?_
        refine go_iload_n C d_Phrase_choose_82 rfl 3 rfl (n := 83) rfl ?_
        refine go_aload_n C d_Phrase_choose_83 rfl 1 rfl (n := 84) rfl ?_
        refine go_get C d_Phrase_choose_84 fl_Phrase_20 0 rfl rfl (n := 87) rfl ?_
        refine go_iload_n C d_Phrase_choose_87 rfl 3 rfl (n := 88) rfl ?_
        obtain ⟨hg88, hf⟩ := guardS hf
        refine go_aaldR C d_Phrase_choose_88 3 4 rfl rfl rfl hg88 (n := 89) rfl ?_
        refine go_iload_n C d_Phrase_choose_89 rfl 0 rfl (n := 90) rfl ?_
        obtain ⟨hg90, hf⟩ := guardS hf
        refine go_laldR C d_Phrase_choose_90 4 (rows4 rfl rfl rfl rfl) hg88 hg90 (n := 91) rfl ?_
        obtain ⟨hg91, hf⟩ := guardS hf
        refine go_last C d_Phrase_choose_91 2 rfl hg91 (n := 92) rfl ?_
        refine go_iinc C d_Phrase_choose_92 3 rfl (v := l3 + (1 : Int32)) rfl (lv' := [(3, .int (l3 + (1 : Int32))), (2, .int (t_followers (l3 - (1 : Int32)).toNatClampNeg l2.toNatClampNeg)), (0, .ref qt), (1, .int l1)]) (by decide) rfl (n := 95) rfl ?_
        refine go_goto C d_Phrase_choose_95 (tgt := 59) (by decide) ?_
        refine go_lv (lv' := [(0, .ref qt), (1, .int l1), (2, .int (t_followers (l3 - (1 : Int32)).toNatClampNeg l2.toNatClampNeg)), (3, .int (l3 + (1 : Int32)))]) [2, 3, 1, 0] rfl ?_
        exact ih (vp_updL v_t_chosen l3.toNatClampNeg (t_candidates l3.toNatClampNeg (t_followers (l3 - (1 : Int32)).toNatClampNeg l2.toNatClampNeg).toNatClampNeg)) (t_followers (l3 - (1 : Int32)).toNatClampNeg l2.toNatClampNeg) (l3 + (1 : Int32)) x hf hE
  unfold f_Phrase_choose at hf
  refine go_iconst C (v := 0) d_Phrase_choose_0 rfl (n := 1) rfl ?_
  refine go_istore_n C d_Phrase_choose_1 rfl (lv' := [(1, .int (0 : Int32)), (0, .ref qt)]) (by decide) rfl (n := 2) rfl ?_
  refine go_iconst C (v := 1) d_Phrase_choose_2 rfl (n := 3) rfl ?_
  refine go_istore_n C d_Phrase_choose_3 rfl (lv' := [(2, .int (1 : Int32)), (1, .int (0 : Int32)), (0, .ref qt)]) (by decide) rfl (n := 4) rfl ?_
  refine go_lv (lv' := [(0, .ref qt), (1, .int (0 : Int32)), (2, .int (1 : Int32))]) [2, 1, 0] rfl ?_
  obtain ⟨x4, hx4, hf⟩ := bindS hf
  refine K4 t_chosenSize t_chosen FU (0 : Int32) (1 : Int32) x4 hx4 ?_
  refine go_iload_n C d_Phrase_choose_41 rfl 1 rfl (n := 42) rfl ?_
  refine go_istore_n C d_Phrase_choose_42 rfl (lv' := [(2, .int x4), (0, .ref qt), (1, .int x4)]) (by decide) rfl (n := 43) rfl ?_
  refine go_aload_n C d_Phrase_choose_43 rfl 1 rfl (n := 44) rfl ?_
  refine go_get C d_Phrase_choose_44 fl_Phrase_15 0 rfl rfl (n := 47) rfl ?_
  refine go_iconst C (v := 0) d_Phrase_choose_47 rfl (n := 48) rfl ?_
  refine go_aload_n C d_Phrase_choose_48 rfl 1 rfl (n := 49) rfl ?_
  refine go_get C d_Phrase_choose_49 fl_Phrase_20 0 rfl rfl (n := 52) rfl ?_
  refine go_iconst C (v := 0) d_Phrase_choose_52 rfl (n := 53) rfl ?_
  refine go_aaldR C d_Phrase_choose_53 3 4 rfl rfl rfl (by decide) (n := 54) rfl ?_
  refine go_iload_n C d_Phrase_choose_54 rfl 0 rfl (n := 55) rfl ?_
  obtain ⟨hg55, hf⟩ := guardS hf
  refine go_laldR C d_Phrase_choose_55 4 (rows4 rfl rfl rfl rfl) (by decide) hg55 (n := 56) rfl ?_
  refine go_last C d_Phrase_choose_56 2 rfl (by decide) (n := 57) rfl ?_
  refine go_iconst C (v := 1) d_Phrase_choose_57 rfl (n := 58) rfl ?_
  refine go_istore_n C d_Phrase_choose_58 rfl (lv' := [(3, .int (1 : Int32)), (2, .int x4), (0, .ref qt), (1, .int x4)]) (by decide) rfl (n := 59) rfl ?_
  refine go_lv (lv' := [(0, .ref qt), (1, .int x4), (2, .int x4), (3, .int (1 : Int32))]) [2, 3, 1, 0] rfl ?_
  obtain ⟨x59, hx59, hf⟩ := bindS hf
  refine K59 t_chosenSize x4 FU (vp_updL t_chosen (0 : Int32).toNatClampNeg (t_candidates (0 : Int32).toNatClampNeg x4.toNatClampNeg)) x4 (1 : Int32) x59 hx59 ?_
  refine go_aload_n C d_Phrase_choose_98 rfl 0 rfl (n := 99) rfl ?_
  refine go_aload_n C d_Phrase_choose_99 rfl 0 rfl (n := 100) rfl ?_
  refine go_get C d_Phrase_choose_100 fl_Phrase_35 0 rfl rfl (n := 103) rfl ?_
  refine go_put C d_Phrase_choose_103 fl_Phrase_39 (fs_Phrase 7) rfl rfl rfl 0 rfl (Nat.le_of_ble_eq_true rfl) (n := 106) rfl ?_
  refine go_aload_n C d_Phrase_choose_106 rfl 0 rfl (n := 107) rfl ?_
  refine go_get C d_Phrase_choose_107 fl_Phrase_25 0 rfl rfl (n := 110) rfl ?_
  refine go_iconst C (v := 0) d_Phrase_choose_110 rfl (n := 111) rfl ?_
  refine go_aaldR C d_Phrase_choose_111 8 3 rfl rfl rfl (by decide) (n := 112) rfl ?_
  refine go_iload_n C d_Phrase_choose_112 rfl 1 rfl (n := 113) rfl ?_
  obtain ⟨hg113, hf⟩ := guardS hf
  refine go_ialdR C d_Phrase_choose_113 9 (rows4 rfl rfl rfl rfl) (by decide) hg113 (n := 114) rfl ?_
  cases hf
  exact go_iret C d_Phrase_choose_114 hr hPOST

def f_Phrase_costWith (t_candidates : Nat → Nat → Int64) (t_costs : Nat → Nat → Int32) (p3_size : Int32) (p3_firsts : Nat → Int64) (p3_seconds : Nat → Int64) (p3_times : Nat → Int32) (a0 : Int32) (a1 : Int32) (a2 : Int32) : Option (Int32) :=
  if okI a0 4 = true then if okI a1 24 = true then if okI (a0 + (1 : Int32)) 4 = true then if okI a2 24 = true then if okI a0 4 = true then if okI a1 24 = true then if okI (a0 + (1 : Int32)) 4 = true then if okI a2 24 = true then (f_Pairs_saving p3_size p3_firsts p3_seconds p3_times (t_candidates a0.toNatClampNeg a1.toNatClampNeg) (t_candidates (a0 + (1 : Int32)).toNatClampNeg a2.toNatClampNeg)).bind (fun o47 => some (((t_costs a0.toNatClampNeg a1.toNatClampNeg) + (t_costs (a0 + (1 : Int32)).toNatClampNeg a2.toNatClampNeg)) - o47)) else none else none else none else none else none else none else none else none
set_option maxRecDepth 100000 in
set_option maxHeartbeats 4000000 in
theorem c_Phrase_costWith (l : Launch) (D : va_G) (tc : Nat → ClassId) (qt : Nat) (qt_said : Nat) (qt_chosen : Nat) (qt_candidates : Nat) (rt_candidates : Nat → Nat) (qt_costs : Nat) (rt_costs : Nat → Nat) (qt_followers : Nat) (rt_followers : Nat → Nat) (qt_counts : Nat) (qp3 : Nat) (qp3_firsts : Nat) (qp3_seconds : Nat) (qp3_times : Nat) (t_size : Int32) (t_chosenSize : Int32) (t_said : Nat → Int64) (t_chosen : Nat → Int64) (t_candidates : Nat → Nat → Int64) (t_costs : Nat → Nat → Int32) (t_followers : Nat → Nat → Int32) (t_counts : Nat → Int32) (p3_size : Int32) (p3_firsts : Nat → Int64) (p3_seconds : Nat → Int64) (p3_times : Nat → Int32) (a0 : Int32) (a1 : Int32) (a2 : Int32) {o : (Int32)} (hf : f_Phrase_costWith t_candidates t_costs p3_size p3_firsts p3_seconds p3_times a0 a1 a2 = some o) (POST : Option Value → va_W → Prop) (hPOST : POST (some (.int o)) [(qt, .inr (3, [.ref qt_said, .ref qt_chosen, .ref qt_candidates, .ref qt_costs, .ref qt_followers, .ref qt_counts, .int t_size, .int t_chosenSize])), (qt_said, .inl (tc 1, 4, .inr (.inl t_said))), (qt_chosen, .inl (tc 1, 4, .inr (.inl t_chosen))), (qt_candidates, .inl (tc 4, 4, .inr (.inr (.inr (.inr (fun i => some (rt_candidates i))))))), (rt_candidates 0, .inl (tc 1, 24, .inr (.inl (t_candidates 0)))), (rt_candidates 1, .inl (tc 1, 24, .inr (.inl (t_candidates 1)))), (rt_candidates 2, .inl (tc 1, 24, .inr (.inl (t_candidates 2)))), (rt_candidates 3, .inl (tc 1, 24, .inr (.inl (t_candidates 3)))), (qt_costs, .inl (tc 3, 4, .inr (.inr (.inr (.inr (fun i => some (rt_costs i))))))), (rt_costs 0, .inl (tc 0, 24, .inl (t_costs 0))), (rt_costs 1, .inl (tc 0, 24, .inl (t_costs 1))), (rt_costs 2, .inl (tc 0, 24, .inl (t_costs 2))), (rt_costs 3, .inl (tc 0, 24, .inl (t_costs 3))), (qt_followers, .inl (tc 3, 4, .inr (.inr (.inr (.inr (fun i => some (rt_followers i))))))), (rt_followers 0, .inl (tc 0, 24, .inl (t_followers 0))), (rt_followers 1, .inl (tc 0, 24, .inl (t_followers 1))), (rt_followers 2, .inl (tc 0, 24, .inl (t_followers 2))), (rt_followers 3, .inl (tc 0, 24, .inl (t_followers 3))), (qt_counts, .inl (tc 0, 4, .inl t_counts)), (qp3, .inr (2, [.ref qp3_firsts, .ref qp3_seconds, .ref qp3_times, .int p3_size])), (qp3_firsts, .inl (tc 1, 40, .inr (.inl p3_firsts))), (qp3_seconds, .inl (tc 1, 40, .inr (.inl p3_seconds))), (qp3_times, .inl (tc 0, 40, .inl p3_times))]) : Std l y_Phrase_costWith (.code y_Phrase_costWith b_Phrase_costWith 9 (some .int)) { frames := 2, cells := 0, slots := 0, locals := 50 } D tc [.ref qt, .int a0, .int a1, .int a2, .ref qp3] [(qt, .inr (3, [.ref qt_said, .ref qt_chosen, .ref qt_candidates, .ref qt_costs, .ref qt_followers, .ref qt_counts, .int t_size, .int t_chosenSize])), (qt_said, .inl (tc 1, 4, .inr (.inl t_said))), (qt_chosen, .inl (tc 1, 4, .inr (.inl t_chosen))), (qt_candidates, .inl (tc 4, 4, .inr (.inr (.inr (.inr (fun i => some (rt_candidates i))))))), (rt_candidates 0, .inl (tc 1, 24, .inr (.inl (t_candidates 0)))), (rt_candidates 1, .inl (tc 1, 24, .inr (.inl (t_candidates 1)))), (rt_candidates 2, .inl (tc 1, 24, .inr (.inl (t_candidates 2)))), (rt_candidates 3, .inl (tc 1, 24, .inr (.inl (t_candidates 3)))), (qt_costs, .inl (tc 3, 4, .inr (.inr (.inr (.inr (fun i => some (rt_costs i))))))), (rt_costs 0, .inl (tc 0, 24, .inl (t_costs 0))), (rt_costs 1, .inl (tc 0, 24, .inl (t_costs 1))), (rt_costs 2, .inl (tc 0, 24, .inl (t_costs 2))), (rt_costs 3, .inl (tc 0, 24, .inl (t_costs 3))), (qt_followers, .inl (tc 3, 4, .inr (.inr (.inr (.inr (fun i => some (rt_followers i))))))), (rt_followers 0, .inl (tc 0, 24, .inl (t_followers 0))), (rt_followers 1, .inl (tc 0, 24, .inl (t_followers 1))), (rt_followers 2, .inl (tc 0, 24, .inl (t_followers 2))), (rt_followers 3, .inl (tc 0, 24, .inl (t_followers 3))), (qt_counts, .inl (tc 0, 4, .inl t_counts)), (qp3, .inr (2, [.ref qp3_firsts, .ref qp3_seconds, .ref qp3_times, .int p3_size])), (qp3_firsts, .inl (tc 1, 40, .inr (.inl p3_firsts))), (qp3_seconds, .inl (tc 1, 40, .inr (.inl p3_seconds))), (qp3_times, .inl (tc 0, 40, .inl p3_times))] 0 0 POST := by
  refine std_of (lv := [(0, .ref qt), (1, .int a0), (2, .int a1), (3, .int a2), (4, .ref qp3)]) (by decide) (Nat.le_of_ble_eq_true rfl) rfl (fun p e s m args below meth c A C hr hnm => ?_)
  unfold f_Phrase_costWith at hf
  refine go_aload_n C d_Phrase_costWith_0 rfl 0 rfl (n := 1) rfl ?_
  refine go_get C d_Phrase_costWith_1 fl_Phrase_20 0 rfl rfl (n := 4) rfl ?_
  refine go_iload_n C d_Phrase_costWith_4 rfl 1 rfl (n := 5) rfl ?_
  obtain ⟨hg5, hf⟩ := guardS hf
  refine go_aaldR C d_Phrase_costWith_5 3 4 rfl rfl rfl hg5 (n := 6) rfl ?_
  refine go_iload_n C d_Phrase_costWith_6 rfl 2 rfl (n := 7) rfl ?_
  obtain ⟨hg7, hf⟩ := guardS hf
  refine go_laldR C d_Phrase_costWith_7 4 (rows4 rfl rfl rfl rfl) hg5 hg7 (n := 8) rfl ?_
  refine go_lstore C d_Phrase_costWith_8 (lv' := [(5, .long (t_candidates a0.toNatClampNeg a1.toNatClampNeg)), (0, .ref qt), (1, .int a0), (2, .int a1), (3, .int a2), (4, .ref qp3)]) (by decide) rfl (n := 10) rfl ?_
  refine go_aload_n C d_Phrase_costWith_10 rfl 1 rfl (n := 11) rfl ?_
  refine go_get C d_Phrase_costWith_11 fl_Phrase_20 0 rfl rfl (n := 14) rfl ?_
  refine go_iload_n C d_Phrase_costWith_14 rfl 2 rfl (n := 15) rfl ?_
  refine go_iconst C (v := 1) d_Phrase_costWith_15 rfl (n := 16) rfl ?_
  refine go_iadd C d_Phrase_costWith_16 (n := 17) rfl ?_
  obtain ⟨hg17, hf⟩ := guardS hf
  refine go_aaldR C d_Phrase_costWith_17 3 4 rfl rfl rfl hg17 (n := 18) rfl ?_
  refine go_iload_n C d_Phrase_costWith_18 rfl 4 rfl (n := 19) rfl ?_
  obtain ⟨hg19, hf⟩ := guardS hf
  refine go_laldR C d_Phrase_costWith_19 4 (rows4 rfl rfl rfl rfl) hg17 hg19 (n := 20) rfl ?_
  refine go_lstore C d_Phrase_costWith_20 (lv' := [(7, .long (t_candidates (a0 + (1 : Int32)).toNatClampNeg a2.toNatClampNeg)), (5, .long (t_candidates a0.toNatClampNeg a1.toNatClampNeg)), (0, .ref qt), (1, .int a0), (2, .int a1), (3, .int a2), (4, .ref qp3)]) (by decide) rfl (n := 22) rfl ?_
  refine go_aload_n C d_Phrase_costWith_22 rfl 2 rfl (n := 23) rfl ?_
  refine go_get C d_Phrase_costWith_23 fl_Phrase_25 0 rfl rfl (n := 26) rfl ?_
  refine go_iload_n C d_Phrase_costWith_26 rfl 3 rfl (n := 27) rfl ?_
  obtain ⟨hg27, hf⟩ := guardS hf
  refine go_aaldR C d_Phrase_costWith_27 8 3 rfl rfl rfl hg27 (n := 28) rfl ?_
  refine go_iload_n C d_Phrase_costWith_28 rfl 4 rfl (n := 29) rfl ?_
  obtain ⟨hg29, hf⟩ := guardS hf
  refine go_ialdR C d_Phrase_costWith_29 9 (rows4 rfl rfl rfl rfl) hg27 hg29 (n := 30) rfl ?_
  refine go_aload_n C d_Phrase_costWith_30 rfl 2 rfl (n := 31) rfl ?_
  refine go_get C d_Phrase_costWith_31 fl_Phrase_25 0 rfl rfl (n := 34) rfl ?_
  refine go_iload_n C d_Phrase_costWith_34 rfl 3 rfl (n := 35) rfl ?_
  refine go_iconst C (v := 1) d_Phrase_costWith_35 rfl (n := 36) rfl ?_
  refine go_iadd C d_Phrase_costWith_36 (n := 37) rfl ?_
  obtain ⟨hg37, hf⟩ := guardS hf
  refine go_aaldR C d_Phrase_costWith_37 8 3 rfl rfl rfl hg37 (n := 38) rfl ?_
  refine go_iload_n C d_Phrase_costWith_38 rfl 5 rfl (n := 39) rfl ?_
  obtain ⟨hg39, hf⟩ := guardS hf
  refine go_ialdR C d_Phrase_costWith_39 9 (rows4 rfl rfl rfl rfl) hg37 hg39 (n := 40) rfl ?_
  refine go_iadd C d_Phrase_costWith_40 (n := 41) rfl ?_
  refine go_aload C d_Phrase_costWith_41 6 rfl (n := 43) rfl ?_
  refine go_lload C d_Phrase_costWith_43 1 rfl (n := 45) rfl ?_
  refine go_lload C d_Phrase_costWith_45 0 rfl (n := 47) rfl ?_
  obtain ⟨o47, ho47, hf⟩ := bindS hf
  refine go_callVr C (As := [.long (t_candidates a0.toNatClampNeg a1.toNatClampNeg), .long (t_candidates (a0 + (1 : Int32)).toNatClampNeg a2.toNatClampNeg)]) (rest := [.int ((t_costs a0.toNatClampNeg a1.toNatClampNeg) + (t_costs (a0 + (1 : Int32)).toNatClampNeg a2.toNatClampNeg))]) d_Phrase_costWith_47 (c_Pairs_saving l D tc qp3 qp3_firsts qp3_seconds qp3_times p3_size p3_firsts p3_seconds p3_times (t_candidates a0.toNatClampNeg a1.toNatClampNeg) (t_candidates (a0 + (1 : Int32)).toNatClampNeg a2.toNatClampNeg) ho47 (fun r w => r = some (.int o47) ∧ w = [(qp3, .inr (2, [.ref qp3_firsts, .ref qp3_seconds, .ref qp3_times, .int p3_size])), (qp3_firsts, .inl (tc 1, 40, .inr (.inl p3_firsts))), (qp3_seconds, .inl (tc 1, 40, .inr (.inl p3_seconds))), (qp3_times, .inl (tc 0, 40, .inl p3_times))]) ⟨rfl, rfl⟩) lk_Phrase_76 mw_Pairs_saving sv_Pairs_saving 19 rfl rfl rfl rfl ⟨(Nat.le_of_ble_eq_true rfl), (Nat.le_of_ble_eq_true rfl)⟩ rfl rfl (Nat.le_of_ble_eq_true rfl) ⟨(Nat.le_of_ble_eq_true rfl), (Nat.le_of_ble_eq_true rfl)⟩ [19, 20, 21, 22] rfl (by decide) (n := 50) rfl ?_
  refine go_isub C d_Phrase_costWith_50 (n := 51) rfl ?_
  cases hf
  exact go_iret C d_Phrase_costWith_51 hr hPOST
