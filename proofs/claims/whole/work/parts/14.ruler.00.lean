def f_Ruler_leastChanges_46 (t_least : Nat → Nat → Int32) (a0 : Int64) (a1 : Int64) (a2 : Int32) (a3 : Int32) (l7 : Int32) (l8 : Int32) (s0 : Int32) (s1 : Int32) : Option (Int32) :=
  if okI (a2 - (1 : Int32)) 9 = true then if okI a3 9 = true then if okI a2 9 = true then if okI (a3 - (1 : Int32)) 9 = true then if a2 ≤ (1 : Int32) then some (if ((t_least a2.toNatClampNeg (a3 - (1 : Int32)).toNatClampNeg) + (1 : Int32)) < (if ((t_least (a2 - (1 : Int32)).toNatClampNeg a3.toNatClampNeg) + (1 : Int32)) < (s1 + s0) then (t_least (a2 - (1 : Int32)).toNatClampNeg a3.toNatClampNeg) + (1 : Int32) else s1 + s0) then (t_least a2.toNatClampNeg (a3 - (1 : Int32)).toNatClampNeg) + (1 : Int32) else if ((t_least (a2 - (1 : Int32)).toNatClampNeg a3.toNatClampNeg) + (1 : Int32)) < (s1 + s0) then (t_least (a2 - (1 : Int32)).toNatClampNeg a3.toNatClampNeg) + (1 : Int32) else s1 + s0) else if a3 ≤ (1 : Int32) then some (if ((t_least a2.toNatClampNeg (a3 - (1 : Int32)).toNatClampNeg) + (1 : Int32)) < (if ((t_least (a2 - (1 : Int32)).toNatClampNeg a3.toNatClampNeg) + (1 : Int32)) < (s1 + s0) then (t_least (a2 - (1 : Int32)).toNatClampNeg a3.toNatClampNeg) + (1 : Int32) else s1 + s0) then (t_least a2.toNatClampNeg (a3 - (1 : Int32)).toNatClampNeg) + (1 : Int32) else if ((t_least (a2 - (1 : Int32)).toNatClampNeg a3.toNatClampNeg) + (1 : Int32)) < (s1 + s0) then (t_least (a2 - (1 : Int32)).toNatClampNeg a3.toNatClampNeg) + (1 : Int32) else s1 + s0) else (f_Texts_letterAt a1 (a3 - (2 : Int32))).bind (fun o110 => if l7 = o110 then (f_Texts_letterAt a0 (a2 - (2 : Int32))).bind (fun o123 => if l8 = o123 then if okI (a2 - (2 : Int32)) 9 = true then if okI (a3 - (2 : Int32)) 9 = true then some (if ((t_least (a2 - (2 : Int32)).toNatClampNeg (a3 - (2 : Int32)).toNatClampNeg) + (1 : Int32)) < (if ((t_least a2.toNatClampNeg (a3 - (1 : Int32)).toNatClampNeg) + (1 : Int32)) < (if ((t_least (a2 - (1 : Int32)).toNatClampNeg a3.toNatClampNeg) + (1 : Int32)) < (s1 + s0) then (t_least (a2 - (1 : Int32)).toNatClampNeg a3.toNatClampNeg) + (1 : Int32) else s1 + s0) then (t_least a2.toNatClampNeg (a3 - (1 : Int32)).toNatClampNeg) + (1 : Int32) else if ((t_least (a2 - (1 : Int32)).toNatClampNeg a3.toNatClampNeg) + (1 : Int32)) < (s1 + s0) then (t_least (a2 - (1 : Int32)).toNatClampNeg a3.toNatClampNeg) + (1 : Int32) else s1 + s0) then (t_least (a2 - (2 : Int32)).toNatClampNeg (a3 - (2 : Int32)).toNatClampNeg) + (1 : Int32) else if ((t_least a2.toNatClampNeg (a3 - (1 : Int32)).toNatClampNeg) + (1 : Int32)) < (if ((t_least (a2 - (1 : Int32)).toNatClampNeg a3.toNatClampNeg) + (1 : Int32)) < (s1 + s0) then (t_least (a2 - (1 : Int32)).toNatClampNeg a3.toNatClampNeg) + (1 : Int32) else s1 + s0) then (t_least a2.toNatClampNeg (a3 - (1 : Int32)).toNatClampNeg) + (1 : Int32) else if ((t_least (a2 - (1 : Int32)).toNatClampNeg a3.toNatClampNeg) + (1 : Int32)) < (s1 + s0) then (t_least (a2 - (1 : Int32)).toNatClampNeg a3.toNatClampNeg) + (1 : Int32) else s1 + s0) else none else none else some (if ((t_least a2.toNatClampNeg (a3 - (1 : Int32)).toNatClampNeg) + (1 : Int32)) < (if ((t_least (a2 - (1 : Int32)).toNatClampNeg a3.toNatClampNeg) + (1 : Int32)) < (s1 + s0) then (t_least (a2 - (1 : Int32)).toNatClampNeg a3.toNatClampNeg) + (1 : Int32) else s1 + s0) then (t_least a2.toNatClampNeg (a3 - (1 : Int32)).toNatClampNeg) + (1 : Int32) else if ((t_least (a2 - (1 : Int32)).toNatClampNeg a3.toNatClampNeg) + (1 : Int32)) < (s1 + s0) then (t_least (a2 - (1 : Int32)).toNatClampNeg a3.toNatClampNeg) + (1 : Int32) else s1 + s0)) else some (if ((t_least a2.toNatClampNeg (a3 - (1 : Int32)).toNatClampNeg) + (1 : Int32)) < (if ((t_least (a2 - (1 : Int32)).toNatClampNeg a3.toNatClampNeg) + (1 : Int32)) < (s1 + s0) then (t_least (a2 - (1 : Int32)).toNatClampNeg a3.toNatClampNeg) + (1 : Int32) else s1 + s0) then (t_least a2.toNatClampNeg (a3 - (1 : Int32)).toNatClampNeg) + (1 : Int32) else if ((t_least (a2 - (1 : Int32)).toNatClampNeg a3.toNatClampNeg) + (1 : Int32)) < (s1 + s0) then (t_least (a2 - (1 : Int32)).toNatClampNeg a3.toNatClampNeg) + (1 : Int32) else s1 + s0)) else none else none else none else none
def f_Ruler_leastChanges (t_least : Nat → Nat → Int32) (a0 : Int64) (a1 : Int64) (a2 : Int32) (a3 : Int32) : Option (Int32) :=
  (f_Texts_letterAt a0 (a2 - (1 : Int32))).bind (fun o5 => (f_Texts_letterAt a1 (a3 - (1 : Int32))).bind (fun o15 => if okI (a2 - (1 : Int32)) 9 = true then if okI (a3 - (1 : Int32)) 9 = true then if o5 = o15 then f_Ruler_leastChanges_46 t_least a0 a1 a2 a3 o5 o15 (0 : Int32) (t_least (a2 - (1 : Int32)).toNatClampNeg (a3 - (1 : Int32)).toNatClampNeg) else f_Ruler_leastChanges_46 t_least a0 a1 a2 a3 o5 o15 (1 : Int32) (t_least (a2 - (1 : Int32)).toNatClampNeg (a3 - (1 : Int32)).toNatClampNeg) else none else none))
set_option maxRecDepth 100000 in
set_option maxHeartbeats 4000000 in
theorem c_Ruler_leastChanges (l : Launch) (D : va_G) (tc : Nat → ClassId) (qt : Nat) (qt_least : Nat) (rt_least : Nat → Nat) (t_least : Nat → Nat → Int32) (a0 : Int64) (a1 : Int64) (a2 : Int32) (a3 : Int32) {o : (Int32)} (hf : f_Ruler_leastChanges t_least a0 a1 a2 a3 = some o) (POST : Option Value → va_W → Prop) (hPOST : POST (some (.int o)) [(qt, .inr (4, [.ref qt_least])), (qt_least, .inl (tc 3, 9, .inr (.inr (.inr (.inr (fun i => some (rt_least i))))))), (rt_least 0, .inl (tc 0, 9, .inl (t_least 0))), (rt_least 1, .inl (tc 0, 9, .inl (t_least 1))), (rt_least 2, .inl (tc 0, 9, .inl (t_least 2))), (rt_least 3, .inl (tc 0, 9, .inl (t_least 3))), (rt_least 4, .inl (tc 0, 9, .inl (t_least 4))), (rt_least 5, .inl (tc 0, 9, .inl (t_least 5))), (rt_least 6, .inl (tc 0, 9, .inl (t_least 6))), (rt_least 7, .inl (tc 0, 9, .inl (t_least 7))), (rt_least 8, .inl (tc 0, 9, .inl (t_least 8)))]) : Std l y_Ruler_leastChanges (.code y_Ruler_leastChanges b_Ruler_leastChanges 10 (some .int)) { frames := 1, cells := 0, slots := 0, locals := 22 } D tc [.ref qt, .long a0, .long a1, .int a2, .int a3] [(qt, .inr (4, [.ref qt_least])), (qt_least, .inl (tc 3, 9, .inr (.inr (.inr (.inr (fun i => some (rt_least i))))))), (rt_least 0, .inl (tc 0, 9, .inl (t_least 0))), (rt_least 1, .inl (tc 0, 9, .inl (t_least 1))), (rt_least 2, .inl (tc 0, 9, .inl (t_least 2))), (rt_least 3, .inl (tc 0, 9, .inl (t_least 3))), (rt_least 4, .inl (tc 0, 9, .inl (t_least 4))), (rt_least 5, .inl (tc 0, 9, .inl (t_least 5))), (rt_least 6, .inl (tc 0, 9, .inl (t_least 6))), (rt_least 7, .inl (tc 0, 9, .inl (t_least 7))), (rt_least 8, .inl (tc 0, 9, .inl (t_least 8)))] 0 0 POST := by
  refine std_of (lv := [(0, .ref qt), (1, .long a0), (3, .long a1), (5, .int a2), (6, .int a3)]) (by decide) (Nat.le_of_ble_eq_true rfl) rfl (fun p e s m args below meth c A C hr hnm => ?_)
  have K46 : ∀ (l7 : Int32) (l8 : Int32) (s0 : Int32) (s1 : Int32), f_Ruler_leastChanges_46 t_least a0 a1 a2 a3 l7 l8 s0 s1 = some o → Go p l e { frames := 1, cells := 0, slots := 0, locals := 22 } s m args below meth c (MQ below (Qs D A POST) args s 0 0 A) D A 10 0 0 [(qt, .inr (4, [.ref qt_least])), (qt_least, .inl (tc 3, 9, .inr (.inr (.inr (.inr (fun i => some (rt_least i))))))), (rt_least 0, .inl (tc 0, 9, .inl (t_least 0))), (rt_least 1, .inl (tc 0, 9, .inl (t_least 1))), (rt_least 2, .inl (tc 0, 9, .inl (t_least 2))), (rt_least 3, .inl (tc 0, 9, .inl (t_least 3))), (rt_least 4, .inl (tc 0, 9, .inl (t_least 4))), (rt_least 5, .inl (tc 0, 9, .inl (t_least 5))), (rt_least 6, .inl (tc 0, 9, .inl (t_least 6))), (rt_least 7, .inl (tc 0, 9, .inl (t_least 7))), (rt_least 8, .inl (tc 0, 9, .inl (t_least 8)))] [(0, .ref qt), (1, .long a0), (3, .long a1), (5, .int a2), (6, .int a3), (7, .int l7), (8, .int l8)] 46 [.int s0, .int s1] := by
    intro l7 l8 s0 s1 hf
    unfold f_Ruler_leastChanges_46 at hf
    refine go_iadd C d_Ruler_leastChanges_46 (n := 47) rfl ?_
    refine go_istore C d_Ruler_leastChanges_47 (lv' := [(9, .int (s1 + s0)), (0, .ref qt), (1, .long a0), (3, .long a1), (5, .int a2), (6, .int a3), (7, .int l7), (8, .int l8)]) (by decide) rfl (n := 49) rfl ?_
    refine go_iload C d_Ruler_leastChanges_49 0 rfl (n := 51) rfl ?_
    refine go_aload_n C d_Ruler_leastChanges_51 rfl 1 rfl (n := 52) rfl ?_
    refine go_get C d_Ruler_leastChanges_52 fl_Ruler_11 0 rfl rfl (n := 55) rfl ?_
    refine go_iload C d_Ruler_leastChanges_55 4 rfl (n := 57) rfl ?_
    refine go_iconst C (v := 1) d_Ruler_leastChanges_57 rfl (n := 58) rfl ?_
    refine go_isub C d_Ruler_leastChanges_58 (n := 59) rfl ?_
    obtain ⟨hg59, hf⟩ := guardS hf
    refine go_aaldR C d_Ruler_leastChanges_59 1 3 rfl rfl rfl hg59 (n := 60) rfl ?_
    refine go_iload C d_Ruler_leastChanges_60 5 rfl (n := 62) rfl ?_
    obtain ⟨hg62, hf⟩ := guardS hf
    refine go_ialdR C d_Ruler_leastChanges_62 2 (rows9 rfl rfl rfl rfl rfl rfl rfl rfl rfl) hg59 hg62 (n := 63) rfl ?_
    refine go_iconst C (v := 1) d_Ruler_leastChanges_63 rfl (n := 64) rfl ?_
    refine go_iadd C d_Ruler_leastChanges_64 (n := 65) rfl ?_
    refine go_mmin C d_Ruler_leastChanges_65 wl_Ruler_30 wmin (Nat.le_of_ble_eq_true rfl) (Nat.le_of_ble_eq_true rfl) (Nat.le_of_ble_eq_true rfl) (Nat.le_of_ble_eq_true rfl) (n := 68) rfl ?_
    refine go_istore C d_Ruler_leastChanges_68 (lv' := [(9, .int (if ((t_least (a2 - (1 : Int32)).toNatClampNeg a3.toNatClampNeg) + (1 : Int32)) < (s1 + s0) then (t_least (a2 - (1 : Int32)).toNatClampNeg a3.toNatClampNeg) + (1 : Int32) else s1 + s0)), (0, .ref qt), (1, .long a0), (3, .long a1), (5, .int a2), (6, .int a3), (7, .int l7), (8, .int l8)]) (by decide) rfl (n := 70) rfl ?_
    refine go_iload C d_Ruler_leastChanges_70 0 rfl (n := 72) rfl ?_
    refine go_aload_n C d_Ruler_leastChanges_72 rfl 1 rfl (n := 73) rfl ?_
    refine go_get C d_Ruler_leastChanges_73 fl_Ruler_11 0 rfl rfl (n := 76) rfl ?_
    refine go_iload C d_Ruler_leastChanges_76 4 rfl (n := 78) rfl ?_
    obtain ⟨hg78, hf⟩ := guardS hf
    refine go_aaldR C d_Ruler_leastChanges_78 1 3 rfl rfl rfl hg78 (n := 79) rfl ?_
    refine go_iload C d_Ruler_leastChanges_79 5 rfl (n := 81) rfl ?_
    refine go_iconst C (v := 1) d_Ruler_leastChanges_81 rfl (n := 82) rfl ?_
    refine go_isub C d_Ruler_leastChanges_82 (n := 83) rfl ?_
    obtain ⟨hg83, hf⟩ := guardS hf
    refine go_ialdR C d_Ruler_leastChanges_83 2 (rows9 rfl rfl rfl rfl rfl rfl rfl rfl rfl) hg78 hg83 (n := 84) rfl ?_
    refine go_iconst C (v := 1) d_Ruler_leastChanges_84 rfl (n := 85) rfl ?_
    refine go_iadd C d_Ruler_leastChanges_85 (n := 86) rfl ?_
    refine go_mmin C d_Ruler_leastChanges_86 wl_Ruler_30 wmin (Nat.le_of_ble_eq_true rfl) (Nat.le_of_ble_eq_true rfl) (Nat.le_of_ble_eq_true rfl) (Nat.le_of_ble_eq_true rfl) (n := 89) rfl ?_
    refine go_istore C d_Ruler_leastChanges_89 (lv' := [(9, .int (if ((t_least a2.toNatClampNeg (a3 - (1 : Int32)).toNatClampNeg) + (1 : Int32)) < (if ((t_least (a2 - (1 : Int32)).toNatClampNeg a3.toNatClampNeg) + (1 : Int32)) < (s1 + s0) then (t_least (a2 - (1 : Int32)).toNatClampNeg a3.toNatClampNeg) + (1 : Int32) else s1 + s0) then (t_least a2.toNatClampNeg (a3 - (1 : Int32)).toNatClampNeg) + (1 : Int32) else if ((t_least (a2 - (1 : Int32)).toNatClampNeg a3.toNatClampNeg) + (1 : Int32)) < (s1 + s0) then (t_least (a2 - (1 : Int32)).toNatClampNeg a3.toNatClampNeg) + (1 : Int32) else s1 + s0)), (0, .ref qt), (1, .long a0), (3, .long a1), (5, .int a2), (6, .int a3), (7, .int l7), (8, .int l8)]) (by decide) rfl (n := 91) rfl ?_
    refine go_iload C d_Ruler_leastChanges_91 4 rfl (n := 93) rfl ?_
    refine go_iconst C (v := 1) d_Ruler_leastChanges_93 rfl (n := 94) rfl ?_
    have hi94 := iteS hf
    refine go_icmp_le C d_Ruler_leastChanges_94 (tgt := 152) (by decide) (n := 97) rfl (fun h94 => ?_) (fun h94 => ?_)
    · have hf := hi94.1 h94
      refine go_iload C d_Ruler_leastChanges_152 0 rfl (n := 154) rfl ?_
      cases hf
      exact go_iret C d_Ruler_leastChanges_154 hr hPOST
    · have hf := hi94.2 h94
      refine go_iload C d_Ruler_leastChanges_97 5 rfl (n := 99) rfl ?_
      refine go_iconst C (v := 1) d_Ruler_leastChanges_99 rfl (n := 100) rfl ?_
      have hi100 := iteS hf
      refine go_icmp_le C d_Ruler_leastChanges_100 (tgt := 152) (by decide) (n := 103) rfl (fun h100 => ?_) (fun h100 => ?_)
      · have hf := hi100.1 h100
        refine go_iload C d_Ruler_leastChanges_152 0 rfl (n := 154) rfl ?_
        cases hf
        exact go_iret C d_Ruler_leastChanges_154 hr hPOST
      · have hf := hi100.2 h100
        refine go_iload C d_Ruler_leastChanges_103 6 rfl (n := 105) rfl ?_
        refine go_lload_n C d_Ruler_leastChanges_105 rfl 3 rfl (n := 106) rfl ?_
        refine go_iload C d_Ruler_leastChanges_106 5 rfl (n := 108) rfl ?_
        refine go_iconst C (v := 2) d_Ruler_leastChanges_108 rfl (n := 109) rfl ?_
        refine go_isub C d_Ruler_leastChanges_109 (n := 110) rfl ?_
        obtain ⟨o110, ho110, hf⟩ := bindS hf
        refine go_callP C (As := [.long a1, .int (a3 - (2 : Int32))]) (rest := [.int l7]) d_Ruler_leastChanges_110 (c_Texts_letterAt l D tc a1 (a3 - (2 : Int32)) ho110 (fun r w => r = some (.int o110) ∧ w = []) ⟨rfl, rfl⟩) lk_Ruler_26 mw_Texts_letterAt ws_Texts_letterAt rfl rfl ⟨(Nat.le_of_ble_eq_true rfl), (Nat.le_of_ble_eq_true rfl)⟩ rfl rfl (Nat.le_of_ble_eq_true rfl) ⟨(Nat.le_of_ble_eq_true rfl), (Nat.le_of_ble_eq_true rfl)⟩ (n := 113) rfl ?_
        rintro _ _ ⟨rfl, rfl⟩
        have hi113 := iteS hf
        refine go_icmp_ne C d_Ruler_leastChanges_113 (tgt := 152) (by decide) (n := 116) rfl (fun h113 => ?_) (fun h113 => ?_)
        · have hf := hi113.2 h113
          refine go_iload C d_Ruler_leastChanges_152 0 rfl (n := 154) rfl ?_
          cases hf
          exact go_iret C d_Ruler_leastChanges_154 hr hPOST
        · have hf := hi113.1 h113
          refine go_iload C d_Ruler_leastChanges_116 7 rfl (n := 118) rfl ?_
          refine go_lload_n C d_Ruler_leastChanges_118 rfl 2 rfl (n := 119) rfl ?_
          refine go_iload C d_Ruler_leastChanges_119 4 rfl (n := 121) rfl ?_
          refine go_iconst C (v := 2) d_Ruler_leastChanges_121 rfl (n := 122) rfl ?_
          refine go_isub C d_Ruler_leastChanges_122 (n := 123) rfl ?_
          obtain ⟨o123, ho123, hf⟩ := bindS hf
          refine go_callP C (As := [.long a0, .int (a2 - (2 : Int32))]) (rest := [.int l8]) d_Ruler_leastChanges_123 (c_Texts_letterAt l D tc a0 (a2 - (2 : Int32)) ho123 (fun r w => r = some (.int o123) ∧ w = []) ⟨rfl, rfl⟩) lk_Ruler_26 mw_Texts_letterAt ws_Texts_letterAt rfl rfl ⟨(Nat.le_of_ble_eq_true rfl), (Nat.le_of_ble_eq_true rfl)⟩ rfl rfl (Nat.le_of_ble_eq_true rfl) ⟨(Nat.le_of_ble_eq_true rfl), (Nat.le_of_ble_eq_true rfl)⟩ (n := 126) rfl ?_
          rintro _ _ ⟨rfl, rfl⟩
          have hi126 := iteS hf
          refine go_icmp_ne C d_Ruler_leastChanges_126 (tgt := 152) (by decide) (n := 129) rfl (fun h126 => ?_) (fun h126 => ?_)
          · have hf := hi126.2 h126
            refine go_iload C d_Ruler_leastChanges_152 0 rfl (n := 154) rfl ?_
            cases hf
            exact go_iret C d_Ruler_leastChanges_154 hr hPOST
          · have hf := hi126.1 h126
            refine go_iload C d_Ruler_leastChanges_129 0 rfl (n := 131) rfl ?_
            refine go_aload_n C d_Ruler_leastChanges_131 rfl 1 rfl (n := 132) rfl ?_
            refine go_get C d_Ruler_leastChanges_132 fl_Ruler_11 0 rfl rfl (n := 135) rfl ?_
            refine go_iload C d_Ruler_leastChanges_135 4 rfl (n := 137) rfl ?_
            refine go_iconst C (v := 2) d_Ruler_leastChanges_137 rfl (n := 138) rfl ?_
            refine go_isub C d_Ruler_leastChanges_138 (n := 139) rfl ?_
            obtain ⟨hg139, hf⟩ := guardS hf
            refine go_aaldR C d_Ruler_leastChanges_139 1 3 rfl rfl rfl hg139 (n := 140) rfl ?_
            refine go_iload C d_Ruler_leastChanges_140 5 rfl (n := 142) rfl ?_
            refine go_iconst C (v := 2) d_Ruler_leastChanges_142 rfl (n := 143) rfl ?_
            refine go_isub C d_Ruler_leastChanges_143 (n := 144) rfl ?_
            obtain ⟨hg144, hf⟩ := guardS hf
            refine go_ialdR C d_Ruler_leastChanges_144 2 (rows9 rfl rfl rfl rfl rfl rfl rfl rfl rfl) hg139 hg144 (n := 145) rfl ?_
            refine go_iconst C (v := 1) d_Ruler_leastChanges_145 rfl (n := 146) rfl ?_
            refine go_iadd C d_Ruler_leastChanges_146 (n := 147) rfl ?_
            refine go_mmin C d_Ruler_leastChanges_147 wl_Ruler_30 wmin (Nat.le_of_ble_eq_true rfl) (Nat.le_of_ble_eq_true rfl) (Nat.le_of_ble_eq_true rfl) (Nat.le_of_ble_eq_true rfl) (n := 150) rfl ?_
            refine go_istore C d_Ruler_leastChanges_150 (lv' := [(9, .int (if ((t_least (a2 - (2 : Int32)).toNatClampNeg (a3 - (2 : Int32)).toNatClampNeg) + (1 : Int32)) < (if ((t_least a2.toNatClampNeg (a3 - (1 : Int32)).toNatClampNeg) + (1 : Int32)) < (if ((t_least (a2 - (1 : Int32)).toNatClampNeg a3.toNatClampNeg) + (1 : Int32)) < (s1 + s0) then (t_least (a2 - (1 : Int32)).toNatClampNeg a3.toNatClampNeg) + (1 : Int32) else s1 + s0) then (t_least a2.toNatClampNeg (a3 - (1 : Int32)).toNatClampNeg) + (1 : Int32) else if ((t_least (a2 - (1 : Int32)).toNatClampNeg a3.toNatClampNeg) + (1 : Int32)) < (s1 + s0) then (t_least (a2 - (1 : Int32)).toNatClampNeg a3.toNatClampNeg) + (1 : Int32) else s1 + s0) then (t_least (a2 - (2 : Int32)).toNatClampNeg (a3 - (2 : Int32)).toNatClampNeg) + (1 : Int32) else if ((t_least a2.toNatClampNeg (a3 - (1 : Int32)).toNatClampNeg) + (1 : Int32)) < (if ((t_least (a2 - (1 : Int32)).toNatClampNeg a3.toNatClampNeg) + (1 : Int32)) < (s1 + s0) then (t_least (a2 - (1 : Int32)).toNatClampNeg a3.toNatClampNeg) + (1 : Int32) else s1 + s0) then (t_least a2.toNatClampNeg (a3 - (1 : Int32)).toNatClampNeg) + (1 : Int32) else if ((t_least (a2 - (1 : Int32)).toNatClampNeg a3.toNatClampNeg) + (1 : Int32)) < (s1 + s0) then (t_least (a2 - (1 : Int32)).toNatClampNeg a3.toNatClampNeg) + (1 : Int32) else s1 + s0)), (0, .ref qt), (1, .long a0), (3, .long a1), (5, .int a2), (6, .int a3), (7, .int l7), (8, .int l8)]) (by decide) rfl (n := 152) rfl ?_
            refine go_iload C d_Ruler_leastChanges_152 0 rfl (n := 154) rfl ?_
            cases hf
            exact go_iret C d_Ruler_leastChanges_154 hr hPOST
  unfold f_Ruler_leastChanges at hf
  refine go_lload_n C d_Ruler_leastChanges_0 rfl 1 rfl (n := 1) rfl ?_
  refine go_iload C d_Ruler_leastChanges_1 3 rfl (n := 3) rfl ?_
  refine go_iconst C (v := 1) d_Ruler_leastChanges_3 rfl (n := 4) rfl ?_
  refine go_isub C d_Ruler_leastChanges_4 (n := 5) rfl ?_
  obtain ⟨o5, ho5, hf⟩ := bindS hf
  refine go_callP C (As := [.long a0, .int (a2 - (1 : Int32))]) (rest := []) d_Ruler_leastChanges_5 (c_Texts_letterAt l D tc a0 (a2 - (1 : Int32)) ho5 (fun r w => r = some (.int o5) ∧ w = []) ⟨rfl, rfl⟩) lk_Ruler_26 mw_Texts_letterAt ws_Texts_letterAt rfl rfl ⟨(Nat.le_of_ble_eq_true rfl), (Nat.le_of_ble_eq_true rfl)⟩ rfl rfl (Nat.le_of_ble_eq_true rfl) ⟨(Nat.le_of_ble_eq_true rfl), (Nat.le_of_ble_eq_true rfl)⟩ (n := 8) rfl ?_
  rintro _ _ ⟨rfl, rfl⟩
  refine go_istore C d_Ruler_leastChanges_8 (lv' := [(7, .int o5), (0, .ref qt), (1, .long a0), (3, .long a1), (5, .int a2), (6, .int a3)]) (by decide) rfl (n := 10) rfl ?_
  refine go_lload_n C d_Ruler_leastChanges_10 rfl 3 rfl (n := 11) rfl ?_
  refine go_iload C d_Ruler_leastChanges_11 5 rfl (n := 13) rfl ?_
  refine go_iconst C (v := 1) d_Ruler_leastChanges_13 rfl (n := 14) rfl ?_
  refine go_isub C d_Ruler_leastChanges_14 (n := 15) rfl ?_
  obtain ⟨o15, ho15, hf⟩ := bindS hf
  refine go_callP C (As := [.long a1, .int (a3 - (1 : Int32))]) (rest := []) d_Ruler_leastChanges_15 (c_Texts_letterAt l D tc a1 (a3 - (1 : Int32)) ho15 (fun r w => r = some (.int o15) ∧ w = []) ⟨rfl, rfl⟩) lk_Ruler_26 mw_Texts_letterAt ws_Texts_letterAt rfl rfl ⟨(Nat.le_of_ble_eq_true rfl), (Nat.le_of_ble_eq_true rfl)⟩ rfl rfl (Nat.le_of_ble_eq_true rfl) ⟨(Nat.le_of_ble_eq_true rfl), (Nat.le_of_ble_eq_true rfl)⟩ (n := 18) rfl ?_
  rintro _ _ ⟨rfl, rfl⟩
  refine go_istore C d_Ruler_leastChanges_18 (lv' := [(8, .int o15), (7, .int o5), (0, .ref qt), (1, .long a0), (3, .long a1), (5, .int a2), (6, .int a3)]) (by decide) rfl (n := 20) rfl ?_
  refine go_aload_n C d_Ruler_leastChanges_20 rfl 2 rfl (n := 21) rfl ?_
  refine go_get C d_Ruler_leastChanges_21 fl_Ruler_11 0 rfl rfl (n := 24) rfl ?_
  refine go_iload C d_Ruler_leastChanges_24 5 rfl (n := 26) rfl ?_
  refine go_iconst C (v := 1) d_Ruler_leastChanges_26 rfl (n := 27) rfl ?_
  refine go_isub C d_Ruler_leastChanges_27 (n := 28) rfl ?_
  obtain ⟨hg28, hf⟩ := guardS hf
  refine go_aaldR C d_Ruler_leastChanges_28 1 3 rfl rfl rfl hg28 (n := 29) rfl ?_
  refine go_iload C d_Ruler_leastChanges_29 6 rfl (n := 31) rfl ?_
  refine go_iconst C (v := 1) d_Ruler_leastChanges_31 rfl (n := 32) rfl ?_
  refine go_isub C d_Ruler_leastChanges_32 (n := 33) rfl ?_
  obtain ⟨hg33, hf⟩ := guardS hf
  refine go_ialdR C d_Ruler_leastChanges_33 2 (rows9 rfl rfl rfl rfl rfl rfl rfl rfl rfl) hg28 hg33 (n := 34) rfl ?_
  refine go_iload C d_Ruler_leastChanges_34 1 rfl (n := 36) rfl ?_
  refine go_iload C d_Ruler_leastChanges_36 0 rfl (n := 38) rfl ?_
  have hi38 := iteS hf
  refine go_icmp_ne C d_Ruler_leastChanges_38 (tgt := 45) (by decide) (n := 41) rfl (fun h38 => ?_) (fun h38 => ?_)
  · have hf := hi38.2 h38
    refine go_iconst C (v := 1) d_Ruler_leastChanges_45 rfl (n := 46) rfl ?_
    refine go_lv (lv' := [(0, .ref qt), (1, .long a0), (3, .long a1), (5, .int a2), (6, .int a3), (7, .int o5), (8, .int o15)]) [2, 3, 4, 5, 6, 1, 0] rfl ?_
    exact K46 o5 o15 (1 : Int32) (t_least (a2 - (1 : Int32)).toNatClampNeg (a3 - (1 : Int32)).toNatClampNeg) hf
  · have hf := hi38.1 h38
    refine go_iconst C (v := 0) d_Ruler_leastChanges_41 rfl (n := 42) rfl ?_
    refine go_goto C d_Ruler_leastChanges_42 (tgt := 46) (by decide) ?_
    refine go_lv (lv' := [(0, .ref qt), (1, .long a0), (3, .long a1), (5, .int a2), (6, .int a3), (7, .int o5), (8, .int o15)]) [2, 3, 4, 5, 6, 1, 0] rfl ?_
    exact K46 o5 o15 (0 : Int32) (t_least (a2 - (1 : Int32)).toNatClampNeg (a3 - (1 : Int32)).toNatClampNeg) hf

def f_Ruler_between_25b (a0 : Int64) (a1 : Int64) (l5 : Int32) (l6 : Int32) (l7 : Int32) (rec : (Nat → Nat → Int32) → Int32 → Option ((Nat → Nat → Int32))) (v_t_least : Nat → Nat → Int32) (l8 : Int32) : Option ((Nat → Nat → Int32)) :=
  if l6 < l8 then some ( v_t_least) else if okI l7 9 = true then (f_Ruler_leastChanges v_t_least a0 a1 l7 l8).bind (fun o48 => if okI l8 9 = true then rec (va_up v_t_least l7.toNatClampNeg (upd (v_t_least l7.toNatClampNeg) l8.toNatClampNeg o48)) (l8 + (1 : Int32)) else none) else none
def f_Ruler_between_25 (a0 : Int64) (a1 : Int64) (l5 : Int32) (l6 : Int32) (l7 : Int32) : Nat → (Nat → Nat → Int32) → Int32 → Option ((Nat → Nat → Int32))
  | 0 => fun _ _ => none
  | n + 1 => f_Ruler_between_25b a0 a1 l5 l6 l7 (f_Ruler_between_25 a0 a1 l5 l6 l7 n)
def f_Ruler_between_15b (a0 : Int64) (a1 : Int64) (l5 : Int32) (l6 : Int32) (rec : (Nat → Nat → Int32) → Int32 → Option ((Nat → Nat → Int32))) (v_t_least : Nat → Nat → Int32) (l7 : Int32) : Option ((Nat → Nat → Int32)) :=
  if l5 < l7 then some ( v_t_least) else (f_Ruler_between_25 a0 a1 l5 l6 l7 FU v_t_least (1 : Int32)).bind (fun x25 => rec x25 (l7 + (1 : Int32)))
def f_Ruler_between_15 (a0 : Int64) (a1 : Int64) (l5 : Int32) (l6 : Int32) : Nat → (Nat → Nat → Int32) → Int32 → Option ((Nat → Nat → Int32))
  | 0 => fun _ _ => none
  | n + 1 => f_Ruler_between_15b a0 a1 l5 l6 (f_Ruler_between_15 a0 a1 l5 l6 n)
def f_Ruler_between (t_least : Nat → Nat → Int32) (a0 : Int64) (a1 : Int64) : Option (Int32 × (Nat → Nat → Int32)) :=
  (f_Texts_lengthOf a0).bind (fun o1 => (f_Texts_lengthOf a1).bind (fun o7 => (f_Ruler_between_15 a0 a1 o1 o7 FU t_least (1 : Int32)).bind (fun x15 => if okI o1 9 = true then if okI o7 9 = true then some (x15 o1.toNatClampNeg o7.toNatClampNeg, x15) else none else none)))
set_option maxRecDepth 100000 in
set_option maxHeartbeats 4000000 in
theorem c_Ruler_between (l : Launch) (D : va_G) (tc : Nat → ClassId) (qt : Nat) (qt_least : Nat) (rt_least : Nat → Nat) (t_least : Nat → Nat → Int32) (a0 : Int64) (a1 : Int64) {o : (Int32 × (Nat → Nat → Int32))} (hf : f_Ruler_between t_least a0 a1 = some o) (POST : Option Value → va_W → Prop) (hPOST : POST (some (.int o.1)) [(qt, .inr (4, [.ref qt_least])), (qt_least, .inl (tc 3, 9, .inr (.inr (.inr (.inr (fun i => some (rt_least i))))))), (rt_least 0, .inl (tc 0, 9, .inl (o.2 0))), (rt_least 1, .inl (tc 0, 9, .inl (o.2 1))), (rt_least 2, .inl (tc 0, 9, .inl (o.2 2))), (rt_least 3, .inl (tc 0, 9, .inl (o.2 3))), (rt_least 4, .inl (tc 0, 9, .inl (o.2 4))), (rt_least 5, .inl (tc 0, 9, .inl (o.2 5))), (rt_least 6, .inl (tc 0, 9, .inl (o.2 6))), (rt_least 7, .inl (tc 0, 9, .inl (o.2 7))), (rt_least 8, .inl (tc 0, 9, .inl (o.2 8)))]) : Std l y_Ruler_between (.code y_Ruler_between b_Ruler_between 9 (some .int)) { frames := 2, cells := 0, slots := 0, locals := 51 } D tc [.ref qt, .long a0, .long a1] [(qt, .inr (4, [.ref qt_least])), (qt_least, .inl (tc 3, 9, .inr (.inr (.inr (.inr (fun i => some (rt_least i))))))), (rt_least 0, .inl (tc 0, 9, .inl (t_least 0))), (rt_least 1, .inl (tc 0, 9, .inl (t_least 1))), (rt_least 2, .inl (tc 0, 9, .inl (t_least 2))), (rt_least 3, .inl (tc 0, 9, .inl (t_least 3))), (rt_least 4, .inl (tc 0, 9, .inl (t_least 4))), (rt_least 5, .inl (tc 0, 9, .inl (t_least 5))), (rt_least 6, .inl (tc 0, 9, .inl (t_least 6))), (rt_least 7, .inl (tc 0, 9, .inl (t_least 7))), (rt_least 8, .inl (tc 0, 9, .inl (t_least 8)))] 0 0 POST := by
  refine std_of (lv := [(0, .ref qt), (1, .long a0), (3, .long a1)]) (by decide) (Nat.le_of_ble_eq_true rfl) rfl (fun p e s m args below meth c A C hr hnm => ?_)
  have K15 : ∀ (l5 : Int32) (l6 : Int32) (n : Nat) (v_t_least : Nat → Nat → Int32) (l7 : Int32) (x : ((Nat → Nat → Int32))), f_Ruler_between_15 a0 a1 l5 l6 n v_t_least l7 = some x → (Go p l e { frames := 2, cells := 0, slots := 0, locals := 51 } s m args below meth c (MQ below (Qs D A POST) args s 0 0 A) D A 9 0 0 [(qt, .inr (4, [.ref qt_least])), (qt_least, .inl (tc 3, 9, .inr (.inr (.inr (.inr (fun i => some (rt_least i))))))), (rt_least 0, .inl (tc 0, 9, .inl (x 0))), (rt_least 1, .inl (tc 0, 9, .inl (x 1))), (rt_least 2, .inl (tc 0, 9, .inl (x 2))), (rt_least 3, .inl (tc 0, 9, .inl (x 3))), (rt_least 4, .inl (tc 0, 9, .inl (x 4))), (rt_least 5, .inl (tc 0, 9, .inl (x 5))), (rt_least 6, .inl (tc 0, 9, .inl (x 6))), (rt_least 7, .inl (tc 0, 9, .inl (x 7))), (rt_least 8, .inl (tc 0, 9, .inl (x 8)))] [(0, .ref qt), (5, .int l5), (6, .int l6)] 64 []) → Go p l e { frames := 2, cells := 0, slots := 0, locals := 51 } s m args below meth c (MQ below (Qs D A POST) args s 0 0 A) D A 9 0 0 [(qt, .inr (4, [.ref qt_least])), (qt_least, .inl (tc 3, 9, .inr (.inr (.inr (.inr (fun i => some (rt_least i))))))), (rt_least 0, .inl (tc 0, 9, .inl (v_t_least 0))), (rt_least 1, .inl (tc 0, 9, .inl (v_t_least 1))), (rt_least 2, .inl (tc 0, 9, .inl (v_t_least 2))), (rt_least 3, .inl (tc 0, 9, .inl (v_t_least 3))), (rt_least 4, .inl (tc 0, 9, .inl (v_t_least 4))), (rt_least 5, .inl (tc 0, 9, .inl (v_t_least 5))), (rt_least 6, .inl (tc 0, 9, .inl (v_t_least 6))), (rt_least 7, .inl (tc 0, 9, .inl (v_t_least 7))), (rt_least 8, .inl (tc 0, 9, .inl (v_t_least 8)))] [(0, .ref qt), (1, .long a0), (3, .long a1), (5, .int l5), (6, .int l6), (7, .int l7)] 15 [] := by
    intro l5 l6 n
    induction n with
    | zero =>
      intro v_t_least l7 x hf hE
      simp [f_Ruler_between_15] at hf
    | succ n ih =>
      intro v_t_least l7 x hf hE
      have hf : f_Ruler_between_15b a0 a1 l5 l6 (f_Ruler_between_15 a0 a1 l5 l6 n) v_t_least l7 = some x := hf
      have K25 : ∀ (l5 : Int32) (l6 : Int32) (l7 : Int32) (n : Nat) (v_t_least : Nat → Nat → Int32) (l8 : Int32) (x : ((Nat → Nat → Int32))), f_Ruler_between_25 a0 a1 l5 l6 l7 n v_t_least l8 = some x → (Go p l e { frames := 2, cells := 0, slots := 0, locals := 51 } s m args below meth c (MQ below (Qs D A POST) args s 0 0 A) D A 9 0 0 [(qt, .inr (4, [.ref qt_least])), (qt_least, .inl (tc 3, 9, .inr (.inr (.inr (.inr (fun i => some (rt_least i))))))), (rt_least 0, .inl (tc 0, 9, .inl (x 0))), (rt_least 1, .inl (tc 0, 9, .inl (x 1))), (rt_least 2, .inl (tc 0, 9, .inl (x 2))), (rt_least 3, .inl (tc 0, 9, .inl (x 3))), (rt_least 4, .inl (tc 0, 9, .inl (x 4))), (rt_least 5, .inl (tc 0, 9, .inl (x 5))), (rt_least 6, .inl (tc 0, 9, .inl (x 6))), (rt_least 7, .inl (tc 0, 9, .inl (x 7))), (rt_least 8, .inl (tc 0, 9, .inl (x 8)))] [(0, .ref qt), (1, .long a0), (3, .long a1), (5, .int l5), (6, .int l6), (7, .int l7)] 58 []) → Go p l e { frames := 2, cells := 0, slots := 0, locals := 51 } s m args below meth c (MQ below (Qs D A POST) args s 0 0 A) D A 9 0 0 [(qt, .inr (4, [.ref qt_least])), (qt_least, .inl (tc 3, 9, .inr (.inr (.inr (.inr (fun i => some (rt_least i))))))), (rt_least 0, .inl (tc 0, 9, .inl (v_t_least 0))), (rt_least 1, .inl (tc 0, 9, .inl (v_t_least 1))), (rt_least 2, .inl (tc 0, 9, .inl (v_t_least 2))), (rt_least 3, .inl (tc 0, 9, .inl (v_t_least 3))), (rt_least 4, .inl (tc 0, 9, .inl (v_t_least 4))), (rt_least 5, .inl (tc 0, 9, .inl (v_t_least 5))), (rt_least 6, .inl (tc 0, 9, .inl (v_t_least 6))), (rt_least 7, .inl (tc 0, 9, .inl (v_t_least 7))), (rt_least 8, .inl (tc 0, 9, .inl (v_t_least 8)))] [(0, .ref qt), (1, .long a0), (3, .long a1), (5, .int l5), (6, .int l6), (7, .int l7), (8, .int l8)] 25 [] := by
        intro l5 l6 l7 n
        induction n with
        | zero =>
          intro v_t_least l8 x hf hE
          simp [f_Ruler_between_25] at hf
        | succ n ih =>
          intro v_t_least l8 x hf hE
          have hf : f_Ruler_between_25b a0 a1 l5 l6 l7 (f_Ruler_between_25 a0 a1 l5 l6 l7 n) v_t_least l8 = some x := hf
          unfold f_Ruler_between_25b at hf
          refine go_iload C d_Ruler_between_25 6 rfl (n := 27) rfl ?_
          refine go_iload C d_Ruler_between_27 4 rfl (n := 29) rfl ?_
          have hi29 := iteS hf
          refine go_icmp_gt C d_Ruler_between_29 (tgt := 58) (by decide) (n := 32) rfl (fun h29 => ?_) (fun h29 => ?_)
          · have hf := hi29.1 h29
            refine go_lv (lv' := [(0, .ref qt), (1, .long a0), (3, .long a1), (5, .int l5), (6, .int l6), (7, .int l7)]) [0, 1, 2, 3, 4, 5] rfl ?_
            cases hf
            exact hE
          · have hf := hi29.2 h29
            refine go_aload_n C d_Ruler_between_32 rfl 0 rfl (n := 33) rfl ?_
            refine go_get C d_Ruler_between_33 fl_Ruler_11 0 rfl rfl (n := 36) rfl ?_
            refine go_iload C d_Ruler_between_36 5 rfl (n := 38) rfl ?_
            obtain ⟨hg38, hf⟩ := guardS hf
            refine go_aaldR C d_Ruler_between_38 1 3 rfl rfl rfl hg38 (n := 39) rfl ?_
            refine go_iload C d_Ruler_between_39 6 rfl (n := 41) rfl ?_
            refine go_aload_n C d_Ruler_between_41 rfl 0 rfl (n := 42) rfl ?_
            refine go_lload_n C d_Ruler_between_42 rfl 1 rfl (n := 43) rfl ?_
            refine go_lload_n C d_Ruler_between_43 rfl 2 rfl (n := 44) rfl ?_
            refine go_iload C d_Ruler_between_44 5 rfl (n := 46) rfl ?_
            refine go_iload C d_Ruler_between_46 6 rfl (n := 48) rfl ?_
            obtain ⟨o48, ho48, hf⟩ := bindS hf
            refine go_callVr C (As := [.long a0, .long a1, .int l7, .int l8]) (rest := [.int l8, .ref (rt_least l7.toNatClampNeg)]) d_Ruler_between_48 (c_Ruler_leastChanges l D tc qt qt_least rt_least v_t_least a0 a1 l7 l8 ho48 (fun r w => r = some (.int o48) ∧ w = [(qt, .inr (4, [.ref qt_least])), (qt_least, .inl (tc 3, 9, .inr (.inr (.inr (.inr (fun i => some (rt_least i))))))), (rt_least 0, .inl (tc 0, 9, .inl (v_t_least 0))), (rt_least 1, .inl (tc 0, 9, .inl (v_t_least 1))), (rt_least 2, .inl (tc 0, 9, .inl (v_t_least 2))), (rt_least 3, .inl (tc 0, 9, .inl (v_t_least 3))), (rt_least 4, .inl (tc 0, 9, .inl (v_t_least 4))), (rt_least 5, .inl (tc 0, 9, .inl (v_t_least 5))), (rt_least 6, .inl (tc 0, 9, .inl (v_t_least 6))), (rt_least 7, .inl (tc 0, 9, .inl (v_t_least 7))), (rt_least 8, .inl (tc 0, 9, .inl (v_t_least 8)))]) ⟨rfl, rfl⟩) lk_Ruler_22 mw_Ruler_leastChanges sv_Ruler_leastChanges 0 rfl rfl rfl rfl ⟨(Nat.le_of_ble_eq_true rfl), (Nat.le_of_ble_eq_true rfl)⟩ rfl rfl (Nat.le_of_ble_eq_true rfl) ⟨(Nat.le_of_ble_eq_true rfl), (Nat.le_of_ble_eq_true rfl)⟩ [0, 1, 2, 3, 4, 5, 6, 7, 8, 9, 10] rfl (by decide) (n := 51) rfl ?_
            obtain ⟨hg51, hf⟩ := guardS hf
            refine go_iastR C d_Ruler_between_51 2 (rows9 rfl rfl rfl rfl rfl rfl rfl rfl rfl) (WS := fun M2 => [(qt, .inr (4, [.ref qt_least])), (qt_least, .inl (tc 3, 9, .inr (.inr (.inr (.inr (fun i => some (rt_least i))))))), (rt_least 0, .inl (tc 0, 9, .inl (M2 0))), (rt_least 1, .inl (tc 0, 9, .inl (M2 1))), (rt_least 2, .inl (tc 0, 9, .inl (M2 2))), (rt_least 3, .inl (tc 0, 9, .inl (M2 3))), (rt_least 4, .inl (tc 0, 9, .inl (M2 4))), (rt_least 5, .inl (tc 0, 9, .inl (M2 5))), (rt_least 6, .inl (tc 0, 9, .inl (M2 6))), (rt_least 7, .inl (tc 0, 9, .inl (M2 7))), (rt_least 8, .inl (tc 0, 9, .inl (M2 8)))]) (rows9 (fun _ => rfl) (fun _ => rfl) (fun _ => rfl) (fun _ => rfl) (fun _ => rfl) (fun _ => rfl) (fun _ => rfl) (fun _ => rfl) (fun _ => rfl)) hg38 hg51 (n := 52) rfl ?_
            refine go_iinc C d_Ruler_between_52 6 rfl (v := l8 + (1 : Int32)) rfl (lv' := [(8, .int (l8 + (1 : Int32))), (0, .ref qt), (1, .long a0), (3, .long a1), (5, .int l5), (6, .int l6), (7, .int l7)]) (by decide) rfl (n := 55) rfl ?_
            refine go_goto C d_Ruler_between_55 (tgt := 25) (by decide) ?_
            refine go_lv (lv' := [(0, .ref qt), (1, .long a0), (3, .long a1), (5, .int l5), (6, .int l6), (7, .int l7), (8, .int (l8 + (1 : Int32)))]) [1, 2, 3, 4, 5, 6, 0] rfl ?_
            exact ih (va_up v_t_least l7.toNatClampNeg (upd (v_t_least l7.toNatClampNeg) l8.toNatClampNeg o48)) (l8 + (1 : Int32)) x hf hE
      unfold f_Ruler_between_15b at hf
      refine go_iload C d_Ruler_between_15 5 rfl (n := 17) rfl ?_
      refine go_iload C d_Ruler_between_17 3 rfl (n := 19) rfl ?_
      have hi19 := iteS hf
      refine go_icmp_gt C d_Ruler_between_19 (tgt := 64) (by decide) (n := 22) rfl (fun h19 => ?_) (fun h19 => ?_)
      · have hf := hi19.1 h19
        refine go_lv (lv' := [(0, .ref qt), (5, .int l5), (6, .int l6)]) [0, 3, 4] rfl ?_
        cases hf
        exact hE
      · have hf := hi19.2 h19
        refine go_iconst C (v := 1) d_Ruler_between_22 rfl (n := 23) rfl ?_
        refine go_istore C d_Ruler_between_23 (lv' := [(8, .int (1 : Int32)), (0, .ref qt), (1, .long a0), (3, .long a1), (5, .int l5), (6, .int l6), (7, .int l7)]) (by decide) rfl (n := 25) rfl ?_
        refine go_lv (lv' := [(0, .ref qt), (1, .long a0), (3, .long a1), (5, .int l5), (6, .int l6), (7, .int l7), (8, .int (1 : Int32))]) [1, 2, 3, 4, 5, 6, 0] rfl ?_
        obtain ⟨x25, hx25, hf⟩ := bindS hf
        refine K25 l5 l6 l7 FU v_t_least (1 : Int32) x25 hx25 ?_
        refine go_iinc C d_Ruler_between_58 5 rfl (v := l7 + (1 : Int32)) rfl (lv' := [(7, .int (l7 + (1 : Int32))), (0, .ref qt), (1, .long a0), (3, .long a1), (5, .int l5), (6, .int l6)]) (by decide) rfl (n := 61) rfl ?_
        refine go_goto C d_Ruler_between_61 (tgt := 15) (by decide) ?_
        refine go_lv (lv' := [(0, .ref qt), (1, .long a0), (3, .long a1), (5, .int l5), (6, .int l6), (7, .int (l7 + (1 : Int32)))]) [1, 2, 3, 4, 5, 0] rfl ?_
        exact ih x25 (l7 + (1 : Int32)) x hf hE
  unfold f_Ruler_between at hf
  refine go_lload_n C d_Ruler_between_0 rfl 1 rfl (n := 1) rfl ?_
  obtain ⟨o1, ho1, hf⟩ := bindS hf
  refine go_callP C (As := [.long a0]) (rest := []) d_Ruler_between_1 (c_Texts_lengthOf l D tc a0 ho1 (fun r w => r = some (.int o1) ∧ w = []) ⟨rfl, rfl⟩) lk_Ruler_16 mw_Texts_lengthOf ws_Texts_lengthOf rfl rfl ⟨(Nat.le_of_ble_eq_true rfl), (Nat.le_of_ble_eq_true rfl)⟩ rfl rfl (Nat.le_of_ble_eq_true rfl) ⟨(Nat.le_of_ble_eq_true rfl), (Nat.le_of_ble_eq_true rfl)⟩ (n := 4) rfl ?_
  rintro _ _ ⟨rfl, rfl⟩
  refine go_istore C d_Ruler_between_4 (lv' := [(5, .int o1), (0, .ref qt), (1, .long a0), (3, .long a1)]) (by decide) rfl (n := 6) rfl ?_
  refine go_lload_n C d_Ruler_between_6 rfl 3 rfl (n := 7) rfl ?_
  obtain ⟨o7, ho7, hf⟩ := bindS hf
  refine go_callP C (As := [.long a1]) (rest := []) d_Ruler_between_7 (c_Texts_lengthOf l D tc a1 ho7 (fun r w => r = some (.int o7) ∧ w = []) ⟨rfl, rfl⟩) lk_Ruler_16 mw_Texts_lengthOf ws_Texts_lengthOf rfl rfl ⟨(Nat.le_of_ble_eq_true rfl), (Nat.le_of_ble_eq_true rfl)⟩ rfl rfl (Nat.le_of_ble_eq_true rfl) ⟨(Nat.le_of_ble_eq_true rfl), (Nat.le_of_ble_eq_true rfl)⟩ (n := 10) rfl ?_
  rintro _ _ ⟨rfl, rfl⟩
  refine go_istore C d_Ruler_between_10 (lv' := [(6, .int o7), (5, .int o1), (0, .ref qt), (1, .long a0), (3, .long a1)]) (by decide) rfl (n := 12) rfl ?_
  refine go_iconst C (v := 1) d_Ruler_between_12 rfl (n := 13) rfl ?_
  refine go_istore C d_Ruler_between_13 (lv' := [(7, .int (1 : Int32)), (6, .int o7), (5, .int o1), (0, .ref qt), (1, .long a0), (3, .long a1)]) (by decide) rfl (n := 15) rfl ?_
  refine go_lv (lv' := [(0, .ref qt), (1, .long a0), (3, .long a1), (5, .int o1), (6, .int o7), (7, .int (1 : Int32))]) [3, 4, 5, 2, 1, 0] rfl ?_
  obtain ⟨x15, hx15, hf⟩ := bindS hf
  refine K15 o1 o7 FU t_least (1 : Int32) x15 hx15 ?_
  refine go_aload_n C d_Ruler_between_64 rfl 0 rfl (n := 65) rfl ?_
  refine go_get C d_Ruler_between_65 fl_Ruler_11 0 rfl rfl (n := 68) rfl ?_
  refine go_iload C d_Ruler_between_68 1 rfl (n := 70) rfl ?_
  obtain ⟨hg70, hf⟩ := guardS hf
  refine go_aaldR C d_Ruler_between_70 1 3 rfl rfl rfl hg70 (n := 71) rfl ?_
  refine go_iload C d_Ruler_between_71 2 rfl (n := 73) rfl ?_
  obtain ⟨hg73, hf⟩ := guardS hf
  refine go_ialdR C d_Ruler_between_73 2 (rows9 rfl rfl rfl rfl rfl rfl rfl rfl rfl) hg70 hg73 (n := 74) rfl ?_
  cases hf
  exact go_iret C d_Ruler_between_74 hr hPOST

