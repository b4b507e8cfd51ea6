section
-- ===== PART A: goes FIRST, ahead of the names: the tables' words, and 'selects' of the private methods out of them =====
/-- a private method of a class that the tables say can be made, by its rows of tables_1 -/
def lw_okq (q : MethodName × Nat) : Prop := (q.1.cls ≠ "java/lang/invoke/MethodHandle" ∧ q.1.cls ≠ "java/lang/invoke/VarHandle") ∧ Cond.instantiable q.1.cls q.2 ∈ tables_1 ∧ Cond.privateMethod q.1 ∈ tables_1 ∧ Cond.instanceMethod q.1 ∈ tables_1
theorem lw_p0 : lw_okq (⟨"SuggestDesk$WordList", "firstNotBefore", "(J)I"⟩, 3) := ⟨⟨by decide +kernel, by decide +kernel⟩, List.mem_of_getElem? (i := 28) (by decide +kernel), List.mem_of_getElem? (i := 232) (by decide +kernel), List.mem_of_getElem? (i := 233) (by decide +kernel)⟩
theorem lw_p1 : lw_okq (⟨"java/lang/Throwable", "fillInStackTrace", "(I)Ljava/lang/Throwable;"⟩, 6) := ⟨⟨by decide +kernel, by decide +kernel⟩, List.mem_of_getElem? (i := 284) (by decide +kernel), List.mem_of_getElem? (i := 282) (by decide +kernel), List.mem_of_getElem? (i := 283) (by decide +kernel)⟩
theorem lw_p2 : lw_okq (⟨"SuggestDesk", "placeForNext", "()LSuggestDesk$Dictionary;"⟩, 8) := ⟨⟨by decide +kernel, by decide +kernel⟩, List.mem_of_getElem? (i := 20) (by decide +kernel), List.mem_of_getElem? (i := 347) (by decide +kernel), List.mem_of_getElem? (i := 348) (by decide +kernel)⟩
theorem lw_p3 : lw_okq (⟨"SuggestDesk", "find", "(I)LSuggestDesk$Dictionary;"⟩, 8) := ⟨⟨by decide +kernel, by decide +kernel⟩, List.mem_of_getElem? (i := 20) (by decide +kernel), List.mem_of_getElem? (i := 351) (by decide +kernel), List.mem_of_getElem? (i := 352) (by decide +kernel)⟩
theorem lw_p4 : lw_okq (⟨"SuggestDesk$Automaton", "addBeginning", "(LSuggestDesk$WordList;II)V"⟩, 6) := ⟨⟨by decide +kernel, by decide +kernel⟩, List.mem_of_getElem? (i := 71) (by decide +kernel), List.mem_of_getElem? (i := 383) (by decide +kernel), List.mem_of_getElem? (i := 384) (by decide +kernel)⟩
theorem lw_p5 : lw_okq (⟨"SuggestDesk$Automaton", "behaveTheSame", "(LSuggestDesk$WordList;II)Z"⟩, 6) := ⟨⟨by decide +kernel, by decide +kernel⟩, List.mem_of_getElem? (i := 71) (by decide +kernel), List.mem_of_getElem? (i := 404) (by decide +kernel), List.mem_of_getElem? (i := 405) (by decide +kernel)⟩
theorem lw_p6 : lw_okq (⟨"SuggestDesk$Automaton", "endingAt", "(LSuggestDesk$WordList;II)J"⟩, 6) := ⟨⟨by decide +kernel, by decide +kernel⟩, List.mem_of_getElem? (i := 71) (by decide +kernel), List.mem_of_getElem? (i := 408) (by decide +kernel), List.mem_of_getElem? (i := 409) (by decide +kernel)⟩
theorem lw_p7 : lw_okq (⟨"SuggestDesk$Automaton", "costAbove", "(LSuggestDesk$WordList;II)I"⟩, 6) := ⟨⟨by decide +kernel, by decide +kernel⟩, List.mem_of_getElem? (i := 71) (by decide +kernel), List.mem_of_getElem? (i := 415) (by decide +kernel), List.mem_of_getElem? (i := 416) (by decide +kernel)⟩
theorem lw_p8 : lw_okq (⟨"SuggestDesk$Automaton", "countArcs", "(LSuggestDesk$WordList;I)I"⟩, 6) := ⟨⟨by decide +kernel, by decide +kernel⟩, List.mem_of_getElem? (i := 71) (by decide +kernel), List.mem_of_getElem? (i := 419) (by decide +kernel), List.mem_of_getElem? (i := 420) (by decide +kernel)⟩
theorem lw_p9 : lw_okq (⟨"SuggestDesk$Suggestions", "offer", "(JI)V"⟩, 4) := ⟨⟨by decide +kernel, by decide +kernel⟩, List.mem_of_getElem? (i := 108) (by decide +kernel), List.mem_of_getElem? (i := 540) (by decide +kernel), List.mem_of_getElem? (i := 541) (by decide +kernel)⟩
theorem lw_p10 : lw_okq (⟨"SuggestDesk$Ruler", "leastChanges", "(JJII)I"⟩, 1) := ⟨⟨by decide +kernel, by decide +kernel⟩, List.mem_of_getElem? (i := 96) (by decide +kernel), List.mem_of_getElem? (i := 565) (by decide +kernel), List.mem_of_getElem? (i := 566) (by decide +kernel)⟩
theorem lw_p11 : lw_okq (⟨"SuggestDesk$Pairs", "indexOf", "(JJ)I"⟩, 4) := ⟨⟨by decide +kernel, by decide +kernel⟩, List.mem_of_getElem? (i := 127) (by decide +kernel), List.mem_of_getElem? (i := 621) (by decide +kernel), List.mem_of_getElem? (i := 622) (by decide +kernel)⟩
theorem lw_p12 : lw_okq (⟨"SuggestDesk$Phrase", "gather", "(ILSuggestDesk$WordList;LSuggestDesk$Ruler;)V"⟩, 8) := ⟨⟨by decide +kernel, by decide +kernel⟩, List.mem_of_getElem? (i := 146) (by decide +kernel), List.mem_of_getElem? (i := 658) (by decide +kernel), List.mem_of_getElem? (i := 659) (by decide +kernel)⟩
theorem lw_p13 : lw_okq (⟨"SuggestDesk$Phrase", "chooseFollowers", "(ILSuggestDesk$Pairs;)V"⟩, 8) := ⟨⟨by decide +kernel, by decide +kernel⟩, List.mem_of_getElem? (i := 146) (by decide +kernel), List.mem_of_getElem? (i := 666) (by decide +kernel), List.mem_of_getElem? (i := 667) (by decide +kernel)⟩
theorem lw_p14 : lw_okq (⟨"SuggestDesk$Phrase", "costWith", "(IIILSuggestDesk$Pairs;)I"⟩, 8) := ⟨⟨by decide +kernel, by decide +kernel⟩, List.mem_of_getElem? (i := 146) (by decide +kernel), List.mem_of_getElem? (i := 670) (by decide +kernel), List.mem_of_getElem? (i := 671) (by decide +kernel)⟩
theorem lw_p15 : lw_okq (⟨"SuggestDesk$Phrase", "choose", "()I"⟩, 8) := ⟨⟨by decide +kernel, by decide +kernel⟩, List.mem_of_getElem? (i := 146) (by decide +kernel), List.mem_of_getElem? (i := 679) (by decide +kernel), List.mem_of_getElem? (i := 680) (by decide +kernel)⟩
def lw_privs_1 : List (MethodName × Nat) := [(⟨"SuggestDesk$WordList", "firstNotBefore", "(J)I"⟩, 3), (⟨"java/lang/Throwable", "fillInStackTrace", "(I)Ljava/lang/Throwable;"⟩, 6), (⟨"SuggestDesk", "placeForNext", "()LSuggestDesk$Dictionary;"⟩, 8), (⟨"SuggestDesk", "find", "(I)LSuggestDesk$Dictionary;"⟩, 8), (⟨"SuggestDesk$Automaton", "addBeginning", "(LSuggestDesk$WordList;II)V"⟩, 6), (⟨"SuggestDesk$Automaton", "behaveTheSame", "(LSuggestDesk$WordList;II)Z"⟩, 6), (⟨"SuggestDesk$Automaton", "endingAt", "(LSuggestDesk$WordList;II)J"⟩, 6), (⟨"SuggestDesk$Automaton", "costAbove", "(LSuggestDesk$WordList;II)I"⟩, 6), (⟨"SuggestDesk$Automaton", "countArcs", "(LSuggestDesk$WordList;I)I"⟩, 6), (⟨"SuggestDesk$Suggestions", "offer", "(JI)V"⟩, 4), (⟨"SuggestDesk$Ruler", "leastChanges", "(JJII)I"⟩, 1), (⟨"SuggestDesk$Pairs", "indexOf", "(JJ)I"⟩, 4), (⟨"SuggestDesk$Phrase", "gather", "(ILSuggestDesk$WordList;LSuggestDesk$Ruler;)V"⟩, 8), (⟨"SuggestDesk$Phrase", "chooseFollowers", "(ILSuggestDesk$Pairs;)V"⟩, 8), (⟨"SuggestDesk$Phrase", "costWith", "(IIILSuggestDesk$Pairs;)I"⟩, 8), (⟨"SuggestDesk$Phrase", "choose", "()I"⟩, 8)]
theorem lw_r1 : ∀ q ∈ lw_privs_1, lw_okq q := List.forall_mem_cons.mpr ⟨lw_p0, List.forall_mem_cons.mpr ⟨lw_p1, List.forall_mem_cons.mpr ⟨lw_p2, List.forall_mem_cons.mpr ⟨lw_p3, List.forall_mem_cons.mpr ⟨lw_p4, List.forall_mem_cons.mpr ⟨lw_p5, List.forall_mem_cons.mpr ⟨lw_p6, List.forall_mem_cons.mpr ⟨lw_p7, List.forall_mem_cons.mpr ⟨lw_p8, List.forall_mem_cons.mpr ⟨lw_p9, List.forall_mem_cons.mpr ⟨lw_p10, List.forall_mem_cons.mpr ⟨lw_p11, List.forall_mem_cons.mpr ⟨lw_p12, List.forall_mem_cons.mpr ⟨lw_p13, List.forall_mem_cons.mpr ⟨lw_p14, List.forall_mem_cons.mpr ⟨lw_p15, fun _ h => absurd h List.not_mem_nil⟩⟩⟩⟩⟩⟩⟩⟩⟩⟩⟩⟩⟩⟩⟩⟩
theorem lw_p16 : lw_okq (⟨"SuggestDeskModel", "throwing", "(ZZ)Z"⟩, 35) := ⟨⟨by decide +kernel, by decide +kernel⟩, List.mem_of_getElem? (i := 699) (by decide +kernel), List.mem_of_getElem? (i := 831) (by decide +kernel), List.mem_of_getElem? (i := 832) (by decide +kernel)⟩
theorem lw_p17 : lw_okq (⟨"SuggestDeskModel", "move", "(II)V"⟩, 35) := ⟨⟨by decide +kernel, by decide +kernel⟩, List.mem_of_getElem? (i := 699) (by decide +kernel), List.mem_of_getElem? (i := 843) (by decide +kernel), List.mem_of_getElem? (i := 844) (by decide +kernel)⟩
theorem lw_p18 : lw_okq (⟨"SuggestDeskModel", "placeOf", "(I)I"⟩, 35) := ⟨⟨by decide +kernel, by decide +kernel⟩, List.mem_of_getElem? (i := 699) (by decide +kernel), List.mem_of_getElem? (i := 861) (by decide +kernel), List.mem_of_getElem? (i := 862) (by decide +kernel)⟩
theorem lw_p19 : lw_okq (⟨"SuggestDeskModel", "count", "(I)V"⟩, 35) := ⟨⟨by decide +kernel, by decide +kernel⟩, List.mem_of_getElem? (i := 699) (by decide +kernel), List.mem_of_getElem? (i := 869) (by decide +kernel), List.mem_of_getElem? (i := 870) (by decide +kernel)⟩
theorem lw_p20 : lw_okq (⟨"SuggestDeskModel", "begin", "(III)V"⟩, 35) := ⟨⟨by decide +kernel, by decide +kernel⟩, List.mem_of_getElem? (i := 699) (by decide +kernel), List.mem_of_getElem? (i := 876) (by decide +kernel), List.mem_of_getElem? (i := 877) (by decide +kernel)⟩
theorem lw_p21 : lw_okq (⟨"SuggestDeskModel", "same", "(III)Z"⟩, 35) := ⟨⟨by decide +kernel, by decide +kernel⟩, List.mem_of_getElem? (i := 699) (by decide +kernel), List.mem_of_getElem? (i := 882) (by decide +kernel), List.mem_of_getElem? (i := 883) (by decide +kernel)⟩
theorem lw_p22 : lw_okq (⟨"SuggestDeskModel", "followers", "(II)I"⟩, 35) := ⟨⟨by decide +kernel, by decide +kernel⟩, List.mem_of_getElem? (i := 699) (by decide +kernel), List.mem_of_getElem? (i := 886) (by decide +kernel), List.mem_of_getElem? (i := 887) (by decide +kernel)⟩
theorem lw_p23 : lw_okq (⟨"SuggestDeskModel", "give", "(JI)V"⟩, 35) := ⟨⟨by decide +kernel, by decide +kernel⟩, List.mem_of_getElem? (i := 699) (by decide +kernel), List.mem_of_getElem? (i := 898) (by decide +kernel), List.mem_of_getElem? (i := 899) (by decide +kernel)⟩
theorem lw_p24 : lw_okq (⟨"SuggestDeskModel", "distanceOf", "(JJ)I"⟩, 35) := ⟨⟨by decide +kernel, by decide +kernel⟩, List.mem_of_getElem? (i := 699) (by decide +kernel), List.mem_of_getElem? (i := 906) (by decide +kernel), List.mem_of_getElem? (i := 907) (by decide +kernel)⟩
theorem lw_p25 : lw_okq (⟨"SuggestDeskModel", "pairOf", "(JJ)I"⟩, 35) := ⟨⟨by decide +kernel, by decide +kernel⟩, List.mem_of_getElem? (i := 699) (by decide +kernel), List.mem_of_getElem? (i := 925) (by decide +kernel), List.mem_of_getElem? (i := 926) (by decide +kernel)⟩
theorem lw_p26 : lw_okq (⟨"SuggestDeskModel", "gather", "(II)V"⟩, 35) := ⟨⟨by decide +kernel, by decide +kernel⟩, List.mem_of_getElem? (i := 699) (by decide +kernel), List.mem_of_getElem? (i := 937) (by decide +kernel), List.mem_of_getElem? (i := 938) (by decide +kernel)⟩
theorem lw_p27 : lw_okq (⟨"SuggestDeskModel", "costOf", "(I)I"⟩, 35) := ⟨⟨by decide +kernel, by decide +kernel⟩, List.mem_of_getElem? (i := 699) (by decide +kernel), List.mem_of_getElem? (i := 942) (by decide +kernel), List.mem_of_getElem? (i := 943) (by decide +kernel)⟩
theorem lw_p28 : lw_okq (⟨"SuggestDeskModel", "next", "(I)Z"⟩, 35) := ⟨⟨by decide +kernel, by decide +kernel⟩, List.mem_of_getElem? (i := 699) (by decide +kernel), List.mem_of_getElem? (i := 946) (by decide +kernel), List.mem_of_getElem? (i := 947) (by decide +kernel)⟩
def lw_privs_2 : List (MethodName × Nat) := [(⟨"SuggestDeskModel", "throwing", "(ZZ)Z"⟩, 35), (⟨"SuggestDeskModel", "move", "(II)V"⟩, 35), (⟨"SuggestDeskModel", "placeOf", "(I)I"⟩, 35), (⟨"SuggestDeskModel", "count", "(I)V"⟩, 35), (⟨"SuggestDeskModel", "begin", "(III)V"⟩, 35), (⟨"SuggestDeskModel", "same", "(III)Z"⟩, 35), (⟨"SuggestDeskModel", "followers", "(II)I"⟩, 35), (⟨"SuggestDeskModel", "give", "(JI)V"⟩, 35), (⟨"SuggestDeskModel", "distanceOf", "(JJ)I"⟩, 35), (⟨"SuggestDeskModel", "pairOf", "(JJ)I"⟩, 35), (⟨"SuggestDeskModel", "gather", "(II)V"⟩, 35), (⟨"SuggestDeskModel", "costOf", "(I)I"⟩, 35), (⟨"SuggestDeskModel", "next", "(I)Z"⟩, 35)]
theorem lw_r2 : ∀ q ∈ lw_privs_2, lw_okq q := List.forall_mem_cons.mpr ⟨lw_p16, List.forall_mem_cons.mpr ⟨lw_p17, List.forall_mem_cons.mpr ⟨lw_p18, List.forall_mem_cons.mpr ⟨lw_p19, List.forall_mem_cons.mpr ⟨lw_p20, List.forall_mem_cons.mpr ⟨lw_p21, List.forall_mem_cons.mpr ⟨lw_p22, List.forall_mem_cons.mpr ⟨lw_p23, List.forall_mem_cons.mpr ⟨lw_p24, List.forall_mem_cons.mpr ⟨lw_p25, List.forall_mem_cons.mpr ⟨lw_p26, List.forall_mem_cons.mpr ⟨lw_p27, List.forall_mem_cons.mpr ⟨lw_p28, fun _ h => absurd h List.not_mem_nil⟩⟩⟩⟩⟩⟩⟩⟩⟩⟩⟩⟩⟩
def lw_privs : List (MethodName × Nat) := lw_privs_1 ++ (lw_privs_2)
def lw_tbl : List Cond := k2_sels lw_privs ++ tables_1
theorem lw_privs_ok : ∀ q ∈ lw_privs, lw_okq q := by
  show ∀ q ∈ lw_privs_1 ++ (lw_privs_2), lw_okq q
  exact List.forall_mem_append.mpr ⟨lw_r1, lw_r2⟩
end
section
def T_Automaton : u_T := fun k => match k with
  | 0 => ("SuggestDesk$Automaton", "starts", "[I", true)
  | 1 => ("SuggestDesk$Automaton", "counts", "[I", true)
  | 2 => ("SuggestDesk$Automaton", "lengths", "[I", true)
  | 3 => ("SuggestDesk$Automaton", "lowests", "[I", true)
  | 4 => ("SuggestDesk$Automaton", "states", "I", false)
  | _ => ("SuggestDesk$Automaton", "arcs", "I", false)
def ty_Automaton : Nat → FieldType := fun k => match k with
  | 0 => (.array .int)
  | 1 => (.array .int)
  | 2 => (.array .int)
  | 3 => (.array .int)
  | 4 => .int
  | _ => .int
def T_Dictionary : u_T := fun k => match k with
  | 0 => ("SuggestDesk$Dictionary", "words", "LSuggestDesk$WordList;", true)
  | 1 => ("SuggestDesk$Dictionary", "number", "I", false)
  | 2 => ("SuggestDesk$Dictionary", "readers", "I", false)
  | 3 => ("SuggestDesk$Dictionary", "states", "I", false)
  | _ => ("SuggestDesk$Dictionary", "arcs", "I", false)
def ty_Dictionary : Nat → FieldType := fun k => match k with
  | 0 => (.object "SuggestDesk$WordList")
  | 1 => .int
  | 2 => .int
  | 3 => .int
  | _ => .int
def T_Pairs : u_T := fun k => match k with
  | 0 => ("SuggestDesk$Pairs", "firsts", "[J", true)
  | 1 => ("SuggestDesk$Pairs", "seconds", "[J", true)
  | 2 => ("SuggestDesk$Pairs", "times", "[I", true)
  | _ => ("SuggestDesk$Pairs", "size", "I", false)
def ty_Pairs : Nat → FieldType := fun k => match k with
  | 0 => (.array .long)
  | 1 => (.array .long)
  | 2 => (.array .int)
  | _ => .int
def T_Phrase : u_T := fun k => match k with
  | 0 => ("SuggestDesk$Phrase", "said", "[J", true)
  | 1 => ("SuggestDesk$Phrase", "chosen", "[J", true)
  | 2 => ("SuggestDesk$Phrase", "candidates", "[[J", true)
  | 3 => ("SuggestDesk$Phrase", "costs", "[[I", true)
  | 4 => ("SuggestDesk$Phrase", "followers", "[[I", true)
  | 5 => ("SuggestDesk$Phrase", "counts", "[I", true)
  | 6 => ("SuggestDesk$Phrase", "size", "I", false)
  | _ => ("SuggestDesk$Phrase", "chosenSize", "I", false)
def ty_Phrase : Nat → FieldType := fun k => match k with
  | 0 => (.array .long)
  | 1 => (.array .long)
  | 2 => (.array (.array .long))
  | 3 => (.array (.array .int))
  | 4 => (.array (.array .int))
  | 5 => (.array .int)
  | 6 => .int
  | _ => .int
def T_Ruler : u_T := fun k => match k with
  | _ => ("SuggestDesk$Ruler", "least", "[[I", true)
def ty_Ruler : Nat → FieldType := fun k => match k with
  | _ => (.array (.array .int))
def T_Suggestions : u_T := fun k => match k with
  | 0 => ("SuggestDesk$Suggestions", "texts", "[J", true)
  | 1 => ("SuggestDesk$Suggestions", "ranks", "[I", true)
  | 2 => ("SuggestDesk$Suggestions", "size", "I", false)
  | _ => ("SuggestDesk$Suggestions", "most", "I", false)
def ty_Suggestions : Nat → FieldType := fun k => match k with
  | 0 => (.array .long)
  | 1 => (.array .int)
  | 2 => .int
  | _ => .int
def T_WordList : u_T := fun k => match k with
  | 0 => ("SuggestDesk$WordList", "texts", "[J", true)
  | 1 => ("SuggestDesk$WordList", "costs", "[I", true)
  | _ => ("SuggestDesk$WordList", "size", "I", false)
def ty_WordList : Nat → FieldType := fun k => match k with
  | 0 => (.array .long)
  | 1 => (.array .int)
  | _ => .int
def T_S : u_T := fun k => match k with
  | 0 => ("SuggestDesk", "draft", "LSuggestDesk$WordList;", true)
  | 1 => ("SuggestDesk", "shelf", "[LSuggestDesk$Dictionary;", true)
  | 2 => ("SuggestDesk", "automaton", "LSuggestDesk$Automaton;", true)
  | 3 => ("SuggestDesk", "ruler", "LSuggestDesk$Ruler;", true)
  | 4 => ("SuggestDesk", "suggestions", "LSuggestDesk$Suggestions;", true)
  | 5 => ("SuggestDesk", "pairs", "LSuggestDesk$Pairs;", true)
  | 6 => ("SuggestDesk", "phrase", "LSuggestDesk$Phrase;", true)
  | _ => ("SuggestDesk", "made", "I", false)
def ty_S : Nat → FieldType := fun k => match k with
  | 0 => (.object "SuggestDesk$WordList")
  | 1 => (.array (.object "SuggestDesk$Dictionary"))
  | 2 => (.object "SuggestDesk$Automaton")
  | 3 => (.object "SuggestDesk$Ruler")
  | 4 => (.object "SuggestDesk$Suggestions")
  | 5 => (.object "SuggestDesk$Pairs")
  | 6 => (.object "SuggestDesk$Phrase")
  | _ => .int
def T_M : u_T := fun k => match k with
  | 0 => ("SuggestDeskModel", "thrown", "I", false)
  | 1 => ("SuggestDeskModel", "drafted", "I", false)
  | 2 => ("SuggestDeskModel", "draft", "[J", true)
  | 3 => ("SuggestDeskModel", "weight", "[I", true)
  | 4 => ("SuggestDeskModel", "there", "I", false)
  | 5 => ("SuggestDeskModel", "made", "I", false)
  | 6 => ("SuggestDeskModel", "number", "[I", true)
  | 7 => ("SuggestDeskModel", "size", "[I", true)
  | 8 => ("SuggestDeskModel", "readers", "[I", true)
  | 9 => ("SuggestDeskModel", "words", "[J", true)
  | 10 => ("SuggestDeskModel", "costs", "[I", true)
  | 11 => ("SuggestDeskModel", "states", "[I", true)
  | 12 => ("SuggestDeskModel", "arcs", "[I", true)
  | 13 => ("SuggestDeskModel", "beginnings", "I", false)
  | 14 => ("SuggestDeskModel", "from", "[I", true)
  | 15 => ("SuggestDeskModel", "letters", "[I", true)
  | 16 => ("SuggestDeskModel", "end", "[I", true)
  | 17 => ("SuggestDeskModel", "lowest", "[I", true)
  | 18 => ("SuggestDeskModel", "key", "[J", true)
  | 19 => ("SuggestDeskModel", "givenSize", "I", false)
  | 20 => ("SuggestDeskModel", "given", "[J", true)
  | 21 => ("SuggestDeskModel", "keys", "[I", true)
  | 22 => ("SuggestDeskModel", "table", "[I", true)
  | 23 => ("SuggestDeskModel", "pairs", "I", false)
  | 24 => ("SuggestDeskModel", "first", "[J", true)
  | 25 => ("SuggestDeskModel", "second", "[J", true)
  | 26 => ("SuggestDeskModel", "learnt", "[I", true)
  | 27 => ("SuggestDeskModel", "said", "I", false)
  | 28 => ("SuggestDeskModel", "phrase", "[J", true)
  | 29 => ("SuggestDeskModel", "answered", "I", false)
  | 30 => ("SuggestDeskModel", "corrected", "[J", true)
  | 31 => ("SuggestDeskModel", "many", "[I", true)
  | 32 => ("SuggestDeskModel", "candidates", "[J", true)
  | 33 => ("SuggestDeskModel", "alone", "[I", true)
  | _ => ("SuggestDeskModel", "choice", "[I", true)
def ty_M : Nat → FieldType := fun k => match k with
  | 0 => .int
  | 1 => .int
  | 2 => (.array .long)
  | 3 => (.array .int)
  | 4 => .int
  | 5 => .int
  | 6 => (.array .int)
  | 7 => (.array .int)
  | 8 => (.array .int)
  | 9 => (.array .long)
  | 10 => (.array .int)
  | 11 => (.array .int)
  | 12 => (.array .int)
  | 13 => .int
  | 14 => (.array .int)
  | 15 => (.array .int)
  | 16 => (.array .int)
  | 17 => (.array .int)
  | 18 => (.array .long)
  | 19 => .int
  | 20 => (.array .long)
  | 21 => (.array .int)
  | 22 => (.array .int)
  | 23 => .int
  | 24 => (.array .long)
  | 25 => (.array .long)
  | 26 => (.array .int)
  | 27 => .int
  | 28 => (.array .long)
  | 29 => .int
  | 30 => (.array .long)
  | 31 => (.array .int)
  | 32 => (.array .long)
  | 33 => (.array .int)
  | _ => (.array .int)
abbrev vwCl : List vw_C := [("SuggestDesk$Automaton", T_Automaton, 6), ("SuggestDesk$Dictionary", T_Dictionary, 5), ("SuggestDesk$Pairs", T_Pairs, 4), ("SuggestDesk$Phrase", T_Phrase, 8), ("SuggestDesk$Ruler", T_Ruler, 1), ("SuggestDesk$Suggestions", T_Suggestions, 4), ("SuggestDesk$WordList", T_WordList, 3), ("SuggestDesk", T_S, 8), ("SuggestDeskModel", T_M, 35)]
abbrev b_Automaton_init : ByteArray := prog_2_method_1_code
def y_Automaton_init : MethodName := ⟨"SuggestDesk$Automaton", "<init>", "()V"⟩
abbrev b_Automaton_states : ByteArray := prog_2_method_2_code
def y_Automaton_states : MethodName := ⟨"SuggestDesk$Automaton", "states", "()I"⟩
abbrev b_Automaton_arcs : ByteArray := prog_2_method_3_code
def y_Automaton_arcs : MethodName := ⟨"SuggestDesk$Automaton", "arcs", "()I"⟩
abbrev b_Automaton_measure : ByteArray := prog_2_method_4_code
def y_Automaton_measure : MethodName := ⟨"SuggestDesk$Automaton", "measure", "(LSuggestDesk$WordList;)V"⟩
abbrev b_Automaton_addBeginning : ByteArray := prog_2_method_5_code
def y_Automaton_addBeginning : MethodName := ⟨"SuggestDesk$Automaton", "addBeginning", "(LSuggestDesk$WordList;II)V"⟩
abbrev b_Automaton_countWords : ByteArray := prog_2_method_6_code
def y_Automaton_countWords : MethodName := ⟨"SuggestDesk$Automaton", "countWords", "(LSuggestDesk$WordList;II)I"⟩
abbrev b_Automaton_lowestCost : ByteArray := prog_2_method_7_code
def y_Automaton_lowestCost : MethodName := ⟨"SuggestDesk$Automaton", "lowestCost", "(LSuggestDesk$WordList;II)I"⟩
abbrev b_Automaton_behaveTheSame : ByteArray := prog_2_method_8_code
def y_Automaton_behaveTheSame : MethodName := ⟨"SuggestDesk$Automaton", "behaveTheSame", "(LSuggestDesk$WordList;II)Z"⟩
abbrev b_Automaton_countArcs : ByteArray := prog_2_method_9_code
def y_Automaton_countArcs : MethodName := ⟨"SuggestDesk$Automaton", "countArcs", "(LSuggestDesk$WordList;I)I"⟩
abbrev b_Automaton_endingAt : ByteArray := prog_2_method_10_code
def y_Automaton_endingAt : MethodName := ⟨"SuggestDesk$Automaton", "endingAt", "(LSuggestDesk$WordList;II)J"⟩
abbrev b_Automaton_costAbove : ByteArray := prog_2_method_11_code
def y_Automaton_costAbove : MethodName := ⟨"SuggestDesk$Automaton", "costAbove", "(LSuggestDesk$WordList;II)I"⟩
abbrev b_S_init : ByteArray := prog_1_method_1_code
def y_S_init : MethodName := ⟨"SuggestDesk", "<init>", "()V"⟩
abbrev b_S_word : ByteArray := prog_1_method_2_code
def y_S_word : MethodName := ⟨"SuggestDesk", "word", "(JI)I"⟩
abbrev b_S_drop : ByteArray := prog_1_method_3_code
def y_S_drop : MethodName := ⟨"SuggestDesk", "drop", "(J)Z"⟩
abbrev b_S_build : ByteArray := prog_1_method_4_code
def y_S_build : MethodName := ⟨"SuggestDesk", "build", "()I"⟩
abbrev b_S_hold : ByteArray := prog_1_method_5_code
def y_S_hold : MethodName := ⟨"SuggestDesk", "hold", "()I"⟩
abbrev b_S_release : ByteArray := prog_1_method_6_code
def y_S_release : MethodName := ⟨"SuggestDesk", "release", "(I)Z"⟩
abbrev b_S_look : ByteArray := prog_1_method_7_code
def y_S_look : MethodName := ⟨"SuggestDesk", "look", "(II)I"⟩
abbrev b_S_cost : ByteArray := prog_1_method_8_code
def y_S_cost : MethodName := ⟨"SuggestDesk", "cost", "(IJ)I"⟩
abbrev b_S_complete : ByteArray := prog_1_method_9_code
def y_S_complete : MethodName := ⟨"SuggestDesk", "complete", "(IJI)I"⟩
abbrev b_S_near : ByteArray := prog_1_method_10_code
def y_S_near : MethodName := ⟨"SuggestDesk", "near", "(IJI)I"⟩
abbrev b_S_given : ByteArray := prog_1_method_11_code
def y_S_given : MethodName := ⟨"SuggestDesk", "given", "(I)J"⟩
abbrev b_S_distance : ByteArray := prog_1_method_12_code
def y_S_distance : MethodName := ⟨"SuggestDesk", "distance", "(JJ)I"⟩
abbrev b_S_learn : ByteArray := prog_1_method_13_code
def y_S_learn : MethodName := ⟨"SuggestDesk", "learn", "(JJ)I"⟩
abbrev b_S_say : ByteArray := prog_1_method_14_code
def y_S_say : MethodName := ⟨"SuggestDesk", "say", "(J)I"⟩
abbrev b_S_correct : ByteArray := prog_1_method_15_code
def y_S_correct : MethodName := ⟨"SuggestDesk", "correct", "(I)I"⟩
abbrev b_S_corrected : ByteArray := prog_1_method_16_code
def y_S_corrected : MethodName := ⟨"SuggestDesk", "corrected", "(I)J"⟩
abbrev b_S_find : ByteArray := prog_1_method_17_code
def y_S_find : MethodName := ⟨"SuggestDesk", "find", "(I)LSuggestDesk$Dictionary;"⟩
abbrev b_S_placeForNext : ByteArray := prog_1_method_18_code
def y_S_placeForNext : MethodName := ⟨"SuggestDesk", "placeForNext", "()LSuggestDesk$Dictionary;"⟩
abbrev b_Dictionary_init : ByteArray := prog_3_method_1_code
def y_Dictionary_init : MethodName := ⟨"SuggestDesk$Dictionary", "<init>", "()V"⟩
abbrev b_Dictionary_fill : ByteArray := prog_3_method_2_code
def y_Dictionary_fill : MethodName := ⟨"SuggestDesk$Dictionary", "fill", "(ILSuggestDesk$WordList;II)V"⟩
abbrev b_Dictionary_clear : ByteArray := prog_3_method_3_code
def y_Dictionary_clear : MethodName := ⟨"SuggestDesk$Dictionary", "clear", "()V"⟩
abbrev b_Dictionary_isThere : ByteArray := prog_3_method_4_code
def y_Dictionary_isThere : MethodName := ⟨"SuggestDesk$Dictionary", "isThere", "()Z"⟩
abbrev b_Dictionary_number : ByteArray := prog_3_method_5_code
def y_Dictionary_number : MethodName := ⟨"SuggestDesk$Dictionary", "number", "()I"⟩
abbrev b_Dictionary_words : ByteArray := prog_3_method_6_code
def y_Dictionary_words : MethodName := ⟨"SuggestDesk$Dictionary", "words", "()LSuggestDesk$WordList;"⟩
abbrev b_Dictionary_states : ByteArray := prog_3_method_7_code
def y_Dictionary_states : MethodName := ⟨"SuggestDesk$Dictionary", "states", "()I"⟩
abbrev b_Dictionary_arcs : ByteArray := prog_3_method_8_code
def y_Dictionary_arcs : MethodName := ⟨"SuggestDesk$Dictionary", "arcs", "()I"⟩
abbrev b_Dictionary_readers : ByteArray := prog_3_method_9_code
def y_Dictionary_readers : MethodName := ⟨"SuggestDesk$Dictionary", "readers", "()I"⟩
abbrev b_Dictionary_addReader : ByteArray := prog_3_method_10_code
def y_Dictionary_addReader : MethodName := ⟨"SuggestDesk$Dictionary", "addReader", "()V"⟩
abbrev b_Dictionary_removeReader : ByteArray := prog_3_method_11_code
def y_Dictionary_removeReader : MethodName := ⟨"SuggestDesk$Dictionary", "removeReader", "()V"⟩
abbrev b_Pairs_init : ByteArray := prog_4_method_1_code
def y_Pairs_init : MethodName := ⟨"SuggestDesk$Pairs", "<init>", "()V"⟩
abbrev b_Pairs_add : ByteArray := prog_4_method_2_code
def y_Pairs_add : MethodName := ⟨"SuggestDesk$Pairs", "add", "(JJ)I"⟩
abbrev b_Pairs_saving : ByteArray := prog_4_method_3_code
def y_Pairs_saving : MethodName := ⟨"SuggestDesk$Pairs", "saving", "(JJ)I"⟩
abbrev b_Pairs_indexOf : ByteArray := prog_4_method_4_code
def y_Pairs_indexOf : MethodName := ⟨"SuggestDesk$Pairs", "indexOf", "(JJ)I"⟩
abbrev b_Phrase_init : ByteArray := prog_5_method_1_code
def y_Phrase_init : MethodName := ⟨"SuggestDesk$Phrase", "<init>", "()V"⟩
abbrev b_Phrase_size : ByteArray := prog_5_method_2_code
def y_Phrase_size : MethodName := ⟨"SuggestDesk$Phrase", "size", "()I"⟩
abbrev b_Phrase_add : ByteArray := prog_5_method_3_code
def y_Phrase_add : MethodName := ⟨"SuggestDesk$Phrase", "add", "(J)Z"⟩
abbrev b_Phrase_clear : ByteArray := prog_5_method_4_code
def y_Phrase_clear : MethodName := ⟨"SuggestDesk$Phrase", "clear", "()V"⟩
abbrev b_Phrase_chosenSize : ByteArray := prog_5_method_5_code
def y_Phrase_chosenSize : MethodName := ⟨"SuggestDesk$Phrase", "chosenSize", "()I"⟩
abbrev b_Phrase_chosenAt : ByteArray := prog_5_method_6_code
def y_Phrase_chosenAt : MethodName := ⟨"SuggestDesk$Phrase", "chosenAt", "(I)J"⟩
abbrev b_Phrase_settle : ByteArray := prog_5_method_7_code
def y_Phrase_settle : MethodName := ⟨"SuggestDesk$Phrase", "settle", "(LSuggestDesk$WordList;LSuggestDesk$Ruler;LSuggestDesk$Pairs;)I"⟩
abbrev b_Phrase_gather : ByteArray := prog_5_method_8_code
def y_Phrase_gather : MethodName := ⟨"SuggestDesk$Phrase", "gather", "(ILSuggestDesk$WordList;LSuggestDesk$Ruler;)V"⟩
abbrev b_Phrase_chooseFollowers : ByteArray := prog_5_method_9_code
def y_Phrase_chooseFollowers : MethodName := ⟨"SuggestDesk$Phrase", "chooseFollowers", "(ILSuggestDesk$Pairs;)V"⟩
abbrev b_Phrase_costWith : ByteArray := prog_5_method_10_code
def y_Phrase_costWith : MethodName := ⟨"SuggestDesk$Phrase", "costWith", "(IIILSuggestDesk$Pairs;)I"⟩
abbrev b_Phrase_choose : ByteArray := prog_5_method_11_code
def y_Phrase_choose : MethodName := ⟨"SuggestDesk$Phrase", "choose", "()I"⟩
abbrev b_Ruler_init : ByteArray := prog_6_method_1_code
def y_Ruler_init : MethodName := ⟨"SuggestDesk$Ruler", "<init>", "()V"⟩
abbrev b_Ruler_between : ByteArray := prog_6_method_2_code
def y_Ruler_between : MethodName := ⟨"SuggestDesk$Ruler", "between", "(JJ)I"⟩
abbrev b_Ruler_leastChanges : ByteArray := prog_6_method_3_code
def y_Ruler_leastChanges : MethodName := ⟨"SuggestDesk$Ruler", "leastChanges", "(JJII)I"⟩
abbrev b_Suggestions_init : ByteArray := prog_7_method_1_code
def y_Suggestions_init : MethodName := ⟨"SuggestDesk$Suggestions", "<init>", "()V"⟩
abbrev b_Suggestions_startAnew : ByteArray := prog_7_method_2_code
def y_Suggestions_startAnew : MethodName := ⟨"SuggestDesk$Suggestions", "startAnew", "(I)V"⟩
abbrev b_Suggestions_size : ByteArray := prog_7_method_3_code
def y_Suggestions_size : MethodName := ⟨"SuggestDesk$Suggestions", "size", "()I"⟩
abbrev b_Suggestions_textAt : ByteArray := prog_7_method_4_code
def y_Suggestions_textAt : MethodName := ⟨"SuggestDesk$Suggestions", "textAt", "(I)J"⟩
abbrev b_Suggestions_takeBeginning : ByteArray := prog_7_method_5_code
def y_Suggestions_takeBeginning : MethodName := ⟨"SuggestDesk$Suggestions", "takeBeginning", "(LSuggestDesk$WordList;J)V"⟩
abbrev b_Suggestions_takeNear : ByteArray := prog_7_method_6_code
def y_Suggestions_takeNear : MethodName := ⟨"SuggestDesk$Suggestions", "takeNear", "(LSuggestDesk$WordList;JILSuggestDesk$Ruler;)V"⟩
abbrev b_Suggestions_offer : ByteArray := prog_7_method_7_code
def y_Suggestions_offer : MethodName := ⟨"SuggestDesk$Suggestions", "offer", "(JI)V"⟩
abbrev b_Texts_isWord : ByteArray := prog_8_method_2_code
def y_Texts_isWord : MethodName := ⟨"SuggestDesk$Texts", "isWord", "(J)Z"⟩
abbrev b_Texts_isBeginning : ByteArray := prog_8_method_3_code
def y_Texts_isBeginning : MethodName := ⟨"SuggestDesk$Texts", "isBeginning", "(J)Z"⟩
abbrev b_Texts_ofNumber : ByteArray := prog_8_method_4_code
def y_Texts_ofNumber : MethodName := ⟨"SuggestDesk$Texts", "ofNumber", "(J)J"⟩
abbrev b_Texts_toNumber : ByteArray := prog_8_method_5_code
def y_Texts_toNumber : MethodName := ⟨"SuggestDesk$Texts", "toNumber", "(J)J"⟩
abbrev b_Texts_lengthOf : ByteArray := prog_8_method_6_code
def y_Texts_lengthOf : MethodName := ⟨"SuggestDesk$Texts", "lengthOf", "(J)I"⟩
abbrev b_Texts_letterAt : ByteArray := prog_8_method_7_code
def y_Texts_letterAt : MethodName := ⟨"SuggestDesk$Texts", "letterAt", "(JI)I"⟩
abbrev b_Texts_head : ByteArray := prog_8_method_8_code
def y_Texts_head : MethodName := ⟨"SuggestDesk$Texts", "head", "(JI)J"⟩
abbrev b_Texts_tail : ByteArray := prog_8_method_9_code
def y_Texts_tail : MethodName := ⟨"SuggestDesk$Texts", "tail", "(JI)J"⟩
abbrev b_Texts_sharedLetters : ByteArray := prog_8_method_10_code
def y_Texts_sharedLetters : MethodName := ⟨"SuggestDesk$Texts", "sharedLetters", "(JJ)I"⟩
abbrev b_WordList_init : ByteArray := prog_9_method_1_code
def y_WordList_init : MethodName := ⟨"SuggestDesk$WordList", "<init>", "()V"⟩
abbrev b_WordList_size : ByteArray := prog_9_method_2_code
def y_WordList_size : MethodName := ⟨"SuggestDesk$WordList", "size", "()I"⟩
abbrev b_WordList_textAt : ByteArray := prog_9_method_3_code
def y_WordList_textAt : MethodName := ⟨"SuggestDesk$WordList", "textAt", "(I)J"⟩
abbrev b_WordList_costAt : ByteArray := prog_9_method_4_code
def y_WordList_costAt : MethodName := ⟨"SuggestDesk$WordList", "costAt", "(I)I"⟩
abbrev b_WordList_indexOf : ByteArray := prog_9_method_5_code
def y_WordList_indexOf : MethodName := ⟨"SuggestDesk$WordList", "indexOf", "(J)I"⟩
abbrev b_WordList_put : ByteArray := prog_9_method_6_code
def y_WordList_put : MethodName := ⟨"SuggestDesk$WordList", "put", "(JI)Z"⟩
abbrev b_WordList_remove : ByteArray := prog_9_method_7_code
def y_WordList_remove : MethodName := ⟨"SuggestDesk$WordList", "remove", "(J)Z"⟩
abbrev b_WordList_copyFrom : ByteArray := prog_9_method_8_code
def y_WordList_copyFrom : MethodName := ⟨"SuggestDesk$WordList", "copyFrom", "(LSuggestDesk$WordList;)V"⟩
abbrev b_WordList_firstNotBefore : ByteArray := prog_9_method_9_code
def y_WordList_firstNotBefore : MethodName := ⟨"SuggestDesk$WordList", "firstNotBefore", "(J)I"⟩
abbrev b_L_word : ByteArray := method_3_code
def y_L_word : MethodName := ⟨"SuggestDeskLaw", "word", "(LSuggestDesk;JI[J)I"⟩
abbrev b_L_build : ByteArray := method_4_code
def y_L_build : MethodName := ⟨"SuggestDeskLaw", "build", "(LSuggestDesk;[J)I"⟩
abbrev b_L_hold : ByteArray := method_5_code
def y_L_hold : MethodName := ⟨"SuggestDeskLaw", "hold", "(LSuggestDesk;[J)I"⟩
abbrev b_L_release : ByteArray := method_6_code
def y_L_release : MethodName := ⟨"SuggestDeskLaw", "release", "(LSuggestDesk;I[J)I"⟩
abbrev b_L_look : ByteArray := method_7_code
def y_L_look : MethodName := ⟨"SuggestDeskLaw", "look", "(LSuggestDesk;II[J)I"⟩
abbrev b_L_cost : ByteArray := method_8_code
def y_L_cost : MethodName := ⟨"SuggestDeskLaw", "cost", "(LSuggestDesk;IJ[J)I"⟩
abbrev b_L_complete : ByteArray := method_9_code
def y_L_complete : MethodName := ⟨"SuggestDeskLaw", "complete", "(LSuggestDesk;IJI[J)I"⟩
abbrev b_L_near : ByteArray := method_10_code
def y_L_near : MethodName := ⟨"SuggestDeskLaw", "near", "(LSuggestDesk;IJI[J)I"⟩
abbrev b_L_given : ByteArray := method_11_code
def y_L_given : MethodName := ⟨"SuggestDeskLaw", "given", "(LSuggestDesk;I[J)I"⟩
abbrev b_L_distance : ByteArray := method_12_code
def y_L_distance : MethodName := ⟨"SuggestDeskLaw", "distance", "(LSuggestDesk;JJ[J)I"⟩
abbrev b_L_learn : ByteArray := method_13_code
def y_L_learn : MethodName := ⟨"SuggestDeskLaw", "learn", "(LSuggestDesk;JJ[J)I"⟩
abbrev b_L_say : ByteArray := method_14_code
def y_L_say : MethodName := ⟨"SuggestDeskLaw", "say", "(LSuggestDesk;J[J)I"⟩
abbrev b_L_correct : ByteArray := method_15_code
def y_L_correct : MethodName := ⟨"SuggestDeskLaw", "correct", "(LSuggestDesk;I[J)I"⟩
abbrev b_L_corrected : ByteArray := method_16_code
def y_L_corrected : MethodName := ⟨"SuggestDeskLaw", "corrected", "(LSuggestDesk;I[J)I"⟩
abbrev b_L_law : ByteArray := code
def y_L_law : MethodName := ⟨"SuggestDeskLaw", "law", "([I)Z"⟩
abbrev b_M_init : ByteArray := prog_11_method_1_code
def y_M_init : MethodName := ⟨"SuggestDeskModel", "<init>", "()V"⟩
abbrev b_M_thrown : ByteArray := prog_11_method_2_code
def y_M_thrown : MethodName := ⟨"SuggestDeskModel", "thrown", "()I"⟩
abbrev b_M_throwing : ByteArray := prog_11_method_3_code
def y_M_throwing : MethodName := ⟨"SuggestDeskModel", "throwing", "(ZZ)Z"⟩
abbrev b_M_lettersOf : ByteArray := prog_11_method_4_code
def y_M_lettersOf : MethodName := ⟨"SuggestDeskModel", "lettersOf", "(J)I"⟩
abbrev b_M_isText : ByteArray := prog_11_method_5_code
def y_M_isText : MethodName := ⟨"SuggestDeskModel", "isText", "(J)Z"⟩
abbrev b_M_isWord : ByteArray := prog_11_method_6_code
def y_M_isWord : MethodName := ⟨"SuggestDeskModel", "isWord", "(J)Z"⟩
abbrev b_M_at : ByteArray := prog_11_method_7_code
def y_M_at : MethodName := ⟨"SuggestDeskModel", "at", "(JI)I"⟩
abbrev b_M_isBefore : ByteArray := prog_11_method_8_code
def y_M_isBefore : MethodName := ⟨"SuggestDeskModel", "isBefore", "(JJ)Z"⟩
abbrev b_M_common : ByteArray := prog_11_method_9_code
def y_M_common : MethodName := ⟨"SuggestDeskModel", "common", "(JJ)I"⟩
abbrev b_M_word : ByteArray := prog_11_method_10_code
def y_M_word : MethodName := ⟨"SuggestDeskModel", "word", "(JI)I"⟩
abbrev b_M_drop : ByteArray := prog_11_method_11_code
def y_M_drop : MethodName := ⟨"SuggestDeskModel", "drop", "(J)Z"⟩
abbrev b_M_move : ByteArray := prog_11_method_12_code
def y_M_move : MethodName := ⟨"SuggestDeskModel", "move", "(II)V"⟩
abbrev b_M_build : ByteArray := prog_11_method_13_code
def y_M_build : MethodName := ⟨"SuggestDeskModel", "build", "()I"⟩
abbrev b_M_hold : ByteArray := prog_11_method_14_code
def y_M_hold : MethodName := ⟨"SuggestDeskModel", "hold", "()I"⟩
abbrev b_M_placeOf : ByteArray := prog_11_method_15_code
def y_M_placeOf : MethodName := ⟨"SuggestDeskModel", "placeOf", "(I)I"⟩
abbrev b_M_release : ByteArray := prog_11_method_16_code
def y_M_release : MethodName := ⟨"SuggestDeskModel", "release", "(I)Z"⟩
abbrev b_M_begin : ByteArray := prog_11_method_17_code
def y_M_begin : MethodName := ⟨"SuggestDeskModel", "begin", "(III)V"⟩
abbrev b_M_same : ByteArray := prog_11_method_18_code
def y_M_same : MethodName := ⟨"SuggestDeskModel", "same", "(III)Z"⟩
abbrev b_M_followers : ByteArray := prog_11_method_19_code
def y_M_followers : MethodName := ⟨"SuggestDeskModel", "followers", "(II)I"⟩
abbrev b_M_count : ByteArray := prog_11_method_20_code
def y_M_count : MethodName := ⟨"SuggestDeskModel", "count", "(I)V"⟩
abbrev b_M_look : ByteArray := prog_11_method_21_code
def y_M_look : MethodName := ⟨"SuggestDeskModel", "look", "(II)I"⟩
abbrev b_M_cost : ByteArray := prog_11_method_22_code
def y_M_cost : MethodName := ⟨"SuggestDeskModel", "cost", "(IJ)I"⟩
abbrev b_M_give : ByteArray := prog_11_method_23_code
def y_M_give : MethodName := ⟨"SuggestDeskModel", "give", "(JI)V"⟩
abbrev b_M_complete : ByteArray := prog_11_method_24_code
def y_M_complete : MethodName := ⟨"SuggestDeskModel", "complete", "(IJI)I"⟩
abbrev b_M_lesser : ByteArray := prog_11_method_25_code
def y_M_lesser : MethodName := ⟨"SuggestDeskModel", "lesser", "(II)I"⟩
abbrev b_M_distanceOf : ByteArray := prog_11_method_26_code
def y_M_distanceOf : MethodName := ⟨"SuggestDeskModel", "distanceOf", "(JJ)I"⟩
abbrev b_M_near : ByteArray := prog_11_method_27_code
def y_M_near : MethodName := ⟨"SuggestDeskModel", "near", "(IJI)I"⟩
abbrev b_M_given : ByteArray := prog_11_method_28_code
def y_M_given : MethodName := ⟨"SuggestDeskModel", "given", "(I)J"⟩
abbrev b_M_distance : ByteArray := prog_11_method_29_code
def y_M_distance : MethodName := ⟨"SuggestDeskModel", "distance", "(JJ)I"⟩
abbrev b_M_pairOf : ByteArray := prog_11_method_30_code
def y_M_pairOf : MethodName := ⟨"SuggestDeskModel", "pairOf", "(JJ)I"⟩
abbrev b_M_learn : ByteArray := prog_11_method_31_code
def y_M_learn : MethodName := ⟨"SuggestDeskModel", "learn", "(JJ)I"⟩
abbrev b_M_say : ByteArray := prog_11_method_32_code
def y_M_say : MethodName := ⟨"SuggestDeskModel", "say", "(J)I"⟩
abbrev b_M_gather : ByteArray := prog_11_method_33_code
def y_M_gather : MethodName := ⟨"SuggestDeskModel", "gather", "(II)V"⟩
abbrev b_M_costOf : ByteArray := prog_11_method_34_code
def y_M_costOf : MethodName := ⟨"SuggestDeskModel", "costOf", "(I)I"⟩
abbrev b_M_next : ByteArray := prog_11_method_35_code
def y_M_next : MethodName := ⟨"SuggestDeskModel", "next", "(I)Z"⟩
abbrev b_M_correct : ByteArray := prog_11_method_36_code
def y_M_correct : MethodName := ⟨"SuggestDeskModel", "correct", "(I)I"⟩
abbrev b_M_corrected : ByteArray := prog_11_method_37_code
def y_M_corrected : MethodName := ⟨"SuggestDeskModel", "corrected", "(I)J"⟩
def FU : Nat := 1000000
end
section
/-! Go: from every heap that holds the world ws (addresses apart, nothing outside A changed since the entry) and locals that hold lv, the frame at pc with stack st comes to Q. The rules below are a rule an instruction, over the kit's rows. -/
def go_nest : Cond → Bool
  | .methodLinkNest .. => true
  | .fieldLinkNest .. => true
  | _ => false
def AL : List Cond := lw_tbl.filter goodWord
def NWs : List Cond := lw_tbl.filter go_nest
theorem AL_in {w : Cond} (h : w ∈ lw_tbl) (hg : goodWord w = true) : w ∈ AL := List.mem_filter.mpr ⟨h, hg⟩
theorem NW_in {w : Cond} (h : w ∈ lw_tbl) (hg : go_nest w = true) : w ∈ NWs := List.mem_filter.mpr ⟨h, hg⟩
theorem AL_goodIn {cw : Cond} (h : cw ∈ AL) : GoodIn AL (cw :: AL) := fun w hw => by
  rcases List.mem_cons.mp hw with rfl | hw
  · exact ⟨h, good_of_word (List.mem_filter.mp h).2⟩
  · exact ⟨hw, good_of_word (List.mem_filter.mp hw).2⟩
theorem NW_warm {s U : State} (hW : s.WarmedH U.vm) (h : ∀ w ∈ NWs, va_Nw w s) : ∀ w ∈ NWs, va_Nw w U := fun w hw => by
  have h1 := h w hw
  have h2 := (List.mem_filter.mp hw).2
  cases w <;> first | (simp [go_nest] at h2; done) | exact va_Nw.warmM hW h1 | exact va_Nw.warmF hW h1
theorem NW_same {s U : State} (hv : s.vm = U.vm) (h : ∀ w ∈ NWs, va_Nw w s) : ∀ w ∈ NWs, va_Nw w U := fun w hw => by
  have h1 := h w hw
  have h2 := (List.mem_filter.mp hw).2
  cases w <;> first | (simp [go_nest] at h2; done) | exact va_Nw.same rfl hv h1
/-- the array classes: int[], long[], Dictionary[], int[][], long[][] -/
def TY (tc : Nat → ClassId) : List (ClassId × FieldType) := [(tc 0, .int), (tc 1, .long), (tc 2, .object "SuggestDesk$Dictionary"), (tc 3, .array .int), (tc 4, .array .long)]
/-- what a method's frame stands on -/
def Cx (p : Program) (s : State) (m : MethodId) (args : Array Value) (meth : Method) (c : Code) (D : va_G) (tc : Nat → ClassId) (A : Nat → Prop) (nL : Nat) (cc : ByteArray) (own : String) : Prop :=
  (p.tables.exec = Jvm.exec ∧ c.code = cc) ∧ (c.maxLocals = nL ∧ s.vm.findClass own = some m.cls) ∧ (∀ w ∈ AL, w.before args s = true) ∧ (va_K D vwCl (TY tc) s ∧ ∀ w ∈ NWs, va_Nw w s) ∧ meth.locks = false ∧ ∀ q, s.heap.size ≤ q → A q
def Go (p : Program) (l : Launch) (e : Env) (R : Room) (s : State) (m : MethodId) (args : Array Value) (below : List Frame) (meth : Method) (c : Code) (Q : State → Prop) (D : va_G) (A : Nat → Prop) (nL kc ks : Nat) (ws : va_W) (lv : List (Nat × Value)) (pc : Nat) (st : List Value) : Prop :=
  ∀ (H : Heap) (locs : List Loc) (ls : Array Slot), lv_has ls nL lv → va_P D vwCl ws H → va_D A ws → va_S A s.heap H locs → W p l e R s m args below meth c H locs kc ks Q (F0 m pc ls st)
theorem go_fm {ws wc : va_W} {is : List Nat} (h : is.map (fun i => ws[i]?) = wc.map some) : is.filterMap (fun i => ws[i]?) = wc := by
  have h1 : is.filterMap (fun i => ws[i]?) = (is.map (fun i => ws[i]?)).filterMap id := by rw [List.filterMap_map]; rfl
  have h2 : ∀ w : va_W, (w.map some).filterMap id = w := fun w => by
    induction w with
    | nil => rfl
    | cons a l ih => rw [List.map_cons, List.filterMap_cons_some (f := id) (b := a) rfl, ih]
  rw [h1, h, h2]
/-- a world with the cells at the places is changed for others -/
def repl : va_W → List Nat → va_W → va_W
  | ws, i :: is, x :: xs => repl (ws.set i x) is xs
  | ws, _, _ => ws
theorem repl_get : ∀ (is : List Nat) (xs ws : va_W) (k : Nat) (q : Nat × va_E), (repl ws is xs)[k]? = some q → is.length = xs.length → (∃ j : Nat, xs[j]? = some q) ∨ (k ∉ is ∧ ws[k]? = some q)
  | [], [], ws, k, q, h, _ => Or.inr ⟨List.not_mem_nil, h⟩
  | i :: is, x :: xs, ws, k, q, h, hl => by
    rcases repl_get is xs (ws.set i x) k q h (by simpa using hl) with ⟨j, hj⟩ | ⟨hk, hw⟩
    · exact Or.inl ⟨j + 1, hj⟩
    · by_cases hik : i = k
      · subst hik
        by_cases hlt : i < ws.length
        · rw [List.getElem?_set_self hlt] at hw
          exact Or.inl ⟨0, hw⟩
        · have h2 : (ws.set i x).length ≤ i := by rw [List.length_set]; omega
          rw [List.getElem?_eq_none h2] at hw
          cases hw
      · rw [List.getElem?_set_ne hik] at hw
        exact Or.inr ⟨fun h => (List.mem_cons.mp h).elim (fun h => hik h.symm) hk, hw⟩
  | [], _ :: _, _, _, _, _, hl => by simp at hl
  | _ :: _, [], _, _, _, _, hl => by simp at hl
theorem repl_P {A0 : Nat → Prop} {D : va_G} {cl : List vw_C} {ws wc w1 : va_W} {H H1 : Heap} (hP : va_P D cl ws H) (hD : va_D A0 ws) (isC : List Nat) (hC : isC.map (fun i => ws[i]?) = wc.map some) (hlen : isC.length = w1.length)
    (hk : ∀ q : Nat, q < H.size → ¬ va_A wc H.size q → H1[q]? = H[q]?) (hP1 : va_P D cl w1 H1) : va_P D cl (repl ws isC w1) H1 := by
  intro k q hq
  rcases repl_get isC w1 ws k q hq hlen with ⟨j, hj⟩ | ⟨hn, hw⟩
  · exact hP1 j q hj
  · have hlt := (hP k q hw).lt
    refine (hP k q hw).kept (hk q.1 hlt (fun h => ?_))
    rcases h with ⟨k2, e, h⟩ | h
    · have h1 : (isC.map (fun i => ws[i]?))[k2]? = some (some (q.1, e)) := by rw [hC, List.getElem?_map, h]; rfl
      rw [List.getElem?_map] at h1
      cases hi : isC[k2]? with
      | none => rw [hi] at h1; cases h1
      | some i =>
        rw [hi] at h1
        have h2 : ws[i]? = some (q.1, e) := Option.some.inj h1
        have := hD.1 k i q (q.1, e) hw h2 rfl
        subst this
        exact hn (List.mem_of_getElem? hi)
    · omega
theorem repl_D {A : Nat → Prop} {ws ws' : va_W} (hD : va_D A ws) (h : ws'.map Prod.fst = ws.map Prod.fst) : va_D A ws' := by
  have key : ∀ (k : Nat) (q : Nat × va_E), ws'[k]? = some q → ∃ q0, ws[k]? = some q0 ∧ q0.1 = q.1 := by
    intro k q hk
    have h1 : (ws'.map Prod.fst)[k]? = some q.1 := by rw [List.getElem?_map, hk]; rfl
    rw [h, List.getElem?_map] at h1
    cases hw : ws[k]? with
    | none => rw [hw] at h1; cases h1
    | some q0 => rw [hw] at h1; exact ⟨q0, rfl, Option.some.inj h1⟩
  refine ⟨fun i j x y hi hj hxy => ?_, fun k q hk => ?_⟩
  · obtain ⟨x0, h1, h2⟩ := key i x hi
    obtain ⟨y0, h3, h4⟩ := key j y hj
    exact hD.1 i j x0 y0 h1 h3 (h2.trans (hxy.trans h4.symm))
  · obtain ⟨q0, h1, h2⟩ := key k q hk
    rw [← h2]
    exact hD.2 k q0 h1
theorem iteS {α : Type} {c : Prop} [Decidable c] {a b : Option α} {o : α} (h : (if c then a else b) = some o) : (c → a = some o) ∧ (¬ c → b = some o) := ⟨fun hc => by rw [if_pos hc] at h; exact h, fun hc => by rw [if_neg hc] at h; exact h⟩
theorem guardS {α : Type} {c : Bool} {a : Option α} {o : α} (h : (if c = true then a else none) = some o) : c = true ∧ a = some o := by
  by_cases hc : c = true
  · rw [if_pos hc] at h
    exact ⟨hc, h⟩
  · rw [if_neg hc] at h
    cases h
theorem bindS {α β : Type} {x : Option α} {k : α → Option β} {o : β} (h : x.bind k = some o) : ∃ r, x = some r ∧ k r = some o := by
  cases x with
  | none => cases h
  | some r => exact ⟨r, rfl, h⟩
def okZ (v : Int32) : Bool := decide (v = 0) || decide (v = 1)
theorem okZ_n {v : Int32} (h : okZ v = true) : narrow .boolean (.int v) = .int v := by
  simp only [okZ, Bool.or_eq_true, decide_eq_true_eq] at h
  rcases h with rfl | rfl <;> rfl
theorem lg_eq0 {x y : Int64} : lg_cmp x y = 0 ↔ x = y := by
  unfold lg_cmp
  by_cases h1 : y < x
  · rw [if_pos h1]
    exact ⟨fun h => absurd h (by decide), fun h => absurd (h ▸ h1) (by simp)⟩
  · rw [if_neg h1]
    by_cases h2 : x = y
    · simp [h2]
    · simp [h2]
theorem lg_lt0 {x y : Int64} : lg_cmp x y < 0 ↔ x < y := by
  unfold lg_cmp
  by_cases h1 : y < x
  · rw [if_pos h1]
    exact ⟨fun h => absurd h (by decide), fun h => absurd (Int64.lt_trans h1 h) (by simp)⟩
  · rw [if_neg h1]
    by_cases h2 : x = y
    · subst h2
      simp
    · rw [if_neg h2]
      refine ⟨fun _ => ?_, fun _ => by decide⟩
      have h3 : ¬ y.toInt < x.toInt := fun h => h1 (Int64.lt_iff_toInt_lt.mpr h)
      have h4 : ¬ x.toInt = y.toInt := fun h => h2 (Int64.toInt_inj.mp h)
      exact Int64.lt_iff_toInt_lt.mpr (by omega)
theorem lg_gt0 {x y : Int64} : 0 < lg_cmp x y ↔ y < x := by
  unfold lg_cmp
  by_cases h1 : y < x
  · rw [if_pos h1]
    exact ⟨fun _ => h1, fun _ => by decide⟩
  · rw [if_neg h1]
    by_cases h2 : x = y
    · subst h2
      simp
    · rw [if_neg h2]
      exact ⟨fun h => absurd h (by decide), fun h => absurd h h1⟩
theorem lg_ge0 {x y : Int64} : 0 ≤ lg_cmp x y ↔ y ≤ x := by
  rw [← Int32.not_lt, lg_lt0, Int64.not_lt]
theorem lg_le0 {x y : Int64} : lg_cmp x y ≤ 0 ↔ x ≤ y := by
  rw [← Int32.not_lt, lg_gt0, Int64.not_lt]
section GO
variable {p : Program} {l : Launch} {e : Env} {R : Room} {s : State} {m : MethodId} {args : Array Value} {below : List Frame} {meth : Method} {c : Code} {Q : State → Prop} {D : va_G} {A : Nat → Prop} {nL kc ks : Nat} {ws : va_W} {lv : List (Nat × Value)} {pc n : Nat} {st : List Value} {tc : Nat → ClassId} {cc : ByteArray} {own : String}

theorem go_iconst (C : Cx p s m args meth c D tc A nL cc own) {z : Int} {v : Int32} (hd : decode cc pc = .ok (.iconst z, 1)) (hv : Int32.ofInt z = v) (hn : pc + 1 = n) (k : Go p l e R s m args below meth c Q D A nL kc ks ws lv n (.int v :: st)) : Go p l e R s m args below meth c Q D A nL kc ks ws lv pc st := by
  subst hn
  exact fun H locs ls hl hP hD hS => lv_iconst C.1.1 C.1.2 hd hv (k H locs ls hl hP hD hS)
theorem go_bipush (C : Cx p s m args meth c D tc A nL cc own) {z : Int} {v : Int32} (hd : decode cc pc = .ok (.bipush z, 2)) (hv : (Int8.ofInt z).toInt32 = v) (hn : pc + 2 = n) (k : Go p l e R s m args below meth c Q D A nL kc ks ws lv n (.int v :: st)) : Go p l e R s m args below meth c Q D A nL kc ks ws lv pc st := by
  subst hn
  exact fun H locs ls hl hP hD hS => lv_bipush C.1.1 C.1.2 hd hv (k H locs ls hl hP hD hS)
theorem go_sipush (C : Cx p s m args meth c D tc A nL cc own) {z : Int} {v : Int32} (hd : decode cc pc = .ok (.sipush z, 3)) (hv : (Int16.ofInt z).toInt32 = v) (hn : pc + 3 = n) (k : Go p l e R s m args below meth c Q D A nL kc ks ws lv n (.int v :: st)) : Go p l e R s m args below meth c Q D A nL kc ks ws lv pc st := by
  subst hn
  exact fun H locs ls hl hP hD hS => lv_sipush C.1.1 C.1.2 hd hv (k H locs ls hl hP hD hS)
theorem go_lconst (C : Cx p s m args meth c D tc A nL cc own) {z : Fin 2} {v : Int64} (hd : decode cc pc = .ok (.lconst z, 1)) (hv : Int64.ofNat (z : Nat) = v) (hn : pc + 1 = n) (k : Go p l e R s m args below meth c Q D A nL kc ks ws lv n (.long v :: st)) : Go p l e R s m args below meth c Q D A nL kc ks ws lv pc st := by
  subst hn
  exact fun H locs ls hl hP hD hS => lv_lconst C.1.1 C.1.2 hd hv (k H locs ls hl hP hD hS)
theorem go_null (C : Cx p s m args meth c D tc A nL cc own)  (hd : decode cc pc = .ok (.aconst_null, 1)) (hn : pc + 1 = n) (k : Go p l e R s m args below meth c Q D A nL kc ks ws lv n (.null :: st)) : Go p l e R s m args below meth c Q D A nL kc ks ws lv pc st := by
  subst hn
  exact fun H locs ls hl hP hD hS => lv_null C.1.1 C.1.2 hd (k H locs ls hl hP hD hS)
theorem go_ldc (C : Cx p s m args meth c D tc A nL cc own) {z : Nat} {v : Int32} (hd : decode cc pc = .ok (.ldc z, 2)) (hw : Jvm.Cond.constant own z v ∈ AL) (hn : pc + 2 = n) (k : Go p l e R s m args below meth c Q D A nL kc ks ws lv n (.int v :: st)) : Go p l e R s m args below meth c Q D A nL kc ks ws lv pc st := by
  subst hn
  exact fun H locs ls hl hP hD hS => lv_ldc C.1.1 C.1.2 C.2.1.2 (C.2.2.1 _ hw) hd (k H locs ls hl hP hD hS)
theorem go_ldc2 (C : Cx p s m args meth c D tc A nL cc own) {z : Nat} {v : Int64} (hd : decode cc pc = .ok (.ldc2_w z, 3)) (hw : Jvm.Cond.constantLong own z v ∈ AL) (hn : pc + 3 = n) (k : Go p l e R s m args below meth c Q D A nL kc ks ws lv n (.long v :: st)) : Go p l e R s m args below meth c Q D A nL kc ks ws lv pc st := by
  subst hn
  exact fun H locs ls hl hP hD hS => lv_ldc2 C.1.1 C.1.2 C.2.1.2 (C.2.2.1 _ hw) hd (k H locs ls hl hP hD hS)
theorem go_iload_n (C : Cx p s m args meth c D tc A nL cc own) {z : Fin 4} {i : Nat} {x : Int32} (hd : decode cc pc = .ok (.iload_n z, 1)) (hi : (z : Nat) = i) (j : Nat) (hj : lv[j]? = some (i, .int x)) (hn : pc + 1 = n) (k : Go p l e R s m args below meth c Q D A nL kc ks ws lv n (.int x :: st)) : Go p l e R s m args below meth c Q D A nL kc ks ws lv pc st := by
  subst hn
  exact fun H locs ls hl hP hD hS => lv_iload_n C.1.1 C.1.2 hd hi (lv_at hl j hj) (k H locs ls hl hP hD hS)
theorem go_iload (C : Cx p s m args meth c D tc A nL cc own) {i : Nat} {x : Int32} (hd : decode cc pc = .ok (.iload i, 2)) (j : Nat) (hj : lv[j]? = some (i, .int x)) (hn : pc + 2 = n) (k : Go p l e R s m args below meth c Q D A nL kc ks ws lv n (.int x :: st)) : Go p l e R s m args below meth c Q D A nL kc ks ws lv pc st := by
  subst hn
  exact fun H locs ls hl hP hD hS => lv_iload C.1.1 C.1.2 hd (lv_at hl j hj) (k H locs ls hl hP hD hS)
theorem go_lload_n (C : Cx p s m args meth c D tc A nL cc own) {z : Fin 4} {i : Nat} {x : Int64} (hd : decode cc pc = .ok (.lload_n z, 1)) (hi : (z : Nat) = i) (j : Nat) (hj : lv[j]? = some (i, .long x)) (hn : pc + 1 = n) (k : Go p l e R s m args below meth c Q D A nL kc ks ws lv n (.long x :: st)) : Go p l e R s m args below meth c Q D A nL kc ks ws lv pc st := by
  subst hn
  exact fun H locs ls hl hP hD hS => lv_lload_n C.1.1 C.1.2 hd hi (lv_at hl j hj) (k H locs ls hl hP hD hS)
theorem go_lload (C : Cx p s m args meth c D tc A nL cc own) {i : Nat} {x : Int64} (hd : decode cc pc = .ok (.lload i, 2)) (j : Nat) (hj : lv[j]? = some (i, .long x)) (hn : pc + 2 = n) (k : Go p l e R s m args below meth c Q D A nL kc ks ws lv n (.long x :: st)) : Go p l e R s m args below meth c Q D A nL kc ks ws lv pc st := by
  subst hn
  exact fun H locs ls hl hP hD hS => lv_lload C.1.1 C.1.2 hd (lv_at hl j hj) (k H locs ls hl hP hD hS)
theorem go_aload_n (C : Cx p s m args meth c D tc A nL cc own) {z : Fin 4} {i : Nat} {x : Nat} (hd : decode cc pc = .ok (.aload_n z, 1)) (hi : (z : Nat) = i) (j : Nat) (hj : lv[j]? = some (i, .ref x)) (hn : pc + 1 = n) (k : Go p l e R s m args below meth c Q D A nL kc ks ws lv n (.ref x :: st)) : Go p l e R s m args below meth c Q D A nL kc ks ws lv pc st := by
  subst hn
  exact fun H locs ls hl hP hD hS => lv_aload_n C.1.1 C.1.2 hd hi (lv_at hl j hj) (k H locs ls hl hP hD hS)
theorem go_aload (C : Cx p s m args meth c D tc A nL cc own) {i : Nat} {x : Nat} (hd : decode cc pc = .ok (.aload i, 2)) (j : Nat) (hj : lv[j]? = some (i, .ref x)) (hn : pc + 2 = n) (k : Go p l e R s m args below meth c Q D A nL kc ks ws lv n (.ref x :: st)) : Go p l e R s m args below meth c Q D A nL kc ks ws lv pc st := by
  subst hn
  exact fun H locs ls hl hP hD hS => lv_aload C.1.1 C.1.2 hd (lv_at hl j hj) (k H locs ls hl hP hD hS)
theorem go_aload_nN (C : Cx p s m args meth c D tc A nL cc own) {z : Fin 4} {i : Nat} (hd : decode cc pc = .ok (.aload_n z, 1)) (hi : (z : Nat) = i) (j : Nat) (hj : lv[j]? = some (i, .null)) (hn : pc + 1 = n) (k : Go p l e R s m args below meth c Q D A nL kc ks ws lv n (.null :: st)) : Go p l e R s m args below meth c Q D A nL kc ks ws lv pc st := by
  subst hn
  exact fun H locs ls hl hP hD hS => lv_aload_nN C.1.1 C.1.2 hd hi (lv_at hl j hj) (k H locs ls hl hP hD hS)
theorem go_aloadN (C : Cx p s m args meth c D tc A nL cc own) {i : Nat} (hd : decode cc pc = .ok (.aload i, 2)) (j : Nat) (hj : lv[j]? = some (i, .null)) (hn : pc + 2 = n) (k : Go p l e R s m args below meth c Q D A nL kc ks ws lv n (.null :: st)) : Go p l e R s m args below meth c Q D A nL kc ks ws lv pc st := by
  subst hn
  exact fun H locs ls hl hP hD hS => lv_aloadN C.1.1 C.1.2 hd (lv_at hl j hj) (k H locs ls hl hP hD hS)
theorem go_istore_n (C : Cx p s m args meth c D tc A nL cc own) {z : Fin 4} {i : Nat} {x : Int32} {lv' : List (Nat × Value)} (hd : decode cc pc = .ok (.istore_n z, 1)) (hi : (z : Nat) = i) (hb : i < nL) (hl' : (i, Value.int x) :: lv.filter (fun q => !(q.1 == i) && !(q.1 + 1 == i && q.2.category == 2)) = lv') (hn : pc + 1 = n) (k : Go p l e R s m args below meth c Q D A nL kc ks ws lv' n st) : Go p l e R s m args below meth c Q D A nL kc ks ws lv pc (Value.int x :: st) := by
  subst hn
  exact fun H locs ls hl hP hD hS => lv_istore_n C.1.1 C.1.2 hd hi hl hb hl' (fun ls' hl2 => k H locs ls' hl2 hP hD hS)
theorem go_istore (C : Cx p s m args meth c D tc A nL cc own) {i : Nat} {x : Int32} {lv' : List (Nat × Value)} (hd : decode cc pc = .ok (.istore i, 2)) (hb : i < nL) (hl' : (i, Value.int x) :: lv.filter (fun q => !(q.1 == i) && !(q.1 + 1 == i && q.2.category == 2)) = lv') (hn : pc + 2 = n) (k : Go p l e R s m args below meth c Q D A nL kc ks ws lv' n st) : Go p l e R s m args below meth c Q D A nL kc ks ws lv pc (Value.int x :: st) := by
  subst hn
  exact fun H locs ls hl hP hD hS => lv_istore C.1.1 C.1.2 hd hl hb hl' (fun ls' hl2 => k H locs ls' hl2 hP hD hS)
theorem go_lstore_n (C : Cx p s m args meth c D tc A nL cc own) {z : Fin 4} {i : Nat} {x : Int64} {lv' : List (Nat × Value)} (hd : decode cc pc = .ok (.lstore_n z, 1)) (hi : (z : Nat) = i) (hb : i + 1 < nL) (hl' : (i, Value.long x) :: lv.filter (fun q => !(q.1 == i) && (!(q.1 == i + 1) && !(q.1 + 1 == i && q.2.category == 2))) = lv') (hn : pc + 1 = n) (k : Go p l e R s m args below meth c Q D A nL kc ks ws lv' n st) : Go p l e R s m args below meth c Q D A nL kc ks ws lv pc (Value.long x :: st) := by
  subst hn
  exact fun H locs ls hl hP hD hS => lv_lstore_n C.1.1 C.1.2 hd hi hl hb hl' (fun ls' hl2 => k H locs ls' hl2 hP hD hS)
theorem go_lstore (C : Cx p s m args meth c D tc A nL cc own) {i : Nat} {x : Int64} {lv' : List (Nat × Value)} (hd : decode cc pc = .ok (.lstore i, 2)) (hb : i + 1 < nL) (hl' : (i, Value.long x) :: lv.filter (fun q => !(q.1 == i) && (!(q.1 == i + 1) && !(q.1 + 1 == i && q.2.category == 2))) = lv') (hn : pc + 2 = n) (k : Go p l e R s m args below meth c Q D A nL kc ks ws lv' n st) : Go p l e R s m args below meth c Q D A nL kc ks ws lv pc (Value.long x :: st) := by
  subst hn
  exact fun H locs ls hl hP hD hS => lv_lstore C.1.1 C.1.2 hd hl hb hl' (fun ls' hl2 => k H locs ls' hl2 hP hD hS)
theorem go_astore_n (C : Cx p s m args meth c D tc A nL cc own) {z : Fin 4} {i : Nat} {x : Nat} {lv' : List (Nat × Value)} (hd : decode cc pc = .ok (.astore_n z, 1)) (hi : (z : Nat) = i) (hb : i < nL) (hl' : (i, Value.ref x) :: lv.filter (fun q => !(q.1 == i) && !(q.1 + 1 == i && q.2.category == 2)) = lv') (hn : pc + 1 = n) (k : Go p l e R s m args below meth c Q D A nL kc ks ws lv' n st) : Go p l e R s m args below meth c Q D A nL kc ks ws lv pc (Value.ref x :: st) := by
  subst hn
  exact fun H locs ls hl hP hD hS => lv_astore_n C.1.1 C.1.2 hd hi hl hb hl' (fun ls' hl2 => k H locs ls' hl2 hP hD hS)
theorem go_astore (C : Cx p s m args meth c D tc A nL cc own) {i : Nat} {x : Nat} {lv' : List (Nat × Value)} (hd : decode cc pc = .ok (.astore i, 2)) (hb : i < nL) (hl' : (i, Value.ref x) :: lv.filter (fun q => !(q.1 == i) && !(q.1 + 1 == i && q.2.category == 2)) = lv') (hn : pc + 2 = n) (k : Go p l e R s m args below meth c Q D A nL kc ks ws lv' n st) : Go p l e R s m args below meth c Q D A nL kc ks ws lv pc (Value.ref x :: st) := by
  subst hn
  exact fun H locs ls hl hP hD hS => lv_astore C.1.1 C.1.2 hd hl hb hl' (fun ls' hl2 => k H locs ls' hl2 hP hD hS)
theorem go_astore_nN (C : Cx p s m args meth c D tc A nL cc own) {z : Fin 4} {i : Nat} {lv' : List (Nat × Value)} (hd : decode cc pc = .ok (.astore_n z, 1)) (hi : (z : Nat) = i) (hb : i < nL) (hl' : (i, Value.null) :: lv.filter (fun q => !(q.1 == i) && !(q.1 + 1 == i && q.2.category == 2)) = lv') (hn : pc + 1 = n) (k : Go p l e R s m args below meth c Q D A nL kc ks ws lv' n st) : Go p l e R s m args below meth c Q D A nL kc ks ws lv pc (Value.null :: st) := by
  subst hn
  exact fun H locs ls hl hP hD hS => lv_astore_nN C.1.1 C.1.2 hd hi hl hb hl' (fun ls' hl2 => k H locs ls' hl2 hP hD hS)
theorem go_astoreN (C : Cx p s m args meth c D tc A nL cc own) {i : Nat} {lv' : List (Nat × Value)} (hd : decode cc pc = .ok (.astore i, 2)) (hb : i < nL) (hl' : (i, Value.null) :: lv.filter (fun q => !(q.1 == i) && !(q.1 + 1 == i && q.2.category == 2)) = lv') (hn : pc + 2 = n) (k : Go p l e R s m args below meth c Q D A nL kc ks ws lv' n st) : Go p l e R s m args below meth c Q D A nL kc ks ws lv pc (Value.null :: st) := by
  subst hn
  exact fun H locs ls hl hP hD hS => lv_astoreN C.1.1 C.1.2 hd hl hb hl' (fun ls' hl2 => k H locs ls' hl2 hP hD hS)
theorem go_iinc (C : Cx p s m args meth c D tc A nL cc own) {i : Nat} {z : Int} {x v : Int32} {lv' : List (Nat × Value)} (hd : decode cc pc = .ok (.iinc i z, 3)) (j : Nat) (hj : lv[j]? = some (i, .int x)) (hv : x + Int32.ofInt z = v) (hb : i < nL) (hl' : (i, Value.int v) :: lv.filter (fun q => !(q.1 == i) && !(q.1 + 1 == i && q.2.category == 2)) = lv') (hn : pc + 3 = n) (k : Go p l e R s m args below meth c Q D A nL kc ks ws lv' n st) : Go p l e R s m args below meth c Q D A nL kc ks ws lv pc st := by
  subst hn
  exact fun H locs ls hl hP hD hS => lv_iinc C.1.1 C.1.2 hd hl hj hv hb hl' (fun ls' hl2 => k H locs ls' hl2 hP hD hS)
theorem go_iadd (C : Cx p s m args meth c D tc A nL cc own) {x y : Int32} (hd : decode cc pc = .ok (.iadd, 1)) (hn : pc + 1 = n) (k : Go p l e R s m args below meth c Q D A nL kc ks ws lv n (.int (x + y) :: st)) : Go p l e R s m args below meth c Q D A nL kc ks ws lv pc (.int y :: .int x :: st) := by
  subst hn
  exact fun H locs ls hl hP hD hS => lv_iadd C.1.1 C.1.2 hd (k H locs ls hl hP hD hS)
theorem go_isub (C : Cx p s m args meth c D tc A nL cc own) {x y : Int32} (hd : decode cc pc = .ok (.isub, 1)) (hn : pc + 1 = n) (k : Go p l e R s m args below meth c Q D A nL kc ks ws lv n (.int (x - y) :: st)) : Go p l e R s m args below meth c Q D A nL kc ks ws lv pc (.int y :: .int x :: st) := by
  subst hn
  exact fun H locs ls hl hP hD hS => lv_isub C.1.1 C.1.2 hd (k H locs ls hl hP hD hS)
theorem go_imul (C : Cx p s m args meth c D tc A nL cc own) {x y : Int32} (hd : decode cc pc = .ok (.imul, 1)) (hn : pc + 1 = n) (k : Go p l e R s m args below meth c Q D A nL kc ks ws lv n (.int (x * y) :: st)) : Go p l e R s m args below meth c Q D A nL kc ks ws lv pc (.int y :: .int x :: st) := by
  subst hn
  exact fun H locs ls hl hP hD hS => lv_imul C.1.1 C.1.2 hd (k H locs ls hl hP hD hS)
theorem go_iand (C : Cx p s m args meth c D tc A nL cc own) {x y : Int32} (hd : decode cc pc = .ok (.iand, 1)) (hn : pc + 1 = n) (k : Go p l e R s m args below meth c Q D A nL kc ks ws lv n (.int (x &&& y) :: st)) : Go p l e R s m args below meth c Q D A nL kc ks ws lv pc (.int y :: .int x :: st) := by
  subst hn
  exact fun H locs ls hl hP hD hS => lv_iand C.1.1 C.1.2 hd (k H locs ls hl hP hD hS)
theorem go_ior (C : Cx p s m args meth c D tc A nL cc own) {x y : Int32} (hd : decode cc pc = .ok (.ior, 1)) (hn : pc + 1 = n) (k : Go p l e R s m args below meth c Q D A nL kc ks ws lv n (.int (x ||| y) :: st)) : Go p l e R s m args below meth c Q D A nL kc ks ws lv pc (.int y :: .int x :: st) := by
  subst hn
  exact fun H locs ls hl hP hD hS => lv_ior C.1.1 C.1.2 hd (k H locs ls hl hP hD hS)
theorem go_ladd (C : Cx p s m args meth c D tc A nL cc own) {x y : Int64} (hd : decode cc pc = .ok (.ladd, 1)) (hn : pc + 1 = n) (k : Go p l e R s m args below meth c Q D A nL kc ks ws lv n (.long (x + y) :: st)) : Go p l e R s m args below meth c Q D A nL kc ks ws lv pc (.long y :: .long x :: st) := by
  subst hn
  exact fun H locs ls hl hP hD hS => lv_ladd C.1.1 C.1.2 hd (k H locs ls hl hP hD hS)
theorem go_lsub (C : Cx p s m args meth c D tc A nL cc own) {x y : Int64} (hd : decode cc pc = .ok (.lsub, 1)) (hn : pc + 1 = n) (k : Go p l e R s m args below meth c Q D A nL kc ks ws lv n (.long (x - y) :: st)) : Go p l e R s m args below meth c Q D A nL kc ks ws lv pc (.long y :: .long x :: st) := by
  subst hn
  exact fun H locs ls hl hP hD hS => lv_lsub C.1.1 C.1.2 hd (k H locs ls hl hP hD hS)
theorem go_lmul (C : Cx p s m args meth c D tc A nL cc own) {x y : Int64} (hd : decode cc pc = .ok (.lmul, 1)) (hn : pc + 1 = n) (k : Go p l e R s m args below meth c Q D A nL kc ks ws lv n (.long (x * y) :: st)) : Go p l e R s m args below meth c Q D A nL kc ks ws lv pc (.long y :: .long x :: st) := by
  subst hn
  exact fun H locs ls hl hP hD hS => lv_lmul C.1.1 C.1.2 hd (k H locs ls hl hP hD hS)
theorem go_land (C : Cx p s m args meth c D tc A nL cc own) {x y : Int64} (hd : decode cc pc = .ok (.land, 1)) (hn : pc + 1 = n) (k : Go p l e R s m args below meth c Q D A nL kc ks ws lv n (.long (x &&& y) :: st)) : Go p l e R s m args below meth c Q D A nL kc ks ws lv pc (.long y :: .long x :: st) := by
  subst hn
  exact fun H locs ls hl hP hD hS => lv_land C.1.1 C.1.2 hd (k H locs ls hl hP hD hS)
theorem go_lor (C : Cx p s m args meth c D tc A nL cc own) {x y : Int64} (hd : decode cc pc = .ok (.lor, 1)) (hn : pc + 1 = n) (k : Go p l e R s m args below meth c Q D A nL kc ks ws lv n (.long (x ||| y) :: st)) : Go p l e R s m args below meth c Q D A nL kc ks ws lv pc (.long y :: .long x :: st) := by
  subst hn
  exact fun H locs ls hl hP hD hS => lv_lor C.1.1 C.1.2 hd (k H locs ls hl hP hD hS)
theorem go_lcmp (C : Cx p s m args meth c D tc A nL cc own) {x y : Int64} (hd : decode cc pc = .ok (.lcmp, 1)) (hn : pc + 1 = n) (k : Go p l e R s m args below meth c Q D A nL kc ks ws lv n (.int (lg_cmp x y) :: st)) : Go p l e R s m args below meth c Q D A nL kc ks ws lv pc (.long y :: .long x :: st) := by
  subst hn
  exact fun H locs ls hl hP hD hS => W.lcmp C.1.1 C.1.2 hd (k H locs ls hl hP hD hS)
theorem go_lushr (C : Cx p s m args meth c D tc A nL cc own) {x : Int64} {y : Int32} (hd : decode cc pc = .ok (.lushr, 1)) (hn : pc + 1 = n) (k : Go p l e R s m args below meth c Q D A nL kc ks ws lv n (.long ((x.toUInt64 >>> (y.toInt64.toUInt64 &&& Int64.toUInt64 63)).toInt64) :: st)) : Go p l e R s m args below meth c Q D A nL kc ks ws lv pc (.int y :: .long x :: st) := by
  subst hn
  exact fun H locs ls hl hP hD hS => lv_lushr C.1.1 C.1.2 hd rfl (k H locs ls hl hP hD hS)
theorem go_lshl (C : Cx p s m args meth c D tc A nL cc own) {x : Int64} {y : Int32} (hd : decode cc pc = .ok (.lshl, 1)) (hn : pc + 1 = n) (k : Go p l e R s m args below meth c Q D A nL kc ks ws lv n (.long (x <<< (y.toInt64 &&& 63)) :: st)) : Go p l e R s m args below meth c Q D A nL kc ks ws lv pc (.int y :: .long x :: st) := by
  subst hn
  exact fun H locs ls hl hP hD hS => lv_lshl C.1.1 C.1.2 hd rfl (k H locs ls hl hP hD hS)
theorem go_lshr (C : Cx p s m args meth c D tc A nL cc own) {x : Int64} {y : Int32} (hd : decode cc pc = .ok (.lshr, 1)) (hn : pc + 1 = n) (k : Go p l e R s m args below meth c Q D A nL kc ks ws lv n (.long (x >>> (y.toInt64 &&& 63)) :: st)) : Go p l e R s m args below meth c Q D A nL kc ks ws lv pc (.int y :: .long x :: st) := by
  subst hn
  exact fun H locs ls hl hP hD hS => lv_lshr C.1.1 C.1.2 hd rfl (k H locs ls hl hP hD hS)
theorem go_i2l (C : Cx p s m args meth c D tc A nL cc own) {x : Int32} (hd : decode cc pc = .ok (.i2l, 1)) (hn : pc + 1 = n) (k : Go p l e R s m args below meth c Q D A nL kc ks ws lv n (.long x.toInt64 :: st)) : Go p l e R s m args below meth c Q D A nL kc ks ws lv pc (.int x :: st) := by
  subst hn
  exact fun H locs ls hl hP hD hS => lv_i2l C.1.1 C.1.2 hd rfl (k H locs ls hl hP hD hS)
theorem go_l2i (C : Cx p s m args meth c D tc A nL cc own) {x : Int64} (hd : decode cc pc = .ok (.l2i, 1)) (hn : pc + 1 = n) (k : Go p l e R s m args below meth c Q D A nL kc ks ws lv n (.int x.toInt32 :: st)) : Go p l e R s m args below meth c Q D A nL kc ks ws lv pc (.long x :: st) := by
  subst hn
  exact fun H locs ls hl hP hD hS => lv_l2i C.1.1 C.1.2 hd rfl (k H locs ls hl hP hD hS)
theorem go_dup (C : Cx p s m args meth c D tc A nL cc own) {va : Value} (hd : decode cc pc = .ok (.dup, 1)) (h1 : va.category = 1) (hn : pc + 1 = n) (k : Go p l e R s m args below meth c Q D A nL kc ks ws lv n (va :: va :: st)) : Go p l e R s m args below meth c Q D A nL kc ks ws lv pc (va :: st) := by
  subst hn
  exact fun H locs ls hl hP hD hS => lv_dup C.1.1 C.1.2 hd h1 (k H locs ls hl hP hD hS)
theorem go_pop (C : Cx p s m args meth c D tc A nL cc own) {va : Value} (hd : decode cc pc = .ok (.pop, 1)) (h1 : va.category = 1) (hn : pc + 1 = n) (k : Go p l e R s m args below meth c Q D A nL kc ks ws lv n st) : Go p l e R s m args below meth c Q D A nL kc ks ws lv pc (va :: st) := by
  subst hn
  exact fun H locs ls hl hP hD hS => lv_pop C.1.1 C.1.2 hd h1 (k H locs ls hl hP hD hS)
theorem go_dup_x1 (C : Cx p s m args meth c D tc A nL cc own) {va vb : Value} (hd : decode cc pc = .ok (.dup_x1, 1)) (h1 : va.category = 1) (h2 : vb.category = 1) (hn : pc + 1 = n) (k : Go p l e R s m args below meth c Q D A nL kc ks ws lv n (va :: vb :: va :: st)) : Go p l e R s m args below meth c Q D A nL kc ks ws lv pc (va :: vb :: st) := by
  subst hn
  exact fun H locs ls hl hP hD hS => lv_dup_x1 C.1.1 C.1.2 hd h1 h2 (k H locs ls hl hP hD hS)
theorem go_dup_x2 (C : Cx p s m args meth c D tc A nL cc own) {va vb vd : Value} (hd : decode cc pc = .ok (.dup_x2, 1)) (h1 : va.category = 1) (h2 : vb.category = 1) (h3 : vd.category = 1) (hn : pc + 1 = n) (k : Go p l e R s m args below meth c Q D A nL kc ks ws lv n (va :: vb :: vd :: va :: st)) : Go p l e R s m args below meth c Q D A nL kc ks ws lv pc (va :: vb :: vd :: st) := by
  subst hn
  exact fun H locs ls hl hP hD hS => lv_dup_x2 C.1.1 C.1.2 hd h1 h2 h3 (k H locs ls hl hP hD hS)
theorem go_dup2_11 (C : Cx p s m args meth c D tc A nL cc own) {va vb : Value} (hd : decode cc pc = .ok (.dup2, 1)) (h1 : va.category = 1) (h2 : vb.category = 1) (hn : pc + 1 = n) (k : Go p l e R s m args below meth c Q D A nL kc ks ws lv n (va :: vb :: va :: vb :: st)) : Go p l e R s m args below meth c Q D A nL kc ks ws lv pc (va :: vb :: st) := by
  subst hn
  exact fun H locs ls hl hP hD hS => lv_dup2_11 C.1.1 C.1.2 hd h1 h2 (k H locs ls hl hP hD hS)
theorem go_dup2_2 (C : Cx p s m args meth c D tc A nL cc own) {va : Value} (hd : decode cc pc = .ok (.dup2, 1)) (h1 : va.category = 2) (hn : pc + 1 = n) (k : Go p l e R s m args below meth c Q D A nL kc ks ws lv n (va :: va :: st)) : Go p l e R s m args below meth c Q D A nL kc ks ws lv pc (va :: st) := by
  subst hn
  exact fun H locs ls hl hP hD hS => lv_dup2_2 C.1.1 C.1.2 hd h1 (k H locs ls hl hP hD hS)
theorem go_if_eq (C : Cx p s m args meth c D tc A nL cc own) {x : Int32} {off : Int} {tgt : Nat} (hd : decode cc pc = .ok (.ifCond .eq off, 3)) (ht : (pc : Int) + off = (tgt : Int)) (hn : pc + 3 = n) (kt : (x = 0) → Go p l e R s m args below meth c Q D A nL kc ks ws lv tgt st) (kf : ¬ (x = 0) → Go p l e R s m args below meth c Q D A nL kc ks ws lv n st) : Go p l e R s m args below meth c Q D A nL kc ks ws lv pc (.int x :: st) := by
  subst hn
  exact fun H locs ls hl hP hD hS => lv_if_eq C.1.1 C.1.2 hd ht (fun h => kt h H locs ls hl hP hD hS) (fun h => kf h H locs ls hl hP hD hS)
theorem go_icmp_eq (C : Cx p s m args meth c D tc A nL cc own) {x y : Int32} {off : Int} {tgt : Nat} (hd : decode cc pc = .ok (.if_icmp .eq off, 3)) (ht : (pc : Int) + off = (tgt : Int)) (hn : pc + 3 = n) (kt : (x = y) → Go p l e R s m args below meth c Q D A nL kc ks ws lv tgt st) (kf : ¬ (x = y) → Go p l e R s m args below meth c Q D A nL kc ks ws lv n st) : Go p l e R s m args below meth c Q D A nL kc ks ws lv pc (.int y :: .int x :: st) := by
  subst hn
  exact fun H locs ls hl hP hD hS => lv_icmp_eq C.1.1 C.1.2 hd ht (fun h => kt h H locs ls hl hP hD hS) (fun h => kf h H locs ls hl hP hD hS)
theorem go_if_lt (C : Cx p s m args meth c D tc A nL cc own) {x : Int32} {off : Int} {tgt : Nat} (hd : decode cc pc = .ok (.ifCond .lt off, 3)) (ht : (pc : Int) + off = (tgt : Int)) (hn : pc + 3 = n) (kt : (x < 0) → Go p l e R s m args below meth c Q D A nL kc ks ws lv tgt st) (kf : ¬ (x < 0) → Go p l e R s m args below meth c Q D A nL kc ks ws lv n st) : Go p l e R s m args below meth c Q D A nL kc ks ws lv pc (.int x :: st) := by
  subst hn
  exact fun H locs ls hl hP hD hS => lv_if_lt C.1.1 C.1.2 hd ht (fun h => kt h H locs ls hl hP hD hS) (fun h => kf h H locs ls hl hP hD hS)
theorem go_icmp_lt (C : Cx p s m args meth c D tc A nL cc own) {x y : Int32} {off : Int} {tgt : Nat} (hd : decode cc pc = .ok (.if_icmp .lt off, 3)) (ht : (pc : Int) + off = (tgt : Int)) (hn : pc + 3 = n) (kt : (x < y) → Go p l e R s m args below meth c Q D A nL kc ks ws lv tgt st) (kf : ¬ (x < y) → Go p l e R s m args below meth c Q D A nL kc ks ws lv n st) : Go p l e R s m args below meth c Q D A nL kc ks ws lv pc (.int y :: .int x :: st) := by
  subst hn
  exact fun H locs ls hl hP hD hS => lv_icmp_lt C.1.1 C.1.2 hd ht (fun h => kt h H locs ls hl hP hD hS) (fun h => kf h H locs ls hl hP hD hS)
theorem go_if_ge (C : Cx p s m args meth c D tc A nL cc own) {x : Int32} {off : Int} {tgt : Nat} (hd : decode cc pc = .ok (.ifCond .ge off, 3)) (ht : (pc : Int) + off = (tgt : Int)) (hn : pc + 3 = n) (kt : (0 ≤ x) → Go p l e R s m args below meth c Q D A nL kc ks ws lv tgt st) (kf : ¬ (0 ≤ x) → Go p l e R s m args below meth c Q D A nL kc ks ws lv n st) : Go p l e R s m args below meth c Q D A nL kc ks ws lv pc (.int x :: st) := by
  subst hn
  exact fun H locs ls hl hP hD hS => lv_if_ge C.1.1 C.1.2 hd ht (fun h => kt h H locs ls hl hP hD hS) (fun h => kf h H locs ls hl hP hD hS)
theorem go_icmp_ge (C : Cx p s m args meth c D tc A nL cc own) {x y : Int32} {off : Int} {tgt : Nat} (hd : decode cc pc = .ok (.if_icmp .ge off, 3)) (ht : (pc : Int) + off = (tgt : Int)) (hn : pc + 3 = n) (kt : (y ≤ x) → Go p l e R s m args below meth c Q D A nL kc ks ws lv tgt st) (kf : ¬ (y ≤ x) → Go p l e R s m args below meth c Q D A nL kc ks ws lv n st) : Go p l e R s m args below meth c Q D A nL kc ks ws lv pc (.int y :: .int x :: st) := by
  subst hn
  exact fun H locs ls hl hP hD hS => lv_icmp_ge C.1.1 C.1.2 hd ht (fun h => kt h H locs ls hl hP hD hS) (fun h => kf h H locs ls hl hP hD hS)
theorem go_if_gt (C : Cx p s m args meth c D tc A nL cc own) {x : Int32} {off : Int} {tgt : Nat} (hd : decode cc pc = .ok (.ifCond .gt off, 3)) (ht : (pc : Int) + off = (tgt : Int)) (hn : pc + 3 = n) (kt : (0 < x) → Go p l e R s m args below meth c Q D A nL kc ks ws lv tgt st) (kf : ¬ (0 < x) → Go p l e R s m args below meth c Q D A nL kc ks ws lv n st) : Go p l e R s m args below meth c Q D A nL kc ks ws lv pc (.int x :: st) := by
  subst hn
  exact fun H locs ls hl hP hD hS => lv_if_gt C.1.1 C.1.2 hd ht (fun h => kt h H locs ls hl hP hD hS) (fun h => kf h H locs ls hl hP hD hS)
theorem go_icmp_gt (C : Cx p s m args meth c D tc A nL cc own) {x y : Int32} {off : Int} {tgt : Nat} (hd : decode cc pc = .ok (.if_icmp .gt off, 3)) (ht : (pc : Int) + off = (tgt : Int)) (hn : pc + 3 = n) (kt : (y < x) → Go p l e R s m args below meth c Q D A nL kc ks ws lv tgt st) (kf : ¬ (y < x) → Go p l e R s m args below meth c Q D A nL kc ks ws lv n st) : Go p l e R s m args below meth c Q D A nL kc ks ws lv pc (.int y :: .int x :: st) := by
  subst hn
  exact fun H locs ls hl hP hD hS => lv_icmp_gt C.1.1 C.1.2 hd ht (fun h => kt h H locs ls hl hP hD hS) (fun h => kf h H locs ls hl hP hD hS)
theorem go_if_le (C : Cx p s m args meth c D tc A nL cc own) {x : Int32} {off : Int} {tgt : Nat} (hd : decode cc pc = .ok (.ifCond .le off, 3)) (ht : (pc : Int) + off = (tgt : Int)) (hn : pc + 3 = n) (kt : (x ≤ 0) → Go p l e R s m args below meth c Q D A nL kc ks ws lv tgt st) (kf : ¬ (x ≤ 0) → Go p l e R s m args below meth c Q D A nL kc ks ws lv n st) : Go p l e R s m args below meth c Q D A nL kc ks ws lv pc (.int x :: st) := by
  subst hn
  exact fun H locs ls hl hP hD hS => lv_if_le C.1.1 C.1.2 hd ht (fun h => kt h H locs ls hl hP hD hS) (fun h => kf h H locs ls hl hP hD hS)
theorem go_icmp_le (C : Cx p s m args meth c D tc A nL cc own) {x y : Int32} {off : Int} {tgt : Nat} (hd : decode cc pc = .ok (.if_icmp .le off, 3)) (ht : (pc : Int) + off = (tgt : Int)) (hn : pc + 3 = n) (kt : (x ≤ y) → Go p l e R s m args below meth c Q D A nL kc ks ws lv tgt st) (kf : ¬ (x ≤ y) → Go p l e R s m args below meth c Q D A nL kc ks ws lv n st) : Go p l e R s m args below meth c Q D A nL kc ks ws lv pc (.int y :: .int x :: st) := by
  subst hn
  exact fun H locs ls hl hP hD hS => lv_icmp_le C.1.1 C.1.2 hd ht (fun h => kt h H locs ls hl hP hD hS) (fun h => kf h H locs ls hl hP hD hS)
theorem go_if_ne (C : Cx p s m args meth c D tc A nL cc own) {x : Int32} {off : Int} {tgt : Nat} (hd : decode cc pc = .ok (.ifCond .ne off, 3)) (ht : (pc : Int) + off = (tgt : Int)) (hn : pc + 3 = n) (kt : ¬ (x = 0) → Go p l e R s m args below meth c Q D A nL kc ks ws lv tgt st) (kf : (x = 0) → Go p l e R s m args below meth c Q D A nL kc ks ws lv n st) : Go p l e R s m args below meth c Q D A nL kc ks ws lv pc (.int x :: st) := by
  subst hn
  exact fun H locs ls hl hP hD hS => lv_if_ne C.1.1 C.1.2 hd ht (fun h => kt h H locs ls hl hP hD hS) (fun h => kf h H locs ls hl hP hD hS)
theorem go_icmp_ne (C : Cx p s m args meth c D tc A nL cc own) {x y : Int32} {off : Int} {tgt : Nat} (hd : decode cc pc = .ok (.if_icmp .ne off, 3)) (ht : (pc : Int) + off = (tgt : Int)) (hn : pc + 3 = n) (kt : ¬ (x = y) → Go p l e R s m args below meth c Q D A nL kc ks ws lv tgt st) (kf : (x = y) → Go p l e R s m args below meth c Q D A nL kc ks ws lv n st) : Go p l e R s m args below meth c Q D A nL kc ks ws lv pc (.int y :: .int x :: st) := by
  subst hn
  exact fun H locs ls hl hP hD hS => lv_icmp_ne C.1.1 C.1.2 hd ht (fun h => kt h H locs ls hl hP hD hS) (fun h => kf h H locs ls hl hP hD hS)
theorem go_lcmp_eq (C : Cx p s m args meth c D tc A nL cc own) {x y : Int64} {off : Int} {tgt n1 : Nat} (h0 : decode cc pc = .ok (.lcmp, 1)) (hn1 : pc + 1 = n1) (hd : decode cc n1 = .ok (.ifCond .eq off, 3)) (ht : (n1 : Int) + off = (tgt : Int)) (hn : n1 + 3 = n) (kt : x = y → Go p l e R s m args below meth c Q D A nL kc ks ws lv tgt st) (kf : ¬ (x = y) → Go p l e R s m args below meth c Q D A nL kc ks ws lv n st) : Go p l e R s m args below meth c Q D A nL kc ks ws lv pc (.long y :: .long x :: st) := go_lcmp C h0 hn1 (go_if_eq C hd ht hn (fun h => kt (lg_eq0.mp h)) (fun h => kf (fun q => h (lg_eq0.mpr q))))
theorem go_lcmp_lt (C : Cx p s m args meth c D tc A nL cc own) {x y : Int64} {off : Int} {tgt n1 : Nat} (h0 : decode cc pc = .ok (.lcmp, 1)) (hn1 : pc + 1 = n1) (hd : decode cc n1 = .ok (.ifCond .lt off, 3)) (ht : (n1 : Int) + off = (tgt : Int)) (hn : n1 + 3 = n) (kt : x < y → Go p l e R s m args below meth c Q D A nL kc ks ws lv tgt st) (kf : ¬ (x < y) → Go p l e R s m args below meth c Q D A nL kc ks ws lv n st) : Go p l e R s m args below meth c Q D A nL kc ks ws lv pc (.long y :: .long x :: st) := go_lcmp C h0 hn1 (go_if_lt C hd ht hn (fun h => kt (lg_lt0.mp h)) (fun h => kf (fun q => h (lg_lt0.mpr q))))
theorem go_lcmp_ge (C : Cx p s m args meth c D tc A nL cc own) {x y : Int64} {off : Int} {tgt n1 : Nat} (h0 : decode cc pc = .ok (.lcmp, 1)) (hn1 : pc + 1 = n1) (hd : decode cc n1 = .ok (.ifCond .ge off, 3)) (ht : (n1 : Int) + off = (tgt : Int)) (hn : n1 + 3 = n) (kt : y ≤ x → Go p l e R s m args below meth c Q D A nL kc ks ws lv tgt st) (kf : ¬ (y ≤ x) → Go p l e R s m args below meth c Q D A nL kc ks ws lv n st) : Go p l e R s m args below meth c Q D A nL kc ks ws lv pc (.long y :: .long x :: st) := go_lcmp C h0 hn1 (go_if_ge C hd ht hn (fun h => kt (lg_ge0.mp h)) (fun h => kf (fun q => h (lg_ge0.mpr q))))
theorem go_lcmp_gt (C : Cx p s m args meth c D tc A nL cc own) {x y : Int64} {off : Int} {tgt n1 : Nat} (h0 : decode cc pc = .ok (.lcmp, 1)) (hn1 : pc + 1 = n1) (hd : decode cc n1 = .ok (.ifCond .gt off, 3)) (ht : (n1 : Int) + off = (tgt : Int)) (hn : n1 + 3 = n) (kt : y < x → Go p l e R s m args below meth c Q D A nL kc ks ws lv tgt st) (kf : ¬ (y < x) → Go p l e R s m args below meth c Q D A nL kc ks ws lv n st) : Go p l e R s m args below meth c Q D A nL kc ks ws lv pc (.long y :: .long x :: st) := go_lcmp C h0 hn1 (go_if_gt C hd ht hn (fun h => kt (lg_gt0.mp h)) (fun h => kf (fun q => h (lg_gt0.mpr q))))
theorem go_lcmp_le (C : Cx p s m args meth c D tc A nL cc own) {x y : Int64} {off : Int} {tgt n1 : Nat} (h0 : decode cc pc = .ok (.lcmp, 1)) (hn1 : pc + 1 = n1) (hd : decode cc n1 = .ok (.ifCond .le off, 3)) (ht : (n1 : Int) + off = (tgt : Int)) (hn : n1 + 3 = n) (kt : x ≤ y → Go p l e R s m args below meth c Q D A nL kc ks ws lv tgt st) (kf : ¬ (x ≤ y) → Go p l e R s m args below meth c Q D A nL kc ks ws lv n st) : Go p l e R s m args below meth c Q D A nL kc ks ws lv pc (.long y :: .long x :: st) := go_lcmp C h0 hn1 (go_if_le C hd ht hn (fun h => kt (lg_le0.mp h)) (fun h => kf (fun q => h (lg_le0.mpr q))))
theorem go_lcmp_ne (C : Cx p s m args meth c D tc A nL cc own) {x y : Int64} {off : Int} {tgt n1 : Nat} (h0 : decode cc pc = .ok (.lcmp, 1)) (hn1 : pc + 1 = n1) (hd : decode cc n1 = .ok (.ifCond .ne off, 3)) (ht : (n1 : Int) + off = (tgt : Int)) (hn : n1 + 3 = n) (kt : ¬ (x = y) → Go p l e R s m args below meth c Q D A nL kc ks ws lv tgt st) (kf : x = y → Go p l e R s m args below meth c Q D A nL kc ks ws lv n st) : Go p l e R s m args below meth c Q D A nL kc ks ws lv pc (.long y :: .long x :: st) := go_lcmp C h0 hn1 (go_if_ne C hd ht hn (fun h => kt (fun q => h (lg_eq0.mpr q))) (fun h => kf (lg_eq0.mp h)))
theorem go_goto (C : Cx p s m args meth c D tc A nL cc own) {off : Int} {tgt : Nat} (hd : decode cc pc = .ok (.goto off, 3)) (ht : (pc : Int) + off = (tgt : Int)) (k : Go p l e R s m args below meth c Q D A nL kc ks ws lv tgt st) : Go p l e R s m args below meth c Q D A nL kc ks ws lv pc st := fun H locs ls hl hP hD hS => lv_goto C.1.1 C.1.2 hd ht (k H locs ls hl hP hD hS)
theorem go_ifnonnull (C : Cx p s m args meth c D tc A nL cc own) {x : Nat} {off : Int} {tgt : Nat} (hd : decode cc pc = .ok (.ifnonnull off, 3)) (ht : (pc : Int) + off = (tgt : Int)) (k : Go p l e R s m args below meth c Q D A nL kc ks ws lv tgt st) : Go p l e R s m args below meth c Q D A nL kc ks ws lv pc (.ref x :: st) := fun H locs ls hl hP hD hS => lv_ifnonnull C.1.1 C.1.2 hd ht (k H locs ls hl hP hD hS)
theorem go_ifnullN (C : Cx p s m args meth c D tc A nL cc own) {off : Int} {tgt : Nat} (hd : decode cc pc = .ok (.ifnull off, 3)) (ht : (pc : Int) + off = (tgt : Int)) (k : Go p l e R s m args below meth c Q D A nL kc ks ws lv tgt st) : Go p l e R s m args below meth c Q D A nL kc ks ws lv pc (.null :: st) := fun H locs ls hl hP hD hS => lv_ifnullN C.1.1 C.1.2 hd ht (k H locs ls hl hP hD hS)
theorem go_ifnull (C : Cx p s m args meth c D tc A nL cc own) {x : Nat} {off : Int} (hd : decode cc pc = .ok (.ifnull off, 3)) (hn : pc + 3 = n) (k : Go p l e R s m args below meth c Q D A nL kc ks ws lv n st) : Go p l e R s m args below meth c Q D A nL kc ks ws lv pc (.ref x :: st) := by
  subst hn
  exact fun H locs ls hl hP hD hS => lv_ifnull C.1.1 C.1.2 hd (k H locs ls hl hP hD hS)
theorem go_ifnonnullN (C : Cx p s m args meth c D tc A nL cc own) {off : Int} (hd : decode cc pc = .ok (.ifnonnull off, 3)) (hn : pc + 3 = n) (k : Go p l e R s m args below meth c Q D A nL kc ks ws lv n st) : Go p l e R s m args below meth c Q D A nL kc ks ws lv pc (.null :: st) := by
  subst hn
  exact fun H locs ls hl hP hD hS => lv_ifnonnullN C.1.1 C.1.2 hd (k H locs ls hl hP hD hS)
theorem go_tableOut (C : Cx p s m args meth c D tc A nL cc own) {dflt lo hi : Int} {offs : Array Int} {len : Nat} {x : Int32} {tgt : Nat} (hd : decode cc pc = .ok (.tableswitch dflt lo hi offs, len)) (h : x.toInt < lo ∨ hi < x.toInt) (ht : (pc : Int) + dflt = (tgt : Int)) (k : Go p l e R s m args below meth c Q D A nL kc ks ws lv tgt st) : Go p l e R s m args below meth c Q D A nL kc ks ws lv pc (.int x :: st) := fun H locs ls hl hP hD hS => lv_tableOut C.1.1 C.1.2 hd h ht (k H locs ls hl hP hD hS)
theorem go_tableIn (C : Cx p s m args meth c D tc A nL cc own) {dflt lo hi : Int} {offs : Array Int} {len : Nat} {x : Int32} {off : Int} {tgt : Nat} (hd : decode cc pc = .ok (.tableswitch dflt lo hi offs, len)) (h1 : ¬ x.toInt < lo) (h2 : ¬ hi < x.toInt) (ho : offs[(x.toInt - lo).toNat]? = some off) (ht : (pc : Int) + off = (tgt : Int)) (k : Go p l e R s m args below meth c Q D A nL kc ks ws lv tgt st) : Go p l e R s m args below meth c Q D A nL kc ks ws lv pc (.int x :: st) := fun H locs ls hl hP hD hS => lv_tableIn C.1.1 C.1.2 hd h1 h2 ho ht (k H locs ls hl hP hD hS)
theorem go_lv {lv' : List (Nat × Value)} (ks' : List Nat) (h : lv_pick lv ks' = lv') (k : Go p l e R s m args below meth c Q D A nL kc ks ws lv' pc st) : Go p l e R s m args below meth c Q D A nL kc ks ws lv pc st := fun H locs ls hl hP hD hS => k H locs ls (lv_sub hl ks' h) hP hD hS
theorem go_ws {ws' : va_W} (is : List Nat) (h1 : is.filterMap (fun i => ws[i]?) = ws') (h2 : va_nd is = true) (h3 : is.map (fun i => ws[i]?) = ws'.map some) (k : Go p l e R s m args below meth c Q D A nL kc ks ws' lv pc st) : Go p l e R s m args below meth c Q D A nL kc ks ws lv pc st := fun H locs ls hl hP hD hS => k H locs ls hl (hP.sub is h1) (hD.sub is h2 h3) hS
theorem go_eq {ws' : va_W} {lv' : List (Nat × Value)} {st' : List Value} (h1 : ws = ws') (h2 : lv = lv') (h3 : st = st') (k : Go p l e R s m args below meth c Q D A nL kc ks ws' lv' pc st') : Go p l e R s m args below meth c Q D A nL kc ks ws lv pc st := by
  subst h1 h2 h3
  exact k
/-- a field's link: the class's own, or a nest mate's -/
def Fl (own : String) (idx ci k : Nat) (C : String) (T : u_T) (N : Nat) : Prop := vwCl[ci]? = some (C, T, N) ∧ k < N ∧ (∀ w ∈ u_ws C T N, w ∈ AL) ∧ (Cond.fieldLink own idx (T k).1 (T k).2.1 (T k).2.2.1 ∈ AL ∨ ∃ host, Cond.fieldLinkNest own idx (T k).1 (T k).2.1 (T k).2.2.1 host ∈ NWs)
theorem go_get (C : Cx p s m args meth c D tc A nL cc own) {idx ci k N a : Nat} {CC : String} {T : u_T} {fs : List Value} {v : Value} (hd : decode cc pc = .ok (.getfield idx, 3)) (hF : Fl own idx ci k CC T N) (q0 : Nat) (he : ws[q0]? = some (a, .inr (ci, fs))) (hv : fs[k]? = some v) (hn : pc + 3 = n) (kk : Go p l e R s m args below meth c Q D A nL kc ks ws lv n (v :: st)) : Go p l e R s m args below meth c Q D A nL kc ks ws lv pc (.ref a :: st) := by
  subst hn
  obtain ⟨h1, h2, h3, h4⟩ := hF
  intro H locs ls hl hP hD hS
  rcases h4 with h4 | ⟨host, h4⟩
  · exact va_get C.1.1 C.1.2 C.2.2.1 h3 C.2.1.2 C.2.2.2.1.1 hP q0 he h1 k h2 (C.2.2.1 _ h4) (fun _ h => h) hv hd (kk H locs ls hl hP hD hS)
  · exact va_getN C.1.1 C.1.2 C.2.2.1 h3 C.2.1.2 C.2.2.2.1.1 hP q0 he h1 k h2 (va_Nw.use rfl (C.2.2.2.1.2 _ h4)) (fun _ h => h) hv hd (kk H locs ls hl hP hD hS)
/-- what a store into field k of the class needs of its table -/
def Fs (k : Nat) (T : u_T) (N : Nat) (ty : Nat → FieldType) : Prop := (∀ k, k < N → parseFieldDescriptor (T k).2.2.1 = some (ty k)) ∧ (∀ a, a < N → ∀ b, b < N → a ≠ b → (T a).2.1 ≠ (T b).2.1)
theorem go_put (C : Cx p s m args meth c D tc A nL cc own) {idx ci k N a : Nat} {CC : String} {T : u_T} {ty : Nat → FieldType} {fs : List Value} {v : Value} (hd : decode cc pc = .ok (.putfield idx, 3)) (hF : Fl own idx ci k CC T N) (hT : Fs k T N ty) (hfin : (T k).2.2.2 = false) (hn1 : narrow (ty k) v = v) (hfit : fits (ty k) v = true) (q0 : Nat) (he : ws[q0]? = some (a, .inr (ci, fs))) (hlen : k < fs.length) (hn : pc + 3 = n) (kk : Go p l e R s m args below meth c Q D A nL kc ks (ws.set q0 (a, .inr (ci, fs.set k v))) lv n st) : Go p l e R s m args below meth c Q D A nL kc ks ws lv pc (v :: .ref a :: st) := by
  subst hn
  obtain ⟨h1, h2, h3, h4⟩ := hF
  intro H locs ls hl hP hD hS
  rcases h4 with h4 | ⟨host, h4⟩
  · exact va_put C.1.1 C.1.2 C.2.2.1 h3 ty hT.1 hT.2 C.2.1.2 C.2.2.2.1.1 hP hD hS q0 he h1 k h2 (C.2.2.1 _ h4) (fun _ h => h) hfin (hT.1 k h2) hn1 hfit hlen hd (fun H1 locs1 hP1 hD1 hS1 => kk H1 locs1 ls hl hP1 hD1 hS1)
  · exact va_putN C.1.1 C.1.2 C.2.2.1 h3 ty hT.1 hT.2 C.2.1.2 C.2.2.2.1.1 hP hD hS q0 he h1 k h2 (va_Nw.use rfl (C.2.2.2.1.2 _ h4)) (fun _ h => h) hfin (hT.1 k h2) hn1 hfit hlen hd (fun H1 locs1 hP1 hD1 hS1 => kk H1 locs1 ls hl hP1 hD1 hS1)
theorem go_putF (C : Cx p s m args meth c D tc A nL cc own) {idx ci k N a : Nat} {CC : String} {T : u_T} {ty : Nat → FieldType} {fs : List Value} {v : Value} (hin : meth.name = "<init>") (hd : decode cc pc = .ok (.putfield idx, 3)) (hF : vwCl[ci]? = some (CC, T, N) ∧ k < N ∧ (∀ w ∈ u_ws CC T N, w ∈ AL) ∧ Cond.fieldLink own idx (T k).1 (T k).2.1 (T k).2.2.1 ∈ AL) (hT : Fs k T N ty) (hfin : (T k).2.2.2 = true) (hdecl : (T k).1 = own) (hn1 : narrow (ty k) v = v) (hfit : fits (ty k) v = true) (q0 : Nat) (he : ws[q0]? = some (a, .inr (ci, fs))) (hlen : k < fs.length) (hn : pc + 3 = n) (kk : Go p l e R s m args below meth c Q D A nL kc ks (ws.set q0 (a, .inr (ci, fs.set k v))) lv n st) : Go p l e R s m args below meth c Q D A nL kc ks ws lv pc (v :: .ref a :: st) := by
  subst hn
  obtain ⟨h1, h2, h3, h4⟩ := hF
  exact fun H locs ls hl hP hD hS => va_putF C.1.1 C.1.2 C.2.2.1 h3 ty hT.1 hT.2 C.2.1.2 C.2.2.2.1.1 hP hD hS q0 he h1 k h2 (C.2.2.1 _ h4) (fun _ h => h) hfin hin hdecl (hT.1 k h2) hn1 hfit hlen hd (fun H1 locs1 hP1 hD1 hS1 => kk H1 locs1 ls hl hP1 hD1 hS1)
def okI (i : Int32) (n : Nat) : Bool := !(decide (i < 0)) && decide (i.toNatClampNeg < n)
theorem okI_in {i : Int32} {n : Nat} (h : okI i n = true) : vp_in i n := by
  simp only [okI, Bool.and_eq_true, Bool.not_eq_true', decide_eq_false_iff_not, decide_eq_true_eq] at h
  rintro (q | q)
  · exact h.1 q
  · omega
theorem go_iald (C : Cx p s m args meth c D tc A nL cc own) {a N : Nat} {f : Nat → Int32} {i : Int32} (hd : decode cc pc = .ok (.iaload, 1)) (q0 : Nat) (he : ws[q0]? = some (a, .inl (tc 0, N, .inl f))) (hin : okI i N = true) (hn : pc + 1 = n) (kk : Go p l e R s m args below meth c Q D A nL kc ks ws lv n (.int (f i.toNatClampNeg) :: st)) : Go p l e R s m args below meth c Q D A nL kc ks ws lv pc (.int i :: .ref a :: st) := by
  subst hn
  exact fun H locs ls hl hP hD hS => va_iald C.1.1 C.1.2 C.2.2.2.1.1 hP q0 0 he rfl (okI_in hin) hd (kk H locs ls hl hP hD hS)
theorem go_iast (C : Cx p s m args meth c D tc A nL cc own) {a N : Nat} {f : Nat → Int32} {i : Int32} {x : Int32} (hd : decode cc pc = .ok (.iastore, 1)) (q0 : Nat) (he : ws[q0]? = some (a, .inl (tc 0, N, .inl f))) (hin : okI i N = true) (hn : pc + 1 = n) (kk : Go p l e R s m args below meth c Q D A nL kc ks (ws.set q0 (a, .inl (tc 0, N, .inl (upd f i.toNatClampNeg x)))) lv n st) : Go p l e R s m args below meth c Q D A nL kc ks ws lv pc (.int x :: .int i :: .ref a :: st) := by
  subst hn
  exact fun H locs ls hl hP hD hS => va_iast C.1.1 C.1.2 C.2.2.2.1.1 hP hD hS q0 0 he rfl (okI_in hin) hd (fun H1 locs1 hP1 hD1 hS1 => kk H1 locs1 ls hl hP1 hD1 hS1)
theorem go_lald (C : Cx p s m args meth c D tc A nL cc own) {a N : Nat} {f : Nat → Int64} {i : Int32} (hd : decode cc pc = .ok (.laload, 1)) (q0 : Nat) (he : ws[q0]? = some (a, .inl (tc 1, N, .inr (.inl f)))) (hin : okI i N = true) (hn : pc + 1 = n) (kk : Go p l e R s m args below meth c Q D A nL kc ks ws lv n (.long (f i.toNatClampNeg) :: st)) : Go p l e R s m args below meth c Q D A nL kc ks ws lv pc (.int i :: .ref a :: st) := by
  subst hn
  exact fun H locs ls hl hP hD hS => va_lald C.1.1 C.1.2 C.2.2.2.1.1 hP q0 1 he rfl (okI_in hin) hd (kk H locs ls hl hP hD hS)
theorem go_last (C : Cx p s m args meth c D tc A nL cc own) {a N : Nat} {f : Nat → Int64} {i : Int32} {x : Int64} (hd : decode cc pc = .ok (.lastore, 1)) (q0 : Nat) (he : ws[q0]? = some (a, .inl (tc 1, N, .inr (.inl f)))) (hin : okI i N = true) (hn : pc + 1 = n) (kk : Go p l e R s m args below meth c Q D A nL kc ks (ws.set q0 (a, .inl (tc 1, N, .inr (.inl (vp_updL f i.toNatClampNeg x))))) lv n st) : Go p l e R s m args below meth c Q D A nL kc ks ws lv pc (.long x :: .int i :: .ref a :: st) := by
  subst hn
  exact fun H locs ls hl hP hD hS => va_last C.1.1 C.1.2 C.2.2.2.1.1 hP hD hS q0 1 he rfl (okI_in hin) hd (fun H1 locs1 hP1 hD1 hS1 => kk H1 locs1 ls hl hP1 hD1 hS1)
theorem go_aald (C : Cx p s m args meth c D tc A nL cc own) {a N : Nat} {f : Nat → Option Nat} {i : Int32} {cA : ClassId} {ty : FieldType} (hd : decode cc pc = .ok (.aaload, 1)) (q0 t0 : Nat) (he : ws[q0]? = some (a, .inl (cA, N, .inr (.inr (.inr (.inr f)))))) (ht : (TY tc)[t0]? = some (cA, ty)) (hty : ty.isReference = true) (hin : okI i N = true) (hn : pc + 1 = n) (kk : Go p l e R s m args below meth c Q D A nL kc ks ws lv n (va_rf (f i.toNatClampNeg) :: st)) : Go p l e R s m args below meth c Q D A nL kc ks ws lv pc (.int i :: .ref a :: st) := by
  subst hn
  intro H locs ls hl hP hD hS
  have hin := okI_in hin
  have hlt : i.toNatClampNeg < N := Nat.not_le.mp fun q => hin (Or.inr q)
  exact W.aald (v := va_rf (f i.toNatClampNeg)) (ty := ty) C.1.1 C.1.2 (hP q0 _ he) ((C.2.2.2.1.1.2 t0 _ ht).1 N (fun j => va_rf (f j))) hty (fun q => by cases q) (by show ¬ (i < 0 ∨ (arrV _ _ _).slots.size ≤ _); rw [arrV_size]; exact hin) (by show (arrV _ _ _).slots[_]? = _; rw [arrV_read _ _ hlt]) rfl rfl hd (kk H locs ls hl hP hD hS)
theorem go_mmin (C : Cx p s m args meth c D tc A nL cc own) {idx : Nat} {x y : Int32} (hd : decode cc pc = .ok (.invokestatic idx, 3)) (hlink : Cond.methodLink own idx Lib.Math.min.name ∈ AL) (hrest : Cond.static Lib.Math.min.name ∈ AL ∧ Cond.initialized "java/lang/Math" ∈ AL ∧ Cond.code Lib.Math.min.name Lib.Math.min.code 2 (some .int) ∈ AL) (hfr : 1 ≤ R.frames) (hlo : (st.map fun v => v.category).sum + 13 ≤ R.locals) (hc : kc ≤ R.cells) (hs : ks ≤ R.slots) (hn : pc + 3 = n) (kk : Go p l e R s m args below meth c Q D A nL kc ks ws lv n (.int (if y < x then y else x) :: st)) : Go p l e R s m args below meth c Q D A nL kc ks ws lv pc (.int y :: .int x :: st) := by
  subst hn
  exact fun H locs ls hl hP hD hS => va_mmin C.1.1 C.1.2 (C.2.1.1.trans hl.1.symm) C.2.1.2 (C.2.2.1 _ hlink) (C.2.2.1 _ hrest.1) (C.2.2.1 _ hrest.2.1) (C.2.2.1 _ hrest.2.2) hfr hlo hc hs hd (kk H locs ls hl hP hD hS)
theorem okI_lt {i : Int32} {n : Nat} (h : okI i n = true) : i.toNatClampNeg < n := Nat.not_le.mp fun q => okI_in h (Or.inr q)
theorem rows4 {P : Nat → Prop} (h0 : P 0) (h1 : P 1) (h2 : P 2) (h3 : P 3) : ∀ r, r < 4 → P r := fun r hr => by
  rcases (show r = 0 ∨ r = 1 ∨ r = 2 ∨ r = 3 by omega) with rfl | rfl | rfl | rfl <;> assumption
theorem rows9 {P : Nat → Prop} (h0 : P 0) (h1 : P 1) (h2 : P 2) (h3 : P 3) (h4 : P 4) (h5 : P 5) (h6 : P 6) (h7 : P 7) (h8 : P 8) : ∀ r, r < 9 → P r := fun r hr => by
  rcases (show r = 0 ∨ r = 1 ∨ r = 2 ∨ r = 3 ∨ r = 4 ∨ r = 5 ∨ r = 6 ∨ r = 7 ∨ r = 8 by omega) with rfl | rfl | rfl | rfl | rfl | rfl | rfl | rfl | rfl <;> assumption
def dref (k a b c : Nat) : Value := if k = 0 then .ref a else if k = 1 then .ref b else if k = 2 then .ref c else .null
theorem dref_n {k a b c : Nat} (h0 : ¬ k = 0) (h1 : ¬ k = 1) (h2 : ¬ k = 2) : dref k a b c = .null := by
  unfold dref
  rw [if_neg h0, if_neg h1, if_neg h2]
theorem go_aaldR (C : Cx p s m args meth c D tc A nL cc own) {a N : Nat} {row : Nat → Nat} {i : Int32} {cA : ClassId} {ty : FieldType} (hd : decode cc pc = .ok (.aaload, 1)) (q0 t0 : Nat) (he : ws[q0]? = some (a, .inl (cA, N, .inr (.inr (.inr (.inr (fun i => some (row i)))))))) (ht : (TY tc)[t0]? = some (cA, ty)) (hty : ty.isReference = true) (hin : okI i N = true) (hn : pc + 1 = n) (kk : Go p l e R s m args below meth c Q D A nL kc ks ws lv n (.ref (row i.toNatClampNeg) :: st)) : Go p l e R s m args below meth c Q D A nL kc ks ws lv pc (.int i :: .ref a :: st) := go_aald C hd q0 t0 he ht hty hin hn kk
theorem go_ialdR (C : Cx p s m args meth c D tc A nL cc own) {K N : Nat} {row : Nat → Nat} {M : Nat → Nat → Int32} {i j : Int32} (hd : decode cc pc = .ok (.iaload, 1)) (q0 : Nat) (hrow : ∀ r, r < N → ws[q0 + r]? = some (row r, .inl (tc 0, K, .inl (M r)))) (hi : okI i N = true) (hj : okI j K = true) (hn : pc + 1 = n) (kk : Go p l e R s m args below meth c Q D A nL kc ks ws lv n (.int (M i.toNatClampNeg j.toNatClampNeg) :: st)) : Go p l e R s m args below meth c Q D A nL kc ks ws lv pc (.int j :: .ref (row i.toNatClampNeg) :: st) := go_iald C hd (q0 + i.toNatClampNeg) (hrow _ (okI_lt hi)) hj hn kk
theorem go_iastR (C : Cx p s m args meth c D tc A nL cc own) {K N : Nat} {row : Nat → Nat} {M : Nat → Nat → Int32} {i j : Int32} {x : Int32} {WS : (Nat → Nat → Int32) → va_W} (hd : decode cc pc = .ok (.iastore, 1)) (q0 : Nat) (hrow : ∀ r, r < N → ws[q0 + r]? = some (row r, .inl (tc 0, K, .inl (M r)))) (hset : ∀ r, r < N → ∀ v : Nat → Int32, ws.set (q0 + r) (row r, .inl (tc 0, K, .inl v)) = WS (va_up M r v)) (hi : okI i N = true) (hj : okI j K = true) (hn : pc + 1 = n) (kk : Go p l e R s m args below meth c Q D A nL kc ks (WS (va_up M i.toNatClampNeg (upd (M i.toNatClampNeg) j.toNatClampNeg x))) lv n st) : Go p l e R s m args below meth c Q D A nL kc ks ws lv pc (.int x :: .int j :: .ref (row i.toNatClampNeg) :: st) := by
  refine go_iast C hd (q0 + i.toNatClampNeg) (hrow _ (okI_lt hi)) hj hn ?_
  rw [hset _ (okI_lt hi) _]
  exact kk
theorem go_laldR (C : Cx p s m args meth c D tc A nL cc own) {K N : Nat} {row : Nat → Nat} {M : Nat → Nat → Int64} {i j : Int32} (hd : decode cc pc = .ok (.laload, 1)) (q0 : Nat) (hrow : ∀ r, r < N → ws[q0 + r]? = some (row r, .inl (tc 1, K, .inr (.inl (M r))))) (hi : okI i N = true) (hj : okI j K = true) (hn : pc + 1 = n) (kk : Go p l e R s m args below meth c Q D A nL kc ks ws lv n (.long (M i.toNatClampNeg j.toNatClampNeg) :: st)) : Go p l e R s m args below meth c Q D A nL kc ks ws lv pc (.int j :: .ref (row i.toNatClampNeg) :: st) := go_lald C hd (q0 + i.toNatClampNeg) (hrow _ (okI_lt hi)) hj hn kk
theorem go_lastR (C : Cx p s m args meth c D tc A nL cc own) {K N : Nat} {row : Nat → Nat} {M : Nat → Nat → Int64} {i j : Int32} {x : Int64} {WS : (Nat → Nat → Int64) → va_W} (hd : decode cc pc = .ok (.lastore, 1)) (q0 : Nat) (hrow : ∀ r, r < N → ws[q0 + r]? = some (row r, .inl (tc 1, K, .inr (.inl (M r))))) (hset : ∀ r, r < N → ∀ v : Nat → Int64, ws.set (q0 + r) (row r, .inl (tc 1, K, .inr (.inl v))) = WS (va_up M r v)) (hi : okI i N = true) (hj : okI j K = true) (hn : pc + 1 = n) (kk : Go p l e R s m args below meth c Q D A nL kc ks (WS (va_up M i.toNatClampNeg (vp_updL (M i.toNatClampNeg) j.toNatClampNeg x))) lv n st) : Go p l e R s m args below meth c Q D A nL kc ks ws lv pc (.long x :: .int j :: .ref (row i.toNatClampNeg) :: st) := by
  refine go_last C hd (q0 + i.toNatClampNeg) (hrow _ (okI_lt hi)) hj hn ?_
  rw [hset _ (okI_lt hi) _]
  exact kk
theorem lookI {s : State} {D : va_G} {tc : Nat → ClassId} {cA : ClassId} {ty : FieldType} (t0 : Nat) (h0 : va_K D vwCl (TY tc) s) (ht : (TY tc)[t0]? = some (tc t0, ty)) (hR : ∀ (a : ClassId), va_RA s a ty → s.vm.findClass ("[" ++ ty.toString) = some a) (h : va_K D vwCl (TY tc ++ [(cA, ty)]) s) : cA = tc t0 := by
  have h1 := hR _ (h.2 5 (cA, ty) rfl).2
  have h2 := hR _ (h0.2 t0 _ ht).2
  exact Option.some.inj (h1.symm.trans h2)
/-- what 'new' needs of a class -/
def Nw (own : String) (idx ci : Nat) (CC : String) (T : u_T) (N : Nat) : Prop := vwCl[ci]? = some (CC, T, N) ∧ (∀ w ∈ u_ws CC T N, w ∈ AL) ∧ Cond.classLink own idx CC ∈ AL ∧ Cond.instantiable CC N ∈ AL ∧ Cond.initialized CC ∈ AL
theorem go_new (C : Cx p s m args meth c D tc A nL cc own) {idx ci N : Nat} {CC : String} {T : u_T} {ty : Nat → FieldType} {fs : List Value} (hd : decode cc pc = .ok (.new idx, 3)) (hK : Nw own idx ci CC T N) (hty : ∀ k, k < N → parseFieldDescriptor (T k).2.2.1 = some (ty k)) (hfs : ∀ j, j < N → defaultValue (ty j) = vp_V fs j) (hc : kc + 1 ≤ R.cells) (hs : ks + N ≤ R.slots) (hn : pc + 3 = n) (kk : ∀ q : Nat, Go p l e R s m args below meth c Q D A nL (kc + 1) (ks + N) (ws ++ [(q, .inr (ci, fs))]) lv n (.ref q :: st)) : Go p l e R s m args below meth c Q D A nL kc ks ws lv pc st := by
  subst hn
  exact fun H locs ls hl hP hD hS => va_new C.1.1 C.1.2 C.2.2.1 hK.2.1 ty hty C.2.1.2 (C.2.2.1 _ hK.2.2.1) (C.2.2.1 _ hK.2.2.2.1) (C.2.2.1 _ hK.2.2.2.2) C.2.2.2.1.1 hP hD hS C.2.2.2.2.2 hK.1 hfs hc hs hd (fun q H1 hP1 hD1 hS1 => kk q H1 locs ls hl hP1 hD1 hS1)
theorem go_newaI (C : Cx p s m args meth c D tc A nL cc own) {i : Int32} {N : Nat} (hd : decode cc pc = .ok (.newarray .int, 2)) (hw : Cond.arrayClass .int ∈ AL) (hi : ¬ i < 0) (hN : i.toNatClampNeg = N) (hb : N * componentBytes .int ≤ 536870912) (hc : kc + 1 ≤ R.cells) (hs : ks + N ≤ R.slots) (hn : pc + 2 = n) (kk : ∀ q : Nat, Go p l e R s m args below meth c Q D A nL (kc + 1) (ks + N) (ws ++ [(q, .inl (tc 0, N, .inl (fun _ => 0)))]) lv n (.ref q :: st)) : Go p l e R s m args below meth c Q D A nL kc ks ws lv pc (.int i :: st) := by
  subst hn
  intro H locs ls hl hP hD hS
  refine va_newa (atype := .int) (ty := .int) (a0 := (N, .inl (fun _ => 0))) C.1.1 C.1.2 (C.2.2.1 _ hw) rfl C.2.2.2.1.1 hP hD hS C.2.2.2.2.2 (fun _ => rfl) hi hN hb hc hs hd (fun q cA H1 hK1 hP1 hD1 hS1 => ?_)
  have hcA : cA = tc 0 := lookI 0 C.2.2.2.1.1 rfl (fun _ h => h) hK1
  subst hcA
  exact kk q H1 locs ls hl hP1 hD1 hS1
theorem go_newaJ (C : Cx p s m args meth c D tc A nL cc own) {i : Int32} {N : Nat} (hd : decode cc pc = .ok (.newarray .long, 2)) (hw : Cond.arrayClass .long ∈ AL) (hi : ¬ i < 0) (hN : i.toNatClampNeg = N) (hb : N * componentBytes .long ≤ 536870912) (hc : kc + 1 ≤ R.cells) (hs : ks + N ≤ R.slots) (hn : pc + 2 = n) (kk : ∀ q : Nat, Go p l e R s m args below meth c Q D A nL (kc + 1) (ks + N) (ws ++ [(q, .inl (tc 1, N, .inr (.inl (fun _ => 0))))]) lv n (.ref q :: st)) : Go p l e R s m args below meth c Q D A nL kc ks ws lv pc (.int i :: st) := by
  subst hn
  intro H locs ls hl hP hD hS
  refine va_newa (atype := .long) (ty := .long) (a0 := (N, .inr (.inl (fun _ => 0)))) C.1.1 C.1.2 (C.2.2.1 _ hw) rfl C.2.2.2.1.1 hP hD hS C.2.2.2.2.2 (fun _ => rfl) hi hN hb hc hs hd (fun q cA H1 hK1 hP1 hD1 hS1 => ?_)
  have hcA : cA = tc 1 := lookI 1 C.2.2.2.1.1 rfl (fun _ h => h) hK1
  subst hcA
  exact kk q H1 locs ls hl hP1 hD1 hS1
theorem go_anewD (C : Cx p s m args meth c D tc A nL cc own) {i : Int32} {idx N : Nat} (hd : decode cc pc = .ok (.anewarray idx, 3)) (hw : Cond.classLink own idx "SuggestDesk$Dictionary" ∈ AL) (ho : Cond.arrayOver (.object "SuggestDesk$Dictionary") ∈ AL) (hi : ¬ i < 0) (hN : i.toNatClampNeg = N) (hb : N * 4 ≤ 536870912) (hc : kc + 1 ≤ R.cells) (hs : ks + N ≤ R.slots) (hn : pc + 3 = n) (kk : ∀ q : Nat, Go p l e R s m args below meth c Q D A nL (kc + 1) (ks + N) (ws ++ [(q, .inl (tc 2, N, .inr (.inr (.inr (.inr (fun _ => none))))))]) lv n (.ref q :: st)) : Go p l e R s m args below meth c Q D A nL kc ks ws lv pc (.int i :: st) := by
  subst hn
  intro H locs ls hl hP hD hS
  refine va_newq C.1.1 C.1.2 C.2.1.2 (C.2.2.1 _ hw) (va_AO.of (C.2.2.1 _ ho)) C.2.2.2.1.1 hP hD hS C.2.2.2.2.2 hi hN hb hc hs hd (fun q cA H1 hK1 hP1 hD1 hS1 => ?_)
  have hcA : cA = tc 2 := lookI 2 C.2.2.2.1.1 rfl (fun _ h => h.choose_spec.choose_spec.2.2.2) hK1
  subst hcA
  exact kk q H1 locs ls hl hP1 hD1 hS1
theorem go_aastD (C : Cx p s m args meth c D tc A nL cc own) {a N v ci : Nat} {f : Nat → Option Nat} {i : Int32} {vs : List Value} {T : u_T} {K : Nat} (hd : decode cc pc = .ok (.aastore, 1)) (q0 qk : Nat) (he : ws[q0]? = some (a, .inl (tc 2, N, .inr (.inr (.inr (.inr f)))))) (hv : ws[qk]? = some (v, .inr (ci, vs))) (hcl : vwCl[ci]? = some ("SuggestDesk$Dictionary", T, K)) (hin : okI i N = true) (hn : pc + 1 = n) (kk : Go p l e R s m args below meth c Q D A nL kc ks (ws.set q0 (a, .inl (tc 2, N, .inr (.inr (.inr (.inr (va_up f i.toNatClampNeg (some v)))))))) lv n st) : Go p l e R s m args below meth c Q D A nL kc ks ws lv pc (.ref v :: .int i :: .ref a :: st) := by
  subst hn
  exact fun H locs ls hl hP hD hS => va_astq C.1.1 C.1.2 C.2.2.2.1.1 hP hD hS q0 2 qk ci (r := ("SuggestDesk$Dictionary", T, K)) he rfl hv hcl (okI_in hin) hd (fun H1 locs1 hP1 hD1 hS1 => kk H1 locs1 ls hl hP1 hD1 hS1)
theorem go_objInit (C : Cx p s m args meth c D tc A nL cc own) {idx a : Nat} (hd : decode cc pc = .ok (.invokespecial idx, 3)) (hw : Cond.methodLink own idx objectInit ∈ AL ∧ Cond.instanceMethod objectInit ∈ AL ∧ Cond.code objectInit ⟨#[0xb1]⟩ 1 none ∈ AL) (hfr : 1 ≤ R.frames) (hlo : (st.map fun v => v.category).sum + 12 ≤ R.locals) (hn : pc + 3 = n) (kk : Go p l e R s m args below meth c Q D A nL kc ks ws lv n st) : Go p l e R s m args below meth c Q D A nL kc ks ws lv pc (.ref a :: st) := by
  subst hn
  intro H locs ls hl hP hD hS
  refine W.objInit C.1.1 C.1.2 C.2.1.2 (C.2.2.1 _ hw.1) (C.2.2.1 _ hw.2.1) (C.2.2.1 _ hw.2.2) rfl (by rw [C.2.1.1]; exact hl.1) rfl hd hfr (by show 2 * 0 + _ + 12 ≤ _; omega) ?_
  exact kk H locs ls hl hP hD hS
/-- a method's end: it returned r, the world is ws', nothing outside A has changed -/
def Qs (D : va_G) (A : Nat → Prop) (POST : Option Value → va_W → Prop) : Array Value → State → Outcome → State → Prop := fun _ st oc t => ∃ (r : Option Value) (w1 : va_W), oc = .returned r ∧ POST r w1 ∧ va_P D vwCl w1 t.heap ∧ va_D A w1 ∧ va_F A st t
/-- a method's start -/
def Ps (D : va_G) (tc : Nat → ClassId) (av : List Value) (ws : va_W) (sz : Nat) : Array Value → State → Prop := va_Pc av (fun U => U.heap.size = sz ∧ va_P D vwCl ws U.heap ∧ (va_K D vwCl (TY tc) U ∧ ∀ w ∈ NWs, va_Nw w U) ∧ va_D (fun _ => True) ws)
/-- THE CONTRACT: from the world ws with the arguments av the method returns, POST of the answer and the new world -/
def Std (l : Launch) (y : MethodName) (cw : Cond) (rm : Room) (D : va_G) (tc : Nat → ClassId) (av : List Value) (ws : va_W) (mc ms : Nat) (POST : Option Value → va_W → Prop) : Prop :=
  ∀ sz : Nat, Met l y (cw :: AL) rm (Ps D tc av ws sz) (Qs D (va_A ws sz) POST) mc ms (va_A ws sz)
theorem Ps_blind {D : va_G} {tc : Nat → ClassId} {av : List Value} {ws : va_W} {sz : Nat} : FrameBlind (Ps D tc av ws sz) := fun a U g mk q => by
  obtain ⟨q0, q1, qP, ⟨qK, qN⟩, qD⟩ := q
  exact ⟨q0, q1, qP, ⟨va_K.moved (u := U) (U := U.calling g mk a) (Vm.Alike.refl U.vm) qK, NW_same (s := U) (U := U.calling g mk a) rfl qN⟩, qD⟩
theorem std_of {l : Launch} {y : MethodName} {cc : ByteArray} {maxL : Nat} {ret : Option FieldType} {rm : Room} {D : va_G} {tc : Nat → ClassId} {av : List Value} {ws : va_W} {mc ms : Nat} {POST : Option Value → va_W → Prop} {lv : List (Nat × Value)} (hy : plainName y.cls = true) (hlen : (lg_sl av).length ≤ maxL) (hlv : lv_args 0 av = lv)
    (hgo : ∀ (p : Program) (e : Env) (s : State) (m : MethodId) (args : Array Value) (below : List Frame) (meth : Method) (c : Code) (A : Nat → Prop), Cx p s m args meth c D tc A maxL cc y.cls → meth.sig.returnType = ret → meth.name = y.name → Go p l e rm s m args below meth c (MQ below (Qs D A POST) args s mc ms A) D A maxL 0 0 ws lv 0 []) : Std l y (.code y cc maxL ret) rm D tc av ws mc ms POST := by
  intro sz
  refine Met.ofW (cc := cc) (maxL := maxL) (ret := ret) hy rfl ?_
  intro p e s m args below meth c s₁ B hml hv
  obtain ⟨rfl, hsz, hP, ⟨hK, hN⟩, hD0⟩ := hv
  have hts := atoms_spec (ws := Cond.code y cc maxL ret :: AL) B.pre
  subst hsz
  subst hlv
  have hD := hD0.self (sz := s.heap.size)
  have hA : ∀ q : Nat, s.heap.size ≤ q → va_A ws s.heap.size q := fun q h => Or.inr h
  generalize va_A ws s.heap.size = A at hD hA ⊢
  have hl := lv_entry av (n := maxL) hlen
  rw [lg_entry_eq]
  exact hgo p e s m av.toArray below meth c A ⟨⟨B.exec, B.bytes⟩, ⟨hml, findClass_of_methodNamed B.named⟩, fun w h => hts w (List.mem_cons_of_mem _ h), ⟨hK, hN⟩, B.notSynchronized, hA⟩ B.returns (name_of_methodNamed B.named B.method).1 s.heap [] _ hl hP hD va_S.rf
theorem go_iret (C : Cx p s m args meth c D tc A nL cc own) {v : Int32} {POST : Option Value → va_W → Prop} (hd : decode cc pc = .ok (.ireturn, 1)) (hr : meth.sig.returnType = some .int) (hp : POST (some (.int v)) ws) : Go p l e R s m args below meth c (MQ below (Qs D A POST) args s kc ks A) D A nL kc ks ws lv pc [.int v] := fun H locs ls hl hP hD hS => W.iret C.1.1 C.1.2 hr (fun t ht hW => ⟨_, _, rfl, hp, by rw [ht]; exact hP, hD, hS.F ht⟩) hS.2.2 hd C.2.2.2.2.1
theorem go_lret (C : Cx p s m args meth c D tc A nL cc own) {v : Int64} {POST : Option Value → va_W → Prop} (hd : decode cc pc = .ok (.lreturn, 1)) (hr : meth.sig.returnType = some .long) (hp : POST (some (.long v)) ws) : Go p l e R s m args below meth c (MQ below (Qs D A POST) args s kc ks A) D A nL kc ks ws lv pc [.long v] := fun H locs ls hl hP hD hS => W.lret C.1.1 C.1.2 hr (fun t ht hW => ⟨_, _, rfl, hp, by rw [ht]; exact hP, hD, hS.F ht⟩) hS.2.2 hd C.2.2.2.2.1
theorem go_vret (C : Cx p s m args meth c D tc A nL cc own)  {POST : Option Value → va_W → Prop} (hd : decode cc pc = .ok (.return_, 1)) (hr : meth.sig.returnType = none) (hp : POST none ws) : Go p l e R s m args below meth c (MQ below (Qs D A POST) args s kc ks A) D A nL kc ks ws lv pc [] := fun H locs ls hl hP hD hS => W.vret C.1.1 C.1.2 hr (fun t ht hW => ⟨_, _, rfl, hp, by rw [ht]; exact hP, hD, hS.F ht⟩) hS.2.2 hd C.2.2.2.2.1
theorem go_zret (C : Cx p s m args meth c D tc A nL cc own) {v : Int32} {POST : Option Value → va_W → Prop} (hd : decode cc pc = .ok (.ireturn, 1)) (hr : meth.sig.returnType = some .boolean) (hz : narrow .boolean (.int v) = .int v) (hp : POST (some (.int v)) ws) : Go p l e R s m args below meth c (MQ below (Qs D A POST) args s kc ks A) D A nL kc ks ws lv pc [.int v] := fun H locs ls hl hP hD hS => W.zret C.1.1 C.1.2 hr hz (fun t ht hW => ⟨_, _, rfl, hp, by rw [ht]; exact hP, hD, hS.F ht⟩) hS.2.2 hd C.2.2.2.2.1
theorem go_aret (C : Cx p s m args meth c D tc A nL cc own) {v : Value} {rt : FieldType} {POST : Option Value → va_W → Prop} (hd : decode cc pc = .ok (.areturn, 1)) (hr : meth.sig.returnType = some rt) (hrt : (∃ n, rt = .object n) ∨ ∃ t, rt = .array t) (hv : v = .null ∨ ∃ a, v = .ref a) (hp : POST (some v) ws) : Go p l e R s m args below meth c (MQ below (Qs D A POST) args s kc ks A) D A nL kc ks ws lv pc [v] := fun H locs ls hl hP hD hS => W.aret C.1.1 C.1.2 hr hrt hv (fun t ht hW => ⟨_, _, rfl, hp, by rw [ht]; exact hP, hD, hS.F ht⟩) hS.2.2 hd C.2.2.2.2.1
/-- a call's link -/
def Lk (own : String) (idx : Nat) (y : MethodName) : Prop := Cond.methodLink own idx y ∈ AL ∨ ∃ host, Cond.methodLinkNest own idx y host ∈ NWs
/-- a method's own words -/
def Mw (y : MethodName) (cc : ByteArray) (maxL : Nat) (ret : Option FieldType) (np : Nat) : Prop := Cond.code y cc maxL ret ∈ AL ∧ Cond.initialized y.cls ∈ AL ∧ y.cls ≠ "java/lang/invoke/MethodHandle" ∧ y.cls ≠ "java/lang/invoke/VarHandle" ∧ (parseMethodDescriptor y.desc).map (fun d => d.parameters.length) = some np
theorem go_after {wc : va_W} {rest st0 : List Value} {mc ms : Nat} {a : Array Value} {POST : Option Value → va_W → Prop} (C : Cx p s m args meth c D tc A nL cc own) (isC : List Nat) (hC : isC.map (fun i => ws[i]?) = wc.map some) (hlen : ∀ r w1, POST r w1 → isC.length = w1.length) (hfst : ∀ r w1, POST r w1 → (repl ws isC w1).map Prod.fst = ws.map Prod.fst) (hn : pc + 3 = n)
    (hr : ∀ (H : Heap) (locs : List Loc) (ls : Array Slot), lv_has ls nL lv → va_P D vwCl ws H → va_D A ws → va_S A s.heap H locs → va_Run p l e R s m args below meth c H locs kc ks mc ms (F0 m pc ls st0) rest (Qs D (va_A wc H.size) POST a) (va_A wc H.size))
    (kk : ∀ (r : Option Value) (w1 : va_W), POST r w1 → Go p l e R s m args below meth c Q D A nL (kc + mc) (ks + ms) (repl ws isC w1) lv n (r.toList ++ rest)) : Go p l e R s m args below meth c Q D A nL kc ks ws lv pc st0 := by
  subst hn
  intro H locs ls hl hP hD hS T hT X
  obtain ⟨v, st₀, t, T', L, h0, X', hL, e1, e2, ⟨r, w1, hv, hp, hP1, hD1, hz, hk⟩, stp⟩ := hr H locs ls hl hP hD hS T hT X
  have hFc := va_free (wc := wc) hD hS C.2.2.2.2.2 isC hC
  cases hv
  rw [h0] at hz hk
  have hP2 := repl_P hP hD isC hC (hlen _ _ hp) hk hP1
  have hD2 := repl_D hD (hfst _ _ hp)
  obtain ⟨t2, a1, b1⟩ := kk v w1 hp T'.heap (locs ++ L) ls hl (by rw [e1]; exact hP2) hD2
    ⟨Nat.le_trans hS.1 (by rw [e1]; exact hz), fun q h1 h2 => by rw [e1, hk q (Nat.lt_of_lt_of_le h1 hS.1) (fun z => h2 (hFc q z))]; exact hS.2.1 q h1 h2, fun q hq => by
      rcases List.mem_append.mp hq with h | h
      · exact hS.2.2 q h
      · exact hFc _ (hL q h)⟩ T' rfl X'
  exact ⟨t2, stp t2 a1, b1⟩
theorem go_callS (C : Cx p s m args meth c D tc A nL cc own) {y : MethodName} {bytes : ByteArray} {maxL np idx mc ms : Nat} {ret : Option FieldType} {rm : Room} {POST : Option Value → va_W → Prop} {As rest : List Value} {wc : va_W} (hd : decode cc pc = .ok (.invokestatic idx, 3)) (hM : Std l y (.code y bytes maxL ret) rm D tc As wc mc ms POST) (hk : Lk own idx y) (hw : Mw y bytes maxL ret np) (hs : Cond.static y ∈ AL)
    (hrc : rm.cells = mc) (hrs : rm.slots = ms) (hR : rm.frames + 1 ≤ R.frames ∧ 8 + (maxL + 11) + rm.locals ≤ R.locals) (hln : As.length = np) (hst : As.reverse ++ rest = st) (hcat : (rest.map fun v => v.category).sum ≤ 8) (hf : kc + mc ≤ R.cells ∧ ks + ms ≤ R.slots)
    (isC : List Nat) (hC : isC.map (fun i => ws[i]?) = wc.map some) (hn2 : va_nd isC = true) (hlen : ∀ r w1, POST r w1 → isC.length = w1.length) (hfst : ∀ r w1, POST r w1 → (repl ws isC w1).map Prod.fst = ws.map Prod.fst) (hn : pc + 3 = n)
    (kk : ∀ (r : Option Value) (w1 : va_W), POST r w1 → Go p l e R s m args below meth c Q D A nL (kc + mc) (ks + ms) (repl ws isC w1) lv n (r.toList ++ rest)) : Go p l e R s m args below meth c Q D A nL kc ks ws lv pc st := by
  refine go_after (a := As.toArray) C isC hC hlen hfst hn (fun H locs ls hl hP hD hS => ?_) kk
  have hp : PreS s H (Ps D tc As wc H.size) As := ⟨Ps_blind, fun U hU hW => ⟨rfl, by rw [hU], by rw [hU]; exact hP.sub isC (go_fm hC), ⟨va_K.moved hW.alike C.2.2.2.1.1, NW_warm hW C.2.2.2.1.2⟩, (hD.sub isC hn2 hC).weaken (fun _ _ _ _ => trivial)⟩⟩
  rcases hk with hk | ⟨host, hk⟩
  · exact va_runS (As := As) (rest := rest) (g := F0 m pc ls st) ⟨C.1.1, C.1.2, C.2.1.1, C.2.1.2, C.2.2.1⟩ (hM H.size) ⟨callB_of np C.2.2.1 (AL_goodIn hw.1) rfl hrc hrs (C.2.2.1 _ hw.2.1) (C.2.2.1 _ hk) hw.2.2 hR, C.2.2.1 _ hs⟩ hp rfl hln hl.1 hst.symm (lv_room hcat) hd hf
  · exact va_runSN (As := As) (rest := rest) (g := F0 m pc ls st) ⟨C.1.1, C.1.2, C.2.1.1, C.2.1.2, C.2.2.1⟩ (hM H.size) ⟨va_cnB np C.2.2.1 (AL_goodIn hw.1) rfl hrc hrs (C.2.2.2.1.2 _ hk) (C.2.2.1 _ hw.2.1) hw.2.2 hR, C.2.2.1 _ hs, trivial⟩ hp rfl hln hl.1 hst.symm (lv_room hcat) hd hf
theorem go_callV (C : Cx p s m args meth c D tc A nL cc own) {y : MethodName} {bytes : ByteArray} {maxL np idx mc ms b ci : Nat} {ret : Option FieldType} {rm : Room} {POST : Option Value → va_W → Prop} {As rest : List Value} {wc : va_W} {fs : List Value} {T : u_T} {N : Nat} (hd : decode cc pc = .ok (.invokevirtual idx, 3)) (hM : Std l y (.code y bytes maxL ret) rm D tc (.ref b :: As) wc mc ms POST) (hk : Lk own idx y) (hw : Mw y bytes maxL ret np) (hs : Cond.instanceMethod y ∈ AL ∧ Cond.selects y.cls y y ∈ AL)
    (q0 : Nat) (he : ws[q0]? = some (b, .inr (ci, fs))) (hc : vwCl[ci]? = some (y.cls, T, N))
    (hrc : rm.cells = mc) (hrs : rm.slots = ms) (hR : rm.frames + 1 ≤ R.frames ∧ 8 + (maxL + 11) + rm.locals ≤ R.locals) (hln : As.length = np) (hst : As.reverse ++ .ref b :: rest = st) (hcat : (rest.map fun v => v.category).sum ≤ 8) (hf : kc + mc ≤ R.cells ∧ ks + ms ≤ R.slots)
    (isC : List Nat) (hC : isC.map (fun i => ws[i]?) = wc.map some) (hn2 : va_nd isC = true) (hlen : ∀ r w1, POST r w1 → isC.length = w1.length) (hfst : ∀ r w1, POST r w1 → (repl ws isC w1).map Prod.fst = ws.map Prod.fst) (hn : pc + 3 = n)
    (kk : ∀ (r : Option Value) (w1 : va_W), POST r w1 → Go p l e R s m args below meth c Q D A nL (kc + mc) (ks + ms) (repl ws isC w1) lv n (r.toList ++ rest)) : Go p l e R s m args below meth c Q D A nL kc ks ws lv pc st := by
  refine go_after (a := (Value.ref b :: As).toArray) C isC hC hlen hfst hn (fun H locs ls hl hP hD hS => ?_) kk
  have hp : PreV s H y.cls b (Ps D tc (.ref b :: As) wc H.size) As := ⟨Ps_blind, va_recv C.2.2.2.1.1 hP hc he, fun U hU hW => ⟨rfl, by rw [hU], by rw [hU]; exact hP.sub isC (go_fm hC), ⟨va_K.moved hW.alike C.2.2.2.1.1, NW_warm hW C.2.2.2.1.2⟩, (hD.sub isC hn2 hC).weaken (fun _ _ _ _ => trivial)⟩⟩
  rcases hk with hk | ⟨host, hk⟩
  · exact va_runV (As := As) (rest := rest) (g := F0 m pc ls st) ⟨C.1.1, C.1.2, C.2.1.1, C.2.1.2, C.2.2.1⟩ (hM H.size) ⟨callB_of np C.2.2.1 (AL_goodIn hw.1) rfl hrc hrs (C.2.2.1 _ hw.2.1) (C.2.2.1 _ hk) hw.2.2 hR, C.2.2.1 _ hs.1, C.2.2.1 _ hs.2⟩ hp rfl hln hl.1 hst.symm (lv_room hcat) hd hf
  · exact va_runVN (As := As) (rest := rest) (g := F0 m pc ls st) ⟨C.1.1, C.1.2, C.2.1.1, C.2.1.2, C.2.2.1⟩ (hM H.size) ⟨va_cnB np C.2.2.1 (AL_goodIn hw.1) rfl hrc hrs (C.2.2.2.1.2 _ hk) (C.2.2.1 _ hw.2.1) hw.2.2 hR, C.2.2.1 _ hs.1, C.2.2.1 _ hs.2⟩ hp rfl hln hl.1 hst.symm (lv_room hcat) hd hf

theorem go_after0 {rest st0 : List Value} {a : Array Value} {POST : Option Value → va_W → Prop} (C : Cx p s m args meth c D tc A nL cc own) (hn : pc + 3 = n)
    (hr : ∀ (H : Heap) (locs : List Loc) (ls : Array Slot), lv_has ls nL lv → va_P D vwCl ws H → va_D A ws → va_S A s.heap H locs → va_Run p l e R s m args below meth c H locs kc ks 0 0 (F0 m pc ls st0) rest (Qs D (va_A [] H.size) POST a) (va_A [] H.size))
    (kk : ∀ (r : Option Value) (w1 : va_W), POST r w1 → Go p l e R s m args below meth c Q D A nL kc ks ws lv n (r.toList ++ rest)) : Go p l e R s m args below meth c Q D A nL kc ks ws lv pc st0 := by
  subst hn
  intro H locs ls hl hP hD hS T hT X
  obtain ⟨v, st₀, t, T', L, h0, X', hL, e1, e2, ⟨r, w1, hv, hp, hP1, hD1, hz, hk⟩, stp⟩ := hr H locs ls hl hP hD hS T hT X
  have hno : ∀ q, q < H.size → ¬ va_A [] H.size q := fun q hq h => by
    rcases h with ⟨k, e, h⟩ | h
    · simp at h
    · omega
  have hFc : ∀ q, va_A [] H.size q → A q := fun q h => by
    rcases h with ⟨k, e, h⟩ | h
    · simp at h
    · exact C.2.2.2.2.2 q (Nat.le_trans hS.1 h)
  cases hv
  rw [h0] at hz hk
  obtain ⟨t2, a1, b1⟩ := kk v w1 hp T'.heap (locs ++ L) ls hl (by rw [e1]; exact hP.kept (fun k q hq => hk q.1 (hP k q hq).lt (hno _ (hP k q hq).lt))) hD
    ⟨Nat.le_trans hS.1 (by rw [e1]; exact hz), fun q h1 h2 => by rw [e1, hk q (Nat.lt_of_lt_of_le h1 hS.1) (hno q (Nat.lt_of_lt_of_le h1 hS.1))]; exact hS.2.1 q h1 h2, fun q hq => by
      rcases List.mem_append.mp hq with h | h
      · exact hS.2.2 q h
      · exact hFc _ (hL q h)⟩ T' rfl X'
  exact ⟨t2, stp t2 a1, b1⟩
theorem go_callP (C : Cx p s m args meth c D tc A nL cc own) {y : MethodName} {bytes : ByteArray} {maxL np idx : Nat} {ret : Option FieldType} {rm : Room} {POST : Option Value → va_W → Prop} {As rest : List Value} (hd : decode cc pc = .ok (.invokestatic idx, 3)) (hM : Std l y (.code y bytes maxL ret) rm D tc As [] 0 0 POST) (hk : Lk own idx y) (hw : Mw y bytes maxL ret np) (hs : Cond.static y ∈ AL)
    (hrc : rm.cells = 0) (hrs : rm.slots = 0) (hR : rm.frames + 1 ≤ R.frames ∧ 8 + (maxL + 11) + rm.locals ≤ R.locals) (hln : As.length = np) (hst : As.reverse ++ rest = st) (hcat : (rest.map fun v => v.category).sum ≤ 8) (hf : kc ≤ R.cells ∧ ks ≤ R.slots) (hn : pc + 3 = n)
    (kk : ∀ (r : Option Value) (w1 : va_W), POST r w1 → Go p l e R s m args below meth c Q D A nL kc ks ws lv n (r.toList ++ rest)) : Go p l e R s m args below meth c Q D A nL kc ks ws lv pc st := by
  refine go_after0 (a := As.toArray) C hn (fun H locs ls hl hP hD hS => ?_) kk
  have hp : PreS s H (Ps D tc As [] H.size) As := ⟨Ps_blind, fun U hU hW => ⟨rfl, by rw [hU], fun k q h => by simp at h, ⟨va_K.moved hW.alike C.2.2.2.1.1, NW_warm hW C.2.2.2.1.2⟩, ⟨fun i j p q h => by simp at h, fun k q h => by simp at h⟩⟩⟩
  rcases hk with hk | ⟨host, hk⟩
  · exact va_runS (As := As) (rest := rest) (g := F0 m pc ls st) ⟨C.1.1, C.1.2, C.2.1.1, C.2.1.2, C.2.2.1⟩ (hM H.size) ⟨callB_of np C.2.2.1 (AL_goodIn hw.1) rfl hrc hrs (C.2.2.1 _ hw.2.1) (C.2.2.1 _ hk) hw.2.2 hR, C.2.2.1 _ hs⟩ hp rfl hln hl.1 hst.symm (lv_room hcat) hd hf
  · exact va_runSN (As := As) (rest := rest) (g := F0 m pc ls st) ⟨C.1.1, C.1.2, C.2.1.1, C.2.1.2, C.2.2.1⟩ (hM H.size) ⟨va_cnB np C.2.2.1 (AL_goodIn hw.1) rfl hrc hrs (C.2.2.2.1.2 _ hk) (C.2.2.1 _ hw.2.1) hw.2.2 hR, C.2.2.1 _ hs, trivial⟩ hp rfl hln hl.1 hst.symm (lv_room hcat) hd hf
theorem go_callI (C : Cx p s m args meth c D tc A nL cc own) {y : MethodName} {bytes : ByteArray} {maxL np idx mc ms b : Nat} {rm : Room} {POST : Option Value → va_W → Prop} {As rest : List Value} {wc wr : va_W} (hd : decode cc pc = .ok (.invokespecial idx, 3)) (hM : Std l y (.code y bytes maxL none) rm D tc (.ref b :: As) wc mc ms POST) (hk : Lk own idx y) (hw : Mw y bytes maxL none np) (hy : y.name = "<init>") (hs : Cond.instanceMethod y ∈ AL)
    (hrc : rm.cells = mc) (hrs : rm.slots = ms) (hR : rm.frames + 1 ≤ R.frames ∧ 8 + (maxL + 11) + rm.locals ≤ R.locals) (hln : As.length = np) (hst : As.reverse ++ .ref b :: rest = st) (hcat : (rest.map fun v => v.category).sum ≤ 8) (hf : kc + mc ≤ R.cells ∧ ks + ms ≤ R.slots)
    (isC isR : List Nat) (hC : isC.map (fun i => ws[i]?) = wc.map some) (hRr : isR.map (fun i => ws[i]?) = wr.map some) (hn2 : va_nd isC = true) (hn1 : va_nd isR = true) (hdis : ∀ i ∈ isR, i ∉ isC) (hn : pc + 3 = n)
    (kk : ∀ (r : Option Value) (w1 : va_W), POST r w1 → Go p l e R s m args below meth c Q D A nL (kc + mc) (ks + ms) (wr ++ w1) lv n (r.toList ++ rest)) : Go p l e R s m args below meth c Q D A nL kc ks ws lv pc st := by
  subst hn
  intro H locs ls hl hP hD hS
  have hp : PreS s H (Ps D tc (.ref b :: As) wc H.size) (.ref b :: As) := ⟨Ps_blind, fun U hU hW => ⟨rfl, by rw [hU], by rw [hU]; exact hP.sub isC (go_fm hC), ⟨va_K.moved hW.alike C.2.2.2.1.1, NW_warm hW C.2.2.2.1.2⟩, (hD.sub isC hn2 hC).weaken (fun _ _ _ _ => trivial)⟩⟩
  have hr : va_Run p l e R s m args below meth c H locs kc ks mc ms (F0 m pc ls st) rest (Qs D (va_A wc H.size) POST (Value.ref b :: As).toArray) (va_A wc H.size) := by
    rcases hk with hk | ⟨host, hk⟩
    · exact va_runI (As := As) (rest := rest) (g := F0 m pc ls st) ⟨C.1.1, C.1.2, C.2.1.1, C.2.1.2, C.2.2.1⟩ (hM H.size) ⟨callB_of np C.2.2.1 (AL_goodIn hw.1) rfl hrc hrs (C.2.2.1 _ hw.2.1) (C.2.2.1 _ hk) hw.2.2 hR, hy, C.2.2.1 _ hs⟩ hp rfl hln hl.1 hst.symm (lv_room hcat) hd hf
    · exact va_runIN (As := As) (rest := rest) (g := F0 m pc ls st) ⟨C.1.1, C.1.2, C.2.1.1, C.2.1.2, C.2.2.1⟩ (hM H.size) ⟨va_cnB np C.2.2.1 (AL_goodIn hw.1) rfl hrc hrs (C.2.2.2.1.2 _ hk) (C.2.2.1 _ hw.2.1) hw.2.2 hR, hy, C.2.2.1 _ hs⟩ hp rfl hln hl.1 hst.symm (lv_room hcat) hd hf
  intro T hT X
  obtain ⟨v, st₀, t, T', L, h0, X', hL, e1, e2, ⟨r, w1, hv, hp1, hP1, hD1, hz, hk2⟩, stp⟩ := hr T hT X
  have hFc := va_free (wc := wc) hD hS C.2.2.2.2.2 isC hC
  cases hv
  rw [h0] at hz hk2
  obtain ⟨hP2, hD2⟩ := va_join (wr := wr) (w1 := w1) hP hD isC isR hC hRr hn1 hdis hk2 hFc hP1 hD1
  obtain ⟨t2, a1, b1⟩ := kk v w1 hp1 T'.heap (locs ++ L) ls hl (by rw [e1]; exact hP2) hD2
    ⟨Nat.le_trans hS.1 (by rw [e1]; exact hz), fun q h1 h2 => by rw [e1, hk2 q (Nat.lt_of_lt_of_le h1 hS.1) (fun z => h2 (hFc q z))]; exact hS.2.1 q h1 h2, fun q hq => by
      rcases List.mem_append.mp hq with h | h
      · exact hS.2.2 q h
      · exact hFc _ (hL q h)⟩ T' rfl X'
  exact ⟨t2, stp t2 a1, b1⟩
end GO
end
section
theorem d_Automaton_init_0 : decode b_Automaton_init 0 = .ok (.aload_n 0, 1) := by decide +kernel
theorem d_Automaton_init_1 : decode b_Automaton_init 1 = .ok (.invokespecial 3, 3) := by decide +kernel
theorem d_Automaton_init_4 : decode b_Automaton_init 4 = .ok (.aload_n 0, 1) := by decide +kernel
theorem d_Automaton_init_5 : decode b_Automaton_init 5 = .ok (.sipush 193, 3) := by decide +kernel
theorem d_Automaton_init_8 : decode b_Automaton_init 8 = .ok (.newarray .int, 2) := by decide +kernel
theorem d_Automaton_init_10 : decode b_Automaton_init 10 = .ok (.putfield 11, 3) := by decide +kernel
theorem d_Automaton_init_13 : decode b_Automaton_init 13 = .ok (.aload_n 0, 1) := by decide +kernel
theorem d_Automaton_init_14 : decode b_Automaton_init 14 = .ok (.sipush 193, 3) := by decide +kernel
theorem d_Automaton_init_17 : decode b_Automaton_init 17 = .ok (.newarray .int, 2) := by decide +kernel
theorem d_Automaton_init_19 : decode b_Automaton_init 19 = .ok (.putfield 15, 3) := by decide +kernel
theorem d_Automaton_init_22 : decode b_Automaton_init 22 = .ok (.aload_n 0, 1) := by decide +kernel
theorem d_Automaton_init_23 : decode b_Automaton_init 23 = .ok (.sipush 193, 3) := by decide +kernel
theorem d_Automaton_init_26 : decode b_Automaton_init 26 = .ok (.newarray .int, 2) := by decide +kernel
theorem d_Automaton_init_28 : decode b_Automaton_init 28 = .ok (.putfield 18, 3) := by decide +kernel
theorem d_Automaton_init_31 : decode b_Automaton_init 31 = .ok (.aload_n 0, 1) := by decide +kernel
theorem d_Automaton_init_32 : decode b_Automaton_init 32 = .ok (.sipush 193, 3) := by decide +kernel
theorem d_Automaton_init_35 : decode b_Automaton_init 35 = .ok (.newarray .int, 2) := by decide +kernel
theorem d_Automaton_init_37 : decode b_Automaton_init 37 = .ok (.putfield 21, 3) := by decide +kernel
theorem d_Automaton_init_40 : decode b_Automaton_init 40 = .ok (.aload_n 0, 1) := by decide +kernel
theorem d_Automaton_init_41 : decode b_Automaton_init 41 = .ok (.iconst 0, 1) := by decide +kernel
theorem d_Automaton_init_42 : decode b_Automaton_init 42 = .ok (.putfield 24, 3) := by decide +kernel
theorem d_Automaton_init_45 : decode b_Automaton_init 45 = .ok (.aload_n 0, 1) := by decide +kernel
theorem d_Automaton_init_46 : decode b_Automaton_init 46 = .ok (.iconst 0, 1) := by decide +kernel
theorem d_Automaton_init_47 : decode b_Automaton_init 47 = .ok (.putfield 28, 3) := by decide +kernel
theorem d_Automaton_init_50 : decode b_Automaton_init 50 = .ok (.return_, 1) := by decide +kernel
theorem d_Automaton_states_0 : decode b_Automaton_states 0 = .ok (.aload_n 0, 1) := by decide +kernel
theorem d_Automaton_states_1 : decode b_Automaton_states 1 = .ok (.getfield 24, 3) := by decide +kernel
theorem d_Automaton_states_4 : decode b_Automaton_states 4 = .ok (.ireturn, 1) := by decide +kernel
theorem d_Automaton_arcs_0 : decode b_Automaton_arcs 0 = .ok (.aload_n 0, 1) := by decide +kernel
theorem d_Automaton_arcs_1 : decode b_Automaton_arcs 1 = .ok (.getfield 28, 3) := by decide +kernel
theorem d_Automaton_arcs_4 : decode b_Automaton_arcs 4 = .ok (.ireturn, 1) := by decide +kernel
theorem d_Automaton_measure_0 : decode b_Automaton_measure 0 = .ok (.aload_n 0, 1) := by decide +kernel
theorem d_Automaton_measure_1 : decode b_Automaton_measure 1 = .ok (.iconst 0, 1) := by decide +kernel
theorem d_Automaton_measure_2 : decode b_Automaton_measure 2 = .ok (.putfield 24, 3) := by decide +kernel
theorem d_Automaton_measure_5 : decode b_Automaton_measure 5 = .ok (.aload_n 0, 1) := by decide +kernel
theorem d_Automaton_measure_6 : decode b_Automaton_measure 6 = .ok (.iconst 0, 1) := by decide +kernel
theorem d_Automaton_measure_7 : decode b_Automaton_measure 7 = .ok (.putfield 28, 3) := by decide +kernel
theorem d_Automaton_measure_10 : decode b_Automaton_measure 10 = .ok (.iconst 0, 1) := by decide +kernel
theorem d_Automaton_measure_11 : decode b_Automaton_measure 11 = .ok (.istore_n 2, 1) := by decide +kernel
theorem d_Automaton_measure_12 : decode b_Automaton_measure 12 = .ok (.iload_n 2, 1) := by decide +kernel
theorem d_Automaton_measure_13 : decode b_Automaton_measure 13 = .ok (.aload_n 1, 1) := by decide +kernel
theorem d_Automaton_measure_14 : decode b_Automaton_measure 14 = .ok (.invokevirtual 31, 3) := by decide +kernel
theorem d_Automaton_measure_17 : decode b_Automaton_measure 17 = .ok (.if_icmp .ge 69, 3) := by decide +kernel
theorem d_Automaton_measure_20 : decode b_Automaton_measure 20 = .ok (.aload_n 1, 1) := by decide +kernel
theorem d_Automaton_measure_21 : decode b_Automaton_measure 21 = .ok (.iload_n 2, 1) := by decide +kernel
theorem d_Automaton_measure_22 : decode b_Automaton_measure 22 = .ok (.invokevirtual 37, 3) := by decide +kernel
theorem d_Automaton_measure_25 : decode b_Automaton_measure 25 = .ok (.lstore_n 3, 1) := by decide +kernel
theorem d_Automaton_measure_26 : decode b_Automaton_measure 26 = .ok (.iload_n 2, 1) := by decide +kernel
theorem d_Automaton_measure_27 : decode b_Automaton_measure 27 = .ok (.ifCond .ne 7, 3) := by decide +kernel
theorem d_Automaton_measure_30 : decode b_Automaton_measure 30 = .ok (.iconst 0, 1) := by decide +kernel
theorem d_Automaton_measure_31 : decode b_Automaton_measure 31 = .ok (.goto 16, 3) := by decide +kernel
theorem d_Automaton_measure_34 : decode b_Automaton_measure 34 = .ok (.aload_n 1, 1) := by decide +kernel
theorem d_Automaton_measure_35 : decode b_Automaton_measure 35 = .ok (.iload_n 2, 1) := by decide +kernel
theorem d_Automaton_measure_36 : decode b_Automaton_measure 36 = .ok (.iconst 1, 1) := by decide +kernel
theorem d_Automaton_measure_37 : decode b_Automaton_measure 37 = .ok (.isub, 1) := by decide +kernel
theorem d_Automaton_measure_38 : decode b_Automaton_measure 38 = .ok (.invokevirtual 37, 3) := by decide +kernel
theorem d_Automaton_measure_41 : decode b_Automaton_measure 41 = .ok (.lload_n 3, 1) := by decide +kernel
theorem d_Automaton_measure_42 : decode b_Automaton_measure 42 = .ok (.invokestatic 41, 3) := by decide +kernel
theorem d_Automaton_measure_45 : decode b_Automaton_measure 45 = .ok (.iconst 1, 1) := by decide +kernel
theorem d_Automaton_measure_46 : decode b_Automaton_measure 46 = .ok (.iadd, 1) := by decide +kernel
theorem d_Automaton_measure_47 : decode b_Automaton_measure 47 = .ok (.istore 5, 2) := by decide +kernel
theorem d_Automaton_measure_49 : decode b_Automaton_measure 49 = .ok (.lload_n 3, 1) := by decide +kernel
theorem d_Automaton_measure_50 : decode b_Automaton_measure 50 = .ok (.invokestatic 47, 3) := by decide +kernel
theorem d_Automaton_measure_53 : decode b_Automaton_measure 53 = .ok (.istore 6, 2) := by decide +kernel
theorem d_Automaton_measure_55 : decode b_Automaton_measure 55 = .ok (.iload 5, 2) := by decide +kernel
theorem d_Automaton_measure_57 : decode b_Automaton_measure 57 = .ok (.istore 7, 2) := by decide +kernel
theorem d_Automaton_measure_59 : decode b_Automaton_measure 59 = .ok (.iload 7, 2) := by decide +kernel
theorem d_Automaton_measure_61 : decode b_Automaton_measure 61 = .ok (.iload 6, 2) := by decide +kernel
theorem d_Automaton_measure_63 : decode b_Automaton_measure 63 = .ok (.if_icmp .gt 17, 3) := by decide +kernel
theorem d_Automaton_measure_66 : decode b_Automaton_measure 66 = .ok (.aload_n 0, 1) := by decide +kernel
theorem d_Automaton_measure_67 : decode b_Automaton_measure 67 = .ok (.aload_n 1, 1) := by decide +kernel
theorem d_Automaton_measure_68 : decode b_Automaton_measure 68 = .ok (.iload_n 2, 1) := by decide +kernel
theorem d_Automaton_measure_69 : decode b_Automaton_measure 69 = .ok (.iload 7, 2) := by decide +kernel
theorem d_Automaton_measure_71 : decode b_Automaton_measure 71 = .ok (.invokevirtual 51, 3) := by decide +kernel
theorem d_Automaton_measure_74 : decode b_Automaton_measure 74 = .ok (.iinc 7 1, 3) := by decide +kernel
theorem d_Automaton_measure_77 : decode b_Automaton_measure 77 = .ok (.goto (-18), 3) := by decide +kernel
theorem d_Automaton_measure_80 : decode b_Automaton_measure 80 = .ok (.iinc 2 1, 3) := by decide +kernel
theorem d_Automaton_measure_83 : decode b_Automaton_measure 83 = .ok (.goto (-71), 3) := by decide +kernel
theorem d_Automaton_measure_86 : decode b_Automaton_measure 86 = .ok (.return_, 1) := by decide +kernel
theorem d_Automaton_addBeginning_0 : decode b_Automaton_addBeginning 0 = .ok (.aload_n 0, 1) := by decide +kernel
theorem d_Automaton_addBeginning_1 : decode b_Automaton_addBeginning 1 = .ok (.getfield 24, 3) := by decide +kernel
theorem d_Automaton_addBeginning_4 : decode b_Automaton_addBeginning 4 = .ok (.sipush 193, 3) := by decide +kernel
theorem d_Automaton_addBeginning_7 : decode b_Automaton_addBeginning 7 = .ok (.if_icmp .lt 4, 3) := by decide +kernel
theorem d_Automaton_addBeginning_10 : decode b_Automaton_addBeginning 10 = .ok (.return_, 1) := by decide +kernel
theorem d_Automaton_addBeginning_11 : decode b_Automaton_addBeginning 11 = .ok (.aload_n 0, 1) := by decide +kernel
theorem d_Automaton_addBeginning_12 : decode b_Automaton_addBeginning 12 = .ok (.getfield 11, 3) := by decide +kernel
theorem d_Automaton_addBeginning_15 : decode b_Automaton_addBeginning 15 = .ok (.aload_n 0, 1) := by decide +kernel
theorem d_Automaton_addBeginning_16 : decode b_Automaton_addBeginning 16 = .ok (.getfield 24, 3) := by decide +kernel
theorem d_Automaton_addBeginning_19 : decode b_Automaton_addBeginning 19 = .ok (.iload_n 2, 1) := by decide +kernel
theorem d_Automaton_addBeginning_20 : decode b_Automaton_addBeginning 20 = .ok (.iastore, 1) := by decide +kernel
theorem d_Automaton_addBeginning_21 : decode b_Automaton_addBeginning 21 = .ok (.aload_n 0, 1) := by decide +kernel
theorem d_Automaton_addBeginning_22 : decode b_Automaton_addBeginning 22 = .ok (.getfield 15, 3) := by decide +kernel
theorem d_Automaton_addBeginning_25 : decode b_Automaton_addBeginning 25 = .ok (.aload_n 0, 1) := by decide +kernel
theorem d_Automaton_addBeginning_26 : decode b_Automaton_addBeginning 26 = .ok (.getfield 24, 3) := by decide +kernel
theorem d_Automaton_addBeginning_29 : decode b_Automaton_addBeginning 29 = .ok (.aload_n 1, 1) := by decide +kernel
theorem d_Automaton_addBeginning_30 : decode b_Automaton_addBeginning 30 = .ok (.iload_n 2, 1) := by decide +kernel
theorem d_Automaton_addBeginning_31 : decode b_Automaton_addBeginning 31 = .ok (.iload_n 3, 1) := by decide +kernel
theorem d_Automaton_addBeginning_32 : decode b_Automaton_addBeginning 32 = .ok (.invokestatic 55, 3) := by decide +kernel
theorem d_Automaton_addBeginning_35 : decode b_Automaton_addBeginning 35 = .ok (.iastore, 1) := by decide +kernel
theorem d_Automaton_addBeginning_36 : decode b_Automaton_addBeginning 36 = .ok (.aload_n 0, 1) := by decide +kernel
theorem d_Automaton_addBeginning_37 : decode b_Automaton_addBeginning 37 = .ok (.getfield 18, 3) := by decide +kernel
theorem d_Automaton_addBeginning_40 : decode b_Automaton_addBeginning 40 = .ok (.aload_n 0, 1) := by decide +kernel
theorem d_Automaton_addBeginning_41 : decode b_Automaton_addBeginning 41 = .ok (.getfield 24, 3) := by decide +kernel
theorem d_Automaton_addBeginning_44 : decode b_Automaton_addBeginning 44 = .ok (.iload_n 3, 1) := by decide +kernel
theorem d_Automaton_addBeginning_45 : decode b_Automaton_addBeginning 45 = .ok (.iastore, 1) := by decide +kernel
theorem d_Automaton_addBeginning_46 : decode b_Automaton_addBeginning 46 = .ok (.aload_n 0, 1) := by decide +kernel
theorem d_Automaton_addBeginning_47 : decode b_Automaton_addBeginning 47 = .ok (.getfield 21, 3) := by decide +kernel
theorem d_Automaton_addBeginning_50 : decode b_Automaton_addBeginning 50 = .ok (.aload_n 0, 1) := by decide +kernel
theorem d_Automaton_addBeginning_51 : decode b_Automaton_addBeginning 51 = .ok (.getfield 24, 3) := by decide +kernel
theorem d_Automaton_addBeginning_54 : decode b_Automaton_addBeginning 54 = .ok (.aload_n 1, 1) := by decide +kernel
theorem d_Automaton_addBeginning_55 : decode b_Automaton_addBeginning 55 = .ok (.iload_n 2, 1) := by decide +kernel
theorem d_Automaton_addBeginning_56 : decode b_Automaton_addBeginning 56 = .ok (.aload_n 0, 1) := by decide +kernel
theorem d_Automaton_addBeginning_57 : decode b_Automaton_addBeginning 57 = .ok (.getfield 15, 3) := by decide +kernel
theorem d_Automaton_addBeginning_60 : decode b_Automaton_addBeginning 60 = .ok (.aload_n 0, 1) := by decide +kernel
theorem d_Automaton_addBeginning_61 : decode b_Automaton_addBeginning 61 = .ok (.getfield 24, 3) := by decide +kernel
theorem d_Automaton_addBeginning_64 : decode b_Automaton_addBeginning 64 = .ok (.iaload, 1) := by decide +kernel
theorem d_Automaton_addBeginning_65 : decode b_Automaton_addBeginning 65 = .ok (.invokestatic 59, 3) := by decide +kernel
theorem d_Automaton_addBeginning_68 : decode b_Automaton_addBeginning 68 = .ok (.iastore, 1) := by decide +kernel
theorem d_Automaton_addBeginning_69 : decode b_Automaton_addBeginning 69 = .ok (.iconst 0, 1) := by decide +kernel
theorem d_Automaton_addBeginning_70 : decode b_Automaton_addBeginning 70 = .ok (.istore 4, 2) := by decide +kernel
theorem d_Automaton_addBeginning_72 : decode b_Automaton_addBeginning 72 = .ok (.iload 4, 2) := by decide +kernel
theorem d_Automaton_addBeginning_74 : decode b_Automaton_addBeginning 74 = .ok (.aload_n 0, 1) := by decide +kernel
theorem d_Automaton_addBeginning_75 : decode b_Automaton_addBeginning 75 = .ok (.getfield 24, 3) := by decide +kernel
theorem d_Automaton_addBeginning_78 : decode b_Automaton_addBeginning 78 = .ok (.if_icmp .ge 24, 3) := by decide +kernel
theorem d_Automaton_addBeginning_81 : decode b_Automaton_addBeginning 81 = .ok (.aload_n 0, 1) := by decide +kernel
theorem d_Automaton_addBeginning_82 : decode b_Automaton_addBeginning 82 = .ok (.aload_n 1, 1) := by decide +kernel
theorem d_Automaton_addBeginning_83 : decode b_Automaton_addBeginning 83 = .ok (.iload 4, 2) := by decide +kernel
theorem d_Automaton_addBeginning_85 : decode b_Automaton_addBeginning 85 = .ok (.aload_n 0, 1) := by decide +kernel
theorem d_Automaton_addBeginning_86 : decode b_Automaton_addBeginning 86 = .ok (.getfield 24, 3) := by decide +kernel
theorem d_Automaton_addBeginning_89 : decode b_Automaton_addBeginning 89 = .ok (.invokevirtual 62, 3) := by decide +kernel
theorem d_Automaton_addBeginning_92 : decode b_Automaton_addBeginning 92 = .ok (.ifCond .eq 4, 3) := by decide +kernel
theorem d_Automaton_addBeginning_95 : decode b_Automaton_addBeginning 95 = .ok (.return_, 1) := by decide +kernel
theorem d_Automaton_addBeginning_96 : decode b_Automaton_addBeginning 96 = .ok (.iinc 4 1, 3) := by decide +kernel
theorem d_Automaton_addBeginning_99 : decode b_Automaton_addBeginning 99 = .ok (.goto (-27), 3) := by decide +kernel
theorem d_Automaton_addBeginning_102 : decode b_Automaton_addBeginning 102 = .ok (.aload_n 0, 1) := by decide +kernel
theorem d_Automaton_addBeginning_103 : decode b_Automaton_addBeginning 103 = .ok (.dup, 1) := by decide +kernel
theorem d_Automaton_addBeginning_104 : decode b_Automaton_addBeginning 104 = .ok (.getfield 28, 3) := by decide +kernel
theorem d_Automaton_addBeginning_107 : decode b_Automaton_addBeginning 107 = .ok (.aload_n 0, 1) := by decide +kernel
theorem d_Automaton_addBeginning_108 : decode b_Automaton_addBeginning 108 = .ok (.aload_n 1, 1) := by decide +kernel
theorem d_Automaton_addBeginning_109 : decode b_Automaton_addBeginning 109 = .ok (.aload_n 0, 1) := by decide +kernel
theorem d_Automaton_addBeginning_110 : decode b_Automaton_addBeginning 110 = .ok (.getfield 24, 3) := by decide +kernel
theorem d_Automaton_addBeginning_113 : decode b_Automaton_addBeginning 113 = .ok (.invokevirtual 66, 3) := by decide +kernel
theorem d_Automaton_addBeginning_116 : decode b_Automaton_addBeginning 116 = .ok (.iadd, 1) := by decide +kernel
theorem d_Automaton_addBeginning_117 : decode b_Automaton_addBeginning 117 = .ok (.putfield 28, 3) := by decide +kernel
theorem d_Automaton_addBeginning_120 : decode b_Automaton_addBeginning 120 = .ok (.aload_n 0, 1) := by decide +kernel
theorem d_Automaton_addBeginning_121 : decode b_Automaton_addBeginning 121 = .ok (.dup, 1) := by decide +kernel
theorem d_Automaton_addBeginning_122 : decode b_Automaton_addBeginning 122 = .ok (.getfield 24, 3) := by decide +kernel
theorem d_Automaton_addBeginning_125 : decode b_Automaton_addBeginning 125 = .ok (.iconst 1, 1) := by decide +kernel
theorem d_Automaton_addBeginning_126 : decode b_Automaton_addBeginning 126 = .ok (.iadd, 1) := by decide +kernel
theorem d_Automaton_addBeginning_127 : decode b_Automaton_addBeginning 127 = .ok (.putfield 24, 3) := by decide +kernel
theorem d_Automaton_addBeginning_130 : decode b_Automaton_addBeginning 130 = .ok (.return_, 1) := by decide +kernel
theorem d_Automaton_countWords_0 : decode b_Automaton_countWords 0 = .ok (.aload_n 0, 1) := by decide +kernel
theorem d_Automaton_countWords_1 : decode b_Automaton_countWords 1 = .ok (.iload_n 1, 1) := by decide +kernel
theorem d_Automaton_countWords_2 : decode b_Automaton_countWords 2 = .ok (.invokevirtual 37, 3) := by decide +kernel
theorem d_Automaton_countWords_5 : decode b_Automaton_countWords 5 = .ok (.iload_n 2, 1) := by decide +kernel
theorem d_Automaton_countWords_6 : decode b_Automaton_countWords 6 = .ok (.invokestatic 70, 3) := by decide +kernel
theorem d_Automaton_countWords_9 : decode b_Automaton_countWords 9 = .ok (.lstore_n 3, 1) := by decide +kernel
theorem d_Automaton_countWords_10 : decode b_Automaton_countWords 10 = .ok (.iload_n 1, 1) := by decide +kernel
theorem d_Automaton_countWords_11 : decode b_Automaton_countWords 11 = .ok (.iconst 1, 1) := by decide +kernel
theorem d_Automaton_countWords_12 : decode b_Automaton_countWords 12 = .ok (.iadd, 1) := by decide +kernel
theorem d_Automaton_countWords_13 : decode b_Automaton_countWords 13 = .ok (.istore 5, 2) := by decide +kernel
theorem d_Automaton_countWords_15 : decode b_Automaton_countWords 15 = .ok (.iload 5, 2) := by decide +kernel
theorem d_Automaton_countWords_17 : decode b_Automaton_countWords 17 = .ok (.aload_n 0, 1) := by decide +kernel
theorem d_Automaton_countWords_18 : decode b_Automaton_countWords 18 = .ok (.invokevirtual 31, 3) := by decide +kernel
theorem d_Automaton_countWords_21 : decode b_Automaton_countWords 21 = .ok (.if_icmp .ge 24, 3) := by decide +kernel
theorem d_Automaton_countWords_24 : decode b_Automaton_countWords 24 = .ok (.aload_n 0, 1) := by decide +kernel
theorem d_Automaton_countWords_25 : decode b_Automaton_countWords 25 = .ok (.iload 5, 2) := by decide +kernel
theorem d_Automaton_countWords_27 : decode b_Automaton_countWords 27 = .ok (.invokevirtual 37, 3) := by decide +kernel
theorem d_Automaton_countWords_30 : decode b_Automaton_countWords 30 = .ok (.iload_n 2, 1) := by decide +kernel
theorem d_Automaton_countWords_31 : decode b_Automaton_countWords 31 = .ok (.invokestatic 70, 3) := by decide +kernel
theorem d_Automaton_countWords_34 : decode b_Automaton_countWords 34 = .ok (.lload_n 3, 1) := by decide +kernel
theorem d_Automaton_countWords_35 : decode b_Automaton_countWords 35 = .ok (.lcmp, 1) := by decide +kernel
theorem d_Automaton_countWords_36 : decode b_Automaton_countWords 36 = .ok (.ifCond .ne 9, 3) := by decide +kernel
theorem d_Automaton_countWords_39 : decode b_Automaton_countWords 39 = .ok (.iinc 5 1, 3) := by decide +kernel
theorem d_Automaton_countWords_42 : decode b_Automaton_countWords 42 = .ok (.goto (-27), 3) := by decide +kernel
theorem d_Automaton_countWords_45 : decode b_Automaton_countWords 45 = .ok (.iload 5, 2) := by decide +kernel
theorem d_Automaton_countWords_47 : decode b_Automaton_countWords 47 = .ok (.iload_n 1, 1) := by decide +kernel
theorem d_Automaton_countWords_48 : decode b_Automaton_countWords 48 = .ok (.isub, 1) := by decide +kernel
theorem d_Automaton_countWords_49 : decode b_Automaton_countWords 49 = .ok (.ireturn, 1) := by decide +kernel
theorem d_Automaton_lowestCost_0 : decode b_Automaton_lowestCost 0 = .ok (.aload_n 0, 1) := by decide +kernel
theorem d_Automaton_lowestCost_1 : decode b_Automaton_lowestCost 1 = .ok (.iload_n 1, 1) := by decide +kernel
theorem d_Automaton_lowestCost_2 : decode b_Automaton_lowestCost 2 = .ok (.invokevirtual 74, 3) := by decide +kernel
theorem d_Automaton_lowestCost_5 : decode b_Automaton_lowestCost 5 = .ok (.istore_n 3, 1) := by decide +kernel
theorem d_Automaton_lowestCost_6 : decode b_Automaton_lowestCost 6 = .ok (.iconst 1, 1) := by decide +kernel
theorem d_Automaton_lowestCost_7 : decode b_Automaton_lowestCost 7 = .ok (.istore 4, 2) := by decide +kernel
theorem d_Automaton_lowestCost_9 : decode b_Automaton_lowestCost 9 = .ok (.iload 4, 2) := by decide +kernel
theorem d_Automaton_lowestCost_11 : decode b_Automaton_lowestCost 11 = .ok (.iload_n 2, 1) := by decide +kernel
theorem d_Automaton_lowestCost_12 : decode b_Automaton_lowestCost 12 = .ok (.if_icmp .ge 22, 3) := by decide +kernel
theorem d_Automaton_lowestCost_15 : decode b_Automaton_lowestCost 15 = .ok (.iload_n 3, 1) := by decide +kernel
theorem d_Automaton_lowestCost_16 : decode b_Automaton_lowestCost 16 = .ok (.aload_n 0, 1) := by decide +kernel
theorem d_Automaton_lowestCost_17 : decode b_Automaton_lowestCost 17 = .ok (.iload_n 1, 1) := by decide +kernel
theorem d_Automaton_lowestCost_18 : decode b_Automaton_lowestCost 18 = .ok (.iload 4, 2) := by decide +kernel
theorem d_Automaton_lowestCost_20 : decode b_Automaton_lowestCost 20 = .ok (.iadd, 1) := by decide +kernel
theorem d_Automaton_lowestCost_21 : decode b_Automaton_lowestCost 21 = .ok (.invokevirtual 74, 3) := by decide +kernel
theorem d_Automaton_lowestCost_24 : decode b_Automaton_lowestCost 24 = .ok (.invokestatic 78, 3) := by decide +kernel
theorem d_Automaton_lowestCost_27 : decode b_Automaton_lowestCost 27 = .ok (.istore_n 3, 1) := by decide +kernel
theorem d_Automaton_lowestCost_28 : decode b_Automaton_lowestCost 28 = .ok (.iinc 4 1, 3) := by decide +kernel
theorem d_Automaton_lowestCost_31 : decode b_Automaton_lowestCost 31 = .ok (.goto (-22), 3) := by decide +kernel
theorem d_Automaton_lowestCost_34 : decode b_Automaton_lowestCost 34 = .ok (.iload_n 3, 1) := by decide +kernel
theorem d_Automaton_lowestCost_35 : decode b_Automaton_lowestCost 35 = .ok (.ireturn, 1) := by decide +kernel
theorem d_Automaton_behaveTheSame_0 : decode b_Automaton_behaveTheSame 0 = .ok (.aload_n 0, 1) := by decide +kernel
theorem d_Automaton_behaveTheSame_1 : decode b_Automaton_behaveTheSame 1 = .ok (.getfield 15, 3) := by decide +kernel
theorem d_Automaton_behaveTheSame_4 : decode b_Automaton_behaveTheSame 4 = .ok (.iload_n 2, 1) := by decide +kernel
theorem d_Automaton_behaveTheSame_5 : decode b_Automaton_behaveTheSame 5 = .ok (.iaload, 1) := by decide +kernel
theorem d_Automaton_behaveTheSame_6 : decode b_Automaton_behaveTheSame 6 = .ok (.aload_n 0, 1) := by decide +kernel
theorem d_Automaton_behaveTheSame_7 : decode b_Automaton_behaveTheSame 7 = .ok (.getfield 15, 3) := by decide +kernel
theorem d_Automaton_behaveTheSame_10 : decode b_Automaton_behaveTheSame 10 = .ok (.iload_n 3, 1) := by decide +kernel
theorem d_Automaton_behaveTheSame_11 : decode b_Automaton_behaveTheSame 11 = .ok (.iaload, 1) := by decide +kernel
theorem d_Automaton_behaveTheSame_12 : decode b_Automaton_behaveTheSame 12 = .ok (.if_icmp .eq 5, 3) := by decide +kernel
theorem d_Automaton_behaveTheSame_15 : decode b_Automaton_behaveTheSame 15 = .ok (.iconst 0, 1) := by decide +kernel
theorem d_Automaton_behaveTheSame_16 : decode b_Automaton_behaveTheSame 16 = .ok (.ireturn, 1) := by decide +kernel
theorem d_Automaton_behaveTheSame_17 : decode b_Automaton_behaveTheSame 17 = .ok (.iconst 0, 1) := by decide +kernel
theorem d_Automaton_behaveTheSame_18 : decode b_Automaton_behaveTheSame 18 = .ok (.istore 4, 2) := by decide +kernel
theorem d_Automaton_behaveTheSame_20 : decode b_Automaton_behaveTheSame 20 = .ok (.iload 4, 2) := by decide +kernel
theorem d_Automaton_behaveTheSame_22 : decode b_Automaton_behaveTheSame 22 = .ok (.aload_n 0, 1) := by decide +kernel
theorem d_Automaton_behaveTheSame_23 : decode b_Automaton_behaveTheSame 23 = .ok (.getfield 15, 3) := by decide +kernel
theorem d_Automaton_behaveTheSame_26 : decode b_Automaton_behaveTheSame 26 = .ok (.iload_n 2, 1) := by decide +kernel
theorem d_Automaton_behaveTheSame_27 : decode b_Automaton_behaveTheSame 27 = .ok (.iaload, 1) := by decide +kernel
theorem d_Automaton_behaveTheSame_28 : decode b_Automaton_behaveTheSame 28 = .ok (.if_icmp .ge 50, 3) := by decide +kernel
theorem d_Automaton_behaveTheSame_31 : decode b_Automaton_behaveTheSame 31 = .ok (.aload_n 0, 1) := by decide +kernel
theorem d_Automaton_behaveTheSame_32 : decode b_Automaton_behaveTheSame 32 = .ok (.aload_n 1, 1) := by decide +kernel
theorem d_Automaton_behaveTheSame_33 : decode b_Automaton_behaveTheSame 33 = .ok (.iload_n 2, 1) := by decide +kernel
theorem d_Automaton_behaveTheSame_34 : decode b_Automaton_behaveTheSame 34 = .ok (.iload 4, 2) := by decide +kernel
theorem d_Automaton_behaveTheSame_36 : decode b_Automaton_behaveTheSame 36 = .ok (.invokevirtual 84, 3) := by decide +kernel
theorem d_Automaton_behaveTheSame_39 : decode b_Automaton_behaveTheSame 39 = .ok (.aload_n 0, 1) := by decide +kernel
theorem d_Automaton_behaveTheSame_40 : decode b_Automaton_behaveTheSame 40 = .ok (.aload_n 1, 1) := by decide +kernel
theorem d_Automaton_behaveTheSame_41 : decode b_Automaton_behaveTheSame 41 = .ok (.iload_n 3, 1) := by decide +kernel
theorem d_Automaton_behaveTheSame_42 : decode b_Automaton_behaveTheSame 42 = .ok (.iload 4, 2) := by decide +kernel
theorem d_Automaton_behaveTheSame_44 : decode b_Automaton_behaveTheSame 44 = .ok (.invokevirtual 84, 3) := by decide +kernel
theorem d_Automaton_behaveTheSame_47 : decode b_Automaton_behaveTheSame 47 = .ok (.lcmp, 1) := by decide +kernel
theorem d_Automaton_behaveTheSame_48 : decode b_Automaton_behaveTheSame 48 = .ok (.ifCond .ne 22, 3) := by decide +kernel
theorem d_Automaton_behaveTheSame_51 : decode b_Automaton_behaveTheSame 51 = .ok (.aload_n 0, 1) := by decide +kernel
theorem d_Automaton_behaveTheSame_52 : decode b_Automaton_behaveTheSame 52 = .ok (.aload_n 1, 1) := by decide +kernel
theorem d_Automaton_behaveTheSame_53 : decode b_Automaton_behaveTheSame 53 = .ok (.iload_n 2, 1) := by decide +kernel
theorem d_Automaton_behaveTheSame_54 : decode b_Automaton_behaveTheSame 54 = .ok (.iload 4, 2) := by decide +kernel
theorem d_Automaton_behaveTheSame_56 : decode b_Automaton_behaveTheSame 56 = .ok (.invokevirtual 88, 3) := by decide +kernel
theorem d_Automaton_behaveTheSame_59 : decode b_Automaton_behaveTheSame 59 = .ok (.aload_n 0, 1) := by decide +kernel
theorem d_Automaton_behaveTheSame_60 : decode b_Automaton_behaveTheSame 60 = .ok (.aload_n 1, 1) := by decide +kernel
theorem d_Automaton_behaveTheSame_61 : decode b_Automaton_behaveTheSame 61 = .ok (.iload_n 3, 1) := by decide +kernel
theorem d_Automaton_behaveTheSame_62 : decode b_Automaton_behaveTheSame 62 = .ok (.iload 4, 2) := by decide +kernel
theorem d_Automaton_behaveTheSame_64 : decode b_Automaton_behaveTheSame 64 = .ok (.invokevirtual 88, 3) := by decide +kernel
theorem d_Automaton_behaveTheSame_67 : decode b_Automaton_behaveTheSame 67 = .ok (.if_icmp .eq 5, 3) := by decide +kernel
theorem d_Automaton_behaveTheSame_70 : decode b_Automaton_behaveTheSame 70 = .ok (.iconst 0, 1) := by decide +kernel
theorem d_Automaton_behaveTheSame_71 : decode b_Automaton_behaveTheSame 71 = .ok (.ireturn, 1) := by decide +kernel
theorem d_Automaton_behaveTheSame_72 : decode b_Automaton_behaveTheSame 72 = .ok (.iinc 4 1, 3) := by decide +kernel
theorem d_Automaton_behaveTheSame_75 : decode b_Automaton_behaveTheSame 75 = .ok (.goto (-55), 3) := by decide +kernel
theorem d_Automaton_behaveTheSame_78 : decode b_Automaton_behaveTheSame 78 = .ok (.iconst 1, 1) := by decide +kernel
theorem d_Automaton_behaveTheSame_79 : decode b_Automaton_behaveTheSame 79 = .ok (.ireturn, 1) := by decide +kernel
theorem d_Automaton_countArcs_0 : decode b_Automaton_countArcs 0 = .ok (.iconst 0, 1) := by decide +kernel
theorem d_Automaton_countArcs_1 : decode b_Automaton_countArcs 1 = .ok (.istore_n 3, 1) := by decide +kernel
theorem d_Automaton_countArcs_2 : decode b_Automaton_countArcs 2 = .ok (.iconst 0, 1) := by decide +kernel
theorem d_Automaton_countArcs_3 : decode b_Automaton_countArcs 3 = .ok (.istore 4, 2) := by decide +kernel
theorem d_Automaton_countArcs_5 : decode b_Automaton_countArcs 5 = .ok (.iconst 0, 1) := by decide +kernel
theorem d_Automaton_countArcs_6 : decode b_Automaton_countArcs 6 = .ok (.istore 5, 2) := by decide +kernel
theorem d_Automaton_countArcs_8 : decode b_Automaton_countArcs 8 = .ok (.iload 5, 2) := by decide +kernel
theorem d_Automaton_countArcs_10 : decode b_Automaton_countArcs 10 = .ok (.aload_n 0, 1) := by decide +kernel
theorem d_Automaton_countArcs_11 : decode b_Automaton_countArcs 11 = .ok (.getfield 15, 3) := by decide +kernel
theorem d_Automaton_countArcs_14 : decode b_Automaton_countArcs 14 = .ok (.iload_n 2, 1) := by decide +kernel
theorem d_Automaton_countArcs_15 : decode b_Automaton_countArcs 15 = .ok (.iaload, 1) := by decide +kernel
theorem d_Automaton_countArcs_16 : decode b_Automaton_countArcs 16 = .ok (.if_icmp .ge 37, 3) := by decide +kernel
theorem d_Automaton_countArcs_19 : decode b_Automaton_countArcs 19 = .ok (.aload_n 0, 1) := by decide +kernel
theorem d_Automaton_countArcs_20 : decode b_Automaton_countArcs 20 = .ok (.aload_n 1, 1) := by decide +kernel
theorem d_Automaton_countArcs_21 : decode b_Automaton_countArcs 21 = .ok (.iload_n 2, 1) := by decide +kernel
theorem d_Automaton_countArcs_22 : decode b_Automaton_countArcs 22 = .ok (.iload 5, 2) := by decide +kernel
theorem d_Automaton_countArcs_24 : decode b_Automaton_countArcs 24 = .ok (.invokevirtual 84, 3) := by decide +kernel
theorem d_Automaton_countArcs_27 : decode b_Automaton_countArcs 27 = .ok (.iconst 0, 1) := by decide +kernel
theorem d_Automaton_countArcs_28 : decode b_Automaton_countArcs 28 = .ok (.invokestatic 91, 3) := by decide +kernel
theorem d_Automaton_countArcs_31 : decode b_Automaton_countArcs 31 = .ok (.istore 6, 2) := by decide +kernel
theorem d_Automaton_countArcs_33 : decode b_Automaton_countArcs 33 = .ok (.iload 6, 2) := by decide +kernel
theorem d_Automaton_countArcs_35 : decode b_Automaton_countArcs 35 = .ok (.iload 4, 2) := by decide +kernel
theorem d_Automaton_countArcs_37 : decode b_Automaton_countArcs 37 = .ok (.if_icmp .eq 10, 3) := by decide +kernel
theorem d_Automaton_countArcs_40 : decode b_Automaton_countArcs 40 = .ok (.iinc 3 1, 3) := by decide +kernel
theorem d_Automaton_countArcs_43 : decode b_Automaton_countArcs 43 = .ok (.iload 6, 2) := by decide +kernel
theorem d_Automaton_countArcs_45 : decode b_Automaton_countArcs 45 = .ok (.istore 4, 2) := by decide +kernel
theorem d_Automaton_countArcs_47 : decode b_Automaton_countArcs 47 = .ok (.iinc 5 1, 3) := by decide +kernel
theorem d_Automaton_countArcs_50 : decode b_Automaton_countArcs 50 = .ok (.goto (-42), 3) := by decide +kernel
theorem d_Automaton_countArcs_53 : decode b_Automaton_countArcs 53 = .ok (.iload_n 3, 1) := by decide +kernel
theorem d_Automaton_countArcs_54 : decode b_Automaton_countArcs 54 = .ok (.ireturn, 1) := by decide +kernel
theorem d_Automaton_endingAt_0 : decode b_Automaton_endingAt 0 = .ok (.aload_n 1, 1) := by decide +kernel
theorem d_Automaton_endingAt_1 : decode b_Automaton_endingAt 1 = .ok (.aload_n 0, 1) := by decide +kernel
theorem d_Automaton_endingAt_2 : decode b_Automaton_endingAt 2 = .ok (.getfield 11, 3) := by decide +kernel
theorem d_Automaton_endingAt_5 : decode b_Automaton_endingAt 5 = .ok (.iload_n 2, 1) := by decide +kernel
theorem d_Automaton_endingAt_6 : decode b_Automaton_endingAt 6 = .ok (.iaload, 1) := by decide +kernel
theorem d_Automaton_endingAt_7 : decode b_Automaton_endingAt 7 = .ok (.iload_n 3, 1) := by decide +kernel
theorem d_Automaton_endingAt_8 : decode b_Automaton_endingAt 8 = .ok (.iadd, 1) := by decide +kernel
theorem d_Automaton_endingAt_9 : decode b_Automaton_endingAt 9 = .ok (.invokevirtual 37, 3) := by decide +kernel
theorem d_Automaton_endingAt_12 : decode b_Automaton_endingAt 12 = .ok (.aload_n 0, 1) := by decide +kernel
theorem d_Automaton_endingAt_13 : decode b_Automaton_endingAt 13 = .ok (.getfield 18, 3) := by decide +kernel
theorem d_Automaton_endingAt_16 : decode b_Automaton_endingAt 16 = .ok (.iload_n 2, 1) := by decide +kernel
theorem d_Automaton_endingAt_17 : decode b_Automaton_endingAt 17 = .ok (.iaload, 1) := by decide +kernel
theorem d_Automaton_endingAt_18 : decode b_Automaton_endingAt 18 = .ok (.invokestatic 95, 3) := by decide +kernel
theorem d_Automaton_endingAt_21 : decode b_Automaton_endingAt 21 = .ok (.lreturn, 1) := by decide +kernel
theorem d_Automaton_costAbove_0 : decode b_Automaton_costAbove 0 = .ok (.aload_n 1, 1) := by decide +kernel
theorem d_Automaton_costAbove_1 : decode b_Automaton_costAbove 1 = .ok (.aload_n 0, 1) := by decide +kernel
theorem d_Automaton_costAbove_2 : decode b_Automaton_costAbove 2 = .ok (.getfield 11, 3) := by decide +kernel
theorem d_Automaton_costAbove_5 : decode b_Automaton_costAbove 5 = .ok (.iload_n 2, 1) := by decide +kernel
theorem d_Automaton_costAbove_6 : decode b_Automaton_costAbove 6 = .ok (.iaload, 1) := by decide +kernel
theorem d_Automaton_costAbove_7 : decode b_Automaton_costAbove 7 = .ok (.iload_n 3, 1) := by decide +kernel
theorem d_Automaton_costAbove_8 : decode b_Automaton_costAbove 8 = .ok (.iadd, 1) := by decide +kernel
theorem d_Automaton_costAbove_9 : decode b_Automaton_costAbove 9 = .ok (.invokevirtual 74, 3) := by decide +kernel
theorem d_Automaton_costAbove_12 : decode b_Automaton_costAbove 12 = .ok (.aload_n 0, 1) := by decide +kernel
theorem d_Automaton_costAbove_13 : decode b_Automaton_costAbove 13 = .ok (.getfield 21, 3) := by decide +kernel
theorem d_Automaton_costAbove_16 : decode b_Automaton_costAbove 16 = .ok (.iload_n 2, 1) := by decide +kernel
theorem d_Automaton_costAbove_17 : decode b_Automaton_costAbove 17 = .ok (.iaload, 1) := by decide +kernel
theorem d_Automaton_costAbove_18 : decode b_Automaton_costAbove 18 = .ok (.isub, 1) := by decide +kernel
theorem d_Automaton_costAbove_19 : decode b_Automaton_costAbove 19 = .ok (.ireturn, 1) := by decide +kernel
theorem d_S_init_0 : decode b_S_init 0 = .ok (.aload_n 0, 1) := by decide +kernel
theorem d_S_init_1 : decode b_S_init 1 = .ok (.invokespecial 1, 3) := by decide +kernel
theorem d_S_init_4 : decode b_S_init 4 = .ok (.aload_n 0, 1) := by decide +kernel
theorem d_S_init_5 : decode b_S_init 5 = .ok (.new 7, 3) := by decide +kernel
theorem d_S_init_8 : decode b_S_init 8 = .ok (.dup, 1) := by decide +kernel
theorem d_S_init_9 : decode b_S_init 9 = .ok (.invokespecial 9, 3) := by decide +kernel
theorem d_S_init_12 : decode b_S_init 12 = .ok (.putfield 10, 3) := by decide +kernel
theorem d_S_init_15 : decode b_S_init 15 = .ok (.aload_n 0, 1) := by decide +kernel
theorem d_S_init_16 : decode b_S_init 16 = .ok (.iconst 3, 1) := by decide +kernel
theorem d_S_init_17 : decode b_S_init 17 = .ok (.anewarray 16, 3) := by decide +kernel
theorem d_S_init_20 : decode b_S_init 20 = .ok (.putfield 18, 3) := by decide +kernel
theorem d_S_init_23 : decode b_S_init 23 = .ok (.iconst 0, 1) := by decide +kernel
theorem d_S_init_24 : decode b_S_init 24 = .ok (.istore_n 1, 1) := by decide +kernel
theorem d_S_init_25 : decode b_S_init 25 = .ok (.iload_n 1, 1) := by decide +kernel
theorem d_S_init_26 : decode b_S_init 26 = .ok (.iconst 3, 1) := by decide +kernel
theorem d_S_init_27 : decode b_S_init 27 = .ok (.if_icmp .ge 22, 3) := by decide +kernel
theorem d_S_init_30 : decode b_S_init 30 = .ok (.aload_n 0, 1) := by decide +kernel
theorem d_S_init_31 : decode b_S_init 31 = .ok (.getfield 18, 3) := by decide +kernel
theorem d_S_init_34 : decode b_S_init 34 = .ok (.iload_n 1, 1) := by decide +kernel
theorem d_S_init_35 : decode b_S_init 35 = .ok (.new 16, 3) := by decide +kernel
theorem d_S_init_38 : decode b_S_init 38 = .ok (.dup, 1) := by decide +kernel
theorem d_S_init_39 : decode b_S_init 39 = .ok (.invokespecial 22, 3) := by decide +kernel
theorem d_S_init_42 : decode b_S_init 42 = .ok (.aastore, 1) := by decide +kernel
theorem d_S_init_43 : decode b_S_init 43 = .ok (.iinc 1 1, 3) := by decide +kernel
theorem d_S_init_46 : decode b_S_init 46 = .ok (.goto (-21), 3) := by decide +kernel
theorem d_S_init_49 : decode b_S_init 49 = .ok (.aload_n 0, 1) := by decide +kernel
theorem d_S_init_50 : decode b_S_init 50 = .ok (.new 23, 3) := by decide +kernel
theorem d_S_init_53 : decode b_S_init 53 = .ok (.dup, 1) := by decide +kernel
theorem d_S_init_54 : decode b_S_init 54 = .ok (.invokespecial 25, 3) := by decide +kernel
theorem d_S_init_57 : decode b_S_init 57 = .ok (.putfield 26, 3) := by decide +kernel
theorem d_S_init_60 : decode b_S_init 60 = .ok (.aload_n 0, 1) := by decide +kernel
theorem d_S_init_61 : decode b_S_init 61 = .ok (.new 30, 3) := by decide +kernel
theorem d_S_init_64 : decode b_S_init 64 = .ok (.dup, 1) := by decide +kernel
theorem d_S_init_65 : decode b_S_init 65 = .ok (.invokespecial 32, 3) := by decide +kernel
theorem d_S_init_68 : decode b_S_init 68 = .ok (.putfield 33, 3) := by decide +kernel
theorem d_S_init_71 : decode b_S_init 71 = .ok (.aload_n 0, 1) := by decide +kernel
theorem d_S_init_72 : decode b_S_init 72 = .ok (.new 37, 3) := by decide +kernel
theorem d_S_init_75 : decode b_S_init 75 = .ok (.dup, 1) := by decide +kernel
theorem d_S_init_76 : decode b_S_init 76 = .ok (.invokespecial 39, 3) := by decide +kernel
theorem d_S_init_79 : decode b_S_init 79 = .ok (.putfield 40, 3) := by decide +kernel
theorem d_S_init_82 : decode b_S_init 82 = .ok (.aload_n 0, 1) := by decide +kernel
theorem d_S_init_83 : decode b_S_init 83 = .ok (.new 44, 3) := by decide +kernel
theorem d_S_init_86 : decode b_S_init 86 = .ok (.dup, 1) := by decide +kernel
theorem d_S_init_87 : decode b_S_init 87 = .ok (.invokespecial 46, 3) := by decide +kernel
theorem d_S_init_90 : decode b_S_init 90 = .ok (.putfield 47, 3) := by decide +kernel
theorem d_S_init_93 : decode b_S_init 93 = .ok (.aload_n 0, 1) := by decide +kernel
theorem d_S_init_94 : decode b_S_init 94 = .ok (.new 51, 3) := by decide +kernel
theorem d_S_init_97 : decode b_S_init 97 = .ok (.dup, 1) := by decide +kernel
theorem d_S_init_98 : decode b_S_init 98 = .ok (.invokespecial 53, 3) := by decide +kernel
theorem d_S_init_101 : decode b_S_init 101 = .ok (.putfield 54, 3) := by decide +kernel
theorem d_S_init_104 : decode b_S_init 104 = .ok (.aload_n 0, 1) := by decide +kernel
theorem d_S_init_105 : decode b_S_init 105 = .ok (.iconst 0, 1) := by decide +kernel
theorem d_S_init_106 : decode b_S_init 106 = .ok (.putfield 58, 3) := by decide +kernel
theorem d_S_init_109 : decode b_S_init 109 = .ok (.return_, 1) := by decide +kernel
theorem d_S_word_0 : decode b_S_word 0 = .ok (.lload_n 1, 1) := by decide +kernel
theorem d_S_word_1 : decode b_S_word 1 = .ok (.invokestatic 62, 3) := by decide +kernel
theorem d_S_word_4 : decode b_S_word 4 = .ok (.ifCond .ne 13, 3) := by decide +kernel
theorem d_S_word_7 : decode b_S_word 7 = .ok (.new 68, 3) := by decide +kernel
theorem d_S_word_10 : decode b_S_word 10 = .ok (.dup, 1) := by decide +kernel
theorem d_S_word_11 : decode b_S_word 11 = .ok (.ldc 70, 2) := by decide +kernel
theorem d_S_word_13 : decode b_S_word 13 = .ok (.invokespecial 72, 3) := by decide +kernel
theorem d_S_word_16 : decode b_S_word 16 = .ok (.athrow, 1) := by decide +kernel
theorem d_S_word_17 : decode b_S_word 17 = .ok (.iload_n 3, 1) := by decide +kernel
theorem d_S_word_18 : decode b_S_word 18 = .ok (.ifCond .lt 10, 3) := by decide +kernel
theorem d_S_word_21 : decode b_S_word 21 = .ok (.iload_n 3, 1) := by decide +kernel
theorem d_S_word_22 : decode b_S_word 22 = .ok (.sipush 9999, 3) := by decide +kernel
theorem d_S_word_25 : decode b_S_word 25 = .ok (.if_icmp .le 13, 3) := by decide +kernel
theorem d_S_word_28 : decode b_S_word 28 = .ok (.new 68, 3) := by decide +kernel
theorem d_S_word_31 : decode b_S_word 31 = .ok (.dup, 1) := by decide +kernel
theorem d_S_word_32 : decode b_S_word 32 = .ok (.ldc 75, 2) := by decide +kernel
theorem d_S_word_34 : decode b_S_word 34 = .ok (.invokespecial 72, 3) := by decide +kernel
theorem d_S_word_37 : decode b_S_word 37 = .ok (.athrow, 1) := by decide +kernel
theorem d_S_word_38 : decode b_S_word 38 = .ok (.aload_n 0, 1) := by decide +kernel
theorem d_S_word_39 : decode b_S_word 39 = .ok (.getfield 10, 3) := by decide +kernel
theorem d_S_word_42 : decode b_S_word 42 = .ok (.lload_n 1, 1) := by decide +kernel
theorem d_S_word_43 : decode b_S_word 43 = .ok (.invokestatic 77, 3) := by decide +kernel
theorem d_S_word_46 : decode b_S_word 46 = .ok (.sipush 9999, 3) := by decide +kernel
theorem d_S_word_49 : decode b_S_word 49 = .ok (.iload_n 3, 1) := by decide +kernel
theorem d_S_word_50 : decode b_S_word 50 = .ok (.isub, 1) := by decide +kernel
theorem d_S_word_51 : decode b_S_word 51 = .ok (.invokevirtual 81, 3) := by decide +kernel
theorem d_S_word_54 : decode b_S_word 54 = .ok (.ifCond .ne 13, 3) := by decide +kernel
theorem d_S_word_57 : decode b_S_word 57 = .ok (.new 85, 3) := by decide +kernel
theorem d_S_word_60 : decode b_S_word 60 = .ok (.dup, 1) := by decide +kernel
theorem d_S_word_61 : decode b_S_word 61 = .ok (.ldc 87, 2) := by decide +kernel
theorem d_S_word_63 : decode b_S_word 63 = .ok (.invokespecial 89, 3) := by decide +kernel
theorem d_S_word_66 : decode b_S_word 66 = .ok (.athrow, 1) := by decide +kernel
theorem d_S_word_67 : decode b_S_word 67 = .ok (.aload_n 0, 1) := by decide +kernel
theorem d_S_word_68 : decode b_S_word 68 = .ok (.getfield 10, 3) := by decide +kernel
theorem d_S_word_71 : decode b_S_word 71 = .ok (.invokevirtual 90, 3) := by decide +kernel
theorem d_S_word_74 : decode b_S_word 74 = .ok (.ireturn, 1) := by decide +kernel
theorem d_S_drop_0 : decode b_S_drop 0 = .ok (.lload_n 1, 1) := by decide +kernel
theorem d_S_drop_1 : decode b_S_drop 1 = .ok (.invokestatic 62, 3) := by decide +kernel
theorem d_S_drop_4 : decode b_S_drop 4 = .ok (.ifCond .eq 21, 3) := by decide +kernel
theorem d_S_drop_7 : decode b_S_drop 7 = .ok (.aload_n 0, 1) := by decide +kernel
theorem d_S_drop_8 : decode b_S_drop 8 = .ok (.getfield 10, 3) := by decide +kernel
theorem d_S_drop_11 : decode b_S_drop 11 = .ok (.lload_n 1, 1) := by decide +kernel
theorem d_S_drop_12 : decode b_S_drop 12 = .ok (.invokestatic 77, 3) := by decide +kernel
theorem d_S_drop_15 : decode b_S_drop 15 = .ok (.invokevirtual 94, 3) := by decide +kernel
theorem d_S_drop_18 : decode b_S_drop 18 = .ok (.ifCond .eq 7, 3) := by decide +kernel
theorem d_S_drop_21 : decode b_S_drop 21 = .ok (.iconst 1, 1) := by decide +kernel
theorem d_S_drop_22 : decode b_S_drop 22 = .ok (.goto 4, 3) := by decide +kernel
theorem d_S_drop_25 : decode b_S_drop 25 = .ok (.iconst 0, 1) := by decide +kernel
theorem d_S_drop_26 : decode b_S_drop 26 = .ok (.ireturn, 1) := by decide +kernel
theorem d_S_build_0 : decode b_S_build 0 = .ok (.aload_n 0, 1) := by decide +kernel
theorem d_S_build_1 : decode b_S_build 1 = .ok (.getfield 10, 3) := by decide +kernel
theorem d_S_build_4 : decode b_S_build 4 = .ok (.invokevirtual 90, 3) := by decide +kernel
theorem d_S_build_7 : decode b_S_build 7 = .ok (.ifCond .ne 13, 3) := by decide +kernel
theorem d_S_build_10 : decode b_S_build 10 = .ok (.new 85, 3) := by decide +kernel
theorem d_S_build_13 : decode b_S_build 13 = .ok (.dup, 1) := by decide +kernel
theorem d_S_build_14 : decode b_S_build 14 = .ok (.ldc 97, 2) := by decide +kernel
theorem d_S_build_16 : decode b_S_build 16 = .ok (.invokespecial 89, 3) := by decide +kernel
theorem d_S_build_19 : decode b_S_build 19 = .ok (.athrow, 1) := by decide +kernel
theorem d_S_build_20 : decode b_S_build 20 = .ok (.aload_n 0, 1) := by decide +kernel
theorem d_S_build_21 : decode b_S_build 21 = .ok (.invokevirtual 99, 3) := by decide +kernel
theorem d_S_build_24 : decode b_S_build 24 = .ok (.astore_n 1, 1) := by decide +kernel
theorem d_S_build_25 : decode b_S_build 25 = .ok (.aload_n 1, 1) := by decide +kernel
theorem d_S_build_26 : decode b_S_build 26 = .ok (.ifnonnull 13, 3) := by decide +kernel
theorem d_S_build_29 : decode b_S_build 29 = .ok (.new 85, 3) := by decide +kernel
theorem d_S_build_32 : decode b_S_build 32 = .ok (.dup, 1) := by decide +kernel
theorem d_S_build_33 : decode b_S_build 33 = .ok (.ldc 103, 2) := by decide +kernel
theorem d_S_build_35 : decode b_S_build 35 = .ok (.invokespecial 89, 3) := by decide +kernel
theorem d_S_build_38 : decode b_S_build 38 = .ok (.athrow, 1) := by decide +kernel
theorem d_S_build_39 : decode b_S_build 39 = .ok (.aload_n 0, 1) := by decide +kernel
theorem d_S_build_40 : decode b_S_build 40 = .ok (.dup, 1) := by decide +kernel
theorem d_S_build_41 : decode b_S_build 41 = .ok (.getfield 58, 3) := by decide +kernel
theorem d_S_build_44 : decode b_S_build 44 = .ok (.iconst 1, 1) := by decide +kernel
theorem d_S_build_45 : decode b_S_build 45 = .ok (.iadd, 1) := by decide +kernel
theorem d_S_build_46 : decode b_S_build 46 = .ok (.putfield 58, 3) := by decide +kernel
theorem d_S_build_49 : decode b_S_build 49 = .ok (.aload_n 0, 1) := by decide +kernel
theorem d_S_build_50 : decode b_S_build 50 = .ok (.getfield 26, 3) := by decide +kernel
theorem d_S_build_53 : decode b_S_build 53 = .ok (.aload_n 0, 1) := by decide +kernel
theorem d_S_build_54 : decode b_S_build 54 = .ok (.getfield 10, 3) := by decide +kernel
theorem d_S_build_57 : decode b_S_build 57 = .ok (.invokevirtual 105, 3) := by decide +kernel
theorem d_S_build_60 : decode b_S_build 60 = .ok (.aload_n 1, 1) := by decide +kernel
theorem d_S_build_61 : decode b_S_build 61 = .ok (.aload_n 0, 1) := by decide +kernel
theorem d_S_build_62 : decode b_S_build 62 = .ok (.getfield 58, 3) := by decide +kernel
theorem d_S_build_65 : decode b_S_build 65 = .ok (.aload_n 0, 1) := by decide +kernel
theorem d_S_build_66 : decode b_S_build 66 = .ok (.getfield 10, 3) := by decide +kernel
theorem d_S_build_69 : decode b_S_build 69 = .ok (.aload_n 0, 1) := by decide +kernel
theorem d_S_build_70 : decode b_S_build 70 = .ok (.getfield 26, 3) := by decide +kernel
theorem d_S_build_73 : decode b_S_build 73 = .ok (.invokevirtual 109, 3) := by decide +kernel
theorem d_S_build_76 : decode b_S_build 76 = .ok (.aload_n 0, 1) := by decide +kernel
theorem d_S_build_77 : decode b_S_build 77 = .ok (.getfield 26, 3) := by decide +kernel
theorem d_S_build_80 : decode b_S_build 80 = .ok (.invokevirtual 112, 3) := by decide +kernel
theorem d_S_build_83 : decode b_S_build 83 = .ok (.invokevirtual 115, 3) := by decide +kernel
theorem d_S_build_86 : decode b_S_build 86 = .ok (.aload_n 0, 1) := by decide +kernel
theorem d_S_build_87 : decode b_S_build 87 = .ok (.getfield 58, 3) := by decide +kernel
theorem d_S_build_90 : decode b_S_build 90 = .ok (.ireturn, 1) := by decide +kernel
theorem d_S_hold_0 : decode b_S_hold 0 = .ok (.aload_n 0, 1) := by decide +kernel
theorem d_S_hold_1 : decode b_S_hold 1 = .ok (.aload_n 0, 1) := by decide +kernel
theorem d_S_hold_2 : decode b_S_hold 2 = .ok (.getfield 58, 3) := by decide +kernel
theorem d_S_hold_5 : decode b_S_hold 5 = .ok (.invokevirtual 119, 3) := by decide +kernel
theorem d_S_hold_8 : decode b_S_hold 8 = .ok (.astore_n 1, 1) := by decide +kernel
theorem d_S_hold_9 : decode b_S_hold 9 = .ok (.aload_n 1, 1) := by decide +kernel
theorem d_S_hold_10 : decode b_S_hold 10 = .ok (.ifnonnull 13, 3) := by decide +kernel
theorem d_S_hold_13 : decode b_S_hold 13 = .ok (.new 85, 3) := by decide +kernel
theorem d_S_hold_16 : decode b_S_hold 16 = .ok (.dup, 1) := by decide +kernel
theorem d_S_hold_17 : decode b_S_hold 17 = .ok (.ldc 123, 2) := by decide +kernel
theorem d_S_hold_19 : decode b_S_hold 19 = .ok (.invokespecial 89, 3) := by decide +kernel
theorem d_S_hold_22 : decode b_S_hold 22 = .ok (.athrow, 1) := by decide +kernel
theorem d_S_hold_23 : decode b_S_hold 23 = .ok (.aload_n 1, 1) := by decide +kernel
theorem d_S_hold_24 : decode b_S_hold 24 = .ok (.invokevirtual 125, 3) := by decide +kernel
theorem d_S_hold_27 : decode b_S_hold 27 = .ok (.bipush 9, 2) := by decide +kernel
theorem d_S_hold_29 : decode b_S_hold 29 = .ok (.if_icmp .lt 13, 3) := by decide +kernel
theorem d_S_hold_32 : decode b_S_hold 32 = .ok (.new 85, 3) := by decide +kernel
theorem d_S_hold_35 : decode b_S_hold 35 = .ok (.dup, 1) := by decide +kernel
theorem d_S_hold_36 : decode b_S_hold 36 = .ok (.ldc 128, 2) := by decide +kernel
theorem d_S_hold_38 : decode b_S_hold 38 = .ok (.invokespecial 89, 3) := by decide +kernel
theorem d_S_hold_41 : decode b_S_hold 41 = .ok (.athrow, 1) := by decide +kernel
theorem d_S_hold_42 : decode b_S_hold 42 = .ok (.aload_n 1, 1) := by decide +kernel
theorem d_S_hold_43 : decode b_S_hold 43 = .ok (.invokevirtual 130, 3) := by decide +kernel
theorem d_S_hold_46 : decode b_S_hold 46 = .ok (.aload_n 0, 1) := by decide +kernel
theorem d_S_hold_47 : decode b_S_hold 47 = .ok (.getfield 58, 3) := by decide +kernel
theorem d_S_hold_50 : decode b_S_hold 50 = .ok (.ireturn, 1) := by decide +kernel
theorem d_S_release_0 : decode b_S_release 0 = .ok (.aload_n 0, 1) := by decide +kernel
theorem d_S_release_1 : decode b_S_release 1 = .ok (.iload_n 1, 1) := by decide +kernel
theorem d_S_release_2 : decode b_S_release 2 = .ok (.invokevirtual 119, 3) := by decide +kernel
theorem d_S_release_5 : decode b_S_release 5 = .ok (.astore_n 2, 1) := by decide +kernel
theorem d_S_release_6 : decode b_S_release 6 = .ok (.aload_n 2, 1) := by decide +kernel
theorem d_S_release_7 : decode b_S_release 7 = .ok (.ifnull 10, 3) := by decide +kernel
theorem d_S_release_10 : decode b_S_release 10 = .ok (.aload_n 2, 1) := by decide +kernel
theorem d_S_release_11 : decode b_S_release 11 = .ok (.invokevirtual 125, 3) := by decide +kernel
theorem d_S_release_14 : decode b_S_release 14 = .ok (.ifCond .ne 13, 3) := by decide +kernel
theorem d_S_release_17 : decode b_S_release 17 = .ok (.new 68, 3) := by decide +kernel
theorem d_S_release_20 : decode b_S_release 20 = .ok (.dup, 1) := by decide +kernel
theorem d_S_release_21 : decode b_S_release 21 = .ok (.ldc 133, 2) := by decide +kernel
theorem d_S_release_23 : decode b_S_release 23 = .ok (.invokespecial 72, 3) := by decide +kernel
theorem d_S_release_26 : decode b_S_release 26 = .ok (.athrow, 1) := by decide +kernel
theorem d_S_release_27 : decode b_S_release 27 = .ok (.aload_n 2, 1) := by decide +kernel
theorem d_S_release_28 : decode b_S_release 28 = .ok (.invokevirtual 135, 3) := by decide +kernel
theorem d_S_release_31 : decode b_S_release 31 = .ok (.aload_n 2, 1) := by decide +kernel
theorem d_S_release_32 : decode b_S_release 32 = .ok (.invokevirtual 125, 3) := by decide +kernel
theorem d_S_release_35 : decode b_S_release 35 = .ok (.ifCond .ne 15, 3) := by decide +kernel
theorem d_S_release_38 : decode b_S_release 38 = .ok (.iload_n 1, 1) := by decide +kernel
theorem d_S_release_39 : decode b_S_release 39 = .ok (.aload_n 0, 1) := by decide +kernel
theorem d_S_release_40 : decode b_S_release 40 = .ok (.getfield 58, 3) := by decide +kernel
theorem d_S_release_43 : decode b_S_release 43 = .ok (.if_icmp .eq 7, 3) := by decide +kernel
theorem d_S_release_46 : decode b_S_release 46 = .ok (.aload_n 2, 1) := by decide +kernel
theorem d_S_release_47 : decode b_S_release 47 = .ok (.invokevirtual 138, 3) := by decide +kernel
theorem d_S_release_50 : decode b_S_release 50 = .ok (.aload_n 2, 1) := by decide +kernel
theorem d_S_release_51 : decode b_S_release 51 = .ok (.invokevirtual 141, 3) := by decide +kernel
theorem d_S_release_54 : decode b_S_release 54 = .ok (.ireturn, 1) := by decide +kernel
theorem d_S_look_0 : decode b_S_look 0 = .ok (.aload_n 0, 1) := by decide +kernel
theorem d_S_look_1 : decode b_S_look 1 = .ok (.iload_n 1, 1) := by decide +kernel
theorem d_S_look_2 : decode b_S_look 2 = .ok (.invokevirtual 119, 3) := by decide +kernel
theorem d_S_look_5 : decode b_S_look 5 = .ok (.astore_n 3, 1) := by decide +kernel
theorem d_S_look_6 : decode b_S_look 6 = .ok (.aload_n 3, 1) := by decide +kernel
theorem d_S_look_7 : decode b_S_look 7 = .ok (.ifnonnull 13, 3) := by decide +kernel
theorem d_S_look_10 : decode b_S_look 10 = .ok (.new 145, 3) := by decide +kernel
theorem d_S_look_13 : decode b_S_look 13 = .ok (.dup, 1) := by decide +kernel
theorem d_S_look_14 : decode b_S_look 14 = .ok (.ldc 147, 2) := by decide +kernel
theorem d_S_look_16 : decode b_S_look 16 = .ok (.invokespecial 149, 3) := by decide +kernel
theorem d_S_look_19 : decode b_S_look 19 = .ok (.athrow, 1) := by decide +kernel
theorem d_S_look_20 : decode b_S_look 20 = .ok (.iload_n 2, 1) := by decide +kernel
theorem d_S_look_21 : decode b_S_look 21 = .ok (.tableswitch 54 0 3 #[31, 39, 44, 49], 31) := by decide +kernel
theorem d_S_look_52 : decode b_S_look 52 = .ok (.aload_n 3, 1) := by decide +kernel
theorem d_S_look_53 : decode b_S_look 53 = .ok (.invokevirtual 150, 3) := by decide +kernel
theorem d_S_look_56 : decode b_S_look 56 = .ok (.invokevirtual 90, 3) := by decide +kernel
theorem d_S_look_59 : decode b_S_look 59 = .ok (.ireturn, 1) := by decide +kernel
theorem d_S_look_60 : decode b_S_look 60 = .ok (.aload_n 3, 1) := by decide +kernel
theorem d_S_look_61 : decode b_S_look 61 = .ok (.invokevirtual 154, 3) := by decide +kernel
theorem d_S_look_64 : decode b_S_look 64 = .ok (.ireturn, 1) := by decide +kernel
theorem d_S_look_65 : decode b_S_look 65 = .ok (.aload_n 3, 1) := by decide +kernel
theorem d_S_look_66 : decode b_S_look 66 = .ok (.invokevirtual 155, 3) := by decide +kernel
theorem d_S_look_69 : decode b_S_look 69 = .ok (.ireturn, 1) := by decide +kernel
theorem d_S_look_70 : decode b_S_look 70 = .ok (.aload_n 3, 1) := by decide +kernel
theorem d_S_look_71 : decode b_S_look 71 = .ok (.invokevirtual 125, 3) := by decide +kernel
theorem d_S_look_74 : decode b_S_look 74 = .ok (.ireturn, 1) := by decide +kernel
theorem d_S_look_75 : decode b_S_look 75 = .ok (.new 68, 3) := by decide +kernel
theorem d_S_look_78 : decode b_S_look 78 = .ok (.dup, 1) := by decide +kernel
theorem d_S_look_79 : decode b_S_look 79 = .ok (.ldc 156, 2) := by decide +kernel
theorem d_S_look_81 : decode b_S_look 81 = .ok (.invokespecial 72, 3) := by decide +kernel
theorem d_S_look_84 : decode b_S_look 84 = .ok (.athrow, 1) := by decide +kernel
theorem d_S_cost_0 : decode b_S_cost 0 = .ok (.aload_n 0, 1) := by decide +kernel
theorem d_S_cost_1 : decode b_S_cost 1 = .ok (.iload_n 1, 1) := by decide +kernel
theorem d_S_cost_2 : decode b_S_cost 2 = .ok (.invokevirtual 119, 3) := by decide +kernel
theorem d_S_cost_5 : decode b_S_cost 5 = .ok (.astore 4, 2) := by decide +kernel
theorem d_S_cost_7 : decode b_S_cost 7 = .ok (.aload 4, 2) := by decide +kernel
theorem d_S_cost_9 : decode b_S_cost 9 = .ok (.ifnonnull 13, 3) := by decide +kernel
theorem d_S_cost_12 : decode b_S_cost 12 = .ok (.new 145, 3) := by decide +kernel
theorem d_S_cost_15 : decode b_S_cost 15 = .ok (.dup, 1) := by decide +kernel
theorem d_S_cost_16 : decode b_S_cost 16 = .ok (.ldc 147, 2) := by decide +kernel
theorem d_S_cost_18 : decode b_S_cost 18 = .ok (.invokespecial 149, 3) := by decide +kernel
theorem d_S_cost_21 : decode b_S_cost 21 = .ok (.athrow, 1) := by decide +kernel
theorem d_S_cost_22 : decode b_S_cost 22 = .ok (.lload_n 2, 1) := by decide +kernel
theorem d_S_cost_23 : decode b_S_cost 23 = .ok (.invokestatic 62, 3) := by decide +kernel
theorem d_S_cost_26 : decode b_S_cost 26 = .ok (.ifCond .eq 18, 3) := by decide +kernel
theorem d_S_cost_29 : decode b_S_cost 29 = .ok (.aload 4, 2) := by decide +kernel
theorem d_S_cost_31 : decode b_S_cost 31 = .ok (.invokevirtual 150, 3) := by decide +kernel
theorem d_S_cost_34 : decode b_S_cost 34 = .ok (.lload_n 2, 1) := by decide +kernel
theorem d_S_cost_35 : decode b_S_cost 35 = .ok (.invokestatic 77, 3) := by decide +kernel
theorem d_S_cost_38 : decode b_S_cost 38 = .ok (.invokevirtual 158, 3) := by decide +kernel
theorem d_S_cost_41 : decode b_S_cost 41 = .ok (.goto 4, 3) := by decide +kernel
theorem d_S_cost_44 : decode b_S_cost 44 = .ok (.iconst (-1), 1) := by decide +kernel
theorem d_S_cost_45 : decode b_S_cost 45 = .ok (.istore 5, 2) := by decide +kernel
theorem d_S_cost_47 : decode b_S_cost 47 = .ok (.iload 5, 2) := by decide +kernel
theorem d_S_cost_49 : decode b_S_cost 49 = .ok (.ifCond .ge 13, 3) := by decide +kernel
theorem d_S_cost_52 : decode b_S_cost 52 = .ok (.new 145, 3) := by decide +kernel
theorem d_S_cost_55 : decode b_S_cost 55 = .ok (.dup, 1) := by decide +kernel
theorem d_S_cost_56 : decode b_S_cost 56 = .ok (.ldc 162, 2) := by decide +kernel
theorem d_S_cost_58 : decode b_S_cost 58 = .ok (.invokespecial 149, 3) := by decide +kernel
theorem d_S_cost_61 : decode b_S_cost 61 = .ok (.athrow, 1) := by decide +kernel
theorem d_S_cost_62 : decode b_S_cost 62 = .ok (.aload 4, 2) := by decide +kernel
theorem d_S_cost_64 : decode b_S_cost 64 = .ok (.invokevirtual 150, 3) := by decide +kernel
theorem d_S_cost_67 : decode b_S_cost 67 = .ok (.iload 5, 2) := by decide +kernel
theorem d_S_cost_69 : decode b_S_cost 69 = .ok (.invokevirtual 164, 3) := by decide +kernel
theorem d_S_cost_72 : decode b_S_cost 72 = .ok (.ireturn, 1) := by decide +kernel
theorem d_S_complete_0 : decode b_S_complete 0 = .ok (.aload_n 0, 1) := by decide +kernel
theorem d_S_complete_1 : decode b_S_complete 1 = .ok (.getfield 40, 3) := by decide +kernel
theorem d_S_complete_4 : decode b_S_complete 4 = .ok (.iconst 0, 1) := by decide +kernel
theorem d_S_complete_5 : decode b_S_complete 5 = .ok (.invokevirtual 168, 3) := by decide +kernel
theorem d_S_complete_8 : decode b_S_complete 8 = .ok (.lload_n 2, 1) := by decide +kernel
theorem d_S_complete_9 : decode b_S_complete 9 = .ok (.invokestatic 172, 3) := by decide +kernel
theorem d_S_complete_12 : decode b_S_complete 12 = .ok (.ifCond .ne 13, 3) := by decide +kernel
theorem d_S_complete_15 : decode b_S_complete 15 = .ok (.new 68, 3) := by decide +kernel
theorem d_S_complete_18 : decode b_S_complete 18 = .ok (.dup, 1) := by decide +kernel
theorem d_S_complete_19 : decode b_S_complete 19 = .ok (.ldc 175, 2) := by decide +kernel
theorem d_S_complete_21 : decode b_S_complete 21 = .ok (.invokespecial 72, 3) := by decide +kernel
theorem d_S_complete_24 : decode b_S_complete 24 = .ok (.athrow, 1) := by decide +kernel
theorem d_S_complete_25 : decode b_S_complete 25 = .ok (.iload 4, 2) := by decide +kernel
theorem d_S_complete_27 : decode b_S_complete 27 = .ok (.ifCond .lt 10, 3) := by decide +kernel
theorem d_S_complete_30 : decode b_S_complete 30 = .ok (.iload 4, 2) := by decide +kernel
theorem d_S_complete_32 : decode b_S_complete 32 = .ok (.bipush 24, 2) := by decide +kernel
theorem d_S_complete_34 : decode b_S_complete 34 = .ok (.if_icmp .le 13, 3) := by decide +kernel
theorem d_S_complete_37 : decode b_S_complete 37 = .ok (.new 68, 3) := by decide +kernel
theorem d_S_complete_40 : decode b_S_complete 40 = .ok (.dup, 1) := by decide +kernel
theorem d_S_complete_41 : decode b_S_complete 41 = .ok (.ldc 177, 2) := by decide +kernel
theorem d_S_complete_43 : decode b_S_complete 43 = .ok (.invokespecial 72, 3) := by decide +kernel
theorem d_S_complete_46 : decode b_S_complete 46 = .ok (.athrow, 1) := by decide +kernel
theorem d_S_complete_47 : decode b_S_complete 47 = .ok (.aload_n 0, 1) := by decide +kernel
theorem d_S_complete_48 : decode b_S_complete 48 = .ok (.iload_n 1, 1) := by decide +kernel
theorem d_S_complete_49 : decode b_S_complete 49 = .ok (.invokevirtual 119, 3) := by decide +kernel
theorem d_S_complete_52 : decode b_S_complete 52 = .ok (.astore 5, 2) := by decide +kernel
theorem d_S_complete_54 : decode b_S_complete 54 = .ok (.aload 5, 2) := by decide +kernel
theorem d_S_complete_56 : decode b_S_complete 56 = .ok (.ifnonnull 13, 3) := by decide +kernel
theorem d_S_complete_59 : decode b_S_complete 59 = .ok (.new 145, 3) := by decide +kernel
theorem d_S_complete_62 : decode b_S_complete 62 = .ok (.dup, 1) := by decide +kernel
theorem d_S_complete_63 : decode b_S_complete 63 = .ok (.ldc 147, 2) := by decide +kernel
theorem d_S_complete_65 : decode b_S_complete 65 = .ok (.invokespecial 149, 3) := by decide +kernel
theorem d_S_complete_68 : decode b_S_complete 68 = .ok (.athrow, 1) := by decide +kernel
theorem d_S_complete_69 : decode b_S_complete 69 = .ok (.aload_n 0, 1) := by decide +kernel
theorem d_S_complete_70 : decode b_S_complete 70 = .ok (.getfield 40, 3) := by decide +kernel
theorem d_S_complete_73 : decode b_S_complete 73 = .ok (.iload 4, 2) := by decide +kernel
theorem d_S_complete_75 : decode b_S_complete 75 = .ok (.invokevirtual 168, 3) := by decide +kernel
theorem d_S_complete_78 : decode b_S_complete 78 = .ok (.aload_n 0, 1) := by decide +kernel
theorem d_S_complete_79 : decode b_S_complete 79 = .ok (.getfield 40, 3) := by decide +kernel
theorem d_S_complete_82 : decode b_S_complete 82 = .ok (.aload 5, 2) := by decide +kernel
theorem d_S_complete_84 : decode b_S_complete 84 = .ok (.invokevirtual 150, 3) := by decide +kernel
theorem d_S_complete_87 : decode b_S_complete 87 = .ok (.lload_n 2, 1) := by decide +kernel
theorem d_S_complete_88 : decode b_S_complete 88 = .ok (.invokestatic 77, 3) := by decide +kernel
theorem d_S_complete_91 : decode b_S_complete 91 = .ok (.invokevirtual 179, 3) := by decide +kernel
theorem d_S_complete_94 : decode b_S_complete 94 = .ok (.aload_n 0, 1) := by decide +kernel
theorem d_S_complete_95 : decode b_S_complete 95 = .ok (.getfield 40, 3) := by decide +kernel
theorem d_S_complete_98 : decode b_S_complete 98 = .ok (.invokevirtual 183, 3) := by decide +kernel
theorem d_S_complete_101 : decode b_S_complete 101 = .ok (.ireturn, 1) := by decide +kernel
theorem d_S_near_0 : decode b_S_near 0 = .ok (.aload_n 0, 1) := by decide +kernel
theorem d_S_near_1 : decode b_S_near 1 = .ok (.getfield 40, 3) := by decide +kernel
theorem d_S_near_4 : decode b_S_near 4 = .ok (.iconst 0, 1) := by decide +kernel
theorem d_S_near_5 : decode b_S_near 5 = .ok (.invokevirtual 168, 3) := by decide +kernel
theorem d_S_near_8 : decode b_S_near 8 = .ok (.lload_n 2, 1) := by decide +kernel
theorem d_S_near_9 : decode b_S_near 9 = .ok (.invokestatic 62, 3) := by decide +kernel
theorem d_S_near_12 : decode b_S_near 12 = .ok (.ifCond .ne 13, 3) := by decide +kernel
theorem d_S_near_15 : decode b_S_near 15 = .ok (.new 68, 3) := by decide +kernel
theorem d_S_near_18 : decode b_S_near 18 = .ok (.dup, 1) := by decide +kernel
theorem d_S_near_19 : decode b_S_near 19 = .ok (.ldc 70, 2) := by decide +kernel
theorem d_S_near_21 : decode b_S_near 21 = .ok (.invokespecial 72, 3) := by decide +kernel
theorem d_S_near_24 : decode b_S_near 24 = .ok (.athrow, 1) := by decide +kernel
theorem d_S_near_25 : decode b_S_near 25 = .ok (.iload 4, 2) := by decide +kernel
theorem d_S_near_27 : decode b_S_near 27 = .ok (.ifCond .lt 9, 3) := by decide +kernel
theorem d_S_near_30 : decode b_S_near 30 = .ok (.iload 4, 2) := by decide +kernel
theorem d_S_near_32 : decode b_S_near 32 = .ok (.iconst 2, 1) := by decide +kernel
theorem d_S_near_33 : decode b_S_near 33 = .ok (.if_icmp .le 13, 3) := by decide +kernel
theorem d_S_near_36 : decode b_S_near 36 = .ok (.new 68, 3) := by decide +kernel
theorem d_S_near_39 : decode b_S_near 39 = .ok (.dup, 1) := by decide +kernel
theorem d_S_near_40 : decode b_S_near 40 = .ok (.ldc 184, 2) := by decide +kernel
theorem d_S_near_42 : decode b_S_near 42 = .ok (.invokespecial 72, 3) := by decide +kernel
theorem d_S_near_45 : decode b_S_near 45 = .ok (.athrow, 1) := by decide +kernel
theorem d_S_near_46 : decode b_S_near 46 = .ok (.aload_n 0, 1) := by decide +kernel
theorem d_S_near_47 : decode b_S_near 47 = .ok (.iload_n 1, 1) := by decide +kernel
theorem d_S_near_48 : decode b_S_near 48 = .ok (.invokevirtual 119, 3) := by decide +kernel
theorem d_S_near_51 : decode b_S_near 51 = .ok (.astore 5, 2) := by decide +kernel
theorem d_S_near_53 : decode b_S_near 53 = .ok (.aload 5, 2) := by decide +kernel
theorem d_S_near_55 : decode b_S_near 55 = .ok (.ifnonnull 13, 3) := by decide +kernel
theorem d_S_near_58 : decode b_S_near 58 = .ok (.new 145, 3) := by decide +kernel
theorem d_S_near_61 : decode b_S_near 61 = .ok (.dup, 1) := by decide +kernel
theorem d_S_near_62 : decode b_S_near 62 = .ok (.ldc 147, 2) := by decide +kernel
theorem d_S_near_64 : decode b_S_near 64 = .ok (.invokespecial 149, 3) := by decide +kernel
theorem d_S_near_67 : decode b_S_near 67 = .ok (.athrow, 1) := by decide +kernel
theorem d_S_near_68 : decode b_S_near 68 = .ok (.aload_n 0, 1) := by decide +kernel
theorem d_S_near_69 : decode b_S_near 69 = .ok (.getfield 40, 3) := by decide +kernel
theorem d_S_near_72 : decode b_S_near 72 = .ok (.bipush 24, 2) := by decide +kernel
theorem d_S_near_74 : decode b_S_near 74 = .ok (.invokevirtual 168, 3) := by decide +kernel
theorem d_S_near_77 : decode b_S_near 77 = .ok (.aload_n 0, 1) := by decide +kernel
theorem d_S_near_78 : decode b_S_near 78 = .ok (.getfield 40, 3) := by decide +kernel
theorem d_S_near_81 : decode b_S_near 81 = .ok (.aload 5, 2) := by decide +kernel
theorem d_S_near_83 : decode b_S_near 83 = .ok (.invokevirtual 150, 3) := by decide +kernel
theorem d_S_near_86 : decode b_S_near 86 = .ok (.lload_n 2, 1) := by decide +kernel
theorem d_S_near_87 : decode b_S_near 87 = .ok (.invokestatic 77, 3) := by decide +kernel
theorem d_S_near_90 : decode b_S_near 90 = .ok (.iload 4, 2) := by decide +kernel
theorem d_S_near_92 : decode b_S_near 92 = .ok (.aload_n 0, 1) := by decide +kernel
theorem d_S_near_93 : decode b_S_near 93 = .ok (.getfield 33, 3) := by decide +kernel
theorem d_S_near_96 : decode b_S_near 96 = .ok (.invokevirtual 186, 3) := by decide +kernel
theorem d_S_near_99 : decode b_S_near 99 = .ok (.aload_n 0, 1) := by decide +kernel
theorem d_S_near_100 : decode b_S_near 100 = .ok (.getfield 40, 3) := by decide +kernel
theorem d_S_near_103 : decode b_S_near 103 = .ok (.invokevirtual 183, 3) := by decide +kernel
theorem d_S_near_106 : decode b_S_near 106 = .ok (.ireturn, 1) := by decide +kernel
theorem d_S_given_0 : decode b_S_given 0 = .ok (.iload_n 1, 1) := by decide +kernel
theorem d_S_given_1 : decode b_S_given 1 = .ok (.ifCond .lt 14, 3) := by decide +kernel
theorem d_S_given_4 : decode b_S_given 4 = .ok (.iload_n 1, 1) := by decide +kernel
theorem d_S_given_5 : decode b_S_given 5 = .ok (.aload_n 0, 1) := by decide +kernel
theorem d_S_given_6 : decode b_S_given 6 = .ok (.getfield 40, 3) := by decide +kernel
theorem d_S_given_9 : decode b_S_given 9 = .ok (.invokevirtual 183, 3) := by decide +kernel
theorem d_S_given_12 : decode b_S_given 12 = .ok (.if_icmp .lt 13, 3) := by decide +kernel
theorem d_S_given_15 : decode b_S_given 15 = .ok (.new 190, 3) := by decide +kernel
theorem d_S_given_18 : decode b_S_given 18 = .ok (.dup, 1) := by decide +kernel
theorem d_S_given_19 : decode b_S_given 19 = .ok (.ldc 192, 2) := by decide +kernel
theorem d_S_given_21 : decode b_S_given 21 = .ok (.invokespecial 194, 3) := by decide +kernel
theorem d_S_given_24 : decode b_S_given 24 = .ok (.athrow, 1) := by decide +kernel
theorem d_S_given_25 : decode b_S_given 25 = .ok (.aload_n 0, 1) := by decide +kernel
theorem d_S_given_26 : decode b_S_given 26 = .ok (.getfield 40, 3) := by decide +kernel
theorem d_S_given_29 : decode b_S_given 29 = .ok (.iload_n 1, 1) := by decide +kernel
theorem d_S_given_30 : decode b_S_given 30 = .ok (.invokevirtual 195, 3) := by decide +kernel
theorem d_S_given_33 : decode b_S_given 33 = .ok (.invokestatic 199, 3) := by decide +kernel
theorem d_S_given_36 : decode b_S_given 36 = .ok (.lreturn, 1) := by decide +kernel
theorem d_S_distance_0 : decode b_S_distance 0 = .ok (.lload_n 1, 1) := by decide +kernel
theorem d_S_distance_1 : decode b_S_distance 1 = .ok (.invokestatic 62, 3) := by decide +kernel
theorem d_S_distance_4 : decode b_S_distance 4 = .ok (.ifCond .eq 10, 3) := by decide +kernel
theorem d_S_distance_7 : decode b_S_distance 7 = .ok (.lload_n 3, 1) := by decide +kernel
theorem d_S_distance_8 : decode b_S_distance 8 = .ok (.invokestatic 62, 3) := by decide +kernel
theorem d_S_distance_11 : decode b_S_distance 11 = .ok (.ifCond .ne 13, 3) := by decide +kernel
theorem d_S_distance_14 : decode b_S_distance 14 = .ok (.new 68, 3) := by decide +kernel
theorem d_S_distance_17 : decode b_S_distance 17 = .ok (.dup, 1) := by decide +kernel
theorem d_S_distance_18 : decode b_S_distance 18 = .ok (.ldc 70, 2) := by decide +kernel
theorem d_S_distance_20 : decode b_S_distance 20 = .ok (.invokespecial 72, 3) := by decide +kernel
end
section
theorem d_S_distance_23 : decode b_S_distance 23 = .ok (.athrow, 1) := by decide +kernel
theorem d_S_distance_24 : decode b_S_distance 24 = .ok (.aload_n 0, 1) := by decide +kernel
theorem d_S_distance_25 : decode b_S_distance 25 = .ok (.getfield 33, 3) := by decide +kernel
theorem d_S_distance_28 : decode b_S_distance 28 = .ok (.lload_n 1, 1) := by decide +kernel
theorem d_S_distance_29 : decode b_S_distance 29 = .ok (.invokestatic 77, 3) := by decide +kernel
theorem d_S_distance_32 : decode b_S_distance 32 = .ok (.lload_n 3, 1) := by decide +kernel
theorem d_S_distance_33 : decode b_S_distance 33 = .ok (.invokestatic 77, 3) := by decide +kernel
theorem d_S_distance_36 : decode b_S_distance 36 = .ok (.invokevirtual 202, 3) := by decide +kernel
theorem d_S_distance_39 : decode b_S_distance 39 = .ok (.ireturn, 1) := by decide +kernel
theorem d_S_learn_0 : decode b_S_learn 0 = .ok (.lload_n 1, 1) := by decide +kernel
theorem d_S_learn_1 : decode b_S_learn 1 = .ok (.invokestatic 62, 3) := by decide +kernel
theorem d_S_learn_4 : decode b_S_learn 4 = .ok (.ifCond .eq 10, 3) := by decide +kernel
theorem d_S_learn_7 : decode b_S_learn 7 = .ok (.lload_n 3, 1) := by decide +kernel
theorem d_S_learn_8 : decode b_S_learn 8 = .ok (.invokestatic 62, 3) := by decide +kernel
theorem d_S_learn_11 : decode b_S_learn 11 = .ok (.ifCond .ne 13, 3) := by decide +kernel
theorem d_S_learn_14 : decode b_S_learn 14 = .ok (.new 68, 3) := by decide +kernel
theorem d_S_learn_17 : decode b_S_learn 17 = .ok (.dup, 1) := by decide +kernel
theorem d_S_learn_18 : decode b_S_learn 18 = .ok (.ldc 70, 2) := by decide +kernel
theorem d_S_learn_20 : decode b_S_learn 20 = .ok (.invokespecial 72, 3) := by decide +kernel
theorem d_S_learn_23 : decode b_S_learn 23 = .ok (.athrow, 1) := by decide +kernel
theorem d_S_learn_24 : decode b_S_learn 24 = .ok (.aload_n 0, 1) := by decide +kernel
theorem d_S_learn_25 : decode b_S_learn 25 = .ok (.getfield 47, 3) := by decide +kernel
theorem d_S_learn_28 : decode b_S_learn 28 = .ok (.lload_n 1, 1) := by decide +kernel
theorem d_S_learn_29 : decode b_S_learn 29 = .ok (.invokestatic 77, 3) := by decide +kernel
theorem d_S_learn_32 : decode b_S_learn 32 = .ok (.lload_n 3, 1) := by decide +kernel
theorem d_S_learn_33 : decode b_S_learn 33 = .ok (.invokestatic 77, 3) := by decide +kernel
theorem d_S_learn_36 : decode b_S_learn 36 = .ok (.invokevirtual 206, 3) := by decide +kernel
theorem d_S_learn_39 : decode b_S_learn 39 = .ok (.istore 5, 2) := by decide +kernel
theorem d_S_learn_41 : decode b_S_learn 41 = .ok (.iload 5, 2) := by decide +kernel
theorem d_S_learn_43 : decode b_S_learn 43 = .ok (.ifCond .ne 13, 3) := by decide +kernel
theorem d_S_learn_46 : decode b_S_learn 46 = .ok (.new 85, 3) := by decide +kernel
theorem d_S_learn_49 : decode b_S_learn 49 = .ok (.dup, 1) := by decide +kernel
theorem d_S_learn_50 : decode b_S_learn 50 = .ok (.ldc 209, 2) := by decide +kernel
theorem d_S_learn_52 : decode b_S_learn 52 = .ok (.invokespecial 89, 3) := by decide +kernel
theorem d_S_learn_55 : decode b_S_learn 55 = .ok (.athrow, 1) := by decide +kernel
theorem d_S_learn_56 : decode b_S_learn 56 = .ok (.iload 5, 2) := by decide +kernel
theorem d_S_learn_58 : decode b_S_learn 58 = .ok (.ireturn, 1) := by decide +kernel
theorem d_S_say_0 : decode b_S_say 0 = .ok (.lload_n 1, 1) := by decide +kernel
theorem d_S_say_1 : decode b_S_say 1 = .ok (.invokestatic 62, 3) := by decide +kernel
theorem d_S_say_4 : decode b_S_say 4 = .ok (.ifCond .ne 13, 3) := by decide +kernel
theorem d_S_say_7 : decode b_S_say 7 = .ok (.new 68, 3) := by decide +kernel
theorem d_S_say_10 : decode b_S_say 10 = .ok (.dup, 1) := by decide +kernel
theorem d_S_say_11 : decode b_S_say 11 = .ok (.ldc 70, 2) := by decide +kernel
theorem d_S_say_13 : decode b_S_say 13 = .ok (.invokespecial 72, 3) := by decide +kernel
theorem d_S_say_16 : decode b_S_say 16 = .ok (.athrow, 1) := by decide +kernel
theorem d_S_say_17 : decode b_S_say 17 = .ok (.aload_n 0, 1) := by decide +kernel
theorem d_S_say_18 : decode b_S_say 18 = .ok (.getfield 54, 3) := by decide +kernel
theorem d_S_say_21 : decode b_S_say 21 = .ok (.lload_n 1, 1) := by decide +kernel
theorem d_S_say_22 : decode b_S_say 22 = .ok (.invokestatic 77, 3) := by decide +kernel
theorem d_S_say_25 : decode b_S_say 25 = .ok (.invokevirtual 211, 3) := by decide +kernel
theorem d_S_say_28 : decode b_S_say 28 = .ok (.ifCond .ne 13, 3) := by decide +kernel
theorem d_S_say_31 : decode b_S_say 31 = .ok (.new 85, 3) := by decide +kernel
theorem d_S_say_34 : decode b_S_say 34 = .ok (.dup, 1) := by decide +kernel
theorem d_S_say_35 : decode b_S_say 35 = .ok (.ldc 213, 2) := by decide +kernel
theorem d_S_say_37 : decode b_S_say 37 = .ok (.invokespecial 89, 3) := by decide +kernel
theorem d_S_say_40 : decode b_S_say 40 = .ok (.athrow, 1) := by decide +kernel
theorem d_S_say_41 : decode b_S_say 41 = .ok (.aload_n 0, 1) := by decide +kernel
theorem d_S_say_42 : decode b_S_say 42 = .ok (.getfield 54, 3) := by decide +kernel
theorem d_S_say_45 : decode b_S_say 45 = .ok (.invokevirtual 215, 3) := by decide +kernel
theorem d_S_say_48 : decode b_S_say 48 = .ok (.ireturn, 1) := by decide +kernel
theorem d_S_correct_0 : decode b_S_correct 0 = .ok (.aload_n 0, 1) := by decide +kernel
theorem d_S_correct_1 : decode b_S_correct 1 = .ok (.iload_n 1, 1) := by decide +kernel
theorem d_S_correct_2 : decode b_S_correct 2 = .ok (.invokevirtual 119, 3) := by decide +kernel
theorem d_S_correct_5 : decode b_S_correct 5 = .ok (.astore_n 2, 1) := by decide +kernel
theorem d_S_correct_6 : decode b_S_correct 6 = .ok (.aload_n 2, 1) := by decide +kernel
theorem d_S_correct_7 : decode b_S_correct 7 = .ok (.ifnonnull 20, 3) := by decide +kernel
theorem d_S_correct_10 : decode b_S_correct 10 = .ok (.aload_n 0, 1) := by decide +kernel
theorem d_S_correct_11 : decode b_S_correct 11 = .ok (.getfield 54, 3) := by decide +kernel
theorem d_S_correct_14 : decode b_S_correct 14 = .ok (.invokevirtual 216, 3) := by decide +kernel
theorem d_S_correct_17 : decode b_S_correct 17 = .ok (.new 145, 3) := by decide +kernel
theorem d_S_correct_20 : decode b_S_correct 20 = .ok (.dup, 1) := by decide +kernel
theorem d_S_correct_21 : decode b_S_correct 21 = .ok (.ldc 147, 2) := by decide +kernel
theorem d_S_correct_23 : decode b_S_correct 23 = .ok (.invokespecial 149, 3) := by decide +kernel
theorem d_S_correct_26 : decode b_S_correct 26 = .ok (.athrow, 1) := by decide +kernel
theorem d_S_correct_27 : decode b_S_correct 27 = .ok (.aload_n 0, 1) := by decide +kernel
theorem d_S_correct_28 : decode b_S_correct 28 = .ok (.getfield 54, 3) := by decide +kernel
theorem d_S_correct_31 : decode b_S_correct 31 = .ok (.invokevirtual 215, 3) := by decide +kernel
theorem d_S_correct_34 : decode b_S_correct 34 = .ok (.ifCond .ne 13, 3) := by decide +kernel
theorem d_S_correct_37 : decode b_S_correct 37 = .ok (.new 85, 3) := by decide +kernel
theorem d_S_correct_40 : decode b_S_correct 40 = .ok (.dup, 1) := by decide +kernel
theorem d_S_correct_41 : decode b_S_correct 41 = .ok (.ldc 217, 2) := by decide +kernel
theorem d_S_correct_43 : decode b_S_correct 43 = .ok (.invokespecial 89, 3) := by decide +kernel
theorem d_S_correct_46 : decode b_S_correct 46 = .ok (.athrow, 1) := by decide +kernel
theorem d_S_correct_47 : decode b_S_correct 47 = .ok (.aload_n 0, 1) := by decide +kernel
theorem d_S_correct_48 : decode b_S_correct 48 = .ok (.getfield 54, 3) := by decide +kernel
theorem d_S_correct_51 : decode b_S_correct 51 = .ok (.aload_n 2, 1) := by decide +kernel
theorem d_S_correct_52 : decode b_S_correct 52 = .ok (.invokevirtual 150, 3) := by decide +kernel
theorem d_S_correct_55 : decode b_S_correct 55 = .ok (.aload_n 0, 1) := by decide +kernel
theorem d_S_correct_56 : decode b_S_correct 56 = .ok (.getfield 33, 3) := by decide +kernel
theorem d_S_correct_59 : decode b_S_correct 59 = .ok (.aload_n 0, 1) := by decide +kernel
theorem d_S_correct_60 : decode b_S_correct 60 = .ok (.getfield 47, 3) := by decide +kernel
theorem d_S_correct_63 : decode b_S_correct 63 = .ok (.invokevirtual 219, 3) := by decide +kernel
theorem d_S_correct_66 : decode b_S_correct 66 = .ok (.istore_n 3, 1) := by decide +kernel
theorem d_S_correct_67 : decode b_S_correct 67 = .ok (.aload_n 0, 1) := by decide +kernel
theorem d_S_correct_68 : decode b_S_correct 68 = .ok (.getfield 54, 3) := by decide +kernel
theorem d_S_correct_71 : decode b_S_correct 71 = .ok (.invokevirtual 216, 3) := by decide +kernel
theorem d_S_correct_74 : decode b_S_correct 74 = .ok (.iload_n 3, 1) := by decide +kernel
theorem d_S_correct_75 : decode b_S_correct 75 = .ok (.ireturn, 1) := by decide +kernel
theorem d_S_corrected_0 : decode b_S_corrected 0 = .ok (.iload_n 1, 1) := by decide +kernel
theorem d_S_corrected_1 : decode b_S_corrected 1 = .ok (.ifCond .lt 14, 3) := by decide +kernel
theorem d_S_corrected_4 : decode b_S_corrected 4 = .ok (.iload_n 1, 1) := by decide +kernel
theorem d_S_corrected_5 : decode b_S_corrected 5 = .ok (.aload_n 0, 1) := by decide +kernel
theorem d_S_corrected_6 : decode b_S_corrected 6 = .ok (.getfield 54, 3) := by decide +kernel
theorem d_S_corrected_9 : decode b_S_corrected 9 = .ok (.invokevirtual 223, 3) := by decide +kernel
theorem d_S_corrected_12 : decode b_S_corrected 12 = .ok (.if_icmp .lt 13, 3) := by decide +kernel
theorem d_S_corrected_15 : decode b_S_corrected 15 = .ok (.new 190, 3) := by decide +kernel
theorem d_S_corrected_18 : decode b_S_corrected 18 = .ok (.dup, 1) := by decide +kernel
theorem d_S_corrected_19 : decode b_S_corrected 19 = .ok (.ldc 226, 2) := by decide +kernel
theorem d_S_corrected_21 : decode b_S_corrected 21 = .ok (.invokespecial 194, 3) := by decide +kernel
theorem d_S_corrected_24 : decode b_S_corrected 24 = .ok (.athrow, 1) := by decide +kernel
theorem d_S_corrected_25 : decode b_S_corrected 25 = .ok (.aload_n 0, 1) := by decide +kernel
theorem d_S_corrected_26 : decode b_S_corrected 26 = .ok (.getfield 54, 3) := by decide +kernel
theorem d_S_corrected_29 : decode b_S_corrected 29 = .ok (.iload_n 1, 1) := by decide +kernel
theorem d_S_corrected_30 : decode b_S_corrected 30 = .ok (.invokevirtual 228, 3) := by decide +kernel
theorem d_S_corrected_33 : decode b_S_corrected 33 = .ok (.invokestatic 199, 3) := by decide +kernel
theorem d_S_corrected_36 : decode b_S_corrected 36 = .ok (.lreturn, 1) := by decide +kernel
theorem d_S_find_0 : decode b_S_find 0 = .ok (.iconst 0, 1) := by decide +kernel
theorem d_S_find_1 : decode b_S_find 1 = .ok (.istore_n 2, 1) := by decide +kernel
theorem d_S_find_2 : decode b_S_find 2 = .ok (.iload_n 2, 1) := by decide +kernel
theorem d_S_find_3 : decode b_S_find 3 = .ok (.iconst 3, 1) := by decide +kernel
theorem d_S_find_4 : decode b_S_find 4 = .ok (.if_icmp .ge 41, 3) := by decide +kernel
theorem d_S_find_7 : decode b_S_find 7 = .ok (.aload_n 0, 1) := by decide +kernel
theorem d_S_find_8 : decode b_S_find 8 = .ok (.getfield 18, 3) := by decide +kernel
theorem d_S_find_11 : decode b_S_find 11 = .ok (.iload_n 2, 1) := by decide +kernel
theorem d_S_find_12 : decode b_S_find 12 = .ok (.aaload, 1) := by decide +kernel
theorem d_S_find_13 : decode b_S_find 13 = .ok (.invokevirtual 141, 3) := by decide +kernel
theorem d_S_find_16 : decode b_S_find 16 = .ok (.ifCond .eq 23, 3) := by decide +kernel
theorem d_S_find_19 : decode b_S_find 19 = .ok (.aload_n 0, 1) := by decide +kernel
theorem d_S_find_20 : decode b_S_find 20 = .ok (.getfield 18, 3) := by decide +kernel
theorem d_S_find_23 : decode b_S_find 23 = .ok (.iload_n 2, 1) := by decide +kernel
theorem d_S_find_24 : decode b_S_find 24 = .ok (.aaload, 1) := by decide +kernel
theorem d_S_find_25 : decode b_S_find 25 = .ok (.invokevirtual 231, 3) := by decide +kernel
theorem d_S_find_28 : decode b_S_find 28 = .ok (.iload_n 1, 1) := by decide +kernel
theorem d_S_find_29 : decode b_S_find 29 = .ok (.if_icmp .ne 10, 3) := by decide +kernel
theorem d_S_find_32 : decode b_S_find 32 = .ok (.aload_n 0, 1) := by decide +kernel
theorem d_S_find_33 : decode b_S_find 33 = .ok (.getfield 18, 3) := by decide +kernel
theorem d_S_find_36 : decode b_S_find 36 = .ok (.iload_n 2, 1) := by decide +kernel
theorem d_S_find_37 : decode b_S_find 37 = .ok (.aaload, 1) := by decide +kernel
theorem d_S_find_38 : decode b_S_find 38 = .ok (.areturn, 1) := by decide +kernel
theorem d_S_find_39 : decode b_S_find 39 = .ok (.iinc 2 1, 3) := by decide +kernel
theorem d_S_find_42 : decode b_S_find 42 = .ok (.goto (-40), 3) := by decide +kernel
theorem d_S_find_45 : decode b_S_find 45 = .ok (.aconst_null, 1) := by decide +kernel
theorem d_S_find_46 : decode b_S_find 46 = .ok (.areturn, 1) := by decide +kernel
theorem d_S_placeForNext_0 : decode b_S_placeForNext 0 = .ok (.aload_n 0, 1) := by decide +kernel
theorem d_S_placeForNext_1 : decode b_S_placeForNext 1 = .ok (.aload_n 0, 1) := by decide +kernel
theorem d_S_placeForNext_2 : decode b_S_placeForNext 2 = .ok (.getfield 58, 3) := by decide +kernel
theorem d_S_placeForNext_5 : decode b_S_placeForNext 5 = .ok (.invokevirtual 119, 3) := by decide +kernel
theorem d_S_placeForNext_8 : decode b_S_placeForNext 8 = .ok (.astore_n 1, 1) := by decide +kernel
theorem d_S_placeForNext_9 : decode b_S_placeForNext 9 = .ok (.aload_n 1, 1) := by decide +kernel
theorem d_S_placeForNext_10 : decode b_S_placeForNext 10 = .ok (.ifnull 12, 3) := by decide +kernel
theorem d_S_placeForNext_13 : decode b_S_placeForNext 13 = .ok (.aload_n 1, 1) := by decide +kernel
theorem d_S_placeForNext_14 : decode b_S_placeForNext 14 = .ok (.invokevirtual 125, 3) := by decide +kernel
theorem d_S_placeForNext_17 : decode b_S_placeForNext 17 = .ok (.ifCond .ne 5, 3) := by decide +kernel
theorem d_S_placeForNext_20 : decode b_S_placeForNext 20 = .ok (.aload_n 1, 1) := by decide +kernel
theorem d_S_placeForNext_21 : decode b_S_placeForNext 21 = .ok (.areturn, 1) := by decide +kernel
theorem d_S_placeForNext_22 : decode b_S_placeForNext 22 = .ok (.iconst 0, 1) := by decide +kernel
theorem d_S_placeForNext_23 : decode b_S_placeForNext 23 = .ok (.istore_n 2, 1) := by decide +kernel
theorem d_S_placeForNext_24 : decode b_S_placeForNext 24 = .ok (.iload_n 2, 1) := by decide +kernel
theorem d_S_placeForNext_25 : decode b_S_placeForNext 25 = .ok (.iconst 3, 1) := by decide +kernel
theorem d_S_placeForNext_26 : decode b_S_placeForNext 26 = .ok (.if_icmp .ge 28, 3) := by decide +kernel
theorem d_S_placeForNext_29 : decode b_S_placeForNext 29 = .ok (.aload_n 0, 1) := by decide +kernel
theorem d_S_placeForNext_30 : decode b_S_placeForNext 30 = .ok (.getfield 18, 3) := by decide +kernel
theorem d_S_placeForNext_33 : decode b_S_placeForNext 33 = .ok (.iload_n 2, 1) := by decide +kernel
theorem d_S_placeForNext_34 : decode b_S_placeForNext 34 = .ok (.aaload, 1) := by decide +kernel
theorem d_S_placeForNext_35 : decode b_S_placeForNext 35 = .ok (.invokevirtual 141, 3) := by decide +kernel
theorem d_S_placeForNext_38 : decode b_S_placeForNext 38 = .ok (.ifCond .ne 10, 3) := by decide +kernel
theorem d_S_placeForNext_41 : decode b_S_placeForNext 41 = .ok (.aload_n 0, 1) := by decide +kernel
theorem d_S_placeForNext_42 : decode b_S_placeForNext 42 = .ok (.getfield 18, 3) := by decide +kernel
theorem d_S_placeForNext_45 : decode b_S_placeForNext 45 = .ok (.iload_n 2, 1) := by decide +kernel
theorem d_S_placeForNext_46 : decode b_S_placeForNext 46 = .ok (.aaload, 1) := by decide +kernel
theorem d_S_placeForNext_47 : decode b_S_placeForNext 47 = .ok (.areturn, 1) := by decide +kernel
theorem d_S_placeForNext_48 : decode b_S_placeForNext 48 = .ok (.iinc 2 1, 3) := by decide +kernel
theorem d_S_placeForNext_51 : decode b_S_placeForNext 51 = .ok (.goto (-27), 3) := by decide +kernel
theorem d_S_placeForNext_54 : decode b_S_placeForNext 54 = .ok (.aconst_null, 1) := by decide +kernel
theorem d_S_placeForNext_55 : decode b_S_placeForNext 55 = .ok (.areturn, 1) := by decide +kernel
theorem d_Dictionary_init_0 : decode b_Dictionary_init 0 = .ok (.aload_n 0, 1) := by decide +kernel
theorem d_Dictionary_init_1 : decode b_Dictionary_init 1 = .ok (.invokespecial 1, 3) := by decide +kernel
theorem d_Dictionary_init_4 : decode b_Dictionary_init 4 = .ok (.aload_n 0, 1) := by decide +kernel
theorem d_Dictionary_init_5 : decode b_Dictionary_init 5 = .ok (.new 7, 3) := by decide +kernel
theorem d_Dictionary_init_8 : decode b_Dictionary_init 8 = .ok (.dup, 1) := by decide +kernel
theorem d_Dictionary_init_9 : decode b_Dictionary_init 9 = .ok (.invokespecial 9, 3) := by decide +kernel
theorem d_Dictionary_init_12 : decode b_Dictionary_init 12 = .ok (.putfield 10, 3) := by decide +kernel
theorem d_Dictionary_init_15 : decode b_Dictionary_init 15 = .ok (.aload_n 0, 1) := by decide +kernel
theorem d_Dictionary_init_16 : decode b_Dictionary_init 16 = .ok (.iconst 0, 1) := by decide +kernel
theorem d_Dictionary_init_17 : decode b_Dictionary_init 17 = .ok (.putfield 16, 3) := by decide +kernel
theorem d_Dictionary_init_20 : decode b_Dictionary_init 20 = .ok (.aload_n 0, 1) := by decide +kernel
theorem d_Dictionary_init_21 : decode b_Dictionary_init 21 = .ok (.iconst 0, 1) := by decide +kernel
theorem d_Dictionary_init_22 : decode b_Dictionary_init 22 = .ok (.putfield 20, 3) := by decide +kernel
theorem d_Dictionary_init_25 : decode b_Dictionary_init 25 = .ok (.aload_n 0, 1) := by decide +kernel
theorem d_Dictionary_init_26 : decode b_Dictionary_init 26 = .ok (.iconst 0, 1) := by decide +kernel
theorem d_Dictionary_init_27 : decode b_Dictionary_init 27 = .ok (.putfield 23, 3) := by decide +kernel
theorem d_Dictionary_init_30 : decode b_Dictionary_init 30 = .ok (.aload_n 0, 1) := by decide +kernel
theorem d_Dictionary_init_31 : decode b_Dictionary_init 31 = .ok (.iconst 0, 1) := by decide +kernel
theorem d_Dictionary_init_32 : decode b_Dictionary_init 32 = .ok (.putfield 26, 3) := by decide +kernel
theorem d_Dictionary_init_35 : decode b_Dictionary_init 35 = .ok (.return_, 1) := by decide +kernel
theorem d_Dictionary_fill_0 : decode b_Dictionary_fill 0 = .ok (.aload_n 0, 1) := by decide +kernel
theorem d_Dictionary_fill_1 : decode b_Dictionary_fill 1 = .ok (.getfield 10, 3) := by decide +kernel
theorem d_Dictionary_fill_4 : decode b_Dictionary_fill 4 = .ok (.aload_n 2, 1) := by decide +kernel
theorem d_Dictionary_fill_5 : decode b_Dictionary_fill 5 = .ok (.invokevirtual 29, 3) := by decide +kernel
theorem d_Dictionary_fill_8 : decode b_Dictionary_fill 8 = .ok (.aload_n 0, 1) := by decide +kernel
theorem d_Dictionary_fill_9 : decode b_Dictionary_fill 9 = .ok (.iload_n 1, 1) := by decide +kernel
theorem d_Dictionary_fill_10 : decode b_Dictionary_fill 10 = .ok (.putfield 16, 3) := by decide +kernel
theorem d_Dictionary_fill_13 : decode b_Dictionary_fill 13 = .ok (.aload_n 0, 1) := by decide +kernel
theorem d_Dictionary_fill_14 : decode b_Dictionary_fill 14 = .ok (.iconst 0, 1) := by decide +kernel
theorem d_Dictionary_fill_15 : decode b_Dictionary_fill 15 = .ok (.putfield 20, 3) := by decide +kernel
theorem d_Dictionary_fill_18 : decode b_Dictionary_fill 18 = .ok (.aload_n 0, 1) := by decide +kernel
theorem d_Dictionary_fill_19 : decode b_Dictionary_fill 19 = .ok (.iload_n 3, 1) := by decide +kernel
theorem d_Dictionary_fill_20 : decode b_Dictionary_fill 20 = .ok (.putfield 23, 3) := by decide +kernel
theorem d_Dictionary_fill_23 : decode b_Dictionary_fill 23 = .ok (.aload_n 0, 1) := by decide +kernel
theorem d_Dictionary_fill_24 : decode b_Dictionary_fill 24 = .ok (.iload 4, 2) := by decide +kernel
theorem d_Dictionary_fill_26 : decode b_Dictionary_fill 26 = .ok (.putfield 26, 3) := by decide +kernel
theorem d_Dictionary_fill_29 : decode b_Dictionary_fill 29 = .ok (.return_, 1) := by decide +kernel
theorem d_Dictionary_clear_0 : decode b_Dictionary_clear 0 = .ok (.aload_n 0, 1) := by decide +kernel
theorem d_Dictionary_clear_1 : decode b_Dictionary_clear 1 = .ok (.iconst 0, 1) := by decide +kernel
theorem d_Dictionary_clear_2 : decode b_Dictionary_clear 2 = .ok (.putfield 16, 3) := by decide +kernel
theorem d_Dictionary_clear_5 : decode b_Dictionary_clear 5 = .ok (.return_, 1) := by decide +kernel
theorem d_Dictionary_isThere_0 : decode b_Dictionary_isThere 0 = .ok (.aload_n 0, 1) := by decide +kernel
theorem d_Dictionary_isThere_1 : decode b_Dictionary_isThere 1 = .ok (.getfield 16, 3) := by decide +kernel
theorem d_Dictionary_isThere_4 : decode b_Dictionary_isThere 4 = .ok (.ifCond .le 7, 3) := by decide +kernel
theorem d_Dictionary_isThere_7 : decode b_Dictionary_isThere 7 = .ok (.iconst 1, 1) := by decide +kernel
theorem d_Dictionary_isThere_8 : decode b_Dictionary_isThere 8 = .ok (.goto 4, 3) := by decide +kernel
theorem d_Dictionary_isThere_11 : decode b_Dictionary_isThere 11 = .ok (.iconst 0, 1) := by decide +kernel
theorem d_Dictionary_isThere_12 : decode b_Dictionary_isThere 12 = .ok (.ireturn, 1) := by decide +kernel
theorem d_Dictionary_number_0 : decode b_Dictionary_number 0 = .ok (.aload_n 0, 1) := by decide +kernel
theorem d_Dictionary_number_1 : decode b_Dictionary_number 1 = .ok (.getfield 16, 3) := by decide +kernel
theorem d_Dictionary_number_4 : decode b_Dictionary_number 4 = .ok (.ireturn, 1) := by decide +kernel
theorem d_Dictionary_words_0 : decode b_Dictionary_words 0 = .ok (.aload_n 0, 1) := by decide +kernel
theorem d_Dictionary_words_1 : decode b_Dictionary_words 1 = .ok (.getfield 10, 3) := by decide +kernel
theorem d_Dictionary_words_4 : decode b_Dictionary_words 4 = .ok (.areturn, 1) := by decide +kernel
theorem d_Dictionary_states_0 : decode b_Dictionary_states 0 = .ok (.aload_n 0, 1) := by decide +kernel
theorem d_Dictionary_states_1 : decode b_Dictionary_states 1 = .ok (.getfield 23, 3) := by decide +kernel
theorem d_Dictionary_states_4 : decode b_Dictionary_states 4 = .ok (.ireturn, 1) := by decide +kernel
theorem d_Dictionary_arcs_0 : decode b_Dictionary_arcs 0 = .ok (.aload_n 0, 1) := by decide +kernel
theorem d_Dictionary_arcs_1 : decode b_Dictionary_arcs 1 = .ok (.getfield 26, 3) := by decide +kernel
theorem d_Dictionary_arcs_4 : decode b_Dictionary_arcs 4 = .ok (.ireturn, 1) := by decide +kernel
theorem d_Dictionary_readers_0 : decode b_Dictionary_readers 0 = .ok (.aload_n 0, 1) := by decide +kernel
theorem d_Dictionary_readers_1 : decode b_Dictionary_readers 1 = .ok (.getfield 20, 3) := by decide +kernel
theorem d_Dictionary_readers_4 : decode b_Dictionary_readers 4 = .ok (.ireturn, 1) := by decide +kernel
theorem d_Dictionary_addReader_0 : decode b_Dictionary_addReader 0 = .ok (.aload_n 0, 1) := by decide +kernel
theorem d_Dictionary_addReader_1 : decode b_Dictionary_addReader 1 = .ok (.dup, 1) := by decide +kernel
theorem d_Dictionary_addReader_2 : decode b_Dictionary_addReader 2 = .ok (.getfield 20, 3) := by decide +kernel
theorem d_Dictionary_addReader_5 : decode b_Dictionary_addReader 5 = .ok (.iconst 1, 1) := by decide +kernel
theorem d_Dictionary_addReader_6 : decode b_Dictionary_addReader 6 = .ok (.iadd, 1) := by decide +kernel
theorem d_Dictionary_addReader_7 : decode b_Dictionary_addReader 7 = .ok (.putfield 20, 3) := by decide +kernel
theorem d_Dictionary_addReader_10 : decode b_Dictionary_addReader 10 = .ok (.return_, 1) := by decide +kernel
theorem d_Dictionary_removeReader_0 : decode b_Dictionary_removeReader 0 = .ok (.aload_n 0, 1) := by decide +kernel
theorem d_Dictionary_removeReader_1 : decode b_Dictionary_removeReader 1 = .ok (.dup, 1) := by decide +kernel
theorem d_Dictionary_removeReader_2 : decode b_Dictionary_removeReader 2 = .ok (.getfield 20, 3) := by decide +kernel
theorem d_Dictionary_removeReader_5 : decode b_Dictionary_removeReader 5 = .ok (.iconst 1, 1) := by decide +kernel
theorem d_Dictionary_removeReader_6 : decode b_Dictionary_removeReader 6 = .ok (.isub, 1) := by decide +kernel
theorem d_Dictionary_removeReader_7 : decode b_Dictionary_removeReader 7 = .ok (.putfield 20, 3) := by decide +kernel
theorem d_Dictionary_removeReader_10 : decode b_Dictionary_removeReader 10 = .ok (.return_, 1) := by decide +kernel
theorem d_Pairs_init_0 : decode b_Pairs_init 0 = .ok (.aload_n 0, 1) := by decide +kernel
theorem d_Pairs_init_1 : decode b_Pairs_init 1 = .ok (.invokespecial 3, 3) := by decide +kernel
theorem d_Pairs_init_4 : decode b_Pairs_init 4 = .ok (.aload_n 0, 1) := by decide +kernel
theorem d_Pairs_init_5 : decode b_Pairs_init 5 = .ok (.bipush 40, 2) := by decide +kernel
theorem d_Pairs_init_7 : decode b_Pairs_init 7 = .ok (.newarray .long, 2) := by decide +kernel
theorem d_Pairs_init_9 : decode b_Pairs_init 9 = .ok (.putfield 9, 3) := by decide +kernel
theorem d_Pairs_init_12 : decode b_Pairs_init 12 = .ok (.aload_n 0, 1) := by decide +kernel
theorem d_Pairs_init_13 : decode b_Pairs_init 13 = .ok (.bipush 40, 2) := by decide +kernel
theorem d_Pairs_init_15 : decode b_Pairs_init 15 = .ok (.newarray .long, 2) := by decide +kernel
theorem d_Pairs_init_17 : decode b_Pairs_init 17 = .ok (.putfield 15, 3) := by decide +kernel
theorem d_Pairs_init_20 : decode b_Pairs_init 20 = .ok (.aload_n 0, 1) := by decide +kernel
theorem d_Pairs_init_21 : decode b_Pairs_init 21 = .ok (.bipush 40, 2) := by decide +kernel
theorem d_Pairs_init_23 : decode b_Pairs_init 23 = .ok (.newarray .int, 2) := by decide +kernel
theorem d_Pairs_init_25 : decode b_Pairs_init 25 = .ok (.putfield 18, 3) := by decide +kernel
theorem d_Pairs_init_28 : decode b_Pairs_init 28 = .ok (.aload_n 0, 1) := by decide +kernel
theorem d_Pairs_init_29 : decode b_Pairs_init 29 = .ok (.iconst 0, 1) := by decide +kernel
theorem d_Pairs_init_30 : decode b_Pairs_init 30 = .ok (.putfield 22, 3) := by decide +kernel
theorem d_Pairs_init_33 : decode b_Pairs_init 33 = .ok (.return_, 1) := by decide +kernel
theorem d_Pairs_add_0 : decode b_Pairs_add 0 = .ok (.aload_n 0, 1) := by decide +kernel
theorem d_Pairs_add_1 : decode b_Pairs_add 1 = .ok (.lload_n 1, 1) := by decide +kernel
theorem d_Pairs_add_2 : decode b_Pairs_add 2 = .ok (.lload_n 3, 1) := by decide +kernel
theorem d_Pairs_add_3 : decode b_Pairs_add 3 = .ok (.invokevirtual 26, 3) := by decide +kernel
theorem d_Pairs_add_6 : decode b_Pairs_add 6 = .ok (.istore 5, 2) := by decide +kernel
theorem d_Pairs_add_8 : decode b_Pairs_add 8 = .ok (.iload 5, 2) := by decide +kernel
theorem d_Pairs_add_10 : decode b_Pairs_add 10 = .ok (.ifCond .ge 54, 3) := by decide +kernel
theorem d_Pairs_add_13 : decode b_Pairs_add 13 = .ok (.aload_n 0, 1) := by decide +kernel
theorem d_Pairs_add_14 : decode b_Pairs_add 14 = .ok (.getfield 22, 3) := by decide +kernel
theorem d_Pairs_add_17 : decode b_Pairs_add 17 = .ok (.bipush 40, 2) := by decide +kernel
theorem d_Pairs_add_19 : decode b_Pairs_add 19 = .ok (.if_icmp .lt 5, 3) := by decide +kernel
theorem d_Pairs_add_22 : decode b_Pairs_add 22 = .ok (.iconst 0, 1) := by decide +kernel
theorem d_Pairs_add_23 : decode b_Pairs_add 23 = .ok (.ireturn, 1) := by decide +kernel
theorem d_Pairs_add_24 : decode b_Pairs_add 24 = .ok (.aload_n 0, 1) := by decide +kernel
theorem d_Pairs_add_25 : decode b_Pairs_add 25 = .ok (.getfield 22, 3) := by decide +kernel
theorem d_Pairs_add_28 : decode b_Pairs_add 28 = .ok (.istore 5, 2) := by decide +kernel
theorem d_Pairs_add_30 : decode b_Pairs_add 30 = .ok (.aload_n 0, 1) := by decide +kernel
theorem d_Pairs_add_31 : decode b_Pairs_add 31 = .ok (.getfield 9, 3) := by decide +kernel
theorem d_Pairs_add_34 : decode b_Pairs_add 34 = .ok (.iload 5, 2) := by decide +kernel
theorem d_Pairs_add_36 : decode b_Pairs_add 36 = .ok (.lload_n 1, 1) := by decide +kernel
theorem d_Pairs_add_37 : decode b_Pairs_add 37 = .ok (.lastore, 1) := by decide +kernel
theorem d_Pairs_add_38 : decode b_Pairs_add 38 = .ok (.aload_n 0, 1) := by decide +kernel
theorem d_Pairs_add_39 : decode b_Pairs_add 39 = .ok (.getfield 15, 3) := by decide +kernel
theorem d_Pairs_add_42 : decode b_Pairs_add 42 = .ok (.iload 5, 2) := by decide +kernel
theorem d_Pairs_add_44 : decode b_Pairs_add 44 = .ok (.lload_n 3, 1) := by decide +kernel
theorem d_Pairs_add_45 : decode b_Pairs_add 45 = .ok (.lastore, 1) := by decide +kernel
theorem d_Pairs_add_46 : decode b_Pairs_add 46 = .ok (.aload_n 0, 1) := by decide +kernel
theorem d_Pairs_add_47 : decode b_Pairs_add 47 = .ok (.getfield 18, 3) := by decide +kernel
theorem d_Pairs_add_50 : decode b_Pairs_add 50 = .ok (.iload 5, 2) := by decide +kernel
theorem d_Pairs_add_52 : decode b_Pairs_add 52 = .ok (.iconst 0, 1) := by decide +kernel
theorem d_Pairs_add_53 : decode b_Pairs_add 53 = .ok (.iastore, 1) := by decide +kernel
theorem d_Pairs_add_54 : decode b_Pairs_add 54 = .ok (.aload_n 0, 1) := by decide +kernel
theorem d_Pairs_add_55 : decode b_Pairs_add 55 = .ok (.dup, 1) := by decide +kernel
theorem d_Pairs_add_56 : decode b_Pairs_add 56 = .ok (.getfield 22, 3) := by decide +kernel
theorem d_Pairs_add_59 : decode b_Pairs_add 59 = .ok (.iconst 1, 1) := by decide +kernel
theorem d_Pairs_add_60 : decode b_Pairs_add 60 = .ok (.iadd, 1) := by decide +kernel
theorem d_Pairs_add_61 : decode b_Pairs_add 61 = .ok (.putfield 22, 3) := by decide +kernel
theorem d_Pairs_add_64 : decode b_Pairs_add 64 = .ok (.aload_n 0, 1) := by decide +kernel
theorem d_Pairs_add_65 : decode b_Pairs_add 65 = .ok (.getfield 18, 3) := by decide +kernel
theorem d_Pairs_add_68 : decode b_Pairs_add 68 = .ok (.iload 5, 2) := by decide +kernel
theorem d_Pairs_add_70 : decode b_Pairs_add 70 = .ok (.dup2, 1) := by decide +kernel
theorem d_Pairs_add_71 : decode b_Pairs_add 71 = .ok (.iaload, 1) := by decide +kernel
theorem d_Pairs_add_72 : decode b_Pairs_add 72 = .ok (.iconst 1, 1) := by decide +kernel
theorem d_Pairs_add_73 : decode b_Pairs_add 73 = .ok (.iadd, 1) := by decide +kernel
theorem d_Pairs_add_74 : decode b_Pairs_add 74 = .ok (.iastore, 1) := by decide +kernel
theorem d_Pairs_add_75 : decode b_Pairs_add 75 = .ok (.aload_n 0, 1) := by decide +kernel
theorem d_Pairs_add_76 : decode b_Pairs_add 76 = .ok (.getfield 18, 3) := by decide +kernel
theorem d_Pairs_add_79 : decode b_Pairs_add 79 = .ok (.iload 5, 2) := by decide +kernel
theorem d_Pairs_add_81 : decode b_Pairs_add 81 = .ok (.iaload, 1) := by decide +kernel
theorem d_Pairs_add_82 : decode b_Pairs_add 82 = .ok (.ireturn, 1) := by decide +kernel
theorem d_Pairs_saving_0 : decode b_Pairs_saving 0 = .ok (.aload_n 0, 1) := by decide +kernel
theorem d_Pairs_saving_1 : decode b_Pairs_saving 1 = .ok (.lload_n 1, 1) := by decide +kernel
theorem d_Pairs_saving_2 : decode b_Pairs_saving 2 = .ok (.lload_n 3, 1) := by decide +kernel
theorem d_Pairs_saving_3 : decode b_Pairs_saving 3 = .ok (.invokevirtual 26, 3) := by decide +kernel
theorem d_Pairs_saving_6 : decode b_Pairs_saving 6 = .ok (.istore 5, 2) := by decide +kernel
theorem d_Pairs_saving_8 : decode b_Pairs_saving 8 = .ok (.iload 5, 2) := by decide +kernel
theorem d_Pairs_saving_10 : decode b_Pairs_saving 10 = .ok (.ifCond .ge 7, 3) := by decide +kernel
theorem d_Pairs_saving_13 : decode b_Pairs_saving 13 = .ok (.iconst 0, 1) := by decide +kernel
theorem d_Pairs_saving_14 : decode b_Pairs_saving 14 = .ok (.goto 18, 3) := by decide +kernel
theorem d_Pairs_saving_17 : decode b_Pairs_saving 17 = .ok (.sipush 400, 3) := by decide +kernel
theorem d_Pairs_saving_20 : decode b_Pairs_saving 20 = .ok (.aload_n 0, 1) := by decide +kernel
theorem d_Pairs_saving_21 : decode b_Pairs_saving 21 = .ok (.getfield 18, 3) := by decide +kernel
theorem d_Pairs_saving_24 : decode b_Pairs_saving 24 = .ok (.iload 5, 2) := by decide +kernel
theorem d_Pairs_saving_26 : decode b_Pairs_saving 26 = .ok (.iaload, 1) := by decide +kernel
theorem d_Pairs_saving_27 : decode b_Pairs_saving 27 = .ok (.iconst 5, 1) := by decide +kernel
theorem d_Pairs_saving_28 : decode b_Pairs_saving 28 = .ok (.invokestatic 30, 3) := by decide +kernel
theorem d_Pairs_saving_31 : decode b_Pairs_saving 31 = .ok (.imul, 1) := by decide +kernel
theorem d_Pairs_saving_32 : decode b_Pairs_saving 32 = .ok (.ireturn, 1) := by decide +kernel
theorem d_Pairs_indexOf_0 : decode b_Pairs_indexOf 0 = .ok (.iconst 0, 1) := by decide +kernel
theorem d_Pairs_indexOf_1 : decode b_Pairs_indexOf 1 = .ok (.istore 5, 2) := by decide +kernel
theorem d_Pairs_indexOf_3 : decode b_Pairs_indexOf 3 = .ok (.iload 5, 2) := by decide +kernel
theorem d_Pairs_indexOf_5 : decode b_Pairs_indexOf 5 = .ok (.aload_n 0, 1) := by decide +kernel
theorem d_Pairs_indexOf_6 : decode b_Pairs_indexOf 6 = .ok (.getfield 22, 3) := by decide +kernel
theorem d_Pairs_indexOf_9 : decode b_Pairs_indexOf 9 = .ok (.if_icmp .ge 36, 3) := by decide +kernel
theorem d_Pairs_indexOf_12 : decode b_Pairs_indexOf 12 = .ok (.aload_n 0, 1) := by decide +kernel
theorem d_Pairs_indexOf_13 : decode b_Pairs_indexOf 13 = .ok (.getfield 9, 3) := by decide +kernel
theorem d_Pairs_indexOf_16 : decode b_Pairs_indexOf 16 = .ok (.iload 5, 2) := by decide +kernel
theorem d_Pairs_indexOf_18 : decode b_Pairs_indexOf 18 = .ok (.laload, 1) := by decide +kernel
theorem d_Pairs_indexOf_19 : decode b_Pairs_indexOf 19 = .ok (.lload_n 1, 1) := by decide +kernel
theorem d_Pairs_indexOf_20 : decode b_Pairs_indexOf 20 = .ok (.lcmp, 1) := by decide +kernel
theorem d_Pairs_indexOf_21 : decode b_Pairs_indexOf 21 = .ok (.ifCond .ne 18, 3) := by decide +kernel
theorem d_Pairs_indexOf_24 : decode b_Pairs_indexOf 24 = .ok (.aload_n 0, 1) := by decide +kernel
theorem d_Pairs_indexOf_25 : decode b_Pairs_indexOf 25 = .ok (.getfield 15, 3) := by decide +kernel
theorem d_Pairs_indexOf_28 : decode b_Pairs_indexOf 28 = .ok (.iload 5, 2) := by decide +kernel
theorem d_Pairs_indexOf_30 : decode b_Pairs_indexOf 30 = .ok (.laload, 1) := by decide +kernel
theorem d_Pairs_indexOf_31 : decode b_Pairs_indexOf 31 = .ok (.lload_n 3, 1) := by decide +kernel
theorem d_Pairs_indexOf_32 : decode b_Pairs_indexOf 32 = .ok (.lcmp, 1) := by decide +kernel
theorem d_Pairs_indexOf_33 : decode b_Pairs_indexOf 33 = .ok (.ifCond .ne 6, 3) := by decide +kernel
theorem d_Pairs_indexOf_36 : decode b_Pairs_indexOf 36 = .ok (.iload 5, 2) := by decide +kernel
theorem d_Pairs_indexOf_38 : decode b_Pairs_indexOf 38 = .ok (.ireturn, 1) := by decide +kernel
theorem d_Pairs_indexOf_39 : decode b_Pairs_indexOf 39 = .ok (.iinc 5 1, 3) := by decide +kernel
theorem d_Pairs_indexOf_42 : decode b_Pairs_indexOf 42 = .ok (.goto (-39), 3) := by decide +kernel
theorem d_Pairs_indexOf_45 : decode b_Pairs_indexOf 45 = .ok (.iconst (-1), 1) := by decide +kernel
theorem d_Pairs_indexOf_46 : decode b_Pairs_indexOf 46 = .ok (.ireturn, 1) := by decide +kernel
theorem d_Phrase_init_0 : decode b_Phrase_init 0 = .ok (.aload_n 0, 1) := by decide +kernel
theorem d_Phrase_init_1 : decode b_Phrase_init 1 = .ok (.invokespecial 3, 3) := by decide +kernel
theorem d_Phrase_init_4 : decode b_Phrase_init 4 = .ok (.aload_n 0, 1) := by decide +kernel
theorem d_Phrase_init_5 : decode b_Phrase_init 5 = .ok (.iconst 4, 1) := by decide +kernel
theorem d_Phrase_init_6 : decode b_Phrase_init 6 = .ok (.newarray .long, 2) := by decide +kernel
theorem d_Phrase_init_8 : decode b_Phrase_init 8 = .ok (.putfield 9, 3) := by decide +kernel
theorem d_Phrase_init_11 : decode b_Phrase_init 11 = .ok (.aload_n 0, 1) := by decide +kernel
theorem d_Phrase_init_12 : decode b_Phrase_init 12 = .ok (.iconst 4, 1) := by decide +kernel
theorem d_Phrase_init_13 : decode b_Phrase_init 13 = .ok (.newarray .long, 2) := by decide +kernel
theorem d_Phrase_init_15 : decode b_Phrase_init 15 = .ok (.putfield 15, 3) := by decide +kernel
theorem d_Phrase_init_18 : decode b_Phrase_init 18 = .ok (.aload_n 0, 1) := by decide +kernel
theorem d_Phrase_init_19 : decode b_Phrase_init 19 = .ok (.iconst 4, 1) := by decide +kernel
theorem d_Phrase_init_20 : decode b_Phrase_init 20 = .ok (.bipush 24, 2) := by decide +kernel
theorem d_Phrase_init_22 : decode b_Phrase_init 22 = .ok (.multianewarray 18 2, 4) := by decide +kernel
theorem d_Phrase_init_26 : decode b_Phrase_init 26 = .ok (.putfield 20, 3) := by decide +kernel
theorem d_Phrase_init_29 : decode b_Phrase_init 29 = .ok (.aload_n 0, 1) := by decide +kernel
theorem d_Phrase_init_30 : decode b_Phrase_init 30 = .ok (.iconst 4, 1) := by decide +kernel
theorem d_Phrase_init_31 : decode b_Phrase_init 31 = .ok (.bipush 24, 2) := by decide +kernel
theorem d_Phrase_init_33 : decode b_Phrase_init 33 = .ok (.multianewarray 23 2, 4) := by decide +kernel
theorem d_Phrase_init_37 : decode b_Phrase_init 37 = .ok (.putfield 25, 3) := by decide +kernel
theorem d_Phrase_init_40 : decode b_Phrase_init 40 = .ok (.aload_n 0, 1) := by decide +kernel
theorem d_Phrase_init_41 : decode b_Phrase_init 41 = .ok (.iconst 4, 1) := by decide +kernel
theorem d_Phrase_init_42 : decode b_Phrase_init 42 = .ok (.bipush 24, 2) := by decide +kernel
theorem d_Phrase_init_44 : decode b_Phrase_init 44 = .ok (.multianewarray 23 2, 4) := by decide +kernel
theorem d_Phrase_init_48 : decode b_Phrase_init 48 = .ok (.putfield 28, 3) := by decide +kernel
theorem d_Phrase_init_51 : decode b_Phrase_init 51 = .ok (.aload_n 0, 1) := by decide +kernel
theorem d_Phrase_init_52 : decode b_Phrase_init 52 = .ok (.iconst 4, 1) := by decide +kernel
theorem d_Phrase_init_53 : decode b_Phrase_init 53 = .ok (.newarray .int, 2) := by decide +kernel
theorem d_Phrase_init_55 : decode b_Phrase_init 55 = .ok (.putfield 31, 3) := by decide +kernel
theorem d_Phrase_init_58 : decode b_Phrase_init 58 = .ok (.aload_n 0, 1) := by decide +kernel
theorem d_Phrase_init_59 : decode b_Phrase_init 59 = .ok (.iconst 0, 1) := by decide +kernel
theorem d_Phrase_init_60 : decode b_Phrase_init 60 = .ok (.putfield 35, 3) := by decide +kernel
theorem d_Phrase_init_63 : decode b_Phrase_init 63 = .ok (.aload_n 0, 1) := by decide +kernel
theorem d_Phrase_init_64 : decode b_Phrase_init 64 = .ok (.iconst 0, 1) := by decide +kernel
theorem d_Phrase_init_65 : decode b_Phrase_init 65 = .ok (.putfield 39, 3) := by decide +kernel
theorem d_Phrase_init_68 : decode b_Phrase_init 68 = .ok (.return_, 1) := by decide +kernel
theorem d_Phrase_size_0 : decode b_Phrase_size 0 = .ok (.aload_n 0, 1) := by decide +kernel
theorem d_Phrase_size_1 : decode b_Phrase_size 1 = .ok (.getfield 35, 3) := by decide +kernel
theorem d_Phrase_size_4 : decode b_Phrase_size 4 = .ok (.ireturn, 1) := by decide +kernel
theorem d_Phrase_add_0 : decode b_Phrase_add 0 = .ok (.aload_n 0, 1) := by decide +kernel
theorem d_Phrase_add_1 : decode b_Phrase_add 1 = .ok (.getfield 35, 3) := by decide +kernel
theorem d_Phrase_add_4 : decode b_Phrase_add 4 = .ok (.iconst 4, 1) := by decide +kernel
theorem d_Phrase_add_5 : decode b_Phrase_add 5 = .ok (.if_icmp .lt 5, 3) := by decide +kernel
theorem d_Phrase_add_8 : decode b_Phrase_add 8 = .ok (.iconst 0, 1) := by decide +kernel
theorem d_Phrase_add_9 : decode b_Phrase_add 9 = .ok (.ireturn, 1) := by decide +kernel
theorem d_Phrase_add_10 : decode b_Phrase_add 10 = .ok (.aload_n 0, 1) := by decide +kernel
theorem d_Phrase_add_11 : decode b_Phrase_add 11 = .ok (.getfield 9, 3) := by decide +kernel
theorem d_Phrase_add_14 : decode b_Phrase_add 14 = .ok (.aload_n 0, 1) := by decide +kernel
theorem d_Phrase_add_15 : decode b_Phrase_add 15 = .ok (.getfield 35, 3) := by decide +kernel
theorem d_Phrase_add_18 : decode b_Phrase_add 18 = .ok (.lload_n 1, 1) := by decide +kernel
theorem d_Phrase_add_19 : decode b_Phrase_add 19 = .ok (.lastore, 1) := by decide +kernel
theorem d_Phrase_add_20 : decode b_Phrase_add 20 = .ok (.aload_n 0, 1) := by decide +kernel
theorem d_Phrase_add_21 : decode b_Phrase_add 21 = .ok (.dup, 1) := by decide +kernel
theorem d_Phrase_add_22 : decode b_Phrase_add 22 = .ok (.getfield 35, 3) := by decide +kernel
theorem d_Phrase_add_25 : decode b_Phrase_add 25 = .ok (.iconst 1, 1) := by decide +kernel
theorem d_Phrase_add_26 : decode b_Phrase_add 26 = .ok (.iadd, 1) := by decide +kernel
theorem d_Phrase_add_27 : decode b_Phrase_add 27 = .ok (.putfield 35, 3) := by decide +kernel
theorem d_Phrase_add_30 : decode b_Phrase_add 30 = .ok (.iconst 1, 1) := by decide +kernel
theorem d_Phrase_add_31 : decode b_Phrase_add 31 = .ok (.ireturn, 1) := by decide +kernel
theorem d_Phrase_clear_0 : decode b_Phrase_clear 0 = .ok (.aload_n 0, 1) := by decide +kernel
theorem d_Phrase_clear_1 : decode b_Phrase_clear 1 = .ok (.iconst 0, 1) := by decide +kernel
theorem d_Phrase_clear_2 : decode b_Phrase_clear 2 = .ok (.putfield 35, 3) := by decide +kernel
theorem d_Phrase_clear_5 : decode b_Phrase_clear 5 = .ok (.return_, 1) := by decide +kernel
theorem d_Phrase_chosenSize_0 : decode b_Phrase_chosenSize 0 = .ok (.aload_n 0, 1) := by decide +kernel
theorem d_Phrase_chosenSize_1 : decode b_Phrase_chosenSize 1 = .ok (.getfield 39, 3) := by decide +kernel
theorem d_Phrase_chosenSize_4 : decode b_Phrase_chosenSize 4 = .ok (.ireturn, 1) := by decide +kernel
theorem d_Phrase_chosenAt_0 : decode b_Phrase_chosenAt 0 = .ok (.aload_n 0, 1) := by decide +kernel
theorem d_Phrase_chosenAt_1 : decode b_Phrase_chosenAt 1 = .ok (.getfield 15, 3) := by decide +kernel
theorem d_Phrase_chosenAt_4 : decode b_Phrase_chosenAt 4 = .ok (.iload_n 1, 1) := by decide +kernel
theorem d_Phrase_chosenAt_5 : decode b_Phrase_chosenAt 5 = .ok (.laload, 1) := by decide +kernel
theorem d_Phrase_chosenAt_6 : decode b_Phrase_chosenAt 6 = .ok (.lreturn, 1) := by decide +kernel
theorem d_Phrase_settle_0 : decode b_Phrase_settle 0 = .ok (.aload_n 0, 1) := by decide +kernel
theorem d_Phrase_settle_1 : decode b_Phrase_settle 1 = .ok (.getfield 35, 3) := by decide +kernel
theorem d_Phrase_settle_4 : decode b_Phrase_settle 4 = .ok (.iconst 1, 1) := by decide +kernel
theorem d_Phrase_settle_5 : decode b_Phrase_settle 5 = .ok (.isub, 1) := by decide +kernel
theorem d_Phrase_settle_6 : decode b_Phrase_settle 6 = .ok (.istore 4, 2) := by decide +kernel
theorem d_Phrase_settle_8 : decode b_Phrase_settle 8 = .ok (.iload 4, 2) := by decide +kernel
theorem d_Phrase_settle_10 : decode b_Phrase_settle 10 = .ok (.ifCond .lt 35, 3) := by decide +kernel
theorem d_Phrase_settle_13 : decode b_Phrase_settle 13 = .ok (.aload_n 0, 1) := by decide +kernel
theorem d_Phrase_settle_14 : decode b_Phrase_settle 14 = .ok (.iload 4, 2) := by decide +kernel
theorem d_Phrase_settle_16 : decode b_Phrase_settle 16 = .ok (.aload_n 1, 1) := by decide +kernel
theorem d_Phrase_settle_17 : decode b_Phrase_settle 17 = .ok (.aload_n 2, 1) := by decide +kernel
theorem d_Phrase_settle_18 : decode b_Phrase_settle 18 = .ok (.invokevirtual 42, 3) := by decide +kernel
theorem d_Phrase_settle_21 : decode b_Phrase_settle 21 = .ok (.iload 4, 2) := by decide +kernel
theorem d_Phrase_settle_23 : decode b_Phrase_settle 23 = .ok (.aload_n 0, 1) := by decide +kernel
theorem d_Phrase_settle_24 : decode b_Phrase_settle 24 = .ok (.getfield 35, 3) := by decide +kernel
theorem d_Phrase_settle_27 : decode b_Phrase_settle 27 = .ok (.iconst 1, 1) := by decide +kernel
theorem d_Phrase_settle_28 : decode b_Phrase_settle 28 = .ok (.isub, 1) := by decide +kernel
theorem d_Phrase_settle_29 : decode b_Phrase_settle 29 = .ok (.if_icmp .ge 10, 3) := by decide +kernel
theorem d_Phrase_settle_32 : decode b_Phrase_settle 32 = .ok (.aload_n 0, 1) := by decide +kernel
theorem d_Phrase_settle_33 : decode b_Phrase_settle 33 = .ok (.iload 4, 2) := by decide +kernel
theorem d_Phrase_settle_35 : decode b_Phrase_settle 35 = .ok (.aload_n 3, 1) := by decide +kernel
theorem d_Phrase_settle_36 : decode b_Phrase_settle 36 = .ok (.invokevirtual 46, 3) := by decide +kernel
theorem d_Phrase_settle_39 : decode b_Phrase_settle 39 = .ok (.iinc 4 (-1), 3) := by decide +kernel
theorem d_Phrase_settle_42 : decode b_Phrase_settle 42 = .ok (.goto (-34), 3) := by decide +kernel
theorem d_Phrase_settle_45 : decode b_Phrase_settle 45 = .ok (.aload_n 0, 1) := by decide +kernel
theorem d_Phrase_settle_46 : decode b_Phrase_settle 46 = .ok (.invokevirtual 50, 3) := by decide +kernel
theorem d_Phrase_settle_49 : decode b_Phrase_settle 49 = .ok (.ireturn, 1) := by decide +kernel
theorem d_Phrase_gather_0 : decode b_Phrase_gather 0 = .ok (.iconst 0, 1) := by decide +kernel
theorem d_Phrase_gather_1 : decode b_Phrase_gather 1 = .ok (.istore 4, 2) := by decide +kernel
theorem d_Phrase_gather_3 : decode b_Phrase_gather 3 = .ok (.iconst 0, 1) := by decide +kernel
theorem d_Phrase_gather_4 : decode b_Phrase_gather 4 = .ok (.istore 5, 2) := by decide +kernel
theorem d_Phrase_gather_6 : decode b_Phrase_gather 6 = .ok (.iload 5, 2) := by decide +kernel
theorem d_Phrase_gather_8 : decode b_Phrase_gather 8 = .ok (.aload_n 2, 1) := by decide +kernel
theorem d_Phrase_gather_9 : decode b_Phrase_gather 9 = .ok (.invokevirtual 54, 3) := by decide +kernel
theorem d_Phrase_gather_12 : decode b_Phrase_gather 12 = .ok (.if_icmp .ge 73, 3) := by decide +kernel
theorem d_Phrase_gather_15 : decode b_Phrase_gather 15 = .ok (.aload_n 3, 1) := by decide +kernel
theorem d_Phrase_gather_16 : decode b_Phrase_gather 16 = .ok (.aload_n 0, 1) := by decide +kernel
theorem d_Phrase_gather_17 : decode b_Phrase_gather 17 = .ok (.getfield 9, 3) := by decide +kernel
theorem d_Phrase_gather_20 : decode b_Phrase_gather 20 = .ok (.iload_n 1, 1) := by decide +kernel
theorem d_Phrase_gather_21 : decode b_Phrase_gather 21 = .ok (.laload, 1) := by decide +kernel
theorem d_Phrase_gather_22 : decode b_Phrase_gather 22 = .ok (.aload_n 2, 1) := by decide +kernel
theorem d_Phrase_gather_23 : decode b_Phrase_gather 23 = .ok (.iload 5, 2) := by decide +kernel
theorem d_Phrase_gather_25 : decode b_Phrase_gather 25 = .ok (.invokevirtual 58, 3) := by decide +kernel
theorem d_Phrase_gather_28 : decode b_Phrase_gather 28 = .ok (.invokevirtual 62, 3) := by decide +kernel
theorem d_Phrase_gather_31 : decode b_Phrase_gather 31 = .ok (.istore 6, 2) := by decide +kernel
theorem d_Phrase_gather_33 : decode b_Phrase_gather 33 = .ok (.iload 6, 2) := by decide +kernel
theorem d_Phrase_gather_35 : decode b_Phrase_gather 35 = .ok (.iconst 1, 1) := by decide +kernel
theorem d_Phrase_gather_36 : decode b_Phrase_gather 36 = .ok (.if_icmp .gt 43, 3) := by decide +kernel
theorem d_Phrase_gather_39 : decode b_Phrase_gather 39 = .ok (.aload_n 0, 1) := by decide +kernel
theorem d_Phrase_gather_40 : decode b_Phrase_gather 40 = .ok (.getfield 20, 3) := by decide +kernel
theorem d_Phrase_gather_43 : decode b_Phrase_gather 43 = .ok (.iload_n 1, 1) := by decide +kernel
theorem d_Phrase_gather_44 : decode b_Phrase_gather 44 = .ok (.aaload, 1) := by decide +kernel
theorem d_Phrase_gather_45 : decode b_Phrase_gather 45 = .ok (.iload 4, 2) := by decide +kernel
theorem d_Phrase_gather_47 : decode b_Phrase_gather 47 = .ok (.aload_n 2, 1) := by decide +kernel
theorem d_Phrase_gather_48 : decode b_Phrase_gather 48 = .ok (.iload 5, 2) := by decide +kernel
theorem d_Phrase_gather_50 : decode b_Phrase_gather 50 = .ok (.invokevirtual 58, 3) := by decide +kernel
theorem d_Phrase_gather_53 : decode b_Phrase_gather 53 = .ok (.lastore, 1) := by decide +kernel
theorem d_Phrase_gather_54 : decode b_Phrase_gather 54 = .ok (.aload_n 0, 1) := by decide +kernel
theorem d_Phrase_gather_55 : decode b_Phrase_gather 55 = .ok (.getfield 25, 3) := by decide +kernel
theorem d_Phrase_gather_58 : decode b_Phrase_gather 58 = .ok (.iload_n 1, 1) := by decide +kernel
theorem d_Phrase_gather_59 : decode b_Phrase_gather 59 = .ok (.aaload, 1) := by decide +kernel
theorem d_Phrase_gather_60 : decode b_Phrase_gather 60 = .ok (.iload 4, 2) := by decide +kernel
theorem d_Phrase_gather_62 : decode b_Phrase_gather 62 = .ok (.sipush 3000, 3) := by decide +kernel
theorem d_Phrase_gather_65 : decode b_Phrase_gather 65 = .ok (.iload 6, 2) := by decide +kernel
theorem d_Phrase_gather_67 : decode b_Phrase_gather 67 = .ok (.imul, 1) := by decide +kernel
theorem d_Phrase_gather_68 : decode b_Phrase_gather 68 = .ok (.aload_n 2, 1) := by decide +kernel
theorem d_Phrase_gather_69 : decode b_Phrase_gather 69 = .ok (.iload 5, 2) := by decide +kernel
theorem d_Phrase_gather_71 : decode b_Phrase_gather 71 = .ok (.invokevirtual 68, 3) := by decide +kernel
theorem d_Phrase_gather_74 : decode b_Phrase_gather 74 = .ok (.iadd, 1) := by decide +kernel
theorem d_Phrase_gather_75 : decode b_Phrase_gather 75 = .ok (.iastore, 1) := by decide +kernel
theorem d_Phrase_gather_76 : decode b_Phrase_gather 76 = .ok (.iinc 4 1, 3) := by decide +kernel
theorem d_Phrase_gather_79 : decode b_Phrase_gather 79 = .ok (.iinc 5 1, 3) := by decide +kernel
theorem d_Phrase_gather_82 : decode b_Phrase_gather 82 = .ok (.goto (-76), 3) := by decide +kernel
theorem d_Phrase_gather_85 : decode b_Phrase_gather 85 = .ok (.iload 4, 2) := by decide +kernel
theorem d_Phrase_gather_87 : decode b_Phrase_gather 87 = .ok (.ifCond .ne 31, 3) := by decide +kernel
theorem d_Phrase_gather_90 : decode b_Phrase_gather 90 = .ok (.aload_n 0, 1) := by decide +kernel
theorem d_Phrase_gather_91 : decode b_Phrase_gather 91 = .ok (.getfield 20, 3) := by decide +kernel
theorem d_Phrase_gather_94 : decode b_Phrase_gather 94 = .ok (.iload_n 1, 1) := by decide +kernel
theorem d_Phrase_gather_95 : decode b_Phrase_gather 95 = .ok (.aaload, 1) := by decide +kernel
theorem d_Phrase_gather_96 : decode b_Phrase_gather 96 = .ok (.iconst 0, 1) := by decide +kernel
theorem d_Phrase_gather_97 : decode b_Phrase_gather 97 = .ok (.aload_n 0, 1) := by decide +kernel
theorem d_Phrase_gather_98 : decode b_Phrase_gather 98 = .ok (.getfield 9, 3) := by decide +kernel
theorem d_Phrase_gather_101 : decode b_Phrase_gather 101 = .ok (.iload_n 1, 1) := by decide +kernel
theorem d_Phrase_gather_102 : decode b_Phrase_gather 102 = .ok (.laload, 1) := by decide +kernel
theorem d_Phrase_gather_103 : decode b_Phrase_gather 103 = .ok (.lastore, 1) := by decide +kernel
theorem d_Phrase_gather_104 : decode b_Phrase_gather 104 = .ok (.aload_n 0, 1) := by decide +kernel
theorem d_Phrase_gather_105 : decode b_Phrase_gather 105 = .ok (.getfield 25, 3) := by decide +kernel
theorem d_Phrase_gather_108 : decode b_Phrase_gather 108 = .ok (.iload_n 1, 1) := by decide +kernel
theorem d_Phrase_gather_109 : decode b_Phrase_gather 109 = .ok (.aaload, 1) := by decide +kernel
theorem d_Phrase_gather_110 : decode b_Phrase_gather 110 = .ok (.iconst 0, 1) := by decide +kernel
theorem d_Phrase_gather_111 : decode b_Phrase_gather 111 = .ok (.sipush 20000, 3) := by decide +kernel
theorem d_Phrase_gather_114 : decode b_Phrase_gather 114 = .ok (.iastore, 1) := by decide +kernel
theorem d_Phrase_gather_115 : decode b_Phrase_gather 115 = .ok (.iconst 1, 1) := by decide +kernel
theorem d_Phrase_gather_116 : decode b_Phrase_gather 116 = .ok (.istore 4, 2) := by decide +kernel
theorem d_Phrase_gather_118 : decode b_Phrase_gather 118 = .ok (.aload_n 0, 1) := by decide +kernel
theorem d_Phrase_gather_119 : decode b_Phrase_gather 119 = .ok (.getfield 31, 3) := by decide +kernel
theorem d_Phrase_gather_122 : decode b_Phrase_gather 122 = .ok (.iload_n 1, 1) := by decide +kernel
theorem d_Phrase_gather_123 : decode b_Phrase_gather 123 = .ok (.iload 4, 2) := by decide +kernel
theorem d_Phrase_gather_125 : decode b_Phrase_gather 125 = .ok (.iastore, 1) := by decide +kernel
theorem d_Phrase_gather_126 : decode b_Phrase_gather 126 = .ok (.return_, 1) := by decide +kernel
theorem d_Phrase_chooseFollowers_0 : decode b_Phrase_chooseFollowers 0 = .ok (.iconst 0, 1) := by decide +kernel
theorem d_Phrase_chooseFollowers_1 : decode b_Phrase_chooseFollowers 1 = .ok (.istore_n 3, 1) := by decide +kernel
theorem d_Phrase_chooseFollowers_2 : decode b_Phrase_chooseFollowers 2 = .ok (.iload_n 3, 1) := by decide +kernel
theorem d_Phrase_chooseFollowers_3 : decode b_Phrase_chooseFollowers 3 = .ok (.aload_n 0, 1) := by decide +kernel
theorem d_Phrase_chooseFollowers_4 : decode b_Phrase_chooseFollowers 4 = .ok (.getfield 31, 3) := by decide +kernel
theorem d_Phrase_chooseFollowers_7 : decode b_Phrase_chooseFollowers 7 = .ok (.iload_n 1, 1) := by decide +kernel
theorem d_Phrase_chooseFollowers_8 : decode b_Phrase_chooseFollowers 8 = .ok (.iaload, 1) := by decide +kernel
theorem d_Phrase_chooseFollowers_9 : decode b_Phrase_chooseFollowers 9 = .ok (.if_icmp .ge 90, 3) := by decide +kernel
theorem d_Phrase_chooseFollowers_12 : decode b_Phrase_chooseFollowers 12 = .ok (.iconst 0, 1) := by decide +kernel
theorem d_Phrase_chooseFollowers_13 : decode b_Phrase_chooseFollowers 13 = .ok (.istore 4, 2) := by decide +kernel
theorem d_Phrase_chooseFollowers_15 : decode b_Phrase_chooseFollowers 15 = .ok (.aload_n 0, 1) := by decide +kernel
theorem d_Phrase_chooseFollowers_16 : decode b_Phrase_chooseFollowers 16 = .ok (.iload_n 1, 1) := by decide +kernel
theorem d_Phrase_chooseFollowers_17 : decode b_Phrase_chooseFollowers 17 = .ok (.iload_n 3, 1) := by decide +kernel
theorem d_Phrase_chooseFollowers_18 : decode b_Phrase_chooseFollowers 18 = .ok (.iconst 0, 1) := by decide +kernel
theorem d_Phrase_chooseFollowers_19 : decode b_Phrase_chooseFollowers 19 = .ok (.aload_n 2, 1) := by decide +kernel
theorem d_Phrase_chooseFollowers_20 : decode b_Phrase_chooseFollowers 20 = .ok (.invokevirtual 72, 3) := by decide +kernel
theorem d_Phrase_chooseFollowers_23 : decode b_Phrase_chooseFollowers 23 = .ok (.istore 5, 2) := by decide +kernel
theorem d_Phrase_chooseFollowers_25 : decode b_Phrase_chooseFollowers 25 = .ok (.iconst 1, 1) := by decide +kernel
theorem d_Phrase_chooseFollowers_26 : decode b_Phrase_chooseFollowers 26 = .ok (.istore 6, 2) := by decide +kernel
theorem d_Phrase_chooseFollowers_28 : decode b_Phrase_chooseFollowers 28 = .ok (.iload 6, 2) := by decide +kernel
theorem d_Phrase_chooseFollowers_30 : decode b_Phrase_chooseFollowers 30 = .ok (.aload_n 0, 1) := by decide +kernel
theorem d_Phrase_chooseFollowers_31 : decode b_Phrase_chooseFollowers 31 = .ok (.getfield 31, 3) := by decide +kernel
theorem d_Phrase_chooseFollowers_34 : decode b_Phrase_chooseFollowers 34 = .ok (.iload_n 1, 1) := by decide +kernel
theorem d_Phrase_chooseFollowers_35 : decode b_Phrase_chooseFollowers 35 = .ok (.iconst 1, 1) := by decide +kernel
theorem d_Phrase_chooseFollowers_36 : decode b_Phrase_chooseFollowers 36 = .ok (.iadd, 1) := by decide +kernel
theorem d_Phrase_chooseFollowers_37 : decode b_Phrase_chooseFollowers 37 = .ok (.iaload, 1) := by decide +kernel
theorem d_Phrase_chooseFollowers_38 : decode b_Phrase_chooseFollowers 38 = .ok (.if_icmp .ge 35, 3) := by decide +kernel
theorem d_Phrase_chooseFollowers_41 : decode b_Phrase_chooseFollowers 41 = .ok (.aload_n 0, 1) := by decide +kernel
theorem d_Phrase_chooseFollowers_42 : decode b_Phrase_chooseFollowers 42 = .ok (.iload_n 1, 1) := by decide +kernel
theorem d_Phrase_chooseFollowers_43 : decode b_Phrase_chooseFollowers 43 = .ok (.iload_n 3, 1) := by decide +kernel
theorem d_Phrase_chooseFollowers_44 : decode b_Phrase_chooseFollowers 44 = .ok (.iload 6, 2) := by decide +kernel
theorem d_Phrase_chooseFollowers_46 : decode b_Phrase_chooseFollowers 46 = .ok (.aload_n 2, 1) := by decide +kernel
theorem d_Phrase_chooseFollowers_47 : decode b_Phrase_chooseFollowers 47 = .ok (.invokevirtual 72, 3) := by decide +kernel
theorem d_Phrase_chooseFollowers_50 : decode b_Phrase_chooseFollowers 50 = .ok (.istore 7, 2) := by decide +kernel
theorem d_Phrase_chooseFollowers_52 : decode b_Phrase_chooseFollowers 52 = .ok (.iload 7, 2) := by decide +kernel
theorem d_Phrase_chooseFollowers_54 : decode b_Phrase_chooseFollowers 54 = .ok (.iload 5, 2) := by decide +kernel
theorem d_Phrase_chooseFollowers_56 : decode b_Phrase_chooseFollowers 56 = .ok (.if_icmp .ge 11, 3) := by decide +kernel
theorem d_Phrase_chooseFollowers_59 : decode b_Phrase_chooseFollowers 59 = .ok (.iload 6, 2) := by decide +kernel
theorem d_Phrase_chooseFollowers_61 : decode b_Phrase_chooseFollowers 61 = .ok (.istore 4, 2) := by decide +kernel
theorem d_Phrase_chooseFollowers_63 : decode b_Phrase_chooseFollowers 63 = .ok (.iload 7, 2) := by decide +kernel
theorem d_Phrase_chooseFollowers_65 : decode b_Phrase_chooseFollowers 65 = .ok (.istore 5, 2) := by decide +kernel
theorem d_Phrase_chooseFollowers_67 : decode b_Phrase_chooseFollowers 67 = .ok (.iinc 6 1, 3) := by decide +kernel
theorem d_Phrase_chooseFollowers_70 : decode b_Phrase_chooseFollowers 70 = .ok (.goto (-42), 3) := by decide +kernel
theorem d_Phrase_chooseFollowers_73 : decode b_Phrase_chooseFollowers 73 = .ok (.aload_n 0, 1) := by decide +kernel
theorem d_Phrase_chooseFollowers_74 : decode b_Phrase_chooseFollowers 74 = .ok (.getfield 28, 3) := by decide +kernel
theorem d_Phrase_chooseFollowers_77 : decode b_Phrase_chooseFollowers 77 = .ok (.iload_n 1, 1) := by decide +kernel
theorem d_Phrase_chooseFollowers_78 : decode b_Phrase_chooseFollowers 78 = .ok (.aaload, 1) := by decide +kernel
theorem d_Phrase_chooseFollowers_79 : decode b_Phrase_chooseFollowers 79 = .ok (.iload_n 3, 1) := by decide +kernel
theorem d_Phrase_chooseFollowers_80 : decode b_Phrase_chooseFollowers 80 = .ok (.iload 4, 2) := by decide +kernel
theorem d_Phrase_chooseFollowers_82 : decode b_Phrase_chooseFollowers 82 = .ok (.iastore, 1) := by decide +kernel
theorem d_Phrase_chooseFollowers_83 : decode b_Phrase_chooseFollowers 83 = .ok (.aload_n 0, 1) := by decide +kernel
theorem d_Phrase_chooseFollowers_84 : decode b_Phrase_chooseFollowers 84 = .ok (.getfield 25, 3) := by decide +kernel
theorem d_Phrase_chooseFollowers_87 : decode b_Phrase_chooseFollowers 87 = .ok (.iload_n 1, 1) := by decide +kernel
theorem d_Phrase_chooseFollowers_88 : decode b_Phrase_chooseFollowers 88 = .ok (.aaload, 1) := by decide +kernel
theorem d_Phrase_chooseFollowers_89 : decode b_Phrase_chooseFollowers 89 = .ok (.iload_n 3, 1) := by decide +kernel
theorem d_Phrase_chooseFollowers_90 : decode b_Phrase_chooseFollowers 90 = .ok (.iload 5, 2) := by decide +kernel
theorem d_Phrase_chooseFollowers_92 : decode b_Phrase_chooseFollowers 92 = .ok (.iastore, 1) := by decide +kernel
theorem d_Phrase_chooseFollowers_93 : decode b_Phrase_chooseFollowers 93 = .ok (.iinc 3 1, 3) := by decide +kernel
theorem d_Phrase_chooseFollowers_96 : decode b_Phrase_chooseFollowers 96 = .ok (.goto (-94), 3) := by decide +kernel
theorem d_Phrase_chooseFollowers_99 : decode b_Phrase_chooseFollowers 99 = .ok (.return_, 1) := by decide +kernel
theorem d_Phrase_costWith_0 : decode b_Phrase_costWith 0 = .ok (.aload_n 0, 1) := by decide +kernel
theorem d_Phrase_costWith_1 : decode b_Phrase_costWith 1 = .ok (.getfield 20, 3) := by decide +kernel
theorem d_Phrase_costWith_4 : decode b_Phrase_costWith 4 = .ok (.iload_n 1, 1) := by decide +kernel
theorem d_Phrase_costWith_5 : decode b_Phrase_costWith 5 = .ok (.aaload, 1) := by decide +kernel
theorem d_Phrase_costWith_6 : decode b_Phrase_costWith 6 = .ok (.iload_n 2, 1) := by decide +kernel
theorem d_Phrase_costWith_7 : decode b_Phrase_costWith 7 = .ok (.laload, 1) := by decide +kernel
theorem d_Phrase_costWith_8 : decode b_Phrase_costWith 8 = .ok (.lstore 5, 2) := by decide +kernel
theorem d_Phrase_costWith_10 : decode b_Phrase_costWith 10 = .ok (.aload_n 0, 1) := by decide +kernel
theorem d_Phrase_costWith_11 : decode b_Phrase_costWith 11 = .ok (.getfield 20, 3) := by decide +kernel
theorem d_Phrase_costWith_14 : decode b_Phrase_costWith 14 = .ok (.iload_n 1, 1) := by decide +kernel
theorem d_Phrase_costWith_15 : decode b_Phrase_costWith 15 = .ok (.iconst 1, 1) := by decide +kernel
theorem d_Phrase_costWith_16 : decode b_Phrase_costWith 16 = .ok (.iadd, 1) := by decide +kernel
theorem d_Phrase_costWith_17 : decode b_Phrase_costWith 17 = .ok (.aaload, 1) := by decide +kernel
theorem d_Phrase_costWith_18 : decode b_Phrase_costWith 18 = .ok (.iload_n 3, 1) := by decide +kernel
theorem d_Phrase_costWith_19 : decode b_Phrase_costWith 19 = .ok (.laload, 1) := by decide +kernel
theorem d_Phrase_costWith_20 : decode b_Phrase_costWith 20 = .ok (.lstore 7, 2) := by decide +kernel
theorem d_Phrase_costWith_22 : decode b_Phrase_costWith 22 = .ok (.aload_n 0, 1) := by decide +kernel
theorem d_Phrase_costWith_23 : decode b_Phrase_costWith 23 = .ok (.getfield 25, 3) := by decide +kernel
theorem d_Phrase_costWith_26 : decode b_Phrase_costWith 26 = .ok (.iload_n 1, 1) := by decide +kernel
theorem d_Phrase_costWith_27 : decode b_Phrase_costWith 27 = .ok (.aaload, 1) := by decide +kernel
theorem d_Phrase_costWith_28 : decode b_Phrase_costWith 28 = .ok (.iload_n 2, 1) := by decide +kernel
theorem d_Phrase_costWith_29 : decode b_Phrase_costWith 29 = .ok (.iaload, 1) := by decide +kernel
theorem d_Phrase_costWith_30 : decode b_Phrase_costWith 30 = .ok (.aload_n 0, 1) := by decide +kernel
theorem d_Phrase_costWith_31 : decode b_Phrase_costWith 31 = .ok (.getfield 25, 3) := by decide +kernel
theorem d_Phrase_costWith_34 : decode b_Phrase_costWith 34 = .ok (.iload_n 1, 1) := by decide +kernel
theorem d_Phrase_costWith_35 : decode b_Phrase_costWith 35 = .ok (.iconst 1, 1) := by decide +kernel
theorem d_Phrase_costWith_36 : decode b_Phrase_costWith 36 = .ok (.iadd, 1) := by decide +kernel
theorem d_Phrase_costWith_37 : decode b_Phrase_costWith 37 = .ok (.aaload, 1) := by decide +kernel
theorem d_Phrase_costWith_38 : decode b_Phrase_costWith 38 = .ok (.iload_n 3, 1) := by decide +kernel
theorem d_Phrase_costWith_39 : decode b_Phrase_costWith 39 = .ok (.iaload, 1) := by decide +kernel
theorem d_Phrase_costWith_40 : decode b_Phrase_costWith 40 = .ok (.iadd, 1) := by decide +kernel
theorem d_Phrase_costWith_41 : decode b_Phrase_costWith 41 = .ok (.aload 4, 2) := by decide +kernel
theorem d_Phrase_costWith_43 : decode b_Phrase_costWith 43 = .ok (.lload 5, 2) := by decide +kernel
theorem d_Phrase_costWith_45 : decode b_Phrase_costWith 45 = .ok (.lload 7, 2) := by decide +kernel
theorem d_Phrase_costWith_47 : decode b_Phrase_costWith 47 = .ok (.invokevirtual 76, 3) := by decide +kernel
theorem d_Phrase_costWith_50 : decode b_Phrase_costWith 50 = .ok (.isub, 1) := by decide +kernel
theorem d_Phrase_costWith_51 : decode b_Phrase_costWith 51 = .ok (.ireturn, 1) := by decide +kernel
theorem d_Phrase_choose_0 : decode b_Phrase_choose 0 = .ok (.iconst 0, 1) := by decide +kernel
theorem d_Phrase_choose_1 : decode b_Phrase_choose 1 = .ok (.istore_n 1, 1) := by decide +kernel
theorem d_Phrase_choose_2 : decode b_Phrase_choose 2 = .ok (.iconst 1, 1) := by decide +kernel
theorem d_Phrase_choose_3 : decode b_Phrase_choose 3 = .ok (.istore_n 2, 1) := by decide +kernel
theorem d_Phrase_choose_4 : decode b_Phrase_choose 4 = .ok (.iload_n 2, 1) := by decide +kernel
theorem d_Phrase_choose_5 : decode b_Phrase_choose 5 = .ok (.aload_n 0, 1) := by decide +kernel
theorem d_Phrase_choose_6 : decode b_Phrase_choose 6 = .ok (.getfield 31, 3) := by decide +kernel
theorem d_Phrase_choose_9 : decode b_Phrase_choose 9 = .ok (.iconst 0, 1) := by decide +kernel
theorem d_Phrase_choose_10 : decode b_Phrase_choose 10 = .ok (.iaload, 1) := by decide +kernel
theorem d_Phrase_choose_11 : decode b_Phrase_choose 11 = .ok (.if_icmp .ge 30, 3) := by decide +kernel
theorem d_Phrase_choose_14 : decode b_Phrase_choose 14 = .ok (.aload_n 0, 1) := by decide +kernel
theorem d_Phrase_choose_15 : decode b_Phrase_choose 15 = .ok (.getfield 25, 3) := by decide +kernel
theorem d_Phrase_choose_18 : decode b_Phrase_choose 18 = .ok (.iconst 0, 1) := by decide +kernel
theorem d_Phrase_choose_19 : decode b_Phrase_choose 19 = .ok (.aaload, 1) := by decide +kernel
theorem d_Phrase_choose_20 : decode b_Phrase_choose 20 = .ok (.iload_n 2, 1) := by decide +kernel
theorem d_Phrase_choose_21 : decode b_Phrase_choose 21 = .ok (.iaload, 1) := by decide +kernel
theorem d_Phrase_choose_22 : decode b_Phrase_choose 22 = .ok (.aload_n 0, 1) := by decide +kernel
theorem d_Phrase_choose_23 : decode b_Phrase_choose 23 = .ok (.getfield 25, 3) := by decide +kernel
theorem d_Phrase_choose_26 : decode b_Phrase_choose 26 = .ok (.iconst 0, 1) := by decide +kernel
theorem d_Phrase_choose_27 : decode b_Phrase_choose 27 = .ok (.aaload, 1) := by decide +kernel
theorem d_Phrase_choose_28 : decode b_Phrase_choose 28 = .ok (.iload_n 1, 1) := by decide +kernel
theorem d_Phrase_choose_29 : decode b_Phrase_choose 29 = .ok (.iaload, 1) := by decide +kernel
theorem d_Phrase_choose_30 : decode b_Phrase_choose 30 = .ok (.if_icmp .ge 5, 3) := by decide +kernel
theorem d_Phrase_choose_33 : decode b_Phrase_choose 33 = .ok (.iload_n 2, 1) := by decide +kernel
theorem d_Phrase_choose_34 : decode b_Phrase_choose 34 = .ok (.istore_n 1, 1) := by decide +kernel
theorem d_Phrase_choose_35 : decode b_Phrase_choose 35 = .ok (.iinc 2 1, 3) := by decide +kernel
theorem d_Phrase_choose_38 : decode b_Phrase_choose 38 = .ok (.goto (-34), 3) := by decide +kernel
theorem d_Phrase_choose_41 : decode b_Phrase_choose 41 = .ok (.iload_n 1, 1) := by decide +kernel
theorem d_Phrase_choose_42 : decode b_Phrase_choose 42 = .ok (.istore_n 2, 1) := by decide +kernel
theorem d_Phrase_choose_43 : decode b_Phrase_choose 43 = .ok (.aload_n 0, 1) := by decide +kernel
theorem d_Phrase_choose_44 : decode b_Phrase_choose 44 = .ok (.getfield 15, 3) := by decide +kernel
theorem d_Phrase_choose_47 : decode b_Phrase_choose 47 = .ok (.iconst 0, 1) := by decide +kernel
theorem d_Phrase_choose_48 : decode b_Phrase_choose 48 = .ok (.aload_n 0, 1) := by decide +kernel
theorem d_Phrase_choose_49 : decode b_Phrase_choose 49 = .ok (.getfield 20, 3) := by decide +kernel
theorem d_Phrase_choose_52 : decode b_Phrase_choose 52 = .ok (.iconst 0, 1) := by decide +kernel
theorem d_Phrase_choose_53 : decode b_Phrase_choose 53 = .ok (.aaload, 1) := by decide +kernel
theorem d_Phrase_choose_54 : decode b_Phrase_choose 54 = .ok (.iload_n 2, 1) := by decide +kernel
theorem d_Phrase_choose_55 : decode b_Phrase_choose 55 = .ok (.laload, 1) := by decide +kernel
theorem d_Phrase_choose_56 : decode b_Phrase_choose 56 = .ok (.lastore, 1) := by decide +kernel
theorem d_Phrase_choose_57 : decode b_Phrase_choose 57 = .ok (.iconst 1, 1) := by decide +kernel
theorem d_Phrase_choose_58 : decode b_Phrase_choose 58 = .ok (.istore_n 3, 1) := by decide +kernel
theorem d_Phrase_choose_59 : decode b_Phrase_choose 59 = .ok (.iload_n 3, 1) := by decide +kernel
theorem d_Phrase_choose_60 : decode b_Phrase_choose 60 = .ok (.aload_n 0, 1) := by decide +kernel
theorem d_Phrase_choose_61 : decode b_Phrase_choose 61 = .ok (.getfield 35, 3) := by decide +kernel
theorem d_Phrase_choose_64 : decode b_Phrase_choose 64 = .ok (.if_icmp .ge 34, 3) := by decide +kernel
theorem d_Phrase_choose_67 : decode b_Phrase_choose 67 = .ok (.aload_n 0, 1) := by decide +kernel
theorem d_Phrase_choose_68 : decode b_Phrase_choose 68 = .ok (.getfield 28, 3) := by decide +kernel
theorem d_Phrase_choose_71 : decode b_Phrase_choose 71 = .ok (.iload_n 3, 1) := by decide +kernel
theorem d_Phrase_choose_72 : decode b_Phrase_choose 72 = .ok (.iconst 1, 1) := by decide +kernel
theorem d_Phrase_choose_73 : decode b_Phrase_choose 73 = .ok (.isub, 1) := by decide +kernel
theorem d_Phrase_choose_74 : decode b_Phrase_choose 74 = .ok (.aaload, 1) := by decide +kernel
theorem d_Phrase_choose_75 : decode b_Phrase_choose 75 = .ok (.iload_n 2, 1) := by decide +kernel
theorem d_Phrase_choose_76 : decode b_Phrase_choose 76 = .ok (.iaload, 1) := by decide +kernel
theorem d_Phrase_choose_77 : decode b_Phrase_choose 77 = .ok (.istore_n 2, 1) := by decide +kernel
theorem d_Phrase_choose_78 : decode b_Phrase_choose 78 = .ok (.aload_n 0, 1) := by decide +kernel
theorem d_Phrase_choose_79 : decode b_Phrase_choose 79 = .ok (.getfield 15, 3) := by decide +kernel
theorem d_Phrase_choose_82 : decode b_Phrase_choose 82 = .ok (.iload_n 3, 1) := by decide +kernel
theorem d_Phrase_choose_83 : decode b_Phrase_choose 83 = .ok (.aload_n 0, 1) := by decide +kernel
theorem d_Phrase_choose_84 : decode b_Phrase_choose 84 = .ok (.getfield 20, 3) := by decide +kernel
theorem d_Phrase_choose_87 : decode b_Phrase_choose 87 = .ok (.iload_n 3, 1) := by decide +kernel
theorem d_Phrase_choose_88 : decode b_Phrase_choose 88 = .ok (.aaload, 1) := by decide +kernel
theorem d_Phrase_choose_89 : decode b_Phrase_choose 89 = .ok (.iload_n 2, 1) := by decide +kernel
theorem d_Phrase_choose_90 : decode b_Phrase_choose 90 = .ok (.laload, 1) := by decide +kernel
theorem d_Phrase_choose_91 : decode b_Phrase_choose 91 = .ok (.lastore, 1) := by decide +kernel
theorem d_Phrase_choose_92 : decode b_Phrase_choose 92 = .ok (.iinc 3 1, 3) := by decide +kernel
theorem d_Phrase_choose_95 : decode b_Phrase_choose 95 = .ok (.goto (-36), 3) := by decide +kernel
theorem d_Phrase_choose_98 : decode b_Phrase_choose 98 = .ok (.aload_n 0, 1) := by decide +kernel
theorem d_Phrase_choose_99 : decode b_Phrase_choose 99 = .ok (.aload_n 0, 1) := by decide +kernel
end
section
theorem d_Phrase_choose_100 : decode b_Phrase_choose 100 = .ok (.getfield 35, 3) := by decide +kernel
theorem d_Phrase_choose_103 : decode b_Phrase_choose 103 = .ok (.putfield 39, 3) := by decide +kernel
theorem d_Phrase_choose_106 : decode b_Phrase_choose 106 = .ok (.aload_n 0, 1) := by decide +kernel
theorem d_Phrase_choose_107 : decode b_Phrase_choose 107 = .ok (.getfield 25, 3) := by decide +kernel
theorem d_Phrase_choose_110 : decode b_Phrase_choose 110 = .ok (.iconst 0, 1) := by decide +kernel
theorem d_Phrase_choose_111 : decode b_Phrase_choose 111 = .ok (.aaload, 1) := by decide +kernel
theorem d_Phrase_choose_112 : decode b_Phrase_choose 112 = .ok (.iload_n 1, 1) := by decide +kernel
theorem d_Phrase_choose_113 : decode b_Phrase_choose 113 = .ok (.iaload, 1) := by decide +kernel
theorem d_Phrase_choose_114 : decode b_Phrase_choose 114 = .ok (.ireturn, 1) := by decide +kernel
theorem d_Ruler_init_0 : decode b_Ruler_init 0 = .ok (.aload_n 0, 1) := by decide +kernel
theorem d_Ruler_init_1 : decode b_Ruler_init 1 = .ok (.invokespecial 3, 3) := by decide +kernel
theorem d_Ruler_init_4 : decode b_Ruler_init 4 = .ok (.aload_n 0, 1) := by decide +kernel
theorem d_Ruler_init_5 : decode b_Ruler_init 5 = .ok (.bipush 9, 2) := by decide +kernel
theorem d_Ruler_init_7 : decode b_Ruler_init 7 = .ok (.bipush 9, 2) := by decide +kernel
theorem d_Ruler_init_9 : decode b_Ruler_init 9 = .ok (.multianewarray 9 2, 4) := by decide +kernel
theorem d_Ruler_init_13 : decode b_Ruler_init 13 = .ok (.putfield 11, 3) := by decide +kernel
theorem d_Ruler_init_16 : decode b_Ruler_init 16 = .ok (.iconst 0, 1) := by decide +kernel
theorem d_Ruler_init_17 : decode b_Ruler_init 17 = .ok (.istore_n 1, 1) := by decide +kernel
theorem d_Ruler_init_18 : decode b_Ruler_init 18 = .ok (.iload_n 1, 1) := by decide +kernel
theorem d_Ruler_init_19 : decode b_Ruler_init 19 = .ok (.bipush 8, 2) := by decide +kernel
theorem d_Ruler_init_21 : decode b_Ruler_init 21 = .ok (.if_icmp .gt 27, 3) := by decide +kernel
theorem d_Ruler_init_24 : decode b_Ruler_init 24 = .ok (.aload_n 0, 1) := by decide +kernel
theorem d_Ruler_init_25 : decode b_Ruler_init 25 = .ok (.getfield 11, 3) := by decide +kernel
theorem d_Ruler_init_28 : decode b_Ruler_init 28 = .ok (.iload_n 1, 1) := by decide +kernel
theorem d_Ruler_init_29 : decode b_Ruler_init 29 = .ok (.aaload, 1) := by decide +kernel
theorem d_Ruler_init_30 : decode b_Ruler_init 30 = .ok (.iconst 0, 1) := by decide +kernel
theorem d_Ruler_init_31 : decode b_Ruler_init 31 = .ok (.iload_n 1, 1) := by decide +kernel
theorem d_Ruler_init_32 : decode b_Ruler_init 32 = .ok (.iastore, 1) := by decide +kernel
theorem d_Ruler_init_33 : decode b_Ruler_init 33 = .ok (.aload_n 0, 1) := by decide +kernel
theorem d_Ruler_init_34 : decode b_Ruler_init 34 = .ok (.getfield 11, 3) := by decide +kernel
theorem d_Ruler_init_37 : decode b_Ruler_init 37 = .ok (.iconst 0, 1) := by decide +kernel
theorem d_Ruler_init_38 : decode b_Ruler_init 38 = .ok (.aaload, 1) := by decide +kernel
theorem d_Ruler_init_39 : decode b_Ruler_init 39 = .ok (.iload_n 1, 1) := by decide +kernel
theorem d_Ruler_init_40 : decode b_Ruler_init 40 = .ok (.iload_n 1, 1) := by decide +kernel
theorem d_Ruler_init_41 : decode b_Ruler_init 41 = .ok (.iastore, 1) := by decide +kernel
theorem d_Ruler_init_42 : decode b_Ruler_init 42 = .ok (.iinc 1 1, 3) := by decide +kernel
theorem d_Ruler_init_45 : decode b_Ruler_init 45 = .ok (.goto (-27), 3) := by decide +kernel
theorem d_Ruler_init_48 : decode b_Ruler_init 48 = .ok (.return_, 1) := by decide +kernel
theorem d_Ruler_between_0 : decode b_Ruler_between 0 = .ok (.lload_n 1, 1) := by decide +kernel
theorem d_Ruler_between_1 : decode b_Ruler_between 1 = .ok (.invokestatic 16, 3) := by decide +kernel
theorem d_Ruler_between_4 : decode b_Ruler_between 4 = .ok (.istore 5, 2) := by decide +kernel
theorem d_Ruler_between_6 : decode b_Ruler_between 6 = .ok (.lload_n 3, 1) := by decide +kernel
theorem d_Ruler_between_7 : decode b_Ruler_between 7 = .ok (.invokestatic 16, 3) := by decide +kernel
theorem d_Ruler_between_10 : decode b_Ruler_between 10 = .ok (.istore 6, 2) := by decide +kernel
theorem d_Ruler_between_12 : decode b_Ruler_between 12 = .ok (.iconst 1, 1) := by decide +kernel
theorem d_Ruler_between_13 : decode b_Ruler_between 13 = .ok (.istore 7, 2) := by decide +kernel
theorem d_Ruler_between_15 : decode b_Ruler_between 15 = .ok (.iload 7, 2) := by decide +kernel
theorem d_Ruler_between_17 : decode b_Ruler_between 17 = .ok (.iload 5, 2) := by decide +kernel
theorem d_Ruler_between_19 : decode b_Ruler_between 19 = .ok (.if_icmp .gt 45, 3) := by decide +kernel
theorem d_Ruler_between_22 : decode b_Ruler_between 22 = .ok (.iconst 1, 1) := by decide +kernel
theorem d_Ruler_between_23 : decode b_Ruler_between 23 = .ok (.istore 8, 2) := by decide +kernel
theorem d_Ruler_between_25 : decode b_Ruler_between 25 = .ok (.iload 8, 2) := by decide +kernel
theorem d_Ruler_between_27 : decode b_Ruler_between 27 = .ok (.iload 6, 2) := by decide +kernel
theorem d_Ruler_between_29 : decode b_Ruler_between 29 = .ok (.if_icmp .gt 29, 3) := by decide +kernel
theorem d_Ruler_between_32 : decode b_Ruler_between 32 = .ok (.aload_n 0, 1) := by decide +kernel
theorem d_Ruler_between_33 : decode b_Ruler_between 33 = .ok (.getfield 11, 3) := by decide +kernel
theorem d_Ruler_between_36 : decode b_Ruler_between 36 = .ok (.iload 7, 2) := by decide +kernel
theorem d_Ruler_between_38 : decode b_Ruler_between 38 = .ok (.aaload, 1) := by decide +kernel
theorem d_Ruler_between_39 : decode b_Ruler_between 39 = .ok (.iload 8, 2) := by decide +kernel
theorem d_Ruler_between_41 : decode b_Ruler_between 41 = .ok (.aload_n 0, 1) := by decide +kernel
theorem d_Ruler_between_42 : decode b_Ruler_between 42 = .ok (.lload_n 1, 1) := by decide +kernel
theorem d_Ruler_between_43 : decode b_Ruler_between 43 = .ok (.lload_n 3, 1) := by decide +kernel
theorem d_Ruler_between_44 : decode b_Ruler_between 44 = .ok (.iload 7, 2) := by decide +kernel
theorem d_Ruler_between_46 : decode b_Ruler_between 46 = .ok (.iload 8, 2) := by decide +kernel
theorem d_Ruler_between_48 : decode b_Ruler_between 48 = .ok (.invokevirtual 22, 3) := by decide +kernel
theorem d_Ruler_between_51 : decode b_Ruler_between 51 = .ok (.iastore, 1) := by decide +kernel
theorem d_Ruler_between_52 : decode b_Ruler_between 52 = .ok (.iinc 8 1, 3) := by decide +kernel
theorem d_Ruler_between_55 : decode b_Ruler_between 55 = .ok (.goto (-30), 3) := by decide +kernel
theorem d_Ruler_between_58 : decode b_Ruler_between 58 = .ok (.iinc 7 1, 3) := by decide +kernel
theorem d_Ruler_between_61 : decode b_Ruler_between 61 = .ok (.goto (-46), 3) := by decide +kernel
theorem d_Ruler_between_64 : decode b_Ruler_between 64 = .ok (.aload_n 0, 1) := by decide +kernel
theorem d_Ruler_between_65 : decode b_Ruler_between 65 = .ok (.getfield 11, 3) := by decide +kernel
theorem d_Ruler_between_68 : decode b_Ruler_between 68 = .ok (.iload 5, 2) := by decide +kernel
theorem d_Ruler_between_70 : decode b_Ruler_between 70 = .ok (.aaload, 1) := by decide +kernel
theorem d_Ruler_between_71 : decode b_Ruler_between 71 = .ok (.iload 6, 2) := by decide +kernel
theorem d_Ruler_between_73 : decode b_Ruler_between 73 = .ok (.iaload, 1) := by decide +kernel
theorem d_Ruler_between_74 : decode b_Ruler_between 74 = .ok (.ireturn, 1) := by decide +kernel
theorem d_Ruler_leastChanges_0 : decode b_Ruler_leastChanges 0 = .ok (.lload_n 1, 1) := by decide +kernel
theorem d_Ruler_leastChanges_1 : decode b_Ruler_leastChanges 1 = .ok (.iload 5, 2) := by decide +kernel
theorem d_Ruler_leastChanges_3 : decode b_Ruler_leastChanges 3 = .ok (.iconst 1, 1) := by decide +kernel
theorem d_Ruler_leastChanges_4 : decode b_Ruler_leastChanges 4 = .ok (.isub, 1) := by decide +kernel
theorem d_Ruler_leastChanges_5 : decode b_Ruler_leastChanges 5 = .ok (.invokestatic 26, 3) := by decide +kernel
theorem d_Ruler_leastChanges_8 : decode b_Ruler_leastChanges 8 = .ok (.istore 7, 2) := by decide +kernel
theorem d_Ruler_leastChanges_10 : decode b_Ruler_leastChanges 10 = .ok (.lload_n 3, 1) := by decide +kernel
theorem d_Ruler_leastChanges_11 : decode b_Ruler_leastChanges 11 = .ok (.iload 6, 2) := by decide +kernel
theorem d_Ruler_leastChanges_13 : decode b_Ruler_leastChanges 13 = .ok (.iconst 1, 1) := by decide +kernel
theorem d_Ruler_leastChanges_14 : decode b_Ruler_leastChanges 14 = .ok (.isub, 1) := by decide +kernel
theorem d_Ruler_leastChanges_15 : decode b_Ruler_leastChanges 15 = .ok (.invokestatic 26, 3) := by decide +kernel
theorem d_Ruler_leastChanges_18 : decode b_Ruler_leastChanges 18 = .ok (.istore 8, 2) := by decide +kernel
theorem d_Ruler_leastChanges_20 : decode b_Ruler_leastChanges 20 = .ok (.aload_n 0, 1) := by decide +kernel
theorem d_Ruler_leastChanges_21 : decode b_Ruler_leastChanges 21 = .ok (.getfield 11, 3) := by decide +kernel
theorem d_Ruler_leastChanges_24 : decode b_Ruler_leastChanges 24 = .ok (.iload 5, 2) := by decide +kernel
theorem d_Ruler_leastChanges_26 : decode b_Ruler_leastChanges 26 = .ok (.iconst 1, 1) := by decide +kernel
theorem d_Ruler_leastChanges_27 : decode b_Ruler_leastChanges 27 = .ok (.isub, 1) := by decide +kernel
theorem d_Ruler_leastChanges_28 : decode b_Ruler_leastChanges 28 = .ok (.aaload, 1) := by decide +kernel
theorem d_Ruler_leastChanges_29 : decode b_Ruler_leastChanges 29 = .ok (.iload 6, 2) := by decide +kernel
theorem d_Ruler_leastChanges_31 : decode b_Ruler_leastChanges 31 = .ok (.iconst 1, 1) := by decide +kernel
theorem d_Ruler_leastChanges_32 : decode b_Ruler_leastChanges 32 = .ok (.isub, 1) := by decide +kernel
theorem d_Ruler_leastChanges_33 : decode b_Ruler_leastChanges 33 = .ok (.iaload, 1) := by decide +kernel
theorem d_Ruler_leastChanges_34 : decode b_Ruler_leastChanges 34 = .ok (.iload 7, 2) := by decide +kernel
theorem d_Ruler_leastChanges_36 : decode b_Ruler_leastChanges 36 = .ok (.iload 8, 2) := by decide +kernel
theorem d_Ruler_leastChanges_38 : decode b_Ruler_leastChanges 38 = .ok (.if_icmp .ne 7, 3) := by decide +kernel
theorem d_Ruler_leastChanges_41 : decode b_Ruler_leastChanges 41 = .ok (.iconst 0, 1) := by decide +kernel
theorem d_Ruler_leastChanges_42 : decode b_Ruler_leastChanges 42 = .ok (.goto 4, 3) := by decide +kernel
theorem d_Ruler_leastChanges_45 : decode b_Ruler_leastChanges 45 = .ok (.iconst 1, 1) := by decide +kernel
theorem d_Ruler_leastChanges_46 : decode b_Ruler_leastChanges 46 = .ok (.iadd, 1) := by decide +kernel
theorem d_Ruler_leastChanges_47 : decode b_Ruler_leastChanges 47 = .ok (.istore 9, 2) := by decide +kernel
theorem d_Ruler_leastChanges_49 : decode b_Ruler_leastChanges 49 = .ok (.iload 9, 2) := by decide +kernel
theorem d_Ruler_leastChanges_51 : decode b_Ruler_leastChanges 51 = .ok (.aload_n 0, 1) := by decide +kernel
theorem d_Ruler_leastChanges_52 : decode b_Ruler_leastChanges 52 = .ok (.getfield 11, 3) := by decide +kernel
theorem d_Ruler_leastChanges_55 : decode b_Ruler_leastChanges 55 = .ok (.iload 5, 2) := by decide +kernel
theorem d_Ruler_leastChanges_57 : decode b_Ruler_leastChanges 57 = .ok (.iconst 1, 1) := by decide +kernel
theorem d_Ruler_leastChanges_58 : decode b_Ruler_leastChanges 58 = .ok (.isub, 1) := by decide +kernel
theorem d_Ruler_leastChanges_59 : decode b_Ruler_leastChanges 59 = .ok (.aaload, 1) := by decide +kernel
theorem d_Ruler_leastChanges_60 : decode b_Ruler_leastChanges 60 = .ok (.iload 6, 2) := by decide +kernel
theorem d_Ruler_leastChanges_62 : decode b_Ruler_leastChanges 62 = .ok (.iaload, 1) := by decide +kernel
theorem d_Ruler_leastChanges_63 : decode b_Ruler_leastChanges 63 = .ok (.iconst 1, 1) := by decide +kernel
theorem d_Ruler_leastChanges_64 : decode b_Ruler_leastChanges 64 = .ok (.iadd, 1) := by decide +kernel
theorem d_Ruler_leastChanges_65 : decode b_Ruler_leastChanges 65 = .ok (.invokestatic 30, 3) := by decide +kernel
theorem d_Ruler_leastChanges_68 : decode b_Ruler_leastChanges 68 = .ok (.istore 9, 2) := by decide +kernel
theorem d_Ruler_leastChanges_70 : decode b_Ruler_leastChanges 70 = .ok (.iload 9, 2) := by decide +kernel
theorem d_Ruler_leastChanges_72 : decode b_Ruler_leastChanges 72 = .ok (.aload_n 0, 1) := by decide +kernel
theorem d_Ruler_leastChanges_73 : decode b_Ruler_leastChanges 73 = .ok (.getfield 11, 3) := by decide +kernel
theorem d_Ruler_leastChanges_76 : decode b_Ruler_leastChanges 76 = .ok (.iload 5, 2) := by decide +kernel
theorem d_Ruler_leastChanges_78 : decode b_Ruler_leastChanges 78 = .ok (.aaload, 1) := by decide +kernel
theorem d_Ruler_leastChanges_79 : decode b_Ruler_leastChanges 79 = .ok (.iload 6, 2) := by decide +kernel
theorem d_Ruler_leastChanges_81 : decode b_Ruler_leastChanges 81 = .ok (.iconst 1, 1) := by decide +kernel
theorem d_Ruler_leastChanges_82 : decode b_Ruler_leastChanges 82 = .ok (.isub, 1) := by decide +kernel
theorem d_Ruler_leastChanges_83 : decode b_Ruler_leastChanges 83 = .ok (.iaload, 1) := by decide +kernel
theorem d_Ruler_leastChanges_84 : decode b_Ruler_leastChanges 84 = .ok (.iconst 1, 1) := by decide +kernel
theorem d_Ruler_leastChanges_85 : decode b_Ruler_leastChanges 85 = .ok (.iadd, 1) := by decide +kernel
theorem d_Ruler_leastChanges_86 : decode b_Ruler_leastChanges 86 = .ok (.invokestatic 30, 3) := by decide +kernel
theorem d_Ruler_leastChanges_89 : decode b_Ruler_leastChanges 89 = .ok (.istore 9, 2) := by decide +kernel
theorem d_Ruler_leastChanges_91 : decode b_Ruler_leastChanges 91 = .ok (.iload 5, 2) := by decide +kernel
theorem d_Ruler_leastChanges_93 : decode b_Ruler_leastChanges 93 = .ok (.iconst 1, 1) := by decide +kernel
theorem d_Ruler_leastChanges_94 : decode b_Ruler_leastChanges 94 = .ok (.if_icmp .le 58, 3) := by decide +kernel
theorem d_Ruler_leastChanges_97 : decode b_Ruler_leastChanges 97 = .ok (.iload 6, 2) := by decide +kernel
theorem d_Ruler_leastChanges_99 : decode b_Ruler_leastChanges 99 = .ok (.iconst 1, 1) := by decide +kernel
theorem d_Ruler_leastChanges_100 : decode b_Ruler_leastChanges 100 = .ok (.if_icmp .le 52, 3) := by decide +kernel
theorem d_Ruler_leastChanges_103 : decode b_Ruler_leastChanges 103 = .ok (.iload 7, 2) := by decide +kernel
theorem d_Ruler_leastChanges_105 : decode b_Ruler_leastChanges 105 = .ok (.lload_n 3, 1) := by decide +kernel
theorem d_Ruler_leastChanges_106 : decode b_Ruler_leastChanges 106 = .ok (.iload 6, 2) := by decide +kernel
theorem d_Ruler_leastChanges_108 : decode b_Ruler_leastChanges 108 = .ok (.iconst 2, 1) := by decide +kernel
theorem d_Ruler_leastChanges_109 : decode b_Ruler_leastChanges 109 = .ok (.isub, 1) := by decide +kernel
theorem d_Ruler_leastChanges_110 : decode b_Ruler_leastChanges 110 = .ok (.invokestatic 26, 3) := by decide +kernel
theorem d_Ruler_leastChanges_113 : decode b_Ruler_leastChanges 113 = .ok (.if_icmp .ne 39, 3) := by decide +kernel
theorem d_Ruler_leastChanges_116 : decode b_Ruler_leastChanges 116 = .ok (.iload 8, 2) := by decide +kernel
theorem d_Ruler_leastChanges_118 : decode b_Ruler_leastChanges 118 = .ok (.lload_n 1, 1) := by decide +kernel
theorem d_Ruler_leastChanges_119 : decode b_Ruler_leastChanges 119 = .ok (.iload 5, 2) := by decide +kernel
theorem d_Ruler_leastChanges_121 : decode b_Ruler_leastChanges 121 = .ok (.iconst 2, 1) := by decide +kernel
theorem d_Ruler_leastChanges_122 : decode b_Ruler_leastChanges 122 = .ok (.isub, 1) := by decide +kernel
theorem d_Ruler_leastChanges_123 : decode b_Ruler_leastChanges 123 = .ok (.invokestatic 26, 3) := by decide +kernel
theorem d_Ruler_leastChanges_126 : decode b_Ruler_leastChanges 126 = .ok (.if_icmp .ne 26, 3) := by decide +kernel
theorem d_Ruler_leastChanges_129 : decode b_Ruler_leastChanges 129 = .ok (.iload 9, 2) := by decide +kernel
theorem d_Ruler_leastChanges_131 : decode b_Ruler_leastChanges 131 = .ok (.aload_n 0, 1) := by decide +kernel
theorem d_Ruler_leastChanges_132 : decode b_Ruler_leastChanges 132 = .ok (.getfield 11, 3) := by decide +kernel
theorem d_Ruler_leastChanges_135 : decode b_Ruler_leastChanges 135 = .ok (.iload 5, 2) := by decide +kernel
theorem d_Ruler_leastChanges_137 : decode b_Ruler_leastChanges 137 = .ok (.iconst 2, 1) := by decide +kernel
theorem d_Ruler_leastChanges_138 : decode b_Ruler_leastChanges 138 = .ok (.isub, 1) := by decide +kernel
theorem d_Ruler_leastChanges_139 : decode b_Ruler_leastChanges 139 = .ok (.aaload, 1) := by decide +kernel
theorem d_Ruler_leastChanges_140 : decode b_Ruler_leastChanges 140 = .ok (.iload 6, 2) := by decide +kernel
theorem d_Ruler_leastChanges_142 : decode b_Ruler_leastChanges 142 = .ok (.iconst 2, 1) := by decide +kernel
theorem d_Ruler_leastChanges_143 : decode b_Ruler_leastChanges 143 = .ok (.isub, 1) := by decide +kernel
theorem d_Ruler_leastChanges_144 : decode b_Ruler_leastChanges 144 = .ok (.iaload, 1) := by decide +kernel
theorem d_Ruler_leastChanges_145 : decode b_Ruler_leastChanges 145 = .ok (.iconst 1, 1) := by decide +kernel
theorem d_Ruler_leastChanges_146 : decode b_Ruler_leastChanges 146 = .ok (.iadd, 1) := by decide +kernel
theorem d_Ruler_leastChanges_147 : decode b_Ruler_leastChanges 147 = .ok (.invokestatic 30, 3) := by decide +kernel
theorem d_Ruler_leastChanges_150 : decode b_Ruler_leastChanges 150 = .ok (.istore 9, 2) := by decide +kernel
theorem d_Ruler_leastChanges_152 : decode b_Ruler_leastChanges 152 = .ok (.iload 9, 2) := by decide +kernel
theorem d_Ruler_leastChanges_154 : decode b_Ruler_leastChanges 154 = .ok (.ireturn, 1) := by decide +kernel
theorem d_Suggestions_init_0 : decode b_Suggestions_init 0 = .ok (.aload_n 0, 1) := by decide +kernel
theorem d_Suggestions_init_1 : decode b_Suggestions_init 1 = .ok (.invokespecial 3, 3) := by decide +kernel
theorem d_Suggestions_init_4 : decode b_Suggestions_init 4 = .ok (.aload_n 0, 1) := by decide +kernel
theorem d_Suggestions_init_5 : decode b_Suggestions_init 5 = .ok (.bipush 24, 2) := by decide +kernel
theorem d_Suggestions_init_7 : decode b_Suggestions_init 7 = .ok (.newarray .long, 2) := by decide +kernel
theorem d_Suggestions_init_9 : decode b_Suggestions_init 9 = .ok (.putfield 9, 3) := by decide +kernel
theorem d_Suggestions_init_12 : decode b_Suggestions_init 12 = .ok (.aload_n 0, 1) := by decide +kernel
theorem d_Suggestions_init_13 : decode b_Suggestions_init 13 = .ok (.bipush 24, 2) := by decide +kernel
theorem d_Suggestions_init_15 : decode b_Suggestions_init 15 = .ok (.newarray .int, 2) := by decide +kernel
theorem d_Suggestions_init_17 : decode b_Suggestions_init 17 = .ok (.putfield 15, 3) := by decide +kernel
theorem d_Suggestions_init_20 : decode b_Suggestions_init 20 = .ok (.aload_n 0, 1) := by decide +kernel
theorem d_Suggestions_init_21 : decode b_Suggestions_init 21 = .ok (.iconst 0, 1) := by decide +kernel
theorem d_Suggestions_init_22 : decode b_Suggestions_init 22 = .ok (.putfield 19, 3) := by decide +kernel
theorem d_Suggestions_init_25 : decode b_Suggestions_init 25 = .ok (.aload_n 0, 1) := by decide +kernel
theorem d_Suggestions_init_26 : decode b_Suggestions_init 26 = .ok (.iconst 0, 1) := by decide +kernel
theorem d_Suggestions_init_27 : decode b_Suggestions_init 27 = .ok (.putfield 23, 3) := by decide +kernel
theorem d_Suggestions_init_30 : decode b_Suggestions_init 30 = .ok (.return_, 1) := by decide +kernel
theorem d_Suggestions_startAnew_0 : decode b_Suggestions_startAnew 0 = .ok (.aload_n 0, 1) := by decide +kernel
theorem d_Suggestions_startAnew_1 : decode b_Suggestions_startAnew 1 = .ok (.iconst 0, 1) := by decide +kernel
theorem d_Suggestions_startAnew_2 : decode b_Suggestions_startAnew 2 = .ok (.putfield 19, 3) := by decide +kernel
theorem d_Suggestions_startAnew_5 : decode b_Suggestions_startAnew 5 = .ok (.aload_n 0, 1) := by decide +kernel
theorem d_Suggestions_startAnew_6 : decode b_Suggestions_startAnew 6 = .ok (.iload_n 1, 1) := by decide +kernel
theorem d_Suggestions_startAnew_7 : decode b_Suggestions_startAnew 7 = .ok (.bipush 24, 2) := by decide +kernel
theorem d_Suggestions_startAnew_9 : decode b_Suggestions_startAnew 9 = .ok (.invokestatic 26, 3) := by decide +kernel
theorem d_Suggestions_startAnew_12 : decode b_Suggestions_startAnew 12 = .ok (.putfield 23, 3) := by decide +kernel
theorem d_Suggestions_startAnew_15 : decode b_Suggestions_startAnew 15 = .ok (.return_, 1) := by decide +kernel
theorem d_Suggestions_size_0 : decode b_Suggestions_size 0 = .ok (.aload_n 0, 1) := by decide +kernel
theorem d_Suggestions_size_1 : decode b_Suggestions_size 1 = .ok (.getfield 19, 3) := by decide +kernel
theorem d_Suggestions_size_4 : decode b_Suggestions_size 4 = .ok (.ireturn, 1) := by decide +kernel
theorem d_Suggestions_textAt_0 : decode b_Suggestions_textAt 0 = .ok (.aload_n 0, 1) := by decide +kernel
theorem d_Suggestions_textAt_1 : decode b_Suggestions_textAt 1 = .ok (.getfield 9, 3) := by decide +kernel
theorem d_Suggestions_textAt_4 : decode b_Suggestions_textAt 4 = .ok (.iload_n 1, 1) := by decide +kernel
theorem d_Suggestions_textAt_5 : decode b_Suggestions_textAt 5 = .ok (.laload, 1) := by decide +kernel
theorem d_Suggestions_textAt_6 : decode b_Suggestions_textAt 6 = .ok (.lreturn, 1) := by decide +kernel
theorem d_Suggestions_takeBeginning_0 : decode b_Suggestions_takeBeginning 0 = .ok (.lload_n 2, 1) := by decide +kernel
theorem d_Suggestions_takeBeginning_1 : decode b_Suggestions_takeBeginning 1 = .ok (.invokestatic 32, 3) := by decide +kernel
theorem d_Suggestions_takeBeginning_4 : decode b_Suggestions_takeBeginning 4 = .ok (.istore 4, 2) := by decide +kernel
theorem d_Suggestions_takeBeginning_6 : decode b_Suggestions_takeBeginning 6 = .ok (.iconst 0, 1) := by decide +kernel
theorem d_Suggestions_takeBeginning_7 : decode b_Suggestions_takeBeginning 7 = .ok (.istore 5, 2) := by decide +kernel
theorem d_Suggestions_takeBeginning_9 : decode b_Suggestions_takeBeginning 9 = .ok (.iload 5, 2) := by decide +kernel
theorem d_Suggestions_takeBeginning_11 : decode b_Suggestions_takeBeginning 11 = .ok (.aload_n 1, 1) := by decide +kernel
theorem d_Suggestions_takeBeginning_12 : decode b_Suggestions_takeBeginning 12 = .ok (.invokevirtual 38, 3) := by decide +kernel
theorem d_Suggestions_takeBeginning_15 : decode b_Suggestions_takeBeginning 15 = .ok (.if_icmp .ge 41, 3) := by decide +kernel
theorem d_Suggestions_takeBeginning_18 : decode b_Suggestions_takeBeginning 18 = .ok (.aload_n 1, 1) := by decide +kernel
theorem d_Suggestions_takeBeginning_19 : decode b_Suggestions_takeBeginning 19 = .ok (.iload 5, 2) := by decide +kernel
theorem d_Suggestions_takeBeginning_21 : decode b_Suggestions_takeBeginning 21 = .ok (.invokevirtual 43, 3) := by decide +kernel
theorem d_Suggestions_takeBeginning_24 : decode b_Suggestions_takeBeginning 24 = .ok (.iload 4, 2) := by decide +kernel
theorem d_Suggestions_takeBeginning_26 : decode b_Suggestions_takeBeginning 26 = .ok (.invokestatic 47, 3) := by decide +kernel
theorem d_Suggestions_takeBeginning_29 : decode b_Suggestions_takeBeginning 29 = .ok (.lload_n 2, 1) := by decide +kernel
theorem d_Suggestions_takeBeginning_30 : decode b_Suggestions_takeBeginning 30 = .ok (.lcmp, 1) := by decide +kernel
theorem d_Suggestions_takeBeginning_31 : decode b_Suggestions_takeBeginning 31 = .ok (.ifCond .ne 19, 3) := by decide +kernel
theorem d_Suggestions_takeBeginning_34 : decode b_Suggestions_takeBeginning 34 = .ok (.aload_n 0, 1) := by decide +kernel
theorem d_Suggestions_takeBeginning_35 : decode b_Suggestions_takeBeginning 35 = .ok (.aload_n 1, 1) := by decide +kernel
theorem d_Suggestions_takeBeginning_36 : decode b_Suggestions_takeBeginning 36 = .ok (.iload 5, 2) := by decide +kernel
theorem d_Suggestions_takeBeginning_38 : decode b_Suggestions_takeBeginning 38 = .ok (.invokevirtual 43, 3) := by decide +kernel
theorem d_Suggestions_takeBeginning_41 : decode b_Suggestions_takeBeginning 41 = .ok (.aload_n 1, 1) := by decide +kernel
theorem d_Suggestions_takeBeginning_42 : decode b_Suggestions_takeBeginning 42 = .ok (.iload 5, 2) := by decide +kernel
theorem d_Suggestions_takeBeginning_44 : decode b_Suggestions_takeBeginning 44 = .ok (.invokevirtual 51, 3) := by decide +kernel
theorem d_Suggestions_takeBeginning_47 : decode b_Suggestions_takeBeginning 47 = .ok (.invokevirtual 55, 3) := by decide +kernel
theorem d_Suggestions_takeBeginning_50 : decode b_Suggestions_takeBeginning 50 = .ok (.iinc 5 1, 3) := by decide +kernel
theorem d_Suggestions_takeBeginning_53 : decode b_Suggestions_takeBeginning 53 = .ok (.goto (-44), 3) := by decide +kernel
theorem d_Suggestions_takeBeginning_56 : decode b_Suggestions_takeBeginning 56 = .ok (.return_, 1) := by decide +kernel
theorem d_Suggestions_takeNear_0 : decode b_Suggestions_takeNear 0 = .ok (.iconst 0, 1) := by decide +kernel
theorem d_Suggestions_takeNear_1 : decode b_Suggestions_takeNear 1 = .ok (.istore 6, 2) := by decide +kernel
theorem d_Suggestions_takeNear_3 : decode b_Suggestions_takeNear 3 = .ok (.iload 6, 2) := by decide +kernel
theorem d_Suggestions_takeNear_5 : decode b_Suggestions_takeNear 5 = .ok (.aload_n 1, 1) := by decide +kernel
theorem d_Suggestions_takeNear_6 : decode b_Suggestions_takeNear 6 = .ok (.invokevirtual 38, 3) := by decide +kernel
theorem d_Suggestions_takeNear_9 : decode b_Suggestions_takeNear 9 = .ok (.if_icmp .ge 53, 3) := by decide +kernel
theorem d_Suggestions_takeNear_12 : decode b_Suggestions_takeNear 12 = .ok (.aload 5, 2) := by decide +kernel
theorem d_Suggestions_takeNear_14 : decode b_Suggestions_takeNear 14 = .ok (.lload_n 2, 1) := by decide +kernel
theorem d_Suggestions_takeNear_15 : decode b_Suggestions_takeNear 15 = .ok (.aload_n 1, 1) := by decide +kernel
theorem d_Suggestions_takeNear_16 : decode b_Suggestions_takeNear 16 = .ok (.iload 6, 2) := by decide +kernel
theorem d_Suggestions_takeNear_18 : decode b_Suggestions_takeNear 18 = .ok (.invokevirtual 43, 3) := by decide +kernel
theorem d_Suggestions_takeNear_21 : decode b_Suggestions_takeNear 21 = .ok (.invokevirtual 59, 3) := by decide +kernel
theorem d_Suggestions_takeNear_24 : decode b_Suggestions_takeNear 24 = .ok (.istore 7, 2) := by decide +kernel
theorem d_Suggestions_takeNear_26 : decode b_Suggestions_takeNear 26 = .ok (.iload 7, 2) := by decide +kernel
theorem d_Suggestions_takeNear_28 : decode b_Suggestions_takeNear 28 = .ok (.iload 4, 2) := by decide +kernel
theorem d_Suggestions_takeNear_30 : decode b_Suggestions_takeNear 30 = .ok (.if_icmp .gt 26, 3) := by decide +kernel
theorem d_Suggestions_takeNear_33 : decode b_Suggestions_takeNear 33 = .ok (.aload_n 0, 1) := by decide +kernel
theorem d_Suggestions_takeNear_34 : decode b_Suggestions_takeNear 34 = .ok (.aload_n 1, 1) := by decide +kernel
theorem d_Suggestions_takeNear_35 : decode b_Suggestions_takeNear 35 = .ok (.iload 6, 2) := by decide +kernel
theorem d_Suggestions_takeNear_37 : decode b_Suggestions_takeNear 37 = .ok (.invokevirtual 43, 3) := by decide +kernel
theorem d_Suggestions_takeNear_40 : decode b_Suggestions_takeNear 40 = .ok (.iload 7, 2) := by decide +kernel
theorem d_Suggestions_takeNear_42 : decode b_Suggestions_takeNear 42 = .ok (.sipush 10000, 3) := by decide +kernel
theorem d_Suggestions_takeNear_45 : decode b_Suggestions_takeNear 45 = .ok (.imul, 1) := by decide +kernel
theorem d_Suggestions_takeNear_46 : decode b_Suggestions_takeNear 46 = .ok (.aload_n 1, 1) := by decide +kernel
theorem d_Suggestions_takeNear_47 : decode b_Suggestions_takeNear 47 = .ok (.iload 6, 2) := by decide +kernel
theorem d_Suggestions_takeNear_49 : decode b_Suggestions_takeNear 49 = .ok (.invokevirtual 51, 3) := by decide +kernel
theorem d_Suggestions_takeNear_52 : decode b_Suggestions_takeNear 52 = .ok (.iadd, 1) := by decide +kernel
theorem d_Suggestions_takeNear_53 : decode b_Suggestions_takeNear 53 = .ok (.invokevirtual 55, 3) := by decide +kernel
theorem d_Suggestions_takeNear_56 : decode b_Suggestions_takeNear 56 = .ok (.iinc 6 1, 3) := by decide +kernel
theorem d_Suggestions_takeNear_59 : decode b_Suggestions_takeNear 59 = .ok (.goto (-56), 3) := by decide +kernel
theorem d_Suggestions_takeNear_62 : decode b_Suggestions_takeNear 62 = .ok (.return_, 1) := by decide +kernel
theorem d_Suggestions_offer_0 : decode b_Suggestions_offer 0 = .ok (.aload_n 0, 1) := by decide +kernel
theorem d_Suggestions_offer_1 : decode b_Suggestions_offer 1 = .ok (.getfield 19, 3) := by decide +kernel
theorem d_Suggestions_offer_4 : decode b_Suggestions_offer 4 = .ok (.istore 4, 2) := by decide +kernel
theorem d_Suggestions_offer_6 : decode b_Suggestions_offer 6 = .ok (.iload 4, 2) := by decide +kernel
theorem d_Suggestions_offer_8 : decode b_Suggestions_offer 8 = .ok (.ifCond .le 22, 3) := by decide +kernel
theorem d_Suggestions_offer_11 : decode b_Suggestions_offer 11 = .ok (.aload_n 0, 1) := by decide +kernel
theorem d_Suggestions_offer_12 : decode b_Suggestions_offer 12 = .ok (.getfield 15, 3) := by decide +kernel
theorem d_Suggestions_offer_15 : decode b_Suggestions_offer 15 = .ok (.iload 4, 2) := by decide +kernel
theorem d_Suggestions_offer_17 : decode b_Suggestions_offer 17 = .ok (.iconst 1, 1) := by decide +kernel
theorem d_Suggestions_offer_18 : decode b_Suggestions_offer 18 = .ok (.isub, 1) := by decide +kernel
theorem d_Suggestions_offer_19 : decode b_Suggestions_offer 19 = .ok (.iaload, 1) := by decide +kernel
theorem d_Suggestions_offer_20 : decode b_Suggestions_offer 20 = .ok (.iload_n 3, 1) := by decide +kernel
theorem d_Suggestions_offer_21 : decode b_Suggestions_offer 21 = .ok (.if_icmp .le 9, 3) := by decide +kernel
theorem d_Suggestions_offer_24 : decode b_Suggestions_offer 24 = .ok (.iinc 4 (-1), 3) := by decide +kernel
theorem d_Suggestions_offer_27 : decode b_Suggestions_offer 27 = .ok (.goto (-21), 3) := by decide +kernel
theorem d_Suggestions_offer_30 : decode b_Suggestions_offer 30 = .ok (.iload 4, 2) := by decide +kernel
theorem d_Suggestions_offer_32 : decode b_Suggestions_offer 32 = .ok (.aload_n 0, 1) := by decide +kernel
theorem d_Suggestions_offer_33 : decode b_Suggestions_offer 33 = .ok (.getfield 23, 3) := by decide +kernel
theorem d_Suggestions_offer_36 : decode b_Suggestions_offer 36 = .ok (.if_icmp .lt 4, 3) := by decide +kernel
theorem d_Suggestions_offer_39 : decode b_Suggestions_offer 39 = .ok (.return_, 1) := by decide +kernel
theorem d_Suggestions_offer_40 : decode b_Suggestions_offer 40 = .ok (.aload_n 0, 1) := by decide +kernel
theorem d_Suggestions_offer_41 : decode b_Suggestions_offer 41 = .ok (.getfield 19, 3) := by decide +kernel
theorem d_Suggestions_offer_44 : decode b_Suggestions_offer 44 = .ok (.aload_n 0, 1) := by decide +kernel
theorem d_Suggestions_offer_45 : decode b_Suggestions_offer 45 = .ok (.getfield 23, 3) := by decide +kernel
theorem d_Suggestions_offer_48 : decode b_Suggestions_offer 48 = .ok (.iconst 1, 1) := by decide +kernel
theorem d_Suggestions_offer_49 : decode b_Suggestions_offer 49 = .ok (.isub, 1) := by decide +kernel
theorem d_Suggestions_offer_50 : decode b_Suggestions_offer 50 = .ok (.invokestatic 26, 3) := by decide +kernel
theorem d_Suggestions_offer_53 : decode b_Suggestions_offer 53 = .ok (.istore 5, 2) := by decide +kernel
theorem d_Suggestions_offer_55 : decode b_Suggestions_offer 55 = .ok (.iload 5, 2) := by decide +kernel
theorem d_Suggestions_offer_57 : decode b_Suggestions_offer 57 = .ok (.istore 6, 2) := by decide +kernel
theorem d_Suggestions_offer_59 : decode b_Suggestions_offer 59 = .ok (.iload 6, 2) := by decide +kernel
theorem d_Suggestions_offer_61 : decode b_Suggestions_offer 61 = .ok (.iload 4, 2) := by decide +kernel
theorem d_Suggestions_offer_63 : decode b_Suggestions_offer 63 = .ok (.if_icmp .le 41, 3) := by decide +kernel
theorem d_Suggestions_offer_66 : decode b_Suggestions_offer 66 = .ok (.aload_n 0, 1) := by decide +kernel
theorem d_Suggestions_offer_67 : decode b_Suggestions_offer 67 = .ok (.getfield 9, 3) := by decide +kernel
theorem d_Suggestions_offer_70 : decode b_Suggestions_offer 70 = .ok (.iload 6, 2) := by decide +kernel
theorem d_Suggestions_offer_72 : decode b_Suggestions_offer 72 = .ok (.aload_n 0, 1) := by decide +kernel
theorem d_Suggestions_offer_73 : decode b_Suggestions_offer 73 = .ok (.getfield 9, 3) := by decide +kernel
theorem d_Suggestions_offer_76 : decode b_Suggestions_offer 76 = .ok (.iload 6, 2) := by decide +kernel
theorem d_Suggestions_offer_78 : decode b_Suggestions_offer 78 = .ok (.iconst 1, 1) := by decide +kernel
theorem d_Suggestions_offer_79 : decode b_Suggestions_offer 79 = .ok (.isub, 1) := by decide +kernel
theorem d_Suggestions_offer_80 : decode b_Suggestions_offer 80 = .ok (.laload, 1) := by decide +kernel
theorem d_Suggestions_offer_81 : decode b_Suggestions_offer 81 = .ok (.lastore, 1) := by decide +kernel
theorem d_Suggestions_offer_82 : decode b_Suggestions_offer 82 = .ok (.aload_n 0, 1) := by decide +kernel
theorem d_Suggestions_offer_83 : decode b_Suggestions_offer 83 = .ok (.getfield 15, 3) := by decide +kernel
theorem d_Suggestions_offer_86 : decode b_Suggestions_offer 86 = .ok (.iload 6, 2) := by decide +kernel
theorem d_Suggestions_offer_88 : decode b_Suggestions_offer 88 = .ok (.aload_n 0, 1) := by decide +kernel
theorem d_Suggestions_offer_89 : decode b_Suggestions_offer 89 = .ok (.getfield 15, 3) := by decide +kernel
theorem d_Suggestions_offer_92 : decode b_Suggestions_offer 92 = .ok (.iload 6, 2) := by decide +kernel
theorem d_Suggestions_offer_94 : decode b_Suggestions_offer 94 = .ok (.iconst 1, 1) := by decide +kernel
theorem d_Suggestions_offer_95 : decode b_Suggestions_offer 95 = .ok (.isub, 1) := by decide +kernel
theorem d_Suggestions_offer_96 : decode b_Suggestions_offer 96 = .ok (.iaload, 1) := by decide +kernel
theorem d_Suggestions_offer_97 : decode b_Suggestions_offer 97 = .ok (.iastore, 1) := by decide +kernel
theorem d_Suggestions_offer_98 : decode b_Suggestions_offer 98 = .ok (.iinc 6 (-1), 3) := by decide +kernel
theorem d_Suggestions_offer_101 : decode b_Suggestions_offer 101 = .ok (.goto (-42), 3) := by decide +kernel
theorem d_Suggestions_offer_104 : decode b_Suggestions_offer 104 = .ok (.aload_n 0, 1) := by decide +kernel
theorem d_Suggestions_offer_105 : decode b_Suggestions_offer 105 = .ok (.getfield 9, 3) := by decide +kernel
theorem d_Suggestions_offer_108 : decode b_Suggestions_offer 108 = .ok (.iload 4, 2) := by decide +kernel
theorem d_Suggestions_offer_110 : decode b_Suggestions_offer 110 = .ok (.lload_n 1, 1) := by decide +kernel
theorem d_Suggestions_offer_111 : decode b_Suggestions_offer 111 = .ok (.lastore, 1) := by decide +kernel
theorem d_Suggestions_offer_112 : decode b_Suggestions_offer 112 = .ok (.aload_n 0, 1) := by decide +kernel
theorem d_Suggestions_offer_113 : decode b_Suggestions_offer 113 = .ok (.getfield 15, 3) := by decide +kernel
theorem d_Suggestions_offer_116 : decode b_Suggestions_offer 116 = .ok (.iload 4, 2) := by decide +kernel
theorem d_Suggestions_offer_118 : decode b_Suggestions_offer 118 = .ok (.iload_n 3, 1) := by decide +kernel
theorem d_Suggestions_offer_119 : decode b_Suggestions_offer 119 = .ok (.iastore, 1) := by decide +kernel
theorem d_Suggestions_offer_120 : decode b_Suggestions_offer 120 = .ok (.aload_n 0, 1) := by decide +kernel
theorem d_Suggestions_offer_121 : decode b_Suggestions_offer 121 = .ok (.iload 5, 2) := by decide +kernel
theorem d_Suggestions_offer_123 : decode b_Suggestions_offer 123 = .ok (.iconst 1, 1) := by decide +kernel
theorem d_Suggestions_offer_124 : decode b_Suggestions_offer 124 = .ok (.iadd, 1) := by decide +kernel
theorem d_Suggestions_offer_125 : decode b_Suggestions_offer 125 = .ok (.putfield 19, 3) := by decide +kernel
theorem d_Suggestions_offer_128 : decode b_Suggestions_offer 128 = .ok (.return_, 1) := by decide +kernel
theorem d_Texts_isWord_0 : decode b_Texts_isWord 0 = .ok (.lload_n 0, 1) := by decide +kernel
theorem d_Texts_isWord_1 : decode b_Texts_isWord 1 = .ok (.lconst 0, 1) := by decide +kernel
theorem d_Texts_isWord_2 : decode b_Texts_isWord 2 = .ok (.lcmp, 1) := by decide +kernel
theorem d_Texts_isWord_3 : decode b_Texts_isWord 3 = .ok (.ifCond .eq 14, 3) := by decide +kernel
theorem d_Texts_isWord_6 : decode b_Texts_isWord 6 = .ok (.lload_n 0, 1) := by decide +kernel
theorem d_Texts_isWord_7 : decode b_Texts_isWord 7 = .ok (.invokestatic 9, 3) := by decide +kernel
theorem d_Texts_isWord_10 : decode b_Texts_isWord 10 = .ok (.ifCond .eq 7, 3) := by decide +kernel
theorem d_Texts_isWord_13 : decode b_Texts_isWord 13 = .ok (.iconst 1, 1) := by decide +kernel
theorem d_Texts_isWord_14 : decode b_Texts_isWord 14 = .ok (.goto 4, 3) := by decide +kernel
theorem d_Texts_isWord_17 : decode b_Texts_isWord 17 = .ok (.iconst 0, 1) := by decide +kernel
theorem d_Texts_isWord_18 : decode b_Texts_isWord 18 = .ok (.ireturn, 1) := by decide +kernel
theorem d_Texts_isBeginning_0 : decode b_Texts_isBeginning 0 = .ok (.lload_n 0, 1) := by decide +kernel
theorem d_Texts_isBeginning_1 : decode b_Texts_isBeginning 1 = .ok (.lstore_n 2, 1) := by decide +kernel
theorem d_Texts_isBeginning_2 : decode b_Texts_isBeginning 2 = .ok (.iconst 0, 1) := by decide +kernel
theorem d_Texts_isBeginning_3 : decode b_Texts_isBeginning 3 = .ok (.istore 4, 2) := by decide +kernel
theorem d_Texts_isBeginning_5 : decode b_Texts_isBeginning 5 = .ok (.iload 4, 2) := by decide +kernel
theorem d_Texts_isBeginning_7 : decode b_Texts_isBeginning 7 = .ok (.bipush 8, 2) := by decide +kernel
theorem d_Texts_isBeginning_9 : decode b_Texts_isBeginning 9 = .ok (.if_icmp .ge 47, 3) := by decide +kernel
theorem d_Texts_isBeginning_12 : decode b_Texts_isBeginning 12 = .ok (.lload_n 2, 1) := by decide +kernel
theorem d_Texts_isBeginning_13 : decode b_Texts_isBeginning 13 = .ok (.lconst 0, 1) := by decide +kernel
theorem d_Texts_isBeginning_14 : decode b_Texts_isBeginning 14 = .ok (.lcmp, 1) := by decide +kernel
theorem d_Texts_isBeginning_15 : decode b_Texts_isBeginning 15 = .ok (.ifCond .eq 41, 3) := by decide +kernel
theorem d_Texts_isBeginning_18 : decode b_Texts_isBeginning 18 = .ok (.lload_n 2, 1) := by decide +kernel
theorem d_Texts_isBeginning_19 : decode b_Texts_isBeginning 19 = .ok (.ldc2_w 15, 3) := by decide +kernel
theorem d_Texts_isBeginning_22 : decode b_Texts_isBeginning 22 = .ok (.land, 1) := by decide +kernel
theorem d_Texts_isBeginning_23 : decode b_Texts_isBeginning 23 = .ok (.lstore 5, 2) := by decide +kernel
theorem d_Texts_isBeginning_25 : decode b_Texts_isBeginning 25 = .ok (.lload 5, 2) := by decide +kernel
theorem d_Texts_isBeginning_27 : decode b_Texts_isBeginning 27 = .ok (.ldc2_w 17, 3) := by decide +kernel
theorem d_Texts_isBeginning_30 : decode b_Texts_isBeginning 30 = .ok (.lcmp, 1) := by decide +kernel
theorem d_Texts_isBeginning_31 : decode b_Texts_isBeginning 31 = .ok (.ifCond .lt 12, 3) := by decide +kernel
theorem d_Texts_isBeginning_34 : decode b_Texts_isBeginning 34 = .ok (.lload 5, 2) := by decide +kernel
theorem d_Texts_isBeginning_36 : decode b_Texts_isBeginning 36 = .ok (.ldc2_w 19, 3) := by decide +kernel
theorem d_Texts_isBeginning_39 : decode b_Texts_isBeginning 39 = .ok (.lcmp, 1) := by decide +kernel
theorem d_Texts_isBeginning_40 : decode b_Texts_isBeginning 40 = .ok (.ifCond .le 5, 3) := by decide +kernel
theorem d_Texts_isBeginning_43 : decode b_Texts_isBeginning 43 = .ok (.iconst 0, 1) := by decide +kernel
theorem d_Texts_isBeginning_44 : decode b_Texts_isBeginning 44 = .ok (.ireturn, 1) := by decide +kernel
theorem d_Texts_isBeginning_45 : decode b_Texts_isBeginning 45 = .ok (.lload_n 2, 1) := by decide +kernel
theorem d_Texts_isBeginning_46 : decode b_Texts_isBeginning 46 = .ok (.bipush 8, 2) := by decide +kernel
theorem d_Texts_isBeginning_48 : decode b_Texts_isBeginning 48 = .ok (.lushr, 1) := by decide +kernel
theorem d_Texts_isBeginning_49 : decode b_Texts_isBeginning 49 = .ok (.lstore_n 2, 1) := by decide +kernel
theorem d_Texts_isBeginning_50 : decode b_Texts_isBeginning 50 = .ok (.iinc 4 1, 3) := by decide +kernel
theorem d_Texts_isBeginning_53 : decode b_Texts_isBeginning 53 = .ok (.goto (-48), 3) := by decide +kernel
theorem d_Texts_isBeginning_56 : decode b_Texts_isBeginning 56 = .ok (.iconst 1, 1) := by decide +kernel
theorem d_Texts_isBeginning_57 : decode b_Texts_isBeginning 57 = .ok (.ireturn, 1) := by decide +kernel
theorem d_Texts_ofNumber_0 : decode b_Texts_ofNumber 0 = .ok (.lload_n 0, 1) := by decide +kernel
theorem d_Texts_ofNumber_1 : decode b_Texts_ofNumber 1 = .ok (.lstore_n 2, 1) := by decide +kernel
theorem d_Texts_ofNumber_2 : decode b_Texts_ofNumber 2 = .ok (.iconst 0, 1) := by decide +kernel
theorem d_Texts_ofNumber_3 : decode b_Texts_ofNumber 3 = .ok (.istore 4, 2) := by decide +kernel
theorem d_Texts_ofNumber_5 : decode b_Texts_ofNumber 5 = .ok (.iload 4, 2) := by decide +kernel
theorem d_Texts_ofNumber_7 : decode b_Texts_ofNumber 7 = .ok (.bipush 8, 2) := by decide +kernel
theorem d_Texts_ofNumber_9 : decode b_Texts_ofNumber 9 = .ok (.if_icmp .ge 22, 3) := by decide +kernel
theorem d_Texts_ofNumber_12 : decode b_Texts_ofNumber 12 = .ok (.lload_n 2, 1) := by decide +kernel
theorem d_Texts_ofNumber_13 : decode b_Texts_ofNumber 13 = .ok (.iconst 0, 1) := by decide +kernel
theorem d_Texts_ofNumber_14 : decode b_Texts_ofNumber 14 = .ok (.invokestatic 21, 3) := by decide +kernel
theorem d_Texts_ofNumber_17 : decode b_Texts_ofNumber 17 = .ok (.ifCond .ne 14, 3) := by decide +kernel
theorem d_Texts_ofNumber_20 : decode b_Texts_ofNumber 20 = .ok (.lload_n 2, 1) := by decide +kernel
theorem d_Texts_ofNumber_21 : decode b_Texts_ofNumber 21 = .ok (.bipush 8, 2) := by decide +kernel
theorem d_Texts_ofNumber_23 : decode b_Texts_ofNumber 23 = .ok (.lshl, 1) := by decide +kernel
theorem d_Texts_ofNumber_24 : decode b_Texts_ofNumber 24 = .ok (.lstore_n 2, 1) := by decide +kernel
theorem d_Texts_ofNumber_25 : decode b_Texts_ofNumber 25 = .ok (.iinc 4 1, 3) := by decide +kernel
theorem d_Texts_ofNumber_28 : decode b_Texts_ofNumber 28 = .ok (.goto (-23), 3) := by decide +kernel
theorem d_Texts_ofNumber_31 : decode b_Texts_ofNumber 31 = .ok (.lload_n 2, 1) := by decide +kernel
theorem d_Texts_ofNumber_32 : decode b_Texts_ofNumber 32 = .ok (.lreturn, 1) := by decide +kernel
theorem d_Texts_toNumber_0 : decode b_Texts_toNumber 0 = .ok (.lload_n 0, 1) := by decide +kernel
theorem d_Texts_toNumber_1 : decode b_Texts_toNumber 1 = .ok (.lstore_n 2, 1) := by decide +kernel
theorem d_Texts_toNumber_2 : decode b_Texts_toNumber 2 = .ok (.iconst 0, 1) := by decide +kernel
theorem d_Texts_toNumber_3 : decode b_Texts_toNumber 3 = .ok (.istore 4, 2) := by decide +kernel
theorem d_Texts_toNumber_5 : decode b_Texts_toNumber 5 = .ok (.iload 4, 2) := by decide +kernel
theorem d_Texts_toNumber_7 : decode b_Texts_toNumber 7 = .ok (.bipush 8, 2) := by decide +kernel
theorem d_Texts_toNumber_9 : decode b_Texts_toNumber 9 = .ok (.if_icmp .ge 24, 3) := by decide +kernel
theorem d_Texts_toNumber_12 : decode b_Texts_toNumber 12 = .ok (.lload_n 2, 1) := by decide +kernel
theorem d_Texts_toNumber_13 : decode b_Texts_toNumber 13 = .ok (.ldc2_w 15, 3) := by decide +kernel
theorem d_Texts_toNumber_16 : decode b_Texts_toNumber 16 = .ok (.land, 1) := by decide +kernel
theorem d_Texts_toNumber_17 : decode b_Texts_toNumber 17 = .ok (.lconst 0, 1) := by decide +kernel
theorem d_Texts_toNumber_18 : decode b_Texts_toNumber 18 = .ok (.lcmp, 1) := by decide +kernel
theorem d_Texts_toNumber_19 : decode b_Texts_toNumber 19 = .ok (.ifCond .ne 14, 3) := by decide +kernel
theorem d_Texts_toNumber_22 : decode b_Texts_toNumber 22 = .ok (.lload_n 2, 1) := by decide +kernel
theorem d_Texts_toNumber_23 : decode b_Texts_toNumber 23 = .ok (.bipush 8, 2) := by decide +kernel
theorem d_Texts_toNumber_25 : decode b_Texts_toNumber 25 = .ok (.lushr, 1) := by decide +kernel
theorem d_Texts_toNumber_26 : decode b_Texts_toNumber 26 = .ok (.lstore_n 2, 1) := by decide +kernel
theorem d_Texts_toNumber_27 : decode b_Texts_toNumber 27 = .ok (.iinc 4 1, 3) := by decide +kernel
theorem d_Texts_toNumber_30 : decode b_Texts_toNumber 30 = .ok (.goto (-25), 3) := by decide +kernel
theorem d_Texts_toNumber_33 : decode b_Texts_toNumber 33 = .ok (.lload_n 2, 1) := by decide +kernel
theorem d_Texts_toNumber_34 : decode b_Texts_toNumber 34 = .ok (.lreturn, 1) := by decide +kernel
theorem d_Texts_lengthOf_0 : decode b_Texts_lengthOf 0 = .ok (.iconst 0, 1) := by decide +kernel
theorem d_Texts_lengthOf_1 : decode b_Texts_lengthOf 1 = .ok (.istore_n 2, 1) := by decide +kernel
theorem d_Texts_lengthOf_2 : decode b_Texts_lengthOf 2 = .ok (.iload_n 2, 1) := by decide +kernel
theorem d_Texts_lengthOf_3 : decode b_Texts_lengthOf 3 = .ok (.bipush 8, 2) := by decide +kernel
theorem d_Texts_lengthOf_5 : decode b_Texts_lengthOf 5 = .ok (.if_icmp .ge 17, 3) := by decide +kernel
theorem d_Texts_lengthOf_8 : decode b_Texts_lengthOf 8 = .ok (.lload_n 0, 1) := by decide +kernel
theorem d_Texts_lengthOf_9 : decode b_Texts_lengthOf 9 = .ok (.iload_n 2, 1) := by decide +kernel
theorem d_Texts_lengthOf_10 : decode b_Texts_lengthOf 10 = .ok (.invokestatic 21, 3) := by decide +kernel
theorem d_Texts_lengthOf_13 : decode b_Texts_lengthOf 13 = .ok (.ifCond .eq 9, 3) := by decide +kernel
theorem d_Texts_lengthOf_16 : decode b_Texts_lengthOf 16 = .ok (.iinc 2 1, 3) := by decide +kernel
theorem d_Texts_lengthOf_19 : decode b_Texts_lengthOf 19 = .ok (.goto (-17), 3) := by decide +kernel
theorem d_Texts_lengthOf_22 : decode b_Texts_lengthOf 22 = .ok (.iload_n 2, 1) := by decide +kernel
theorem d_Texts_lengthOf_23 : decode b_Texts_lengthOf 23 = .ok (.ireturn, 1) := by decide +kernel
theorem d_Texts_letterAt_0 : decode b_Texts_letterAt 0 = .ok (.lload_n 0, 1) := by decide +kernel
theorem d_Texts_letterAt_1 : decode b_Texts_letterAt 1 = .ok (.bipush 64, 2) := by decide +kernel
theorem d_Texts_letterAt_3 : decode b_Texts_letterAt 3 = .ok (.bipush 8, 2) := by decide +kernel
theorem d_Texts_letterAt_5 : decode b_Texts_letterAt 5 = .ok (.iload_n 2, 1) := by decide +kernel
theorem d_Texts_letterAt_6 : decode b_Texts_letterAt 6 = .ok (.iconst 1, 1) := by decide +kernel
theorem d_Texts_letterAt_7 : decode b_Texts_letterAt 7 = .ok (.iadd, 1) := by decide +kernel
theorem d_Texts_letterAt_8 : decode b_Texts_letterAt 8 = .ok (.imul, 1) := by decide +kernel
theorem d_Texts_letterAt_9 : decode b_Texts_letterAt 9 = .ok (.isub, 1) := by decide +kernel
theorem d_Texts_letterAt_10 : decode b_Texts_letterAt 10 = .ok (.lushr, 1) := by decide +kernel
theorem d_Texts_letterAt_11 : decode b_Texts_letterAt 11 = .ok (.l2i, 1) := by decide +kernel
theorem d_Texts_letterAt_12 : decode b_Texts_letterAt 12 = .ok (.sipush 255, 3) := by decide +kernel
theorem d_Texts_letterAt_15 : decode b_Texts_letterAt 15 = .ok (.iand, 1) := by decide +kernel
theorem d_Texts_letterAt_16 : decode b_Texts_letterAt 16 = .ok (.ireturn, 1) := by decide +kernel
theorem d_Texts_head_0 : decode b_Texts_head 0 = .ok (.iload_n 2, 1) := by decide +kernel
theorem d_Texts_head_1 : decode b_Texts_head 1 = .ok (.ifCond .gt 7, 3) := by decide +kernel
theorem d_Texts_head_4 : decode b_Texts_head 4 = .ok (.lconst 0, 1) := by decide +kernel
theorem d_Texts_head_5 : decode b_Texts_head 5 = .ok (.goto 16, 3) := by decide +kernel
theorem d_Texts_head_8 : decode b_Texts_head 8 = .ok (.lload_n 0, 1) := by decide +kernel
theorem d_Texts_head_9 : decode b_Texts_head 9 = .ok (.ldc2_w 25, 3) := by decide +kernel
theorem d_Texts_head_12 : decode b_Texts_head 12 = .ok (.bipush 64, 2) := by decide +kernel
theorem d_Texts_head_14 : decode b_Texts_head 14 = .ok (.bipush 8, 2) := by decide +kernel
theorem d_Texts_head_16 : decode b_Texts_head 16 = .ok (.iload_n 2, 1) := by decide +kernel
theorem d_Texts_head_17 : decode b_Texts_head 17 = .ok (.imul, 1) := by decide +kernel
theorem d_Texts_head_18 : decode b_Texts_head 18 = .ok (.isub, 1) := by decide +kernel
theorem d_Texts_head_19 : decode b_Texts_head 19 = .ok (.lshl, 1) := by decide +kernel
theorem d_Texts_head_20 : decode b_Texts_head 20 = .ok (.land, 1) := by decide +kernel
theorem d_Texts_head_21 : decode b_Texts_head 21 = .ok (.lreturn, 1) := by decide +kernel
theorem d_Texts_tail_0 : decode b_Texts_tail 0 = .ok (.iload_n 2, 1) := by decide +kernel
theorem d_Texts_tail_1 : decode b_Texts_tail 1 = .ok (.bipush 8, 2) := by decide +kernel
theorem d_Texts_tail_3 : decode b_Texts_tail 3 = .ok (.if_icmp .lt 7, 3) := by decide +kernel
theorem d_Texts_tail_6 : decode b_Texts_tail 6 = .ok (.lconst 0, 1) := by decide +kernel
theorem d_Texts_tail_7 : decode b_Texts_tail 7 = .ok (.goto 9, 3) := by decide +kernel
theorem d_Texts_tail_10 : decode b_Texts_tail 10 = .ok (.lload_n 0, 1) := by decide +kernel
theorem d_Texts_tail_11 : decode b_Texts_tail 11 = .ok (.bipush 8, 2) := by decide +kernel
theorem d_Texts_tail_13 : decode b_Texts_tail 13 = .ok (.iload_n 2, 1) := by decide +kernel
theorem d_Texts_tail_14 : decode b_Texts_tail 14 = .ok (.imul, 1) := by decide +kernel
theorem d_Texts_tail_15 : decode b_Texts_tail 15 = .ok (.lshl, 1) := by decide +kernel
theorem d_Texts_tail_16 : decode b_Texts_tail 16 = .ok (.lreturn, 1) := by decide +kernel
theorem d_Texts_sharedLetters_0 : decode b_Texts_sharedLetters 0 = .ok (.iconst 0, 1) := by decide +kernel
theorem d_Texts_sharedLetters_1 : decode b_Texts_sharedLetters 1 = .ok (.istore 4, 2) := by decide +kernel
theorem d_Texts_sharedLetters_3 : decode b_Texts_sharedLetters 3 = .ok (.iload 4, 2) := by decide +kernel
theorem d_Texts_sharedLetters_5 : decode b_Texts_sharedLetters 5 = .ok (.bipush 8, 2) := by decide +kernel
theorem d_Texts_sharedLetters_7 : decode b_Texts_sharedLetters 7 = .ok (.if_icmp .ge 33, 3) := by decide +kernel
theorem d_Texts_sharedLetters_10 : decode b_Texts_sharedLetters 10 = .ok (.lload_n 0, 1) := by decide +kernel
theorem d_Texts_sharedLetters_11 : decode b_Texts_sharedLetters 11 = .ok (.iload 4, 2) := by decide +kernel
theorem d_Texts_sharedLetters_13 : decode b_Texts_sharedLetters 13 = .ok (.invokestatic 21, 3) := by decide +kernel
theorem d_Texts_sharedLetters_16 : decode b_Texts_sharedLetters 16 = .ok (.ifCond .eq 24, 3) := by decide +kernel
theorem d_Texts_sharedLetters_19 : decode b_Texts_sharedLetters 19 = .ok (.lload_n 0, 1) := by decide +kernel
theorem d_Texts_sharedLetters_20 : decode b_Texts_sharedLetters 20 = .ok (.iload 4, 2) := by decide +kernel
theorem d_Texts_sharedLetters_22 : decode b_Texts_sharedLetters 22 = .ok (.invokestatic 21, 3) := by decide +kernel
theorem d_Texts_sharedLetters_25 : decode b_Texts_sharedLetters 25 = .ok (.lload_n 2, 1) := by decide +kernel
theorem d_Texts_sharedLetters_26 : decode b_Texts_sharedLetters 26 = .ok (.iload 4, 2) := by decide +kernel
theorem d_Texts_sharedLetters_28 : decode b_Texts_sharedLetters 28 = .ok (.invokestatic 21, 3) := by decide +kernel
theorem d_Texts_sharedLetters_31 : decode b_Texts_sharedLetters 31 = .ok (.if_icmp .ne 9, 3) := by decide +kernel
theorem d_Texts_sharedLetters_34 : decode b_Texts_sharedLetters 34 = .ok (.iinc 4 1, 3) := by decide +kernel
theorem d_Texts_sharedLetters_37 : decode b_Texts_sharedLetters 37 = .ok (.goto (-34), 3) := by decide +kernel
theorem d_Texts_sharedLetters_40 : decode b_Texts_sharedLetters 40 = .ok (.iload 4, 2) := by decide +kernel
theorem d_Texts_sharedLetters_42 : decode b_Texts_sharedLetters 42 = .ok (.ireturn, 1) := by decide +kernel
theorem d_WordList_init_0 : decode b_WordList_init 0 = .ok (.aload_n 0, 1) := by decide +kernel
theorem d_WordList_init_1 : decode b_WordList_init 1 = .ok (.invokespecial 3, 3) := by decide +kernel
theorem d_WordList_init_4 : decode b_WordList_init 4 = .ok (.aload_n 0, 1) := by decide +kernel
theorem d_WordList_init_5 : decode b_WordList_init 5 = .ok (.bipush 24, 2) := by decide +kernel
theorem d_WordList_init_7 : decode b_WordList_init 7 = .ok (.newarray .long, 2) := by decide +kernel
theorem d_WordList_init_9 : decode b_WordList_init 9 = .ok (.putfield 9, 3) := by decide +kernel
theorem d_WordList_init_12 : decode b_WordList_init 12 = .ok (.aload_n 0, 1) := by decide +kernel
theorem d_WordList_init_13 : decode b_WordList_init 13 = .ok (.bipush 24, 2) := by decide +kernel
theorem d_WordList_init_15 : decode b_WordList_init 15 = .ok (.newarray .int, 2) := by decide +kernel
theorem d_WordList_init_17 : decode b_WordList_init 17 = .ok (.putfield 15, 3) := by decide +kernel
theorem d_WordList_init_20 : decode b_WordList_init 20 = .ok (.aload_n 0, 1) := by decide +kernel
theorem d_WordList_init_21 : decode b_WordList_init 21 = .ok (.iconst 0, 1) := by decide +kernel
theorem d_WordList_init_22 : decode b_WordList_init 22 = .ok (.putfield 19, 3) := by decide +kernel
theorem d_WordList_init_25 : decode b_WordList_init 25 = .ok (.return_, 1) := by decide +kernel
theorem d_WordList_size_0 : decode b_WordList_size 0 = .ok (.aload_n 0, 1) := by decide +kernel
theorem d_WordList_size_1 : decode b_WordList_size 1 = .ok (.getfield 19, 3) := by decide +kernel
theorem d_WordList_size_4 : decode b_WordList_size 4 = .ok (.ireturn, 1) := by decide +kernel
theorem d_WordList_textAt_0 : decode b_WordList_textAt 0 = .ok (.aload_n 0, 1) := by decide +kernel
theorem d_WordList_textAt_1 : decode b_WordList_textAt 1 = .ok (.getfield 9, 3) := by decide +kernel
theorem d_WordList_textAt_4 : decode b_WordList_textAt 4 = .ok (.iload_n 1, 1) := by decide +kernel
theorem d_WordList_textAt_5 : decode b_WordList_textAt 5 = .ok (.laload, 1) := by decide +kernel
theorem d_WordList_textAt_6 : decode b_WordList_textAt 6 = .ok (.lreturn, 1) := by decide +kernel
theorem d_WordList_costAt_0 : decode b_WordList_costAt 0 = .ok (.aload_n 0, 1) := by decide +kernel
theorem d_WordList_costAt_1 : decode b_WordList_costAt 1 = .ok (.getfield 15, 3) := by decide +kernel
theorem d_WordList_costAt_4 : decode b_WordList_costAt 4 = .ok (.iload_n 1, 1) := by decide +kernel
theorem d_WordList_costAt_5 : decode b_WordList_costAt 5 = .ok (.iaload, 1) := by decide +kernel
theorem d_WordList_costAt_6 : decode b_WordList_costAt 6 = .ok (.ireturn, 1) := by decide +kernel
theorem d_WordList_indexOf_0 : decode b_WordList_indexOf 0 = .ok (.aload_n 0, 1) := by decide +kernel
theorem d_WordList_indexOf_1 : decode b_WordList_indexOf 1 = .ok (.lload_n 1, 1) := by decide +kernel
theorem d_WordList_indexOf_2 : decode b_WordList_indexOf 2 = .ok (.invokevirtual 23, 3) := by decide +kernel
theorem d_WordList_indexOf_5 : decode b_WordList_indexOf 5 = .ok (.istore_n 3, 1) := by decide +kernel
theorem d_WordList_indexOf_6 : decode b_WordList_indexOf 6 = .ok (.iload_n 3, 1) := by decide +kernel
theorem d_WordList_indexOf_7 : decode b_WordList_indexOf 7 = .ok (.aload_n 0, 1) := by decide +kernel
theorem d_WordList_indexOf_8 : decode b_WordList_indexOf 8 = .ok (.getfield 19, 3) := by decide +kernel
theorem d_WordList_indexOf_11 : decode b_WordList_indexOf 11 = .ok (.if_icmp .ge 18, 3) := by decide +kernel
theorem d_WordList_indexOf_14 : decode b_WordList_indexOf 14 = .ok (.aload_n 0, 1) := by decide +kernel
theorem d_WordList_indexOf_15 : decode b_WordList_indexOf 15 = .ok (.getfield 9, 3) := by decide +kernel
theorem d_WordList_indexOf_18 : decode b_WordList_indexOf 18 = .ok (.iload_n 3, 1) := by decide +kernel
theorem d_WordList_indexOf_19 : decode b_WordList_indexOf 19 = .ok (.laload, 1) := by decide +kernel
theorem d_WordList_indexOf_20 : decode b_WordList_indexOf 20 = .ok (.lload_n 1, 1) := by decide +kernel
theorem d_WordList_indexOf_21 : decode b_WordList_indexOf 21 = .ok (.lcmp, 1) := by decide +kernel
theorem d_WordList_indexOf_22 : decode b_WordList_indexOf 22 = .ok (.ifCond .ne 7, 3) := by decide +kernel
theorem d_WordList_indexOf_25 : decode b_WordList_indexOf 25 = .ok (.iload_n 3, 1) := by decide +kernel
theorem d_WordList_indexOf_26 : decode b_WordList_indexOf 26 = .ok (.goto 4, 3) := by decide +kernel
theorem d_WordList_indexOf_29 : decode b_WordList_indexOf 29 = .ok (.iconst (-1), 1) := by decide +kernel
theorem d_WordList_indexOf_30 : decode b_WordList_indexOf 30 = .ok (.ireturn, 1) := by decide +kernel
theorem d_WordList_put_0 : decode b_WordList_put 0 = .ok (.aload_n 0, 1) := by decide +kernel
theorem d_WordList_put_1 : decode b_WordList_put 1 = .ok (.lload_n 1, 1) := by decide +kernel
theorem d_WordList_put_2 : decode b_WordList_put 2 = .ok (.invokevirtual 23, 3) := by decide +kernel
theorem d_WordList_put_5 : decode b_WordList_put 5 = .ok (.istore 4, 2) := by decide +kernel
theorem d_WordList_put_7 : decode b_WordList_put 7 = .ok (.iload 4, 2) := by decide +kernel
theorem d_WordList_put_9 : decode b_WordList_put 9 = .ok (.aload_n 0, 1) := by decide +kernel
theorem d_WordList_put_10 : decode b_WordList_put 10 = .ok (.getfield 19, 3) := by decide +kernel
theorem d_WordList_put_13 : decode b_WordList_put 13 = .ok (.if_icmp .ge 25, 3) := by decide +kernel
theorem d_WordList_put_16 : decode b_WordList_put 16 = .ok (.aload_n 0, 1) := by decide +kernel
theorem d_WordList_put_17 : decode b_WordList_put 17 = .ok (.getfield 9, 3) := by decide +kernel
theorem d_WordList_put_20 : decode b_WordList_put 20 = .ok (.iload 4, 2) := by decide +kernel
theorem d_WordList_put_22 : decode b_WordList_put 22 = .ok (.laload, 1) := by decide +kernel
theorem d_WordList_put_23 : decode b_WordList_put 23 = .ok (.lload_n 1, 1) := by decide +kernel
theorem d_WordList_put_24 : decode b_WordList_put 24 = .ok (.lcmp, 1) := by decide +kernel
theorem d_WordList_put_25 : decode b_WordList_put 25 = .ok (.ifCond .ne 13, 3) := by decide +kernel
theorem d_WordList_put_28 : decode b_WordList_put 28 = .ok (.aload_n 0, 1) := by decide +kernel
theorem d_WordList_put_29 : decode b_WordList_put 29 = .ok (.getfield 15, 3) := by decide +kernel
theorem d_WordList_put_32 : decode b_WordList_put 32 = .ok (.iload 4, 2) := by decide +kernel
theorem d_WordList_put_34 : decode b_WordList_put 34 = .ok (.iload_n 3, 1) := by decide +kernel
theorem d_WordList_put_35 : decode b_WordList_put 35 = .ok (.iastore, 1) := by decide +kernel
theorem d_WordList_put_36 : decode b_WordList_put 36 = .ok (.iconst 1, 1) := by decide +kernel
theorem d_WordList_put_37 : decode b_WordList_put 37 = .ok (.ireturn, 1) := by decide +kernel
theorem d_WordList_put_38 : decode b_WordList_put 38 = .ok (.aload_n 0, 1) := by decide +kernel
theorem d_WordList_put_39 : decode b_WordList_put 39 = .ok (.getfield 19, 3) := by decide +kernel
theorem d_WordList_put_42 : decode b_WordList_put 42 = .ok (.bipush 24, 2) := by decide +kernel
theorem d_WordList_put_44 : decode b_WordList_put 44 = .ok (.if_icmp .lt 5, 3) := by decide +kernel
theorem d_WordList_put_47 : decode b_WordList_put 47 = .ok (.iconst 0, 1) := by decide +kernel
theorem d_WordList_put_48 : decode b_WordList_put 48 = .ok (.ireturn, 1) := by decide +kernel
theorem d_WordList_put_49 : decode b_WordList_put 49 = .ok (.aload_n 0, 1) := by decide +kernel
theorem d_WordList_put_50 : decode b_WordList_put 50 = .ok (.getfield 19, 3) := by decide +kernel
theorem d_WordList_put_53 : decode b_WordList_put 53 = .ok (.istore 5, 2) := by decide +kernel
theorem d_WordList_put_55 : decode b_WordList_put 55 = .ok (.iload 5, 2) := by decide +kernel
theorem d_WordList_put_57 : decode b_WordList_put 57 = .ok (.iload 4, 2) := by decide +kernel
theorem d_WordList_put_59 : decode b_WordList_put 59 = .ok (.if_icmp .le 41, 3) := by decide +kernel
theorem d_WordList_put_62 : decode b_WordList_put 62 = .ok (.aload_n 0, 1) := by decide +kernel
theorem d_WordList_put_63 : decode b_WordList_put 63 = .ok (.getfield 9, 3) := by decide +kernel
theorem d_WordList_put_66 : decode b_WordList_put 66 = .ok (.iload 5, 2) := by decide +kernel
theorem d_WordList_put_68 : decode b_WordList_put 68 = .ok (.aload_n 0, 1) := by decide +kernel
theorem d_WordList_put_69 : decode b_WordList_put 69 = .ok (.getfield 9, 3) := by decide +kernel
theorem d_WordList_put_72 : decode b_WordList_put 72 = .ok (.iload 5, 2) := by decide +kernel
theorem d_WordList_put_74 : decode b_WordList_put 74 = .ok (.iconst 1, 1) := by decide +kernel
theorem d_WordList_put_75 : decode b_WordList_put 75 = .ok (.isub, 1) := by decide +kernel
theorem d_WordList_put_76 : decode b_WordList_put 76 = .ok (.laload, 1) := by decide +kernel
theorem d_WordList_put_77 : decode b_WordList_put 77 = .ok (.lastore, 1) := by decide +kernel
theorem d_WordList_put_78 : decode b_WordList_put 78 = .ok (.aload_n 0, 1) := by decide +kernel
theorem d_WordList_put_79 : decode b_WordList_put 79 = .ok (.getfield 15, 3) := by decide +kernel
theorem d_WordList_put_82 : decode b_WordList_put 82 = .ok (.iload 5, 2) := by decide +kernel
theorem d_WordList_put_84 : decode b_WordList_put 84 = .ok (.aload_n 0, 1) := by decide +kernel
theorem d_WordList_put_85 : decode b_WordList_put 85 = .ok (.getfield 15, 3) := by decide +kernel
theorem d_WordList_put_88 : decode b_WordList_put 88 = .ok (.iload 5, 2) := by decide +kernel
theorem d_WordList_put_90 : decode b_WordList_put 90 = .ok (.iconst 1, 1) := by decide +kernel
theorem d_WordList_put_91 : decode b_WordList_put 91 = .ok (.isub, 1) := by decide +kernel
theorem d_WordList_put_92 : decode b_WordList_put 92 = .ok (.iaload, 1) := by decide +kernel
theorem d_WordList_put_93 : decode b_WordList_put 93 = .ok (.iastore, 1) := by decide +kernel
theorem d_WordList_put_94 : decode b_WordList_put 94 = .ok (.iinc 5 (-1), 3) := by decide +kernel
theorem d_WordList_put_97 : decode b_WordList_put 97 = .ok (.goto (-42), 3) := by decide +kernel
theorem d_WordList_put_100 : decode b_WordList_put 100 = .ok (.aload_n 0, 1) := by decide +kernel
theorem d_WordList_put_101 : decode b_WordList_put 101 = .ok (.getfield 9, 3) := by decide +kernel
theorem d_WordList_put_104 : decode b_WordList_put 104 = .ok (.iload 4, 2) := by decide +kernel
theorem d_WordList_put_106 : decode b_WordList_put 106 = .ok (.lload_n 1, 1) := by decide +kernel
theorem d_WordList_put_107 : decode b_WordList_put 107 = .ok (.lastore, 1) := by decide +kernel
theorem d_WordList_put_108 : decode b_WordList_put 108 = .ok (.aload_n 0, 1) := by decide +kernel
theorem d_WordList_put_109 : decode b_WordList_put 109 = .ok (.getfield 15, 3) := by decide +kernel
theorem d_WordList_put_112 : decode b_WordList_put 112 = .ok (.iload 4, 2) := by decide +kernel
theorem d_WordList_put_114 : decode b_WordList_put 114 = .ok (.iload_n 3, 1) := by decide +kernel
theorem d_WordList_put_115 : decode b_WordList_put 115 = .ok (.iastore, 1) := by decide +kernel
theorem d_WordList_put_116 : decode b_WordList_put 116 = .ok (.aload_n 0, 1) := by decide +kernel
theorem d_WordList_put_117 : decode b_WordList_put 117 = .ok (.dup, 1) := by decide +kernel
theorem d_WordList_put_118 : decode b_WordList_put 118 = .ok (.getfield 19, 3) := by decide +kernel
theorem d_WordList_put_121 : decode b_WordList_put 121 = .ok (.iconst 1, 1) := by decide +kernel
theorem d_WordList_put_122 : decode b_WordList_put 122 = .ok (.iadd, 1) := by decide +kernel
theorem d_WordList_put_123 : decode b_WordList_put 123 = .ok (.putfield 19, 3) := by decide +kernel
theorem d_WordList_put_126 : decode b_WordList_put 126 = .ok (.iconst 1, 1) := by decide +kernel
theorem d_WordList_put_127 : decode b_WordList_put 127 = .ok (.ireturn, 1) := by decide +kernel
theorem d_WordList_remove_0 : decode b_WordList_remove 0 = .ok (.aload_n 0, 1) := by decide +kernel
theorem d_WordList_remove_1 : decode b_WordList_remove 1 = .ok (.lload_n 1, 1) := by decide +kernel
theorem d_WordList_remove_2 : decode b_WordList_remove 2 = .ok (.invokevirtual 27, 3) := by decide +kernel
theorem d_WordList_remove_5 : decode b_WordList_remove 5 = .ok (.istore_n 3, 1) := by decide +kernel
theorem d_WordList_remove_6 : decode b_WordList_remove 6 = .ok (.iload_n 3, 1) := by decide +kernel
theorem d_WordList_remove_7 : decode b_WordList_remove 7 = .ok (.ifCond .ge 5, 3) := by decide +kernel
theorem d_WordList_remove_10 : decode b_WordList_remove 10 = .ok (.iconst 0, 1) := by decide +kernel
theorem d_WordList_remove_11 : decode b_WordList_remove 11 = .ok (.ireturn, 1) := by decide +kernel
theorem d_WordList_remove_12 : decode b_WordList_remove 12 = .ok (.aload_n 0, 1) := by decide +kernel
theorem d_WordList_remove_13 : decode b_WordList_remove 13 = .ok (.dup, 1) := by decide +kernel
theorem d_WordList_remove_14 : decode b_WordList_remove 14 = .ok (.getfield 19, 3) := by decide +kernel
theorem d_WordList_remove_17 : decode b_WordList_remove 17 = .ok (.iconst 1, 1) := by decide +kernel
theorem d_WordList_remove_18 : decode b_WordList_remove 18 = .ok (.isub, 1) := by decide +kernel
theorem d_WordList_remove_19 : decode b_WordList_remove 19 = .ok (.putfield 19, 3) := by decide +kernel
theorem d_WordList_remove_22 : decode b_WordList_remove 22 = .ok (.iload_n 3, 1) := by decide +kernel
theorem d_WordList_remove_23 : decode b_WordList_remove 23 = .ok (.istore 4, 2) := by decide +kernel
theorem d_WordList_remove_25 : decode b_WordList_remove 25 = .ok (.iload 4, 2) := by decide +kernel
theorem d_WordList_remove_27 : decode b_WordList_remove 27 = .ok (.aload_n 0, 1) := by decide +kernel
theorem d_WordList_remove_28 : decode b_WordList_remove 28 = .ok (.getfield 19, 3) := by decide +kernel
theorem d_WordList_remove_31 : decode b_WordList_remove 31 = .ok (.if_icmp .ge 41, 3) := by decide +kernel
theorem d_WordList_remove_34 : decode b_WordList_remove 34 = .ok (.aload_n 0, 1) := by decide +kernel
theorem d_WordList_remove_35 : decode b_WordList_remove 35 = .ok (.getfield 9, 3) := by decide +kernel
theorem d_WordList_remove_38 : decode b_WordList_remove 38 = .ok (.iload 4, 2) := by decide +kernel
theorem d_WordList_remove_40 : decode b_WordList_remove 40 = .ok (.aload_n 0, 1) := by decide +kernel
theorem d_WordList_remove_41 : decode b_WordList_remove 41 = .ok (.getfield 9, 3) := by decide +kernel
theorem d_WordList_remove_44 : decode b_WordList_remove 44 = .ok (.iload 4, 2) := by decide +kernel
theorem d_WordList_remove_46 : decode b_WordList_remove 46 = .ok (.iconst 1, 1) := by decide +kernel
theorem d_WordList_remove_47 : decode b_WordList_remove 47 = .ok (.iadd, 1) := by decide +kernel
theorem d_WordList_remove_48 : decode b_WordList_remove 48 = .ok (.laload, 1) := by decide +kernel
theorem d_WordList_remove_49 : decode b_WordList_remove 49 = .ok (.lastore, 1) := by decide +kernel
theorem d_WordList_remove_50 : decode b_WordList_remove 50 = .ok (.aload_n 0, 1) := by decide +kernel
theorem d_WordList_remove_51 : decode b_WordList_remove 51 = .ok (.getfield 15, 3) := by decide +kernel
theorem d_WordList_remove_54 : decode b_WordList_remove 54 = .ok (.iload 4, 2) := by decide +kernel
theorem d_WordList_remove_56 : decode b_WordList_remove 56 = .ok (.aload_n 0, 1) := by decide +kernel
theorem d_WordList_remove_57 : decode b_WordList_remove 57 = .ok (.getfield 15, 3) := by decide +kernel
theorem d_WordList_remove_60 : decode b_WordList_remove 60 = .ok (.iload 4, 2) := by decide +kernel
theorem d_WordList_remove_62 : decode b_WordList_remove 62 = .ok (.iconst 1, 1) := by decide +kernel
theorem d_WordList_remove_63 : decode b_WordList_remove 63 = .ok (.iadd, 1) := by decide +kernel
theorem d_WordList_remove_64 : decode b_WordList_remove 64 = .ok (.iaload, 1) := by decide +kernel
theorem d_WordList_remove_65 : decode b_WordList_remove 65 = .ok (.iastore, 1) := by decide +kernel
theorem d_WordList_remove_66 : decode b_WordList_remove 66 = .ok (.iinc 4 1, 3) := by decide +kernel
theorem d_WordList_remove_69 : decode b_WordList_remove 69 = .ok (.goto (-44), 3) := by decide +kernel
theorem d_WordList_remove_72 : decode b_WordList_remove 72 = .ok (.iconst 1, 1) := by decide +kernel
theorem d_WordList_remove_73 : decode b_WordList_remove 73 = .ok (.ireturn, 1) := by decide +kernel
theorem d_WordList_copyFrom_0 : decode b_WordList_copyFrom 0 = .ok (.aload_n 0, 1) := by decide +kernel
theorem d_WordList_copyFrom_1 : decode b_WordList_copyFrom 1 = .ok (.aload_n 1, 1) := by decide +kernel
theorem d_WordList_copyFrom_2 : decode b_WordList_copyFrom 2 = .ok (.getfield 19, 3) := by decide +kernel
theorem d_WordList_copyFrom_5 : decode b_WordList_copyFrom 5 = .ok (.putfield 19, 3) := by decide +kernel
theorem d_WordList_copyFrom_8 : decode b_WordList_copyFrom 8 = .ok (.iconst 0, 1) := by decide +kernel
theorem d_WordList_copyFrom_9 : decode b_WordList_copyFrom 9 = .ok (.istore_n 2, 1) := by decide +kernel
theorem d_WordList_copyFrom_10 : decode b_WordList_copyFrom 10 = .ok (.iload_n 2, 1) := by decide +kernel
theorem d_WordList_copyFrom_11 : decode b_WordList_copyFrom 11 = .ok (.aload_n 0, 1) := by decide +kernel
theorem d_WordList_copyFrom_12 : decode b_WordList_copyFrom 12 = .ok (.getfield 19, 3) := by decide +kernel
theorem d_WordList_copyFrom_15 : decode b_WordList_copyFrom 15 = .ok (.if_icmp .ge 33, 3) := by decide +kernel
theorem d_WordList_copyFrom_18 : decode b_WordList_copyFrom 18 = .ok (.aload_n 0, 1) := by decide +kernel
theorem d_WordList_copyFrom_19 : decode b_WordList_copyFrom 19 = .ok (.getfield 9, 3) := by decide +kernel
theorem d_WordList_copyFrom_22 : decode b_WordList_copyFrom 22 = .ok (.iload_n 2, 1) := by decide +kernel
theorem d_WordList_copyFrom_23 : decode b_WordList_copyFrom 23 = .ok (.aload_n 1, 1) := by decide +kernel
theorem d_WordList_copyFrom_24 : decode b_WordList_copyFrom 24 = .ok (.getfield 9, 3) := by decide +kernel
theorem d_WordList_copyFrom_27 : decode b_WordList_copyFrom 27 = .ok (.iload_n 2, 1) := by decide +kernel
theorem d_WordList_copyFrom_28 : decode b_WordList_copyFrom 28 = .ok (.laload, 1) := by decide +kernel
theorem d_WordList_copyFrom_29 : decode b_WordList_copyFrom 29 = .ok (.lastore, 1) := by decide +kernel
theorem d_WordList_copyFrom_30 : decode b_WordList_copyFrom 30 = .ok (.aload_n 0, 1) := by decide +kernel
theorem d_WordList_copyFrom_31 : decode b_WordList_copyFrom 31 = .ok (.getfield 15, 3) := by decide +kernel
theorem d_WordList_copyFrom_34 : decode b_WordList_copyFrom 34 = .ok (.iload_n 2, 1) := by decide +kernel
theorem d_WordList_copyFrom_35 : decode b_WordList_copyFrom 35 = .ok (.aload_n 1, 1) := by decide +kernel
theorem d_WordList_copyFrom_36 : decode b_WordList_copyFrom 36 = .ok (.getfield 15, 3) := by decide +kernel
theorem d_WordList_copyFrom_39 : decode b_WordList_copyFrom 39 = .ok (.iload_n 2, 1) := by decide +kernel
theorem d_WordList_copyFrom_40 : decode b_WordList_copyFrom 40 = .ok (.iaload, 1) := by decide +kernel
theorem d_WordList_copyFrom_41 : decode b_WordList_copyFrom 41 = .ok (.iastore, 1) := by decide +kernel
theorem d_WordList_copyFrom_42 : decode b_WordList_copyFrom 42 = .ok (.iinc 2 1, 3) := by decide +kernel
theorem d_WordList_copyFrom_45 : decode b_WordList_copyFrom 45 = .ok (.goto (-35), 3) := by decide +kernel
theorem d_WordList_copyFrom_48 : decode b_WordList_copyFrom 48 = .ok (.return_, 1) := by decide +kernel
theorem d_WordList_firstNotBefore_0 : decode b_WordList_firstNotBefore 0 = .ok (.iconst 0, 1) := by decide +kernel
theorem d_WordList_firstNotBefore_1 : decode b_WordList_firstNotBefore 1 = .ok (.istore_n 3, 1) := by decide +kernel
theorem d_WordList_firstNotBefore_2 : decode b_WordList_firstNotBefore 2 = .ok (.iload_n 3, 1) := by decide +kernel
theorem d_WordList_firstNotBefore_3 : decode b_WordList_firstNotBefore 3 = .ok (.aload_n 0, 1) := by decide +kernel
theorem d_WordList_firstNotBefore_4 : decode b_WordList_firstNotBefore 4 = .ok (.getfield 19, 3) := by decide +kernel
theorem d_WordList_firstNotBefore_7 : decode b_WordList_firstNotBefore 7 = .ok (.if_icmp .ge 20, 3) := by decide +kernel
theorem d_WordList_firstNotBefore_10 : decode b_WordList_firstNotBefore 10 = .ok (.aload_n 0, 1) := by decide +kernel
theorem d_WordList_firstNotBefore_11 : decode b_WordList_firstNotBefore 11 = .ok (.getfield 9, 3) := by decide +kernel
theorem d_WordList_firstNotBefore_14 : decode b_WordList_firstNotBefore 14 = .ok (.iload_n 3, 1) := by decide +kernel
theorem d_WordList_firstNotBefore_15 : decode b_WordList_firstNotBefore 15 = .ok (.laload, 1) := by decide +kernel
theorem d_WordList_firstNotBefore_16 : decode b_WordList_firstNotBefore 16 = .ok (.lload_n 1, 1) := by decide +kernel
theorem d_WordList_firstNotBefore_17 : decode b_WordList_firstNotBefore 17 = .ok (.lcmp, 1) := by decide +kernel
theorem d_WordList_firstNotBefore_18 : decode b_WordList_firstNotBefore 18 = .ok (.ifCond .ge 9, 3) := by decide +kernel
theorem d_WordList_firstNotBefore_21 : decode b_WordList_firstNotBefore 21 = .ok (.iinc 3 1, 3) := by decide +kernel
theorem d_WordList_firstNotBefore_24 : decode b_WordList_firstNotBefore 24 = .ok (.goto (-22), 3) := by decide +kernel
theorem d_WordList_firstNotBefore_27 : decode b_WordList_firstNotBefore 27 = .ok (.iload_n 3, 1) := by decide +kernel
theorem d_WordList_firstNotBefore_28 : decode b_WordList_firstNotBefore 28 = .ok (.ireturn, 1) := by decide +kernel
theorem d_L_word_0 : decode b_L_word 0 = .ok (.aload 4, 2) := by decide +kernel
end
section
theorem d_L_word_2 : decode b_L_word 2 = .ok (.iconst 0, 1) := by decide +kernel
theorem d_L_word_3 : decode b_L_word 3 = .ok (.aload_n 0, 1) := by decide +kernel
theorem d_L_word_4 : decode b_L_word 4 = .ok (.lload_n 1, 1) := by decide +kernel
theorem d_L_word_5 : decode b_L_word 5 = .ok (.iload_n 3, 1) := by decide +kernel
theorem d_L_word_6 : decode b_L_word 6 = .ok (.invokevirtual 7, 3) := by decide +kernel
theorem d_L_word_9 : decode b_L_word 9 = .ok (.i2l, 1) := by decide +kernel
theorem d_L_word_10 : decode b_L_word 10 = .ok (.lastore, 1) := by decide +kernel
theorem d_L_word_11 : decode b_L_word 11 = .ok (.goto 11, 3) := by decide +kernel
theorem d_L_word_14 : decode b_L_word 14 = .ok (.astore 5, 2) := by decide +kernel
theorem d_L_word_16 : decode b_L_word 16 = .ok (.iconst 1, 1) := by decide +kernel
theorem d_L_word_17 : decode b_L_word 17 = .ok (.ireturn, 1) := by decide +kernel
theorem d_L_word_18 : decode b_L_word 18 = .ok (.astore 5, 2) := by decide +kernel
theorem d_L_word_20 : decode b_L_word 20 = .ok (.iconst 2, 1) := by decide +kernel
theorem d_L_word_21 : decode b_L_word 21 = .ok (.ireturn, 1) := by decide +kernel
theorem d_L_word_22 : decode b_L_word 22 = .ok (.iconst 0, 1) := by decide +kernel
theorem d_L_word_23 : decode b_L_word 23 = .ok (.ireturn, 1) := by decide +kernel
theorem d_L_build_0 : decode b_L_build 0 = .ok (.aload_n 1, 1) := by decide +kernel
theorem d_L_build_1 : decode b_L_build 1 = .ok (.iconst 0, 1) := by decide +kernel
theorem d_L_build_2 : decode b_L_build 2 = .ok (.aload_n 0, 1) := by decide +kernel
theorem d_L_build_3 : decode b_L_build 3 = .ok (.invokevirtual 17, 3) := by decide +kernel
theorem d_L_build_6 : decode b_L_build 6 = .ok (.i2l, 1) := by decide +kernel
theorem d_L_build_7 : decode b_L_build 7 = .ok (.lastore, 1) := by decide +kernel
theorem d_L_build_8 : decode b_L_build 8 = .ok (.goto 6, 3) := by decide +kernel
theorem d_L_build_11 : decode b_L_build 11 = .ok (.astore_n 2, 1) := by decide +kernel
theorem d_L_build_12 : decode b_L_build 12 = .ok (.iconst 1, 1) := by decide +kernel
theorem d_L_build_13 : decode b_L_build 13 = .ok (.ireturn, 1) := by decide +kernel
theorem d_L_build_14 : decode b_L_build 14 = .ok (.iconst 0, 1) := by decide +kernel
theorem d_L_build_15 : decode b_L_build 15 = .ok (.ireturn, 1) := by decide +kernel
theorem d_L_hold_0 : decode b_L_hold 0 = .ok (.aload_n 1, 1) := by decide +kernel
theorem d_L_hold_1 : decode b_L_hold 1 = .ok (.iconst 0, 1) := by decide +kernel
theorem d_L_hold_2 : decode b_L_hold 2 = .ok (.aload_n 0, 1) := by decide +kernel
theorem d_L_hold_3 : decode b_L_hold 3 = .ok (.invokevirtual 21, 3) := by decide +kernel
theorem d_L_hold_6 : decode b_L_hold 6 = .ok (.i2l, 1) := by decide +kernel
theorem d_L_hold_7 : decode b_L_hold 7 = .ok (.lastore, 1) := by decide +kernel
theorem d_L_hold_8 : decode b_L_hold 8 = .ok (.goto 6, 3) := by decide +kernel
theorem d_L_hold_11 : decode b_L_hold 11 = .ok (.astore_n 2, 1) := by decide +kernel
theorem d_L_hold_12 : decode b_L_hold 12 = .ok (.iconst 1, 1) := by decide +kernel
theorem d_L_hold_13 : decode b_L_hold 13 = .ok (.ireturn, 1) := by decide +kernel
theorem d_L_hold_14 : decode b_L_hold 14 = .ok (.iconst 0, 1) := by decide +kernel
theorem d_L_hold_15 : decode b_L_hold 15 = .ok (.ireturn, 1) := by decide +kernel
theorem d_L_release_0 : decode b_L_release 0 = .ok (.aload_n 2, 1) := by decide +kernel
theorem d_L_release_1 : decode b_L_release 1 = .ok (.iconst 0, 1) := by decide +kernel
theorem d_L_release_2 : decode b_L_release 2 = .ok (.aload_n 0, 1) := by decide +kernel
theorem d_L_release_3 : decode b_L_release 3 = .ok (.iload_n 1, 1) := by decide +kernel
theorem d_L_release_4 : decode b_L_release 4 = .ok (.invokevirtual 24, 3) := by decide +kernel
theorem d_L_release_7 : decode b_L_release 7 = .ok (.ifCond .eq 7, 3) := by decide +kernel
theorem d_L_release_10 : decode b_L_release 10 = .ok (.lconst 1, 1) := by decide +kernel
theorem d_L_release_11 : decode b_L_release 11 = .ok (.goto 4, 3) := by decide +kernel
theorem d_L_release_14 : decode b_L_release 14 = .ok (.lconst 0, 1) := by decide +kernel
theorem d_L_release_15 : decode b_L_release 15 = .ok (.lastore, 1) := by decide +kernel
theorem d_L_release_16 : decode b_L_release 16 = .ok (.goto 6, 3) := by decide +kernel
theorem d_L_release_19 : decode b_L_release 19 = .ok (.astore_n 3, 1) := by decide +kernel
theorem d_L_release_20 : decode b_L_release 20 = .ok (.iconst 1, 1) := by decide +kernel
theorem d_L_release_21 : decode b_L_release 21 = .ok (.ireturn, 1) := by decide +kernel
theorem d_L_release_22 : decode b_L_release 22 = .ok (.iconst 0, 1) := by decide +kernel
theorem d_L_release_23 : decode b_L_release 23 = .ok (.ireturn, 1) := by decide +kernel
theorem d_L_look_0 : decode b_L_look 0 = .ok (.aload_n 3, 1) := by decide +kernel
theorem d_L_look_1 : decode b_L_look 1 = .ok (.iconst 0, 1) := by decide +kernel
theorem d_L_look_2 : decode b_L_look 2 = .ok (.aload_n 0, 1) := by decide +kernel
theorem d_L_look_3 : decode b_L_look 3 = .ok (.iload_n 1, 1) := by decide +kernel
theorem d_L_look_4 : decode b_L_look 4 = .ok (.iload_n 2, 1) := by decide +kernel
theorem d_L_look_5 : decode b_L_look 5 = .ok (.invokevirtual 28, 3) := by decide +kernel
theorem d_L_look_8 : decode b_L_look 8 = .ok (.i2l, 1) := by decide +kernel
theorem d_L_look_9 : decode b_L_look 9 = .ok (.lastore, 1) := by decide +kernel
theorem d_L_look_10 : decode b_L_look 10 = .ok (.goto 11, 3) := by decide +kernel
theorem d_L_look_13 : decode b_L_look 13 = .ok (.astore 4, 2) := by decide +kernel
theorem d_L_look_15 : decode b_L_look 15 = .ok (.iconst 1, 1) := by decide +kernel
theorem d_L_look_16 : decode b_L_look 16 = .ok (.ireturn, 1) := by decide +kernel
theorem d_L_look_17 : decode b_L_look 17 = .ok (.astore 4, 2) := by decide +kernel
theorem d_L_look_19 : decode b_L_look 19 = .ok (.iconst 2, 1) := by decide +kernel
theorem d_L_look_20 : decode b_L_look 20 = .ok (.ireturn, 1) := by decide +kernel
theorem d_L_look_21 : decode b_L_look 21 = .ok (.iconst 0, 1) := by decide +kernel
theorem d_L_look_22 : decode b_L_look 22 = .ok (.ireturn, 1) := by decide +kernel
theorem d_L_cost_0 : decode b_L_cost 0 = .ok (.aload 4, 2) := by decide +kernel
theorem d_L_cost_2 : decode b_L_cost 2 = .ok (.iconst 0, 1) := by decide +kernel
theorem d_L_cost_3 : decode b_L_cost 3 = .ok (.aload_n 0, 1) := by decide +kernel
theorem d_L_cost_4 : decode b_L_cost 4 = .ok (.iload_n 1, 1) := by decide +kernel
theorem d_L_cost_5 : decode b_L_cost 5 = .ok (.lload_n 2, 1) := by decide +kernel
theorem d_L_cost_6 : decode b_L_cost 6 = .ok (.invokevirtual 34, 3) := by decide +kernel
theorem d_L_cost_9 : decode b_L_cost 9 = .ok (.i2l, 1) := by decide +kernel
theorem d_L_cost_10 : decode b_L_cost 10 = .ok (.lastore, 1) := by decide +kernel
theorem d_L_cost_11 : decode b_L_cost 11 = .ok (.goto 7, 3) := by decide +kernel
theorem d_L_cost_14 : decode b_L_cost 14 = .ok (.astore 5, 2) := by decide +kernel
theorem d_L_cost_16 : decode b_L_cost 16 = .ok (.iconst 1, 1) := by decide +kernel
theorem d_L_cost_17 : decode b_L_cost 17 = .ok (.ireturn, 1) := by decide +kernel
theorem d_L_cost_18 : decode b_L_cost 18 = .ok (.iconst 0, 1) := by decide +kernel
theorem d_L_cost_19 : decode b_L_cost 19 = .ok (.ireturn, 1) := by decide +kernel
theorem d_L_complete_0 : decode b_L_complete 0 = .ok (.aload 5, 2) := by decide +kernel
theorem d_L_complete_2 : decode b_L_complete 2 = .ok (.iconst 0, 1) := by decide +kernel
theorem d_L_complete_3 : decode b_L_complete 3 = .ok (.aload_n 0, 1) := by decide +kernel
theorem d_L_complete_4 : decode b_L_complete 4 = .ok (.iload_n 1, 1) := by decide +kernel
theorem d_L_complete_5 : decode b_L_complete 5 = .ok (.lload_n 2, 1) := by decide +kernel
theorem d_L_complete_6 : decode b_L_complete 6 = .ok (.iload 4, 2) := by decide +kernel
theorem d_L_complete_8 : decode b_L_complete 8 = .ok (.invokevirtual 38, 3) := by decide +kernel
theorem d_L_complete_11 : decode b_L_complete 11 = .ok (.i2l, 1) := by decide +kernel
theorem d_L_complete_12 : decode b_L_complete 12 = .ok (.lastore, 1) := by decide +kernel
theorem d_L_complete_13 : decode b_L_complete 13 = .ok (.goto 11, 3) := by decide +kernel
theorem d_L_complete_16 : decode b_L_complete 16 = .ok (.astore 6, 2) := by decide +kernel
theorem d_L_complete_18 : decode b_L_complete 18 = .ok (.iconst 1, 1) := by decide +kernel
theorem d_L_complete_19 : decode b_L_complete 19 = .ok (.ireturn, 1) := by decide +kernel
theorem d_L_complete_20 : decode b_L_complete 20 = .ok (.astore 6, 2) := by decide +kernel
theorem d_L_complete_22 : decode b_L_complete 22 = .ok (.iconst 2, 1) := by decide +kernel
theorem d_L_complete_23 : decode b_L_complete 23 = .ok (.ireturn, 1) := by decide +kernel
theorem d_L_complete_24 : decode b_L_complete 24 = .ok (.iconst 0, 1) := by decide +kernel
theorem d_L_complete_25 : decode b_L_complete 25 = .ok (.ireturn, 1) := by decide +kernel
theorem d_L_near_0 : decode b_L_near 0 = .ok (.aload 5, 2) := by decide +kernel
theorem d_L_near_2 : decode b_L_near 2 = .ok (.iconst 0, 1) := by decide +kernel
theorem d_L_near_3 : decode b_L_near 3 = .ok (.aload_n 0, 1) := by decide +kernel
theorem d_L_near_4 : decode b_L_near 4 = .ok (.iload_n 1, 1) := by decide +kernel
theorem d_L_near_5 : decode b_L_near 5 = .ok (.lload_n 2, 1) := by decide +kernel
theorem d_L_near_6 : decode b_L_near 6 = .ok (.iload 4, 2) := by decide +kernel
theorem d_L_near_8 : decode b_L_near 8 = .ok (.invokevirtual 42, 3) := by decide +kernel
theorem d_L_near_11 : decode b_L_near 11 = .ok (.i2l, 1) := by decide +kernel
theorem d_L_near_12 : decode b_L_near 12 = .ok (.lastore, 1) := by decide +kernel
theorem d_L_near_13 : decode b_L_near 13 = .ok (.goto 11, 3) := by decide +kernel
theorem d_L_near_16 : decode b_L_near 16 = .ok (.astore 6, 2) := by decide +kernel
theorem d_L_near_18 : decode b_L_near 18 = .ok (.iconst 1, 1) := by decide +kernel
theorem d_L_near_19 : decode b_L_near 19 = .ok (.ireturn, 1) := by decide +kernel
theorem d_L_near_20 : decode b_L_near 20 = .ok (.astore 6, 2) := by decide +kernel
theorem d_L_near_22 : decode b_L_near 22 = .ok (.iconst 2, 1) := by decide +kernel
theorem d_L_near_23 : decode b_L_near 23 = .ok (.ireturn, 1) := by decide +kernel
theorem d_L_near_24 : decode b_L_near 24 = .ok (.iconst 0, 1) := by decide +kernel
theorem d_L_near_25 : decode b_L_near 25 = .ok (.ireturn, 1) := by decide +kernel
theorem d_L_given_0 : decode b_L_given 0 = .ok (.aload_n 2, 1) := by decide +kernel
theorem d_L_given_1 : decode b_L_given 1 = .ok (.iconst 0, 1) := by decide +kernel
theorem d_L_given_2 : decode b_L_given 2 = .ok (.aload_n 0, 1) := by decide +kernel
theorem d_L_given_3 : decode b_L_given 3 = .ok (.iload_n 1, 1) := by decide +kernel
theorem d_L_given_4 : decode b_L_given 4 = .ok (.invokevirtual 45, 3) := by decide +kernel
theorem d_L_given_7 : decode b_L_given 7 = .ok (.lastore, 1) := by decide +kernel
theorem d_L_given_8 : decode b_L_given 8 = .ok (.goto 6, 3) := by decide +kernel
theorem d_L_given_11 : decode b_L_given 11 = .ok (.astore_n 3, 1) := by decide +kernel
theorem d_L_given_12 : decode b_L_given 12 = .ok (.iconst 1, 1) := by decide +kernel
theorem d_L_given_13 : decode b_L_given 13 = .ok (.ireturn, 1) := by decide +kernel
theorem d_L_given_14 : decode b_L_given 14 = .ok (.iconst 0, 1) := by decide +kernel
theorem d_L_given_15 : decode b_L_given 15 = .ok (.ireturn, 1) := by decide +kernel
theorem d_L_distance_0 : decode b_L_distance 0 = .ok (.aload 5, 2) := by decide +kernel
theorem d_L_distance_2 : decode b_L_distance 2 = .ok (.iconst 0, 1) := by decide +kernel
theorem d_L_distance_3 : decode b_L_distance 3 = .ok (.aload_n 0, 1) := by decide +kernel
theorem d_L_distance_4 : decode b_L_distance 4 = .ok (.lload_n 1, 1) := by decide +kernel
theorem d_L_distance_5 : decode b_L_distance 5 = .ok (.lload_n 3, 1) := by decide +kernel
theorem d_L_distance_6 : decode b_L_distance 6 = .ok (.invokevirtual 51, 3) := by decide +kernel
theorem d_L_distance_9 : decode b_L_distance 9 = .ok (.i2l, 1) := by decide +kernel
theorem d_L_distance_10 : decode b_L_distance 10 = .ok (.lastore, 1) := by decide +kernel
theorem d_L_distance_11 : decode b_L_distance 11 = .ok (.goto 7, 3) := by decide +kernel
theorem d_L_distance_14 : decode b_L_distance 14 = .ok (.astore 6, 2) := by decide +kernel
theorem d_L_distance_16 : decode b_L_distance 16 = .ok (.iconst 1, 1) := by decide +kernel
theorem d_L_distance_17 : decode b_L_distance 17 = .ok (.ireturn, 1) := by decide +kernel
theorem d_L_distance_18 : decode b_L_distance 18 = .ok (.iconst 0, 1) := by decide +kernel
theorem d_L_distance_19 : decode b_L_distance 19 = .ok (.ireturn, 1) := by decide +kernel
theorem d_L_learn_0 : decode b_L_learn 0 = .ok (.aload 5, 2) := by decide +kernel
theorem d_L_learn_2 : decode b_L_learn 2 = .ok (.iconst 0, 1) := by decide +kernel
theorem d_L_learn_3 : decode b_L_learn 3 = .ok (.aload_n 0, 1) := by decide +kernel
theorem d_L_learn_4 : decode b_L_learn 4 = .ok (.lload_n 1, 1) := by decide +kernel
theorem d_L_learn_5 : decode b_L_learn 5 = .ok (.lload_n 3, 1) := by decide +kernel
theorem d_L_learn_6 : decode b_L_learn 6 = .ok (.invokevirtual 55, 3) := by decide +kernel
theorem d_L_learn_9 : decode b_L_learn 9 = .ok (.i2l, 1) := by decide +kernel
theorem d_L_learn_10 : decode b_L_learn 10 = .ok (.lastore, 1) := by decide +kernel
theorem d_L_learn_11 : decode b_L_learn 11 = .ok (.goto 11, 3) := by decide +kernel
theorem d_L_learn_14 : decode b_L_learn 14 = .ok (.astore 6, 2) := by decide +kernel
theorem d_L_learn_16 : decode b_L_learn 16 = .ok (.iconst 1, 1) := by decide +kernel
theorem d_L_learn_17 : decode b_L_learn 17 = .ok (.ireturn, 1) := by decide +kernel
theorem d_L_learn_18 : decode b_L_learn 18 = .ok (.astore 6, 2) := by decide +kernel
theorem d_L_learn_20 : decode b_L_learn 20 = .ok (.iconst 2, 1) := by decide +kernel
theorem d_L_learn_21 : decode b_L_learn 21 = .ok (.ireturn, 1) := by decide +kernel
theorem d_L_learn_22 : decode b_L_learn 22 = .ok (.iconst 0, 1) := by decide +kernel
theorem d_L_learn_23 : decode b_L_learn 23 = .ok (.ireturn, 1) := by decide +kernel
theorem d_L_say_0 : decode b_L_say 0 = .ok (.aload_n 3, 1) := by decide +kernel
theorem d_L_say_1 : decode b_L_say 1 = .ok (.iconst 0, 1) := by decide +kernel
theorem d_L_say_2 : decode b_L_say 2 = .ok (.aload_n 0, 1) := by decide +kernel
theorem d_L_say_3 : decode b_L_say 3 = .ok (.lload_n 1, 1) := by decide +kernel
theorem d_L_say_4 : decode b_L_say 4 = .ok (.invokevirtual 58, 3) := by decide +kernel
theorem d_L_say_7 : decode b_L_say 7 = .ok (.i2l, 1) := by decide +kernel
theorem d_L_say_8 : decode b_L_say 8 = .ok (.lastore, 1) := by decide +kernel
theorem d_L_say_9 : decode b_L_say 9 = .ok (.goto 11, 3) := by decide +kernel
theorem d_L_say_12 : decode b_L_say 12 = .ok (.astore 4, 2) := by decide +kernel
theorem d_L_say_14 : decode b_L_say 14 = .ok (.iconst 1, 1) := by decide +kernel
theorem d_L_say_15 : decode b_L_say 15 = .ok (.ireturn, 1) := by decide +kernel
theorem d_L_say_16 : decode b_L_say 16 = .ok (.astore 4, 2) := by decide +kernel
theorem d_L_say_18 : decode b_L_say 18 = .ok (.iconst 2, 1) := by decide +kernel
theorem d_L_say_19 : decode b_L_say 19 = .ok (.ireturn, 1) := by decide +kernel
theorem d_L_say_20 : decode b_L_say 20 = .ok (.iconst 0, 1) := by decide +kernel
theorem d_L_say_21 : decode b_L_say 21 = .ok (.ireturn, 1) := by decide +kernel
theorem d_L_correct_0 : decode b_L_correct 0 = .ok (.aload_n 2, 1) := by decide +kernel
theorem d_L_correct_1 : decode b_L_correct 1 = .ok (.iconst 0, 1) := by decide +kernel
theorem d_L_correct_2 : decode b_L_correct 2 = .ok (.aload_n 0, 1) := by decide +kernel
theorem d_L_correct_3 : decode b_L_correct 3 = .ok (.iload_n 1, 1) := by decide +kernel
theorem d_L_correct_4 : decode b_L_correct 4 = .ok (.invokevirtual 62, 3) := by decide +kernel
theorem d_L_correct_7 : decode b_L_correct 7 = .ok (.i2l, 1) := by decide +kernel
theorem d_L_correct_8 : decode b_L_correct 8 = .ok (.lastore, 1) := by decide +kernel
theorem d_L_correct_9 : decode b_L_correct 9 = .ok (.goto 9, 3) := by decide +kernel
theorem d_L_correct_12 : decode b_L_correct 12 = .ok (.astore_n 3, 1) := by decide +kernel
theorem d_L_correct_13 : decode b_L_correct 13 = .ok (.iconst 1, 1) := by decide +kernel
theorem d_L_correct_14 : decode b_L_correct 14 = .ok (.ireturn, 1) := by decide +kernel
theorem d_L_correct_15 : decode b_L_correct 15 = .ok (.astore_n 3, 1) := by decide +kernel
theorem d_L_correct_16 : decode b_L_correct 16 = .ok (.iconst 2, 1) := by decide +kernel
theorem d_L_correct_17 : decode b_L_correct 17 = .ok (.ireturn, 1) := by decide +kernel
theorem d_L_correct_18 : decode b_L_correct 18 = .ok (.iconst 0, 1) := by decide +kernel
theorem d_L_correct_19 : decode b_L_correct 19 = .ok (.ireturn, 1) := by decide +kernel
theorem d_L_corrected_0 : decode b_L_corrected 0 = .ok (.aload_n 2, 1) := by decide +kernel
theorem d_L_corrected_1 : decode b_L_corrected 1 = .ok (.iconst 0, 1) := by decide +kernel
theorem d_L_corrected_2 : decode b_L_corrected 2 = .ok (.aload_n 0, 1) := by decide +kernel
theorem d_L_corrected_3 : decode b_L_corrected 3 = .ok (.iload_n 1, 1) := by decide +kernel
theorem d_L_corrected_4 : decode b_L_corrected 4 = .ok (.invokevirtual 66, 3) := by decide +kernel
theorem d_L_corrected_7 : decode b_L_corrected 7 = .ok (.lastore, 1) := by decide +kernel
theorem d_L_corrected_8 : decode b_L_corrected 8 = .ok (.goto 6, 3) := by decide +kernel
theorem d_L_corrected_11 : decode b_L_corrected 11 = .ok (.astore_n 3, 1) := by decide +kernel
theorem d_L_corrected_12 : decode b_L_corrected 12 = .ok (.iconst 1, 1) := by decide +kernel
theorem d_L_corrected_13 : decode b_L_corrected 13 = .ok (.ireturn, 1) := by decide +kernel
theorem d_L_corrected_14 : decode b_L_corrected 14 = .ok (.iconst 0, 1) := by decide +kernel
theorem d_L_corrected_15 : decode b_L_corrected 15 = .ok (.ireturn, 1) := by decide +kernel
theorem d_L_law_0 : decode b_L_law 0 = .ok (.new 8, 3) := by decide +kernel
theorem d_L_law_3 : decode b_L_law 3 = .ok (.dup, 1) := by decide +kernel
theorem d_L_law_4 : decode b_L_law 4 = .ok (.invokespecial 69, 3) := by decide +kernel
theorem d_L_law_7 : decode b_L_law 7 = .ok (.astore_n 1, 1) := by decide +kernel
theorem d_L_law_8 : decode b_L_law 8 = .ok (.new 70, 3) := by decide +kernel
theorem d_L_law_11 : decode b_L_law 11 = .ok (.dup, 1) := by decide +kernel
theorem d_L_law_12 : decode b_L_law 12 = .ok (.invokespecial 72, 3) := by decide +kernel
theorem d_L_law_15 : decode b_L_law 15 = .ok (.astore_n 2, 1) := by decide +kernel
theorem d_L_law_16 : decode b_L_law 16 = .ok (.iconst 1, 1) := by decide +kernel
theorem d_L_law_17 : decode b_L_law 17 = .ok (.newarray .long, 2) := by decide +kernel
theorem d_L_law_19 : decode b_L_law 19 = .ok (.astore_n 3, 1) := by decide +kernel
theorem d_L_law_20 : decode b_L_law 20 = .ok (.iconst 0, 1) := by decide +kernel
theorem d_L_law_21 : decode b_L_law 21 = .ok (.istore 4, 2) := by decide +kernel
theorem d_L_law_23 : decode b_L_law 23 = .ok (.iload 4, 2) := by decide +kernel
theorem d_L_law_25 : decode b_L_law 25 = .ok (.aload_n 0, 1) := by decide +kernel
theorem d_L_law_26 : decode b_L_law 26 = .ok (.arraylength, 1) := by decide +kernel
theorem d_L_law_27 : decode b_L_law 27 = .ok (.iconst 5, 1) := by decide +kernel
theorem d_L_law_28 : decode b_L_law 28 = .ok (.isub, 1) := by decide +kernel
theorem d_L_law_29 : decode b_L_law 29 = .ok (.if_icmp .gt 1307, 3) := by decide +kernel
theorem d_L_law_32 : decode b_L_law 32 = .ok (.aload_n 0, 1) := by decide +kernel
theorem d_L_law_33 : decode b_L_law 33 = .ok (.iload 4, 2) := by decide +kernel
theorem d_L_law_35 : decode b_L_law 35 = .ok (.iaload, 1) := by decide +kernel
theorem d_L_law_36 : decode b_L_law 36 = .ok (.bipush 15, 2) := by decide +kernel
theorem d_L_law_38 : decode b_L_law 38 = .ok (.iand, 1) := by decide +kernel
theorem d_L_law_39 : decode b_L_law 39 = .ok (.tableswitch 1291 0 14 #[73, 173, 230, 274, 318, 381, 449, 549, 661, 773, 828, 960, 1092, 1180, 1236], 73) := by decide +kernel
theorem d_L_law_112 : decode b_L_law 112 = .ok (.aload_n 1, 1) := by decide +kernel
theorem d_L_law_113 : decode b_L_law 113 = .ok (.aload_n 0, 1) := by decide +kernel
theorem d_L_law_114 : decode b_L_law 114 = .ok (.iload 4, 2) := by decide +kernel
theorem d_L_law_116 : decode b_L_law 116 = .ok (.iconst 1, 1) := by decide +kernel
theorem d_L_law_117 : decode b_L_law 117 = .ok (.iadd, 1) := by decide +kernel
theorem d_L_law_118 : decode b_L_law 118 = .ok (.iaload, 1) := by decide +kernel
theorem d_L_law_119 : decode b_L_law 119 = .ok (.i2l, 1) := by decide +kernel
theorem d_L_law_120 : decode b_L_law 120 = .ok (.bipush 32, 2) := by decide +kernel
theorem d_L_law_122 : decode b_L_law 122 = .ok (.lshl, 1) := by decide +kernel
theorem d_L_law_123 : decode b_L_law 123 = .ok (.aload_n 0, 1) := by decide +kernel
theorem d_L_law_124 : decode b_L_law 124 = .ok (.iload 4, 2) := by decide +kernel
theorem d_L_law_126 : decode b_L_law 126 = .ok (.iconst 2, 1) := by decide +kernel
theorem d_L_law_127 : decode b_L_law 127 = .ok (.iadd, 1) := by decide +kernel
theorem d_L_law_128 : decode b_L_law 128 = .ok (.iaload, 1) := by decide +kernel
theorem d_L_law_129 : decode b_L_law 129 = .ok (.i2l, 1) := by decide +kernel
theorem d_L_law_130 : decode b_L_law 130 = .ok (.ldc2_w 73, 3) := by decide +kernel
theorem d_L_law_133 : decode b_L_law 133 = .ok (.land, 1) := by decide +kernel
theorem d_L_law_134 : decode b_L_law 134 = .ok (.lor, 1) := by decide +kernel
theorem d_L_law_135 : decode b_L_law 135 = .ok (.aload_n 0, 1) := by decide +kernel
theorem d_L_law_136 : decode b_L_law 136 = .ok (.iload 4, 2) := by decide +kernel
theorem d_L_law_138 : decode b_L_law 138 = .ok (.iconst 3, 1) := by decide +kernel
theorem d_L_law_139 : decode b_L_law 139 = .ok (.iadd, 1) := by decide +kernel
theorem d_L_law_140 : decode b_L_law 140 = .ok (.iaload, 1) := by decide +kernel
theorem d_L_law_141 : decode b_L_law 141 = .ok (.aload_n 3, 1) := by decide +kernel
theorem d_L_law_142 : decode b_L_law 142 = .ok (.invokestatic 75, 3) := by decide +kernel
theorem d_L_law_145 : decode b_L_law 145 = .ok (.istore 5, 2) := by decide +kernel
theorem d_L_law_147 : decode b_L_law 147 = .ok (.aload_n 2, 1) := by decide +kernel
theorem d_L_law_148 : decode b_L_law 148 = .ok (.aload_n 0, 1) := by decide +kernel
theorem d_L_law_149 : decode b_L_law 149 = .ok (.iload 4, 2) := by decide +kernel
theorem d_L_law_151 : decode b_L_law 151 = .ok (.iconst 1, 1) := by decide +kernel
theorem d_L_law_152 : decode b_L_law 152 = .ok (.iadd, 1) := by decide +kernel
theorem d_L_law_153 : decode b_L_law 153 = .ok (.iaload, 1) := by decide +kernel
theorem d_L_law_154 : decode b_L_law 154 = .ok (.i2l, 1) := by decide +kernel
theorem d_L_law_155 : decode b_L_law 155 = .ok (.bipush 32, 2) := by decide +kernel
theorem d_L_law_157 : decode b_L_law 157 = .ok (.lshl, 1) := by decide +kernel
theorem d_L_law_158 : decode b_L_law 158 = .ok (.aload_n 0, 1) := by decide +kernel
theorem d_L_law_159 : decode b_L_law 159 = .ok (.iload 4, 2) := by decide +kernel
theorem d_L_law_161 : decode b_L_law 161 = .ok (.iconst 2, 1) := by decide +kernel
theorem d_L_law_162 : decode b_L_law 162 = .ok (.iadd, 1) := by decide +kernel
theorem d_L_law_163 : decode b_L_law 163 = .ok (.iaload, 1) := by decide +kernel
theorem d_L_law_164 : decode b_L_law 164 = .ok (.i2l, 1) := by decide +kernel
theorem d_L_law_165 : decode b_L_law 165 = .ok (.ldc2_w 73, 3) := by decide +kernel
theorem d_L_law_168 : decode b_L_law 168 = .ok (.land, 1) := by decide +kernel
theorem d_L_law_169 : decode b_L_law 169 = .ok (.lor, 1) := by decide +kernel
theorem d_L_law_170 : decode b_L_law 170 = .ok (.aload_n 0, 1) := by decide +kernel
theorem d_L_law_171 : decode b_L_law 171 = .ok (.iload 4, 2) := by decide +kernel
theorem d_L_law_173 : decode b_L_law 173 = .ok (.iconst 3, 1) := by decide +kernel
theorem d_L_law_174 : decode b_L_law 174 = .ok (.iadd, 1) := by decide +kernel
theorem d_L_law_175 : decode b_L_law 175 = .ok (.iaload, 1) := by decide +kernel
theorem d_L_law_176 : decode b_L_law 176 = .ok (.invokevirtual 80, 3) := by decide +kernel
theorem d_L_law_179 : decode b_L_law 179 = .ok (.istore 6, 2) := by decide +kernel
theorem d_L_law_181 : decode b_L_law 181 = .ok (.aload_n 2, 1) := by decide +kernel
theorem d_L_law_182 : decode b_L_law 182 = .ok (.invokevirtual 81, 3) := by decide +kernel
theorem d_L_law_185 : decode b_L_law 185 = .ok (.iload 5, 2) := by decide +kernel
theorem d_L_law_187 : decode b_L_law 187 = .ok (.if_icmp .eq 5, 3) := by decide +kernel
theorem d_L_law_190 : decode b_L_law 190 = .ok (.iconst 0, 1) := by decide +kernel
theorem d_L_law_191 : decode b_L_law 191 = .ok (.ireturn, 1) := by decide +kernel
theorem d_L_law_192 : decode b_L_law 192 = .ok (.iload 5, 2) := by decide +kernel
theorem d_L_law_194 : decode b_L_law 194 = .ok (.ifCond .ne 15, 3) := by decide +kernel
theorem d_L_law_197 : decode b_L_law 197 = .ok (.aload_n 3, 1) := by decide +kernel
theorem d_L_law_198 : decode b_L_law 198 = .ok (.iconst 0, 1) := by decide +kernel
theorem d_L_law_199 : decode b_L_law 199 = .ok (.laload, 1) := by decide +kernel
theorem d_L_law_200 : decode b_L_law 200 = .ok (.iload 6, 2) := by decide +kernel
theorem d_L_law_202 : decode b_L_law 202 = .ok (.i2l, 1) := by decide +kernel
theorem d_L_law_203 : decode b_L_law 203 = .ok (.lcmp, 1) := by decide +kernel
theorem d_L_law_204 : decode b_L_law 204 = .ok (.ifCond .eq 5, 3) := by decide +kernel
theorem d_L_law_207 : decode b_L_law 207 = .ok (.iconst 0, 1) := by decide +kernel
theorem d_L_law_208 : decode b_L_law 208 = .ok (.ireturn, 1) := by decide +kernel
theorem d_L_law_209 : decode b_L_law 209 = .ok (.goto 1121, 3) := by decide +kernel
theorem d_L_law_212 : decode b_L_law 212 = .ok (.aload_n 1, 1) := by decide +kernel
theorem d_L_law_213 : decode b_L_law 213 = .ok (.aload_n 0, 1) := by decide +kernel
theorem d_L_law_214 : decode b_L_law 214 = .ok (.iload 4, 2) := by decide +kernel
theorem d_L_law_216 : decode b_L_law 216 = .ok (.iconst 1, 1) := by decide +kernel
theorem d_L_law_217 : decode b_L_law 217 = .ok (.iadd, 1) := by decide +kernel
theorem d_L_law_218 : decode b_L_law 218 = .ok (.iaload, 1) := by decide +kernel
theorem d_L_law_219 : decode b_L_law 219 = .ok (.i2l, 1) := by decide +kernel
theorem d_L_law_220 : decode b_L_law 220 = .ok (.bipush 32, 2) := by decide +kernel
theorem d_L_law_222 : decode b_L_law 222 = .ok (.lshl, 1) := by decide +kernel
theorem d_L_law_223 : decode b_L_law 223 = .ok (.aload_n 0, 1) := by decide +kernel
theorem d_L_law_224 : decode b_L_law 224 = .ok (.iload 4, 2) := by decide +kernel
theorem d_L_law_226 : decode b_L_law 226 = .ok (.iconst 2, 1) := by decide +kernel
theorem d_L_law_227 : decode b_L_law 227 = .ok (.iadd, 1) := by decide +kernel
theorem d_L_law_228 : decode b_L_law 228 = .ok (.iaload, 1) := by decide +kernel
theorem d_L_law_229 : decode b_L_law 229 = .ok (.i2l, 1) := by decide +kernel
theorem d_L_law_230 : decode b_L_law 230 = .ok (.ldc2_w 73, 3) := by decide +kernel
theorem d_L_law_233 : decode b_L_law 233 = .ok (.land, 1) := by decide +kernel
theorem d_L_law_234 : decode b_L_law 234 = .ok (.lor, 1) := by decide +kernel
theorem d_L_law_235 : decode b_L_law 235 = .ok (.invokevirtual 84, 3) := by decide +kernel
theorem d_L_law_238 : decode b_L_law 238 = .ok (.aload_n 2, 1) := by decide +kernel
theorem d_L_law_239 : decode b_L_law 239 = .ok (.aload_n 0, 1) := by decide +kernel
theorem d_L_law_240 : decode b_L_law 240 = .ok (.iload 4, 2) := by decide +kernel
theorem d_L_law_242 : decode b_L_law 242 = .ok (.iconst 1, 1) := by decide +kernel
theorem d_L_law_243 : decode b_L_law 243 = .ok (.iadd, 1) := by decide +kernel
theorem d_L_law_244 : decode b_L_law 244 = .ok (.iaload, 1) := by decide +kernel
theorem d_L_law_245 : decode b_L_law 245 = .ok (.i2l, 1) := by decide +kernel
theorem d_L_law_246 : decode b_L_law 246 = .ok (.bipush 32, 2) := by decide +kernel
theorem d_L_law_248 : decode b_L_law 248 = .ok (.lshl, 1) := by decide +kernel
theorem d_L_law_249 : decode b_L_law 249 = .ok (.aload_n 0, 1) := by decide +kernel
theorem d_L_law_250 : decode b_L_law 250 = .ok (.iload 4, 2) := by decide +kernel
theorem d_L_law_252 : decode b_L_law 252 = .ok (.iconst 2, 1) := by decide +kernel
theorem d_L_law_253 : decode b_L_law 253 = .ok (.iadd, 1) := by decide +kernel
theorem d_L_law_254 : decode b_L_law 254 = .ok (.iaload, 1) := by decide +kernel
theorem d_L_law_255 : decode b_L_law 255 = .ok (.i2l, 1) := by decide +kernel
theorem d_L_law_256 : decode b_L_law 256 = .ok (.ldc2_w 73, 3) := by decide +kernel
theorem d_L_law_259 : decode b_L_law 259 = .ok (.land, 1) := by decide +kernel
theorem d_L_law_260 : decode b_L_law 260 = .ok (.lor, 1) := by decide +kernel
theorem d_L_law_261 : decode b_L_law 261 = .ok (.invokevirtual 88, 3) := by decide +kernel
theorem d_L_law_264 : decode b_L_law 264 = .ok (.if_icmp .eq 1066, 3) := by decide +kernel
theorem d_L_law_267 : decode b_L_law 267 = .ok (.iconst 0, 1) := by decide +kernel
theorem d_L_law_268 : decode b_L_law 268 = .ok (.ireturn, 1) := by decide +kernel
theorem d_L_law_269 : decode b_L_law 269 = .ok (.aload_n 1, 1) := by decide +kernel
theorem d_L_law_270 : decode b_L_law 270 = .ok (.aload_n 3, 1) := by decide +kernel
theorem d_L_law_271 : decode b_L_law 271 = .ok (.invokestatic 89, 3) := by decide +kernel
theorem d_L_law_274 : decode b_L_law 274 = .ok (.istore 5, 2) := by decide +kernel
theorem d_L_law_276 : decode b_L_law 276 = .ok (.aload_n 2, 1) := by decide +kernel
theorem d_L_law_277 : decode b_L_law 277 = .ok (.invokevirtual 92, 3) := by decide +kernel
theorem d_L_law_280 : decode b_L_law 280 = .ok (.istore 6, 2) := by decide +kernel
theorem d_L_law_282 : decode b_L_law 282 = .ok (.aload_n 2, 1) := by decide +kernel
theorem d_L_law_283 : decode b_L_law 283 = .ok (.invokevirtual 81, 3) := by decide +kernel
theorem d_L_law_286 : decode b_L_law 286 = .ok (.iload 5, 2) := by decide +kernel
theorem d_L_law_288 : decode b_L_law 288 = .ok (.if_icmp .eq 5, 3) := by decide +kernel
theorem d_L_law_291 : decode b_L_law 291 = .ok (.iconst 0, 1) := by decide +kernel
theorem d_L_law_292 : decode b_L_law 292 = .ok (.ireturn, 1) := by decide +kernel
theorem d_L_law_293 : decode b_L_law 293 = .ok (.iload 5, 2) := by decide +kernel
theorem d_L_law_295 : decode b_L_law 295 = .ok (.ifCond .ne 15, 3) := by decide +kernel
theorem d_L_law_298 : decode b_L_law 298 = .ok (.aload_n 3, 1) := by decide +kernel
theorem d_L_law_299 : decode b_L_law 299 = .ok (.iconst 0, 1) := by decide +kernel
theorem d_L_law_300 : decode b_L_law 300 = .ok (.laload, 1) := by decide +kernel
theorem d_L_law_301 : decode b_L_law 301 = .ok (.iload 6, 2) := by decide +kernel
theorem d_L_law_303 : decode b_L_law 303 = .ok (.i2l, 1) := by decide +kernel
theorem d_L_law_304 : decode b_L_law 304 = .ok (.lcmp, 1) := by decide +kernel
theorem d_L_law_305 : decode b_L_law 305 = .ok (.ifCond .eq 5, 3) := by decide +kernel
theorem d_L_law_308 : decode b_L_law 308 = .ok (.iconst 0, 1) := by decide +kernel
theorem d_L_law_309 : decode b_L_law 309 = .ok (.ireturn, 1) := by decide +kernel
theorem d_L_law_310 : decode b_L_law 310 = .ok (.goto 1020, 3) := by decide +kernel
theorem d_L_law_313 : decode b_L_law 313 = .ok (.aload_n 1, 1) := by decide +kernel
theorem d_L_law_314 : decode b_L_law 314 = .ok (.aload_n 3, 1) := by decide +kernel
theorem d_L_law_315 : decode b_L_law 315 = .ok (.invokestatic 93, 3) := by decide +kernel
theorem d_L_law_318 : decode b_L_law 318 = .ok (.istore 5, 2) := by decide +kernel
theorem d_L_law_320 : decode b_L_law 320 = .ok (.aload_n 2, 1) := by decide +kernel
theorem d_L_law_321 : decode b_L_law 321 = .ok (.invokevirtual 95, 3) := by decide +kernel
theorem d_L_law_324 : decode b_L_law 324 = .ok (.istore 6, 2) := by decide +kernel
theorem d_L_law_326 : decode b_L_law 326 = .ok (.aload_n 2, 1) := by decide +kernel
theorem d_L_law_327 : decode b_L_law 327 = .ok (.invokevirtual 81, 3) := by decide +kernel
theorem d_L_law_330 : decode b_L_law 330 = .ok (.iload 5, 2) := by decide +kernel
theorem d_L_law_332 : decode b_L_law 332 = .ok (.if_icmp .eq 5, 3) := by decide +kernel
theorem d_L_law_335 : decode b_L_law 335 = .ok (.iconst 0, 1) := by decide +kernel
theorem d_L_law_336 : decode b_L_law 336 = .ok (.ireturn, 1) := by decide +kernel
theorem d_L_law_337 : decode b_L_law 337 = .ok (.iload 5, 2) := by decide +kernel
theorem d_L_law_339 : decode b_L_law 339 = .ok (.ifCond .ne 15, 3) := by decide +kernel
theorem d_L_law_342 : decode b_L_law 342 = .ok (.aload_n 3, 1) := by decide +kernel
theorem d_L_law_343 : decode b_L_law 343 = .ok (.iconst 0, 1) := by decide +kernel
theorem d_L_law_344 : decode b_L_law 344 = .ok (.laload, 1) := by decide +kernel
theorem d_L_law_345 : decode b_L_law 345 = .ok (.iload 6, 2) := by decide +kernel
theorem d_L_law_347 : decode b_L_law 347 = .ok (.i2l, 1) := by decide +kernel
theorem d_L_law_348 : decode b_L_law 348 = .ok (.lcmp, 1) := by decide +kernel
theorem d_L_law_349 : decode b_L_law 349 = .ok (.ifCond .eq 5, 3) := by decide +kernel
theorem d_L_law_352 : decode b_L_law 352 = .ok (.iconst 0, 1) := by decide +kernel
theorem d_L_law_353 : decode b_L_law 353 = .ok (.ireturn, 1) := by decide +kernel
theorem d_L_law_354 : decode b_L_law 354 = .ok (.goto 976, 3) := by decide +kernel
theorem d_L_law_357 : decode b_L_law 357 = .ok (.aload_n 1, 1) := by decide +kernel
theorem d_L_law_358 : decode b_L_law 358 = .ok (.aload_n 0, 1) := by decide +kernel
theorem d_L_law_359 : decode b_L_law 359 = .ok (.iload 4, 2) := by decide +kernel
theorem d_L_law_361 : decode b_L_law 361 = .ok (.iconst 1, 1) := by decide +kernel
theorem d_L_law_362 : decode b_L_law 362 = .ok (.iadd, 1) := by decide +kernel
theorem d_L_law_363 : decode b_L_law 363 = .ok (.iaload, 1) := by decide +kernel
theorem d_L_law_364 : decode b_L_law 364 = .ok (.aload_n 3, 1) := by decide +kernel
theorem d_L_law_365 : decode b_L_law 365 = .ok (.invokestatic 96, 3) := by decide +kernel
theorem d_L_law_368 : decode b_L_law 368 = .ok (.istore 5, 2) := by decide +kernel
theorem d_L_law_370 : decode b_L_law 370 = .ok (.aload_n 2, 1) := by decide +kernel
theorem d_L_law_371 : decode b_L_law 371 = .ok (.aload_n 0, 1) := by decide +kernel
theorem d_L_law_372 : decode b_L_law 372 = .ok (.iload 4, 2) := by decide +kernel
theorem d_L_law_374 : decode b_L_law 374 = .ok (.iconst 1, 1) := by decide +kernel
theorem d_L_law_375 : decode b_L_law 375 = .ok (.iadd, 1) := by decide +kernel
theorem d_L_law_376 : decode b_L_law 376 = .ok (.iaload, 1) := by decide +kernel
theorem d_L_law_377 : decode b_L_law 377 = .ok (.invokevirtual 99, 3) := by decide +kernel
theorem d_L_law_380 : decode b_L_law 380 = .ok (.istore 6, 2) := by decide +kernel
theorem d_L_law_382 : decode b_L_law 382 = .ok (.aload_n 2, 1) := by decide +kernel
theorem d_L_law_383 : decode b_L_law 383 = .ok (.invokevirtual 81, 3) := by decide +kernel
theorem d_L_law_386 : decode b_L_law 386 = .ok (.iload 5, 2) := by decide +kernel
theorem d_L_law_388 : decode b_L_law 388 = .ok (.if_icmp .eq 5, 3) := by decide +kernel
theorem d_L_law_391 : decode b_L_law 391 = .ok (.iconst 0, 1) := by decide +kernel
theorem d_L_law_392 : decode b_L_law 392 = .ok (.ireturn, 1) := by decide +kernel
theorem d_L_law_393 : decode b_L_law 393 = .ok (.iload 5, 2) := by decide +kernel
theorem d_L_law_395 : decode b_L_law 395 = .ok (.ifCond .ne 22, 3) := by decide +kernel
theorem d_L_law_398 : decode b_L_law 398 = .ok (.aload_n 3, 1) := by decide +kernel
theorem d_L_law_399 : decode b_L_law 399 = .ok (.iconst 0, 1) := by decide +kernel
theorem d_L_law_400 : decode b_L_law 400 = .ok (.laload, 1) := by decide +kernel
theorem d_L_law_401 : decode b_L_law 401 = .ok (.iload 6, 2) := by decide +kernel
theorem d_L_law_403 : decode b_L_law 403 = .ok (.ifCond .eq 7, 3) := by decide +kernel
theorem d_L_law_406 : decode b_L_law 406 = .ok (.lconst 1, 1) := by decide +kernel
theorem d_L_law_407 : decode b_L_law 407 = .ok (.goto 4, 3) := by decide +kernel
theorem d_L_law_410 : decode b_L_law 410 = .ok (.lconst 0, 1) := by decide +kernel
theorem d_L_law_411 : decode b_L_law 411 = .ok (.lcmp, 1) := by decide +kernel
theorem d_L_law_412 : decode b_L_law 412 = .ok (.ifCond .eq 5, 3) := by decide +kernel
theorem d_L_law_415 : decode b_L_law 415 = .ok (.iconst 0, 1) := by decide +kernel
theorem d_L_law_416 : decode b_L_law 416 = .ok (.ireturn, 1) := by decide +kernel
theorem d_L_law_417 : decode b_L_law 417 = .ok (.goto 913, 3) := by decide +kernel
theorem d_L_law_420 : decode b_L_law 420 = .ok (.aload_n 1, 1) := by decide +kernel
theorem d_L_law_421 : decode b_L_law 421 = .ok (.aload_n 0, 1) := by decide +kernel
theorem d_L_law_422 : decode b_L_law 422 = .ok (.iload 4, 2) := by decide +kernel
theorem d_L_law_424 : decode b_L_law 424 = .ok (.iconst 1, 1) := by decide +kernel
theorem d_L_law_425 : decode b_L_law 425 = .ok (.iadd, 1) := by decide +kernel
theorem d_L_law_426 : decode b_L_law 426 = .ok (.iaload, 1) := by decide +kernel
theorem d_L_law_427 : decode b_L_law 427 = .ok (.aload_n 0, 1) := by decide +kernel
theorem d_L_law_428 : decode b_L_law 428 = .ok (.iload 4, 2) := by decide +kernel
theorem d_L_law_430 : decode b_L_law 430 = .ok (.iconst 2, 1) := by decide +kernel
theorem d_L_law_431 : decode b_L_law 431 = .ok (.iadd, 1) := by decide +kernel
theorem d_L_law_432 : decode b_L_law 432 = .ok (.iaload, 1) := by decide +kernel
theorem d_L_law_433 : decode b_L_law 433 = .ok (.aload_n 3, 1) := by decide +kernel
theorem d_L_law_434 : decode b_L_law 434 = .ok (.invokestatic 100, 3) := by decide +kernel
theorem d_L_law_437 : decode b_L_law 437 = .ok (.istore 5, 2) := by decide +kernel
theorem d_L_law_439 : decode b_L_law 439 = .ok (.aload_n 2, 1) := by decide +kernel
theorem d_L_law_440 : decode b_L_law 440 = .ok (.aload_n 0, 1) := by decide +kernel
theorem d_L_law_441 : decode b_L_law 441 = .ok (.iload 4, 2) := by decide +kernel
theorem d_L_law_443 : decode b_L_law 443 = .ok (.iconst 1, 1) := by decide +kernel
theorem d_L_law_444 : decode b_L_law 444 = .ok (.iadd, 1) := by decide +kernel
theorem d_L_law_445 : decode b_L_law 445 = .ok (.iaload, 1) := by decide +kernel
theorem d_L_law_446 : decode b_L_law 446 = .ok (.aload_n 0, 1) := by decide +kernel
theorem d_L_law_447 : decode b_L_law 447 = .ok (.iload 4, 2) := by decide +kernel
theorem d_L_law_449 : decode b_L_law 449 = .ok (.iconst 2, 1) := by decide +kernel
theorem d_L_law_450 : decode b_L_law 450 = .ok (.iadd, 1) := by decide +kernel
theorem d_L_law_451 : decode b_L_law 451 = .ok (.iaload, 1) := by decide +kernel
theorem d_L_law_452 : decode b_L_law 452 = .ok (.invokevirtual 103, 3) := by decide +kernel
theorem d_L_law_455 : decode b_L_law 455 = .ok (.istore 6, 2) := by decide +kernel
theorem d_L_law_457 : decode b_L_law 457 = .ok (.aload_n 2, 1) := by decide +kernel
theorem d_L_law_458 : decode b_L_law 458 = .ok (.invokevirtual 81, 3) := by decide +kernel
theorem d_L_law_461 : decode b_L_law 461 = .ok (.iload 5, 2) := by decide +kernel
theorem d_L_law_463 : decode b_L_law 463 = .ok (.if_icmp .eq 5, 3) := by decide +kernel
theorem d_L_law_466 : decode b_L_law 466 = .ok (.iconst 0, 1) := by decide +kernel
theorem d_L_law_467 : decode b_L_law 467 = .ok (.ireturn, 1) := by decide +kernel
theorem d_L_law_468 : decode b_L_law 468 = .ok (.iload 5, 2) := by decide +kernel
theorem d_L_law_470 : decode b_L_law 470 = .ok (.ifCond .ne 15, 3) := by decide +kernel
theorem d_L_law_473 : decode b_L_law 473 = .ok (.aload_n 3, 1) := by decide +kernel
theorem d_L_law_474 : decode b_L_law 474 = .ok (.iconst 0, 1) := by decide +kernel
theorem d_L_law_475 : decode b_L_law 475 = .ok (.laload, 1) := by decide +kernel
theorem d_L_law_476 : decode b_L_law 476 = .ok (.iload 6, 2) := by decide +kernel
theorem d_L_law_478 : decode b_L_law 478 = .ok (.i2l, 1) := by decide +kernel
theorem d_L_law_479 : decode b_L_law 479 = .ok (.lcmp, 1) := by decide +kernel
theorem d_L_law_480 : decode b_L_law 480 = .ok (.ifCond .eq 5, 3) := by decide +kernel
theorem d_L_law_483 : decode b_L_law 483 = .ok (.iconst 0, 1) := by decide +kernel
theorem d_L_law_484 : decode b_L_law 484 = .ok (.ireturn, 1) := by decide +kernel
theorem d_L_law_485 : decode b_L_law 485 = .ok (.goto 845, 3) := by decide +kernel
theorem d_L_law_488 : decode b_L_law 488 = .ok (.aload_n 1, 1) := by decide +kernel
theorem d_L_law_489 : decode b_L_law 489 = .ok (.aload_n 0, 1) := by decide +kernel
theorem d_L_law_490 : decode b_L_law 490 = .ok (.iload 4, 2) := by decide +kernel
theorem d_L_law_492 : decode b_L_law 492 = .ok (.iconst 1, 1) := by decide +kernel
theorem d_L_law_493 : decode b_L_law 493 = .ok (.iadd, 1) := by decide +kernel
theorem d_L_law_494 : decode b_L_law 494 = .ok (.iaload, 1) := by decide +kernel
theorem d_L_law_495 : decode b_L_law 495 = .ok (.aload_n 0, 1) := by decide +kernel
theorem d_L_law_496 : decode b_L_law 496 = .ok (.iload 4, 2) := by decide +kernel
theorem d_L_law_498 : decode b_L_law 498 = .ok (.iconst 2, 1) := by decide +kernel
theorem d_L_law_499 : decode b_L_law 499 = .ok (.iadd, 1) := by decide +kernel
theorem d_L_law_500 : decode b_L_law 500 = .ok (.iaload, 1) := by decide +kernel
theorem d_L_law_501 : decode b_L_law 501 = .ok (.i2l, 1) := by decide +kernel
theorem d_L_law_502 : decode b_L_law 502 = .ok (.bipush 32, 2) := by decide +kernel
theorem d_L_law_504 : decode b_L_law 504 = .ok (.lshl, 1) := by decide +kernel
theorem d_L_law_505 : decode b_L_law 505 = .ok (.aload_n 0, 1) := by decide +kernel
theorem d_L_law_506 : decode b_L_law 506 = .ok (.iload 4, 2) := by decide +kernel
theorem d_L_law_508 : decode b_L_law 508 = .ok (.iconst 3, 1) := by decide +kernel
theorem d_L_law_509 : decode b_L_law 509 = .ok (.iadd, 1) := by decide +kernel
theorem d_L_law_510 : decode b_L_law 510 = .ok (.iaload, 1) := by decide +kernel
theorem d_L_law_511 : decode b_L_law 511 = .ok (.i2l, 1) := by decide +kernel
theorem d_L_law_512 : decode b_L_law 512 = .ok (.ldc2_w 73, 3) := by decide +kernel
theorem d_L_law_515 : decode b_L_law 515 = .ok (.land, 1) := by decide +kernel
theorem d_L_law_516 : decode b_L_law 516 = .ok (.lor, 1) := by decide +kernel
theorem d_L_law_517 : decode b_L_law 517 = .ok (.aload_n 3, 1) := by decide +kernel
theorem d_L_law_518 : decode b_L_law 518 = .ok (.invokestatic 104, 3) := by decide +kernel
theorem d_L_law_521 : decode b_L_law 521 = .ok (.istore 5, 2) := by decide +kernel
theorem d_L_law_523 : decode b_L_law 523 = .ok (.aload_n 2, 1) := by decide +kernel
theorem d_L_law_524 : decode b_L_law 524 = .ok (.aload_n 0, 1) := by decide +kernel
theorem d_L_law_525 : decode b_L_law 525 = .ok (.iload 4, 2) := by decide +kernel
theorem d_L_law_527 : decode b_L_law 527 = .ok (.iconst 1, 1) := by decide +kernel
theorem d_L_law_528 : decode b_L_law 528 = .ok (.iadd, 1) := by decide +kernel
theorem d_L_law_529 : decode b_L_law 529 = .ok (.iaload, 1) := by decide +kernel
theorem d_L_law_530 : decode b_L_law 530 = .ok (.aload_n 0, 1) := by decide +kernel
theorem d_L_law_531 : decode b_L_law 531 = .ok (.iload 4, 2) := by decide +kernel
theorem d_L_law_533 : decode b_L_law 533 = .ok (.iconst 2, 1) := by decide +kernel
theorem d_L_law_534 : decode b_L_law 534 = .ok (.iadd, 1) := by decide +kernel
theorem d_L_law_535 : decode b_L_law 535 = .ok (.iaload, 1) := by decide +kernel
theorem d_L_law_536 : decode b_L_law 536 = .ok (.i2l, 1) := by decide +kernel
theorem d_L_law_537 : decode b_L_law 537 = .ok (.bipush 32, 2) := by decide +kernel
theorem d_L_law_539 : decode b_L_law 539 = .ok (.lshl, 1) := by decide +kernel
theorem d_L_law_540 : decode b_L_law 540 = .ok (.aload_n 0, 1) := by decide +kernel
theorem d_L_law_541 : decode b_L_law 541 = .ok (.iload 4, 2) := by decide +kernel
theorem d_L_law_543 : decode b_L_law 543 = .ok (.iconst 3, 1) := by decide +kernel
theorem d_L_law_544 : decode b_L_law 544 = .ok (.iadd, 1) := by decide +kernel
theorem d_L_law_545 : decode b_L_law 545 = .ok (.iaload, 1) := by decide +kernel
theorem d_L_law_546 : decode b_L_law 546 = .ok (.i2l, 1) := by decide +kernel
theorem d_L_law_547 : decode b_L_law 547 = .ok (.ldc2_w 73, 3) := by decide +kernel
theorem d_L_law_550 : decode b_L_law 550 = .ok (.land, 1) := by decide +kernel
theorem d_L_law_551 : decode b_L_law 551 = .ok (.lor, 1) := by decide +kernel
theorem d_L_law_552 : decode b_L_law 552 = .ok (.invokevirtual 107, 3) := by decide +kernel
theorem d_L_law_555 : decode b_L_law 555 = .ok (.istore 6, 2) := by decide +kernel
theorem d_L_law_557 : decode b_L_law 557 = .ok (.aload_n 2, 1) := by decide +kernel
theorem d_L_law_558 : decode b_L_law 558 = .ok (.invokevirtual 81, 3) := by decide +kernel
theorem d_L_law_561 : decode b_L_law 561 = .ok (.iload 5, 2) := by decide +kernel
theorem d_L_law_563 : decode b_L_law 563 = .ok (.if_icmp .eq 5, 3) := by decide +kernel
theorem d_L_law_566 : decode b_L_law 566 = .ok (.iconst 0, 1) := by decide +kernel
theorem d_L_law_567 : decode b_L_law 567 = .ok (.ireturn, 1) := by decide +kernel
theorem d_L_law_568 : decode b_L_law 568 = .ok (.iload 5, 2) := by decide +kernel
theorem d_L_law_570 : decode b_L_law 570 = .ok (.ifCond .ne 15, 3) := by decide +kernel
theorem d_L_law_573 : decode b_L_law 573 = .ok (.aload_n 3, 1) := by decide +kernel
theorem d_L_law_574 : decode b_L_law 574 = .ok (.iconst 0, 1) := by decide +kernel
theorem d_L_law_575 : decode b_L_law 575 = .ok (.laload, 1) := by decide +kernel
theorem d_L_law_576 : decode b_L_law 576 = .ok (.iload 6, 2) := by decide +kernel
theorem d_L_law_578 : decode b_L_law 578 = .ok (.i2l, 1) := by decide +kernel
theorem d_L_law_579 : decode b_L_law 579 = .ok (.lcmp, 1) := by decide +kernel
theorem d_L_law_580 : decode b_L_law 580 = .ok (.ifCond .eq 5, 3) := by decide +kernel
theorem d_L_law_583 : decode b_L_law 583 = .ok (.iconst 0, 1) := by decide +kernel
theorem d_L_law_584 : decode b_L_law 584 = .ok (.ireturn, 1) := by decide +kernel
theorem d_L_law_585 : decode b_L_law 585 = .ok (.goto 745, 3) := by decide +kernel
theorem d_L_law_588 : decode b_L_law 588 = .ok (.aload_n 1, 1) := by decide +kernel
theorem d_L_law_589 : decode b_L_law 589 = .ok (.aload_n 0, 1) := by decide +kernel
theorem d_L_law_590 : decode b_L_law 590 = .ok (.iload 4, 2) := by decide +kernel
theorem d_L_law_592 : decode b_L_law 592 = .ok (.iconst 1, 1) := by decide +kernel
theorem d_L_law_593 : decode b_L_law 593 = .ok (.iadd, 1) := by decide +kernel
theorem d_L_law_594 : decode b_L_law 594 = .ok (.iaload, 1) := by decide +kernel
theorem d_L_law_595 : decode b_L_law 595 = .ok (.aload_n 0, 1) := by decide +kernel
theorem d_L_law_596 : decode b_L_law 596 = .ok (.iload 4, 2) := by decide +kernel
theorem d_L_law_598 : decode b_L_law 598 = .ok (.iconst 2, 1) := by decide +kernel
theorem d_L_law_599 : decode b_L_law 599 = .ok (.iadd, 1) := by decide +kernel
theorem d_L_law_600 : decode b_L_law 600 = .ok (.iaload, 1) := by decide +kernel
theorem d_L_law_601 : decode b_L_law 601 = .ok (.i2l, 1) := by decide +kernel
theorem d_L_law_602 : decode b_L_law 602 = .ok (.bipush 32, 2) := by decide +kernel
theorem d_L_law_604 : decode b_L_law 604 = .ok (.lshl, 1) := by decide +kernel
theorem d_L_law_605 : decode b_L_law 605 = .ok (.aload_n 0, 1) := by decide +kernel
theorem d_L_law_606 : decode b_L_law 606 = .ok (.iload 4, 2) := by decide +kernel
theorem d_L_law_608 : decode b_L_law 608 = .ok (.iconst 3, 1) := by decide +kernel
theorem d_L_law_609 : decode b_L_law 609 = .ok (.iadd, 1) := by decide +kernel
theorem d_L_law_610 : decode b_L_law 610 = .ok (.iaload, 1) := by decide +kernel
theorem d_L_law_611 : decode b_L_law 611 = .ok (.i2l, 1) := by decide +kernel
theorem d_L_law_612 : decode b_L_law 612 = .ok (.ldc2_w 73, 3) := by decide +kernel
theorem d_L_law_615 : decode b_L_law 615 = .ok (.land, 1) := by decide +kernel
theorem d_L_law_616 : decode b_L_law 616 = .ok (.lor, 1) := by decide +kernel
theorem d_L_law_617 : decode b_L_law 617 = .ok (.aload_n 0, 1) := by decide +kernel
theorem d_L_law_618 : decode b_L_law 618 = .ok (.iload 4, 2) := by decide +kernel
theorem d_L_law_620 : decode b_L_law 620 = .ok (.iconst 4, 1) := by decide +kernel
theorem d_L_law_621 : decode b_L_law 621 = .ok (.iadd, 1) := by decide +kernel
theorem d_L_law_622 : decode b_L_law 622 = .ok (.iaload, 1) := by decide +kernel
theorem d_L_law_623 : decode b_L_law 623 = .ok (.aload_n 3, 1) := by decide +kernel
theorem d_L_law_624 : decode b_L_law 624 = .ok (.invokestatic 108, 3) := by decide +kernel
theorem d_L_law_627 : decode b_L_law 627 = .ok (.istore 5, 2) := by decide +kernel
theorem d_L_law_629 : decode b_L_law 629 = .ok (.aload_n 2, 1) := by decide +kernel
theorem d_L_law_630 : decode b_L_law 630 = .ok (.aload_n 0, 1) := by decide +kernel
theorem d_L_law_631 : decode b_L_law 631 = .ok (.iload 4, 2) := by decide +kernel
theorem d_L_law_633 : decode b_L_law 633 = .ok (.iconst 1, 1) := by decide +kernel
theorem d_L_law_634 : decode b_L_law 634 = .ok (.iadd, 1) := by decide +kernel
theorem d_L_law_635 : decode b_L_law 635 = .ok (.iaload, 1) := by decide +kernel
theorem d_L_law_636 : decode b_L_law 636 = .ok (.aload_n 0, 1) := by decide +kernel
theorem d_L_law_637 : decode b_L_law 637 = .ok (.iload 4, 2) := by decide +kernel
theorem d_L_law_639 : decode b_L_law 639 = .ok (.iconst 2, 1) := by decide +kernel
theorem d_L_law_640 : decode b_L_law 640 = .ok (.iadd, 1) := by decide +kernel
theorem d_L_law_641 : decode b_L_law 641 = .ok (.iaload, 1) := by decide +kernel
theorem d_L_law_642 : decode b_L_law 642 = .ok (.i2l, 1) := by decide +kernel
theorem d_L_law_643 : decode b_L_law 643 = .ok (.bipush 32, 2) := by decide +kernel
theorem d_L_law_645 : decode b_L_law 645 = .ok (.lshl, 1) := by decide +kernel
theorem d_L_law_646 : decode b_L_law 646 = .ok (.aload_n 0, 1) := by decide +kernel
theorem d_L_law_647 : decode b_L_law 647 = .ok (.iload 4, 2) := by decide +kernel
theorem d_L_law_649 : decode b_L_law 649 = .ok (.iconst 3, 1) := by decide +kernel
theorem d_L_law_650 : decode b_L_law 650 = .ok (.iadd, 1) := by decide +kernel
theorem d_L_law_651 : decode b_L_law 651 = .ok (.iaload, 1) := by decide +kernel
theorem d_L_law_652 : decode b_L_law 652 = .ok (.i2l, 1) := by decide +kernel
theorem d_L_law_653 : decode b_L_law 653 = .ok (.ldc2_w 73, 3) := by decide +kernel
theorem d_L_law_656 : decode b_L_law 656 = .ok (.land, 1) := by decide +kernel
theorem d_L_law_657 : decode b_L_law 657 = .ok (.lor, 1) := by decide +kernel
theorem d_L_law_658 : decode b_L_law 658 = .ok (.aload_n 0, 1) := by decide +kernel
theorem d_L_law_659 : decode b_L_law 659 = .ok (.iload 4, 2) := by decide +kernel
theorem d_L_law_661 : decode b_L_law 661 = .ok (.iconst 4, 1) := by decide +kernel
theorem d_L_law_662 : decode b_L_law 662 = .ok (.iadd, 1) := by decide +kernel
theorem d_L_law_663 : decode b_L_law 663 = .ok (.iaload, 1) := by decide +kernel
theorem d_L_law_664 : decode b_L_law 664 = .ok (.invokevirtual 111, 3) := by decide +kernel
theorem d_L_law_667 : decode b_L_law 667 = .ok (.istore 6, 2) := by decide +kernel
theorem d_L_law_669 : decode b_L_law 669 = .ok (.aload_n 2, 1) := by decide +kernel
theorem d_L_law_670 : decode b_L_law 670 = .ok (.invokevirtual 81, 3) := by decide +kernel
theorem d_L_law_673 : decode b_L_law 673 = .ok (.iload 5, 2) := by decide +kernel
theorem d_L_law_675 : decode b_L_law 675 = .ok (.if_icmp .eq 5, 3) := by decide +kernel
theorem d_L_law_678 : decode b_L_law 678 = .ok (.iconst 0, 1) := by decide +kernel
theorem d_L_law_679 : decode b_L_law 679 = .ok (.ireturn, 1) := by decide +kernel
theorem d_L_law_680 : decode b_L_law 680 = .ok (.iload 5, 2) := by decide +kernel
theorem d_L_law_682 : decode b_L_law 682 = .ok (.ifCond .ne 15, 3) := by decide +kernel
theorem d_L_law_685 : decode b_L_law 685 = .ok (.aload_n 3, 1) := by decide +kernel
theorem d_L_law_686 : decode b_L_law 686 = .ok (.iconst 0, 1) := by decide +kernel
theorem d_L_law_687 : decode b_L_law 687 = .ok (.laload, 1) := by decide +kernel
theorem d_L_law_688 : decode b_L_law 688 = .ok (.iload 6, 2) := by decide +kernel
theorem d_L_law_690 : decode b_L_law 690 = .ok (.i2l, 1) := by decide +kernel
theorem d_L_law_691 : decode b_L_law 691 = .ok (.lcmp, 1) := by decide +kernel
theorem d_L_law_692 : decode b_L_law 692 = .ok (.ifCond .eq 5, 3) := by decide +kernel
theorem d_L_law_695 : decode b_L_law 695 = .ok (.iconst 0, 1) := by decide +kernel
theorem d_L_law_696 : decode b_L_law 696 = .ok (.ireturn, 1) := by decide +kernel
theorem d_L_law_697 : decode b_L_law 697 = .ok (.goto 633, 3) := by decide +kernel
theorem d_L_law_700 : decode b_L_law 700 = .ok (.aload_n 1, 1) := by decide +kernel
theorem d_L_law_701 : decode b_L_law 701 = .ok (.aload_n 0, 1) := by decide +kernel
theorem d_L_law_702 : decode b_L_law 702 = .ok (.iload 4, 2) := by decide +kernel
theorem d_L_law_704 : decode b_L_law 704 = .ok (.iconst 1, 1) := by decide +kernel
theorem d_L_law_705 : decode b_L_law 705 = .ok (.iadd, 1) := by decide +kernel
theorem d_L_law_706 : decode b_L_law 706 = .ok (.iaload, 1) := by decide +kernel
theorem d_L_law_707 : decode b_L_law 707 = .ok (.aload_n 0, 1) := by decide +kernel
theorem d_L_law_708 : decode b_L_law 708 = .ok (.iload 4, 2) := by decide +kernel
theorem d_L_law_710 : decode b_L_law 710 = .ok (.iconst 2, 1) := by decide +kernel
theorem d_L_law_711 : decode b_L_law 711 = .ok (.iadd, 1) := by decide +kernel
theorem d_L_law_712 : decode b_L_law 712 = .ok (.iaload, 1) := by decide +kernel
theorem d_L_law_713 : decode b_L_law 713 = .ok (.i2l, 1) := by decide +kernel
theorem d_L_law_714 : decode b_L_law 714 = .ok (.bipush 32, 2) := by decide +kernel
theorem d_L_law_716 : decode b_L_law 716 = .ok (.lshl, 1) := by decide +kernel
theorem d_L_law_717 : decode b_L_law 717 = .ok (.aload_n 0, 1) := by decide +kernel
theorem d_L_law_718 : decode b_L_law 718 = .ok (.iload 4, 2) := by decide +kernel
theorem d_L_law_720 : decode b_L_law 720 = .ok (.iconst 3, 1) := by decide +kernel
theorem d_L_law_721 : decode b_L_law 721 = .ok (.iadd, 1) := by decide +kernel
theorem d_L_law_722 : decode b_L_law 722 = .ok (.iaload, 1) := by decide +kernel
theorem d_L_law_723 : decode b_L_law 723 = .ok (.i2l, 1) := by decide +kernel
theorem d_L_law_724 : decode b_L_law 724 = .ok (.ldc2_w 73, 3) := by decide +kernel
theorem d_L_law_727 : decode b_L_law 727 = .ok (.land, 1) := by decide +kernel
theorem d_L_law_728 : decode b_L_law 728 = .ok (.lor, 1) := by decide +kernel
theorem d_L_law_729 : decode b_L_law 729 = .ok (.aload_n 0, 1) := by decide +kernel
theorem d_L_law_730 : decode b_L_law 730 = .ok (.iload 4, 2) := by decide +kernel
theorem d_L_law_732 : decode b_L_law 732 = .ok (.iconst 4, 1) := by decide +kernel
theorem d_L_law_733 : decode b_L_law 733 = .ok (.iadd, 1) := by decide +kernel
theorem d_L_law_734 : decode b_L_law 734 = .ok (.iaload, 1) := by decide +kernel
theorem d_L_law_735 : decode b_L_law 735 = .ok (.aload_n 3, 1) := by decide +kernel
theorem d_L_law_736 : decode b_L_law 736 = .ok (.invokestatic 112, 3) := by decide +kernel
theorem d_L_law_739 : decode b_L_law 739 = .ok (.istore 5, 2) := by decide +kernel
theorem d_L_law_741 : decode b_L_law 741 = .ok (.aload_n 2, 1) := by decide +kernel
theorem d_L_law_742 : decode b_L_law 742 = .ok (.aload_n 0, 1) := by decide +kernel
theorem d_L_law_743 : decode b_L_law 743 = .ok (.iload 4, 2) := by decide +kernel
theorem d_L_law_745 : decode b_L_law 745 = .ok (.iconst 1, 1) := by decide +kernel
theorem d_L_law_746 : decode b_L_law 746 = .ok (.iadd, 1) := by decide +kernel
theorem d_L_law_747 : decode b_L_law 747 = .ok (.iaload, 1) := by decide +kernel
theorem d_L_law_748 : decode b_L_law 748 = .ok (.aload_n 0, 1) := by decide +kernel
theorem d_L_law_749 : decode b_L_law 749 = .ok (.iload 4, 2) := by decide +kernel
theorem d_L_law_751 : decode b_L_law 751 = .ok (.iconst 2, 1) := by decide +kernel
theorem d_L_law_752 : decode b_L_law 752 = .ok (.iadd, 1) := by decide +kernel
theorem d_L_law_753 : decode b_L_law 753 = .ok (.iaload, 1) := by decide +kernel
theorem d_L_law_754 : decode b_L_law 754 = .ok (.i2l, 1) := by decide +kernel
theorem d_L_law_755 : decode b_L_law 755 = .ok (.bipush 32, 2) := by decide +kernel
theorem d_L_law_757 : decode b_L_law 757 = .ok (.lshl, 1) := by decide +kernel
theorem d_L_law_758 : decode b_L_law 758 = .ok (.aload_n 0, 1) := by decide +kernel
theorem d_L_law_759 : decode b_L_law 759 = .ok (.iload 4, 2) := by decide +kernel
theorem d_L_law_761 : decode b_L_law 761 = .ok (.iconst 3, 1) := by decide +kernel
theorem d_L_law_762 : decode b_L_law 762 = .ok (.iadd, 1) := by decide +kernel
theorem d_L_law_763 : decode b_L_law 763 = .ok (.iaload, 1) := by decide +kernel
theorem d_L_law_764 : decode b_L_law 764 = .ok (.i2l, 1) := by decide +kernel
theorem d_L_law_765 : decode b_L_law 765 = .ok (.ldc2_w 73, 3) := by decide +kernel
theorem d_L_law_768 : decode b_L_law 768 = .ok (.land, 1) := by decide +kernel
theorem d_L_law_769 : decode b_L_law 769 = .ok (.lor, 1) := by decide +kernel
theorem d_L_law_770 : decode b_L_law 770 = .ok (.aload_n 0, 1) := by decide +kernel
theorem d_L_law_771 : decode b_L_law 771 = .ok (.iload 4, 2) := by decide +kernel
theorem d_L_law_773 : decode b_L_law 773 = .ok (.iconst 4, 1) := by decide +kernel
theorem d_L_law_774 : decode b_L_law 774 = .ok (.iadd, 1) := by decide +kernel
theorem d_L_law_775 : decode b_L_law 775 = .ok (.iaload, 1) := by decide +kernel
theorem d_L_law_776 : decode b_L_law 776 = .ok (.invokevirtual 114, 3) := by decide +kernel
theorem d_L_law_779 : decode b_L_law 779 = .ok (.istore 6, 2) := by decide +kernel
theorem d_L_law_781 : decode b_L_law 781 = .ok (.aload_n 2, 1) := by decide +kernel
theorem d_L_law_782 : decode b_L_law 782 = .ok (.invokevirtual 81, 3) := by decide +kernel
theorem d_L_law_785 : decode b_L_law 785 = .ok (.iload 5, 2) := by decide +kernel
theorem d_L_law_787 : decode b_L_law 787 = .ok (.if_icmp .eq 5, 3) := by decide +kernel
theorem d_L_law_790 : decode b_L_law 790 = .ok (.iconst 0, 1) := by decide +kernel
theorem d_L_law_791 : decode b_L_law 791 = .ok (.ireturn, 1) := by decide +kernel
theorem d_L_law_792 : decode b_L_law 792 = .ok (.iload 5, 2) := by decide +kernel
theorem d_L_law_794 : decode b_L_law 794 = .ok (.ifCond .ne 15, 3) := by decide +kernel
theorem d_L_law_797 : decode b_L_law 797 = .ok (.aload_n 3, 1) := by decide +kernel
theorem d_L_law_798 : decode b_L_law 798 = .ok (.iconst 0, 1) := by decide +kernel
theorem d_L_law_799 : decode b_L_law 799 = .ok (.laload, 1) := by decide +kernel
theorem d_L_law_800 : decode b_L_law 800 = .ok (.iload 6, 2) := by decide +kernel
theorem d_L_law_802 : decode b_L_law 802 = .ok (.i2l, 1) := by decide +kernel
end
section
theorem d_L_law_803 : decode b_L_law 803 = .ok (.lcmp, 1) := by decide +kernel
theorem d_L_law_804 : decode b_L_law 804 = .ok (.ifCond .eq 5, 3) := by decide +kernel
theorem d_L_law_807 : decode b_L_law 807 = .ok (.iconst 0, 1) := by decide +kernel
theorem d_L_law_808 : decode b_L_law 808 = .ok (.ireturn, 1) := by decide +kernel
theorem d_L_law_809 : decode b_L_law 809 = .ok (.goto 521, 3) := by decide +kernel
theorem d_L_law_812 : decode b_L_law 812 = .ok (.aload_n 1, 1) := by decide +kernel
theorem d_L_law_813 : decode b_L_law 813 = .ok (.aload_n 0, 1) := by decide +kernel
theorem d_L_law_814 : decode b_L_law 814 = .ok (.iload 4, 2) := by decide +kernel
theorem d_L_law_816 : decode b_L_law 816 = .ok (.iconst 1, 1) := by decide +kernel
theorem d_L_law_817 : decode b_L_law 817 = .ok (.iadd, 1) := by decide +kernel
theorem d_L_law_818 : decode b_L_law 818 = .ok (.iaload, 1) := by decide +kernel
theorem d_L_law_819 : decode b_L_law 819 = .ok (.aload_n 3, 1) := by decide +kernel
theorem d_L_law_820 : decode b_L_law 820 = .ok (.invokestatic 115, 3) := by decide +kernel
theorem d_L_law_823 : decode b_L_law 823 = .ok (.istore 5, 2) := by decide +kernel
theorem d_L_law_825 : decode b_L_law 825 = .ok (.aload_n 2, 1) := by decide +kernel
theorem d_L_law_826 : decode b_L_law 826 = .ok (.aload_n 0, 1) := by decide +kernel
theorem d_L_law_827 : decode b_L_law 827 = .ok (.iload 4, 2) := by decide +kernel
theorem d_L_law_829 : decode b_L_law 829 = .ok (.iconst 1, 1) := by decide +kernel
theorem d_L_law_830 : decode b_L_law 830 = .ok (.iadd, 1) := by decide +kernel
theorem d_L_law_831 : decode b_L_law 831 = .ok (.iaload, 1) := by decide +kernel
theorem d_L_law_832 : decode b_L_law 832 = .ok (.invokevirtual 117, 3) := by decide +kernel
theorem d_L_law_835 : decode b_L_law 835 = .ok (.lstore 6, 2) := by decide +kernel
theorem d_L_law_837 : decode b_L_law 837 = .ok (.aload_n 2, 1) := by decide +kernel
theorem d_L_law_838 : decode b_L_law 838 = .ok (.invokevirtual 81, 3) := by decide +kernel
theorem d_L_law_841 : decode b_L_law 841 = .ok (.iload 5, 2) := by decide +kernel
theorem d_L_law_843 : decode b_L_law 843 = .ok (.if_icmp .eq 5, 3) := by decide +kernel
theorem d_L_law_846 : decode b_L_law 846 = .ok (.iconst 0, 1) := by decide +kernel
theorem d_L_law_847 : decode b_L_law 847 = .ok (.ireturn, 1) := by decide +kernel
theorem d_L_law_848 : decode b_L_law 848 = .ok (.iload 5, 2) := by decide +kernel
theorem d_L_law_850 : decode b_L_law 850 = .ok (.ifCond .ne 14, 3) := by decide +kernel
theorem d_L_law_853 : decode b_L_law 853 = .ok (.aload_n 3, 1) := by decide +kernel
theorem d_L_law_854 : decode b_L_law 854 = .ok (.iconst 0, 1) := by decide +kernel
theorem d_L_law_855 : decode b_L_law 855 = .ok (.laload, 1) := by decide +kernel
theorem d_L_law_856 : decode b_L_law 856 = .ok (.lload 6, 2) := by decide +kernel
theorem d_L_law_858 : decode b_L_law 858 = .ok (.lcmp, 1) := by decide +kernel
theorem d_L_law_859 : decode b_L_law 859 = .ok (.ifCond .eq 5, 3) := by decide +kernel
theorem d_L_law_862 : decode b_L_law 862 = .ok (.iconst 0, 1) := by decide +kernel
theorem d_L_law_863 : decode b_L_law 863 = .ok (.ireturn, 1) := by decide +kernel
theorem d_L_law_864 : decode b_L_law 864 = .ok (.goto 466, 3) := by decide +kernel
theorem d_L_law_867 : decode b_L_law 867 = .ok (.aload_n 1, 1) := by decide +kernel
theorem d_L_law_868 : decode b_L_law 868 = .ok (.aload_n 0, 1) := by decide +kernel
theorem d_L_law_869 : decode b_L_law 869 = .ok (.iload 4, 2) := by decide +kernel
theorem d_L_law_871 : decode b_L_law 871 = .ok (.iconst 1, 1) := by decide +kernel
theorem d_L_law_872 : decode b_L_law 872 = .ok (.iadd, 1) := by decide +kernel
theorem d_L_law_873 : decode b_L_law 873 = .ok (.iaload, 1) := by decide +kernel
theorem d_L_law_874 : decode b_L_law 874 = .ok (.i2l, 1) := by decide +kernel
theorem d_L_law_875 : decode b_L_law 875 = .ok (.bipush 32, 2) := by decide +kernel
theorem d_L_law_877 : decode b_L_law 877 = .ok (.lshl, 1) := by decide +kernel
theorem d_L_law_878 : decode b_L_law 878 = .ok (.aload_n 0, 1) := by decide +kernel
theorem d_L_law_879 : decode b_L_law 879 = .ok (.iload 4, 2) := by decide +kernel
theorem d_L_law_881 : decode b_L_law 881 = .ok (.iconst 2, 1) := by decide +kernel
theorem d_L_law_882 : decode b_L_law 882 = .ok (.iadd, 1) := by decide +kernel
theorem d_L_law_883 : decode b_L_law 883 = .ok (.iaload, 1) := by decide +kernel
theorem d_L_law_884 : decode b_L_law 884 = .ok (.i2l, 1) := by decide +kernel
theorem d_L_law_885 : decode b_L_law 885 = .ok (.ldc2_w 73, 3) := by decide +kernel
theorem d_L_law_888 : decode b_L_law 888 = .ok (.land, 1) := by decide +kernel
theorem d_L_law_889 : decode b_L_law 889 = .ok (.lor, 1) := by decide +kernel
theorem d_L_law_890 : decode b_L_law 890 = .ok (.aload_n 0, 1) := by decide +kernel
theorem d_L_law_891 : decode b_L_law 891 = .ok (.iload 4, 2) := by decide +kernel
theorem d_L_law_893 : decode b_L_law 893 = .ok (.iconst 3, 1) := by decide +kernel
theorem d_L_law_894 : decode b_L_law 894 = .ok (.iadd, 1) := by decide +kernel
theorem d_L_law_895 : decode b_L_law 895 = .ok (.iaload, 1) := by decide +kernel
theorem d_L_law_896 : decode b_L_law 896 = .ok (.i2l, 1) := by decide +kernel
theorem d_L_law_897 : decode b_L_law 897 = .ok (.bipush 32, 2) := by decide +kernel
theorem d_L_law_899 : decode b_L_law 899 = .ok (.lshl, 1) := by decide +kernel
theorem d_L_law_900 : decode b_L_law 900 = .ok (.aload_n 0, 1) := by decide +kernel
theorem d_L_law_901 : decode b_L_law 901 = .ok (.iload 4, 2) := by decide +kernel
theorem d_L_law_903 : decode b_L_law 903 = .ok (.iconst 4, 1) := by decide +kernel
theorem d_L_law_904 : decode b_L_law 904 = .ok (.iadd, 1) := by decide +kernel
theorem d_L_law_905 : decode b_L_law 905 = .ok (.iaload, 1) := by decide +kernel
theorem d_L_law_906 : decode b_L_law 906 = .ok (.i2l, 1) := by decide +kernel
theorem d_L_law_907 : decode b_L_law 907 = .ok (.ldc2_w 73, 3) := by decide +kernel
theorem d_L_law_910 : decode b_L_law 910 = .ok (.land, 1) := by decide +kernel
theorem d_L_law_911 : decode b_L_law 911 = .ok (.lor, 1) := by decide +kernel
theorem d_L_law_912 : decode b_L_law 912 = .ok (.aload_n 3, 1) := by decide +kernel
theorem d_L_law_913 : decode b_L_law 913 = .ok (.invokestatic 118, 3) := by decide +kernel
theorem d_L_law_916 : decode b_L_law 916 = .ok (.istore 5, 2) := by decide +kernel
theorem d_L_law_918 : decode b_L_law 918 = .ok (.aload_n 2, 1) := by decide +kernel
theorem d_L_law_919 : decode b_L_law 919 = .ok (.aload_n 0, 1) := by decide +kernel
theorem d_L_law_920 : decode b_L_law 920 = .ok (.iload 4, 2) := by decide +kernel
theorem d_L_law_922 : decode b_L_law 922 = .ok (.iconst 1, 1) := by decide +kernel
theorem d_L_law_923 : decode b_L_law 923 = .ok (.iadd, 1) := by decide +kernel
theorem d_L_law_924 : decode b_L_law 924 = .ok (.iaload, 1) := by decide +kernel
theorem d_L_law_925 : decode b_L_law 925 = .ok (.i2l, 1) := by decide +kernel
theorem d_L_law_926 : decode b_L_law 926 = .ok (.bipush 32, 2) := by decide +kernel
theorem d_L_law_928 : decode b_L_law 928 = .ok (.lshl, 1) := by decide +kernel
theorem d_L_law_929 : decode b_L_law 929 = .ok (.aload_n 0, 1) := by decide +kernel
theorem d_L_law_930 : decode b_L_law 930 = .ok (.iload 4, 2) := by decide +kernel
theorem d_L_law_932 : decode b_L_law 932 = .ok (.iconst 2, 1) := by decide +kernel
theorem d_L_law_933 : decode b_L_law 933 = .ok (.iadd, 1) := by decide +kernel
theorem d_L_law_934 : decode b_L_law 934 = .ok (.iaload, 1) := by decide +kernel
theorem d_L_law_935 : decode b_L_law 935 = .ok (.i2l, 1) := by decide +kernel
theorem d_L_law_936 : decode b_L_law 936 = .ok (.ldc2_w 73, 3) := by decide +kernel
theorem d_L_law_939 : decode b_L_law 939 = .ok (.land, 1) := by decide +kernel
theorem d_L_law_940 : decode b_L_law 940 = .ok (.lor, 1) := by decide +kernel
theorem d_L_law_941 : decode b_L_law 941 = .ok (.aload_n 0, 1) := by decide +kernel
theorem d_L_law_942 : decode b_L_law 942 = .ok (.iload 4, 2) := by decide +kernel
theorem d_L_law_944 : decode b_L_law 944 = .ok (.iconst 3, 1) := by decide +kernel
theorem d_L_law_945 : decode b_L_law 945 = .ok (.iadd, 1) := by decide +kernel
theorem d_L_law_946 : decode b_L_law 946 = .ok (.iaload, 1) := by decide +kernel
theorem d_L_law_947 : decode b_L_law 947 = .ok (.i2l, 1) := by decide +kernel
theorem d_L_law_948 : decode b_L_law 948 = .ok (.bipush 32, 2) := by decide +kernel
theorem d_L_law_950 : decode b_L_law 950 = .ok (.lshl, 1) := by decide +kernel
theorem d_L_law_951 : decode b_L_law 951 = .ok (.aload_n 0, 1) := by decide +kernel
theorem d_L_law_952 : decode b_L_law 952 = .ok (.iload 4, 2) := by decide +kernel
theorem d_L_law_954 : decode b_L_law 954 = .ok (.iconst 4, 1) := by decide +kernel
theorem d_L_law_955 : decode b_L_law 955 = .ok (.iadd, 1) := by decide +kernel
theorem d_L_law_956 : decode b_L_law 956 = .ok (.iaload, 1) := by decide +kernel
theorem d_L_law_957 : decode b_L_law 957 = .ok (.i2l, 1) := by decide +kernel
theorem d_L_law_958 : decode b_L_law 958 = .ok (.ldc2_w 73, 3) := by decide +kernel
theorem d_L_law_961 : decode b_L_law 961 = .ok (.land, 1) := by decide +kernel
theorem d_L_law_962 : decode b_L_law 962 = .ok (.lor, 1) := by decide +kernel
theorem d_L_law_963 : decode b_L_law 963 = .ok (.invokevirtual 121, 3) := by decide +kernel
theorem d_L_law_966 : decode b_L_law 966 = .ok (.istore 6, 2) := by decide +kernel
theorem d_L_law_968 : decode b_L_law 968 = .ok (.aload_n 2, 1) := by decide +kernel
theorem d_L_law_969 : decode b_L_law 969 = .ok (.invokevirtual 81, 3) := by decide +kernel
theorem d_L_law_972 : decode b_L_law 972 = .ok (.iload 5, 2) := by decide +kernel
theorem d_L_law_974 : decode b_L_law 974 = .ok (.if_icmp .eq 5, 3) := by decide +kernel
theorem d_L_law_977 : decode b_L_law 977 = .ok (.iconst 0, 1) := by decide +kernel
theorem d_L_law_978 : decode b_L_law 978 = .ok (.ireturn, 1) := by decide +kernel
theorem d_L_law_979 : decode b_L_law 979 = .ok (.iload 5, 2) := by decide +kernel
theorem d_L_law_981 : decode b_L_law 981 = .ok (.ifCond .ne 15, 3) := by decide +kernel
theorem d_L_law_984 : decode b_L_law 984 = .ok (.aload_n 3, 1) := by decide +kernel
theorem d_L_law_985 : decode b_L_law 985 = .ok (.iconst 0, 1) := by decide +kernel
theorem d_L_law_986 : decode b_L_law 986 = .ok (.laload, 1) := by decide +kernel
theorem d_L_law_987 : decode b_L_law 987 = .ok (.iload 6, 2) := by decide +kernel
theorem d_L_law_989 : decode b_L_law 989 = .ok (.i2l, 1) := by decide +kernel
theorem d_L_law_990 : decode b_L_law 990 = .ok (.lcmp, 1) := by decide +kernel
theorem d_L_law_991 : decode b_L_law 991 = .ok (.ifCond .eq 5, 3) := by decide +kernel
theorem d_L_law_994 : decode b_L_law 994 = .ok (.iconst 0, 1) := by decide +kernel
theorem d_L_law_995 : decode b_L_law 995 = .ok (.ireturn, 1) := by decide +kernel
theorem d_L_law_996 : decode b_L_law 996 = .ok (.goto 334, 3) := by decide +kernel
theorem d_L_law_999 : decode b_L_law 999 = .ok (.aload_n 1, 1) := by decide +kernel
theorem d_L_law_1000 : decode b_L_law 1000 = .ok (.aload_n 0, 1) := by decide +kernel
theorem d_L_law_1001 : decode b_L_law 1001 = .ok (.iload 4, 2) := by decide +kernel
theorem d_L_law_1003 : decode b_L_law 1003 = .ok (.iconst 1, 1) := by decide +kernel
theorem d_L_law_1004 : decode b_L_law 1004 = .ok (.iadd, 1) := by decide +kernel
theorem d_L_law_1005 : decode b_L_law 1005 = .ok (.iaload, 1) := by decide +kernel
theorem d_L_law_1006 : decode b_L_law 1006 = .ok (.i2l, 1) := by decide +kernel
theorem d_L_law_1007 : decode b_L_law 1007 = .ok (.bipush 32, 2) := by decide +kernel
theorem d_L_law_1009 : decode b_L_law 1009 = .ok (.lshl, 1) := by decide +kernel
theorem d_L_law_1010 : decode b_L_law 1010 = .ok (.aload_n 0, 1) := by decide +kernel
theorem d_L_law_1011 : decode b_L_law 1011 = .ok (.iload 4, 2) := by decide +kernel
theorem d_L_law_1013 : decode b_L_law 1013 = .ok (.iconst 2, 1) := by decide +kernel
theorem d_L_law_1014 : decode b_L_law 1014 = .ok (.iadd, 1) := by decide +kernel
theorem d_L_law_1015 : decode b_L_law 1015 = .ok (.iaload, 1) := by decide +kernel
theorem d_L_law_1016 : decode b_L_law 1016 = .ok (.i2l, 1) := by decide +kernel
theorem d_L_law_1017 : decode b_L_law 1017 = .ok (.ldc2_w 73, 3) := by decide +kernel
theorem d_L_law_1020 : decode b_L_law 1020 = .ok (.land, 1) := by decide +kernel
theorem d_L_law_1021 : decode b_L_law 1021 = .ok (.lor, 1) := by decide +kernel
theorem d_L_law_1022 : decode b_L_law 1022 = .ok (.aload_n 0, 1) := by decide +kernel
theorem d_L_law_1023 : decode b_L_law 1023 = .ok (.iload 4, 2) := by decide +kernel
theorem d_L_law_1025 : decode b_L_law 1025 = .ok (.iconst 3, 1) := by decide +kernel
theorem d_L_law_1026 : decode b_L_law 1026 = .ok (.iadd, 1) := by decide +kernel
theorem d_L_law_1027 : decode b_L_law 1027 = .ok (.iaload, 1) := by decide +kernel
theorem d_L_law_1028 : decode b_L_law 1028 = .ok (.i2l, 1) := by decide +kernel
theorem d_L_law_1029 : decode b_L_law 1029 = .ok (.bipush 32, 2) := by decide +kernel
theorem d_L_law_1031 : decode b_L_law 1031 = .ok (.lshl, 1) := by decide +kernel
theorem d_L_law_1032 : decode b_L_law 1032 = .ok (.aload_n 0, 1) := by decide +kernel
theorem d_L_law_1033 : decode b_L_law 1033 = .ok (.iload 4, 2) := by decide +kernel
theorem d_L_law_1035 : decode b_L_law 1035 = .ok (.iconst 4, 1) := by decide +kernel
theorem d_L_law_1036 : decode b_L_law 1036 = .ok (.iadd, 1) := by decide +kernel
theorem d_L_law_1037 : decode b_L_law 1037 = .ok (.iaload, 1) := by decide +kernel
theorem d_L_law_1038 : decode b_L_law 1038 = .ok (.i2l, 1) := by decide +kernel
theorem d_L_law_1039 : decode b_L_law 1039 = .ok (.ldc2_w 73, 3) := by decide +kernel
theorem d_L_law_1042 : decode b_L_law 1042 = .ok (.land, 1) := by decide +kernel
theorem d_L_law_1043 : decode b_L_law 1043 = .ok (.lor, 1) := by decide +kernel
theorem d_L_law_1044 : decode b_L_law 1044 = .ok (.aload_n 3, 1) := by decide +kernel
theorem d_L_law_1045 : decode b_L_law 1045 = .ok (.invokestatic 122, 3) := by decide +kernel
theorem d_L_law_1048 : decode b_L_law 1048 = .ok (.istore 5, 2) := by decide +kernel
theorem d_L_law_1050 : decode b_L_law 1050 = .ok (.aload_n 2, 1) := by decide +kernel
theorem d_L_law_1051 : decode b_L_law 1051 = .ok (.aload_n 0, 1) := by decide +kernel
theorem d_L_law_1052 : decode b_L_law 1052 = .ok (.iload 4, 2) := by decide +kernel
theorem d_L_law_1054 : decode b_L_law 1054 = .ok (.iconst 1, 1) := by decide +kernel
theorem d_L_law_1055 : decode b_L_law 1055 = .ok (.iadd, 1) := by decide +kernel
theorem d_L_law_1056 : decode b_L_law 1056 = .ok (.iaload, 1) := by decide +kernel
theorem d_L_law_1057 : decode b_L_law 1057 = .ok (.i2l, 1) := by decide +kernel
theorem d_L_law_1058 : decode b_L_law 1058 = .ok (.bipush 32, 2) := by decide +kernel
theorem d_L_law_1060 : decode b_L_law 1060 = .ok (.lshl, 1) := by decide +kernel
theorem d_L_law_1061 : decode b_L_law 1061 = .ok (.aload_n 0, 1) := by decide +kernel
theorem d_L_law_1062 : decode b_L_law 1062 = .ok (.iload 4, 2) := by decide +kernel
theorem d_L_law_1064 : decode b_L_law 1064 = .ok (.iconst 2, 1) := by decide +kernel
theorem d_L_law_1065 : decode b_L_law 1065 = .ok (.iadd, 1) := by decide +kernel
theorem d_L_law_1066 : decode b_L_law 1066 = .ok (.iaload, 1) := by decide +kernel
theorem d_L_law_1067 : decode b_L_law 1067 = .ok (.i2l, 1) := by decide +kernel
theorem d_L_law_1068 : decode b_L_law 1068 = .ok (.ldc2_w 73, 3) := by decide +kernel
theorem d_L_law_1071 : decode b_L_law 1071 = .ok (.land, 1) := by decide +kernel
theorem d_L_law_1072 : decode b_L_law 1072 = .ok (.lor, 1) := by decide +kernel
theorem d_L_law_1073 : decode b_L_law 1073 = .ok (.aload_n 0, 1) := by decide +kernel
theorem d_L_law_1074 : decode b_L_law 1074 = .ok (.iload 4, 2) := by decide +kernel
theorem d_L_law_1076 : decode b_L_law 1076 = .ok (.iconst 3, 1) := by decide +kernel
theorem d_L_law_1077 : decode b_L_law 1077 = .ok (.iadd, 1) := by decide +kernel
theorem d_L_law_1078 : decode b_L_law 1078 = .ok (.iaload, 1) := by decide +kernel
theorem d_L_law_1079 : decode b_L_law 1079 = .ok (.i2l, 1) := by decide +kernel
theorem d_L_law_1080 : decode b_L_law 1080 = .ok (.bipush 32, 2) := by decide +kernel
theorem d_L_law_1082 : decode b_L_law 1082 = .ok (.lshl, 1) := by decide +kernel
theorem d_L_law_1083 : decode b_L_law 1083 = .ok (.aload_n 0, 1) := by decide +kernel
theorem d_L_law_1084 : decode b_L_law 1084 = .ok (.iload 4, 2) := by decide +kernel
theorem d_L_law_1086 : decode b_L_law 1086 = .ok (.iconst 4, 1) := by decide +kernel
theorem d_L_law_1087 : decode b_L_law 1087 = .ok (.iadd, 1) := by decide +kernel
theorem d_L_law_1088 : decode b_L_law 1088 = .ok (.iaload, 1) := by decide +kernel
theorem d_L_law_1089 : decode b_L_law 1089 = .ok (.i2l, 1) := by decide +kernel
theorem d_L_law_1090 : decode b_L_law 1090 = .ok (.ldc2_w 73, 3) := by decide +kernel
theorem d_L_law_1093 : decode b_L_law 1093 = .ok (.land, 1) := by decide +kernel
theorem d_L_law_1094 : decode b_L_law 1094 = .ok (.lor, 1) := by decide +kernel
theorem d_L_law_1095 : decode b_L_law 1095 = .ok (.invokevirtual 124, 3) := by decide +kernel
theorem d_L_law_1098 : decode b_L_law 1098 = .ok (.istore 6, 2) := by decide +kernel
theorem d_L_law_1100 : decode b_L_law 1100 = .ok (.aload_n 2, 1) := by decide +kernel
theorem d_L_law_1101 : decode b_L_law 1101 = .ok (.invokevirtual 81, 3) := by decide +kernel
theorem d_L_law_1104 : decode b_L_law 1104 = .ok (.iload 5, 2) := by decide +kernel
theorem d_L_law_1106 : decode b_L_law 1106 = .ok (.if_icmp .eq 5, 3) := by decide +kernel
theorem d_L_law_1109 : decode b_L_law 1109 = .ok (.iconst 0, 1) := by decide +kernel
theorem d_L_law_1110 : decode b_L_law 1110 = .ok (.ireturn, 1) := by decide +kernel
theorem d_L_law_1111 : decode b_L_law 1111 = .ok (.iload 5, 2) := by decide +kernel
theorem d_L_law_1113 : decode b_L_law 1113 = .ok (.ifCond .ne 15, 3) := by decide +kernel
theorem d_L_law_1116 : decode b_L_law 1116 = .ok (.aload_n 3, 1) := by decide +kernel
theorem d_L_law_1117 : decode b_L_law 1117 = .ok (.iconst 0, 1) := by decide +kernel
theorem d_L_law_1118 : decode b_L_law 1118 = .ok (.laload, 1) := by decide +kernel
theorem d_L_law_1119 : decode b_L_law 1119 = .ok (.iload 6, 2) := by decide +kernel
theorem d_L_law_1121 : decode b_L_law 1121 = .ok (.i2l, 1) := by decide +kernel
theorem d_L_law_1122 : decode b_L_law 1122 = .ok (.lcmp, 1) := by decide +kernel
theorem d_L_law_1123 : decode b_L_law 1123 = .ok (.ifCond .eq 5, 3) := by decide +kernel
theorem d_L_law_1126 : decode b_L_law 1126 = .ok (.iconst 0, 1) := by decide +kernel
theorem d_L_law_1127 : decode b_L_law 1127 = .ok (.ireturn, 1) := by decide +kernel
theorem d_L_law_1128 : decode b_L_law 1128 = .ok (.goto 202, 3) := by decide +kernel
theorem d_L_law_1131 : decode b_L_law 1131 = .ok (.aload_n 1, 1) := by decide +kernel
theorem d_L_law_1132 : decode b_L_law 1132 = .ok (.aload_n 0, 1) := by decide +kernel
theorem d_L_law_1133 : decode b_L_law 1133 = .ok (.iload 4, 2) := by decide +kernel
theorem d_L_law_1135 : decode b_L_law 1135 = .ok (.iconst 1, 1) := by decide +kernel
theorem d_L_law_1136 : decode b_L_law 1136 = .ok (.iadd, 1) := by decide +kernel
theorem d_L_law_1137 : decode b_L_law 1137 = .ok (.iaload, 1) := by decide +kernel
theorem d_L_law_1138 : decode b_L_law 1138 = .ok (.i2l, 1) := by decide +kernel
theorem d_L_law_1139 : decode b_L_law 1139 = .ok (.bipush 32, 2) := by decide +kernel
theorem d_L_law_1141 : decode b_L_law 1141 = .ok (.lshl, 1) := by decide +kernel
theorem d_L_law_1142 : decode b_L_law 1142 = .ok (.aload_n 0, 1) := by decide +kernel
theorem d_L_law_1143 : decode b_L_law 1143 = .ok (.iload 4, 2) := by decide +kernel
theorem d_L_law_1145 : decode b_L_law 1145 = .ok (.iconst 2, 1) := by decide +kernel
theorem d_L_law_1146 : decode b_L_law 1146 = .ok (.iadd, 1) := by decide +kernel
theorem d_L_law_1147 : decode b_L_law 1147 = .ok (.iaload, 1) := by decide +kernel
theorem d_L_law_1148 : decode b_L_law 1148 = .ok (.i2l, 1) := by decide +kernel
theorem d_L_law_1149 : decode b_L_law 1149 = .ok (.ldc2_w 73, 3) := by decide +kernel
theorem d_L_law_1152 : decode b_L_law 1152 = .ok (.land, 1) := by decide +kernel
theorem d_L_law_1153 : decode b_L_law 1153 = .ok (.lor, 1) := by decide +kernel
theorem d_L_law_1154 : decode b_L_law 1154 = .ok (.aload_n 3, 1) := by decide +kernel
theorem d_L_law_1155 : decode b_L_law 1155 = .ok (.invokestatic 125, 3) := by decide +kernel
theorem d_L_law_1158 : decode b_L_law 1158 = .ok (.istore 5, 2) := by decide +kernel
theorem d_L_law_1160 : decode b_L_law 1160 = .ok (.aload_n 2, 1) := by decide +kernel
theorem d_L_law_1161 : decode b_L_law 1161 = .ok (.aload_n 0, 1) := by decide +kernel
theorem d_L_law_1162 : decode b_L_law 1162 = .ok (.iload 4, 2) := by decide +kernel
theorem d_L_law_1164 : decode b_L_law 1164 = .ok (.iconst 1, 1) := by decide +kernel
theorem d_L_law_1165 : decode b_L_law 1165 = .ok (.iadd, 1) := by decide +kernel
theorem d_L_law_1166 : decode b_L_law 1166 = .ok (.iaload, 1) := by decide +kernel
theorem d_L_law_1167 : decode b_L_law 1167 = .ok (.i2l, 1) := by decide +kernel
theorem d_L_law_1168 : decode b_L_law 1168 = .ok (.bipush 32, 2) := by decide +kernel
theorem d_L_law_1170 : decode b_L_law 1170 = .ok (.lshl, 1) := by decide +kernel
theorem d_L_law_1171 : decode b_L_law 1171 = .ok (.aload_n 0, 1) := by decide +kernel
theorem d_L_law_1172 : decode b_L_law 1172 = .ok (.iload 4, 2) := by decide +kernel
theorem d_L_law_1174 : decode b_L_law 1174 = .ok (.iconst 2, 1) := by decide +kernel
theorem d_L_law_1175 : decode b_L_law 1175 = .ok (.iadd, 1) := by decide +kernel
theorem d_L_law_1176 : decode b_L_law 1176 = .ok (.iaload, 1) := by decide +kernel
theorem d_L_law_1177 : decode b_L_law 1177 = .ok (.i2l, 1) := by decide +kernel
theorem d_L_law_1178 : decode b_L_law 1178 = .ok (.ldc2_w 73, 3) := by decide +kernel
theorem d_L_law_1181 : decode b_L_law 1181 = .ok (.land, 1) := by decide +kernel
theorem d_L_law_1182 : decode b_L_law 1182 = .ok (.lor, 1) := by decide +kernel
theorem d_L_law_1183 : decode b_L_law 1183 = .ok (.invokevirtual 128, 3) := by decide +kernel
theorem d_L_law_1186 : decode b_L_law 1186 = .ok (.istore 6, 2) := by decide +kernel
theorem d_L_law_1188 : decode b_L_law 1188 = .ok (.aload_n 2, 1) := by decide +kernel
theorem d_L_law_1189 : decode b_L_law 1189 = .ok (.invokevirtual 81, 3) := by decide +kernel
theorem d_L_law_1192 : decode b_L_law 1192 = .ok (.iload 5, 2) := by decide +kernel
theorem d_L_law_1194 : decode b_L_law 1194 = .ok (.if_icmp .eq 5, 3) := by decide +kernel
theorem d_L_law_1197 : decode b_L_law 1197 = .ok (.iconst 0, 1) := by decide +kernel
theorem d_L_law_1198 : decode b_L_law 1198 = .ok (.ireturn, 1) := by decide +kernel
theorem d_L_law_1199 : decode b_L_law 1199 = .ok (.iload 5, 2) := by decide +kernel
theorem d_L_law_1201 : decode b_L_law 1201 = .ok (.ifCond .ne 15, 3) := by decide +kernel
theorem d_L_law_1204 : decode b_L_law 1204 = .ok (.aload_n 3, 1) := by decide +kernel
theorem d_L_law_1205 : decode b_L_law 1205 = .ok (.iconst 0, 1) := by decide +kernel
theorem d_L_law_1206 : decode b_L_law 1206 = .ok (.laload, 1) := by decide +kernel
theorem d_L_law_1207 : decode b_L_law 1207 = .ok (.iload 6, 2) := by decide +kernel
theorem d_L_law_1209 : decode b_L_law 1209 = .ok (.i2l, 1) := by decide +kernel
theorem d_L_law_1210 : decode b_L_law 1210 = .ok (.lcmp, 1) := by decide +kernel
theorem d_L_law_1211 : decode b_L_law 1211 = .ok (.ifCond .eq 5, 3) := by decide +kernel
theorem d_L_law_1214 : decode b_L_law 1214 = .ok (.iconst 0, 1) := by decide +kernel
theorem d_L_law_1215 : decode b_L_law 1215 = .ok (.ireturn, 1) := by decide +kernel
theorem d_L_law_1216 : decode b_L_law 1216 = .ok (.goto 114, 3) := by decide +kernel
theorem d_L_law_1219 : decode b_L_law 1219 = .ok (.aload_n 1, 1) := by decide +kernel
theorem d_L_law_1220 : decode b_L_law 1220 = .ok (.aload_n 0, 1) := by decide +kernel
theorem d_L_law_1221 : decode b_L_law 1221 = .ok (.iload 4, 2) := by decide +kernel
theorem d_L_law_1223 : decode b_L_law 1223 = .ok (.iconst 1, 1) := by decide +kernel
theorem d_L_law_1224 : decode b_L_law 1224 = .ok (.iadd, 1) := by decide +kernel
theorem d_L_law_1225 : decode b_L_law 1225 = .ok (.iaload, 1) := by decide +kernel
theorem d_L_law_1226 : decode b_L_law 1226 = .ok (.aload_n 3, 1) := by decide +kernel
theorem d_L_law_1227 : decode b_L_law 1227 = .ok (.invokestatic 129, 3) := by decide +kernel
theorem d_L_law_1230 : decode b_L_law 1230 = .ok (.istore 5, 2) := by decide +kernel
theorem d_L_law_1232 : decode b_L_law 1232 = .ok (.aload_n 2, 1) := by decide +kernel
theorem d_L_law_1233 : decode b_L_law 1233 = .ok (.aload_n 0, 1) := by decide +kernel
theorem d_L_law_1234 : decode b_L_law 1234 = .ok (.iload 4, 2) := by decide +kernel
theorem d_L_law_1236 : decode b_L_law 1236 = .ok (.iconst 1, 1) := by decide +kernel
theorem d_L_law_1237 : decode b_L_law 1237 = .ok (.iadd, 1) := by decide +kernel
theorem d_L_law_1238 : decode b_L_law 1238 = .ok (.iaload, 1) := by decide +kernel
theorem d_L_law_1239 : decode b_L_law 1239 = .ok (.invokevirtual 131, 3) := by decide +kernel
theorem d_L_law_1242 : decode b_L_law 1242 = .ok (.istore 6, 2) := by decide +kernel
theorem d_L_law_1244 : decode b_L_law 1244 = .ok (.aload_n 2, 1) := by decide +kernel
theorem d_L_law_1245 : decode b_L_law 1245 = .ok (.invokevirtual 81, 3) := by decide +kernel
theorem d_L_law_1248 : decode b_L_law 1248 = .ok (.iload 5, 2) := by decide +kernel
theorem d_L_law_1250 : decode b_L_law 1250 = .ok (.if_icmp .eq 5, 3) := by decide +kernel
theorem d_L_law_1253 : decode b_L_law 1253 = .ok (.iconst 0, 1) := by decide +kernel
theorem d_L_law_1254 : decode b_L_law 1254 = .ok (.ireturn, 1) := by decide +kernel
theorem d_L_law_1255 : decode b_L_law 1255 = .ok (.iload 5, 2) := by decide +kernel
theorem d_L_law_1257 : decode b_L_law 1257 = .ok (.ifCond .ne 15, 3) := by decide +kernel
theorem d_L_law_1260 : decode b_L_law 1260 = .ok (.aload_n 3, 1) := by decide +kernel
theorem d_L_law_1261 : decode b_L_law 1261 = .ok (.iconst 0, 1) := by decide +kernel
theorem d_L_law_1262 : decode b_L_law 1262 = .ok (.laload, 1) := by decide +kernel
theorem d_L_law_1263 : decode b_L_law 1263 = .ok (.iload 6, 2) := by decide +kernel
theorem d_L_law_1265 : decode b_L_law 1265 = .ok (.i2l, 1) := by decide +kernel
theorem d_L_law_1266 : decode b_L_law 1266 = .ok (.lcmp, 1) := by decide +kernel
theorem d_L_law_1267 : decode b_L_law 1267 = .ok (.ifCond .eq 5, 3) := by decide +kernel
theorem d_L_law_1270 : decode b_L_law 1270 = .ok (.iconst 0, 1) := by decide +kernel
theorem d_L_law_1271 : decode b_L_law 1271 = .ok (.ireturn, 1) := by decide +kernel
theorem d_L_law_1272 : decode b_L_law 1272 = .ok (.goto 58, 3) := by decide +kernel
theorem d_L_law_1275 : decode b_L_law 1275 = .ok (.aload_n 1, 1) := by decide +kernel
theorem d_L_law_1276 : decode b_L_law 1276 = .ok (.aload_n 0, 1) := by decide +kernel
theorem d_L_law_1277 : decode b_L_law 1277 = .ok (.iload 4, 2) := by decide +kernel
theorem d_L_law_1279 : decode b_L_law 1279 = .ok (.iconst 1, 1) := by decide +kernel
theorem d_L_law_1280 : decode b_L_law 1280 = .ok (.iadd, 1) := by decide +kernel
theorem d_L_law_1281 : decode b_L_law 1281 = .ok (.iaload, 1) := by decide +kernel
theorem d_L_law_1282 : decode b_L_law 1282 = .ok (.aload_n 3, 1) := by decide +kernel
theorem d_L_law_1283 : decode b_L_law 1283 = .ok (.invokestatic 132, 3) := by decide +kernel
theorem d_L_law_1286 : decode b_L_law 1286 = .ok (.istore 5, 2) := by decide +kernel
theorem d_L_law_1288 : decode b_L_law 1288 = .ok (.aload_n 2, 1) := by decide +kernel
theorem d_L_law_1289 : decode b_L_law 1289 = .ok (.aload_n 0, 1) := by decide +kernel
theorem d_L_law_1290 : decode b_L_law 1290 = .ok (.iload 4, 2) := by decide +kernel
theorem d_L_law_1292 : decode b_L_law 1292 = .ok (.iconst 1, 1) := by decide +kernel
theorem d_L_law_1293 : decode b_L_law 1293 = .ok (.iadd, 1) := by decide +kernel
theorem d_L_law_1294 : decode b_L_law 1294 = .ok (.iaload, 1) := by decide +kernel
theorem d_L_law_1295 : decode b_L_law 1295 = .ok (.invokevirtual 134, 3) := by decide +kernel
theorem d_L_law_1298 : decode b_L_law 1298 = .ok (.lstore 6, 2) := by decide +kernel
theorem d_L_law_1300 : decode b_L_law 1300 = .ok (.aload_n 2, 1) := by decide +kernel
theorem d_L_law_1301 : decode b_L_law 1301 = .ok (.invokevirtual 81, 3) := by decide +kernel
theorem d_L_law_1304 : decode b_L_law 1304 = .ok (.iload 5, 2) := by decide +kernel
theorem d_L_law_1306 : decode b_L_law 1306 = .ok (.if_icmp .eq 5, 3) := by decide +kernel
theorem d_L_law_1309 : decode b_L_law 1309 = .ok (.iconst 0, 1) := by decide +kernel
theorem d_L_law_1310 : decode b_L_law 1310 = .ok (.ireturn, 1) := by decide +kernel
theorem d_L_law_1311 : decode b_L_law 1311 = .ok (.iload 5, 2) := by decide +kernel
theorem d_L_law_1313 : decode b_L_law 1313 = .ok (.ifCond .ne 14, 3) := by decide +kernel
theorem d_L_law_1316 : decode b_L_law 1316 = .ok (.aload_n 3, 1) := by decide +kernel
theorem d_L_law_1317 : decode b_L_law 1317 = .ok (.iconst 0, 1) := by decide +kernel
theorem d_L_law_1318 : decode b_L_law 1318 = .ok (.laload, 1) := by decide +kernel
theorem d_L_law_1319 : decode b_L_law 1319 = .ok (.lload 6, 2) := by decide +kernel
theorem d_L_law_1321 : decode b_L_law 1321 = .ok (.lcmp, 1) := by decide +kernel
theorem d_L_law_1322 : decode b_L_law 1322 = .ok (.ifCond .eq 5, 3) := by decide +kernel
theorem d_L_law_1325 : decode b_L_law 1325 = .ok (.iconst 0, 1) := by decide +kernel
theorem d_L_law_1326 : decode b_L_law 1326 = .ok (.ireturn, 1) := by decide +kernel
theorem d_L_law_1327 : decode b_L_law 1327 = .ok (.goto 3, 3) := by decide +kernel
theorem d_L_law_1330 : decode b_L_law 1330 = .ok (.iinc 4 5, 3) := by decide +kernel
theorem d_L_law_1333 : decode b_L_law 1333 = .ok (.goto (-1310), 3) := by decide +kernel
theorem d_L_law_1336 : decode b_L_law 1336 = .ok (.iconst 1, 1) := by decide +kernel
theorem d_L_law_1337 : decode b_L_law 1337 = .ok (.ireturn, 1) := by decide +kernel
theorem d_M_init_0 : decode b_M_init 0 = .ok (.aload_n 0, 1) := by decide +kernel
theorem d_M_init_1 : decode b_M_init 1 = .ok (.invokespecial 1, 3) := by decide +kernel
theorem d_M_init_4 : decode b_M_init 4 = .ok (.aload_n 0, 1) := by decide +kernel
theorem d_M_init_5 : decode b_M_init 5 = .ok (.bipush 24, 2) := by decide +kernel
theorem d_M_init_7 : decode b_M_init 7 = .ok (.newarray .long, 2) := by decide +kernel
theorem d_M_init_9 : decode b_M_init 9 = .ok (.putfield 7, 3) := by decide +kernel
theorem d_M_init_12 : decode b_M_init 12 = .ok (.aload_n 0, 1) := by decide +kernel
theorem d_M_init_13 : decode b_M_init 13 = .ok (.bipush 24, 2) := by decide +kernel
theorem d_M_init_15 : decode b_M_init 15 = .ok (.newarray .int, 2) := by decide +kernel
theorem d_M_init_17 : decode b_M_init 17 = .ok (.putfield 13, 3) := by decide +kernel
theorem d_M_init_20 : decode b_M_init 20 = .ok (.aload_n 0, 1) := by decide +kernel
theorem d_M_init_21 : decode b_M_init 21 = .ok (.iconst 3, 1) := by decide +kernel
theorem d_M_init_22 : decode b_M_init 22 = .ok (.newarray .int, 2) := by decide +kernel
theorem d_M_init_24 : decode b_M_init 24 = .ok (.putfield 17, 3) := by decide +kernel
theorem d_M_init_27 : decode b_M_init 27 = .ok (.aload_n 0, 1) := by decide +kernel
theorem d_M_init_28 : decode b_M_init 28 = .ok (.iconst 3, 1) := by decide +kernel
theorem d_M_init_29 : decode b_M_init 29 = .ok (.newarray .int, 2) := by decide +kernel
theorem d_M_init_31 : decode b_M_init 31 = .ok (.putfield 20, 3) := by decide +kernel
theorem d_M_init_34 : decode b_M_init 34 = .ok (.aload_n 0, 1) := by decide +kernel
theorem d_M_init_35 : decode b_M_init 35 = .ok (.iconst 3, 1) := by decide +kernel
theorem d_M_init_36 : decode b_M_init 36 = .ok (.newarray .int, 2) := by decide +kernel
theorem d_M_init_38 : decode b_M_init 38 = .ok (.putfield 23, 3) := by decide +kernel
theorem d_M_init_41 : decode b_M_init 41 = .ok (.aload_n 0, 1) := by decide +kernel
theorem d_M_init_42 : decode b_M_init 42 = .ok (.bipush 72, 2) := by decide +kernel
theorem d_M_init_44 : decode b_M_init 44 = .ok (.newarray .long, 2) := by decide +kernel
theorem d_M_init_46 : decode b_M_init 46 = .ok (.putfield 26, 3) := by decide +kernel
theorem d_M_init_49 : decode b_M_init 49 = .ok (.aload_n 0, 1) := by decide +kernel
theorem d_M_init_50 : decode b_M_init 50 = .ok (.bipush 72, 2) := by decide +kernel
theorem d_M_init_52 : decode b_M_init 52 = .ok (.newarray .int, 2) := by decide +kernel
theorem d_M_init_54 : decode b_M_init 54 = .ok (.putfield 29, 3) := by decide +kernel
theorem d_M_init_57 : decode b_M_init 57 = .ok (.aload_n 0, 1) := by decide +kernel
theorem d_M_init_58 : decode b_M_init 58 = .ok (.iconst 3, 1) := by decide +kernel
theorem d_M_init_59 : decode b_M_init 59 = .ok (.newarray .int, 2) := by decide +kernel
theorem d_M_init_61 : decode b_M_init 61 = .ok (.putfield 32, 3) := by decide +kernel
theorem d_M_init_64 : decode b_M_init 64 = .ok (.aload_n 0, 1) := by decide +kernel
theorem d_M_init_65 : decode b_M_init 65 = .ok (.iconst 3, 1) := by decide +kernel
theorem d_M_init_66 : decode b_M_init 66 = .ok (.newarray .int, 2) := by decide +kernel
theorem d_M_init_68 : decode b_M_init 68 = .ok (.putfield 35, 3) := by decide +kernel
theorem d_M_init_71 : decode b_M_init 71 = .ok (.aload_n 0, 1) := by decide +kernel
theorem d_M_init_72 : decode b_M_init 72 = .ok (.sipush 216, 3) := by decide +kernel
theorem d_M_init_75 : decode b_M_init 75 = .ok (.newarray .int, 2) := by decide +kernel
theorem d_M_init_77 : decode b_M_init 77 = .ok (.putfield 38, 3) := by decide +kernel
theorem d_M_init_80 : decode b_M_init 80 = .ok (.aload_n 0, 1) := by decide +kernel
theorem d_M_init_81 : decode b_M_init 81 = .ok (.sipush 216, 3) := by decide +kernel
theorem d_M_init_84 : decode b_M_init 84 = .ok (.newarray .int, 2) := by decide +kernel
theorem d_M_init_86 : decode b_M_init 86 = .ok (.putfield 41, 3) := by decide +kernel
theorem d_M_init_89 : decode b_M_init 89 = .ok (.aload_n 0, 1) := by decide +kernel
theorem d_M_init_90 : decode b_M_init 90 = .ok (.sipush 216, 3) := by decide +kernel
theorem d_M_init_93 : decode b_M_init 93 = .ok (.newarray .int, 2) := by decide +kernel
theorem d_M_init_95 : decode b_M_init 95 = .ok (.putfield 44, 3) := by decide +kernel
theorem d_M_init_98 : decode b_M_init 98 = .ok (.aload_n 0, 1) := by decide +kernel
theorem d_M_init_99 : decode b_M_init 99 = .ok (.sipush 216, 3) := by decide +kernel
theorem d_M_init_102 : decode b_M_init 102 = .ok (.newarray .int, 2) := by decide +kernel
theorem d_M_init_104 : decode b_M_init 104 = .ok (.putfield 47, 3) := by decide +kernel
theorem d_M_init_107 : decode b_M_init 107 = .ok (.aload_n 0, 1) := by decide +kernel
theorem d_M_init_108 : decode b_M_init 108 = .ok (.sipush 216, 3) := by decide +kernel
theorem d_M_init_111 : decode b_M_init 111 = .ok (.newarray .long, 2) := by decide +kernel
theorem d_M_init_113 : decode b_M_init 113 = .ok (.putfield 50, 3) := by decide +kernel
theorem d_M_init_116 : decode b_M_init 116 = .ok (.aload_n 0, 1) := by decide +kernel
theorem d_M_init_117 : decode b_M_init 117 = .ok (.bipush 24, 2) := by decide +kernel
theorem d_M_init_119 : decode b_M_init 119 = .ok (.newarray .long, 2) := by decide +kernel
theorem d_M_init_121 : decode b_M_init 121 = .ok (.putfield 53, 3) := by decide +kernel
theorem d_M_init_124 : decode b_M_init 124 = .ok (.aload_n 0, 1) := by decide +kernel
theorem d_M_init_125 : decode b_M_init 125 = .ok (.bipush 24, 2) := by decide +kernel
theorem d_M_init_127 : decode b_M_init 127 = .ok (.newarray .int, 2) := by decide +kernel
theorem d_M_init_129 : decode b_M_init 129 = .ok (.putfield 56, 3) := by decide +kernel
theorem d_M_init_132 : decode b_M_init 132 = .ok (.aload_n 0, 1) := by decide +kernel
theorem d_M_init_133 : decode b_M_init 133 = .ok (.bipush 81, 2) := by decide +kernel
theorem d_M_init_135 : decode b_M_init 135 = .ok (.newarray .int, 2) := by decide +kernel
theorem d_M_init_137 : decode b_M_init 137 = .ok (.putfield 59, 3) := by decide +kernel
theorem d_M_init_140 : decode b_M_init 140 = .ok (.aload_n 0, 1) := by decide +kernel
theorem d_M_init_141 : decode b_M_init 141 = .ok (.bipush 40, 2) := by decide +kernel
theorem d_M_init_143 : decode b_M_init 143 = .ok (.newarray .long, 2) := by decide +kernel
theorem d_M_init_145 : decode b_M_init 145 = .ok (.putfield 62, 3) := by decide +kernel
theorem d_M_init_148 : decode b_M_init 148 = .ok (.aload_n 0, 1) := by decide +kernel
theorem d_M_init_149 : decode b_M_init 149 = .ok (.bipush 40, 2) := by decide +kernel
theorem d_M_init_151 : decode b_M_init 151 = .ok (.newarray .long, 2) := by decide +kernel
theorem d_M_init_153 : decode b_M_init 153 = .ok (.putfield 65, 3) := by decide +kernel
theorem d_M_init_156 : decode b_M_init 156 = .ok (.aload_n 0, 1) := by decide +kernel
theorem d_M_init_157 : decode b_M_init 157 = .ok (.bipush 40, 2) := by decide +kernel
theorem d_M_init_159 : decode b_M_init 159 = .ok (.newarray .int, 2) := by decide +kernel
theorem d_M_init_161 : decode b_M_init 161 = .ok (.putfield 68, 3) := by decide +kernel
theorem d_M_init_164 : decode b_M_init 164 = .ok (.aload_n 0, 1) := by decide +kernel
theorem d_M_init_165 : decode b_M_init 165 = .ok (.iconst 4, 1) := by decide +kernel
theorem d_M_init_166 : decode b_M_init 166 = .ok (.newarray .long, 2) := by decide +kernel
theorem d_M_init_168 : decode b_M_init 168 = .ok (.putfield 71, 3) := by decide +kernel
theorem d_M_init_171 : decode b_M_init 171 = .ok (.aload_n 0, 1) := by decide +kernel
theorem d_M_init_172 : decode b_M_init 172 = .ok (.iconst 4, 1) := by decide +kernel
theorem d_M_init_173 : decode b_M_init 173 = .ok (.newarray .long, 2) := by decide +kernel
theorem d_M_init_175 : decode b_M_init 175 = .ok (.putfield 74, 3) := by decide +kernel
theorem d_M_init_178 : decode b_M_init 178 = .ok (.aload_n 0, 1) := by decide +kernel
theorem d_M_init_179 : decode b_M_init 179 = .ok (.iconst 4, 1) := by decide +kernel
theorem d_M_init_180 : decode b_M_init 180 = .ok (.newarray .int, 2) := by decide +kernel
theorem d_M_init_182 : decode b_M_init 182 = .ok (.putfield 77, 3) := by decide +kernel
theorem d_M_init_185 : decode b_M_init 185 = .ok (.aload_n 0, 1) := by decide +kernel
theorem d_M_init_186 : decode b_M_init 186 = .ok (.bipush 96, 2) := by decide +kernel
theorem d_M_init_188 : decode b_M_init 188 = .ok (.newarray .long, 2) := by decide +kernel
theorem d_M_init_190 : decode b_M_init 190 = .ok (.putfield 80, 3) := by decide +kernel
theorem d_M_init_193 : decode b_M_init 193 = .ok (.aload_n 0, 1) := by decide +kernel
theorem d_M_init_194 : decode b_M_init 194 = .ok (.bipush 96, 2) := by decide +kernel
theorem d_M_init_196 : decode b_M_init 196 = .ok (.newarray .int, 2) := by decide +kernel
theorem d_M_init_198 : decode b_M_init 198 = .ok (.putfield 83, 3) := by decide +kernel
theorem d_M_init_201 : decode b_M_init 201 = .ok (.aload_n 0, 1) := by decide +kernel
theorem d_M_init_202 : decode b_M_init 202 = .ok (.iconst 4, 1) := by decide +kernel
theorem d_M_init_203 : decode b_M_init 203 = .ok (.newarray .int, 2) := by decide +kernel
theorem d_M_init_205 : decode b_M_init 205 = .ok (.putfield 86, 3) := by decide +kernel
theorem d_M_init_208 : decode b_M_init 208 = .ok (.return_, 1) := by decide +kernel
theorem d_M_thrown_0 : decode b_M_thrown 0 = .ok (.aload_n 0, 1) := by decide +kernel
theorem d_M_thrown_1 : decode b_M_thrown 1 = .ok (.getfield 89, 3) := by decide +kernel
theorem d_M_thrown_4 : decode b_M_thrown 4 = .ok (.ireturn, 1) := by decide +kernel
theorem d_M_throwing_0 : decode b_M_throwing 0 = .ok (.aload_n 0, 1) := by decide +kernel
theorem d_M_throwing_1 : decode b_M_throwing 1 = .ok (.iload_n 1, 1) := by decide +kernel
theorem d_M_throwing_2 : decode b_M_throwing 2 = .ok (.ifCond .eq 7, 3) := by decide +kernel
theorem d_M_throwing_5 : decode b_M_throwing 5 = .ok (.iconst 1, 1) := by decide +kernel
theorem d_M_throwing_6 : decode b_M_throwing 6 = .ok (.goto 12, 3) := by decide +kernel
theorem d_M_throwing_9 : decode b_M_throwing 9 = .ok (.iload_n 2, 1) := by decide +kernel
theorem d_M_throwing_10 : decode b_M_throwing 10 = .ok (.ifCond .eq 7, 3) := by decide +kernel
theorem d_M_throwing_13 : decode b_M_throwing 13 = .ok (.iconst 2, 1) := by decide +kernel
theorem d_M_throwing_14 : decode b_M_throwing 14 = .ok (.goto 4, 3) := by decide +kernel
theorem d_M_throwing_17 : decode b_M_throwing 17 = .ok (.iconst 0, 1) := by decide +kernel
theorem d_M_throwing_18 : decode b_M_throwing 18 = .ok (.putfield 89, 3) := by decide +kernel
theorem d_M_throwing_21 : decode b_M_throwing 21 = .ok (.aload_n 0, 1) := by decide +kernel
theorem d_M_throwing_22 : decode b_M_throwing 22 = .ok (.getfield 89, 3) := by decide +kernel
theorem d_M_throwing_25 : decode b_M_throwing 25 = .ok (.ifCond .le 7, 3) := by decide +kernel
theorem d_M_throwing_28 : decode b_M_throwing 28 = .ok (.iconst 1, 1) := by decide +kernel
theorem d_M_throwing_29 : decode b_M_throwing 29 = .ok (.goto 4, 3) := by decide +kernel
theorem d_M_throwing_32 : decode b_M_throwing 32 = .ok (.iconst 0, 1) := by decide +kernel
theorem d_M_throwing_33 : decode b_M_throwing 33 = .ok (.ireturn, 1) := by decide +kernel
theorem d_M_lettersOf_0 : decode b_M_lettersOf 0 = .ok (.iconst 0, 1) := by decide +kernel
theorem d_M_lettersOf_1 : decode b_M_lettersOf 1 = .ok (.istore_n 2, 1) := by decide +kernel
theorem d_M_lettersOf_2 : decode b_M_lettersOf 2 = .ok (.iload_n 2, 1) := by decide +kernel
theorem d_M_lettersOf_3 : decode b_M_lettersOf 3 = .ok (.bipush 8, 2) := by decide +kernel
theorem d_M_lettersOf_5 : decode b_M_lettersOf 5 = .ok (.if_icmp .ge 20, 3) := by decide +kernel
theorem d_M_lettersOf_8 : decode b_M_lettersOf 8 = .ok (.lload_n 0, 1) := by decide +kernel
theorem d_M_lettersOf_9 : decode b_M_lettersOf 9 = .ok (.bipush 8, 2) := by decide +kernel
theorem d_M_lettersOf_11 : decode b_M_lettersOf 11 = .ok (.iload_n 2, 1) := by decide +kernel
theorem d_M_lettersOf_12 : decode b_M_lettersOf 12 = .ok (.imul, 1) := by decide +kernel
theorem d_M_lettersOf_13 : decode b_M_lettersOf 13 = .ok (.lshr, 1) := by decide +kernel
theorem d_M_lettersOf_14 : decode b_M_lettersOf 14 = .ok (.lconst 0, 1) := by decide +kernel
theorem d_M_lettersOf_15 : decode b_M_lettersOf 15 = .ok (.lcmp, 1) := by decide +kernel
theorem d_M_lettersOf_16 : decode b_M_lettersOf 16 = .ok (.ifCond .eq 9, 3) := by decide +kernel
theorem d_M_lettersOf_19 : decode b_M_lettersOf 19 = .ok (.iinc 2 1, 3) := by decide +kernel
theorem d_M_lettersOf_22 : decode b_M_lettersOf 22 = .ok (.goto (-20), 3) := by decide +kernel
theorem d_M_lettersOf_25 : decode b_M_lettersOf 25 = .ok (.iload_n 2, 1) := by decide +kernel
theorem d_M_lettersOf_26 : decode b_M_lettersOf 26 = .ok (.ireturn, 1) := by decide +kernel
theorem d_M_isText_0 : decode b_M_isText 0 = .ok (.lload_n 0, 1) := by decide +kernel
theorem d_M_isText_1 : decode b_M_isText 1 = .ok (.lconst 0, 1) := by decide +kernel
theorem d_M_isText_2 : decode b_M_isText 2 = .ok (.lcmp, 1) := by decide +kernel
theorem d_M_isText_3 : decode b_M_isText 3 = .ok (.ifCond .lt 7, 3) := by decide +kernel
theorem d_M_isText_6 : decode b_M_isText 6 = .ok (.iconst 1, 1) := by decide +kernel
theorem d_M_isText_7 : decode b_M_isText 7 = .ok (.goto 4, 3) := by decide +kernel
theorem d_M_isText_10 : decode b_M_isText 10 = .ok (.iconst 0, 1) := by decide +kernel
theorem d_M_isText_11 : decode b_M_isText 11 = .ok (.istore_n 2, 1) := by decide +kernel
theorem d_M_isText_12 : decode b_M_isText 12 = .ok (.lload_n 0, 1) := by decide +kernel
theorem d_M_isText_13 : decode b_M_isText 13 = .ok (.invokestatic 93, 3) := by decide +kernel
theorem d_M_isText_16 : decode b_M_isText 16 = .ok (.istore_n 3, 1) := by decide +kernel
theorem d_M_isText_17 : decode b_M_isText 17 = .ok (.iconst 0, 1) := by decide +kernel
theorem d_M_isText_18 : decode b_M_isText 18 = .ok (.istore 4, 2) := by decide +kernel
theorem d_M_isText_20 : decode b_M_isText 20 = .ok (.iload 4, 2) := by decide +kernel
theorem d_M_isText_22 : decode b_M_isText 22 = .ok (.iload_n 3, 1) := by decide +kernel
theorem d_M_isText_23 : decode b_M_isText 23 = .ok (.if_icmp .ge 50, 3) := by decide +kernel
theorem d_M_isText_26 : decode b_M_isText 26 = .ok (.lload_n 0, 1) := by decide +kernel
theorem d_M_isText_27 : decode b_M_isText 27 = .ok (.bipush 8, 2) := by decide +kernel
theorem d_M_isText_29 : decode b_M_isText 29 = .ok (.iload 4, 2) := by decide +kernel
theorem d_M_isText_31 : decode b_M_isText 31 = .ok (.imul, 1) := by decide +kernel
theorem d_M_isText_32 : decode b_M_isText 32 = .ok (.lshr, 1) := by decide +kernel
theorem d_M_isText_33 : decode b_M_isText 33 = .ok (.ldc2_w 97, 3) := by decide +kernel
theorem d_M_isText_36 : decode b_M_isText 36 = .ok (.land, 1) := by decide +kernel
theorem d_M_isText_37 : decode b_M_isText 37 = .ok (.lstore 5, 2) := by decide +kernel
theorem d_M_isText_39 : decode b_M_isText 39 = .ok (.iload_n 2, 1) := by decide +kernel
theorem d_M_isText_40 : decode b_M_isText 40 = .ok (.ifCond .eq 25, 3) := by decide +kernel
theorem d_M_isText_43 : decode b_M_isText 43 = .ok (.lload 5, 2) := by decide +kernel
theorem d_M_isText_45 : decode b_M_isText 45 = .ok (.ldc2_w 99, 3) := by decide +kernel
theorem d_M_isText_48 : decode b_M_isText 48 = .ok (.lcmp, 1) := by decide +kernel
theorem d_M_isText_49 : decode b_M_isText 49 = .ok (.ifCond .lt 16, 3) := by decide +kernel
theorem d_M_isText_52 : decode b_M_isText 52 = .ok (.lload 5, 2) := by decide +kernel
theorem d_M_isText_54 : decode b_M_isText 54 = .ok (.ldc2_w 101, 3) := by decide +kernel
theorem d_M_isText_57 : decode b_M_isText 57 = .ok (.lcmp, 1) := by decide +kernel
theorem d_M_isText_58 : decode b_M_isText 58 = .ok (.ifCond .gt 7, 3) := by decide +kernel
theorem d_M_isText_61 : decode b_M_isText 61 = .ok (.iconst 1, 1) := by decide +kernel
theorem d_M_isText_62 : decode b_M_isText 62 = .ok (.goto 4, 3) := by decide +kernel
theorem d_M_isText_65 : decode b_M_isText 65 = .ok (.iconst 0, 1) := by decide +kernel
theorem d_M_isText_66 : decode b_M_isText 66 = .ok (.istore_n 2, 1) := by decide +kernel
theorem d_M_isText_67 : decode b_M_isText 67 = .ok (.iinc 4 1, 3) := by decide +kernel
theorem d_M_isText_70 : decode b_M_isText 70 = .ok (.goto (-50), 3) := by decide +kernel
theorem d_M_isText_73 : decode b_M_isText 73 = .ok (.iload_n 2, 1) := by decide +kernel
theorem d_M_isText_74 : decode b_M_isText 74 = .ok (.ireturn, 1) := by decide +kernel
theorem d_M_isWord_0 : decode b_M_isWord 0 = .ok (.lload_n 0, 1) := by decide +kernel
theorem d_M_isWord_1 : decode b_M_isWord 1 = .ok (.lconst 0, 1) := by decide +kernel
theorem d_M_isWord_2 : decode b_M_isWord 2 = .ok (.lcmp, 1) := by decide +kernel
theorem d_M_isWord_3 : decode b_M_isWord 3 = .ok (.ifCond .eq 14, 3) := by decide +kernel
theorem d_M_isWord_6 : decode b_M_isWord 6 = .ok (.lload_n 0, 1) := by decide +kernel
theorem d_M_isWord_7 : decode b_M_isWord 7 = .ok (.invokestatic 103, 3) := by decide +kernel
theorem d_M_isWord_10 : decode b_M_isWord 10 = .ok (.ifCond .eq 7, 3) := by decide +kernel
theorem d_M_isWord_13 : decode b_M_isWord 13 = .ok (.iconst 1, 1) := by decide +kernel
theorem d_M_isWord_14 : decode b_M_isWord 14 = .ok (.goto 4, 3) := by decide +kernel
theorem d_M_isWord_17 : decode b_M_isWord 17 = .ok (.iconst 0, 1) := by decide +kernel
theorem d_M_isWord_18 : decode b_M_isWord 18 = .ok (.ireturn, 1) := by decide +kernel
theorem d_M_at_0 : decode b_M_at 0 = .ok (.lload_n 0, 1) := by decide +kernel
theorem d_M_at_1 : decode b_M_at 1 = .ok (.invokestatic 93, 3) := by decide +kernel
theorem d_M_at_4 : decode b_M_at 4 = .ok (.istore_n 3, 1) := by decide +kernel
theorem d_M_at_5 : decode b_M_at 5 = .ok (.iload_n 2, 1) := by decide +kernel
theorem d_M_at_6 : decode b_M_at 6 = .ok (.iload_n 3, 1) := by decide +kernel
theorem d_M_at_7 : decode b_M_at 7 = .ok (.if_icmp .ge 21, 3) := by decide +kernel
theorem d_M_at_10 : decode b_M_at 10 = .ok (.lload_n 0, 1) := by decide +kernel
theorem d_M_at_11 : decode b_M_at 11 = .ok (.bipush 8, 2) := by decide +kernel
theorem d_M_at_13 : decode b_M_at 13 = .ok (.iload_n 3, 1) := by decide +kernel
theorem d_M_at_14 : decode b_M_at 14 = .ok (.iconst 1, 1) := by decide +kernel
theorem d_M_at_15 : decode b_M_at 15 = .ok (.isub, 1) := by decide +kernel
theorem d_M_at_16 : decode b_M_at 16 = .ok (.iload_n 2, 1) := by decide +kernel
theorem d_M_at_17 : decode b_M_at 17 = .ok (.isub, 1) := by decide +kernel
theorem d_M_at_18 : decode b_M_at 18 = .ok (.imul, 1) := by decide +kernel
theorem d_M_at_19 : decode b_M_at 19 = .ok (.lshr, 1) := by decide +kernel
theorem d_M_at_20 : decode b_M_at 20 = .ok (.ldc2_w 97, 3) := by decide +kernel
theorem d_M_at_23 : decode b_M_at 23 = .ok (.land, 1) := by decide +kernel
theorem d_M_at_24 : decode b_M_at 24 = .ok (.l2i, 1) := by decide +kernel
theorem d_M_at_25 : decode b_M_at 25 = .ok (.goto 4, 3) := by decide +kernel
theorem d_M_at_28 : decode b_M_at 28 = .ok (.iconst 0, 1) := by decide +kernel
theorem d_M_at_29 : decode b_M_at 29 = .ok (.ireturn, 1) := by decide +kernel
theorem d_M_isBefore_0 : decode b_M_isBefore 0 = .ok (.iconst 0, 1) := by decide +kernel
theorem d_M_isBefore_1 : decode b_M_isBefore 1 = .ok (.istore 4, 2) := by decide +kernel
theorem d_M_isBefore_3 : decode b_M_isBefore 3 = .ok (.iload 4, 2) := by decide +kernel
theorem d_M_isBefore_5 : decode b_M_isBefore 5 = .ok (.bipush 8, 2) := by decide +kernel
theorem d_M_isBefore_7 : decode b_M_isBefore 7 = .ok (.if_icmp .ge 45, 3) := by decide +kernel
theorem d_M_isBefore_10 : decode b_M_isBefore 10 = .ok (.lload_n 0, 1) := by decide +kernel
theorem d_M_isBefore_11 : decode b_M_isBefore 11 = .ok (.iload 4, 2) := by decide +kernel
theorem d_M_isBefore_13 : decode b_M_isBefore 13 = .ok (.invokestatic 107, 3) := by decide +kernel
theorem d_M_isBefore_16 : decode b_M_isBefore 16 = .ok (.lload_n 2, 1) := by decide +kernel
theorem d_M_isBefore_17 : decode b_M_isBefore 17 = .ok (.iload 4, 2) := by decide +kernel
theorem d_M_isBefore_19 : decode b_M_isBefore 19 = .ok (.invokestatic 107, 3) := by decide +kernel
theorem d_M_isBefore_22 : decode b_M_isBefore 22 = .ok (.if_icmp .eq 24, 3) := by decide +kernel
theorem d_M_isBefore_25 : decode b_M_isBefore 25 = .ok (.lload_n 0, 1) := by decide +kernel
theorem d_M_isBefore_26 : decode b_M_isBefore 26 = .ok (.iload 4, 2) := by decide +kernel
theorem d_M_isBefore_28 : decode b_M_isBefore 28 = .ok (.invokestatic 107, 3) := by decide +kernel
theorem d_M_isBefore_31 : decode b_M_isBefore 31 = .ok (.lload_n 2, 1) := by decide +kernel
theorem d_M_isBefore_32 : decode b_M_isBefore 32 = .ok (.iload 4, 2) := by decide +kernel
theorem d_M_isBefore_34 : decode b_M_isBefore 34 = .ok (.invokestatic 107, 3) := by decide +kernel
theorem d_M_isBefore_37 : decode b_M_isBefore 37 = .ok (.if_icmp .ge 7, 3) := by decide +kernel
theorem d_M_isBefore_40 : decode b_M_isBefore 40 = .ok (.iconst 1, 1) := by decide +kernel
theorem d_M_isBefore_41 : decode b_M_isBefore 41 = .ok (.goto 4, 3) := by decide +kernel
theorem d_M_isBefore_44 : decode b_M_isBefore 44 = .ok (.iconst 0, 1) := by decide +kernel
theorem d_M_isBefore_45 : decode b_M_isBefore 45 = .ok (.ireturn, 1) := by decide +kernel
theorem d_M_isBefore_46 : decode b_M_isBefore 46 = .ok (.iinc 4 1, 3) := by decide +kernel
theorem d_M_isBefore_49 : decode b_M_isBefore 49 = .ok (.goto (-46), 3) := by decide +kernel
theorem d_M_isBefore_52 : decode b_M_isBefore 52 = .ok (.iconst 0, 1) := by decide +kernel
theorem d_M_isBefore_53 : decode b_M_isBefore 53 = .ok (.ireturn, 1) := by decide +kernel
theorem d_M_common_0 : decode b_M_common 0 = .ok (.iconst 0, 1) := by decide +kernel
theorem d_M_common_1 : decode b_M_common 1 = .ok (.istore 4, 2) := by decide +kernel
theorem d_M_common_3 : decode b_M_common 3 = .ok (.iload 4, 2) := by decide +kernel
theorem d_M_common_5 : decode b_M_common 5 = .ok (.bipush 8, 2) := by decide +kernel
theorem d_M_common_7 : decode b_M_common 7 = .ok (.if_icmp .ge 33, 3) := by decide +kernel
theorem d_M_common_10 : decode b_M_common 10 = .ok (.lload_n 0, 1) := by decide +kernel
theorem d_M_common_11 : decode b_M_common 11 = .ok (.iload 4, 2) := by decide +kernel
theorem d_M_common_13 : decode b_M_common 13 = .ok (.invokestatic 107, 3) := by decide +kernel
theorem d_M_common_16 : decode b_M_common 16 = .ok (.ifCond .eq 24, 3) := by decide +kernel
theorem d_M_common_19 : decode b_M_common 19 = .ok (.lload_n 0, 1) := by decide +kernel
theorem d_M_common_20 : decode b_M_common 20 = .ok (.iload 4, 2) := by decide +kernel
theorem d_M_common_22 : decode b_M_common 22 = .ok (.invokestatic 107, 3) := by decide +kernel
theorem d_M_common_25 : decode b_M_common 25 = .ok (.lload_n 2, 1) := by decide +kernel
theorem d_M_common_26 : decode b_M_common 26 = .ok (.iload 4, 2) := by decide +kernel
theorem d_M_common_28 : decode b_M_common 28 = .ok (.invokestatic 107, 3) := by decide +kernel
theorem d_M_common_31 : decode b_M_common 31 = .ok (.if_icmp .ne 9, 3) := by decide +kernel
theorem d_M_common_34 : decode b_M_common 34 = .ok (.iinc 4 1, 3) := by decide +kernel
theorem d_M_common_37 : decode b_M_common 37 = .ok (.goto (-34), 3) := by decide +kernel
theorem d_M_common_40 : decode b_M_common 40 = .ok (.iload 4, 2) := by decide +kernel
theorem d_M_common_42 : decode b_M_common 42 = .ok (.ireturn, 1) := by decide +kernel
theorem d_M_word_0 : decode b_M_word 0 = .ok (.lload_n 1, 1) := by decide +kernel
theorem d_M_word_1 : decode b_M_word 1 = .ok (.invokestatic 111, 3) := by decide +kernel
theorem d_M_word_4 : decode b_M_word 4 = .ok (.ifCond .eq 14, 3) := by decide +kernel
theorem d_M_word_7 : decode b_M_word 7 = .ok (.iload_n 3, 1) := by decide +kernel
theorem d_M_word_8 : decode b_M_word 8 = .ok (.ifCond .lt 10, 3) := by decide +kernel
theorem d_M_word_11 : decode b_M_word 11 = .ok (.iload_n 3, 1) := by decide +kernel
theorem d_M_word_12 : decode b_M_word 12 = .ok (.sipush 9999, 3) := by decide +kernel
theorem d_M_word_15 : decode b_M_word 15 = .ok (.if_icmp .le 7, 3) := by decide +kernel
theorem d_M_word_18 : decode b_M_word 18 = .ok (.iconst 1, 1) := by decide +kernel
theorem d_M_word_19 : decode b_M_word 19 = .ok (.goto 4, 3) := by decide +kernel
theorem d_M_word_22 : decode b_M_word 22 = .ok (.iconst 0, 1) := by decide +kernel
theorem d_M_word_23 : decode b_M_word 23 = .ok (.istore 4, 2) := by decide +kernel
theorem d_M_word_25 : decode b_M_word 25 = .ok (.iconst 0, 1) := by decide +kernel
theorem d_M_word_26 : decode b_M_word 26 = .ok (.istore 5, 2) := by decide +kernel
theorem d_M_word_28 : decode b_M_word 28 = .ok (.iload 5, 2) := by decide +kernel
theorem d_M_word_30 : decode b_M_word 30 = .ok (.aload_n 0, 1) := by decide +kernel
theorem d_M_word_31 : decode b_M_word 31 = .ok (.getfield 114, 3) := by decide +kernel
theorem d_M_word_34 : decode b_M_word 34 = .ok (.if_icmp .ge 21, 3) := by decide +kernel
theorem d_M_word_37 : decode b_M_word 37 = .ok (.aload_n 0, 1) := by decide +kernel
theorem d_M_word_38 : decode b_M_word 38 = .ok (.getfield 7, 3) := by decide +kernel
theorem d_M_word_41 : decode b_M_word 41 = .ok (.iload 5, 2) := by decide +kernel
theorem d_M_word_43 : decode b_M_word 43 = .ok (.laload, 1) := by decide +kernel
theorem d_M_word_44 : decode b_M_word 44 = .ok (.lload_n 1, 1) := by decide +kernel
theorem d_M_word_45 : decode b_M_word 45 = .ok (.lcmp, 1) := by decide +kernel
theorem d_M_word_46 : decode b_M_word 46 = .ok (.ifCond .eq 9, 3) := by decide +kernel
theorem d_M_word_49 : decode b_M_word 49 = .ok (.iinc 5 1, 3) := by decide +kernel
theorem d_M_word_52 : decode b_M_word 52 = .ok (.goto (-24), 3) := by decide +kernel
theorem d_M_word_55 : decode b_M_word 55 = .ok (.aload_n 0, 1) := by decide +kernel
theorem d_M_word_56 : decode b_M_word 56 = .ok (.iload 4, 2) := by decide +kernel
theorem d_M_word_58 : decode b_M_word 58 = .ok (.iload 5, 2) := by decide +kernel
theorem d_M_word_60 : decode b_M_word 60 = .ok (.bipush 24, 2) := by decide +kernel
theorem d_M_word_62 : decode b_M_word 62 = .ok (.if_icmp .ne 7, 3) := by decide +kernel
theorem d_M_word_65 : decode b_M_word 65 = .ok (.iconst 1, 1) := by decide +kernel
theorem d_M_word_66 : decode b_M_word 66 = .ok (.goto 4, 3) := by decide +kernel
theorem d_M_word_69 : decode b_M_word 69 = .ok (.iconst 0, 1) := by decide +kernel
theorem d_M_word_70 : decode b_M_word 70 = .ok (.invokevirtual 117, 3) := by decide +kernel
theorem d_M_word_73 : decode b_M_word 73 = .ok (.ifCond .eq 5, 3) := by decide +kernel
theorem d_M_word_76 : decode b_M_word 76 = .ok (.iconst 0, 1) := by decide +kernel
theorem d_M_word_77 : decode b_M_word 77 = .ok (.ireturn, 1) := by decide +kernel
theorem d_M_word_78 : decode b_M_word 78 = .ok (.iload 5, 2) := by decide +kernel
theorem d_M_word_80 : decode b_M_word 80 = .ok (.aload_n 0, 1) := by decide +kernel
theorem d_M_word_81 : decode b_M_word 81 = .ok (.getfield 114, 3) := by decide +kernel
theorem d_M_word_84 : decode b_M_word 84 = .ok (.if_icmp .ne 13, 3) := by decide +kernel
theorem d_M_word_87 : decode b_M_word 87 = .ok (.aload_n 0, 1) := by decide +kernel
theorem d_M_word_88 : decode b_M_word 88 = .ok (.dup, 1) := by decide +kernel
theorem d_M_word_89 : decode b_M_word 89 = .ok (.getfield 114, 3) := by decide +kernel
theorem d_M_word_92 : decode b_M_word 92 = .ok (.iconst 1, 1) := by decide +kernel
theorem d_M_word_93 : decode b_M_word 93 = .ok (.iadd, 1) := by decide +kernel
theorem d_M_word_94 : decode b_M_word 94 = .ok (.putfield 114, 3) := by decide +kernel
theorem d_M_word_97 : decode b_M_word 97 = .ok (.aload_n 0, 1) := by decide +kernel
theorem d_M_word_98 : decode b_M_word 98 = .ok (.getfield 7, 3) := by decide +kernel
theorem d_M_word_101 : decode b_M_word 101 = .ok (.iload 5, 2) := by decide +kernel
theorem d_M_word_103 : decode b_M_word 103 = .ok (.lload_n 1, 1) := by decide +kernel
theorem d_M_word_104 : decode b_M_word 104 = .ok (.lastore, 1) := by decide +kernel
theorem d_M_word_105 : decode b_M_word 105 = .ok (.aload_n 0, 1) := by decide +kernel
theorem d_M_word_106 : decode b_M_word 106 = .ok (.getfield 13, 3) := by decide +kernel
theorem d_M_word_109 : decode b_M_word 109 = .ok (.iload 5, 2) := by decide +kernel
theorem d_M_word_111 : decode b_M_word 111 = .ok (.iload_n 3, 1) := by decide +kernel
theorem d_M_word_112 : decode b_M_word 112 = .ok (.iastore, 1) := by decide +kernel
theorem d_M_word_113 : decode b_M_word 113 = .ok (.aload_n 0, 1) := by decide +kernel
theorem d_M_word_114 : decode b_M_word 114 = .ok (.getfield 114, 3) := by decide +kernel
theorem d_M_word_117 : decode b_M_word 117 = .ok (.ireturn, 1) := by decide +kernel
theorem d_M_drop_0 : decode b_M_drop 0 = .ok (.aload_n 0, 1) := by decide +kernel
theorem d_M_drop_1 : decode b_M_drop 1 = .ok (.iconst 0, 1) := by decide +kernel
theorem d_M_drop_2 : decode b_M_drop 2 = .ok (.putfield 89, 3) := by decide +kernel
theorem d_M_drop_5 : decode b_M_drop 5 = .ok (.iconst 0, 1) := by decide +kernel
theorem d_M_drop_6 : decode b_M_drop 6 = .ok (.istore_n 3, 1) := by decide +kernel
theorem d_M_drop_7 : decode b_M_drop 7 = .ok (.iload_n 3, 1) := by decide +kernel
theorem d_M_drop_8 : decode b_M_drop 8 = .ok (.aload_n 0, 1) := by decide +kernel
theorem d_M_drop_9 : decode b_M_drop 9 = .ok (.getfield 114, 3) := by decide +kernel
theorem d_M_drop_12 : decode b_M_drop 12 = .ok (.if_icmp .ge 65, 3) := by decide +kernel
theorem d_M_drop_15 : decode b_M_drop 15 = .ok (.aload_n 0, 1) := by decide +kernel
theorem d_M_drop_16 : decode b_M_drop 16 = .ok (.getfield 7, 3) := by decide +kernel
theorem d_M_drop_19 : decode b_M_drop 19 = .ok (.iload_n 3, 1) := by decide +kernel
theorem d_M_drop_20 : decode b_M_drop 20 = .ok (.laload, 1) := by decide +kernel
theorem d_M_drop_21 : decode b_M_drop 21 = .ok (.lload_n 1, 1) := by decide +kernel
theorem d_M_drop_22 : decode b_M_drop 22 = .ok (.lcmp, 1) := by decide +kernel
end
section
theorem d_M_drop_23 : decode b_M_drop 23 = .ok (.ifCond .eq 6, 3) := by decide +kernel
theorem d_M_drop_26 : decode b_M_drop 26 = .ok (.goto 45, 3) := by decide +kernel
theorem d_M_drop_29 : decode b_M_drop 29 = .ok (.aload_n 0, 1) := by decide +kernel
theorem d_M_drop_30 : decode b_M_drop 30 = .ok (.dup, 1) := by decide +kernel
theorem d_M_drop_31 : decode b_M_drop 31 = .ok (.getfield 114, 3) := by decide +kernel
theorem d_M_drop_34 : decode b_M_drop 34 = .ok (.iconst 1, 1) := by decide +kernel
theorem d_M_drop_35 : decode b_M_drop 35 = .ok (.isub, 1) := by decide +kernel
theorem d_M_drop_36 : decode b_M_drop 36 = .ok (.putfield 114, 3) := by decide +kernel
theorem d_M_drop_39 : decode b_M_drop 39 = .ok (.aload_n 0, 1) := by decide +kernel
theorem d_M_drop_40 : decode b_M_drop 40 = .ok (.getfield 7, 3) := by decide +kernel
theorem d_M_drop_43 : decode b_M_drop 43 = .ok (.iload_n 3, 1) := by decide +kernel
theorem d_M_drop_44 : decode b_M_drop 44 = .ok (.aload_n 0, 1) := by decide +kernel
theorem d_M_drop_45 : decode b_M_drop 45 = .ok (.getfield 7, 3) := by decide +kernel
theorem d_M_drop_48 : decode b_M_drop 48 = .ok (.aload_n 0, 1) := by decide +kernel
theorem d_M_drop_49 : decode b_M_drop 49 = .ok (.getfield 114, 3) := by decide +kernel
theorem d_M_drop_52 : decode b_M_drop 52 = .ok (.laload, 1) := by decide +kernel
theorem d_M_drop_53 : decode b_M_drop 53 = .ok (.lastore, 1) := by decide +kernel
theorem d_M_drop_54 : decode b_M_drop 54 = .ok (.aload_n 0, 1) := by decide +kernel
theorem d_M_drop_55 : decode b_M_drop 55 = .ok (.getfield 13, 3) := by decide +kernel
theorem d_M_drop_58 : decode b_M_drop 58 = .ok (.iload_n 3, 1) := by decide +kernel
theorem d_M_drop_59 : decode b_M_drop 59 = .ok (.aload_n 0, 1) := by decide +kernel
theorem d_M_drop_60 : decode b_M_drop 60 = .ok (.getfield 13, 3) := by decide +kernel
theorem d_M_drop_63 : decode b_M_drop 63 = .ok (.aload_n 0, 1) := by decide +kernel
theorem d_M_drop_64 : decode b_M_drop 64 = .ok (.getfield 114, 3) := by decide +kernel
theorem d_M_drop_67 : decode b_M_drop 67 = .ok (.iaload, 1) := by decide +kernel
theorem d_M_drop_68 : decode b_M_drop 68 = .ok (.iastore, 1) := by decide +kernel
theorem d_M_drop_69 : decode b_M_drop 69 = .ok (.iconst 1, 1) := by decide +kernel
theorem d_M_drop_70 : decode b_M_drop 70 = .ok (.ireturn, 1) := by decide +kernel
theorem d_M_drop_71 : decode b_M_drop 71 = .ok (.iinc 3 1, 3) := by decide +kernel
theorem d_M_drop_74 : decode b_M_drop 74 = .ok (.goto (-67), 3) := by decide +kernel
theorem d_M_drop_77 : decode b_M_drop 77 = .ok (.iconst 0, 1) := by decide +kernel
theorem d_M_drop_78 : decode b_M_drop 78 = .ok (.ireturn, 1) := by decide +kernel
theorem d_M_move_0 : decode b_M_move 0 = .ok (.aload_n 0, 1) := by decide +kernel
theorem d_M_move_1 : decode b_M_move 1 = .ok (.getfield 17, 3) := by decide +kernel
theorem d_M_move_4 : decode b_M_move 4 = .ok (.iload_n 2, 1) := by decide +kernel
theorem d_M_move_5 : decode b_M_move 5 = .ok (.aload_n 0, 1) := by decide +kernel
theorem d_M_move_6 : decode b_M_move 6 = .ok (.getfield 17, 3) := by decide +kernel
theorem d_M_move_9 : decode b_M_move 9 = .ok (.iload_n 1, 1) := by decide +kernel
theorem d_M_move_10 : decode b_M_move 10 = .ok (.iaload, 1) := by decide +kernel
theorem d_M_move_11 : decode b_M_move 11 = .ok (.iastore, 1) := by decide +kernel
theorem d_M_move_12 : decode b_M_move 12 = .ok (.aload_n 0, 1) := by decide +kernel
theorem d_M_move_13 : decode b_M_move 13 = .ok (.getfield 20, 3) := by decide +kernel
theorem d_M_move_16 : decode b_M_move 16 = .ok (.iload_n 2, 1) := by decide +kernel
theorem d_M_move_17 : decode b_M_move 17 = .ok (.aload_n 0, 1) := by decide +kernel
theorem d_M_move_18 : decode b_M_move 18 = .ok (.getfield 20, 3) := by decide +kernel
theorem d_M_move_21 : decode b_M_move 21 = .ok (.iload_n 1, 1) := by decide +kernel
theorem d_M_move_22 : decode b_M_move 22 = .ok (.iaload, 1) := by decide +kernel
theorem d_M_move_23 : decode b_M_move 23 = .ok (.iastore, 1) := by decide +kernel
theorem d_M_move_24 : decode b_M_move 24 = .ok (.aload_n 0, 1) := by decide +kernel
theorem d_M_move_25 : decode b_M_move 25 = .ok (.getfield 23, 3) := by decide +kernel
theorem d_M_move_28 : decode b_M_move 28 = .ok (.iload_n 2, 1) := by decide +kernel
theorem d_M_move_29 : decode b_M_move 29 = .ok (.aload_n 0, 1) := by decide +kernel
theorem d_M_move_30 : decode b_M_move 30 = .ok (.getfield 23, 3) := by decide +kernel
theorem d_M_move_33 : decode b_M_move 33 = .ok (.iload_n 1, 1) := by decide +kernel
theorem d_M_move_34 : decode b_M_move 34 = .ok (.iaload, 1) := by decide +kernel
theorem d_M_move_35 : decode b_M_move 35 = .ok (.iastore, 1) := by decide +kernel
theorem d_M_move_36 : decode b_M_move 36 = .ok (.aload_n 0, 1) := by decide +kernel
theorem d_M_move_37 : decode b_M_move 37 = .ok (.getfield 32, 3) := by decide +kernel
theorem d_M_move_40 : decode b_M_move 40 = .ok (.iload_n 2, 1) := by decide +kernel
theorem d_M_move_41 : decode b_M_move 41 = .ok (.aload_n 0, 1) := by decide +kernel
theorem d_M_move_42 : decode b_M_move 42 = .ok (.getfield 32, 3) := by decide +kernel
theorem d_M_move_45 : decode b_M_move 45 = .ok (.iload_n 1, 1) := by decide +kernel
theorem d_M_move_46 : decode b_M_move 46 = .ok (.iaload, 1) := by decide +kernel
theorem d_M_move_47 : decode b_M_move 47 = .ok (.iastore, 1) := by decide +kernel
theorem d_M_move_48 : decode b_M_move 48 = .ok (.aload_n 0, 1) := by decide +kernel
theorem d_M_move_49 : decode b_M_move 49 = .ok (.getfield 35, 3) := by decide +kernel
theorem d_M_move_52 : decode b_M_move 52 = .ok (.iload_n 2, 1) := by decide +kernel
theorem d_M_move_53 : decode b_M_move 53 = .ok (.aload_n 0, 1) := by decide +kernel
theorem d_M_move_54 : decode b_M_move 54 = .ok (.getfield 35, 3) := by decide +kernel
theorem d_M_move_57 : decode b_M_move 57 = .ok (.iload_n 1, 1) := by decide +kernel
theorem d_M_move_58 : decode b_M_move 58 = .ok (.iaload, 1) := by decide +kernel
theorem d_M_move_59 : decode b_M_move 59 = .ok (.iastore, 1) := by decide +kernel
theorem d_M_move_60 : decode b_M_move 60 = .ok (.iconst 0, 1) := by decide +kernel
theorem d_M_move_61 : decode b_M_move 61 = .ok (.istore_n 3, 1) := by decide +kernel
theorem d_M_move_62 : decode b_M_move 62 = .ok (.iload_n 3, 1) := by decide +kernel
theorem d_M_move_63 : decode b_M_move 63 = .ok (.bipush 24, 2) := by decide +kernel
theorem d_M_move_65 : decode b_M_move 65 = .ok (.if_icmp .ge 53, 3) := by decide +kernel
theorem d_M_move_68 : decode b_M_move 68 = .ok (.aload_n 0, 1) := by decide +kernel
theorem d_M_move_69 : decode b_M_move 69 = .ok (.getfield 26, 3) := by decide +kernel
theorem d_M_move_72 : decode b_M_move 72 = .ok (.bipush 24, 2) := by decide +kernel
theorem d_M_move_74 : decode b_M_move 74 = .ok (.iload_n 2, 1) := by decide +kernel
theorem d_M_move_75 : decode b_M_move 75 = .ok (.imul, 1) := by decide +kernel
theorem d_M_move_76 : decode b_M_move 76 = .ok (.iload_n 3, 1) := by decide +kernel
theorem d_M_move_77 : decode b_M_move 77 = .ok (.iadd, 1) := by decide +kernel
theorem d_M_move_78 : decode b_M_move 78 = .ok (.aload_n 0, 1) := by decide +kernel
theorem d_M_move_79 : decode b_M_move 79 = .ok (.getfield 26, 3) := by decide +kernel
theorem d_M_move_82 : decode b_M_move 82 = .ok (.bipush 24, 2) := by decide +kernel
theorem d_M_move_84 : decode b_M_move 84 = .ok (.iload_n 1, 1) := by decide +kernel
theorem d_M_move_85 : decode b_M_move 85 = .ok (.imul, 1) := by decide +kernel
theorem d_M_move_86 : decode b_M_move 86 = .ok (.iload_n 3, 1) := by decide +kernel
theorem d_M_move_87 : decode b_M_move 87 = .ok (.iadd, 1) := by decide +kernel
theorem d_M_move_88 : decode b_M_move 88 = .ok (.laload, 1) := by decide +kernel
theorem d_M_move_89 : decode b_M_move 89 = .ok (.lastore, 1) := by decide +kernel
theorem d_M_move_90 : decode b_M_move 90 = .ok (.aload_n 0, 1) := by decide +kernel
theorem d_M_move_91 : decode b_M_move 91 = .ok (.getfield 29, 3) := by decide +kernel
theorem d_M_move_94 : decode b_M_move 94 = .ok (.bipush 24, 2) := by decide +kernel
theorem d_M_move_96 : decode b_M_move 96 = .ok (.iload_n 2, 1) := by decide +kernel
theorem d_M_move_97 : decode b_M_move 97 = .ok (.imul, 1) := by decide +kernel
theorem d_M_move_98 : decode b_M_move 98 = .ok (.iload_n 3, 1) := by decide +kernel
theorem d_M_move_99 : decode b_M_move 99 = .ok (.iadd, 1) := by decide +kernel
theorem d_M_move_100 : decode b_M_move 100 = .ok (.aload_n 0, 1) := by decide +kernel
theorem d_M_move_101 : decode b_M_move 101 = .ok (.getfield 29, 3) := by decide +kernel
theorem d_M_move_104 : decode b_M_move 104 = .ok (.bipush 24, 2) := by decide +kernel
theorem d_M_move_106 : decode b_M_move 106 = .ok (.iload_n 1, 1) := by decide +kernel
theorem d_M_move_107 : decode b_M_move 107 = .ok (.imul, 1) := by decide +kernel
theorem d_M_move_108 : decode b_M_move 108 = .ok (.iload_n 3, 1) := by decide +kernel
theorem d_M_move_109 : decode b_M_move 109 = .ok (.iadd, 1) := by decide +kernel
theorem d_M_move_110 : decode b_M_move 110 = .ok (.iaload, 1) := by decide +kernel
theorem d_M_move_111 : decode b_M_move 111 = .ok (.iastore, 1) := by decide +kernel
theorem d_M_move_112 : decode b_M_move 112 = .ok (.iinc 3 1, 3) := by decide +kernel
theorem d_M_move_115 : decode b_M_move 115 = .ok (.goto (-53), 3) := by decide +kernel
theorem d_M_move_118 : decode b_M_move 118 = .ok (.return_, 1) := by decide +kernel
theorem d_M_build_0 : decode b_M_build 0 = .ok (.aload_n 0, 1) := by decide +kernel
theorem d_M_build_1 : decode b_M_build 1 = .ok (.getfield 121, 3) := by decide +kernel
theorem d_M_build_4 : decode b_M_build 4 = .ok (.ifCond .le 16, 3) := by decide +kernel
theorem d_M_build_7 : decode b_M_build 7 = .ok (.aload_n 0, 1) := by decide +kernel
theorem d_M_build_8 : decode b_M_build 8 = .ok (.getfield 23, 3) := by decide +kernel
theorem d_M_build_11 : decode b_M_build 11 = .ok (.iconst 0, 1) := by decide +kernel
theorem d_M_build_12 : decode b_M_build 12 = .ok (.iaload, 1) := by decide +kernel
theorem d_M_build_13 : decode b_M_build 13 = .ok (.ifCond .ne 7, 3) := by decide +kernel
theorem d_M_build_16 : decode b_M_build 16 = .ok (.iconst 1, 1) := by decide +kernel
theorem d_M_build_17 : decode b_M_build 17 = .ok (.goto 4, 3) := by decide +kernel
theorem d_M_build_20 : decode b_M_build 20 = .ok (.iconst 0, 1) := by decide +kernel
theorem d_M_build_21 : decode b_M_build 21 = .ok (.istore_n 1, 1) := by decide +kernel
theorem d_M_build_22 : decode b_M_build 22 = .ok (.aload_n 0, 1) := by decide +kernel
theorem d_M_build_23 : decode b_M_build 23 = .ok (.aload_n 0, 1) := by decide +kernel
theorem d_M_build_24 : decode b_M_build 24 = .ok (.getfield 114, 3) := by decide +kernel
theorem d_M_build_27 : decode b_M_build 27 = .ok (.ifCond .eq 15, 3) := by decide +kernel
theorem d_M_build_30 : decode b_M_build 30 = .ok (.aload_n 0, 1) := by decide +kernel
theorem d_M_build_31 : decode b_M_build 31 = .ok (.getfield 121, 3) := by decide +kernel
theorem d_M_build_34 : decode b_M_build 34 = .ok (.iconst 3, 1) := by decide +kernel
theorem d_M_build_35 : decode b_M_build 35 = .ok (.if_icmp .ne 11, 3) := by decide +kernel
theorem d_M_build_38 : decode b_M_build 38 = .ok (.iload_n 1, 1) := by decide +kernel
theorem d_M_build_39 : decode b_M_build 39 = .ok (.ifCond .ne 7, 3) := by decide +kernel
theorem d_M_build_42 : decode b_M_build 42 = .ok (.iconst 1, 1) := by decide +kernel
theorem d_M_build_43 : decode b_M_build 43 = .ok (.goto 4, 3) := by decide +kernel
theorem d_M_build_46 : decode b_M_build 46 = .ok (.iconst 0, 1) := by decide +kernel
theorem d_M_build_47 : decode b_M_build 47 = .ok (.iconst 0, 1) := by decide +kernel
theorem d_M_build_48 : decode b_M_build 48 = .ok (.invokevirtual 117, 3) := by decide +kernel
theorem d_M_build_51 : decode b_M_build 51 = .ok (.ifCond .eq 5, 3) := by decide +kernel
theorem d_M_build_54 : decode b_M_build 54 = .ok (.iconst 0, 1) := by decide +kernel
theorem d_M_build_55 : decode b_M_build 55 = .ok (.ireturn, 1) := by decide +kernel
theorem d_M_build_56 : decode b_M_build 56 = .ok (.iload_n 1, 1) := by decide +kernel
theorem d_M_build_57 : decode b_M_build 57 = .ok (.ifCond .ne 36, 3) := by decide +kernel
theorem d_M_build_60 : decode b_M_build 60 = .ok (.aload_n 0, 1) := by decide +kernel
theorem d_M_build_61 : decode b_M_build 61 = .ok (.getfield 121, 3) := by decide +kernel
theorem d_M_build_64 : decode b_M_build 64 = .ok (.istore_n 2, 1) := by decide +kernel
theorem d_M_build_65 : decode b_M_build 65 = .ok (.iload_n 2, 1) := by decide +kernel
theorem d_M_build_66 : decode b_M_build 66 = .ok (.ifCond .le 17, 3) := by decide +kernel
theorem d_M_build_69 : decode b_M_build 69 = .ok (.aload_n 0, 1) := by decide +kernel
theorem d_M_build_70 : decode b_M_build 70 = .ok (.iload_n 2, 1) := by decide +kernel
theorem d_M_build_71 : decode b_M_build 71 = .ok (.iconst 1, 1) := by decide +kernel
theorem d_M_build_72 : decode b_M_build 72 = .ok (.isub, 1) := by decide +kernel
theorem d_M_build_73 : decode b_M_build 73 = .ok (.iload_n 2, 1) := by decide +kernel
theorem d_M_build_74 : decode b_M_build 74 = .ok (.invokevirtual 124, 3) := by decide +kernel
theorem d_M_build_77 : decode b_M_build 77 = .ok (.iinc 2 (-1), 3) := by decide +kernel
theorem d_M_build_80 : decode b_M_build 80 = .ok (.goto (-15), 3) := by decide +kernel
theorem d_M_build_83 : decode b_M_build 83 = .ok (.aload_n 0, 1) := by decide +kernel
theorem d_M_build_84 : decode b_M_build 84 = .ok (.dup, 1) := by decide +kernel
theorem d_M_build_85 : decode b_M_build 85 = .ok (.getfield 121, 3) := by decide +kernel
theorem d_M_build_88 : decode b_M_build 88 = .ok (.iconst 1, 1) := by decide +kernel
theorem d_M_build_89 : decode b_M_build 89 = .ok (.iadd, 1) := by decide +kernel
theorem d_M_build_90 : decode b_M_build 90 = .ok (.putfield 121, 3) := by decide +kernel
theorem d_M_build_93 : decode b_M_build 93 = .ok (.aload_n 0, 1) := by decide +kernel
theorem d_M_build_94 : decode b_M_build 94 = .ok (.dup, 1) := by decide +kernel
theorem d_M_build_95 : decode b_M_build 95 = .ok (.getfield 128, 3) := by decide +kernel
theorem d_M_build_98 : decode b_M_build 98 = .ok (.iconst 1, 1) := by decide +kernel
theorem d_M_build_99 : decode b_M_build 99 = .ok (.iadd, 1) := by decide +kernel
theorem d_M_build_100 : decode b_M_build 100 = .ok (.putfield 128, 3) := by decide +kernel
theorem d_M_build_103 : decode b_M_build 103 = .ok (.aload_n 0, 1) := by decide +kernel
theorem d_M_build_104 : decode b_M_build 104 = .ok (.getfield 17, 3) := by decide +kernel
theorem d_M_build_107 : decode b_M_build 107 = .ok (.iconst 0, 1) := by decide +kernel
theorem d_M_build_108 : decode b_M_build 108 = .ok (.aload_n 0, 1) := by decide +kernel
theorem d_M_build_109 : decode b_M_build 109 = .ok (.getfield 128, 3) := by decide +kernel
theorem d_M_build_112 : decode b_M_build 112 = .ok (.iastore, 1) := by decide +kernel
theorem d_M_build_113 : decode b_M_build 113 = .ok (.aload_n 0, 1) := by decide +kernel
theorem d_M_build_114 : decode b_M_build 114 = .ok (.getfield 20, 3) := by decide +kernel
theorem d_M_build_117 : decode b_M_build 117 = .ok (.iconst 0, 1) := by decide +kernel
theorem d_M_build_118 : decode b_M_build 118 = .ok (.aload_n 0, 1) := by decide +kernel
theorem d_M_build_119 : decode b_M_build 119 = .ok (.getfield 114, 3) := by decide +kernel
theorem d_M_build_122 : decode b_M_build 122 = .ok (.iastore, 1) := by decide +kernel
theorem d_M_build_123 : decode b_M_build 123 = .ok (.aload_n 0, 1) := by decide +kernel
theorem d_M_build_124 : decode b_M_build 124 = .ok (.getfield 23, 3) := by decide +kernel
theorem d_M_build_127 : decode b_M_build 127 = .ok (.iconst 0, 1) := by decide +kernel
theorem d_M_build_128 : decode b_M_build 128 = .ok (.iconst 0, 1) := by decide +kernel
theorem d_M_build_129 : decode b_M_build 129 = .ok (.iastore, 1) := by decide +kernel
theorem d_M_build_130 : decode b_M_build 130 = .ok (.aload_n 0, 1) := by decide +kernel
theorem d_M_build_131 : decode b_M_build 131 = .ok (.getfield 32, 3) := by decide +kernel
theorem d_M_build_134 : decode b_M_build 134 = .ok (.iconst 0, 1) := by decide +kernel
theorem d_M_build_135 : decode b_M_build 135 = .ok (.iconst (-1), 1) := by decide +kernel
theorem d_M_build_136 : decode b_M_build 136 = .ok (.iastore, 1) := by decide +kernel
theorem d_M_build_137 : decode b_M_build 137 = .ok (.iconst 0, 1) := by decide +kernel
theorem d_M_build_138 : decode b_M_build 138 = .ok (.istore_n 2, 1) := by decide +kernel
theorem d_M_build_139 : decode b_M_build 139 = .ok (.iload_n 2, 1) := by decide +kernel
theorem d_M_build_140 : decode b_M_build 140 = .ok (.aload_n 0, 1) := by decide +kernel
theorem d_M_build_141 : decode b_M_build 141 = .ok (.getfield 114, 3) := by decide +kernel
theorem d_M_build_144 : decode b_M_build 144 = .ok (.if_icmp .ge 84, 3) := by decide +kernel
theorem d_M_build_147 : decode b_M_build 147 = .ok (.iconst 0, 1) := by decide +kernel
theorem d_M_build_148 : decode b_M_build 148 = .ok (.istore_n 3, 1) := by decide +kernel
theorem d_M_build_149 : decode b_M_build 149 = .ok (.iconst 0, 1) := by decide +kernel
theorem d_M_build_150 : decode b_M_build 150 = .ok (.istore 4, 2) := by decide +kernel
theorem d_M_build_152 : decode b_M_build 152 = .ok (.iload 4, 2) := by decide +kernel
theorem d_M_build_154 : decode b_M_build 154 = .ok (.aload_n 0, 1) := by decide +kernel
theorem d_M_build_155 : decode b_M_build 155 = .ok (.getfield 114, 3) := by decide +kernel
theorem d_M_build_158 : decode b_M_build 158 = .ok (.if_icmp .ge 36, 3) := by decide +kernel
theorem d_M_build_161 : decode b_M_build 161 = .ok (.aload_n 0, 1) := by decide +kernel
theorem d_M_build_162 : decode b_M_build 162 = .ok (.getfield 7, 3) := by decide +kernel
theorem d_M_build_165 : decode b_M_build 165 = .ok (.iload 4, 2) := by decide +kernel
theorem d_M_build_167 : decode b_M_build 167 = .ok (.laload, 1) := by decide +kernel
theorem d_M_build_168 : decode b_M_build 168 = .ok (.aload_n 0, 1) := by decide +kernel
theorem d_M_build_169 : decode b_M_build 169 = .ok (.getfield 7, 3) := by decide +kernel
theorem d_M_build_172 : decode b_M_build 172 = .ok (.iload_n 2, 1) := by decide +kernel
theorem d_M_build_173 : decode b_M_build 173 = .ok (.laload, 1) := by decide +kernel
theorem d_M_build_174 : decode b_M_build 174 = .ok (.invokestatic 131, 3) := by decide +kernel
theorem d_M_build_177 : decode b_M_build 177 = .ok (.ifCond .eq 9, 3) := by decide +kernel
theorem d_M_build_180 : decode b_M_build 180 = .ok (.iload_n 3, 1) := by decide +kernel
theorem d_M_build_181 : decode b_M_build 181 = .ok (.iconst 1, 1) := by decide +kernel
theorem d_M_build_182 : decode b_M_build 182 = .ok (.iadd, 1) := by decide +kernel
theorem d_M_build_183 : decode b_M_build 183 = .ok (.goto 4, 3) := by decide +kernel
theorem d_M_build_186 : decode b_M_build 186 = .ok (.iload_n 3, 1) := by decide +kernel
theorem d_M_build_187 : decode b_M_build 187 = .ok (.istore_n 3, 1) := by decide +kernel
theorem d_M_build_188 : decode b_M_build 188 = .ok (.iinc 4 1, 3) := by decide +kernel
theorem d_M_build_191 : decode b_M_build 191 = .ok (.goto (-39), 3) := by decide +kernel
theorem d_M_build_194 : decode b_M_build 194 = .ok (.aload_n 0, 1) := by decide +kernel
theorem d_M_build_195 : decode b_M_build 195 = .ok (.getfield 26, 3) := by decide +kernel
theorem d_M_build_198 : decode b_M_build 198 = .ok (.iload_n 3, 1) := by decide +kernel
theorem d_M_build_199 : decode b_M_build 199 = .ok (.aload_n 0, 1) := by decide +kernel
theorem d_M_build_200 : decode b_M_build 200 = .ok (.getfield 7, 3) := by decide +kernel
theorem d_M_build_203 : decode b_M_build 203 = .ok (.iload_n 2, 1) := by decide +kernel
theorem d_M_build_204 : decode b_M_build 204 = .ok (.laload, 1) := by decide +kernel
theorem d_M_build_205 : decode b_M_build 205 = .ok (.lastore, 1) := by decide +kernel
theorem d_M_build_206 : decode b_M_build 206 = .ok (.aload_n 0, 1) := by decide +kernel
theorem d_M_build_207 : decode b_M_build 207 = .ok (.getfield 29, 3) := by decide +kernel
theorem d_M_build_210 : decode b_M_build 210 = .ok (.iload_n 3, 1) := by decide +kernel
theorem d_M_build_211 : decode b_M_build 211 = .ok (.sipush 9999, 3) := by decide +kernel
theorem d_M_build_214 : decode b_M_build 214 = .ok (.aload_n 0, 1) := by decide +kernel
theorem d_M_build_215 : decode b_M_build 215 = .ok (.getfield 13, 3) := by decide +kernel
theorem d_M_build_218 : decode b_M_build 218 = .ok (.iload_n 2, 1) := by decide +kernel
theorem d_M_build_219 : decode b_M_build 219 = .ok (.iaload, 1) := by decide +kernel
theorem d_M_build_220 : decode b_M_build 220 = .ok (.isub, 1) := by decide +kernel
theorem d_M_build_221 : decode b_M_build 221 = .ok (.iastore, 1) := by decide +kernel
theorem d_M_build_222 : decode b_M_build 222 = .ok (.iinc 2 1, 3) := by decide +kernel
theorem d_M_build_225 : decode b_M_build 225 = .ok (.goto (-86), 3) := by decide +kernel
theorem d_M_build_228 : decode b_M_build 228 = .ok (.aload_n 0, 1) := by decide +kernel
theorem d_M_build_229 : decode b_M_build 229 = .ok (.getfield 128, 3) := by decide +kernel
theorem d_M_build_232 : decode b_M_build 232 = .ok (.ireturn, 1) := by decide +kernel
theorem d_M_hold_0 : decode b_M_hold 0 = .ok (.aload_n 0, 1) := by decide +kernel
theorem d_M_hold_1 : decode b_M_hold 1 = .ok (.aload_n 0, 1) := by decide +kernel
theorem d_M_hold_2 : decode b_M_hold 2 = .ok (.getfield 121, 3) := by decide +kernel
theorem d_M_hold_5 : decode b_M_hold 5 = .ok (.ifCond .eq 14, 3) := by decide +kernel
theorem d_M_hold_8 : decode b_M_hold 8 = .ok (.aload_n 0, 1) := by decide +kernel
theorem d_M_hold_9 : decode b_M_hold 9 = .ok (.getfield 23, 3) := by decide +kernel
theorem d_M_hold_12 : decode b_M_hold 12 = .ok (.iconst 0, 1) := by decide +kernel
theorem d_M_hold_13 : decode b_M_hold 13 = .ok (.iaload, 1) := by decide +kernel
theorem d_M_hold_14 : decode b_M_hold 14 = .ok (.bipush 9, 2) := by decide +kernel
theorem d_M_hold_16 : decode b_M_hold 16 = .ok (.if_icmp .ne 7, 3) := by decide +kernel
theorem d_M_hold_19 : decode b_M_hold 19 = .ok (.iconst 1, 1) := by decide +kernel
theorem d_M_hold_20 : decode b_M_hold 20 = .ok (.goto 4, 3) := by decide +kernel
theorem d_M_hold_23 : decode b_M_hold 23 = .ok (.iconst 0, 1) := by decide +kernel
theorem d_M_hold_24 : decode b_M_hold 24 = .ok (.iconst 0, 1) := by decide +kernel
theorem d_M_hold_25 : decode b_M_hold 25 = .ok (.invokevirtual 117, 3) := by decide +kernel
theorem d_M_hold_28 : decode b_M_hold 28 = .ok (.ifCond .eq 5, 3) := by decide +kernel
theorem d_M_hold_31 : decode b_M_hold 31 = .ok (.iconst 0, 1) := by decide +kernel
theorem d_M_hold_32 : decode b_M_hold 32 = .ok (.ireturn, 1) := by decide +kernel
theorem d_M_hold_33 : decode b_M_hold 33 = .ok (.aload_n 0, 1) := by decide +kernel
theorem d_M_hold_34 : decode b_M_hold 34 = .ok (.getfield 23, 3) := by decide +kernel
theorem d_M_hold_37 : decode b_M_hold 37 = .ok (.iconst 0, 1) := by decide +kernel
theorem d_M_hold_38 : decode b_M_hold 38 = .ok (.dup2, 1) := by decide +kernel
theorem d_M_hold_39 : decode b_M_hold 39 = .ok (.iaload, 1) := by decide +kernel
theorem d_M_hold_40 : decode b_M_hold 40 = .ok (.iconst 1, 1) := by decide +kernel
theorem d_M_hold_41 : decode b_M_hold 41 = .ok (.iadd, 1) := by decide +kernel
theorem d_M_hold_42 : decode b_M_hold 42 = .ok (.iastore, 1) := by decide +kernel
theorem d_M_hold_43 : decode b_M_hold 43 = .ok (.aload_n 0, 1) := by decide +kernel
theorem d_M_hold_44 : decode b_M_hold 44 = .ok (.getfield 17, 3) := by decide +kernel
theorem d_M_hold_47 : decode b_M_hold 47 = .ok (.iconst 0, 1) := by decide +kernel
theorem d_M_hold_48 : decode b_M_hold 48 = .ok (.iaload, 1) := by decide +kernel
theorem d_M_hold_49 : decode b_M_hold 49 = .ok (.ireturn, 1) := by decide +kernel
theorem d_M_placeOf_0 : decode b_M_placeOf 0 = .ok (.iconst (-1), 1) := by decide +kernel
theorem d_M_placeOf_1 : decode b_M_placeOf 1 = .ok (.istore_n 2, 1) := by decide +kernel
theorem d_M_placeOf_2 : decode b_M_placeOf 2 = .ok (.iconst 0, 1) := by decide +kernel
theorem d_M_placeOf_3 : decode b_M_placeOf 3 = .ok (.istore_n 3, 1) := by decide +kernel
theorem d_M_placeOf_4 : decode b_M_placeOf 4 = .ok (.iload_n 3, 1) := by decide +kernel
theorem d_M_placeOf_5 : decode b_M_placeOf 5 = .ok (.aload_n 0, 1) := by decide +kernel
theorem d_M_placeOf_6 : decode b_M_placeOf 6 = .ok (.getfield 121, 3) := by decide +kernel
theorem d_M_placeOf_9 : decode b_M_placeOf 9 = .ok (.if_icmp .ge 25, 3) := by decide +kernel
theorem d_M_placeOf_12 : decode b_M_placeOf 12 = .ok (.aload_n 0, 1) := by decide +kernel
theorem d_M_placeOf_13 : decode b_M_placeOf 13 = .ok (.getfield 17, 3) := by decide +kernel
theorem d_M_placeOf_16 : decode b_M_placeOf 16 = .ok (.iload_n 3, 1) := by decide +kernel
theorem d_M_placeOf_17 : decode b_M_placeOf 17 = .ok (.iaload, 1) := by decide +kernel
theorem d_M_placeOf_18 : decode b_M_placeOf 18 = .ok (.iload_n 1, 1) := by decide +kernel
theorem d_M_placeOf_19 : decode b_M_placeOf 19 = .ok (.if_icmp .ne 7, 3) := by decide +kernel
theorem d_M_placeOf_22 : decode b_M_placeOf 22 = .ok (.iload_n 3, 1) := by decide +kernel
theorem d_M_placeOf_23 : decode b_M_placeOf 23 = .ok (.goto 4, 3) := by decide +kernel
theorem d_M_placeOf_26 : decode b_M_placeOf 26 = .ok (.iload_n 2, 1) := by decide +kernel
theorem d_M_placeOf_27 : decode b_M_placeOf 27 = .ok (.istore_n 2, 1) := by decide +kernel
theorem d_M_placeOf_28 : decode b_M_placeOf 28 = .ok (.iinc 3 1, 3) := by decide +kernel
theorem d_M_placeOf_31 : decode b_M_placeOf 31 = .ok (.goto (-27), 3) := by decide +kernel
theorem d_M_placeOf_34 : decode b_M_placeOf 34 = .ok (.iload_n 2, 1) := by decide +kernel
theorem d_M_placeOf_35 : decode b_M_placeOf 35 = .ok (.ireturn, 1) := by decide +kernel
theorem d_M_release_0 : decode b_M_release 0 = .ok (.aload_n 0, 1) := by decide +kernel
theorem d_M_release_1 : decode b_M_release 1 = .ok (.iload_n 1, 1) := by decide +kernel
theorem d_M_release_2 : decode b_M_release 2 = .ok (.invokevirtual 135, 3) := by decide +kernel
theorem d_M_release_5 : decode b_M_release 5 = .ok (.istore_n 2, 1) := by decide +kernel
theorem d_M_release_6 : decode b_M_release 6 = .ok (.aload_n 0, 1) := by decide +kernel
theorem d_M_release_7 : decode b_M_release 7 = .ok (.iload_n 2, 1) := by decide +kernel
theorem d_M_release_8 : decode b_M_release 8 = .ok (.ifCond .lt 12, 3) := by decide +kernel
theorem d_M_release_11 : decode b_M_release 11 = .ok (.aload_n 0, 1) := by decide +kernel
theorem d_M_release_12 : decode b_M_release 12 = .ok (.getfield 23, 3) := by decide +kernel
theorem d_M_release_15 : decode b_M_release 15 = .ok (.iload_n 2, 1) := by decide +kernel
theorem d_M_release_16 : decode b_M_release 16 = .ok (.iaload, 1) := by decide +kernel
theorem d_M_release_17 : decode b_M_release 17 = .ok (.ifCond .ne 7, 3) := by decide +kernel
theorem d_M_release_20 : decode b_M_release 20 = .ok (.iconst 1, 1) := by decide +kernel
theorem d_M_release_21 : decode b_M_release 21 = .ok (.goto 4, 3) := by decide +kernel
theorem d_M_release_24 : decode b_M_release 24 = .ok (.iconst 0, 1) := by decide +kernel
theorem d_M_release_25 : decode b_M_release 25 = .ok (.iconst 0, 1) := by decide +kernel
theorem d_M_release_26 : decode b_M_release 26 = .ok (.invokevirtual 117, 3) := by decide +kernel
theorem d_M_release_29 : decode b_M_release 29 = .ok (.ifCond .eq 5, 3) := by decide +kernel
theorem d_M_release_32 : decode b_M_release 32 = .ok (.iconst 0, 1) := by decide +kernel
theorem d_M_release_33 : decode b_M_release 33 = .ok (.ireturn, 1) := by decide +kernel
theorem d_M_release_34 : decode b_M_release 34 = .ok (.aload_n 0, 1) := by decide +kernel
theorem d_M_release_35 : decode b_M_release 35 = .ok (.getfield 23, 3) := by decide +kernel
theorem d_M_release_38 : decode b_M_release 38 = .ok (.iload_n 2, 1) := by decide +kernel
theorem d_M_release_39 : decode b_M_release 39 = .ok (.dup2, 1) := by decide +kernel
theorem d_M_release_40 : decode b_M_release 40 = .ok (.iaload, 1) := by decide +kernel
theorem d_M_release_41 : decode b_M_release 41 = .ok (.iconst 1, 1) := by decide +kernel
theorem d_M_release_42 : decode b_M_release 42 = .ok (.isub, 1) := by decide +kernel
theorem d_M_release_43 : decode b_M_release 43 = .ok (.iastore, 1) := by decide +kernel
theorem d_M_release_44 : decode b_M_release 44 = .ok (.iload_n 2, 1) := by decide +kernel
theorem d_M_release_45 : decode b_M_release 45 = .ok (.ifCond .eq 12, 3) := by decide +kernel
theorem d_M_release_48 : decode b_M_release 48 = .ok (.aload_n 0, 1) := by decide +kernel
theorem d_M_release_49 : decode b_M_release 49 = .ok (.getfield 23, 3) := by decide +kernel
theorem d_M_release_52 : decode b_M_release 52 = .ok (.iload_n 2, 1) := by decide +kernel
theorem d_M_release_53 : decode b_M_release 53 = .ok (.iaload, 1) := by decide +kernel
theorem d_M_release_54 : decode b_M_release 54 = .ok (.ifCond .le 5, 3) := by decide +kernel
theorem d_M_release_57 : decode b_M_release 57 = .ok (.iconst 1, 1) := by decide +kernel
theorem d_M_release_58 : decode b_M_release 58 = .ok (.ireturn, 1) := by decide +kernel
theorem d_M_release_59 : decode b_M_release 59 = .ok (.iload_n 2, 1) := by decide +kernel
theorem d_M_release_60 : decode b_M_release 60 = .ok (.istore_n 3, 1) := by decide +kernel
theorem d_M_release_61 : decode b_M_release 61 = .ok (.iload_n 3, 1) := by decide +kernel
theorem d_M_release_62 : decode b_M_release 62 = .ok (.iconst 1, 1) := by decide +kernel
theorem d_M_release_63 : decode b_M_release 63 = .ok (.iadd, 1) := by decide +kernel
theorem d_M_release_64 : decode b_M_release 64 = .ok (.aload_n 0, 1) := by decide +kernel
theorem d_M_release_65 : decode b_M_release 65 = .ok (.getfield 121, 3) := by decide +kernel
theorem d_M_release_68 : decode b_M_release 68 = .ok (.if_icmp .ge 17, 3) := by decide +kernel
theorem d_M_release_71 : decode b_M_release 71 = .ok (.aload_n 0, 1) := by decide +kernel
theorem d_M_release_72 : decode b_M_release 72 = .ok (.iload_n 3, 1) := by decide +kernel
theorem d_M_release_73 : decode b_M_release 73 = .ok (.iconst 1, 1) := by decide +kernel
theorem d_M_release_74 : decode b_M_release 74 = .ok (.iadd, 1) := by decide +kernel
theorem d_M_release_75 : decode b_M_release 75 = .ok (.iload_n 3, 1) := by decide +kernel
theorem d_M_release_76 : decode b_M_release 76 = .ok (.invokevirtual 124, 3) := by decide +kernel
theorem d_M_release_79 : decode b_M_release 79 = .ok (.iinc 3 1, 3) := by decide +kernel
theorem d_M_release_82 : decode b_M_release 82 = .ok (.goto (-21), 3) := by decide +kernel
theorem d_M_release_85 : decode b_M_release 85 = .ok (.aload_n 0, 1) := by decide +kernel
theorem d_M_release_86 : decode b_M_release 86 = .ok (.dup, 1) := by decide +kernel
theorem d_M_release_87 : decode b_M_release 87 = .ok (.getfield 121, 3) := by decide +kernel
theorem d_M_release_90 : decode b_M_release 90 = .ok (.iconst 1, 1) := by decide +kernel
theorem d_M_release_91 : decode b_M_release 91 = .ok (.isub, 1) := by decide +kernel
theorem d_M_release_92 : decode b_M_release 92 = .ok (.putfield 121, 3) := by decide +kernel
theorem d_M_release_95 : decode b_M_release 95 = .ok (.iconst 0, 1) := by decide +kernel
theorem d_M_release_96 : decode b_M_release 96 = .ok (.ireturn, 1) := by decide +kernel
theorem d_M_begin_0 : decode b_M_begin 0 = .ok (.aload_n 0, 1) := by decide +kernel
theorem d_M_begin_1 : decode b_M_begin 1 = .ok (.getfield 139, 3) := by decide +kernel
theorem d_M_begin_4 : decode b_M_begin 4 = .ok (.istore 4, 2) := by decide +kernel
theorem d_M_begin_6 : decode b_M_begin 6 = .ok (.aload_n 0, 1) := by decide +kernel
theorem d_M_begin_7 : decode b_M_begin 7 = .ok (.dup, 1) := by decide +kernel
theorem d_M_begin_8 : decode b_M_begin 8 = .ok (.getfield 139, 3) := by decide +kernel
theorem d_M_begin_11 : decode b_M_begin 11 = .ok (.iconst 1, 1) := by decide +kernel
theorem d_M_begin_12 : decode b_M_begin 12 = .ok (.iadd, 1) := by decide +kernel
theorem d_M_begin_13 : decode b_M_begin 13 = .ok (.putfield 139, 3) := by decide +kernel
theorem d_M_begin_16 : decode b_M_begin 16 = .ok (.aload_n 0, 1) := by decide +kernel
theorem d_M_begin_17 : decode b_M_begin 17 = .ok (.getfield 38, 3) := by decide +kernel
theorem d_M_begin_20 : decode b_M_begin 20 = .ok (.iload 4, 2) := by decide +kernel
theorem d_M_begin_22 : decode b_M_begin 22 = .ok (.iload_n 2, 1) := by decide +kernel
theorem d_M_begin_23 : decode b_M_begin 23 = .ok (.iastore, 1) := by decide +kernel
theorem d_M_begin_24 : decode b_M_begin 24 = .ok (.aload_n 0, 1) := by decide +kernel
theorem d_M_begin_25 : decode b_M_begin 25 = .ok (.getfield 41, 3) := by decide +kernel
theorem d_M_begin_28 : decode b_M_begin 28 = .ok (.iload 4, 2) := by decide +kernel
theorem d_M_begin_30 : decode b_M_begin 30 = .ok (.iload_n 3, 1) := by decide +kernel
theorem d_M_begin_31 : decode b_M_begin 31 = .ok (.iastore, 1) := by decide +kernel
theorem d_M_begin_32 : decode b_M_begin 32 = .ok (.iload_n 2, 1) := by decide +kernel
theorem d_M_begin_33 : decode b_M_begin 33 = .ok (.istore 5, 2) := by decide +kernel
theorem d_M_begin_35 : decode b_M_begin 35 = .ok (.aload_n 0, 1) := by decide +kernel
theorem d_M_begin_36 : decode b_M_begin 36 = .ok (.getfield 47, 3) := by decide +kernel
theorem d_M_begin_39 : decode b_M_begin 39 = .ok (.iload 4, 2) := by decide +kernel
theorem d_M_begin_41 : decode b_M_begin 41 = .ok (.sipush 10000, 3) := by decide +kernel
theorem d_M_begin_44 : decode b_M_begin 44 = .ok (.iastore, 1) := by decide +kernel
theorem d_M_begin_45 : decode b_M_begin 45 = .ok (.iload 5, 2) := by decide +kernel
theorem d_M_begin_47 : decode b_M_begin 47 = .ok (.aload_n 0, 1) := by decide +kernel
theorem d_M_begin_48 : decode b_M_begin 48 = .ok (.getfield 20, 3) := by decide +kernel
theorem d_M_begin_51 : decode b_M_begin 51 = .ok (.iload_n 1, 1) := by decide +kernel
theorem d_M_begin_52 : decode b_M_begin 52 = .ok (.iaload, 1) := by decide +kernel
theorem d_M_begin_53 : decode b_M_begin 53 = .ok (.if_icmp .ge 94, 3) := by decide +kernel
theorem d_M_begin_56 : decode b_M_begin 56 = .ok (.iload_n 3, 1) := by decide +kernel
theorem d_M_begin_57 : decode b_M_begin 57 = .ok (.ifCond .eq 33, 3) := by decide +kernel
theorem d_M_begin_60 : decode b_M_begin 60 = .ok (.aload_n 0, 1) := by decide +kernel
theorem d_M_begin_61 : decode b_M_begin 61 = .ok (.getfield 26, 3) := by decide +kernel
theorem d_M_begin_64 : decode b_M_begin 64 = .ok (.bipush 24, 2) := by decide +kernel
theorem d_M_begin_66 : decode b_M_begin 66 = .ok (.iload_n 1, 1) := by decide +kernel
theorem d_M_begin_67 : decode b_M_begin 67 = .ok (.imul, 1) := by decide +kernel
theorem d_M_begin_68 : decode b_M_begin 68 = .ok (.iload 5, 2) := by decide +kernel
theorem d_M_begin_70 : decode b_M_begin 70 = .ok (.iadd, 1) := by decide +kernel
theorem d_M_begin_71 : decode b_M_begin 71 = .ok (.laload, 1) := by decide +kernel
theorem d_M_begin_72 : decode b_M_begin 72 = .ok (.aload_n 0, 1) := by decide +kernel
theorem d_M_begin_73 : decode b_M_begin 73 = .ok (.getfield 26, 3) := by decide +kernel
theorem d_M_begin_76 : decode b_M_begin 76 = .ok (.bipush 24, 2) := by decide +kernel
theorem d_M_begin_78 : decode b_M_begin 78 = .ok (.iload_n 1, 1) := by decide +kernel
theorem d_M_begin_79 : decode b_M_begin 79 = .ok (.imul, 1) := by decide +kernel
theorem d_M_begin_80 : decode b_M_begin 80 = .ok (.iload_n 2, 1) := by decide +kernel
theorem d_M_begin_81 : decode b_M_begin 81 = .ok (.iadd, 1) := by decide +kernel
theorem d_M_begin_82 : decode b_M_begin 82 = .ok (.laload, 1) := by decide +kernel
theorem d_M_begin_83 : decode b_M_begin 83 = .ok (.invokestatic 142, 3) := by decide +kernel
theorem d_M_begin_86 : decode b_M_begin 86 = .ok (.iload_n 3, 1) := by decide +kernel
theorem d_M_begin_87 : decode b_M_begin 87 = .ok (.if_icmp .lt 60, 3) := by decide +kernel
theorem d_M_begin_90 : decode b_M_begin 90 = .ok (.aload_n 0, 1) := by decide +kernel
theorem d_M_begin_91 : decode b_M_begin 91 = .ok (.getfield 47, 3) := by decide +kernel
theorem d_M_begin_94 : decode b_M_begin 94 = .ok (.iload 4, 2) := by decide +kernel
theorem d_M_begin_96 : decode b_M_begin 96 = .ok (.aload_n 0, 1) := by decide +kernel
theorem d_M_begin_97 : decode b_M_begin 97 = .ok (.getfield 29, 3) := by decide +kernel
theorem d_M_begin_100 : decode b_M_begin 100 = .ok (.bipush 24, 2) := by decide +kernel
theorem d_M_begin_102 : decode b_M_begin 102 = .ok (.iload_n 1, 1) := by decide +kernel
theorem d_M_begin_103 : decode b_M_begin 103 = .ok (.imul, 1) := by decide +kernel
theorem d_M_begin_104 : decode b_M_begin 104 = .ok (.iload 5, 2) := by decide +kernel
theorem d_M_begin_106 : decode b_M_begin 106 = .ok (.iadd, 1) := by decide +kernel
theorem d_M_begin_107 : decode b_M_begin 107 = .ok (.iaload, 1) := by decide +kernel
theorem d_M_begin_108 : decode b_M_begin 108 = .ok (.aload_n 0, 1) := by decide +kernel
theorem d_M_begin_109 : decode b_M_begin 109 = .ok (.getfield 47, 3) := by decide +kernel
theorem d_M_begin_112 : decode b_M_begin 112 = .ok (.iload 4, 2) := by decide +kernel
theorem d_M_begin_114 : decode b_M_begin 114 = .ok (.iaload, 1) := by decide +kernel
theorem d_M_begin_115 : decode b_M_begin 115 = .ok (.if_icmp .ge 18, 3) := by decide +kernel
theorem d_M_begin_118 : decode b_M_begin 118 = .ok (.aload_n 0, 1) := by decide +kernel
theorem d_M_begin_119 : decode b_M_begin 119 = .ok (.getfield 29, 3) := by decide +kernel
theorem d_M_begin_122 : decode b_M_begin 122 = .ok (.bipush 24, 2) := by decide +kernel
theorem d_M_begin_124 : decode b_M_begin 124 = .ok (.iload_n 1, 1) := by decide +kernel
theorem d_M_begin_125 : decode b_M_begin 125 = .ok (.imul, 1) := by decide +kernel
theorem d_M_begin_126 : decode b_M_begin 126 = .ok (.iload 5, 2) := by decide +kernel
theorem d_M_begin_128 : decode b_M_begin 128 = .ok (.iadd, 1) := by decide +kernel
theorem d_M_begin_129 : decode b_M_begin 129 = .ok (.iaload, 1) := by decide +kernel
theorem d_M_begin_130 : decode b_M_begin 130 = .ok (.goto 10, 3) := by decide +kernel
theorem d_M_begin_133 : decode b_M_begin 133 = .ok (.aload_n 0, 1) := by decide +kernel
theorem d_M_begin_134 : decode b_M_begin 134 = .ok (.getfield 47, 3) := by decide +kernel
theorem d_M_begin_137 : decode b_M_begin 137 = .ok (.iload 4, 2) := by decide +kernel
theorem d_M_begin_139 : decode b_M_begin 139 = .ok (.iaload, 1) := by decide +kernel
theorem d_M_begin_140 : decode b_M_begin 140 = .ok (.iastore, 1) := by decide +kernel
theorem d_M_begin_141 : decode b_M_begin 141 = .ok (.iinc 5 1, 3) := by decide +kernel
theorem d_M_begin_144 : decode b_M_begin 144 = .ok (.goto (-99), 3) := by decide +kernel
theorem d_M_begin_147 : decode b_M_begin 147 = .ok (.aload_n 0, 1) := by decide +kernel
theorem d_M_begin_148 : decode b_M_begin 148 = .ok (.getfield 44, 3) := by decide +kernel
theorem d_M_begin_151 : decode b_M_begin 151 = .ok (.iload 4, 2) := by decide +kernel
theorem d_M_begin_153 : decode b_M_begin 153 = .ok (.iload 5, 2) := by decide +kernel
theorem d_M_begin_155 : decode b_M_begin 155 = .ok (.iastore, 1) := by decide +kernel
theorem d_M_begin_156 : decode b_M_begin 156 = .ok (.aload_n 0, 1) := by decide +kernel
theorem d_M_begin_157 : decode b_M_begin 157 = .ok (.getfield 50, 3) := by decide +kernel
theorem d_M_begin_160 : decode b_M_begin 160 = .ok (.iload 4, 2) := by decide +kernel
theorem d_M_begin_162 : decode b_M_begin 162 = .ok (.lconst 0, 1) := by decide +kernel
theorem d_M_begin_163 : decode b_M_begin 163 = .ok (.lastore, 1) := by decide +kernel
theorem d_M_begin_164 : decode b_M_begin 164 = .ok (.iload_n 2, 1) := by decide +kernel
theorem d_M_begin_165 : decode b_M_begin 165 = .ok (.istore 6, 2) := by decide +kernel
theorem d_M_begin_167 : decode b_M_begin 167 = .ok (.iload 6, 2) := by decide +kernel
theorem d_M_begin_169 : decode b_M_begin 169 = .ok (.iload 5, 2) := by decide +kernel
theorem d_M_begin_171 : decode b_M_begin 171 = .ok (.if_icmp .ge 120, 3) := by decide +kernel
theorem d_M_begin_174 : decode b_M_begin 174 = .ok (.aload_n 0, 1) := by decide +kernel
theorem d_M_begin_175 : decode b_M_begin 175 = .ok (.getfield 50, 3) := by decide +kernel
theorem d_M_begin_178 : decode b_M_begin 178 = .ok (.iload 4, 2) := by decide +kernel
theorem d_M_begin_180 : decode b_M_begin 180 = .ok (.ldc2_w 146, 3) := by decide +kernel
theorem d_M_begin_183 : decode b_M_begin 183 = .ok (.aload_n 0, 1) := by decide +kernel
theorem d_M_begin_184 : decode b_M_begin 184 = .ok (.getfield 50, 3) := by decide +kernel
theorem d_M_begin_187 : decode b_M_begin 187 = .ok (.iload 4, 2) := by decide +kernel
theorem d_M_begin_189 : decode b_M_begin 189 = .ok (.laload, 1) := by decide +kernel
theorem d_M_begin_190 : decode b_M_begin 190 = .ok (.lmul, 1) := by decide +kernel
theorem d_M_begin_191 : decode b_M_begin 191 = .ok (.aload_n 0, 1) := by decide +kernel
theorem d_M_begin_192 : decode b_M_begin 192 = .ok (.getfield 29, 3) := by decide +kernel
theorem d_M_begin_195 : decode b_M_begin 195 = .ok (.bipush 24, 2) := by decide +kernel
theorem d_M_begin_197 : decode b_M_begin 197 = .ok (.iload_n 1, 1) := by decide +kernel
theorem d_M_begin_198 : decode b_M_begin 198 = .ok (.imul, 1) := by decide +kernel
theorem d_M_begin_199 : decode b_M_begin 199 = .ok (.iload 6, 2) := by decide +kernel
theorem d_M_begin_201 : decode b_M_begin 201 = .ok (.iadd, 1) := by decide +kernel
theorem d_M_begin_202 : decode b_M_begin 202 = .ok (.iaload, 1) := by decide +kernel
theorem d_M_begin_203 : decode b_M_begin 203 = .ok (.i2l, 1) := by decide +kernel
theorem d_M_begin_204 : decode b_M_begin 204 = .ok (.ladd, 1) := by decide +kernel
theorem d_M_begin_205 : decode b_M_begin 205 = .ok (.aload_n 0, 1) := by decide +kernel
theorem d_M_begin_206 : decode b_M_begin 206 = .ok (.getfield 47, 3) := by decide +kernel
theorem d_M_begin_209 : decode b_M_begin 209 = .ok (.iload 4, 2) := by decide +kernel
theorem d_M_begin_211 : decode b_M_begin 211 = .ok (.iaload, 1) := by decide +kernel
theorem d_M_begin_212 : decode b_M_begin 212 = .ok (.i2l, 1) := by decide +kernel
theorem d_M_begin_213 : decode b_M_begin 213 = .ok (.lsub, 1) := by decide +kernel
theorem d_M_begin_214 : decode b_M_begin 214 = .ok (.lastore, 1) := by decide +kernel
theorem d_M_begin_215 : decode b_M_begin 215 = .ok (.aload_n 0, 1) := by decide +kernel
theorem d_M_begin_216 : decode b_M_begin 216 = .ok (.getfield 26, 3) := by decide +kernel
theorem d_M_begin_219 : decode b_M_begin 219 = .ok (.bipush 24, 2) := by decide +kernel
theorem d_M_begin_221 : decode b_M_begin 221 = .ok (.iload_n 1, 1) := by decide +kernel
theorem d_M_begin_222 : decode b_M_begin 222 = .ok (.imul, 1) := by decide +kernel
theorem d_M_begin_223 : decode b_M_begin 223 = .ok (.iload 6, 2) := by decide +kernel
theorem d_M_begin_225 : decode b_M_begin 225 = .ok (.iadd, 1) := by decide +kernel
theorem d_M_begin_226 : decode b_M_begin 226 = .ok (.laload, 1) := by decide +kernel
theorem d_M_begin_227 : decode b_M_begin 227 = .ok (.invokestatic 93, 3) := by decide +kernel
theorem d_M_begin_230 : decode b_M_begin 230 = .ok (.istore 7, 2) := by decide +kernel
theorem d_M_begin_232 : decode b_M_begin 232 = .ok (.iload_n 3, 1) := by decide +kernel
theorem d_M_begin_233 : decode b_M_begin 233 = .ok (.istore 8, 2) := by decide +kernel
theorem d_M_begin_235 : decode b_M_begin 235 = .ok (.iload 8, 2) := by decide +kernel
theorem d_M_begin_237 : decode b_M_begin 237 = .ok (.iload 7, 2) := by decide +kernel
theorem d_M_begin_239 : decode b_M_begin 239 = .ok (.if_icmp .ge 46, 3) := by decide +kernel
theorem d_M_begin_242 : decode b_M_begin 242 = .ok (.aload_n 0, 1) := by decide +kernel
theorem d_M_begin_243 : decode b_M_begin 243 = .ok (.getfield 50, 3) := by decide +kernel
theorem d_M_begin_246 : decode b_M_begin 246 = .ok (.iload 4, 2) := by decide +kernel
theorem d_M_begin_248 : decode b_M_begin 248 = .ok (.ldc2_w 148, 3) := by decide +kernel
theorem d_M_begin_251 : decode b_M_begin 251 = .ok (.aload_n 0, 1) := by decide +kernel
theorem d_M_begin_252 : decode b_M_begin 252 = .ok (.getfield 50, 3) := by decide +kernel
theorem d_M_begin_255 : decode b_M_begin 255 = .ok (.iload 4, 2) := by decide +kernel
theorem d_M_begin_257 : decode b_M_begin 257 = .ok (.laload, 1) := by decide +kernel
theorem d_M_begin_258 : decode b_M_begin 258 = .ok (.lmul, 1) := by decide +kernel
theorem d_M_begin_259 : decode b_M_begin 259 = .ok (.aload_n 0, 1) := by decide +kernel
theorem d_M_begin_260 : decode b_M_begin 260 = .ok (.getfield 26, 3) := by decide +kernel
theorem d_M_begin_263 : decode b_M_begin 263 = .ok (.bipush 24, 2) := by decide +kernel
theorem d_M_begin_265 : decode b_M_begin 265 = .ok (.iload_n 1, 1) := by decide +kernel
theorem d_M_begin_266 : decode b_M_begin 266 = .ok (.imul, 1) := by decide +kernel
theorem d_M_begin_267 : decode b_M_begin 267 = .ok (.iload 6, 2) := by decide +kernel
theorem d_M_begin_269 : decode b_M_begin 269 = .ok (.iadd, 1) := by decide +kernel
theorem d_M_begin_270 : decode b_M_begin 270 = .ok (.laload, 1) := by decide +kernel
theorem d_M_begin_271 : decode b_M_begin 271 = .ok (.iload 8, 2) := by decide +kernel
theorem d_M_begin_273 : decode b_M_begin 273 = .ok (.invokestatic 107, 3) := by decide +kernel
theorem d_M_begin_276 : decode b_M_begin 276 = .ok (.i2l, 1) := by decide +kernel
theorem d_M_begin_277 : decode b_M_begin 277 = .ok (.ladd, 1) := by decide +kernel
theorem d_M_begin_278 : decode b_M_begin 278 = .ok (.lastore, 1) := by decide +kernel
theorem d_M_begin_279 : decode b_M_begin 279 = .ok (.iinc 8 1, 3) := by decide +kernel
theorem d_M_begin_282 : decode b_M_begin 282 = .ok (.goto (-47), 3) := by decide +kernel
theorem d_M_begin_285 : decode b_M_begin 285 = .ok (.iinc 6 1, 3) := by decide +kernel
theorem d_M_begin_288 : decode b_M_begin 288 = .ok (.goto (-121), 3) := by decide +kernel
theorem d_M_begin_291 : decode b_M_begin 291 = .ok (.return_, 1) := by decide +kernel
theorem d_M_same_0 : decode b_M_same 0 = .ok (.aload_n 0, 1) := by decide +kernel
theorem d_M_same_1 : decode b_M_same 1 = .ok (.getfield 44, 3) := by decide +kernel
theorem d_M_same_4 : decode b_M_same 4 = .ok (.iload_n 2, 1) := by decide +kernel
theorem d_M_same_5 : decode b_M_same 5 = .ok (.iaload, 1) := by decide +kernel
theorem d_M_same_6 : decode b_M_same 6 = .ok (.aload_n 0, 1) := by decide +kernel
theorem d_M_same_7 : decode b_M_same 7 = .ok (.getfield 38, 3) := by decide +kernel
theorem d_M_same_10 : decode b_M_same 10 = .ok (.iload_n 2, 1) := by decide +kernel
theorem d_M_same_11 : decode b_M_same 11 = .ok (.iaload, 1) := by decide +kernel
theorem d_M_same_12 : decode b_M_same 12 = .ok (.isub, 1) := by decide +kernel
theorem d_M_same_13 : decode b_M_same 13 = .ok (.istore 4, 2) := by decide +kernel
theorem d_M_same_15 : decode b_M_same 15 = .ok (.aload_n 0, 1) := by decide +kernel
theorem d_M_same_16 : decode b_M_same 16 = .ok (.getfield 50, 3) := by decide +kernel
theorem d_M_same_19 : decode b_M_same 19 = .ok (.iload_n 2, 1) := by decide +kernel
theorem d_M_same_20 : decode b_M_same 20 = .ok (.laload, 1) := by decide +kernel
theorem d_M_same_21 : decode b_M_same 21 = .ok (.aload_n 0, 1) := by decide +kernel
theorem d_M_same_22 : decode b_M_same 22 = .ok (.getfield 50, 3) := by decide +kernel
theorem d_M_same_25 : decode b_M_same 25 = .ok (.iload_n 3, 1) := by decide +kernel
theorem d_M_same_26 : decode b_M_same 26 = .ok (.laload, 1) := by decide +kernel
theorem d_M_same_27 : decode b_M_same 27 = .ok (.lcmp, 1) := by decide +kernel
theorem d_M_same_28 : decode b_M_same 28 = .ok (.ifCond .ne 21, 3) := by decide +kernel
theorem d_M_same_31 : decode b_M_same 31 = .ok (.iload 4, 2) := by decide +kernel
theorem d_M_same_33 : decode b_M_same 33 = .ok (.aload_n 0, 1) := by decide +kernel
theorem d_M_same_34 : decode b_M_same 34 = .ok (.getfield 44, 3) := by decide +kernel
theorem d_M_same_37 : decode b_M_same 37 = .ok (.iload_n 3, 1) := by decide +kernel
theorem d_M_same_38 : decode b_M_same 38 = .ok (.iaload, 1) := by decide +kernel
theorem d_M_same_39 : decode b_M_same 39 = .ok (.aload_n 0, 1) := by decide +kernel
theorem d_M_same_40 : decode b_M_same 40 = .ok (.getfield 38, 3) := by decide +kernel
theorem d_M_same_43 : decode b_M_same 43 = .ok (.iload_n 3, 1) := by decide +kernel
theorem d_M_same_44 : decode b_M_same 44 = .ok (.iaload, 1) := by decide +kernel
theorem d_M_same_45 : decode b_M_same 45 = .ok (.isub, 1) := by decide +kernel
theorem d_M_same_46 : decode b_M_same 46 = .ok (.if_icmp .eq 5, 3) := by decide +kernel
theorem d_M_same_49 : decode b_M_same 49 = .ok (.iconst 0, 1) := by decide +kernel
theorem d_M_same_50 : decode b_M_same 50 = .ok (.ireturn, 1) := by decide +kernel
theorem d_M_same_51 : decode b_M_same 51 = .ok (.iconst 0, 1) := by decide +kernel
theorem d_M_same_52 : decode b_M_same 52 = .ok (.istore 5, 2) := by decide +kernel
theorem d_M_same_54 : decode b_M_same 54 = .ok (.iload 5, 2) := by decide +kernel
theorem d_M_same_56 : decode b_M_same 56 = .ok (.iload 4, 2) := by decide +kernel
theorem d_M_same_58 : decode b_M_same 58 = .ok (.if_icmp .ge 177, 3) := by decide +kernel
theorem d_M_same_61 : decode b_M_same 61 = .ok (.bipush 24, 2) := by decide +kernel
theorem d_M_same_63 : decode b_M_same 63 = .ok (.iload_n 1, 1) := by decide +kernel
theorem d_M_same_64 : decode b_M_same 64 = .ok (.imul, 1) := by decide +kernel
theorem d_M_same_65 : decode b_M_same 65 = .ok (.aload_n 0, 1) := by decide +kernel
theorem d_M_same_66 : decode b_M_same 66 = .ok (.getfield 38, 3) := by decide +kernel
theorem d_M_same_69 : decode b_M_same 69 = .ok (.iload_n 2, 1) := by decide +kernel
theorem d_M_same_70 : decode b_M_same 70 = .ok (.iaload, 1) := by decide +kernel
theorem d_M_same_71 : decode b_M_same 71 = .ok (.iadd, 1) := by decide +kernel
theorem d_M_same_72 : decode b_M_same 72 = .ok (.iload 5, 2) := by decide +kernel
theorem d_M_same_74 : decode b_M_same 74 = .ok (.iadd, 1) := by decide +kernel
theorem d_M_same_75 : decode b_M_same 75 = .ok (.istore 6, 2) := by decide +kernel
theorem d_M_same_77 : decode b_M_same 77 = .ok (.bipush 24, 2) := by decide +kernel
theorem d_M_same_79 : decode b_M_same 79 = .ok (.iload_n 1, 1) := by decide +kernel
theorem d_M_same_80 : decode b_M_same 80 = .ok (.imul, 1) := by decide +kernel
theorem d_M_same_81 : decode b_M_same 81 = .ok (.aload_n 0, 1) := by decide +kernel
theorem d_M_same_82 : decode b_M_same 82 = .ok (.getfield 38, 3) := by decide +kernel
theorem d_M_same_85 : decode b_M_same 85 = .ok (.iload_n 3, 1) := by decide +kernel
theorem d_M_same_86 : decode b_M_same 86 = .ok (.iaload, 1) := by decide +kernel
theorem d_M_same_87 : decode b_M_same 87 = .ok (.iadd, 1) := by decide +kernel
theorem d_M_same_88 : decode b_M_same 88 = .ok (.iload 5, 2) := by decide +kernel
theorem d_M_same_90 : decode b_M_same 90 = .ok (.iadd, 1) := by decide +kernel
theorem d_M_same_91 : decode b_M_same 91 = .ok (.istore 7, 2) := by decide +kernel
theorem d_M_same_93 : decode b_M_same 93 = .ok (.aload_n 0, 1) := by decide +kernel
theorem d_M_same_94 : decode b_M_same 94 = .ok (.getfield 29, 3) := by decide +kernel
theorem d_M_same_97 : decode b_M_same 97 = .ok (.iload 6, 2) := by decide +kernel
theorem d_M_same_99 : decode b_M_same 99 = .ok (.iaload, 1) := by decide +kernel
theorem d_M_same_100 : decode b_M_same 100 = .ok (.aload_n 0, 1) := by decide +kernel
theorem d_M_same_101 : decode b_M_same 101 = .ok (.getfield 47, 3) := by decide +kernel
theorem d_M_same_104 : decode b_M_same 104 = .ok (.iload_n 2, 1) := by decide +kernel
theorem d_M_same_105 : decode b_M_same 105 = .ok (.iaload, 1) := by decide +kernel
theorem d_M_same_106 : decode b_M_same 106 = .ok (.isub, 1) := by decide +kernel
theorem d_M_same_107 : decode b_M_same 107 = .ok (.aload_n 0, 1) := by decide +kernel
theorem d_M_same_108 : decode b_M_same 108 = .ok (.getfield 29, 3) := by decide +kernel
theorem d_M_same_111 : decode b_M_same 111 = .ok (.iload 7, 2) := by decide +kernel
theorem d_M_same_113 : decode b_M_same 113 = .ok (.iaload, 1) := by decide +kernel
theorem d_M_same_114 : decode b_M_same 114 = .ok (.aload_n 0, 1) := by decide +kernel
theorem d_M_same_115 : decode b_M_same 115 = .ok (.getfield 47, 3) := by decide +kernel
theorem d_M_same_118 : decode b_M_same 118 = .ok (.iload_n 3, 1) := by decide +kernel
theorem d_M_same_119 : decode b_M_same 119 = .ok (.iaload, 1) := by decide +kernel
theorem d_M_same_120 : decode b_M_same 120 = .ok (.isub, 1) := by decide +kernel
theorem d_M_same_121 : decode b_M_same 121 = .ok (.if_icmp .eq 5, 3) := by decide +kernel
theorem d_M_same_124 : decode b_M_same 124 = .ok (.iconst 0, 1) := by decide +kernel
theorem d_M_same_125 : decode b_M_same 125 = .ok (.ireturn, 1) := by decide +kernel
theorem d_M_same_126 : decode b_M_same 126 = .ok (.iconst 0, 1) := by decide +kernel
theorem d_M_same_127 : decode b_M_same 127 = .ok (.istore 8, 2) := by decide +kernel
theorem d_M_same_129 : decode b_M_same 129 = .ok (.iload 8, 2) := by decide +kernel
theorem d_M_same_131 : decode b_M_same 131 = .ok (.bipush 8, 2) := by decide +kernel
theorem d_M_same_133 : decode b_M_same 133 = .ok (.if_icmp .ge 96, 3) := by decide +kernel
theorem d_M_same_136 : decode b_M_same 136 = .ok (.aload_n 0, 1) := by decide +kernel
theorem d_M_same_137 : decode b_M_same 137 = .ok (.getfield 41, 3) := by decide +kernel
theorem d_M_same_140 : decode b_M_same 140 = .ok (.iload_n 2, 1) := by decide +kernel
theorem d_M_same_141 : decode b_M_same 141 = .ok (.iaload, 1) := by decide +kernel
theorem d_M_same_142 : decode b_M_same 142 = .ok (.iload 8, 2) := by decide +kernel
theorem d_M_same_144 : decode b_M_same 144 = .ok (.iadd, 1) := by decide +kernel
theorem d_M_same_145 : decode b_M_same 145 = .ok (.bipush 8, 2) := by decide +kernel
theorem d_M_same_147 : decode b_M_same 147 = .ok (.if_icmp .ge 25, 3) := by decide +kernel
theorem d_M_same_150 : decode b_M_same 150 = .ok (.aload_n 0, 1) := by decide +kernel
theorem d_M_same_151 : decode b_M_same 151 = .ok (.getfield 26, 3) := by decide +kernel
theorem d_M_same_154 : decode b_M_same 154 = .ok (.iload 6, 2) := by decide +kernel
theorem d_M_same_156 : decode b_M_same 156 = .ok (.laload, 1) := by decide +kernel
theorem d_M_same_157 : decode b_M_same 157 = .ok (.aload_n 0, 1) := by decide +kernel
theorem d_M_same_158 : decode b_M_same 158 = .ok (.getfield 41, 3) := by decide +kernel
theorem d_M_same_161 : decode b_M_same 161 = .ok (.iload_n 2, 1) := by decide +kernel
theorem d_M_same_162 : decode b_M_same 162 = .ok (.iaload, 1) := by decide +kernel
theorem d_M_same_163 : decode b_M_same 163 = .ok (.iload 8, 2) := by decide +kernel
theorem d_M_same_165 : decode b_M_same 165 = .ok (.iadd, 1) := by decide +kernel
theorem d_M_same_166 : decode b_M_same 166 = .ok (.invokestatic 107, 3) := by decide +kernel
theorem d_M_same_169 : decode b_M_same 169 = .ok (.goto 4, 3) := by decide +kernel
theorem d_M_same_172 : decode b_M_same 172 = .ok (.iconst 0, 1) := by decide +kernel
theorem d_M_same_173 : decode b_M_same 173 = .ok (.istore 9, 2) := by decide +kernel
theorem d_M_same_175 : decode b_M_same 175 = .ok (.aload_n 0, 1) := by decide +kernel
theorem d_M_same_176 : decode b_M_same 176 = .ok (.getfield 41, 3) := by decide +kernel
theorem d_M_same_179 : decode b_M_same 179 = .ok (.iload_n 3, 1) := by decide +kernel
theorem d_M_same_180 : decode b_M_same 180 = .ok (.iaload, 1) := by decide +kernel
theorem d_M_same_181 : decode b_M_same 181 = .ok (.iload 8, 2) := by decide +kernel
theorem d_M_same_183 : decode b_M_same 183 = .ok (.iadd, 1) := by decide +kernel
theorem d_M_same_184 : decode b_M_same 184 = .ok (.bipush 8, 2) := by decide +kernel
theorem d_M_same_186 : decode b_M_same 186 = .ok (.if_icmp .ge 25, 3) := by decide +kernel
theorem d_M_same_189 : decode b_M_same 189 = .ok (.aload_n 0, 1) := by decide +kernel
theorem d_M_same_190 : decode b_M_same 190 = .ok (.getfield 26, 3) := by decide +kernel
theorem d_M_same_193 : decode b_M_same 193 = .ok (.iload 7, 2) := by decide +kernel
theorem d_M_same_195 : decode b_M_same 195 = .ok (.laload, 1) := by decide +kernel
theorem d_M_same_196 : decode b_M_same 196 = .ok (.aload_n 0, 1) := by decide +kernel
theorem d_M_same_197 : decode b_M_same 197 = .ok (.getfield 41, 3) := by decide +kernel
theorem d_M_same_200 : decode b_M_same 200 = .ok (.iload_n 3, 1) := by decide +kernel
theorem d_M_same_201 : decode b_M_same 201 = .ok (.iaload, 1) := by decide +kernel
theorem d_M_same_202 : decode b_M_same 202 = .ok (.iload 8, 2) := by decide +kernel
theorem d_M_same_204 : decode b_M_same 204 = .ok (.iadd, 1) := by decide +kernel
theorem d_M_same_205 : decode b_M_same 205 = .ok (.invokestatic 107, 3) := by decide +kernel
theorem d_M_same_208 : decode b_M_same 208 = .ok (.goto 4, 3) := by decide +kernel
theorem d_M_same_211 : decode b_M_same 211 = .ok (.iconst 0, 1) := by decide +kernel
theorem d_M_same_212 : decode b_M_same 212 = .ok (.istore 10, 2) := by decide +kernel
theorem d_M_same_214 : decode b_M_same 214 = .ok (.iload 9, 2) := by decide +kernel
theorem d_M_same_216 : decode b_M_same 216 = .ok (.iload 10, 2) := by decide +kernel
theorem d_M_same_218 : decode b_M_same 218 = .ok (.if_icmp .eq 5, 3) := by decide +kernel
theorem d_M_same_221 : decode b_M_same 221 = .ok (.iconst 0, 1) := by decide +kernel
theorem d_M_same_222 : decode b_M_same 222 = .ok (.ireturn, 1) := by decide +kernel
theorem d_M_same_223 : decode b_M_same 223 = .ok (.iinc 8 1, 3) := by decide +kernel
theorem d_M_same_226 : decode b_M_same 226 = .ok (.goto (-97), 3) := by decide +kernel
theorem d_M_same_229 : decode b_M_same 229 = .ok (.iinc 5 1, 3) := by decide +kernel
theorem d_M_same_232 : decode b_M_same 232 = .ok (.goto (-178), 3) := by decide +kernel
theorem d_M_same_235 : decode b_M_same 235 = .ok (.iconst 1, 1) := by decide +kernel
theorem d_M_same_236 : decode b_M_same 236 = .ok (.ireturn, 1) := by decide +kernel
theorem d_M_followers_0 : decode b_M_followers 0 = .ok (.iconst 0, 1) := by decide +kernel
theorem d_M_followers_1 : decode b_M_followers 1 = .ok (.istore_n 3, 1) := by decide +kernel
theorem d_M_followers_2 : decode b_M_followers 2 = .ok (.iconst 0, 1) := by decide +kernel
theorem d_M_followers_3 : decode b_M_followers 3 = .ok (.istore 4, 2) := by decide +kernel
theorem d_M_followers_5 : decode b_M_followers 5 = .ok (.aload_n 0, 1) := by decide +kernel
theorem d_M_followers_6 : decode b_M_followers 6 = .ok (.getfield 38, 3) := by decide +kernel
theorem d_M_followers_9 : decode b_M_followers 9 = .ok (.iload_n 2, 1) := by decide +kernel
theorem d_M_followers_10 : decode b_M_followers 10 = .ok (.iaload, 1) := by decide +kernel
theorem d_M_followers_11 : decode b_M_followers 11 = .ok (.istore 5, 2) := by decide +kernel
theorem d_M_followers_13 : decode b_M_followers 13 = .ok (.iload 5, 2) := by decide +kernel
theorem d_M_followers_15 : decode b_M_followers 15 = .ok (.aload_n 0, 1) := by decide +kernel
theorem d_M_followers_16 : decode b_M_followers 16 = .ok (.getfield 44, 3) := by decide +kernel
theorem d_M_followers_19 : decode b_M_followers 19 = .ok (.iload_n 2, 1) := by decide +kernel
theorem d_M_followers_20 : decode b_M_followers 20 = .ok (.iaload, 1) := by decide +kernel
theorem d_M_followers_21 : decode b_M_followers 21 = .ok (.if_icmp .ge 66, 3) := by decide +kernel
theorem d_M_followers_24 : decode b_M_followers 24 = .ok (.aload_n 0, 1) := by decide +kernel
theorem d_M_followers_25 : decode b_M_followers 25 = .ok (.getfield 41, 3) := by decide +kernel
theorem d_M_followers_28 : decode b_M_followers 28 = .ok (.iload_n 2, 1) := by decide +kernel
theorem d_M_followers_29 : decode b_M_followers 29 = .ok (.iaload, 1) := by decide +kernel
theorem d_M_followers_30 : decode b_M_followers 30 = .ok (.bipush 8, 2) := by decide +kernel
theorem d_M_followers_32 : decode b_M_followers 32 = .ok (.if_icmp .ge 27, 3) := by decide +kernel
theorem d_M_followers_35 : decode b_M_followers 35 = .ok (.aload_n 0, 1) := by decide +kernel
theorem d_M_followers_36 : decode b_M_followers 36 = .ok (.getfield 26, 3) := by decide +kernel
theorem d_M_followers_39 : decode b_M_followers 39 = .ok (.bipush 24, 2) := by decide +kernel
theorem d_M_followers_41 : decode b_M_followers 41 = .ok (.iload_n 1, 1) := by decide +kernel
theorem d_M_followers_42 : decode b_M_followers 42 = .ok (.imul, 1) := by decide +kernel
theorem d_M_followers_43 : decode b_M_followers 43 = .ok (.iload 5, 2) := by decide +kernel
theorem d_M_followers_45 : decode b_M_followers 45 = .ok (.iadd, 1) := by decide +kernel
theorem d_M_followers_46 : decode b_M_followers 46 = .ok (.laload, 1) := by decide +kernel
theorem d_M_followers_47 : decode b_M_followers 47 = .ok (.aload_n 0, 1) := by decide +kernel
theorem d_M_followers_48 : decode b_M_followers 48 = .ok (.getfield 41, 3) := by decide +kernel
end
section
theorem d_M_followers_51 : decode b_M_followers 51 = .ok (.iload_n 2, 1) := by decide +kernel
theorem d_M_followers_52 : decode b_M_followers 52 = .ok (.iaload, 1) := by decide +kernel
theorem d_M_followers_53 : decode b_M_followers 53 = .ok (.invokestatic 107, 3) := by decide +kernel
theorem d_M_followers_56 : decode b_M_followers 56 = .ok (.goto 4, 3) := by decide +kernel
theorem d_M_followers_59 : decode b_M_followers 59 = .ok (.iconst 0, 1) := by decide +kernel
theorem d_M_followers_60 : decode b_M_followers 60 = .ok (.istore 6, 2) := by decide +kernel
theorem d_M_followers_62 : decode b_M_followers 62 = .ok (.iload 6, 2) := by decide +kernel
theorem d_M_followers_64 : decode b_M_followers 64 = .ok (.iload 4, 2) := by decide +kernel
theorem d_M_followers_66 : decode b_M_followers 66 = .ok (.if_icmp .le 9, 3) := by decide +kernel
theorem d_M_followers_69 : decode b_M_followers 69 = .ok (.iload_n 3, 1) := by decide +kernel
theorem d_M_followers_70 : decode b_M_followers 70 = .ok (.iconst 1, 1) := by decide +kernel
theorem d_M_followers_71 : decode b_M_followers 71 = .ok (.iadd, 1) := by decide +kernel
theorem d_M_followers_72 : decode b_M_followers 72 = .ok (.goto 4, 3) := by decide +kernel
theorem d_M_followers_75 : decode b_M_followers 75 = .ok (.iload_n 3, 1) := by decide +kernel
theorem d_M_followers_76 : decode b_M_followers 76 = .ok (.istore_n 3, 1) := by decide +kernel
theorem d_M_followers_77 : decode b_M_followers 77 = .ok (.iload 6, 2) := by decide +kernel
theorem d_M_followers_79 : decode b_M_followers 79 = .ok (.istore 4, 2) := by decide +kernel
theorem d_M_followers_81 : decode b_M_followers 81 = .ok (.iinc 5 1, 3) := by decide +kernel
theorem d_M_followers_84 : decode b_M_followers 84 = .ok (.goto (-71), 3) := by decide +kernel
theorem d_M_followers_87 : decode b_M_followers 87 = .ok (.iload_n 3, 1) := by decide +kernel
theorem d_M_followers_88 : decode b_M_followers 88 = .ok (.ireturn, 1) := by decide +kernel
theorem d_M_count_0 : decode b_M_count 0 = .ok (.aload_n 0, 1) := by decide +kernel
theorem d_M_count_1 : decode b_M_count 1 = .ok (.iconst 0, 1) := by decide +kernel
theorem d_M_count_2 : decode b_M_count 2 = .ok (.putfield 139, 3) := by decide +kernel
theorem d_M_count_5 : decode b_M_count 5 = .ok (.iconst 0, 1) := by decide +kernel
theorem d_M_count_6 : decode b_M_count 6 = .ok (.istore_n 2, 1) := by decide +kernel
theorem d_M_count_7 : decode b_M_count 7 = .ok (.iload_n 2, 1) := by decide +kernel
theorem d_M_count_8 : decode b_M_count 8 = .ok (.aload_n 0, 1) := by decide +kernel
theorem d_M_count_9 : decode b_M_count 9 = .ok (.getfield 20, 3) := by decide +kernel
theorem d_M_count_12 : decode b_M_count 12 = .ok (.iload_n 1, 1) := by decide +kernel
theorem d_M_count_13 : decode b_M_count 13 = .ok (.iaload, 1) := by decide +kernel
theorem d_M_count_14 : decode b_M_count 14 = .ok (.if_icmp .ge 83, 3) := by decide +kernel
theorem d_M_count_17 : decode b_M_count 17 = .ok (.iload_n 2, 1) := by decide +kernel
theorem d_M_count_18 : decode b_M_count 18 = .ok (.ifCond .ne 7, 3) := by decide +kernel
theorem d_M_count_21 : decode b_M_count 21 = .ok (.iconst (-1), 1) := by decide +kernel
theorem d_M_count_22 : decode b_M_count 22 = .ok (.goto 30, 3) := by decide +kernel
theorem d_M_count_25 : decode b_M_count 25 = .ok (.aload_n 0, 1) := by decide +kernel
theorem d_M_count_26 : decode b_M_count 26 = .ok (.getfield 26, 3) := by decide +kernel
theorem d_M_count_29 : decode b_M_count 29 = .ok (.bipush 24, 2) := by decide +kernel
theorem d_M_count_31 : decode b_M_count 31 = .ok (.iload_n 1, 1) := by decide +kernel
theorem d_M_count_32 : decode b_M_count 32 = .ok (.imul, 1) := by decide +kernel
theorem d_M_count_33 : decode b_M_count 33 = .ok (.iload_n 2, 1) := by decide +kernel
theorem d_M_count_34 : decode b_M_count 34 = .ok (.iadd, 1) := by decide +kernel
theorem d_M_count_35 : decode b_M_count 35 = .ok (.iconst 1, 1) := by decide +kernel
theorem d_M_count_36 : decode b_M_count 36 = .ok (.isub, 1) := by decide +kernel
theorem d_M_count_37 : decode b_M_count 37 = .ok (.laload, 1) := by decide +kernel
theorem d_M_count_38 : decode b_M_count 38 = .ok (.aload_n 0, 1) := by decide +kernel
theorem d_M_count_39 : decode b_M_count 39 = .ok (.getfield 26, 3) := by decide +kernel
theorem d_M_count_42 : decode b_M_count 42 = .ok (.bipush 24, 2) := by decide +kernel
theorem d_M_count_44 : decode b_M_count 44 = .ok (.iload_n 1, 1) := by decide +kernel
theorem d_M_count_45 : decode b_M_count 45 = .ok (.imul, 1) := by decide +kernel
theorem d_M_count_46 : decode b_M_count 46 = .ok (.iload_n 2, 1) := by decide +kernel
theorem d_M_count_47 : decode b_M_count 47 = .ok (.iadd, 1) := by decide +kernel
theorem d_M_count_48 : decode b_M_count 48 = .ok (.laload, 1) := by decide +kernel
theorem d_M_count_49 : decode b_M_count 49 = .ok (.invokestatic 142, 3) := by decide +kernel
theorem d_M_count_52 : decode b_M_count 52 = .ok (.istore_n 3, 1) := by decide +kernel
theorem d_M_count_53 : decode b_M_count 53 = .ok (.iload_n 3, 1) := by decide +kernel
theorem d_M_count_54 : decode b_M_count 54 = .ok (.iconst 1, 1) := by decide +kernel
theorem d_M_count_55 : decode b_M_count 55 = .ok (.iadd, 1) := by decide +kernel
theorem d_M_count_56 : decode b_M_count 56 = .ok (.istore 4, 2) := by decide +kernel
theorem d_M_count_58 : decode b_M_count 58 = .ok (.iload 4, 2) := by decide +kernel
theorem d_M_count_60 : decode b_M_count 60 = .ok (.aload_n 0, 1) := by decide +kernel
theorem d_M_count_61 : decode b_M_count 61 = .ok (.getfield 26, 3) := by decide +kernel
theorem d_M_count_64 : decode b_M_count 64 = .ok (.bipush 24, 2) := by decide +kernel
theorem d_M_count_66 : decode b_M_count 66 = .ok (.iload_n 1, 1) := by decide +kernel
theorem d_M_count_67 : decode b_M_count 67 = .ok (.imul, 1) := by decide +kernel
theorem d_M_count_68 : decode b_M_count 68 = .ok (.iload_n 2, 1) := by decide +kernel
theorem d_M_count_69 : decode b_M_count 69 = .ok (.iadd, 1) := by decide +kernel
theorem d_M_count_70 : decode b_M_count 70 = .ok (.laload, 1) := by decide +kernel
theorem d_M_count_71 : decode b_M_count 71 = .ok (.invokestatic 93, 3) := by decide +kernel
theorem d_M_count_74 : decode b_M_count 74 = .ok (.if_icmp .gt 17, 3) := by decide +kernel
theorem d_M_count_77 : decode b_M_count 77 = .ok (.aload_n 0, 1) := by decide +kernel
theorem d_M_count_78 : decode b_M_count 78 = .ok (.iload_n 1, 1) := by decide +kernel
theorem d_M_count_79 : decode b_M_count 79 = .ok (.iload_n 2, 1) := by decide +kernel
theorem d_M_count_80 : decode b_M_count 80 = .ok (.iload 4, 2) := by decide +kernel
theorem d_M_count_82 : decode b_M_count 82 = .ok (.invokevirtual 150, 3) := by decide +kernel
theorem d_M_count_85 : decode b_M_count 85 = .ok (.iinc 4 1, 3) := by decide +kernel
theorem d_M_count_88 : decode b_M_count 88 = .ok (.goto (-30), 3) := by decide +kernel
theorem d_M_count_91 : decode b_M_count 91 = .ok (.iinc 2 1, 3) := by decide +kernel
theorem d_M_count_94 : decode b_M_count 94 = .ok (.goto (-87), 3) := by decide +kernel
theorem d_M_count_97 : decode b_M_count 97 = .ok (.aload_n 0, 1) := by decide +kernel
theorem d_M_count_98 : decode b_M_count 98 = .ok (.getfield 32, 3) := by decide +kernel
theorem d_M_count_101 : decode b_M_count 101 = .ok (.iload_n 1, 1) := by decide +kernel
theorem d_M_count_102 : decode b_M_count 102 = .ok (.iconst 0, 1) := by decide +kernel
theorem d_M_count_103 : decode b_M_count 103 = .ok (.iastore, 1) := by decide +kernel
theorem d_M_count_104 : decode b_M_count 104 = .ok (.aload_n 0, 1) := by decide +kernel
theorem d_M_count_105 : decode b_M_count 105 = .ok (.getfield 35, 3) := by decide +kernel
theorem d_M_count_108 : decode b_M_count 108 = .ok (.iload_n 1, 1) := by decide +kernel
theorem d_M_count_109 : decode b_M_count 109 = .ok (.iconst 0, 1) := by decide +kernel
theorem d_M_count_110 : decode b_M_count 110 = .ok (.iastore, 1) := by decide +kernel
theorem d_M_count_111 : decode b_M_count 111 = .ok (.iconst 0, 1) := by decide +kernel
theorem d_M_count_112 : decode b_M_count 112 = .ok (.istore_n 2, 1) := by decide +kernel
theorem d_M_count_113 : decode b_M_count 113 = .ok (.iload_n 2, 1) := by decide +kernel
theorem d_M_count_114 : decode b_M_count 114 = .ok (.aload_n 0, 1) := by decide +kernel
theorem d_M_count_115 : decode b_M_count 115 = .ok (.getfield 139, 3) := by decide +kernel
theorem d_M_count_118 : decode b_M_count 118 = .ok (.if_icmp .ge 83, 3) := by decide +kernel
theorem d_M_count_121 : decode b_M_count 121 = .ok (.iconst 1, 1) := by decide +kernel
theorem d_M_count_122 : decode b_M_count 122 = .ok (.istore_n 3, 1) := by decide +kernel
theorem d_M_count_123 : decode b_M_count 123 = .ok (.iconst 0, 1) := by decide +kernel
theorem d_M_count_124 : decode b_M_count 124 = .ok (.istore 4, 2) := by decide +kernel
theorem d_M_count_126 : decode b_M_count 126 = .ok (.iload 4, 2) := by decide +kernel
theorem d_M_count_128 : decode b_M_count 128 = .ok (.iload_n 2, 1) := by decide +kernel
theorem d_M_count_129 : decode b_M_count 129 = .ok (.if_icmp .ge 30, 3) := by decide +kernel
theorem d_M_count_132 : decode b_M_count 132 = .ok (.iload_n 3, 1) := by decide +kernel
theorem d_M_count_133 : decode b_M_count 133 = .ok (.ifCond .eq 26, 3) := by decide +kernel
theorem d_M_count_136 : decode b_M_count 136 = .ok (.aload_n 0, 1) := by decide +kernel
theorem d_M_count_137 : decode b_M_count 137 = .ok (.iload_n 1, 1) := by decide +kernel
theorem d_M_count_138 : decode b_M_count 138 = .ok (.iload 4, 2) := by decide +kernel
theorem d_M_count_140 : decode b_M_count 140 = .ok (.iload_n 2, 1) := by decide +kernel
theorem d_M_count_141 : decode b_M_count 141 = .ok (.invokevirtual 154, 3) := by decide +kernel
theorem d_M_count_144 : decode b_M_count 144 = .ok (.ifCond .ne 7, 3) := by decide +kernel
theorem d_M_count_147 : decode b_M_count 147 = .ok (.iconst 1, 1) := by decide +kernel
theorem d_M_count_148 : decode b_M_count 148 = .ok (.goto 4, 3) := by decide +kernel
theorem d_M_count_151 : decode b_M_count 151 = .ok (.iconst 0, 1) := by decide +kernel
theorem d_M_count_152 : decode b_M_count 152 = .ok (.istore_n 3, 1) := by decide +kernel
theorem d_M_count_153 : decode b_M_count 153 = .ok (.iinc 4 1, 3) := by decide +kernel
theorem d_M_count_156 : decode b_M_count 156 = .ok (.goto (-30), 3) := by decide +kernel
theorem d_M_count_159 : decode b_M_count 159 = .ok (.iload_n 3, 1) := by decide +kernel
theorem d_M_count_160 : decode b_M_count 160 = .ok (.ifCond .ne 6, 3) := by decide +kernel
theorem d_M_count_163 : decode b_M_count 163 = .ok (.goto 32, 3) := by decide +kernel
theorem d_M_count_166 : decode b_M_count 166 = .ok (.aload_n 0, 1) := by decide +kernel
theorem d_M_count_167 : decode b_M_count 167 = .ok (.getfield 32, 3) := by decide +kernel
theorem d_M_count_170 : decode b_M_count 170 = .ok (.iload_n 1, 1) := by decide +kernel
theorem d_M_count_171 : decode b_M_count 171 = .ok (.dup2, 1) := by decide +kernel
theorem d_M_count_172 : decode b_M_count 172 = .ok (.iaload, 1) := by decide +kernel
theorem d_M_count_173 : decode b_M_count 173 = .ok (.iconst 1, 1) := by decide +kernel
theorem d_M_count_174 : decode b_M_count 174 = .ok (.iadd, 1) := by decide +kernel
theorem d_M_count_175 : decode b_M_count 175 = .ok (.iastore, 1) := by decide +kernel
theorem d_M_count_176 : decode b_M_count 176 = .ok (.aload_n 0, 1) := by decide +kernel
theorem d_M_count_177 : decode b_M_count 177 = .ok (.getfield 35, 3) := by decide +kernel
theorem d_M_count_180 : decode b_M_count 180 = .ok (.iload_n 1, 1) := by decide +kernel
theorem d_M_count_181 : decode b_M_count 181 = .ok (.aload_n 0, 1) := by decide +kernel
theorem d_M_count_182 : decode b_M_count 182 = .ok (.getfield 35, 3) := by decide +kernel
theorem d_M_count_185 : decode b_M_count 185 = .ok (.iload_n 1, 1) := by decide +kernel
theorem d_M_count_186 : decode b_M_count 186 = .ok (.iaload, 1) := by decide +kernel
theorem d_M_count_187 : decode b_M_count 187 = .ok (.aload_n 0, 1) := by decide +kernel
theorem d_M_count_188 : decode b_M_count 188 = .ok (.iload_n 1, 1) := by decide +kernel
theorem d_M_count_189 : decode b_M_count 189 = .ok (.iload_n 2, 1) := by decide +kernel
theorem d_M_count_190 : decode b_M_count 190 = .ok (.invokevirtual 158, 3) := by decide +kernel
theorem d_M_count_193 : decode b_M_count 193 = .ok (.iadd, 1) := by decide +kernel
theorem d_M_count_194 : decode b_M_count 194 = .ok (.iastore, 1) := by decide +kernel
theorem d_M_count_195 : decode b_M_count 195 = .ok (.iinc 2 1, 3) := by decide +kernel
theorem d_M_count_198 : decode b_M_count 198 = .ok (.goto (-85), 3) := by decide +kernel
theorem d_M_count_201 : decode b_M_count 201 = .ok (.return_, 1) := by decide +kernel
theorem d_M_look_0 : decode b_M_look 0 = .ok (.aload_n 0, 1) := by decide +kernel
theorem d_M_look_1 : decode b_M_look 1 = .ok (.iload_n 1, 1) := by decide +kernel
theorem d_M_look_2 : decode b_M_look 2 = .ok (.invokevirtual 135, 3) := by decide +kernel
theorem d_M_look_5 : decode b_M_look 5 = .ok (.istore_n 3, 1) := by decide +kernel
theorem d_M_look_6 : decode b_M_look 6 = .ok (.aload_n 0, 1) := by decide +kernel
theorem d_M_look_7 : decode b_M_look 7 = .ok (.iload_n 3, 1) := by decide +kernel
theorem d_M_look_8 : decode b_M_look 8 = .ok (.ifCond .ge 7, 3) := by decide +kernel
theorem d_M_look_11 : decode b_M_look 11 = .ok (.iconst 1, 1) := by decide +kernel
theorem d_M_look_12 : decode b_M_look 12 = .ok (.goto 4, 3) := by decide +kernel
theorem d_M_look_15 : decode b_M_look 15 = .ok (.iconst 0, 1) := by decide +kernel
theorem d_M_look_16 : decode b_M_look 16 = .ok (.iload_n 2, 1) := by decide +kernel
theorem d_M_look_17 : decode b_M_look 17 = .ok (.ifCond .lt 8, 3) := by decide +kernel
theorem d_M_look_20 : decode b_M_look 20 = .ok (.iload_n 2, 1) := by decide +kernel
theorem d_M_look_21 : decode b_M_look 21 = .ok (.iconst 3, 1) := by decide +kernel
theorem d_M_look_22 : decode b_M_look 22 = .ok (.if_icmp .le 7, 3) := by decide +kernel
theorem d_M_look_25 : decode b_M_look 25 = .ok (.iconst 1, 1) := by decide +kernel
theorem d_M_look_26 : decode b_M_look 26 = .ok (.goto 4, 3) := by decide +kernel
theorem d_M_look_29 : decode b_M_look 29 = .ok (.iconst 0, 1) := by decide +kernel
theorem d_M_look_30 : decode b_M_look 30 = .ok (.invokevirtual 117, 3) := by decide +kernel
theorem d_M_look_33 : decode b_M_look 33 = .ok (.ifCond .eq 5, 3) := by decide +kernel
theorem d_M_look_36 : decode b_M_look 36 = .ok (.iconst 0, 1) := by decide +kernel
theorem d_M_look_37 : decode b_M_look 37 = .ok (.ireturn, 1) := by decide +kernel
theorem d_M_look_38 : decode b_M_look 38 = .ok (.aload_n 0, 1) := by decide +kernel
theorem d_M_look_39 : decode b_M_look 39 = .ok (.getfield 32, 3) := by decide +kernel
theorem d_M_look_42 : decode b_M_look 42 = .ok (.iload_n 3, 1) := by decide +kernel
theorem d_M_look_43 : decode b_M_look 43 = .ok (.iaload, 1) := by decide +kernel
theorem d_M_look_44 : decode b_M_look 44 = .ok (.ifCond .ge 8, 3) := by decide +kernel
theorem d_M_look_47 : decode b_M_look 47 = .ok (.aload_n 0, 1) := by decide +kernel
theorem d_M_look_48 : decode b_M_look 48 = .ok (.iload_n 3, 1) := by decide +kernel
theorem d_M_look_49 : decode b_M_look 49 = .ok (.invokevirtual 162, 3) := by decide +kernel
theorem d_M_look_52 : decode b_M_look 52 = .ok (.iload_n 2, 1) := by decide +kernel
theorem d_M_look_53 : decode b_M_look 53 = .ok (.ifCond .ne 12, 3) := by decide +kernel
theorem d_M_look_56 : decode b_M_look 56 = .ok (.aload_n 0, 1) := by decide +kernel
theorem d_M_look_57 : decode b_M_look 57 = .ok (.getfield 20, 3) := by decide +kernel
theorem d_M_look_60 : decode b_M_look 60 = .ok (.iload_n 3, 1) := by decide +kernel
theorem d_M_look_61 : decode b_M_look 61 = .ok (.iaload, 1) := by decide +kernel
theorem d_M_look_62 : decode b_M_look 62 = .ok (.goto 37, 3) := by decide +kernel
theorem d_M_look_65 : decode b_M_look 65 = .ok (.iload_n 2, 1) := by decide +kernel
theorem d_M_look_66 : decode b_M_look 66 = .ok (.iconst 1, 1) := by decide +kernel
theorem d_M_look_67 : decode b_M_look 67 = .ok (.if_icmp .ne 12, 3) := by decide +kernel
theorem d_M_look_70 : decode b_M_look 70 = .ok (.aload_n 0, 1) := by decide +kernel
theorem d_M_look_71 : decode b_M_look 71 = .ok (.getfield 32, 3) := by decide +kernel
theorem d_M_look_74 : decode b_M_look 74 = .ok (.iload_n 3, 1) := by decide +kernel
theorem d_M_look_75 : decode b_M_look 75 = .ok (.iaload, 1) := by decide +kernel
theorem d_M_look_76 : decode b_M_look 76 = .ok (.goto 23, 3) := by decide +kernel
theorem d_M_look_79 : decode b_M_look 79 = .ok (.iload_n 2, 1) := by decide +kernel
theorem d_M_look_80 : decode b_M_look 80 = .ok (.iconst 2, 1) := by decide +kernel
theorem d_M_look_81 : decode b_M_look 81 = .ok (.if_icmp .ne 12, 3) := by decide +kernel
theorem d_M_look_84 : decode b_M_look 84 = .ok (.aload_n 0, 1) := by decide +kernel
theorem d_M_look_85 : decode b_M_look 85 = .ok (.getfield 35, 3) := by decide +kernel
theorem d_M_look_88 : decode b_M_look 88 = .ok (.iload_n 3, 1) := by decide +kernel
theorem d_M_look_89 : decode b_M_look 89 = .ok (.iaload, 1) := by decide +kernel
theorem d_M_look_90 : decode b_M_look 90 = .ok (.goto 9, 3) := by decide +kernel
theorem d_M_look_93 : decode b_M_look 93 = .ok (.aload_n 0, 1) := by decide +kernel
theorem d_M_look_94 : decode b_M_look 94 = .ok (.getfield 23, 3) := by decide +kernel
theorem d_M_look_97 : decode b_M_look 97 = .ok (.iload_n 3, 1) := by decide +kernel
theorem d_M_look_98 : decode b_M_look 98 = .ok (.iaload, 1) := by decide +kernel
theorem d_M_look_99 : decode b_M_look 99 = .ok (.ireturn, 1) := by decide +kernel
theorem d_M_cost_0 : decode b_M_cost 0 = .ok (.aload_n 0, 1) := by decide +kernel
theorem d_M_cost_1 : decode b_M_cost 1 = .ok (.iload_n 1, 1) := by decide +kernel
theorem d_M_cost_2 : decode b_M_cost 2 = .ok (.invokevirtual 135, 3) := by decide +kernel
theorem d_M_cost_5 : decode b_M_cost 5 = .ok (.istore 4, 2) := by decide +kernel
theorem d_M_cost_7 : decode b_M_cost 7 = .ok (.iconst (-1), 1) := by decide +kernel
theorem d_M_cost_8 : decode b_M_cost 8 = .ok (.istore 5, 2) := by decide +kernel
theorem d_M_cost_10 : decode b_M_cost 10 = .ok (.iconst 0, 1) := by decide +kernel
theorem d_M_cost_11 : decode b_M_cost 11 = .ok (.istore 6, 2) := by decide +kernel
theorem d_M_cost_13 : decode b_M_cost 13 = .ok (.iload 4, 2) := by decide +kernel
theorem d_M_cost_15 : decode b_M_cost 15 = .ok (.ifCond .lt 59, 3) := by decide +kernel
theorem d_M_cost_18 : decode b_M_cost 18 = .ok (.iload 6, 2) := by decide +kernel
theorem d_M_cost_20 : decode b_M_cost 20 = .ok (.aload_n 0, 1) := by decide +kernel
theorem d_M_cost_21 : decode b_M_cost 21 = .ok (.getfield 20, 3) := by decide +kernel
theorem d_M_cost_24 : decode b_M_cost 24 = .ok (.iload 4, 2) := by decide +kernel
theorem d_M_cost_26 : decode b_M_cost 26 = .ok (.iaload, 1) := by decide +kernel
theorem d_M_cost_27 : decode b_M_cost 27 = .ok (.if_icmp .ge 47, 3) := by decide +kernel
theorem d_M_cost_30 : decode b_M_cost 30 = .ok (.aload_n 0, 1) := by decide +kernel
theorem d_M_cost_31 : decode b_M_cost 31 = .ok (.getfield 26, 3) := by decide +kernel
theorem d_M_cost_34 : decode b_M_cost 34 = .ok (.bipush 24, 2) := by decide +kernel
theorem d_M_cost_36 : decode b_M_cost 36 = .ok (.iload 4, 2) := by decide +kernel
theorem d_M_cost_38 : decode b_M_cost 38 = .ok (.imul, 1) := by decide +kernel
theorem d_M_cost_39 : decode b_M_cost 39 = .ok (.iload 6, 2) := by decide +kernel
theorem d_M_cost_41 : decode b_M_cost 41 = .ok (.iadd, 1) := by decide +kernel
theorem d_M_cost_42 : decode b_M_cost 42 = .ok (.laload, 1) := by decide +kernel
theorem d_M_cost_43 : decode b_M_cost 43 = .ok (.lload_n 2, 1) := by decide +kernel
theorem d_M_cost_44 : decode b_M_cost 44 = .ok (.lcmp, 1) := by decide +kernel
theorem d_M_cost_45 : decode b_M_cost 45 = .ok (.ifCond .ne 19, 3) := by decide +kernel
theorem d_M_cost_48 : decode b_M_cost 48 = .ok (.aload_n 0, 1) := by decide +kernel
theorem d_M_cost_49 : decode b_M_cost 49 = .ok (.getfield 29, 3) := by decide +kernel
theorem d_M_cost_52 : decode b_M_cost 52 = .ok (.bipush 24, 2) := by decide +kernel
theorem d_M_cost_54 : decode b_M_cost 54 = .ok (.iload 4, 2) := by decide +kernel
theorem d_M_cost_56 : decode b_M_cost 56 = .ok (.imul, 1) := by decide +kernel
theorem d_M_cost_57 : decode b_M_cost 57 = .ok (.iload 6, 2) := by decide +kernel
theorem d_M_cost_59 : decode b_M_cost 59 = .ok (.iadd, 1) := by decide +kernel
theorem d_M_cost_60 : decode b_M_cost 60 = .ok (.iaload, 1) := by decide +kernel
theorem d_M_cost_61 : decode b_M_cost 61 = .ok (.goto 5, 3) := by decide +kernel
theorem d_M_cost_64 : decode b_M_cost 64 = .ok (.iload 5, 2) := by decide +kernel
theorem d_M_cost_66 : decode b_M_cost 66 = .ok (.istore 5, 2) := by decide +kernel
theorem d_M_cost_68 : decode b_M_cost 68 = .ok (.iinc 6 1, 3) := by decide +kernel
theorem d_M_cost_71 : decode b_M_cost 71 = .ok (.goto (-58), 3) := by decide +kernel
theorem d_M_cost_74 : decode b_M_cost 74 = .ok (.aload_n 0, 1) := by decide +kernel
theorem d_M_cost_75 : decode b_M_cost 75 = .ok (.iload 5, 2) := by decide +kernel
theorem d_M_cost_77 : decode b_M_cost 77 = .ok (.ifCond .ge 7, 3) := by decide +kernel
theorem d_M_cost_80 : decode b_M_cost 80 = .ok (.iconst 1, 1) := by decide +kernel
theorem d_M_cost_81 : decode b_M_cost 81 = .ok (.goto 4, 3) := by decide +kernel
theorem d_M_cost_84 : decode b_M_cost 84 = .ok (.iconst 0, 1) := by decide +kernel
theorem d_M_cost_85 : decode b_M_cost 85 = .ok (.iconst 0, 1) := by decide +kernel
theorem d_M_cost_86 : decode b_M_cost 86 = .ok (.invokevirtual 117, 3) := by decide +kernel
theorem d_M_cost_89 : decode b_M_cost 89 = .ok (.ifCond .eq 7, 3) := by decide +kernel
theorem d_M_cost_92 : decode b_M_cost 92 = .ok (.iconst 0, 1) := by decide +kernel
theorem d_M_cost_93 : decode b_M_cost 93 = .ok (.goto 5, 3) := by decide +kernel
theorem d_M_cost_96 : decode b_M_cost 96 = .ok (.iload 5, 2) := by decide +kernel
theorem d_M_cost_98 : decode b_M_cost 98 = .ok (.ireturn, 1) := by decide +kernel
theorem d_M_give_0 : decode b_M_give 0 = .ok (.aload_n 0, 1) := by decide +kernel
theorem d_M_give_1 : decode b_M_give 1 = .ok (.getfield 166, 3) := by decide +kernel
theorem d_M_give_4 : decode b_M_give 4 = .ok (.istore 4, 2) := by decide +kernel
theorem d_M_give_6 : decode b_M_give 6 = .ok (.iload 4, 2) := by decide +kernel
theorem d_M_give_8 : decode b_M_give 8 = .ok (.ifCond .le 54, 3) := by decide +kernel
theorem d_M_give_11 : decode b_M_give 11 = .ok (.aload_n 0, 1) := by decide +kernel
theorem d_M_give_12 : decode b_M_give 12 = .ok (.getfield 56, 3) := by decide +kernel
theorem d_M_give_15 : decode b_M_give 15 = .ok (.iload 4, 2) := by decide +kernel
theorem d_M_give_17 : decode b_M_give 17 = .ok (.iconst 1, 1) := by decide +kernel
theorem d_M_give_18 : decode b_M_give 18 = .ok (.isub, 1) := by decide +kernel
theorem d_M_give_19 : decode b_M_give 19 = .ok (.iaload, 1) := by decide +kernel
theorem d_M_give_20 : decode b_M_give 20 = .ok (.iload_n 3, 1) := by decide +kernel
theorem d_M_give_21 : decode b_M_give 21 = .ok (.if_icmp .le 41, 3) := by decide +kernel
theorem d_M_give_24 : decode b_M_give 24 = .ok (.aload_n 0, 1) := by decide +kernel
theorem d_M_give_25 : decode b_M_give 25 = .ok (.getfield 53, 3) := by decide +kernel
theorem d_M_give_28 : decode b_M_give 28 = .ok (.iload 4, 2) := by decide +kernel
theorem d_M_give_30 : decode b_M_give 30 = .ok (.aload_n 0, 1) := by decide +kernel
theorem d_M_give_31 : decode b_M_give 31 = .ok (.getfield 53, 3) := by decide +kernel
theorem d_M_give_34 : decode b_M_give 34 = .ok (.iload 4, 2) := by decide +kernel
theorem d_M_give_36 : decode b_M_give 36 = .ok (.iconst 1, 1) := by decide +kernel
theorem d_M_give_37 : decode b_M_give 37 = .ok (.isub, 1) := by decide +kernel
theorem d_M_give_38 : decode b_M_give 38 = .ok (.laload, 1) := by decide +kernel
theorem d_M_give_39 : decode b_M_give 39 = .ok (.lastore, 1) := by decide +kernel
theorem d_M_give_40 : decode b_M_give 40 = .ok (.aload_n 0, 1) := by decide +kernel
theorem d_M_give_41 : decode b_M_give 41 = .ok (.getfield 56, 3) := by decide +kernel
theorem d_M_give_44 : decode b_M_give 44 = .ok (.iload 4, 2) := by decide +kernel
theorem d_M_give_46 : decode b_M_give 46 = .ok (.aload_n 0, 1) := by decide +kernel
theorem d_M_give_47 : decode b_M_give 47 = .ok (.getfield 56, 3) := by decide +kernel
theorem d_M_give_50 : decode b_M_give 50 = .ok (.iload 4, 2) := by decide +kernel
theorem d_M_give_52 : decode b_M_give 52 = .ok (.iconst 1, 1) := by decide +kernel
theorem d_M_give_53 : decode b_M_give 53 = .ok (.isub, 1) := by decide +kernel
theorem d_M_give_54 : decode b_M_give 54 = .ok (.iaload, 1) := by decide +kernel
theorem d_M_give_55 : decode b_M_give 55 = .ok (.iastore, 1) := by decide +kernel
theorem d_M_give_56 : decode b_M_give 56 = .ok (.iinc 4 (-1), 3) := by decide +kernel
theorem d_M_give_59 : decode b_M_give 59 = .ok (.goto (-53), 3) := by decide +kernel
theorem d_M_give_62 : decode b_M_give 62 = .ok (.aload_n 0, 1) := by decide +kernel
theorem d_M_give_63 : decode b_M_give 63 = .ok (.getfield 53, 3) := by decide +kernel
theorem d_M_give_66 : decode b_M_give 66 = .ok (.iload 4, 2) := by decide +kernel
theorem d_M_give_68 : decode b_M_give 68 = .ok (.lload_n 1, 1) := by decide +kernel
theorem d_M_give_69 : decode b_M_give 69 = .ok (.lastore, 1) := by decide +kernel
theorem d_M_give_70 : decode b_M_give 70 = .ok (.aload_n 0, 1) := by decide +kernel
theorem d_M_give_71 : decode b_M_give 71 = .ok (.getfield 56, 3) := by decide +kernel
theorem d_M_give_74 : decode b_M_give 74 = .ok (.iload 4, 2) := by decide +kernel
theorem d_M_give_76 : decode b_M_give 76 = .ok (.iload_n 3, 1) := by decide +kernel
theorem d_M_give_77 : decode b_M_give 77 = .ok (.iastore, 1) := by decide +kernel
theorem d_M_give_78 : decode b_M_give 78 = .ok (.aload_n 0, 1) := by decide +kernel
theorem d_M_give_79 : decode b_M_give 79 = .ok (.dup, 1) := by decide +kernel
theorem d_M_give_80 : decode b_M_give 80 = .ok (.getfield 166, 3) := by decide +kernel
theorem d_M_give_83 : decode b_M_give 83 = .ok (.iconst 1, 1) := by decide +kernel
theorem d_M_give_84 : decode b_M_give 84 = .ok (.iadd, 1) := by decide +kernel
theorem d_M_give_85 : decode b_M_give 85 = .ok (.putfield 166, 3) := by decide +kernel
theorem d_M_give_88 : decode b_M_give 88 = .ok (.return_, 1) := by decide +kernel
theorem d_M_complete_0 : decode b_M_complete 0 = .ok (.aload_n 0, 1) := by decide +kernel
theorem d_M_complete_1 : decode b_M_complete 1 = .ok (.iconst 0, 1) := by decide +kernel
theorem d_M_complete_2 : decode b_M_complete 2 = .ok (.putfield 166, 3) := by decide +kernel
theorem d_M_complete_5 : decode b_M_complete 5 = .ok (.lload_n 2, 1) := by decide +kernel
theorem d_M_complete_6 : decode b_M_complete 6 = .ok (.invokestatic 103, 3) := by decide +kernel
theorem d_M_complete_9 : decode b_M_complete 9 = .ok (.ifCond .eq 15, 3) := by decide +kernel
theorem d_M_complete_12 : decode b_M_complete 12 = .ok (.iload 4, 2) := by decide +kernel
theorem d_M_complete_14 : decode b_M_complete 14 = .ok (.ifCond .lt 10, 3) := by decide +kernel
theorem d_M_complete_17 : decode b_M_complete 17 = .ok (.iload 4, 2) := by decide +kernel
theorem d_M_complete_19 : decode b_M_complete 19 = .ok (.bipush 24, 2) := by decide +kernel
theorem d_M_complete_21 : decode b_M_complete 21 = .ok (.if_icmp .le 7, 3) := by decide +kernel
theorem d_M_complete_24 : decode b_M_complete 24 = .ok (.iconst 1, 1) := by decide +kernel
theorem d_M_complete_25 : decode b_M_complete 25 = .ok (.goto 4, 3) := by decide +kernel
theorem d_M_complete_28 : decode b_M_complete 28 = .ok (.iconst 0, 1) := by decide +kernel
theorem d_M_complete_29 : decode b_M_complete 29 = .ok (.istore 5, 2) := by decide +kernel
theorem d_M_complete_31 : decode b_M_complete 31 = .ok (.aload_n 0, 1) := by decide +kernel
theorem d_M_complete_32 : decode b_M_complete 32 = .ok (.iload_n 1, 1) := by decide +kernel
theorem d_M_complete_33 : decode b_M_complete 33 = .ok (.invokevirtual 135, 3) := by decide +kernel
theorem d_M_complete_36 : decode b_M_complete 36 = .ok (.istore 6, 2) := by decide +kernel
theorem d_M_complete_38 : decode b_M_complete 38 = .ok (.aload_n 0, 1) := by decide +kernel
theorem d_M_complete_39 : decode b_M_complete 39 = .ok (.iload 5, 2) := by decide +kernel
theorem d_M_complete_41 : decode b_M_complete 41 = .ok (.iload 6, 2) := by decide +kernel
theorem d_M_complete_43 : decode b_M_complete 43 = .ok (.ifCond .ge 7, 3) := by decide +kernel
theorem d_M_complete_46 : decode b_M_complete 46 = .ok (.iconst 1, 1) := by decide +kernel
theorem d_M_complete_47 : decode b_M_complete 47 = .ok (.goto 4, 3) := by decide +kernel
theorem d_M_complete_50 : decode b_M_complete 50 = .ok (.iconst 0, 1) := by decide +kernel
theorem d_M_complete_51 : decode b_M_complete 51 = .ok (.invokevirtual 117, 3) := by decide +kernel
theorem d_M_complete_54 : decode b_M_complete 54 = .ok (.ifCond .eq 5, 3) := by decide +kernel
theorem d_M_complete_57 : decode b_M_complete 57 = .ok (.iconst 0, 1) := by decide +kernel
theorem d_M_complete_58 : decode b_M_complete 58 = .ok (.ireturn, 1) := by decide +kernel
theorem d_M_complete_59 : decode b_M_complete 59 = .ok (.lload_n 2, 1) := by decide +kernel
theorem d_M_complete_60 : decode b_M_complete 60 = .ok (.invokestatic 93, 3) := by decide +kernel
theorem d_M_complete_63 : decode b_M_complete 63 = .ok (.istore 7, 2) := by decide +kernel
theorem d_M_complete_65 : decode b_M_complete 65 = .ok (.iconst 0, 1) := by decide +kernel
theorem d_M_complete_66 : decode b_M_complete 66 = .ok (.istore 8, 2) := by decide +kernel
theorem d_M_complete_68 : decode b_M_complete 68 = .ok (.iload 8, 2) := by decide +kernel
theorem d_M_complete_70 : decode b_M_complete 70 = .ok (.aload_n 0, 1) := by decide +kernel
theorem d_M_complete_71 : decode b_M_complete 71 = .ok (.getfield 20, 3) := by decide +kernel
theorem d_M_complete_74 : decode b_M_complete 74 = .ok (.iload 6, 2) := by decide +kernel
theorem d_M_complete_76 : decode b_M_complete 76 = .ok (.iaload, 1) := by decide +kernel
theorem d_M_complete_77 : decode b_M_complete 77 = .ok (.if_icmp .ge 61, 3) := by decide +kernel
theorem d_M_complete_80 : decode b_M_complete 80 = .ok (.aload_n 0, 1) := by decide +kernel
theorem d_M_complete_81 : decode b_M_complete 81 = .ok (.getfield 26, 3) := by decide +kernel
theorem d_M_complete_84 : decode b_M_complete 84 = .ok (.bipush 24, 2) := by decide +kernel
theorem d_M_complete_86 : decode b_M_complete 86 = .ok (.iload 6, 2) := by decide +kernel
theorem d_M_complete_88 : decode b_M_complete 88 = .ok (.imul, 1) := by decide +kernel
theorem d_M_complete_89 : decode b_M_complete 89 = .ok (.iload 8, 2) := by decide +kernel
theorem d_M_complete_91 : decode b_M_complete 91 = .ok (.iadd, 1) := by decide +kernel
theorem d_M_complete_92 : decode b_M_complete 92 = .ok (.laload, 1) := by decide +kernel
theorem d_M_complete_93 : decode b_M_complete 93 = .ok (.lload_n 2, 1) := by decide +kernel
theorem d_M_complete_94 : decode b_M_complete 94 = .ok (.invokestatic 142, 3) := by decide +kernel
theorem d_M_complete_97 : decode b_M_complete 97 = .ok (.iload 7, 2) := by decide +kernel
theorem d_M_complete_99 : decode b_M_complete 99 = .ok (.if_icmp .ne 33, 3) := by decide +kernel
theorem d_M_complete_102 : decode b_M_complete 102 = .ok (.aload_n 0, 1) := by decide +kernel
theorem d_M_complete_103 : decode b_M_complete 103 = .ok (.aload_n 0, 1) := by decide +kernel
theorem d_M_complete_104 : decode b_M_complete 104 = .ok (.getfield 26, 3) := by decide +kernel
theorem d_M_complete_107 : decode b_M_complete 107 = .ok (.bipush 24, 2) := by decide +kernel
theorem d_M_complete_109 : decode b_M_complete 109 = .ok (.iload 6, 2) := by decide +kernel
theorem d_M_complete_111 : decode b_M_complete 111 = .ok (.imul, 1) := by decide +kernel
theorem d_M_complete_112 : decode b_M_complete 112 = .ok (.iload 8, 2) := by decide +kernel
theorem d_M_complete_114 : decode b_M_complete 114 = .ok (.iadd, 1) := by decide +kernel
theorem d_M_complete_115 : decode b_M_complete 115 = .ok (.laload, 1) := by decide +kernel
theorem d_M_complete_116 : decode b_M_complete 116 = .ok (.aload_n 0, 1) := by decide +kernel
theorem d_M_complete_117 : decode b_M_complete 117 = .ok (.getfield 29, 3) := by decide +kernel
theorem d_M_complete_120 : decode b_M_complete 120 = .ok (.bipush 24, 2) := by decide +kernel
theorem d_M_complete_122 : decode b_M_complete 122 = .ok (.iload 6, 2) := by decide +kernel
theorem d_M_complete_124 : decode b_M_complete 124 = .ok (.imul, 1) := by decide +kernel
theorem d_M_complete_125 : decode b_M_complete 125 = .ok (.iload 8, 2) := by decide +kernel
theorem d_M_complete_127 : decode b_M_complete 127 = .ok (.iadd, 1) := by decide +kernel
theorem d_M_complete_128 : decode b_M_complete 128 = .ok (.iaload, 1) := by decide +kernel
theorem d_M_complete_129 : decode b_M_complete 129 = .ok (.invokevirtual 169, 3) := by decide +kernel
theorem d_M_complete_132 : decode b_M_complete 132 = .ok (.iinc 8 1, 3) := by decide +kernel
theorem d_M_complete_135 : decode b_M_complete 135 = .ok (.goto (-67), 3) := by decide +kernel
theorem d_M_complete_138 : decode b_M_complete 138 = .ok (.aload_n 0, 1) := by decide +kernel
theorem d_M_complete_139 : decode b_M_complete 139 = .ok (.aload_n 0, 1) := by decide +kernel
theorem d_M_complete_140 : decode b_M_complete 140 = .ok (.getfield 166, 3) := by decide +kernel
theorem d_M_complete_143 : decode b_M_complete 143 = .ok (.iload 4, 2) := by decide +kernel
theorem d_M_complete_145 : decode b_M_complete 145 = .ok (.if_icmp .ge 10, 3) := by decide +kernel
theorem d_M_complete_148 : decode b_M_complete 148 = .ok (.aload_n 0, 1) := by decide +kernel
theorem d_M_complete_149 : decode b_M_complete 149 = .ok (.getfield 166, 3) := by decide +kernel
theorem d_M_complete_152 : decode b_M_complete 152 = .ok (.goto 5, 3) := by decide +kernel
theorem d_M_complete_155 : decode b_M_complete 155 = .ok (.iload 4, 2) := by decide +kernel
theorem d_M_complete_157 : decode b_M_complete 157 = .ok (.putfield 166, 3) := by decide +kernel
theorem d_M_complete_160 : decode b_M_complete 160 = .ok (.aload_n 0, 1) := by decide +kernel
theorem d_M_complete_161 : decode b_M_complete 161 = .ok (.getfield 166, 3) := by decide +kernel
theorem d_M_complete_164 : decode b_M_complete 164 = .ok (.ireturn, 1) := by decide +kernel
theorem d_M_lesser_0 : decode b_M_lesser 0 = .ok (.iload_n 0, 1) := by decide +kernel
theorem d_M_lesser_1 : decode b_M_lesser 1 = .ok (.iload_n 1, 1) := by decide +kernel
theorem d_M_lesser_2 : decode b_M_lesser 2 = .ok (.if_icmp .ge 7, 3) := by decide +kernel
theorem d_M_lesser_5 : decode b_M_lesser 5 = .ok (.iload_n 0, 1) := by decide +kernel
theorem d_M_lesser_6 : decode b_M_lesser 6 = .ok (.goto 4, 3) := by decide +kernel
theorem d_M_lesser_9 : decode b_M_lesser 9 = .ok (.iload_n 1, 1) := by decide +kernel
theorem d_M_lesser_10 : decode b_M_lesser 10 = .ok (.ireturn, 1) := by decide +kernel
theorem d_M_distanceOf_0 : decode b_M_distanceOf 0 = .ok (.lload_n 1, 1) := by decide +kernel
theorem d_M_distanceOf_1 : decode b_M_distanceOf 1 = .ok (.invokestatic 93, 3) := by decide +kernel
theorem d_M_distanceOf_4 : decode b_M_distanceOf 4 = .ok (.istore 5, 2) := by decide +kernel
theorem d_M_distanceOf_6 : decode b_M_distanceOf 6 = .ok (.lload_n 3, 1) := by decide +kernel
theorem d_M_distanceOf_7 : decode b_M_distanceOf 7 = .ok (.invokestatic 93, 3) := by decide +kernel
theorem d_M_distanceOf_10 : decode b_M_distanceOf 10 = .ok (.istore 6, 2) := by decide +kernel
theorem d_M_distanceOf_12 : decode b_M_distanceOf 12 = .ok (.iconst 0, 1) := by decide +kernel
theorem d_M_distanceOf_13 : decode b_M_distanceOf 13 = .ok (.istore 7, 2) := by decide +kernel
theorem d_M_distanceOf_15 : decode b_M_distanceOf 15 = .ok (.iload 7, 2) := by decide +kernel
theorem d_M_distanceOf_17 : decode b_M_distanceOf 17 = .ok (.iload 5, 2) := by decide +kernel
theorem d_M_distanceOf_19 : decode b_M_distanceOf 19 = .ok (.if_icmp .gt 218, 3) := by decide +kernel
theorem d_M_distanceOf_22 : decode b_M_distanceOf 22 = .ok (.iconst 0, 1) := by decide +kernel
theorem d_M_distanceOf_23 : decode b_M_distanceOf 23 = .ok (.istore 8, 2) := by decide +kernel
theorem d_M_distanceOf_25 : decode b_M_distanceOf 25 = .ok (.iload 8, 2) := by decide +kernel
theorem d_M_distanceOf_27 : decode b_M_distanceOf 27 = .ok (.iload 6, 2) := by decide +kernel
theorem d_M_distanceOf_29 : decode b_M_distanceOf 29 = .ok (.if_icmp .gt 202, 3) := by decide +kernel
theorem d_M_distanceOf_32 : decode b_M_distanceOf 32 = .ok (.iload 7, 2) := by decide +kernel
theorem d_M_distanceOf_34 : decode b_M_distanceOf 34 = .ok (.iload 8, 2) := by decide +kernel
theorem d_M_distanceOf_36 : decode b_M_distanceOf 36 = .ok (.iadd, 1) := by decide +kernel
theorem d_M_distanceOf_37 : decode b_M_distanceOf 37 = .ok (.istore 9, 2) := by decide +kernel
theorem d_M_distanceOf_39 : decode b_M_distanceOf 39 = .ok (.iload 7, 2) := by decide +kernel
theorem d_M_distanceOf_41 : decode b_M_distanceOf 41 = .ok (.ifCond .le 94, 3) := by decide +kernel
theorem d_M_distanceOf_44 : decode b_M_distanceOf 44 = .ok (.iload 8, 2) := by decide +kernel
theorem d_M_distanceOf_46 : decode b_M_distanceOf 46 = .ok (.ifCond .le 89, 3) := by decide +kernel
theorem d_M_distanceOf_49 : decode b_M_distanceOf 49 = .ok (.lload_n 1, 1) := by decide +kernel
theorem d_M_distanceOf_50 : decode b_M_distanceOf 50 = .ok (.iload 7, 2) := by decide +kernel
theorem d_M_distanceOf_52 : decode b_M_distanceOf 52 = .ok (.iconst 1, 1) := by decide +kernel
theorem d_M_distanceOf_53 : decode b_M_distanceOf 53 = .ok (.isub, 1) := by decide +kernel
theorem d_M_distanceOf_54 : decode b_M_distanceOf 54 = .ok (.invokestatic 107, 3) := by decide +kernel
theorem d_M_distanceOf_57 : decode b_M_distanceOf 57 = .ok (.lload_n 3, 1) := by decide +kernel
theorem d_M_distanceOf_58 : decode b_M_distanceOf 58 = .ok (.iload 8, 2) := by decide +kernel
theorem d_M_distanceOf_60 : decode b_M_distanceOf 60 = .ok (.iconst 1, 1) := by decide +kernel
theorem d_M_distanceOf_61 : decode b_M_distanceOf 61 = .ok (.isub, 1) := by decide +kernel
theorem d_M_distanceOf_62 : decode b_M_distanceOf 62 = .ok (.invokestatic 107, 3) := by decide +kernel
theorem d_M_distanceOf_65 : decode b_M_distanceOf 65 = .ok (.if_icmp .ne 7, 3) := by decide +kernel
theorem d_M_distanceOf_68 : decode b_M_distanceOf 68 = .ok (.iconst 0, 1) := by decide +kernel
theorem d_M_distanceOf_69 : decode b_M_distanceOf 69 = .ok (.goto 4, 3) := by decide +kernel
theorem d_M_distanceOf_72 : decode b_M_distanceOf 72 = .ok (.iconst 1, 1) := by decide +kernel
theorem d_M_distanceOf_73 : decode b_M_distanceOf 73 = .ok (.istore 10, 2) := by decide +kernel
theorem d_M_distanceOf_75 : decode b_M_distanceOf 75 = .ok (.aload_n 0, 1) := by decide +kernel
theorem d_M_distanceOf_76 : decode b_M_distanceOf 76 = .ok (.getfield 59, 3) := by decide +kernel
theorem d_M_distanceOf_79 : decode b_M_distanceOf 79 = .ok (.bipush 9, 2) := by decide +kernel
theorem d_M_distanceOf_81 : decode b_M_distanceOf 81 = .ok (.iload 7, 2) := by decide +kernel
theorem d_M_distanceOf_83 : decode b_M_distanceOf 83 = .ok (.imul, 1) := by decide +kernel
theorem d_M_distanceOf_84 : decode b_M_distanceOf 84 = .ok (.bipush 9, 2) := by decide +kernel
theorem d_M_distanceOf_86 : decode b_M_distanceOf 86 = .ok (.isub, 1) := by decide +kernel
theorem d_M_distanceOf_87 : decode b_M_distanceOf 87 = .ok (.iload 8, 2) := by decide +kernel
theorem d_M_distanceOf_89 : decode b_M_distanceOf 89 = .ok (.iadd, 1) := by decide +kernel
theorem d_M_distanceOf_90 : decode b_M_distanceOf 90 = .ok (.iaload, 1) := by decide +kernel
theorem d_M_distanceOf_91 : decode b_M_distanceOf 91 = .ok (.aload_n 0, 1) := by decide +kernel
theorem d_M_distanceOf_92 : decode b_M_distanceOf 92 = .ok (.getfield 59, 3) := by decide +kernel
theorem d_M_distanceOf_95 : decode b_M_distanceOf 95 = .ok (.bipush 9, 2) := by decide +kernel
theorem d_M_distanceOf_97 : decode b_M_distanceOf 97 = .ok (.iload 7, 2) := by decide +kernel
theorem d_M_distanceOf_99 : decode b_M_distanceOf 99 = .ok (.imul, 1) := by decide +kernel
theorem d_M_distanceOf_100 : decode b_M_distanceOf 100 = .ok (.iload 8, 2) := by decide +kernel
theorem d_M_distanceOf_102 : decode b_M_distanceOf 102 = .ok (.iadd, 1) := by decide +kernel
theorem d_M_distanceOf_103 : decode b_M_distanceOf 103 = .ok (.iconst 1, 1) := by decide +kernel
theorem d_M_distanceOf_104 : decode b_M_distanceOf 104 = .ok (.isub, 1) := by decide +kernel
theorem d_M_distanceOf_105 : decode b_M_distanceOf 105 = .ok (.iaload, 1) := by decide +kernel
theorem d_M_distanceOf_106 : decode b_M_distanceOf 106 = .ok (.invokestatic 173, 3) := by decide +kernel
theorem d_M_distanceOf_109 : decode b_M_distanceOf 109 = .ok (.iconst 1, 1) := by decide +kernel
theorem d_M_distanceOf_110 : decode b_M_distanceOf 110 = .ok (.iadd, 1) := by decide +kernel
theorem d_M_distanceOf_111 : decode b_M_distanceOf 111 = .ok (.aload_n 0, 1) := by decide +kernel
theorem d_M_distanceOf_112 : decode b_M_distanceOf 112 = .ok (.getfield 59, 3) := by decide +kernel
theorem d_M_distanceOf_115 : decode b_M_distanceOf 115 = .ok (.bipush 9, 2) := by decide +kernel
theorem d_M_distanceOf_117 : decode b_M_distanceOf 117 = .ok (.iload 7, 2) := by decide +kernel
theorem d_M_distanceOf_119 : decode b_M_distanceOf 119 = .ok (.imul, 1) := by decide +kernel
theorem d_M_distanceOf_120 : decode b_M_distanceOf 120 = .ok (.iload 8, 2) := by decide +kernel
theorem d_M_distanceOf_122 : decode b_M_distanceOf 122 = .ok (.iadd, 1) := by decide +kernel
theorem d_M_distanceOf_123 : decode b_M_distanceOf 123 = .ok (.bipush 10, 2) := by decide +kernel
theorem d_M_distanceOf_125 : decode b_M_distanceOf 125 = .ok (.isub, 1) := by decide +kernel
theorem d_M_distanceOf_126 : decode b_M_distanceOf 126 = .ok (.iaload, 1) := by decide +kernel
theorem d_M_distanceOf_127 : decode b_M_distanceOf 127 = .ok (.iload 10, 2) := by decide +kernel
theorem d_M_distanceOf_129 : decode b_M_distanceOf 129 = .ok (.iadd, 1) := by decide +kernel
theorem d_M_distanceOf_130 : decode b_M_distanceOf 130 = .ok (.invokestatic 173, 3) := by decide +kernel
theorem d_M_distanceOf_133 : decode b_M_distanceOf 133 = .ok (.istore 9, 2) := by decide +kernel
theorem d_M_distanceOf_135 : decode b_M_distanceOf 135 = .ok (.iload 7, 2) := by decide +kernel
theorem d_M_distanceOf_137 : decode b_M_distanceOf 137 = .ok (.iconst 1, 1) := by decide +kernel
theorem d_M_distanceOf_138 : decode b_M_distanceOf 138 = .ok (.if_icmp .le 72, 3) := by decide +kernel
theorem d_M_distanceOf_141 : decode b_M_distanceOf 141 = .ok (.iload 8, 2) := by decide +kernel
theorem d_M_distanceOf_143 : decode b_M_distanceOf 143 = .ok (.iconst 1, 1) := by decide +kernel
theorem d_M_distanceOf_144 : decode b_M_distanceOf 144 = .ok (.if_icmp .le 66, 3) := by decide +kernel
theorem d_M_distanceOf_147 : decode b_M_distanceOf 147 = .ok (.lload_n 1, 1) := by decide +kernel
theorem d_M_distanceOf_148 : decode b_M_distanceOf 148 = .ok (.iload 7, 2) := by decide +kernel
theorem d_M_distanceOf_150 : decode b_M_distanceOf 150 = .ok (.iconst 2, 1) := by decide +kernel
theorem d_M_distanceOf_151 : decode b_M_distanceOf 151 = .ok (.isub, 1) := by decide +kernel
theorem d_M_distanceOf_152 : decode b_M_distanceOf 152 = .ok (.invokestatic 107, 3) := by decide +kernel
theorem d_M_distanceOf_155 : decode b_M_distanceOf 155 = .ok (.lload_n 3, 1) := by decide +kernel
theorem d_M_distanceOf_156 : decode b_M_distanceOf 156 = .ok (.iload 8, 2) := by decide +kernel
theorem d_M_distanceOf_158 : decode b_M_distanceOf 158 = .ok (.iconst 1, 1) := by decide +kernel
theorem d_M_distanceOf_159 : decode b_M_distanceOf 159 = .ok (.isub, 1) := by decide +kernel
theorem d_M_distanceOf_160 : decode b_M_distanceOf 160 = .ok (.invokestatic 107, 3) := by decide +kernel
theorem d_M_distanceOf_163 : decode b_M_distanceOf 163 = .ok (.if_icmp .ne 47, 3) := by decide +kernel
theorem d_M_distanceOf_166 : decode b_M_distanceOf 166 = .ok (.lload_n 1, 1) := by decide +kernel
theorem d_M_distanceOf_167 : decode b_M_distanceOf 167 = .ok (.iload 7, 2) := by decide +kernel
theorem d_M_distanceOf_169 : decode b_M_distanceOf 169 = .ok (.iconst 1, 1) := by decide +kernel
theorem d_M_distanceOf_170 : decode b_M_distanceOf 170 = .ok (.isub, 1) := by decide +kernel
theorem d_M_distanceOf_171 : decode b_M_distanceOf 171 = .ok (.invokestatic 107, 3) := by decide +kernel
theorem d_M_distanceOf_174 : decode b_M_distanceOf 174 = .ok (.lload_n 3, 1) := by decide +kernel
theorem d_M_distanceOf_175 : decode b_M_distanceOf 175 = .ok (.iload 8, 2) := by decide +kernel
theorem d_M_distanceOf_177 : decode b_M_distanceOf 177 = .ok (.iconst 2, 1) := by decide +kernel
theorem d_M_distanceOf_178 : decode b_M_distanceOf 178 = .ok (.isub, 1) := by decide +kernel
theorem d_M_distanceOf_179 : decode b_M_distanceOf 179 = .ok (.invokestatic 107, 3) := by decide +kernel
theorem d_M_distanceOf_182 : decode b_M_distanceOf 182 = .ok (.if_icmp .ne 28, 3) := by decide +kernel
theorem d_M_distanceOf_185 : decode b_M_distanceOf 185 = .ok (.iload 9, 2) := by decide +kernel
theorem d_M_distanceOf_187 : decode b_M_distanceOf 187 = .ok (.aload_n 0, 1) := by decide +kernel
theorem d_M_distanceOf_188 : decode b_M_distanceOf 188 = .ok (.getfield 59, 3) := by decide +kernel
theorem d_M_distanceOf_191 : decode b_M_distanceOf 191 = .ok (.bipush 9, 2) := by decide +kernel
theorem d_M_distanceOf_193 : decode b_M_distanceOf 193 = .ok (.iload 7, 2) := by decide +kernel
theorem d_M_distanceOf_195 : decode b_M_distanceOf 195 = .ok (.imul, 1) := by decide +kernel
theorem d_M_distanceOf_196 : decode b_M_distanceOf 196 = .ok (.iload 8, 2) := by decide +kernel
theorem d_M_distanceOf_198 : decode b_M_distanceOf 198 = .ok (.iadd, 1) := by decide +kernel
theorem d_M_distanceOf_199 : decode b_M_distanceOf 199 = .ok (.bipush 20, 2) := by decide +kernel
theorem d_M_distanceOf_201 : decode b_M_distanceOf 201 = .ok (.isub, 1) := by decide +kernel
theorem d_M_distanceOf_202 : decode b_M_distanceOf 202 = .ok (.iaload, 1) := by decide +kernel
theorem d_M_distanceOf_203 : decode b_M_distanceOf 203 = .ok (.iconst 1, 1) := by decide +kernel
theorem d_M_distanceOf_204 : decode b_M_distanceOf 204 = .ok (.iadd, 1) := by decide +kernel
theorem d_M_distanceOf_205 : decode b_M_distanceOf 205 = .ok (.invokestatic 173, 3) := by decide +kernel
theorem d_M_distanceOf_208 : decode b_M_distanceOf 208 = .ok (.istore 9, 2) := by decide +kernel
theorem d_M_distanceOf_210 : decode b_M_distanceOf 210 = .ok (.aload_n 0, 1) := by decide +kernel
theorem d_M_distanceOf_211 : decode b_M_distanceOf 211 = .ok (.getfield 59, 3) := by decide +kernel
theorem d_M_distanceOf_214 : decode b_M_distanceOf 214 = .ok (.bipush 9, 2) := by decide +kernel
theorem d_M_distanceOf_216 : decode b_M_distanceOf 216 = .ok (.iload 7, 2) := by decide +kernel
theorem d_M_distanceOf_218 : decode b_M_distanceOf 218 = .ok (.imul, 1) := by decide +kernel
theorem d_M_distanceOf_219 : decode b_M_distanceOf 219 = .ok (.iload 8, 2) := by decide +kernel
theorem d_M_distanceOf_221 : decode b_M_distanceOf 221 = .ok (.iadd, 1) := by decide +kernel
theorem d_M_distanceOf_222 : decode b_M_distanceOf 222 = .ok (.iload 9, 2) := by decide +kernel
theorem d_M_distanceOf_224 : decode b_M_distanceOf 224 = .ok (.iastore, 1) := by decide +kernel
theorem d_M_distanceOf_225 : decode b_M_distanceOf 225 = .ok (.iinc 8 1, 3) := by decide +kernel
theorem d_M_distanceOf_228 : decode b_M_distanceOf 228 = .ok (.goto (-203), 3) := by decide +kernel
theorem d_M_distanceOf_231 : decode b_M_distanceOf 231 = .ok (.iinc 7 1, 3) := by decide +kernel
theorem d_M_distanceOf_234 : decode b_M_distanceOf 234 = .ok (.goto (-219), 3) := by decide +kernel
theorem d_M_distanceOf_237 : decode b_M_distanceOf 237 = .ok (.aload_n 0, 1) := by decide +kernel
theorem d_M_distanceOf_238 : decode b_M_distanceOf 238 = .ok (.getfield 59, 3) := by decide +kernel
theorem d_M_distanceOf_241 : decode b_M_distanceOf 241 = .ok (.bipush 9, 2) := by decide +kernel
theorem d_M_distanceOf_243 : decode b_M_distanceOf 243 = .ok (.iload 5, 2) := by decide +kernel
theorem d_M_distanceOf_245 : decode b_M_distanceOf 245 = .ok (.imul, 1) := by decide +kernel
theorem d_M_distanceOf_246 : decode b_M_distanceOf 246 = .ok (.iload 6, 2) := by decide +kernel
theorem d_M_distanceOf_248 : decode b_M_distanceOf 248 = .ok (.iadd, 1) := by decide +kernel
theorem d_M_distanceOf_249 : decode b_M_distanceOf 249 = .ok (.iaload, 1) := by decide +kernel
theorem d_M_distanceOf_250 : decode b_M_distanceOf 250 = .ok (.ireturn, 1) := by decide +kernel
theorem d_M_near_0 : decode b_M_near 0 = .ok (.aload_n 0, 1) := by decide +kernel
theorem d_M_near_1 : decode b_M_near 1 = .ok (.iconst 0, 1) := by decide +kernel
theorem d_M_near_2 : decode b_M_near 2 = .ok (.putfield 166, 3) := by decide +kernel
theorem d_M_near_5 : decode b_M_near 5 = .ok (.lload_n 2, 1) := by decide +kernel
theorem d_M_near_6 : decode b_M_near 6 = .ok (.invokestatic 111, 3) := by decide +kernel
theorem d_M_near_9 : decode b_M_near 9 = .ok (.ifCond .eq 14, 3) := by decide +kernel
theorem d_M_near_12 : decode b_M_near 12 = .ok (.iload 4, 2) := by decide +kernel
theorem d_M_near_14 : decode b_M_near 14 = .ok (.ifCond .lt 9, 3) := by decide +kernel
theorem d_M_near_17 : decode b_M_near 17 = .ok (.iload 4, 2) := by decide +kernel
theorem d_M_near_19 : decode b_M_near 19 = .ok (.iconst 2, 1) := by decide +kernel
theorem d_M_near_20 : decode b_M_near 20 = .ok (.if_icmp .le 7, 3) := by decide +kernel
theorem d_M_near_23 : decode b_M_near 23 = .ok (.iconst 1, 1) := by decide +kernel
theorem d_M_near_24 : decode b_M_near 24 = .ok (.goto 4, 3) := by decide +kernel
theorem d_M_near_27 : decode b_M_near 27 = .ok (.iconst 0, 1) := by decide +kernel
theorem d_M_near_28 : decode b_M_near 28 = .ok (.istore 5, 2) := by decide +kernel
theorem d_M_near_30 : decode b_M_near 30 = .ok (.aload_n 0, 1) := by decide +kernel
theorem d_M_near_31 : decode b_M_near 31 = .ok (.iload_n 1, 1) := by decide +kernel
theorem d_M_near_32 : decode b_M_near 32 = .ok (.invokevirtual 135, 3) := by decide +kernel
theorem d_M_near_35 : decode b_M_near 35 = .ok (.istore 6, 2) := by decide +kernel
theorem d_M_near_37 : decode b_M_near 37 = .ok (.aload_n 0, 1) := by decide +kernel
theorem d_M_near_38 : decode b_M_near 38 = .ok (.iload 5, 2) := by decide +kernel
theorem d_M_near_40 : decode b_M_near 40 = .ok (.iload 6, 2) := by decide +kernel
theorem d_M_near_42 : decode b_M_near 42 = .ok (.ifCond .ge 7, 3) := by decide +kernel
theorem d_M_near_45 : decode b_M_near 45 = .ok (.iconst 1, 1) := by decide +kernel
theorem d_M_near_46 : decode b_M_near 46 = .ok (.goto 4, 3) := by decide +kernel
theorem d_M_near_49 : decode b_M_near 49 = .ok (.iconst 0, 1) := by decide +kernel
theorem d_M_near_50 : decode b_M_near 50 = .ok (.invokevirtual 117, 3) := by decide +kernel
theorem d_M_near_53 : decode b_M_near 53 = .ok (.ifCond .eq 5, 3) := by decide +kernel
theorem d_M_near_56 : decode b_M_near 56 = .ok (.iconst 0, 1) := by decide +kernel
theorem d_M_near_57 : decode b_M_near 57 = .ok (.ireturn, 1) := by decide +kernel
theorem d_M_near_58 : decode b_M_near 58 = .ok (.iconst 0, 1) := by decide +kernel
theorem d_M_near_59 : decode b_M_near 59 = .ok (.istore 7, 2) := by decide +kernel
theorem d_M_near_61 : decode b_M_near 61 = .ok (.iload 7, 2) := by decide +kernel
theorem d_M_near_63 : decode b_M_near 63 = .ok (.aload_n 0, 1) := by decide +kernel
theorem d_M_near_64 : decode b_M_near 64 = .ok (.getfield 20, 3) := by decide +kernel
theorem d_M_near_67 : decode b_M_near 67 = .ok (.iload 6, 2) := by decide +kernel
theorem d_M_near_69 : decode b_M_near 69 = .ok (.iaload, 1) := by decide +kernel
theorem d_M_near_70 : decode b_M_near 70 = .ok (.if_icmp .ge 73, 3) := by decide +kernel
theorem d_M_near_73 : decode b_M_near 73 = .ok (.aload_n 0, 1) := by decide +kernel
theorem d_M_near_74 : decode b_M_near 74 = .ok (.lload_n 2, 1) := by decide +kernel
theorem d_M_near_75 : decode b_M_near 75 = .ok (.aload_n 0, 1) := by decide +kernel
theorem d_M_near_76 : decode b_M_near 76 = .ok (.getfield 26, 3) := by decide +kernel
theorem d_M_near_79 : decode b_M_near 79 = .ok (.bipush 24, 2) := by decide +kernel
theorem d_M_near_81 : decode b_M_near 81 = .ok (.iload 6, 2) := by decide +kernel
theorem d_M_near_83 : decode b_M_near 83 = .ok (.imul, 1) := by decide +kernel
theorem d_M_near_84 : decode b_M_near 84 = .ok (.iload 7, 2) := by decide +kernel
theorem d_M_near_86 : decode b_M_near 86 = .ok (.iadd, 1) := by decide +kernel
theorem d_M_near_87 : decode b_M_near 87 = .ok (.laload, 1) := by decide +kernel
theorem d_M_near_88 : decode b_M_near 88 = .ok (.invokevirtual 176, 3) := by decide +kernel
theorem d_M_near_91 : decode b_M_near 91 = .ok (.istore 8, 2) := by decide +kernel
theorem d_M_near_93 : decode b_M_near 93 = .ok (.iload 8, 2) := by decide +kernel
theorem d_M_near_95 : decode b_M_near 95 = .ok (.iload 4, 2) := by decide +kernel
theorem d_M_near_97 : decode b_M_near 97 = .ok (.if_icmp .gt 40, 3) := by decide +kernel
theorem d_M_near_100 : decode b_M_near 100 = .ok (.aload_n 0, 1) := by decide +kernel
theorem d_M_near_101 : decode b_M_near 101 = .ok (.aload_n 0, 1) := by decide +kernel
theorem d_M_near_102 : decode b_M_near 102 = .ok (.getfield 26, 3) := by decide +kernel
theorem d_M_near_105 : decode b_M_near 105 = .ok (.bipush 24, 2) := by decide +kernel
theorem d_M_near_107 : decode b_M_near 107 = .ok (.iload 6, 2) := by decide +kernel
theorem d_M_near_109 : decode b_M_near 109 = .ok (.imul, 1) := by decide +kernel
theorem d_M_near_110 : decode b_M_near 110 = .ok (.iload 7, 2) := by decide +kernel
theorem d_M_near_112 : decode b_M_near 112 = .ok (.iadd, 1) := by decide +kernel
theorem d_M_near_113 : decode b_M_near 113 = .ok (.laload, 1) := by decide +kernel
theorem d_M_near_114 : decode b_M_near 114 = .ok (.sipush 10000, 3) := by decide +kernel
theorem d_M_near_117 : decode b_M_near 117 = .ok (.iload 8, 2) := by decide +kernel
theorem d_M_near_119 : decode b_M_near 119 = .ok (.imul, 1) := by decide +kernel
theorem d_M_near_120 : decode b_M_near 120 = .ok (.aload_n 0, 1) := by decide +kernel
theorem d_M_near_121 : decode b_M_near 121 = .ok (.getfield 29, 3) := by decide +kernel
theorem d_M_near_124 : decode b_M_near 124 = .ok (.bipush 24, 2) := by decide +kernel
theorem d_M_near_126 : decode b_M_near 126 = .ok (.iload 6, 2) := by decide +kernel
theorem d_M_near_128 : decode b_M_near 128 = .ok (.imul, 1) := by decide +kernel
theorem d_M_near_129 : decode b_M_near 129 = .ok (.iload 7, 2) := by decide +kernel
theorem d_M_near_131 : decode b_M_near 131 = .ok (.iadd, 1) := by decide +kernel
theorem d_M_near_132 : decode b_M_near 132 = .ok (.iaload, 1) := by decide +kernel
theorem d_M_near_133 : decode b_M_near 133 = .ok (.iadd, 1) := by decide +kernel
theorem d_M_near_134 : decode b_M_near 134 = .ok (.invokevirtual 169, 3) := by decide +kernel
theorem d_M_near_137 : decode b_M_near 137 = .ok (.iinc 7 1, 3) := by decide +kernel
theorem d_M_near_140 : decode b_M_near 140 = .ok (.goto (-79), 3) := by decide +kernel
theorem d_M_near_143 : decode b_M_near 143 = .ok (.aload_n 0, 1) := by decide +kernel
theorem d_M_near_144 : decode b_M_near 144 = .ok (.getfield 166, 3) := by decide +kernel
theorem d_M_near_147 : decode b_M_near 147 = .ok (.ireturn, 1) := by decide +kernel
theorem d_M_given_0 : decode b_M_given 0 = .ok (.aload_n 0, 1) := by decide +kernel
theorem d_M_given_1 : decode b_M_given 1 = .ok (.iload_n 1, 1) := by decide +kernel
theorem d_M_given_2 : decode b_M_given 2 = .ok (.ifCond .lt 11, 3) := by decide +kernel
theorem d_M_given_5 : decode b_M_given 5 = .ok (.iload_n 1, 1) := by decide +kernel
theorem d_M_given_6 : decode b_M_given 6 = .ok (.aload_n 0, 1) := by decide +kernel
theorem d_M_given_7 : decode b_M_given 7 = .ok (.getfield 166, 3) := by decide +kernel
theorem d_M_given_10 : decode b_M_given 10 = .ok (.if_icmp .lt 7, 3) := by decide +kernel
theorem d_M_given_13 : decode b_M_given 13 = .ok (.iconst 1, 1) := by decide +kernel
theorem d_M_given_14 : decode b_M_given 14 = .ok (.goto 4, 3) := by decide +kernel
theorem d_M_given_17 : decode b_M_given 17 = .ok (.iconst 0, 1) := by decide +kernel
theorem d_M_given_18 : decode b_M_given 18 = .ok (.iconst 0, 1) := by decide +kernel
theorem d_M_given_19 : decode b_M_given 19 = .ok (.invokevirtual 117, 3) := by decide +kernel
theorem d_M_given_22 : decode b_M_given 22 = .ok (.ifCond .eq 7, 3) := by decide +kernel
theorem d_M_given_25 : decode b_M_given 25 = .ok (.lconst 0, 1) := by decide +kernel
theorem d_M_given_26 : decode b_M_given 26 = .ok (.goto 9, 3) := by decide +kernel
theorem d_M_given_29 : decode b_M_given 29 = .ok (.aload_n 0, 1) := by decide +kernel
theorem d_M_given_30 : decode b_M_given 30 = .ok (.getfield 53, 3) := by decide +kernel
theorem d_M_given_33 : decode b_M_given 33 = .ok (.iload_n 1, 1) := by decide +kernel
theorem d_M_given_34 : decode b_M_given 34 = .ok (.laload, 1) := by decide +kernel
theorem d_M_given_35 : decode b_M_given 35 = .ok (.lreturn, 1) := by decide +kernel
theorem d_M_distance_0 : decode b_M_distance 0 = .ok (.aload_n 0, 1) := by decide +kernel
theorem d_M_distance_1 : decode b_M_distance 1 = .ok (.lload_n 1, 1) := by decide +kernel
theorem d_M_distance_2 : decode b_M_distance 2 = .ok (.invokestatic 111, 3) := by decide +kernel
theorem d_M_distance_5 : decode b_M_distance 5 = .ok (.ifCond .eq 10, 3) := by decide +kernel
theorem d_M_distance_8 : decode b_M_distance 8 = .ok (.lload_n 3, 1) := by decide +kernel
theorem d_M_distance_9 : decode b_M_distance 9 = .ok (.invokestatic 111, 3) := by decide +kernel
theorem d_M_distance_12 : decode b_M_distance 12 = .ok (.ifCond .ne 7, 3) := by decide +kernel
theorem d_M_distance_15 : decode b_M_distance 15 = .ok (.iconst 1, 1) := by decide +kernel
theorem d_M_distance_16 : decode b_M_distance 16 = .ok (.goto 4, 3) := by decide +kernel
theorem d_M_distance_19 : decode b_M_distance 19 = .ok (.iconst 0, 1) := by decide +kernel
theorem d_M_distance_20 : decode b_M_distance 20 = .ok (.iconst 0, 1) := by decide +kernel
theorem d_M_distance_21 : decode b_M_distance 21 = .ok (.invokevirtual 117, 3) := by decide +kernel
theorem d_M_distance_24 : decode b_M_distance 24 = .ok (.ifCond .eq 7, 3) := by decide +kernel
theorem d_M_distance_27 : decode b_M_distance 27 = .ok (.iconst 0, 1) := by decide +kernel
theorem d_M_distance_28 : decode b_M_distance 28 = .ok (.goto 9, 3) := by decide +kernel
theorem d_M_distance_31 : decode b_M_distance 31 = .ok (.aload_n 0, 1) := by decide +kernel
theorem d_M_distance_32 : decode b_M_distance 32 = .ok (.lload_n 1, 1) := by decide +kernel
theorem d_M_distance_33 : decode b_M_distance 33 = .ok (.lload_n 3, 1) := by decide +kernel
theorem d_M_distance_34 : decode b_M_distance 34 = .ok (.invokevirtual 176, 3) := by decide +kernel
theorem d_M_distance_37 : decode b_M_distance 37 = .ok (.ireturn, 1) := by decide +kernel
theorem d_M_pairOf_0 : decode b_M_pairOf 0 = .ok (.iconst 0, 1) := by decide +kernel
theorem d_M_pairOf_1 : decode b_M_pairOf 1 = .ok (.istore 5, 2) := by decide +kernel
theorem d_M_pairOf_3 : decode b_M_pairOf 3 = .ok (.iload 5, 2) := by decide +kernel
theorem d_M_pairOf_5 : decode b_M_pairOf 5 = .ok (.aload_n 0, 1) := by decide +kernel
theorem d_M_pairOf_6 : decode b_M_pairOf 6 = .ok (.getfield 179, 3) := by decide +kernel
theorem d_M_pairOf_9 : decode b_M_pairOf 9 = .ok (.if_icmp .ge 33, 3) := by decide +kernel
theorem d_M_pairOf_12 : decode b_M_pairOf 12 = .ok (.aload_n 0, 1) := by decide +kernel
theorem d_M_pairOf_13 : decode b_M_pairOf 13 = .ok (.getfield 62, 3) := by decide +kernel
theorem d_M_pairOf_16 : decode b_M_pairOf 16 = .ok (.iload 5, 2) := by decide +kernel
theorem d_M_pairOf_18 : decode b_M_pairOf 18 = .ok (.laload, 1) := by decide +kernel
theorem d_M_pairOf_19 : decode b_M_pairOf 19 = .ok (.lload_n 1, 1) := by decide +kernel
theorem d_M_pairOf_20 : decode b_M_pairOf 20 = .ok (.lcmp, 1) := by decide +kernel
theorem d_M_pairOf_21 : decode b_M_pairOf 21 = .ok (.ifCond .ne 15, 3) := by decide +kernel
theorem d_M_pairOf_24 : decode b_M_pairOf 24 = .ok (.aload_n 0, 1) := by decide +kernel
theorem d_M_pairOf_25 : decode b_M_pairOf 25 = .ok (.getfield 65, 3) := by decide +kernel
theorem d_M_pairOf_28 : decode b_M_pairOf 28 = .ok (.iload 5, 2) := by decide +kernel
theorem d_M_pairOf_30 : decode b_M_pairOf 30 = .ok (.laload, 1) := by decide +kernel
theorem d_M_pairOf_31 : decode b_M_pairOf 31 = .ok (.lload_n 3, 1) := by decide +kernel
theorem d_M_pairOf_32 : decode b_M_pairOf 32 = .ok (.lcmp, 1) := by decide +kernel
theorem d_M_pairOf_33 : decode b_M_pairOf 33 = .ok (.ifCond .eq 9, 3) := by decide +kernel
theorem d_M_pairOf_36 : decode b_M_pairOf 36 = .ok (.iinc 5 1, 3) := by decide +kernel
theorem d_M_pairOf_39 : decode b_M_pairOf 39 = .ok (.goto (-36), 3) := by decide +kernel
theorem d_M_pairOf_42 : decode b_M_pairOf 42 = .ok (.iload 5, 2) := by decide +kernel
theorem d_M_pairOf_44 : decode b_M_pairOf 44 = .ok (.ireturn, 1) := by decide +kernel
theorem d_M_learn_0 : decode b_M_learn 0 = .ok (.lload_n 1, 1) := by decide +kernel
theorem d_M_learn_1 : decode b_M_learn 1 = .ok (.invokestatic 111, 3) := by decide +kernel
theorem d_M_learn_4 : decode b_M_learn 4 = .ok (.ifCond .eq 10, 3) := by decide +kernel
theorem d_M_learn_7 : decode b_M_learn 7 = .ok (.lload_n 3, 1) := by decide +kernel
theorem d_M_learn_8 : decode b_M_learn 8 = .ok (.invokestatic 111, 3) := by decide +kernel
theorem d_M_learn_11 : decode b_M_learn 11 = .ok (.ifCond .ne 7, 3) := by decide +kernel
theorem d_M_learn_14 : decode b_M_learn 14 = .ok (.iconst 1, 1) := by decide +kernel
theorem d_M_learn_15 : decode b_M_learn 15 = .ok (.goto 4, 3) := by decide +kernel
theorem d_M_learn_18 : decode b_M_learn 18 = .ok (.iconst 0, 1) := by decide +kernel
theorem d_M_learn_19 : decode b_M_learn 19 = .ok (.istore 5, 2) := by decide +kernel
theorem d_M_learn_21 : decode b_M_learn 21 = .ok (.aload_n 0, 1) := by decide +kernel
theorem d_M_learn_22 : decode b_M_learn 22 = .ok (.lload_n 1, 1) := by decide +kernel
theorem d_M_learn_23 : decode b_M_learn 23 = .ok (.lload_n 3, 1) := by decide +kernel
theorem d_M_learn_24 : decode b_M_learn 24 = .ok (.invokevirtual 182, 3) := by decide +kernel
theorem d_M_learn_27 : decode b_M_learn 27 = .ok (.istore 6, 2) := by decide +kernel
end
section
theorem d_M_learn_29 : decode b_M_learn 29 = .ok (.aload_n 0, 1) := by decide +kernel
theorem d_M_learn_30 : decode b_M_learn 30 = .ok (.iload 5, 2) := by decide +kernel
theorem d_M_learn_32 : decode b_M_learn 32 = .ok (.iload 5, 2) := by decide +kernel
theorem d_M_learn_34 : decode b_M_learn 34 = .ok (.ifCond .ne 14, 3) := by decide +kernel
theorem d_M_learn_37 : decode b_M_learn 37 = .ok (.iload 6, 2) := by decide +kernel
theorem d_M_learn_39 : decode b_M_learn 39 = .ok (.bipush 40, 2) := by decide +kernel
theorem d_M_learn_41 : decode b_M_learn 41 = .ok (.if_icmp .ne 7, 3) := by decide +kernel
theorem d_M_learn_44 : decode b_M_learn 44 = .ok (.iconst 1, 1) := by decide +kernel
theorem d_M_learn_45 : decode b_M_learn 45 = .ok (.goto 4, 3) := by decide +kernel
theorem d_M_learn_48 : decode b_M_learn 48 = .ok (.iconst 0, 1) := by decide +kernel
theorem d_M_learn_49 : decode b_M_learn 49 = .ok (.invokevirtual 117, 3) := by decide +kernel
theorem d_M_learn_52 : decode b_M_learn 52 = .ok (.ifCond .eq 5, 3) := by decide +kernel
theorem d_M_learn_55 : decode b_M_learn 55 = .ok (.iconst 0, 1) := by decide +kernel
theorem d_M_learn_56 : decode b_M_learn 56 = .ok (.ireturn, 1) := by decide +kernel
theorem d_M_learn_57 : decode b_M_learn 57 = .ok (.iload 6, 2) := by decide +kernel
theorem d_M_learn_59 : decode b_M_learn 59 = .ok (.aload_n 0, 1) := by decide +kernel
theorem d_M_learn_60 : decode b_M_learn 60 = .ok (.getfield 179, 3) := by decide +kernel
theorem d_M_learn_63 : decode b_M_learn 63 = .ok (.if_icmp .ne 37, 3) := by decide +kernel
theorem d_M_learn_66 : decode b_M_learn 66 = .ok (.aload_n 0, 1) := by decide +kernel
theorem d_M_learn_67 : decode b_M_learn 67 = .ok (.dup, 1) := by decide +kernel
theorem d_M_learn_68 : decode b_M_learn 68 = .ok (.getfield 179, 3) := by decide +kernel
theorem d_M_learn_71 : decode b_M_learn 71 = .ok (.iconst 1, 1) := by decide +kernel
theorem d_M_learn_72 : decode b_M_learn 72 = .ok (.iadd, 1) := by decide +kernel
theorem d_M_learn_73 : decode b_M_learn 73 = .ok (.putfield 179, 3) := by decide +kernel
theorem d_M_learn_76 : decode b_M_learn 76 = .ok (.aload_n 0, 1) := by decide +kernel
theorem d_M_learn_77 : decode b_M_learn 77 = .ok (.getfield 62, 3) := by decide +kernel
theorem d_M_learn_80 : decode b_M_learn 80 = .ok (.iload 6, 2) := by decide +kernel
theorem d_M_learn_82 : decode b_M_learn 82 = .ok (.lload_n 1, 1) := by decide +kernel
theorem d_M_learn_83 : decode b_M_learn 83 = .ok (.lastore, 1) := by decide +kernel
theorem d_M_learn_84 : decode b_M_learn 84 = .ok (.aload_n 0, 1) := by decide +kernel
theorem d_M_learn_85 : decode b_M_learn 85 = .ok (.getfield 65, 3) := by decide +kernel
theorem d_M_learn_88 : decode b_M_learn 88 = .ok (.iload 6, 2) := by decide +kernel
theorem d_M_learn_90 : decode b_M_learn 90 = .ok (.lload_n 3, 1) := by decide +kernel
theorem d_M_learn_91 : decode b_M_learn 91 = .ok (.lastore, 1) := by decide +kernel
theorem d_M_learn_92 : decode b_M_learn 92 = .ok (.aload_n 0, 1) := by decide +kernel
theorem d_M_learn_93 : decode b_M_learn 93 = .ok (.getfield 68, 3) := by decide +kernel
theorem d_M_learn_96 : decode b_M_learn 96 = .ok (.iload 6, 2) := by decide +kernel
theorem d_M_learn_98 : decode b_M_learn 98 = .ok (.iconst 0, 1) := by decide +kernel
theorem d_M_learn_99 : decode b_M_learn 99 = .ok (.iastore, 1) := by decide +kernel
theorem d_M_learn_100 : decode b_M_learn 100 = .ok (.aload_n 0, 1) := by decide +kernel
theorem d_M_learn_101 : decode b_M_learn 101 = .ok (.getfield 68, 3) := by decide +kernel
theorem d_M_learn_104 : decode b_M_learn 104 = .ok (.iload 6, 2) := by decide +kernel
theorem d_M_learn_106 : decode b_M_learn 106 = .ok (.dup2, 1) := by decide +kernel
theorem d_M_learn_107 : decode b_M_learn 107 = .ok (.iaload, 1) := by decide +kernel
theorem d_M_learn_108 : decode b_M_learn 108 = .ok (.iconst 1, 1) := by decide +kernel
theorem d_M_learn_109 : decode b_M_learn 109 = .ok (.iadd, 1) := by decide +kernel
theorem d_M_learn_110 : decode b_M_learn 110 = .ok (.iastore, 1) := by decide +kernel
theorem d_M_learn_111 : decode b_M_learn 111 = .ok (.aload_n 0, 1) := by decide +kernel
theorem d_M_learn_112 : decode b_M_learn 112 = .ok (.getfield 68, 3) := by decide +kernel
theorem d_M_learn_115 : decode b_M_learn 115 = .ok (.iload 6, 2) := by decide +kernel
theorem d_M_learn_117 : decode b_M_learn 117 = .ok (.iaload, 1) := by decide +kernel
theorem d_M_learn_118 : decode b_M_learn 118 = .ok (.ireturn, 1) := by decide +kernel
theorem d_M_say_0 : decode b_M_say 0 = .ok (.lload_n 1, 1) := by decide +kernel
theorem d_M_say_1 : decode b_M_say 1 = .ok (.invokestatic 111, 3) := by decide +kernel
theorem d_M_say_4 : decode b_M_say 4 = .ok (.ifCond .ne 7, 3) := by decide +kernel
theorem d_M_say_7 : decode b_M_say 7 = .ok (.iconst 1, 1) := by decide +kernel
theorem d_M_say_8 : decode b_M_say 8 = .ok (.goto 4, 3) := by decide +kernel
theorem d_M_say_11 : decode b_M_say 11 = .ok (.iconst 0, 1) := by decide +kernel
theorem d_M_say_12 : decode b_M_say 12 = .ok (.istore_n 3, 1) := by decide +kernel
theorem d_M_say_13 : decode b_M_say 13 = .ok (.aload_n 0, 1) := by decide +kernel
theorem d_M_say_14 : decode b_M_say 14 = .ok (.iload_n 3, 1) := by decide +kernel
theorem d_M_say_15 : decode b_M_say 15 = .ok (.iload_n 3, 1) := by decide +kernel
theorem d_M_say_16 : decode b_M_say 16 = .ok (.ifCond .ne 15, 3) := by decide +kernel
theorem d_M_say_19 : decode b_M_say 19 = .ok (.aload_n 0, 1) := by decide +kernel
theorem d_M_say_20 : decode b_M_say 20 = .ok (.getfield 185, 3) := by decide +kernel
theorem d_M_say_23 : decode b_M_say 23 = .ok (.iconst 4, 1) := by decide +kernel
theorem d_M_say_24 : decode b_M_say 24 = .ok (.if_icmp .ne 7, 3) := by decide +kernel
theorem d_M_say_27 : decode b_M_say 27 = .ok (.iconst 1, 1) := by decide +kernel
theorem d_M_say_28 : decode b_M_say 28 = .ok (.goto 4, 3) := by decide +kernel
theorem d_M_say_31 : decode b_M_say 31 = .ok (.iconst 0, 1) := by decide +kernel
theorem d_M_say_32 : decode b_M_say 32 = .ok (.invokevirtual 117, 3) := by decide +kernel
theorem d_M_say_35 : decode b_M_say 35 = .ok (.ifCond .eq 5, 3) := by decide +kernel
theorem d_M_say_38 : decode b_M_say 38 = .ok (.iconst 0, 1) := by decide +kernel
theorem d_M_say_39 : decode b_M_say 39 = .ok (.ireturn, 1) := by decide +kernel
theorem d_M_say_40 : decode b_M_say 40 = .ok (.aload_n 0, 1) := by decide +kernel
theorem d_M_say_41 : decode b_M_say 41 = .ok (.getfield 71, 3) := by decide +kernel
theorem d_M_say_44 : decode b_M_say 44 = .ok (.aload_n 0, 1) := by decide +kernel
theorem d_M_say_45 : decode b_M_say 45 = .ok (.getfield 185, 3) := by decide +kernel
theorem d_M_say_48 : decode b_M_say 48 = .ok (.lload_n 1, 1) := by decide +kernel
theorem d_M_say_49 : decode b_M_say 49 = .ok (.lastore, 1) := by decide +kernel
theorem d_M_say_50 : decode b_M_say 50 = .ok (.aload_n 0, 1) := by decide +kernel
theorem d_M_say_51 : decode b_M_say 51 = .ok (.dup, 1) := by decide +kernel
theorem d_M_say_52 : decode b_M_say 52 = .ok (.getfield 185, 3) := by decide +kernel
theorem d_M_say_55 : decode b_M_say 55 = .ok (.iconst 1, 1) := by decide +kernel
theorem d_M_say_56 : decode b_M_say 56 = .ok (.iadd, 1) := by decide +kernel
theorem d_M_say_57 : decode b_M_say 57 = .ok (.putfield 185, 3) := by decide +kernel
theorem d_M_say_60 : decode b_M_say 60 = .ok (.aload_n 0, 1) := by decide +kernel
theorem d_M_say_61 : decode b_M_say 61 = .ok (.getfield 185, 3) := by decide +kernel
theorem d_M_say_64 : decode b_M_say 64 = .ok (.ireturn, 1) := by decide +kernel
theorem d_M_gather_0 : decode b_M_gather 0 = .ok (.aload_n 0, 1) := by decide +kernel
theorem d_M_gather_1 : decode b_M_gather 1 = .ok (.getfield 77, 3) := by decide +kernel
theorem d_M_gather_4 : decode b_M_gather 4 = .ok (.iload_n 2, 1) := by decide +kernel
theorem d_M_gather_5 : decode b_M_gather 5 = .ok (.iconst 0, 1) := by decide +kernel
theorem d_M_gather_6 : decode b_M_gather 6 = .ok (.iastore, 1) := by decide +kernel
theorem d_M_gather_7 : decode b_M_gather 7 = .ok (.iconst 0, 1) := by decide +kernel
theorem d_M_gather_8 : decode b_M_gather 8 = .ok (.istore_n 3, 1) := by decide +kernel
theorem d_M_gather_9 : decode b_M_gather 9 = .ok (.iload_n 3, 1) := by decide +kernel
theorem d_M_gather_10 : decode b_M_gather 10 = .ok (.aload_n 0, 1) := by decide +kernel
theorem d_M_gather_11 : decode b_M_gather 11 = .ok (.getfield 20, 3) := by decide +kernel
theorem d_M_gather_14 : decode b_M_gather 14 = .ok (.iload_n 1, 1) := by decide +kernel
theorem d_M_gather_15 : decode b_M_gather 15 = .ok (.iaload, 1) := by decide +kernel
theorem d_M_gather_16 : decode b_M_gather 16 = .ok (.if_icmp .ge 112, 3) := by decide +kernel
theorem d_M_gather_19 : decode b_M_gather 19 = .ok (.aload_n 0, 1) := by decide +kernel
theorem d_M_gather_20 : decode b_M_gather 20 = .ok (.aload_n 0, 1) := by decide +kernel
theorem d_M_gather_21 : decode b_M_gather 21 = .ok (.getfield 71, 3) := by decide +kernel
theorem d_M_gather_24 : decode b_M_gather 24 = .ok (.iload_n 2, 1) := by decide +kernel
theorem d_M_gather_25 : decode b_M_gather 25 = .ok (.laload, 1) := by decide +kernel
theorem d_M_gather_26 : decode b_M_gather 26 = .ok (.aload_n 0, 1) := by decide +kernel
theorem d_M_gather_27 : decode b_M_gather 27 = .ok (.getfield 26, 3) := by decide +kernel
theorem d_M_gather_30 : decode b_M_gather 30 = .ok (.bipush 24, 2) := by decide +kernel
theorem d_M_gather_32 : decode b_M_gather 32 = .ok (.iload_n 1, 1) := by decide +kernel
theorem d_M_gather_33 : decode b_M_gather 33 = .ok (.imul, 1) := by decide +kernel
theorem d_M_gather_34 : decode b_M_gather 34 = .ok (.iload_n 3, 1) := by decide +kernel
theorem d_M_gather_35 : decode b_M_gather 35 = .ok (.iadd, 1) := by decide +kernel
theorem d_M_gather_36 : decode b_M_gather 36 = .ok (.laload, 1) := by decide +kernel
theorem d_M_gather_37 : decode b_M_gather 37 = .ok (.invokevirtual 176, 3) := by decide +kernel
theorem d_M_gather_40 : decode b_M_gather 40 = .ok (.istore 4, 2) := by decide +kernel
theorem d_M_gather_42 : decode b_M_gather 42 = .ok (.iload 4, 2) := by decide +kernel
theorem d_M_gather_44 : decode b_M_gather 44 = .ok (.iconst 1, 1) := by decide +kernel
theorem d_M_gather_45 : decode b_M_gather 45 = .ok (.if_icmp .le 6, 3) := by decide +kernel
theorem d_M_gather_48 : decode b_M_gather 48 = .ok (.goto 74, 3) := by decide +kernel
theorem d_M_gather_51 : decode b_M_gather 51 = .ok (.aload_n 0, 1) := by decide +kernel
theorem d_M_gather_52 : decode b_M_gather 52 = .ok (.getfield 80, 3) := by decide +kernel
theorem d_M_gather_55 : decode b_M_gather 55 = .ok (.bipush 24, 2) := by decide +kernel
theorem d_M_gather_57 : decode b_M_gather 57 = .ok (.iload_n 2, 1) := by decide +kernel
theorem d_M_gather_58 : decode b_M_gather 58 = .ok (.imul, 1) := by decide +kernel
theorem d_M_gather_59 : decode b_M_gather 59 = .ok (.aload_n 0, 1) := by decide +kernel
theorem d_M_gather_60 : decode b_M_gather 60 = .ok (.getfield 77, 3) := by decide +kernel
theorem d_M_gather_63 : decode b_M_gather 63 = .ok (.iload_n 2, 1) := by decide +kernel
theorem d_M_gather_64 : decode b_M_gather 64 = .ok (.iaload, 1) := by decide +kernel
theorem d_M_gather_65 : decode b_M_gather 65 = .ok (.iadd, 1) := by decide +kernel
theorem d_M_gather_66 : decode b_M_gather 66 = .ok (.aload_n 0, 1) := by decide +kernel
theorem d_M_gather_67 : decode b_M_gather 67 = .ok (.getfield 26, 3) := by decide +kernel
theorem d_M_gather_70 : decode b_M_gather 70 = .ok (.bipush 24, 2) := by decide +kernel
theorem d_M_gather_72 : decode b_M_gather 72 = .ok (.iload_n 1, 1) := by decide +kernel
theorem d_M_gather_73 : decode b_M_gather 73 = .ok (.imul, 1) := by decide +kernel
theorem d_M_gather_74 : decode b_M_gather 74 = .ok (.iload_n 3, 1) := by decide +kernel
theorem d_M_gather_75 : decode b_M_gather 75 = .ok (.iadd, 1) := by decide +kernel
theorem d_M_gather_76 : decode b_M_gather 76 = .ok (.laload, 1) := by decide +kernel
theorem d_M_gather_77 : decode b_M_gather 77 = .ok (.lastore, 1) := by decide +kernel
theorem d_M_gather_78 : decode b_M_gather 78 = .ok (.aload_n 0, 1) := by decide +kernel
theorem d_M_gather_79 : decode b_M_gather 79 = .ok (.getfield 83, 3) := by decide +kernel
theorem d_M_gather_82 : decode b_M_gather 82 = .ok (.bipush 24, 2) := by decide +kernel
theorem d_M_gather_84 : decode b_M_gather 84 = .ok (.iload_n 2, 1) := by decide +kernel
theorem d_M_gather_85 : decode b_M_gather 85 = .ok (.imul, 1) := by decide +kernel
theorem d_M_gather_86 : decode b_M_gather 86 = .ok (.aload_n 0, 1) := by decide +kernel
theorem d_M_gather_87 : decode b_M_gather 87 = .ok (.getfield 77, 3) := by decide +kernel
theorem d_M_gather_90 : decode b_M_gather 90 = .ok (.iload_n 2, 1) := by decide +kernel
theorem d_M_gather_91 : decode b_M_gather 91 = .ok (.iaload, 1) := by decide +kernel
theorem d_M_gather_92 : decode b_M_gather 92 = .ok (.iadd, 1) := by decide +kernel
theorem d_M_gather_93 : decode b_M_gather 93 = .ok (.sipush 3000, 3) := by decide +kernel
theorem d_M_gather_96 : decode b_M_gather 96 = .ok (.iload 4, 2) := by decide +kernel
theorem d_M_gather_98 : decode b_M_gather 98 = .ok (.imul, 1) := by decide +kernel
theorem d_M_gather_99 : decode b_M_gather 99 = .ok (.aload_n 0, 1) := by decide +kernel
theorem d_M_gather_100 : decode b_M_gather 100 = .ok (.getfield 29, 3) := by decide +kernel
theorem d_M_gather_103 : decode b_M_gather 103 = .ok (.bipush 24, 2) := by decide +kernel
theorem d_M_gather_105 : decode b_M_gather 105 = .ok (.iload_n 1, 1) := by decide +kernel
theorem d_M_gather_106 : decode b_M_gather 106 = .ok (.imul, 1) := by decide +kernel
theorem d_M_gather_107 : decode b_M_gather 107 = .ok (.iload_n 3, 1) := by decide +kernel
theorem d_M_gather_108 : decode b_M_gather 108 = .ok (.iadd, 1) := by decide +kernel
theorem d_M_gather_109 : decode b_M_gather 109 = .ok (.iaload, 1) := by decide +kernel
theorem d_M_gather_110 : decode b_M_gather 110 = .ok (.iadd, 1) := by decide +kernel
theorem d_M_gather_111 : decode b_M_gather 111 = .ok (.iastore, 1) := by decide +kernel
theorem d_M_gather_112 : decode b_M_gather 112 = .ok (.aload_n 0, 1) := by decide +kernel
theorem d_M_gather_113 : decode b_M_gather 113 = .ok (.getfield 77, 3) := by decide +kernel
theorem d_M_gather_116 : decode b_M_gather 116 = .ok (.iload_n 2, 1) := by decide +kernel
theorem d_M_gather_117 : decode b_M_gather 117 = .ok (.dup2, 1) := by decide +kernel
theorem d_M_gather_118 : decode b_M_gather 118 = .ok (.iaload, 1) := by decide +kernel
theorem d_M_gather_119 : decode b_M_gather 119 = .ok (.iconst 1, 1) := by decide +kernel
theorem d_M_gather_120 : decode b_M_gather 120 = .ok (.iadd, 1) := by decide +kernel
theorem d_M_gather_121 : decode b_M_gather 121 = .ok (.iastore, 1) := by decide +kernel
theorem d_M_gather_122 : decode b_M_gather 122 = .ok (.iinc 3 1, 3) := by decide +kernel
theorem d_M_gather_125 : decode b_M_gather 125 = .ok (.goto (-116), 3) := by decide +kernel
theorem d_M_gather_128 : decode b_M_gather 128 = .ok (.aload_n 0, 1) := by decide +kernel
theorem d_M_gather_129 : decode b_M_gather 129 = .ok (.getfield 77, 3) := by decide +kernel
theorem d_M_gather_132 : decode b_M_gather 132 = .ok (.iload_n 2, 1) := by decide +kernel
theorem d_M_gather_133 : decode b_M_gather 133 = .ok (.iaload, 1) := by decide +kernel
theorem d_M_gather_134 : decode b_M_gather 134 = .ok (.ifCond .le 4, 3) := by decide +kernel
theorem d_M_gather_137 : decode b_M_gather 137 = .ok (.return_, 1) := by decide +kernel
theorem d_M_gather_138 : decode b_M_gather 138 = .ok (.aload_n 0, 1) := by decide +kernel
theorem d_M_gather_139 : decode b_M_gather 139 = .ok (.getfield 77, 3) := by decide +kernel
theorem d_M_gather_142 : decode b_M_gather 142 = .ok (.iload_n 2, 1) := by decide +kernel
theorem d_M_gather_143 : decode b_M_gather 143 = .ok (.iconst 1, 1) := by decide +kernel
theorem d_M_gather_144 : decode b_M_gather 144 = .ok (.iastore, 1) := by decide +kernel
theorem d_M_gather_145 : decode b_M_gather 145 = .ok (.aload_n 0, 1) := by decide +kernel
theorem d_M_gather_146 : decode b_M_gather 146 = .ok (.getfield 80, 3) := by decide +kernel
theorem d_M_gather_149 : decode b_M_gather 149 = .ok (.bipush 24, 2) := by decide +kernel
theorem d_M_gather_151 : decode b_M_gather 151 = .ok (.iload_n 2, 1) := by decide +kernel
theorem d_M_gather_152 : decode b_M_gather 152 = .ok (.imul, 1) := by decide +kernel
theorem d_M_gather_153 : decode b_M_gather 153 = .ok (.aload_n 0, 1) := by decide +kernel
theorem d_M_gather_154 : decode b_M_gather 154 = .ok (.getfield 71, 3) := by decide +kernel
theorem d_M_gather_157 : decode b_M_gather 157 = .ok (.iload_n 2, 1) := by decide +kernel
theorem d_M_gather_158 : decode b_M_gather 158 = .ok (.laload, 1) := by decide +kernel
theorem d_M_gather_159 : decode b_M_gather 159 = .ok (.lastore, 1) := by decide +kernel
theorem d_M_gather_160 : decode b_M_gather 160 = .ok (.aload_n 0, 1) := by decide +kernel
theorem d_M_gather_161 : decode b_M_gather 161 = .ok (.getfield 83, 3) := by decide +kernel
theorem d_M_gather_164 : decode b_M_gather 164 = .ok (.bipush 24, 2) := by decide +kernel
theorem d_M_gather_166 : decode b_M_gather 166 = .ok (.iload_n 2, 1) := by decide +kernel
theorem d_M_gather_167 : decode b_M_gather 167 = .ok (.imul, 1) := by decide +kernel
theorem d_M_gather_168 : decode b_M_gather 168 = .ok (.sipush 20000, 3) := by decide +kernel
theorem d_M_gather_171 : decode b_M_gather 171 = .ok (.iastore, 1) := by decide +kernel
theorem d_M_gather_172 : decode b_M_gather 172 = .ok (.return_, 1) := by decide +kernel
theorem d_M_costOf_0 : decode b_M_costOf 0 = .ok (.iconst 0, 1) := by decide +kernel
theorem d_M_costOf_1 : decode b_M_costOf 1 = .ok (.istore_n 2, 1) := by decide +kernel
theorem d_M_costOf_2 : decode b_M_costOf 2 = .ok (.iconst 0, 1) := by decide +kernel
theorem d_M_costOf_3 : decode b_M_costOf 3 = .ok (.istore_n 3, 1) := by decide +kernel
theorem d_M_costOf_4 : decode b_M_costOf 4 = .ok (.iload_n 3, 1) := by decide +kernel
theorem d_M_costOf_5 : decode b_M_costOf 5 = .ok (.iload_n 1, 1) := by decide +kernel
theorem d_M_costOf_6 : decode b_M_costOf 6 = .ok (.if_icmp .ge 119, 3) := by decide +kernel
theorem d_M_costOf_9 : decode b_M_costOf 9 = .ok (.iload_n 2, 1) := by decide +kernel
theorem d_M_costOf_10 : decode b_M_costOf 10 = .ok (.aload_n 0, 1) := by decide +kernel
theorem d_M_costOf_11 : decode b_M_costOf 11 = .ok (.getfield 83, 3) := by decide +kernel
theorem d_M_costOf_14 : decode b_M_costOf 14 = .ok (.bipush 24, 2) := by decide +kernel
theorem d_M_costOf_16 : decode b_M_costOf 16 = .ok (.iload_n 3, 1) := by decide +kernel
theorem d_M_costOf_17 : decode b_M_costOf 17 = .ok (.imul, 1) := by decide +kernel
theorem d_M_costOf_18 : decode b_M_costOf 18 = .ok (.aload_n 0, 1) := by decide +kernel
theorem d_M_costOf_19 : decode b_M_costOf 19 = .ok (.getfield 86, 3) := by decide +kernel
theorem d_M_costOf_22 : decode b_M_costOf 22 = .ok (.iload_n 3, 1) := by decide +kernel
theorem d_M_costOf_23 : decode b_M_costOf 23 = .ok (.iaload, 1) := by decide +kernel
theorem d_M_costOf_24 : decode b_M_costOf 24 = .ok (.iadd, 1) := by decide +kernel
theorem d_M_costOf_25 : decode b_M_costOf 25 = .ok (.iaload, 1) := by decide +kernel
theorem d_M_costOf_26 : decode b_M_costOf 26 = .ok (.iadd, 1) := by decide +kernel
theorem d_M_costOf_27 : decode b_M_costOf 27 = .ok (.istore_n 2, 1) := by decide +kernel
theorem d_M_costOf_28 : decode b_M_costOf 28 = .ok (.iload_n 3, 1) := by decide +kernel
theorem d_M_costOf_29 : decode b_M_costOf 29 = .ok (.ifCond .ne 6, 3) := by decide +kernel
theorem d_M_costOf_32 : decode b_M_costOf 32 = .ok (.goto 87, 3) := by decide +kernel
theorem d_M_costOf_35 : decode b_M_costOf 35 = .ok (.aload_n 0, 1) := by decide +kernel
theorem d_M_costOf_36 : decode b_M_costOf 36 = .ok (.aload_n 0, 1) := by decide +kernel
theorem d_M_costOf_37 : decode b_M_costOf 37 = .ok (.getfield 80, 3) := by decide +kernel
theorem d_M_costOf_40 : decode b_M_costOf 40 = .ok (.bipush 24, 2) := by decide +kernel
theorem d_M_costOf_42 : decode b_M_costOf 42 = .ok (.iload_n 3, 1) := by decide +kernel
theorem d_M_costOf_43 : decode b_M_costOf 43 = .ok (.imul, 1) := by decide +kernel
theorem d_M_costOf_44 : decode b_M_costOf 44 = .ok (.bipush 24, 2) := by decide +kernel
theorem d_M_costOf_46 : decode b_M_costOf 46 = .ok (.isub, 1) := by decide +kernel
theorem d_M_costOf_47 : decode b_M_costOf 47 = .ok (.aload_n 0, 1) := by decide +kernel
theorem d_M_costOf_48 : decode b_M_costOf 48 = .ok (.getfield 86, 3) := by decide +kernel
theorem d_M_costOf_51 : decode b_M_costOf 51 = .ok (.iload_n 3, 1) := by decide +kernel
theorem d_M_costOf_52 : decode b_M_costOf 52 = .ok (.iconst 1, 1) := by decide +kernel
theorem d_M_costOf_53 : decode b_M_costOf 53 = .ok (.isub, 1) := by decide +kernel
theorem d_M_costOf_54 : decode b_M_costOf 54 = .ok (.iaload, 1) := by decide +kernel
theorem d_M_costOf_55 : decode b_M_costOf 55 = .ok (.iadd, 1) := by decide +kernel
theorem d_M_costOf_56 : decode b_M_costOf 56 = .ok (.laload, 1) := by decide +kernel
theorem d_M_costOf_57 : decode b_M_costOf 57 = .ok (.aload_n 0, 1) := by decide +kernel
theorem d_M_costOf_58 : decode b_M_costOf 58 = .ok (.getfield 80, 3) := by decide +kernel
theorem d_M_costOf_61 : decode b_M_costOf 61 = .ok (.bipush 24, 2) := by decide +kernel
theorem d_M_costOf_63 : decode b_M_costOf 63 = .ok (.iload_n 3, 1) := by decide +kernel
theorem d_M_costOf_64 : decode b_M_costOf 64 = .ok (.imul, 1) := by decide +kernel
theorem d_M_costOf_65 : decode b_M_costOf 65 = .ok (.aload_n 0, 1) := by decide +kernel
theorem d_M_costOf_66 : decode b_M_costOf 66 = .ok (.getfield 86, 3) := by decide +kernel
theorem d_M_costOf_69 : decode b_M_costOf 69 = .ok (.iload_n 3, 1) := by decide +kernel
theorem d_M_costOf_70 : decode b_M_costOf 70 = .ok (.iaload, 1) := by decide +kernel
theorem d_M_costOf_71 : decode b_M_costOf 71 = .ok (.iadd, 1) := by decide +kernel
theorem d_M_costOf_72 : decode b_M_costOf 72 = .ok (.laload, 1) := by decide +kernel
theorem d_M_costOf_73 : decode b_M_costOf 73 = .ok (.invokevirtual 182, 3) := by decide +kernel
theorem d_M_costOf_76 : decode b_M_costOf 76 = .ok (.istore 4, 2) := by decide +kernel
theorem d_M_costOf_78 : decode b_M_costOf 78 = .ok (.iload 4, 2) := by decide +kernel
theorem d_M_costOf_80 : decode b_M_costOf 80 = .ok (.aload_n 0, 1) := by decide +kernel
theorem d_M_costOf_81 : decode b_M_costOf 81 = .ok (.getfield 179, 3) := by decide +kernel
theorem d_M_costOf_84 : decode b_M_costOf 84 = .ok (.if_icmp .ge 13, 3) := by decide +kernel
theorem d_M_costOf_87 : decode b_M_costOf 87 = .ok (.aload_n 0, 1) := by decide +kernel
theorem d_M_costOf_88 : decode b_M_costOf 88 = .ok (.getfield 68, 3) := by decide +kernel
theorem d_M_costOf_91 : decode b_M_costOf 91 = .ok (.iload 4, 2) := by decide +kernel
theorem d_M_costOf_93 : decode b_M_costOf 93 = .ok (.iaload, 1) := by decide +kernel
theorem d_M_costOf_94 : decode b_M_costOf 94 = .ok (.goto 4, 3) := by decide +kernel
theorem d_M_costOf_97 : decode b_M_costOf 97 = .ok (.iconst 0, 1) := by decide +kernel
theorem d_M_costOf_98 : decode b_M_costOf 98 = .ok (.istore 5, 2) := by decide +kernel
theorem d_M_costOf_100 : decode b_M_costOf 100 = .ok (.iload_n 2, 1) := by decide +kernel
theorem d_M_costOf_101 : decode b_M_costOf 101 = .ok (.sipush 400, 3) := by decide +kernel
theorem d_M_costOf_104 : decode b_M_costOf 104 = .ok (.iload 5, 2) := by decide +kernel
theorem d_M_costOf_106 : decode b_M_costOf 106 = .ok (.iconst 5, 1) := by decide +kernel
theorem d_M_costOf_107 : decode b_M_costOf 107 = .ok (.if_icmp .ge 8, 3) := by decide +kernel
theorem d_M_costOf_110 : decode b_M_costOf 110 = .ok (.iload 5, 2) := by decide +kernel
theorem d_M_costOf_112 : decode b_M_costOf 112 = .ok (.goto 4, 3) := by decide +kernel
theorem d_M_costOf_115 : decode b_M_costOf 115 = .ok (.iconst 5, 1) := by decide +kernel
theorem d_M_costOf_116 : decode b_M_costOf 116 = .ok (.imul, 1) := by decide +kernel
theorem d_M_costOf_117 : decode b_M_costOf 117 = .ok (.isub, 1) := by decide +kernel
theorem d_M_costOf_118 : decode b_M_costOf 118 = .ok (.istore_n 2, 1) := by decide +kernel
theorem d_M_costOf_119 : decode b_M_costOf 119 = .ok (.iinc 3 1, 3) := by decide +kernel
theorem d_M_costOf_122 : decode b_M_costOf 122 = .ok (.goto (-118), 3) := by decide +kernel
theorem d_M_costOf_125 : decode b_M_costOf 125 = .ok (.iload_n 2, 1) := by decide +kernel
theorem d_M_costOf_126 : decode b_M_costOf 126 = .ok (.ireturn, 1) := by decide +kernel
theorem d_M_next_0 : decode b_M_next 0 = .ok (.iload_n 1, 1) := by decide +kernel
theorem d_M_next_1 : decode b_M_next 1 = .ok (.iconst 1, 1) := by decide +kernel
theorem d_M_next_2 : decode b_M_next 2 = .ok (.isub, 1) := by decide +kernel
theorem d_M_next_3 : decode b_M_next 3 = .ok (.istore_n 2, 1) := by decide +kernel
theorem d_M_next_4 : decode b_M_next 4 = .ok (.iload_n 2, 1) := by decide +kernel
theorem d_M_next_5 : decode b_M_next 5 = .ok (.ifCond .lt 43, 3) := by decide +kernel
theorem d_M_next_8 : decode b_M_next 8 = .ok (.aload_n 0, 1) := by decide +kernel
theorem d_M_next_9 : decode b_M_next 9 = .ok (.getfield 86, 3) := by decide +kernel
theorem d_M_next_12 : decode b_M_next 12 = .ok (.iload_n 2, 1) := by decide +kernel
theorem d_M_next_13 : decode b_M_next 13 = .ok (.dup2, 1) := by decide +kernel
theorem d_M_next_14 : decode b_M_next 14 = .ok (.iaload, 1) := by decide +kernel
theorem d_M_next_15 : decode b_M_next 15 = .ok (.iconst 1, 1) := by decide +kernel
theorem d_M_next_16 : decode b_M_next 16 = .ok (.iadd, 1) := by decide +kernel
theorem d_M_next_17 : decode b_M_next 17 = .ok (.iastore, 1) := by decide +kernel
theorem d_M_next_18 : decode b_M_next 18 = .ok (.aload_n 0, 1) := by decide +kernel
theorem d_M_next_19 : decode b_M_next 19 = .ok (.getfield 86, 3) := by decide +kernel
theorem d_M_next_22 : decode b_M_next 22 = .ok (.iload_n 2, 1) := by decide +kernel
theorem d_M_next_23 : decode b_M_next 23 = .ok (.iaload, 1) := by decide +kernel
theorem d_M_next_24 : decode b_M_next 24 = .ok (.aload_n 0, 1) := by decide +kernel
theorem d_M_next_25 : decode b_M_next 25 = .ok (.getfield 77, 3) := by decide +kernel
theorem d_M_next_28 : decode b_M_next 28 = .ok (.iload_n 2, 1) := by decide +kernel
theorem d_M_next_29 : decode b_M_next 29 = .ok (.iaload, 1) := by decide +kernel
theorem d_M_next_30 : decode b_M_next 30 = .ok (.if_icmp .ge 5, 3) := by decide +kernel
theorem d_M_next_33 : decode b_M_next 33 = .ok (.iconst 1, 1) := by decide +kernel
theorem d_M_next_34 : decode b_M_next 34 = .ok (.ireturn, 1) := by decide +kernel
theorem d_M_next_35 : decode b_M_next 35 = .ok (.aload_n 0, 1) := by decide +kernel
theorem d_M_next_36 : decode b_M_next 36 = .ok (.getfield 86, 3) := by decide +kernel
theorem d_M_next_39 : decode b_M_next 39 = .ok (.iload_n 2, 1) := by decide +kernel
theorem d_M_next_40 : decode b_M_next 40 = .ok (.iconst 0, 1) := by decide +kernel
theorem d_M_next_41 : decode b_M_next 41 = .ok (.iastore, 1) := by decide +kernel
theorem d_M_next_42 : decode b_M_next 42 = .ok (.iinc 2 (-1), 3) := by decide +kernel
theorem d_M_next_45 : decode b_M_next 45 = .ok (.goto (-41), 3) := by decide +kernel
theorem d_M_next_48 : decode b_M_next 48 = .ok (.iconst 0, 1) := by decide +kernel
theorem d_M_next_49 : decode b_M_next 49 = .ok (.ireturn, 1) := by decide +kernel
theorem d_M_correct_0 : decode b_M_correct 0 = .ok (.aload_n 0, 1) := by decide +kernel
theorem d_M_correct_1 : decode b_M_correct 1 = .ok (.getfield 185, 3) := by decide +kernel
theorem d_M_correct_4 : decode b_M_correct 4 = .ok (.istore_n 2, 1) := by decide +kernel
theorem d_M_correct_5 : decode b_M_correct 5 = .ok (.aload_n 0, 1) := by decide +kernel
theorem d_M_correct_6 : decode b_M_correct 6 = .ok (.iload_n 1, 1) := by decide +kernel
theorem d_M_correct_7 : decode b_M_correct 7 = .ok (.invokevirtual 135, 3) := by decide +kernel
theorem d_M_correct_10 : decode b_M_correct 10 = .ok (.istore_n 3, 1) := by decide +kernel
theorem d_M_correct_11 : decode b_M_correct 11 = .ok (.aload_n 0, 1) := by decide +kernel
theorem d_M_correct_12 : decode b_M_correct 12 = .ok (.iconst 0, 1) := by decide +kernel
theorem d_M_correct_13 : decode b_M_correct 13 = .ok (.putfield 185, 3) := by decide +kernel
theorem d_M_correct_16 : decode b_M_correct 16 = .ok (.aload_n 0, 1) := by decide +kernel
theorem d_M_correct_17 : decode b_M_correct 17 = .ok (.iload_n 3, 1) := by decide +kernel
theorem d_M_correct_18 : decode b_M_correct 18 = .ok (.ifCond .ge 7, 3) := by decide +kernel
theorem d_M_correct_21 : decode b_M_correct 21 = .ok (.iconst 1, 1) := by decide +kernel
theorem d_M_correct_22 : decode b_M_correct 22 = .ok (.goto 4, 3) := by decide +kernel
theorem d_M_correct_25 : decode b_M_correct 25 = .ok (.iconst 0, 1) := by decide +kernel
theorem d_M_correct_26 : decode b_M_correct 26 = .ok (.iload_n 2, 1) := by decide +kernel
theorem d_M_correct_27 : decode b_M_correct 27 = .ok (.ifCond .ne 7, 3) := by decide +kernel
theorem d_M_correct_30 : decode b_M_correct 30 = .ok (.iconst 1, 1) := by decide +kernel
theorem d_M_correct_31 : decode b_M_correct 31 = .ok (.goto 4, 3) := by decide +kernel
theorem d_M_correct_34 : decode b_M_correct 34 = .ok (.iconst 0, 1) := by decide +kernel
theorem d_M_correct_35 : decode b_M_correct 35 = .ok (.invokevirtual 117, 3) := by decide +kernel
theorem d_M_correct_38 : decode b_M_correct 38 = .ok (.ifCond .eq 5, 3) := by decide +kernel
theorem d_M_correct_41 : decode b_M_correct 41 = .ok (.iconst 0, 1) := by decide +kernel
theorem d_M_correct_42 : decode b_M_correct 42 = .ok (.ireturn, 1) := by decide +kernel
theorem d_M_correct_43 : decode b_M_correct 43 = .ok (.iconst 0, 1) := by decide +kernel
theorem d_M_correct_44 : decode b_M_correct 44 = .ok (.istore 4, 2) := by decide +kernel
theorem d_M_correct_46 : decode b_M_correct 46 = .ok (.iload 4, 2) := by decide +kernel
theorem d_M_correct_48 : decode b_M_correct 48 = .ok (.iload_n 2, 1) := by decide +kernel
theorem d_M_correct_49 : decode b_M_correct 49 = .ok (.if_icmp .ge 24, 3) := by decide +kernel
theorem d_M_correct_52 : decode b_M_correct 52 = .ok (.aload_n 0, 1) := by decide +kernel
theorem d_M_correct_53 : decode b_M_correct 53 = .ok (.iload_n 3, 1) := by decide +kernel
theorem d_M_correct_54 : decode b_M_correct 54 = .ok (.iload 4, 2) := by decide +kernel
theorem d_M_correct_56 : decode b_M_correct 56 = .ok (.invokevirtual 188, 3) := by decide +kernel
theorem d_M_correct_59 : decode b_M_correct 59 = .ok (.aload_n 0, 1) := by decide +kernel
theorem d_M_correct_60 : decode b_M_correct 60 = .ok (.getfield 86, 3) := by decide +kernel
theorem d_M_correct_63 : decode b_M_correct 63 = .ok (.iload 4, 2) := by decide +kernel
theorem d_M_correct_65 : decode b_M_correct 65 = .ok (.iconst 0, 1) := by decide +kernel
theorem d_M_correct_66 : decode b_M_correct 66 = .ok (.iastore, 1) := by decide +kernel
theorem d_M_correct_67 : decode b_M_correct 67 = .ok (.iinc 4 1, 3) := by decide +kernel
theorem d_M_correct_70 : decode b_M_correct 70 = .ok (.goto (-24), 3) := by decide +kernel
theorem d_M_correct_73 : decode b_M_correct 73 = .ok (.ldc 191, 2) := by decide +kernel
theorem d_M_correct_75 : decode b_M_correct 75 = .ok (.istore 4, 2) := by decide +kernel
theorem d_M_correct_77 : decode b_M_correct 77 = .ok (.iconst 1, 1) := by decide +kernel
theorem d_M_correct_78 : decode b_M_correct 78 = .ok (.istore 5, 2) := by decide +kernel
theorem d_M_correct_80 : decode b_M_correct 80 = .ok (.iload 5, 2) := by decide +kernel
theorem d_M_correct_82 : decode b_M_correct 82 = .ok (.ifCond .eq 83, 3) := by decide +kernel
theorem d_M_correct_85 : decode b_M_correct 85 = .ok (.aload_n 0, 1) := by decide +kernel
theorem d_M_correct_86 : decode b_M_correct 86 = .ok (.iload_n 2, 1) := by decide +kernel
theorem d_M_correct_87 : decode b_M_correct 87 = .ok (.invokevirtual 192, 3) := by decide +kernel
theorem d_M_correct_90 : decode b_M_correct 90 = .ok (.istore 6, 2) := by decide +kernel
theorem d_M_correct_92 : decode b_M_correct 92 = .ok (.iconst 0, 1) := by decide +kernel
theorem d_M_correct_93 : decode b_M_correct 93 = .ok (.istore 7, 2) := by decide +kernel
theorem d_M_correct_95 : decode b_M_correct 95 = .ok (.iload 7, 2) := by decide +kernel
theorem d_M_correct_97 : decode b_M_correct 97 = .ok (.iload_n 2, 1) := by decide +kernel
theorem d_M_correct_98 : decode b_M_correct 98 = .ok (.if_icmp .ge 41, 3) := by decide +kernel
theorem d_M_correct_101 : decode b_M_correct 101 = .ok (.iload 6, 2) := by decide +kernel
theorem d_M_correct_103 : decode b_M_correct 103 = .ok (.iload 4, 2) := by decide +kernel
theorem d_M_correct_105 : decode b_M_correct 105 = .ok (.if_icmp .ge 34, 3) := by decide +kernel
theorem d_M_correct_108 : decode b_M_correct 108 = .ok (.aload_n 0, 1) := by decide +kernel
theorem d_M_correct_109 : decode b_M_correct 109 = .ok (.getfield 74, 3) := by decide +kernel
theorem d_M_correct_112 : decode b_M_correct 112 = .ok (.iload 7, 2) := by decide +kernel
theorem d_M_correct_114 : decode b_M_correct 114 = .ok (.aload_n 0, 1) := by decide +kernel
theorem d_M_correct_115 : decode b_M_correct 115 = .ok (.getfield 80, 3) := by decide +kernel
theorem d_M_correct_118 : decode b_M_correct 118 = .ok (.bipush 24, 2) := by decide +kernel
theorem d_M_correct_120 : decode b_M_correct 120 = .ok (.iload 7, 2) := by decide +kernel
theorem d_M_correct_122 : decode b_M_correct 122 = .ok (.imul, 1) := by decide +kernel
theorem d_M_correct_123 : decode b_M_correct 123 = .ok (.aload_n 0, 1) := by decide +kernel
theorem d_M_correct_124 : decode b_M_correct 124 = .ok (.getfield 86, 3) := by decide +kernel
theorem d_M_correct_127 : decode b_M_correct 127 = .ok (.iload 7, 2) := by decide +kernel
theorem d_M_correct_129 : decode b_M_correct 129 = .ok (.iaload, 1) := by decide +kernel
theorem d_M_correct_130 : decode b_M_correct 130 = .ok (.iadd, 1) := by decide +kernel
theorem d_M_correct_131 : decode b_M_correct 131 = .ok (.laload, 1) := by decide +kernel
theorem d_M_correct_132 : decode b_M_correct 132 = .ok (.lastore, 1) := by decide +kernel
theorem d_M_correct_133 : decode b_M_correct 133 = .ok (.iinc 7 1, 3) := by decide +kernel
theorem d_M_correct_136 : decode b_M_correct 136 = .ok (.goto (-41), 3) := by decide +kernel
theorem d_M_correct_139 : decode b_M_correct 139 = .ok (.iload 6, 2) := by decide +kernel
theorem d_M_correct_141 : decode b_M_correct 141 = .ok (.iload 4, 2) := by decide +kernel
theorem d_M_correct_143 : decode b_M_correct 143 = .ok (.if_icmp .ge 8, 3) := by decide +kernel
theorem d_M_correct_146 : decode b_M_correct 146 = .ok (.iload 6, 2) := by decide +kernel
theorem d_M_correct_148 : decode b_M_correct 148 = .ok (.goto 5, 3) := by decide +kernel
theorem d_M_correct_151 : decode b_M_correct 151 = .ok (.iload 4, 2) := by decide +kernel
theorem d_M_correct_153 : decode b_M_correct 153 = .ok (.istore 4, 2) := by decide +kernel
theorem d_M_correct_155 : decode b_M_correct 155 = .ok (.aload_n 0, 1) := by decide +kernel
theorem d_M_correct_156 : decode b_M_correct 156 = .ok (.iload_n 2, 1) := by decide +kernel
theorem d_M_correct_157 : decode b_M_correct 157 = .ok (.invokevirtual 195, 3) := by decide +kernel
theorem d_M_correct_160 : decode b_M_correct 160 = .ok (.istore 5, 2) := by decide +kernel
theorem d_M_correct_162 : decode b_M_correct 162 = .ok (.goto (-82), 3) := by decide +kernel
theorem d_M_correct_165 : decode b_M_correct 165 = .ok (.aload_n 0, 1) := by decide +kernel
theorem d_M_correct_166 : decode b_M_correct 166 = .ok (.iload_n 2, 1) := by decide +kernel
theorem d_M_correct_167 : decode b_M_correct 167 = .ok (.putfield 199, 3) := by decide +kernel
theorem d_M_correct_170 : decode b_M_correct 170 = .ok (.iload 4, 2) := by decide +kernel
theorem d_M_correct_172 : decode b_M_correct 172 = .ok (.ireturn, 1) := by decide +kernel
theorem d_M_corrected_0 : decode b_M_corrected 0 = .ok (.aload_n 0, 1) := by decide +kernel
theorem d_M_corrected_1 : decode b_M_corrected 1 = .ok (.iload_n 1, 1) := by decide +kernel
theorem d_M_corrected_2 : decode b_M_corrected 2 = .ok (.ifCond .lt 11, 3) := by decide +kernel
theorem d_M_corrected_5 : decode b_M_corrected 5 = .ok (.iload_n 1, 1) := by decide +kernel
theorem d_M_corrected_6 : decode b_M_corrected 6 = .ok (.aload_n 0, 1) := by decide +kernel
theorem d_M_corrected_7 : decode b_M_corrected 7 = .ok (.getfield 199, 3) := by decide +kernel
theorem d_M_corrected_10 : decode b_M_corrected 10 = .ok (.if_icmp .lt 7, 3) := by decide +kernel
theorem d_M_corrected_13 : decode b_M_corrected 13 = .ok (.iconst 1, 1) := by decide +kernel
theorem d_M_corrected_14 : decode b_M_corrected 14 = .ok (.goto 4, 3) := by decide +kernel
theorem d_M_corrected_17 : decode b_M_corrected 17 = .ok (.iconst 0, 1) := by decide +kernel
theorem d_M_corrected_18 : decode b_M_corrected 18 = .ok (.iconst 0, 1) := by decide +kernel
theorem d_M_corrected_19 : decode b_M_corrected 19 = .ok (.invokevirtual 117, 3) := by decide +kernel
theorem d_M_corrected_22 : decode b_M_corrected 22 = .ok (.ifCond .eq 7, 3) := by decide +kernel
theorem d_M_corrected_25 : decode b_M_corrected 25 = .ok (.lconst 0, 1) := by decide +kernel
theorem d_M_corrected_26 : decode b_M_corrected 26 = .ok (.goto 9, 3) := by decide +kernel
theorem d_M_corrected_29 : decode b_M_corrected 29 = .ok (.aload_n 0, 1) := by decide +kernel
theorem d_M_corrected_30 : decode b_M_corrected 30 = .ok (.getfield 74, 3) := by decide +kernel
theorem d_M_corrected_33 : decode b_M_corrected 33 = .ok (.iload_n 1, 1) := by decide +kernel
theorem d_M_corrected_34 : decode b_M_corrected 34 = .ok (.laload, 1) := by decide +kernel
theorem d_M_corrected_35 : decode b_M_corrected 35 = .ok (.lreturn, 1) := by decide +kernel
end
section
theorem fs_Automaton (k : Nat) : Fs k T_Automaton 6 ty_Automaton := ⟨by decide +kernel, by decide +kernel⟩
theorem fs_Dictionary (k : Nat) : Fs k T_Dictionary 5 ty_Dictionary := ⟨by decide +kernel, by decide +kernel⟩
theorem fs_Pairs (k : Nat) : Fs k T_Pairs 4 ty_Pairs := ⟨by decide +kernel, by decide +kernel⟩
theorem fs_Phrase (k : Nat) : Fs k T_Phrase 8 ty_Phrase := ⟨by decide +kernel, by decide +kernel⟩
theorem fs_Ruler (k : Nat) : Fs k T_Ruler 1 ty_Ruler := ⟨by decide +kernel, by decide +kernel⟩
theorem fs_Suggestions (k : Nat) : Fs k T_Suggestions 4 ty_Suggestions := ⟨by decide +kernel, by decide +kernel⟩
theorem fs_WordList (k : Nat) : Fs k T_WordList 3 ty_WordList := ⟨by decide +kernel, by decide +kernel⟩
theorem fs_S (k : Nat) : Fs k T_S 8 ty_S := ⟨by decide +kernel, by decide +kernel⟩
theorem fs_M (k : Nat) : Fs k T_M 35 ty_M := ⟨by decide +kernel, by decide +kernel⟩
theorem wl_Automaton_3 : Cond.methodLink "SuggestDesk$Automaton" 3 objectInit ∈ AL := AL_in (List.mem_append_right _ (List.mem_of_getElem? (i := 75) (by decide +kernel))) (by decide +kernel)
theorem woi_n : Cond.instanceMethod objectInit ∈ AL := AL_in (List.mem_append_right _ (List.mem_of_getElem? (i := 25) (by decide +kernel))) (by decide +kernel)
theorem woi_c : Cond.code objectInit ⟨#[0xb1]⟩ 1 none ∈ AL := AL_in (List.mem_append_right _ (List.mem_of_getElem? (i := 26) (by decide +kernel))) (by decide +kernel)
theorem oi_Automaton_3 : Cond.methodLink "SuggestDesk$Automaton" 3 objectInit ∈ AL ∧ Cond.instanceMethod objectInit ∈ AL ∧ Cond.code objectInit ⟨#[0xb1]⟩ 1 none ∈ AL := ⟨wl_Automaton_3, woi_n, woi_c⟩
theorem wa_int : Cond.arrayClass .int ∈ AL := AL_in (List.mem_append_right _ (List.mem_of_getElem? (i := 44) (by decide +kernel))) (by decide +kernel)
theorem la_Automaton_0 : u_lay "SuggestDesk$Automaton" T_Automaton 0 ∈ AL := AL_in (List.mem_append_right _ (List.mem_of_getElem? (i := 82) (by decide +kernel))) (by decide +kernel)
theorem la_Automaton_1 : u_lay "SuggestDesk$Automaton" T_Automaton 1 ∈ AL := AL_in (List.mem_append_right _ (List.mem_of_getElem? (i := 84) (by decide +kernel))) (by decide +kernel)
theorem la_Automaton_2 : u_lay "SuggestDesk$Automaton" T_Automaton 2 ∈ AL := AL_in (List.mem_append_right _ (List.mem_of_getElem? (i := 86) (by decide +kernel))) (by decide +kernel)
theorem la_Automaton_3 : u_lay "SuggestDesk$Automaton" T_Automaton 3 ∈ AL := AL_in (List.mem_append_right _ (List.mem_of_getElem? (i := 88) (by decide +kernel))) (by decide +kernel)
theorem la_Automaton_4 : u_lay "SuggestDesk$Automaton" T_Automaton 4 ∈ AL := AL_in (List.mem_append_right _ (List.mem_of_getElem? (i := 90) (by decide +kernel))) (by decide +kernel)
theorem la_Automaton_5 : u_lay "SuggestDesk$Automaton" T_Automaton 5 ∈ AL := AL_in (List.mem_append_right _ (List.mem_of_getElem? (i := 92) (by decide +kernel))) (by decide +kernel)
theorem la_Automaton : ∀ w ∈ u_ws "SuggestDesk$Automaton" T_Automaton 6, w ∈ AL := by
  intro w hw
  obtain ⟨k, hk, rfl⟩ := List.mem_map.mp hw
  have hk := List.mem_range.mp hk
  rcases (show k = 0 ∨ k = 1 ∨ k = 2 ∨ k = 3 ∨ k = 4 ∨ k = 5 by omega) with rfl | rfl | rfl | rfl | rfl | rfl
  · exact la_Automaton_0
  · exact la_Automaton_1
  · exact la_Automaton_2
  · exact la_Automaton_3
  · exact la_Automaton_4
  · exact la_Automaton_5
theorem wf_Automaton_11 : Cond.fieldLink "SuggestDesk$Automaton" 11 (T_Automaton 0).1 (T_Automaton 0).2.1 (T_Automaton 0).2.2.1 ∈ AL := AL_in (List.mem_append_right _ (List.mem_of_getElem? (i := 76) (by decide +kernel))) (by decide +kernel)
theorem fl_Automaton_11 : Fl "SuggestDesk$Automaton" 11 0 0 "SuggestDesk$Automaton" T_Automaton 6 := ⟨rfl, by decide, la_Automaton, Or.inl wf_Automaton_11⟩
theorem ff_Automaton_11 : vwCl[0]? = some ("SuggestDesk$Automaton", T_Automaton, 6) ∧ 0 < 6 ∧ (∀ w ∈ u_ws "SuggestDesk$Automaton" T_Automaton 6, w ∈ AL) ∧ Cond.fieldLink "SuggestDesk$Automaton" 11 (T_Automaton 0).1 (T_Automaton 0).2.1 (T_Automaton 0).2.2.1 ∈ AL := ⟨rfl, by decide, la_Automaton, wf_Automaton_11⟩
theorem wf_Automaton_15 : Cond.fieldLink "SuggestDesk$Automaton" 15 (T_Automaton 1).1 (T_Automaton 1).2.1 (T_Automaton 1).2.2.1 ∈ AL := AL_in (List.mem_append_right _ (List.mem_of_getElem? (i := 77) (by decide +kernel))) (by decide +kernel)
theorem fl_Automaton_15 : Fl "SuggestDesk$Automaton" 15 0 1 "SuggestDesk$Automaton" T_Automaton 6 := ⟨rfl, by decide, la_Automaton, Or.inl wf_Automaton_15⟩
theorem ff_Automaton_15 : vwCl[0]? = some ("SuggestDesk$Automaton", T_Automaton, 6) ∧ 1 < 6 ∧ (∀ w ∈ u_ws "SuggestDesk$Automaton" T_Automaton 6, w ∈ AL) ∧ Cond.fieldLink "SuggestDesk$Automaton" 15 (T_Automaton 1).1 (T_Automaton 1).2.1 (T_Automaton 1).2.2.1 ∈ AL := ⟨rfl, by decide, la_Automaton, wf_Automaton_15⟩
theorem wf_Automaton_18 : Cond.fieldLink "SuggestDesk$Automaton" 18 (T_Automaton 2).1 (T_Automaton 2).2.1 (T_Automaton 2).2.2.1 ∈ AL := AL_in (List.mem_append_right _ (List.mem_of_getElem? (i := 78) (by decide +kernel))) (by decide +kernel)
theorem fl_Automaton_18 : Fl "SuggestDesk$Automaton" 18 0 2 "SuggestDesk$Automaton" T_Automaton 6 := ⟨rfl, by decide, la_Automaton, Or.inl wf_Automaton_18⟩
theorem ff_Automaton_18 : vwCl[0]? = some ("SuggestDesk$Automaton", T_Automaton, 6) ∧ 2 < 6 ∧ (∀ w ∈ u_ws "SuggestDesk$Automaton" T_Automaton 6, w ∈ AL) ∧ Cond.fieldLink "SuggestDesk$Automaton" 18 (T_Automaton 2).1 (T_Automaton 2).2.1 (T_Automaton 2).2.2.1 ∈ AL := ⟨rfl, by decide, la_Automaton, wf_Automaton_18⟩
theorem wf_Automaton_21 : Cond.fieldLink "SuggestDesk$Automaton" 21 (T_Automaton 3).1 (T_Automaton 3).2.1 (T_Automaton 3).2.2.1 ∈ AL := AL_in (List.mem_append_right _ (List.mem_of_getElem? (i := 79) (by decide +kernel))) (by decide +kernel)
theorem fl_Automaton_21 : Fl "SuggestDesk$Automaton" 21 0 3 "SuggestDesk$Automaton" T_Automaton 6 := ⟨rfl, by decide, la_Automaton, Or.inl wf_Automaton_21⟩
theorem ff_Automaton_21 : vwCl[0]? = some ("SuggestDesk$Automaton", T_Automaton, 6) ∧ 3 < 6 ∧ (∀ w ∈ u_ws "SuggestDesk$Automaton" T_Automaton 6, w ∈ AL) ∧ Cond.fieldLink "SuggestDesk$Automaton" 21 (T_Automaton 3).1 (T_Automaton 3).2.1 (T_Automaton 3).2.2.1 ∈ AL := ⟨rfl, by decide, la_Automaton, wf_Automaton_21⟩
theorem wf_Automaton_24 : Cond.fieldLink "SuggestDesk$Automaton" 24 (T_Automaton 4).1 (T_Automaton 4).2.1 (T_Automaton 4).2.2.1 ∈ AL := AL_in (List.mem_append_right _ (List.mem_of_getElem? (i := 80) (by decide +kernel))) (by decide +kernel)
theorem fl_Automaton_24 : Fl "SuggestDesk$Automaton" 24 0 4 "SuggestDesk$Automaton" T_Automaton 6 := ⟨rfl, by decide, la_Automaton, Or.inl wf_Automaton_24⟩
theorem wf_Automaton_28 : Cond.fieldLink "SuggestDesk$Automaton" 28 (T_Automaton 5).1 (T_Automaton 5).2.1 (T_Automaton 5).2.2.1 ∈ AL := AL_in (List.mem_append_right _ (List.mem_of_getElem? (i := 81) (by decide +kernel))) (by decide +kernel)
theorem fl_Automaton_28 : Fl "SuggestDesk$Automaton" 28 0 5 "SuggestDesk$Automaton" T_Automaton 6 := ⟨rfl, by decide, la_Automaton, Or.inl wf_Automaton_28⟩
theorem wl_S_1 : Cond.methodLink "SuggestDesk" 1 objectInit ∈ AL := AL_in (List.mem_append_right _ (List.mem_of_getElem? (i := 24) (by decide +kernel))) (by decide +kernel)
theorem oi_S_1 : Cond.methodLink "SuggestDesk" 1 objectInit ∈ AL ∧ Cond.instanceMethod objectInit ∈ AL ∧ Cond.code objectInit ⟨#[0xb1]⟩ 1 none ∈ AL := ⟨wl_S_1, woi_n, woi_c⟩
theorem la_WordList_0 : u_lay "SuggestDesk$WordList" T_WordList 0 ∈ AL := AL_in (List.mem_append_right _ (List.mem_of_getElem? (i := 36) (by decide +kernel))) (by decide +kernel)
theorem la_WordList_1 : u_lay "SuggestDesk$WordList" T_WordList 1 ∈ AL := AL_in (List.mem_append_right _ (List.mem_of_getElem? (i := 38) (by decide +kernel))) (by decide +kernel)
theorem la_WordList_2 : u_lay "SuggestDesk$WordList" T_WordList 2 ∈ AL := AL_in (List.mem_append_right _ (List.mem_of_getElem? (i := 40) (by decide +kernel))) (by decide +kernel)
theorem la_WordList : ∀ w ∈ u_ws "SuggestDesk$WordList" T_WordList 3, w ∈ AL := by
  intro w hw
  obtain ⟨k, hk, rfl⟩ := List.mem_map.mp hw
  have hk := List.mem_range.mp hk
  rcases (show k = 0 ∨ k = 1 ∨ k = 2 by omega) with rfl | rfl | rfl
  · exact la_WordList_0
  · exact la_WordList_1
  · exact la_WordList_2
theorem wq_S_7 : Cond.classLink "SuggestDesk" 7 "SuggestDesk$WordList" ∈ AL := AL_in (List.mem_append_right _ (List.mem_of_getElem? (i := 27) (by decide +kernel))) (by decide +kernel)
theorem wt_WordList : Cond.instantiable "SuggestDesk$WordList" 3 ∈ AL := AL_in (List.mem_append_right _ (List.mem_of_getElem? (i := 28) (by decide +kernel))) (by decide +kernel)
theorem wi_WordList : Cond.initialized "SuggestDesk$WordList" ∈ AL := AL_in (List.mem_append_right _ (List.mem_of_getElem? (i := 2) (by decide +kernel))) (by decide +kernel)
theorem nw_S_7 : Nw "SuggestDesk" 7 6 "SuggestDesk$WordList" T_WordList 3 := ⟨rfl, la_WordList, wq_S_7, wt_WordList, wi_WordList⟩
theorem la_S_0 : u_lay "SuggestDesk" T_S 0 ∈ AL := AL_in (List.mem_append_right _ (List.mem_of_getElem? (i := 187) (by decide +kernel))) (by decide +kernel)
theorem la_S_1 : u_lay "SuggestDesk" T_S 1 ∈ AL := AL_in (List.mem_append_right _ (List.mem_of_getElem? (i := 189) (by decide +kernel))) (by decide +kernel)
theorem la_S_2 : u_lay "SuggestDesk" T_S 2 ∈ AL := AL_in (List.mem_append_right _ (List.mem_of_getElem? (i := 191) (by decide +kernel))) (by decide +kernel)
theorem la_S_3 : u_lay "SuggestDesk" T_S 3 ∈ AL := AL_in (List.mem_append_right _ (List.mem_of_getElem? (i := 193) (by decide +kernel))) (by decide +kernel)
theorem la_S_4 : u_lay "SuggestDesk" T_S 4 ∈ AL := AL_in (List.mem_append_right _ (List.mem_of_getElem? (i := 195) (by decide +kernel))) (by decide +kernel)
theorem la_S_5 : u_lay "SuggestDesk" T_S 5 ∈ AL := AL_in (List.mem_append_right _ (List.mem_of_getElem? (i := 197) (by decide +kernel))) (by decide +kernel)
theorem la_S_6 : u_lay "SuggestDesk" T_S 6 ∈ AL := AL_in (List.mem_append_right _ (List.mem_of_getElem? (i := 199) (by decide +kernel))) (by decide +kernel)
theorem la_S_7 : u_lay "SuggestDesk" T_S 7 ∈ AL := AL_in (List.mem_append_right _ (List.mem_of_getElem? (i := 201) (by decide +kernel))) (by decide +kernel)
theorem la_S : ∀ w ∈ u_ws "SuggestDesk" T_S 8, w ∈ AL := by
  intro w hw
  obtain ⟨k, hk, rfl⟩ := List.mem_map.mp hw
  have hk := List.mem_range.mp hk
  rcases (show k = 0 ∨ k = 1 ∨ k = 2 ∨ k = 3 ∨ k = 4 ∨ k = 5 ∨ k = 6 ∨ k = 7 by omega) with rfl | rfl | rfl | rfl | rfl | rfl | rfl | rfl
  · exact la_S_0
  · exact la_S_1
  · exact la_S_2
  · exact la_S_3
  · exact la_S_4
  · exact la_S_5
  · exact la_S_6
  · exact la_S_7
theorem wf_S_10 : Cond.fieldLink "SuggestDesk" 10 (T_S 0).1 (T_S 0).2.1 (T_S 0).2.2.1 ∈ AL := AL_in (List.mem_append_right _ (List.mem_of_getElem? (i := 179) (by decide +kernel))) (by decide +kernel)
theorem fl_S_10 : Fl "SuggestDesk" 10 7 0 "SuggestDesk" T_S 8 := ⟨rfl, by decide, la_S, Or.inl wf_S_10⟩
theorem wf_S_58 : Cond.fieldLink "SuggestDesk" 58 (T_S 7).1 (T_S 7).2.1 (T_S 7).2.2.1 ∈ AL := AL_in (List.mem_append_right _ (List.mem_of_getElem? (i := 186) (by decide +kernel))) (by decide +kernel)
theorem fl_S_58 : Fl "SuggestDesk" 58 7 7 "SuggestDesk" T_S 8 := ⟨rfl, by decide, la_S, Or.inl wf_S_58⟩
theorem wf_S_40 : Cond.fieldLink "SuggestDesk" 40 (T_S 4).1 (T_S 4).2.1 (T_S 4).2.2.1 ∈ AL := AL_in (List.mem_append_right _ (List.mem_of_getElem? (i := 183) (by decide +kernel))) (by decide +kernel)
theorem fl_S_40 : Fl "SuggestDesk" 40 7 4 "SuggestDesk" T_S 8 := ⟨rfl, by decide, la_S, Or.inl wf_S_40⟩
theorem wf_S_54 : Cond.fieldLink "SuggestDesk" 54 (T_S 6).1 (T_S 6).2.1 (T_S 6).2.2.1 ∈ AL := AL_in (List.mem_append_right _ (List.mem_of_getElem? (i := 185) (by decide +kernel))) (by decide +kernel)
theorem fl_S_54 : Fl "SuggestDesk" 54 7 6 "SuggestDesk" T_S 8 := ⟨rfl, by decide, la_S, Or.inl wf_S_54⟩
theorem wf_S_18 : Cond.fieldLink "SuggestDesk" 18 (T_S 1).1 (T_S 1).2.1 (T_S 1).2.2.1 ∈ AL := AL_in (List.mem_append_right _ (List.mem_of_getElem? (i := 180) (by decide +kernel))) (by decide +kernel)
theorem fl_S_18 : Fl "SuggestDesk" 18 7 1 "SuggestDesk" T_S 8 := ⟨rfl, by decide, la_S, Or.inl wf_S_18⟩
theorem wl_Dictionary_1 : Cond.methodLink "SuggestDesk$Dictionary" 1 objectInit ∈ AL := AL_in (List.mem_append_right _ (List.mem_of_getElem? (i := 51) (by decide +kernel))) (by decide +kernel)
theorem oi_Dictionary_1 : Cond.methodLink "SuggestDesk$Dictionary" 1 objectInit ∈ AL ∧ Cond.instanceMethod objectInit ∈ AL ∧ Cond.code objectInit ⟨#[0xb1]⟩ 1 none ∈ AL := ⟨wl_Dictionary_1, woi_n, woi_c⟩
theorem wq_Dictionary_7 : Cond.classLink "SuggestDesk$Dictionary" 7 "SuggestDesk$WordList" ∈ AL := AL_in (List.mem_append_right _ (List.mem_of_getElem? (i := 52) (by decide +kernel))) (by decide +kernel)
theorem nw_Dictionary_7 : Nw "SuggestDesk$Dictionary" 7 6 "SuggestDesk$WordList" T_WordList 3 := ⟨rfl, la_WordList, wq_Dictionary_7, wt_WordList, wi_WordList⟩
theorem la_Dictionary_0 : u_lay "SuggestDesk$Dictionary" T_Dictionary 0 ∈ AL := AL_in (List.mem_append_right _ (List.mem_of_getElem? (i := 59) (by decide +kernel))) (by decide +kernel)
theorem la_Dictionary_1 : u_lay "SuggestDesk$Dictionary" T_Dictionary 1 ∈ AL := AL_in (List.mem_append_right _ (List.mem_of_getElem? (i := 61) (by decide +kernel))) (by decide +kernel)
theorem la_Dictionary_2 : u_lay "SuggestDesk$Dictionary" T_Dictionary 2 ∈ AL := AL_in (List.mem_append_right _ (List.mem_of_getElem? (i := 63) (by decide +kernel))) (by decide +kernel)
theorem la_Dictionary_3 : u_lay "SuggestDesk$Dictionary" T_Dictionary 3 ∈ AL := AL_in (List.mem_append_right _ (List.mem_of_getElem? (i := 65) (by decide +kernel))) (by decide +kernel)
theorem la_Dictionary_4 : u_lay "SuggestDesk$Dictionary" T_Dictionary 4 ∈ AL := AL_in (List.mem_append_right _ (List.mem_of_getElem? (i := 67) (by decide +kernel))) (by decide +kernel)
theorem la_Dictionary : ∀ w ∈ u_ws "SuggestDesk$Dictionary" T_Dictionary 5, w ∈ AL := by
  intro w hw
  obtain ⟨k, hk, rfl⟩ := List.mem_map.mp hw
  have hk := List.mem_range.mp hk
  rcases (show k = 0 ∨ k = 1 ∨ k = 2 ∨ k = 3 ∨ k = 4 by omega) with rfl | rfl | rfl | rfl | rfl
  · exact la_Dictionary_0
  · exact la_Dictionary_1
  · exact la_Dictionary_2
  · exact la_Dictionary_3
  · exact la_Dictionary_4
theorem wf_Dictionary_10 : Cond.fieldLink "SuggestDesk$Dictionary" 10 (T_Dictionary 0).1 (T_Dictionary 0).2.1 (T_Dictionary 0).2.2.1 ∈ AL := AL_in (List.mem_append_right _ (List.mem_of_getElem? (i := 54) (by decide +kernel))) (by decide +kernel)
theorem fl_Dictionary_10 : Fl "SuggestDesk$Dictionary" 10 1 0 "SuggestDesk$Dictionary" T_Dictionary 5 := ⟨rfl, by decide, la_Dictionary, Or.inl wf_Dictionary_10⟩
theorem wf_Dictionary_16 : Cond.fieldLink "SuggestDesk$Dictionary" 16 (T_Dictionary 1).1 (T_Dictionary 1).2.1 (T_Dictionary 1).2.2.1 ∈ AL := AL_in (List.mem_append_right _ (List.mem_of_getElem? (i := 55) (by decide +kernel))) (by decide +kernel)
theorem fl_Dictionary_16 : Fl "SuggestDesk$Dictionary" 16 1 1 "SuggestDesk$Dictionary" T_Dictionary 5 := ⟨rfl, by decide, la_Dictionary, Or.inl wf_Dictionary_16⟩
theorem wf_Dictionary_23 : Cond.fieldLink "SuggestDesk$Dictionary" 23 (T_Dictionary 3).1 (T_Dictionary 3).2.1 (T_Dictionary 3).2.2.1 ∈ AL := AL_in (List.mem_append_right _ (List.mem_of_getElem? (i := 57) (by decide +kernel))) (by decide +kernel)
theorem fl_Dictionary_23 : Fl "SuggestDesk$Dictionary" 23 1 3 "SuggestDesk$Dictionary" T_Dictionary 5 := ⟨rfl, by decide, la_Dictionary, Or.inl wf_Dictionary_23⟩
theorem wf_Dictionary_26 : Cond.fieldLink "SuggestDesk$Dictionary" 26 (T_Dictionary 4).1 (T_Dictionary 4).2.1 (T_Dictionary 4).2.2.1 ∈ AL := AL_in (List.mem_append_right _ (List.mem_of_getElem? (i := 58) (by decide +kernel))) (by decide +kernel)
theorem fl_Dictionary_26 : Fl "SuggestDesk$Dictionary" 26 1 4 "SuggestDesk$Dictionary" T_Dictionary 5 := ⟨rfl, by decide, la_Dictionary, Or.inl wf_Dictionary_26⟩
theorem wf_Dictionary_20 : Cond.fieldLink "SuggestDesk$Dictionary" 20 (T_Dictionary 2).1 (T_Dictionary 2).2.1 (T_Dictionary 2).2.2.1 ∈ AL := AL_in (List.mem_append_right _ (List.mem_of_getElem? (i := 56) (by decide +kernel))) (by decide +kernel)
theorem fl_Dictionary_20 : Fl "SuggestDesk$Dictionary" 20 1 2 "SuggestDesk$Dictionary" T_Dictionary 5 := ⟨rfl, by decide, la_Dictionary, Or.inl wf_Dictionary_20⟩
theorem wl_Pairs_3 : Cond.methodLink "SuggestDesk$Pairs" 3 objectInit ∈ AL := AL_in (List.mem_append_right _ (List.mem_of_getElem? (i := 131) (by decide +kernel))) (by decide +kernel)
theorem oi_Pairs_3 : Cond.methodLink "SuggestDesk$Pairs" 3 objectInit ∈ AL ∧ Cond.instanceMethod objectInit ∈ AL ∧ Cond.code objectInit ⟨#[0xb1]⟩ 1 none ∈ AL := ⟨wl_Pairs_3, woi_n, woi_c⟩
theorem wa_long : Cond.arrayClass .long ∈ AL := AL_in (List.mem_append_right _ (List.mem_of_getElem? (i := 43) (by decide +kernel))) (by decide +kernel)
theorem la_Pairs_0 : u_lay "SuggestDesk$Pairs" T_Pairs 0 ∈ AL := AL_in (List.mem_append_right _ (List.mem_of_getElem? (i := 136) (by decide +kernel))) (by decide +kernel)
theorem la_Pairs_1 : u_lay "SuggestDesk$Pairs" T_Pairs 1 ∈ AL := AL_in (List.mem_append_right _ (List.mem_of_getElem? (i := 138) (by decide +kernel))) (by decide +kernel)
theorem la_Pairs_2 : u_lay "SuggestDesk$Pairs" T_Pairs 2 ∈ AL := AL_in (List.mem_append_right _ (List.mem_of_getElem? (i := 140) (by decide +kernel))) (by decide +kernel)
theorem la_Pairs_3 : u_lay "SuggestDesk$Pairs" T_Pairs 3 ∈ AL := AL_in (List.mem_append_right _ (List.mem_of_getElem? (i := 142) (by decide +kernel))) (by decide +kernel)
theorem la_Pairs : ∀ w ∈ u_ws "SuggestDesk$Pairs" T_Pairs 4, w ∈ AL := by
  intro w hw
  obtain ⟨k, hk, rfl⟩ := List.mem_map.mp hw
  have hk := List.mem_range.mp hk
  rcases (show k = 0 ∨ k = 1 ∨ k = 2 ∨ k = 3 by omega) with rfl | rfl | rfl | rfl
  · exact la_Pairs_0
  · exact la_Pairs_1
  · exact la_Pairs_2
  · exact la_Pairs_3
theorem wf_Pairs_9 : Cond.fieldLink "SuggestDesk$Pairs" 9 (T_Pairs 0).1 (T_Pairs 0).2.1 (T_Pairs 0).2.2.1 ∈ AL := AL_in (List.mem_append_right _ (List.mem_of_getElem? (i := 132) (by decide +kernel))) (by decide +kernel)
theorem fl_Pairs_9 : Fl "SuggestDesk$Pairs" 9 2 0 "SuggestDesk$Pairs" T_Pairs 4 := ⟨rfl, by decide, la_Pairs, Or.inl wf_Pairs_9⟩
theorem ff_Pairs_9 : vwCl[2]? = some ("SuggestDesk$Pairs", T_Pairs, 4) ∧ 0 < 4 ∧ (∀ w ∈ u_ws "SuggestDesk$Pairs" T_Pairs 4, w ∈ AL) ∧ Cond.fieldLink "SuggestDesk$Pairs" 9 (T_Pairs 0).1 (T_Pairs 0).2.1 (T_Pairs 0).2.2.1 ∈ AL := ⟨rfl, by decide, la_Pairs, wf_Pairs_9⟩
theorem wf_Pairs_15 : Cond.fieldLink "SuggestDesk$Pairs" 15 (T_Pairs 1).1 (T_Pairs 1).2.1 (T_Pairs 1).2.2.1 ∈ AL := AL_in (List.mem_append_right _ (List.mem_of_getElem? (i := 133) (by decide +kernel))) (by decide +kernel)
theorem fl_Pairs_15 : Fl "SuggestDesk$Pairs" 15 2 1 "SuggestDesk$Pairs" T_Pairs 4 := ⟨rfl, by decide, la_Pairs, Or.inl wf_Pairs_15⟩
theorem ff_Pairs_15 : vwCl[2]? = some ("SuggestDesk$Pairs", T_Pairs, 4) ∧ 1 < 4 ∧ (∀ w ∈ u_ws "SuggestDesk$Pairs" T_Pairs 4, w ∈ AL) ∧ Cond.fieldLink "SuggestDesk$Pairs" 15 (T_Pairs 1).1 (T_Pairs 1).2.1 (T_Pairs 1).2.2.1 ∈ AL := ⟨rfl, by decide, la_Pairs, wf_Pairs_15⟩
theorem wf_Pairs_18 : Cond.fieldLink "SuggestDesk$Pairs" 18 (T_Pairs 2).1 (T_Pairs 2).2.1 (T_Pairs 2).2.2.1 ∈ AL := AL_in (List.mem_append_right _ (List.mem_of_getElem? (i := 134) (by decide +kernel))) (by decide +kernel)
theorem fl_Pairs_18 : Fl "SuggestDesk$Pairs" 18 2 2 "SuggestDesk$Pairs" T_Pairs 4 := ⟨rfl, by decide, la_Pairs, Or.inl wf_Pairs_18⟩
theorem ff_Pairs_18 : vwCl[2]? = some ("SuggestDesk$Pairs", T_Pairs, 4) ∧ 2 < 4 ∧ (∀ w ∈ u_ws "SuggestDesk$Pairs" T_Pairs 4, w ∈ AL) ∧ Cond.fieldLink "SuggestDesk$Pairs" 18 (T_Pairs 2).1 (T_Pairs 2).2.1 (T_Pairs 2).2.2.1 ∈ AL := ⟨rfl, by decide, la_Pairs, wf_Pairs_18⟩
theorem wf_Pairs_22 : Cond.fieldLink "SuggestDesk$Pairs" 22 (T_Pairs 3).1 (T_Pairs 3).2.1 (T_Pairs 3).2.2.1 ∈ AL := AL_in (List.mem_append_right _ (List.mem_of_getElem? (i := 135) (by decide +kernel))) (by decide +kernel)
theorem fl_Pairs_22 : Fl "SuggestDesk$Pairs" 22 2 3 "SuggestDesk$Pairs" T_Pairs 4 := ⟨rfl, by decide, la_Pairs, Or.inl wf_Pairs_22⟩
theorem wl_Phrase_3 : Cond.methodLink "SuggestDesk$Phrase" 3 objectInit ∈ AL := AL_in (List.mem_append_right _ (List.mem_of_getElem? (i := 150) (by decide +kernel))) (by decide +kernel)
theorem oi_Phrase_3 : Cond.methodLink "SuggestDesk$Phrase" 3 objectInit ∈ AL ∧ Cond.instanceMethod objectInit ∈ AL ∧ Cond.code objectInit ⟨#[0xb1]⟩ 1 none ∈ AL := ⟨wl_Phrase_3, woi_n, woi_c⟩
theorem la_Phrase_0 : u_lay "SuggestDesk$Phrase" T_Phrase 0 ∈ AL := AL_in (List.mem_append_right _ (List.mem_of_getElem? (i := 162) (by decide +kernel))) (by decide +kernel)
theorem la_Phrase_1 : u_lay "SuggestDesk$Phrase" T_Phrase 1 ∈ AL := AL_in (List.mem_append_right _ (List.mem_of_getElem? (i := 164) (by decide +kernel))) (by decide +kernel)
theorem la_Phrase_2 : u_lay "SuggestDesk$Phrase" T_Phrase 2 ∈ AL := AL_in (List.mem_append_right _ (List.mem_of_getElem? (i := 166) (by decide +kernel))) (by decide +kernel)
theorem la_Phrase_3 : u_lay "SuggestDesk$Phrase" T_Phrase 3 ∈ AL := AL_in (List.mem_append_right _ (List.mem_of_getElem? (i := 168) (by decide +kernel))) (by decide +kernel)
theorem la_Phrase_4 : u_lay "SuggestDesk$Phrase" T_Phrase 4 ∈ AL := AL_in (List.mem_append_right _ (List.mem_of_getElem? (i := 170) (by decide +kernel))) (by decide +kernel)
theorem la_Phrase_5 : u_lay "SuggestDesk$Phrase" T_Phrase 5 ∈ AL := AL_in (List.mem_append_right _ (List.mem_of_getElem? (i := 172) (by decide +kernel))) (by decide +kernel)
theorem la_Phrase_6 : u_lay "SuggestDesk$Phrase" T_Phrase 6 ∈ AL := AL_in (List.mem_append_right _ (List.mem_of_getElem? (i := 174) (by decide +kernel))) (by decide +kernel)
theorem la_Phrase_7 : u_lay "SuggestDesk$Phrase" T_Phrase 7 ∈ AL := AL_in (List.mem_append_right _ (List.mem_of_getElem? (i := 176) (by decide +kernel))) (by decide +kernel)
theorem la_Phrase : ∀ w ∈ u_ws "SuggestDesk$Phrase" T_Phrase 8, w ∈ AL := by
  intro w hw
  obtain ⟨k, hk, rfl⟩ := List.mem_map.mp hw
  have hk := List.mem_range.mp hk
  rcases (show k = 0 ∨ k = 1 ∨ k = 2 ∨ k = 3 ∨ k = 4 ∨ k = 5 ∨ k = 6 ∨ k = 7 by omega) with rfl | rfl | rfl | rfl | rfl | rfl | rfl | rfl
  · exact la_Phrase_0
  · exact la_Phrase_1
  · exact la_Phrase_2
  · exact la_Phrase_3
  · exact la_Phrase_4
  · exact la_Phrase_5
  · exact la_Phrase_6
  · exact la_Phrase_7
theorem wf_Phrase_9 : Cond.fieldLink "SuggestDesk$Phrase" 9 (T_Phrase 0).1 (T_Phrase 0).2.1 (T_Phrase 0).2.2.1 ∈ AL := AL_in (List.mem_append_right _ (List.mem_of_getElem? (i := 154) (by decide +kernel))) (by decide +kernel)
theorem fl_Phrase_9 : Fl "SuggestDesk$Phrase" 9 3 0 "SuggestDesk$Phrase" T_Phrase 8 := ⟨rfl, by decide, la_Phrase, Or.inl wf_Phrase_9⟩
theorem ff_Phrase_9 : vwCl[3]? = some ("SuggestDesk$Phrase", T_Phrase, 8) ∧ 0 < 8 ∧ (∀ w ∈ u_ws "SuggestDesk$Phrase" T_Phrase 8, w ∈ AL) ∧ Cond.fieldLink "SuggestDesk$Phrase" 9 (T_Phrase 0).1 (T_Phrase 0).2.1 (T_Phrase 0).2.2.1 ∈ AL := ⟨rfl, by decide, la_Phrase, wf_Phrase_9⟩
theorem wf_Phrase_15 : Cond.fieldLink "SuggestDesk$Phrase" 15 (T_Phrase 1).1 (T_Phrase 1).2.1 (T_Phrase 1).2.2.1 ∈ AL := AL_in (List.mem_append_right _ (List.mem_of_getElem? (i := 155) (by decide +kernel))) (by decide +kernel)
theorem fl_Phrase_15 : Fl "SuggestDesk$Phrase" 15 3 1 "SuggestDesk$Phrase" T_Phrase 8 := ⟨rfl, by decide, la_Phrase, Or.inl wf_Phrase_15⟩
theorem ff_Phrase_15 : vwCl[3]? = some ("SuggestDesk$Phrase", T_Phrase, 8) ∧ 1 < 8 ∧ (∀ w ∈ u_ws "SuggestDesk$Phrase" T_Phrase 8, w ∈ AL) ∧ Cond.fieldLink "SuggestDesk$Phrase" 15 (T_Phrase 1).1 (T_Phrase 1).2.1 (T_Phrase 1).2.2.1 ∈ AL := ⟨rfl, by decide, la_Phrase, wf_Phrase_15⟩
theorem wf_Phrase_20 : Cond.fieldLink "SuggestDesk$Phrase" 20 (T_Phrase 2).1 (T_Phrase 2).2.1 (T_Phrase 2).2.2.1 ∈ AL := AL_in (List.mem_append_right _ (List.mem_of_getElem? (i := 156) (by decide +kernel))) (by decide +kernel)
theorem fl_Phrase_20 : Fl "SuggestDesk$Phrase" 20 3 2 "SuggestDesk$Phrase" T_Phrase 8 := ⟨rfl, by decide, la_Phrase, Or.inl wf_Phrase_20⟩
theorem ff_Phrase_20 : vwCl[3]? = some ("SuggestDesk$Phrase", T_Phrase, 8) ∧ 2 < 8 ∧ (∀ w ∈ u_ws "SuggestDesk$Phrase" T_Phrase 8, w ∈ AL) ∧ Cond.fieldLink "SuggestDesk$Phrase" 20 (T_Phrase 2).1 (T_Phrase 2).2.1 (T_Phrase 2).2.2.1 ∈ AL := ⟨rfl, by decide, la_Phrase, wf_Phrase_20⟩
theorem wf_Phrase_25 : Cond.fieldLink "SuggestDesk$Phrase" 25 (T_Phrase 3).1 (T_Phrase 3).2.1 (T_Phrase 3).2.2.1 ∈ AL := AL_in (List.mem_append_right _ (List.mem_of_getElem? (i := 157) (by decide +kernel))) (by decide +kernel)
theorem fl_Phrase_25 : Fl "SuggestDesk$Phrase" 25 3 3 "SuggestDesk$Phrase" T_Phrase 8 := ⟨rfl, by decide, la_Phrase, Or.inl wf_Phrase_25⟩
theorem ff_Phrase_25 : vwCl[3]? = some ("SuggestDesk$Phrase", T_Phrase, 8) ∧ 3 < 8 ∧ (∀ w ∈ u_ws "SuggestDesk$Phrase" T_Phrase 8, w ∈ AL) ∧ Cond.fieldLink "SuggestDesk$Phrase" 25 (T_Phrase 3).1 (T_Phrase 3).2.1 (T_Phrase 3).2.2.1 ∈ AL := ⟨rfl, by decide, la_Phrase, wf_Phrase_25⟩
theorem wf_Phrase_28 : Cond.fieldLink "SuggestDesk$Phrase" 28 (T_Phrase 4).1 (T_Phrase 4).2.1 (T_Phrase 4).2.2.1 ∈ AL := AL_in (List.mem_append_right _ (List.mem_of_getElem? (i := 158) (by decide +kernel))) (by decide +kernel)
theorem fl_Phrase_28 : Fl "SuggestDesk$Phrase" 28 3 4 "SuggestDesk$Phrase" T_Phrase 8 := ⟨rfl, by decide, la_Phrase, Or.inl wf_Phrase_28⟩
theorem ff_Phrase_28 : vwCl[3]? = some ("SuggestDesk$Phrase", T_Phrase, 8) ∧ 4 < 8 ∧ (∀ w ∈ u_ws "SuggestDesk$Phrase" T_Phrase 8, w ∈ AL) ∧ Cond.fieldLink "SuggestDesk$Phrase" 28 (T_Phrase 4).1 (T_Phrase 4).2.1 (T_Phrase 4).2.2.1 ∈ AL := ⟨rfl, by decide, la_Phrase, wf_Phrase_28⟩
theorem wf_Phrase_31 : Cond.fieldLink "SuggestDesk$Phrase" 31 (T_Phrase 5).1 (T_Phrase 5).2.1 (T_Phrase 5).2.2.1 ∈ AL := AL_in (List.mem_append_right _ (List.mem_of_getElem? (i := 159) (by decide +kernel))) (by decide +kernel)
theorem fl_Phrase_31 : Fl "SuggestDesk$Phrase" 31 3 5 "SuggestDesk$Phrase" T_Phrase 8 := ⟨rfl, by decide, la_Phrase, Or.inl wf_Phrase_31⟩
theorem ff_Phrase_31 : vwCl[3]? = some ("SuggestDesk$Phrase", T_Phrase, 8) ∧ 5 < 8 ∧ (∀ w ∈ u_ws "SuggestDesk$Phrase" T_Phrase 8, w ∈ AL) ∧ Cond.fieldLink "SuggestDesk$Phrase" 31 (T_Phrase 5).1 (T_Phrase 5).2.1 (T_Phrase 5).2.2.1 ∈ AL := ⟨rfl, by decide, la_Phrase, wf_Phrase_31⟩
theorem wf_Phrase_35 : Cond.fieldLink "SuggestDesk$Phrase" 35 (T_Phrase 6).1 (T_Phrase 6).2.1 (T_Phrase 6).2.2.1 ∈ AL := AL_in (List.mem_append_right _ (List.mem_of_getElem? (i := 160) (by decide +kernel))) (by decide +kernel)
theorem fl_Phrase_35 : Fl "SuggestDesk$Phrase" 35 3 6 "SuggestDesk$Phrase" T_Phrase 8 := ⟨rfl, by decide, la_Phrase, Or.inl wf_Phrase_35⟩
theorem wf_Phrase_39 : Cond.fieldLink "SuggestDesk$Phrase" 39 (T_Phrase 7).1 (T_Phrase 7).2.1 (T_Phrase 7).2.2.1 ∈ AL := AL_in (List.mem_append_right _ (List.mem_of_getElem? (i := 161) (by decide +kernel))) (by decide +kernel)
theorem fl_Phrase_39 : Fl "SuggestDesk$Phrase" 39 3 7 "SuggestDesk$Phrase" T_Phrase 8 := ⟨rfl, by decide, la_Phrase, Or.inl wf_Phrase_39⟩
theorem wl_Ruler_3 : Cond.methodLink "SuggestDesk$Ruler" 3 objectInit ∈ AL := AL_in (List.mem_append_right _ (List.mem_of_getElem? (i := 100) (by decide +kernel))) (by decide +kernel)
theorem oi_Ruler_3 : Cond.methodLink "SuggestDesk$Ruler" 3 objectInit ∈ AL ∧ Cond.instanceMethod objectInit ∈ AL ∧ Cond.code objectInit ⟨#[0xb1]⟩ 1 none ∈ AL := ⟨wl_Ruler_3, woi_n, woi_c⟩
theorem la_Ruler_0 : u_lay "SuggestDesk$Ruler" T_Ruler 0 ∈ AL := AL_in (List.mem_append_right _ (List.mem_of_getElem? (i := 104) (by decide +kernel))) (by decide +kernel)
theorem la_Ruler : ∀ w ∈ u_ws "SuggestDesk$Ruler" T_Ruler 1, w ∈ AL := by
  intro w hw
  obtain ⟨k, hk, rfl⟩ := List.mem_map.mp hw
  have hk := List.mem_range.mp hk
  rcases (show k = 0 by omega) with rfl
  · exact la_Ruler_0
theorem wf_Ruler_11 : Cond.fieldLink "SuggestDesk$Ruler" 11 (T_Ruler 0).1 (T_Ruler 0).2.1 (T_Ruler 0).2.2.1 ∈ AL := AL_in (List.mem_append_right _ (List.mem_of_getElem? (i := 103) (by decide +kernel))) (by decide +kernel)
theorem fl_Ruler_11 : Fl "SuggestDesk$Ruler" 11 4 0 "SuggestDesk$Ruler" T_Ruler 1 := ⟨rfl, by decide, la_Ruler, Or.inl wf_Ruler_11⟩
theorem ff_Ruler_11 : vwCl[4]? = some ("SuggestDesk$Ruler", T_Ruler, 1) ∧ 0 < 1 ∧ (∀ w ∈ u_ws "SuggestDesk$Ruler" T_Ruler 1, w ∈ AL) ∧ Cond.fieldLink "SuggestDesk$Ruler" 11 (T_Ruler 0).1 (T_Ruler 0).2.1 (T_Ruler 0).2.2.1 ∈ AL := ⟨rfl, by decide, la_Ruler, wf_Ruler_11⟩
theorem wl_Suggestions_3 : Cond.methodLink "SuggestDesk$Suggestions" 3 objectInit ∈ AL := AL_in (List.mem_append_right _ (List.mem_of_getElem? (i := 112) (by decide +kernel))) (by decide +kernel)
theorem oi_Suggestions_3 : Cond.methodLink "SuggestDesk$Suggestions" 3 objectInit ∈ AL ∧ Cond.instanceMethod objectInit ∈ AL ∧ Cond.code objectInit ⟨#[0xb1]⟩ 1 none ∈ AL := ⟨wl_Suggestions_3, woi_n, woi_c⟩
theorem la_Suggestions_0 : u_lay "SuggestDesk$Suggestions" T_Suggestions 0 ∈ AL := AL_in (List.mem_append_right _ (List.mem_of_getElem? (i := 117) (by decide +kernel))) (by decide +kernel)
theorem la_Suggestions_1 : u_lay "SuggestDesk$Suggestions" T_Suggestions 1 ∈ AL := AL_in (List.mem_append_right _ (List.mem_of_getElem? (i := 119) (by decide +kernel))) (by decide +kernel)
theorem la_Suggestions_2 : u_lay "SuggestDesk$Suggestions" T_Suggestions 2 ∈ AL := AL_in (List.mem_append_right _ (List.mem_of_getElem? (i := 121) (by decide +kernel))) (by decide +kernel)
theorem la_Suggestions_3 : u_lay "SuggestDesk$Suggestions" T_Suggestions 3 ∈ AL := AL_in (List.mem_append_right _ (List.mem_of_getElem? (i := 123) (by decide +kernel))) (by decide +kernel)
theorem la_Suggestions : ∀ w ∈ u_ws "SuggestDesk$Suggestions" T_Suggestions 4, w ∈ AL := by
  intro w hw
  obtain ⟨k, hk, rfl⟩ := List.mem_map.mp hw
  have hk := List.mem_range.mp hk
  rcases (show k = 0 ∨ k = 1 ∨ k = 2 ∨ k = 3 by omega) with rfl | rfl | rfl | rfl
  · exact la_Suggestions_0
  · exact la_Suggestions_1
  · exact la_Suggestions_2
  · exact la_Suggestions_3
theorem wf_Suggestions_9 : Cond.fieldLink "SuggestDesk$Suggestions" 9 (T_Suggestions 0).1 (T_Suggestions 0).2.1 (T_Suggestions 0).2.2.1 ∈ AL := AL_in (List.mem_append_right _ (List.mem_of_getElem? (i := 113) (by decide +kernel))) (by decide +kernel)
theorem fl_Suggestions_9 : Fl "SuggestDesk$Suggestions" 9 5 0 "SuggestDesk$Suggestions" T_Suggestions 4 := ⟨rfl, by decide, la_Suggestions, Or.inl wf_Suggestions_9⟩
theorem ff_Suggestions_9 : vwCl[5]? = some ("SuggestDesk$Suggestions", T_Suggestions, 4) ∧ 0 < 4 ∧ (∀ w ∈ u_ws "SuggestDesk$Suggestions" T_Suggestions 4, w ∈ AL) ∧ Cond.fieldLink "SuggestDesk$Suggestions" 9 (T_Suggestions 0).1 (T_Suggestions 0).2.1 (T_Suggestions 0).2.2.1 ∈ AL := ⟨rfl, by decide, la_Suggestions, wf_Suggestions_9⟩
theorem wf_Suggestions_15 : Cond.fieldLink "SuggestDesk$Suggestions" 15 (T_Suggestions 1).1 (T_Suggestions 1).2.1 (T_Suggestions 1).2.2.1 ∈ AL := AL_in (List.mem_append_right _ (List.mem_of_getElem? (i := 114) (by decide +kernel))) (by decide +kernel)
theorem fl_Suggestions_15 : Fl "SuggestDesk$Suggestions" 15 5 1 "SuggestDesk$Suggestions" T_Suggestions 4 := ⟨rfl, by decide, la_Suggestions, Or.inl wf_Suggestions_15⟩
theorem ff_Suggestions_15 : vwCl[5]? = some ("SuggestDesk$Suggestions", T_Suggestions, 4) ∧ 1 < 4 ∧ (∀ w ∈ u_ws "SuggestDesk$Suggestions" T_Suggestions 4, w ∈ AL) ∧ Cond.fieldLink "SuggestDesk$Suggestions" 15 (T_Suggestions 1).1 (T_Suggestions 1).2.1 (T_Suggestions 1).2.2.1 ∈ AL := ⟨rfl, by decide, la_Suggestions, wf_Suggestions_15⟩
theorem wf_Suggestions_19 : Cond.fieldLink "SuggestDesk$Suggestions" 19 (T_Suggestions 2).1 (T_Suggestions 2).2.1 (T_Suggestions 2).2.2.1 ∈ AL := AL_in (List.mem_append_right _ (List.mem_of_getElem? (i := 115) (by decide +kernel))) (by decide +kernel)
theorem fl_Suggestions_19 : Fl "SuggestDesk$Suggestions" 19 5 2 "SuggestDesk$Suggestions" T_Suggestions 4 := ⟨rfl, by decide, la_Suggestions, Or.inl wf_Suggestions_19⟩
theorem wf_Suggestions_23 : Cond.fieldLink "SuggestDesk$Suggestions" 23 (T_Suggestions 3).1 (T_Suggestions 3).2.1 (T_Suggestions 3).2.2.1 ∈ AL := AL_in (List.mem_append_right _ (List.mem_of_getElem? (i := 116) (by decide +kernel))) (by decide +kernel)
theorem fl_Suggestions_23 : Fl "SuggestDesk$Suggestions" 23 5 3 "SuggestDesk$Suggestions" T_Suggestions 4 := ⟨rfl, by decide, la_Suggestions, Or.inl wf_Suggestions_23⟩
theorem wl_Suggestions_26 : Cond.methodLink "SuggestDesk$Suggestions" 26 Lib.Math.min.name ∈ AL := AL_in (List.mem_append_right _ (List.mem_of_getElem? (i := 526) (by decide +kernel))) (by decide +kernel)
theorem wmin_s : Cond.static Lib.Math.min.name ∈ AL := AL_in (List.mem_append_right _ (List.mem_of_getElem? (i := 401) (by decide +kernel))) (by decide +kernel)
theorem wmin_i : Cond.initialized "java/lang/Math" ∈ AL := AL_in (List.mem_append_right _ (List.mem_of_getElem? (i := 16) (by decide +kernel))) (by decide +kernel)
theorem wmin_c : Cond.code Lib.Math.min.name Lib.Math.min.code 2 (some .int) ∈ AL := AL_in (List.mem_append_right _ (List.mem_of_getElem? (i := 402) (by decide +kernel))) (by decide +kernel)
theorem wmin : Cond.static Lib.Math.min.name ∈ AL ∧ Cond.initialized "java/lang/Math" ∈ AL ∧ Cond.code Lib.Math.min.name Lib.Math.min.code 2 (some .int) ∈ AL := ⟨wmin_s, wmin_i, wmin_c⟩
theorem wk_Texts_15 : Cond.constantLong "SuggestDesk$Texts" 15 (255 : Int64) ∈ AL := AL_in (List.mem_append_right _ (List.mem_of_getElem? (i := 214) (by decide +kernel))) (by decide +kernel)
theorem wk_Texts_17 : Cond.constantLong "SuggestDesk$Texts" 17 (97 : Int64) ∈ AL := AL_in (List.mem_append_right _ (List.mem_of_getElem? (i := 215) (by decide +kernel))) (by decide +kernel)
theorem wk_Texts_19 : Cond.constantLong "SuggestDesk$Texts" 19 (106 : Int64) ∈ AL := AL_in (List.mem_append_right _ (List.mem_of_getElem? (i := 216) (by decide +kernel))) (by decide +kernel)
theorem wk_Texts_25 : Cond.constantLong "SuggestDesk$Texts" 25 (-1 : Int64) ∈ AL := AL_in (List.mem_append_right _ (List.mem_of_getElem? (i := 392) (by decide +kernel))) (by decide +kernel)
theorem wl_Texts_21 : Cond.methodLink "SuggestDesk$Texts" 21 y_Texts_letterAt ∈ AL := AL_in (List.mem_append_right _ (List.mem_of_getElem? (i := 220) (by decide +kernel))) (by decide +kernel)
theorem lk_Texts_21 : Lk "SuggestDesk$Texts" 21 y_Texts_letterAt := Or.inl wl_Texts_21
theorem wc_Texts_letterAt : Cond.code y_Texts_letterAt b_Texts_letterAt 3 (some .int) ∈ AL := AL_in (List.mem_append_right _ (List.mem_of_getElem? (i := 222) (by decide +kernel))) (by decide +kernel)
theorem wi_Texts : Cond.initialized "SuggestDesk$Texts" ∈ AL := AL_in (List.mem_append_right _ (List.mem_of_getElem? (i := 10) (by decide +kernel))) (by decide +kernel)
theorem mw_Texts_letterAt : Mw y_Texts_letterAt b_Texts_letterAt 3 (some .int) 2 := ⟨wc_Texts_letterAt, wi_Texts, by decide, by decide, by decide +kernel⟩
theorem ws_Texts_letterAt : Cond.static y_Texts_letterAt ∈ AL := AL_in (List.mem_append_right _ (List.mem_of_getElem? (i := 221) (by decide +kernel))) (by decide +kernel)
theorem wl_WordList_3 : Cond.methodLink "SuggestDesk$WordList" 3 objectInit ∈ AL := AL_in (List.mem_append_right _ (List.mem_of_getElem? (i := 32) (by decide +kernel))) (by decide +kernel)
theorem oi_WordList_3 : Cond.methodLink "SuggestDesk$WordList" 3 objectInit ∈ AL ∧ Cond.instanceMethod objectInit ∈ AL ∧ Cond.code objectInit ⟨#[0xb1]⟩ 1 none ∈ AL := ⟨wl_WordList_3, woi_n, woi_c⟩
theorem wf_WordList_9 : Cond.fieldLink "SuggestDesk$WordList" 9 (T_WordList 0).1 (T_WordList 0).2.1 (T_WordList 0).2.2.1 ∈ AL := AL_in (List.mem_append_right _ (List.mem_of_getElem? (i := 33) (by decide +kernel))) (by decide +kernel)
theorem fl_WordList_9 : Fl "SuggestDesk$WordList" 9 6 0 "SuggestDesk$WordList" T_WordList 3 := ⟨rfl, by decide, la_WordList, Or.inl wf_WordList_9⟩
theorem ff_WordList_9 : vwCl[6]? = some ("SuggestDesk$WordList", T_WordList, 3) ∧ 0 < 3 ∧ (∀ w ∈ u_ws "SuggestDesk$WordList" T_WordList 3, w ∈ AL) ∧ Cond.fieldLink "SuggestDesk$WordList" 9 (T_WordList 0).1 (T_WordList 0).2.1 (T_WordList 0).2.2.1 ∈ AL := ⟨rfl, by decide, la_WordList, wf_WordList_9⟩
theorem wf_WordList_15 : Cond.fieldLink "SuggestDesk$WordList" 15 (T_WordList 1).1 (T_WordList 1).2.1 (T_WordList 1).2.2.1 ∈ AL := AL_in (List.mem_append_right _ (List.mem_of_getElem? (i := 34) (by decide +kernel))) (by decide +kernel)
theorem fl_WordList_15 : Fl "SuggestDesk$WordList" 15 6 1 "SuggestDesk$WordList" T_WordList 3 := ⟨rfl, by decide, la_WordList, Or.inl wf_WordList_15⟩
theorem ff_WordList_15 : vwCl[6]? = some ("SuggestDesk$WordList", T_WordList, 3) ∧ 1 < 3 ∧ (∀ w ∈ u_ws "SuggestDesk$WordList" T_WordList 3, w ∈ AL) ∧ Cond.fieldLink "SuggestDesk$WordList" 15 (T_WordList 1).1 (T_WordList 1).2.1 (T_WordList 1).2.2.1 ∈ AL := ⟨rfl, by decide, la_WordList, wf_WordList_15⟩
theorem wf_WordList_19 : Cond.fieldLink "SuggestDesk$WordList" 19 (T_WordList 2).1 (T_WordList 2).2.1 (T_WordList 2).2.2.1 ∈ AL := AL_in (List.mem_append_right _ (List.mem_of_getElem? (i := 35) (by decide +kernel))) (by decide +kernel)
theorem fl_WordList_19 : Fl "SuggestDesk$WordList" 19 6 2 "SuggestDesk$WordList" T_WordList 3 := ⟨rfl, by decide, la_WordList, Or.inl wf_WordList_19⟩
theorem wl_M_1 : Cond.methodLink "SuggestDeskModel" 1 objectInit ∈ AL := AL_in (List.mem_append_right _ (List.mem_of_getElem? (i := 703) (by decide +kernel))) (by decide +kernel)
theorem oi_M_1 : Cond.methodLink "SuggestDeskModel" 1 objectInit ∈ AL ∧ Cond.instanceMethod objectInit ∈ AL ∧ Cond.code objectInit ⟨#[0xb1]⟩ 1 none ∈ AL := ⟨wl_M_1, woi_n, woi_c⟩
theorem la_M_0 : u_lay "SuggestDeskModel" T_M 0 ∈ AL := AL_in (List.mem_append_right _ (List.mem_of_getElem? (i := 739) (by decide +kernel))) (by decide +kernel)
theorem la_M_1 : u_lay "SuggestDeskModel" T_M 1 ∈ AL := AL_in (List.mem_append_right _ (List.mem_of_getElem? (i := 741) (by decide +kernel))) (by decide +kernel)
theorem la_M_2 : u_lay "SuggestDeskModel" T_M 2 ∈ AL := AL_in (List.mem_append_right _ (List.mem_of_getElem? (i := 743) (by decide +kernel))) (by decide +kernel)
theorem la_M_3 : u_lay "SuggestDeskModel" T_M 3 ∈ AL := AL_in (List.mem_append_right _ (List.mem_of_getElem? (i := 745) (by decide +kernel))) (by decide +kernel)
theorem la_M_4 : u_lay "SuggestDeskModel" T_M 4 ∈ AL := AL_in (List.mem_append_right _ (List.mem_of_getElem? (i := 747) (by decide +kernel))) (by decide +kernel)
theorem la_M_5 : u_lay "SuggestDeskModel" T_M 5 ∈ AL := AL_in (List.mem_append_right _ (List.mem_of_getElem? (i := 749) (by decide +kernel))) (by decide +kernel)
theorem la_M_6 : u_lay "SuggestDeskModel" T_M 6 ∈ AL := AL_in (List.mem_append_right _ (List.mem_of_getElem? (i := 751) (by decide +kernel))) (by decide +kernel)
theorem la_M_7 : u_lay "SuggestDeskModel" T_M 7 ∈ AL := AL_in (List.mem_append_right _ (List.mem_of_getElem? (i := 753) (by decide +kernel))) (by decide +kernel)
theorem la_M_8 : u_lay "SuggestDeskModel" T_M 8 ∈ AL := AL_in (List.mem_append_right _ (List.mem_of_getElem? (i := 755) (by decide +kernel))) (by decide +kernel)
theorem la_M_9 : u_lay "SuggestDeskModel" T_M 9 ∈ AL := AL_in (List.mem_append_right _ (List.mem_of_getElem? (i := 757) (by decide +kernel))) (by decide +kernel)
theorem la_M_10 : u_lay "SuggestDeskModel" T_M 10 ∈ AL := AL_in (List.mem_append_right _ (List.mem_of_getElem? (i := 759) (by decide +kernel))) (by decide +kernel)
theorem la_M_11 : u_lay "SuggestDeskModel" T_M 11 ∈ AL := AL_in (List.mem_append_right _ (List.mem_of_getElem? (i := 761) (by decide +kernel))) (by decide +kernel)
theorem la_M_12 : u_lay "SuggestDeskModel" T_M 12 ∈ AL := AL_in (List.mem_append_right _ (List.mem_of_getElem? (i := 763) (by decide +kernel))) (by decide +kernel)
theorem la_M_13 : u_lay "SuggestDeskModel" T_M 13 ∈ AL := AL_in (List.mem_append_right _ (List.mem_of_getElem? (i := 765) (by decide +kernel))) (by decide +kernel)
theorem la_M_14 : u_lay "SuggestDeskModel" T_M 14 ∈ AL := AL_in (List.mem_append_right _ (List.mem_of_getElem? (i := 767) (by decide +kernel))) (by decide +kernel)
theorem la_M_15 : u_lay "SuggestDeskModel" T_M 15 ∈ AL := AL_in (List.mem_append_right _ (List.mem_of_getElem? (i := 769) (by decide +kernel))) (by decide +kernel)
theorem la_M_16 : u_lay "SuggestDeskModel" T_M 16 ∈ AL := AL_in (List.mem_append_right _ (List.mem_of_getElem? (i := 771) (by decide +kernel))) (by decide +kernel)
theorem la_M_17 : u_lay "SuggestDeskModel" T_M 17 ∈ AL := AL_in (List.mem_append_right _ (List.mem_of_getElem? (i := 773) (by decide +kernel))) (by decide +kernel)
theorem la_M_18 : u_lay "SuggestDeskModel" T_M 18 ∈ AL := AL_in (List.mem_append_right _ (List.mem_of_getElem? (i := 775) (by decide +kernel))) (by decide +kernel)
theorem la_M_19 : u_lay "SuggestDeskModel" T_M 19 ∈ AL := AL_in (List.mem_append_right _ (List.mem_of_getElem? (i := 777) (by decide +kernel))) (by decide +kernel)
theorem la_M_20 : u_lay "SuggestDeskModel" T_M 20 ∈ AL := AL_in (List.mem_append_right _ (List.mem_of_getElem? (i := 779) (by decide +kernel))) (by decide +kernel)
theorem la_M_21 : u_lay "SuggestDeskModel" T_M 21 ∈ AL := AL_in (List.mem_append_right _ (List.mem_of_getElem? (i := 781) (by decide +kernel))) (by decide +kernel)
theorem la_M_22 : u_lay "SuggestDeskModel" T_M 22 ∈ AL := AL_in (List.mem_append_right _ (List.mem_of_getElem? (i := 783) (by decide +kernel))) (by decide +kernel)
theorem la_M_23 : u_lay "SuggestDeskModel" T_M 23 ∈ AL := AL_in (List.mem_append_right _ (List.mem_of_getElem? (i := 785) (by decide +kernel))) (by decide +kernel)
theorem la_M_24 : u_lay "SuggestDeskModel" T_M 24 ∈ AL := AL_in (List.mem_append_right _ (List.mem_of_getElem? (i := 787) (by decide +kernel))) (by decide +kernel)
theorem la_M_25 : u_lay "SuggestDeskModel" T_M 25 ∈ AL := AL_in (List.mem_append_right _ (List.mem_of_getElem? (i := 789) (by decide +kernel))) (by decide +kernel)
theorem la_M_26 : u_lay "SuggestDeskModel" T_M 26 ∈ AL := AL_in (List.mem_append_right _ (List.mem_of_getElem? (i := 791) (by decide +kernel))) (by decide +kernel)
theorem la_M_27 : u_lay "SuggestDeskModel" T_M 27 ∈ AL := AL_in (List.mem_append_right _ (List.mem_of_getElem? (i := 793) (by decide +kernel))) (by decide +kernel)
theorem la_M_28 : u_lay "SuggestDeskModel" T_M 28 ∈ AL := AL_in (List.mem_append_right _ (List.mem_of_getElem? (i := 795) (by decide +kernel))) (by decide +kernel)
theorem la_M_29 : u_lay "SuggestDeskModel" T_M 29 ∈ AL := AL_in (List.mem_append_right _ (List.mem_of_getElem? (i := 797) (by decide +kernel))) (by decide +kernel)
theorem la_M_30 : u_lay "SuggestDeskModel" T_M 30 ∈ AL := AL_in (List.mem_append_right _ (List.mem_of_getElem? (i := 799) (by decide +kernel))) (by decide +kernel)
theorem la_M_31 : u_lay "SuggestDeskModel" T_M 31 ∈ AL := AL_in (List.mem_append_right _ (List.mem_of_getElem? (i := 801) (by decide +kernel))) (by decide +kernel)
theorem la_M_32 : u_lay "SuggestDeskModel" T_M 32 ∈ AL := AL_in (List.mem_append_right _ (List.mem_of_getElem? (i := 803) (by decide +kernel))) (by decide +kernel)
theorem la_M_33 : u_lay "SuggestDeskModel" T_M 33 ∈ AL := AL_in (List.mem_append_right _ (List.mem_of_getElem? (i := 805) (by decide +kernel))) (by decide +kernel)
theorem la_M_34 : u_lay "SuggestDeskModel" T_M 34 ∈ AL := AL_in (List.mem_append_right _ (List.mem_of_getElem? (i := 807) (by decide +kernel))) (by decide +kernel)
theorem la_M : ∀ w ∈ u_ws "SuggestDeskModel" T_M 35, w ∈ AL := by
  intro w hw
  obtain ⟨k, hk, rfl⟩ := List.mem_map.mp hw
  have hk := List.mem_range.mp hk
  rcases (show k = 0 ∨ k = 1 ∨ k = 2 ∨ k = 3 ∨ k = 4 ∨ k = 5 ∨ k = 6 ∨ k = 7 ∨ k = 8 ∨ k = 9 ∨ k = 10 ∨ k = 11 ∨ k = 12 ∨ k = 13 ∨ k = 14 ∨ k = 15 ∨ k = 16 ∨ k = 17 ∨ k = 18 ∨ k = 19 ∨ k = 20 ∨ k = 21 ∨ k = 22 ∨ k = 23 ∨ k = 24 ∨ k = 25 ∨ k = 26 ∨ k = 27 ∨ k = 28 ∨ k = 29 ∨ k = 30 ∨ k = 31 ∨ k = 32 ∨ k = 33 ∨ k = 34 by omega) with rfl | rfl | rfl | rfl | rfl | rfl | rfl | rfl | rfl | rfl | rfl | rfl | rfl | rfl | rfl | rfl | rfl | rfl | rfl | rfl | rfl | rfl | rfl | rfl | rfl | rfl | rfl | rfl | rfl | rfl | rfl | rfl | rfl | rfl | rfl
  · exact la_M_0
  · exact la_M_1
  · exact la_M_2
  · exact la_M_3
  · exact la_M_4
  · exact la_M_5
  · exact la_M_6
  · exact la_M_7
  · exact la_M_8
  · exact la_M_9
  · exact la_M_10
  · exact la_M_11
  · exact la_M_12
  · exact la_M_13
  · exact la_M_14
  · exact la_M_15
  · exact la_M_16
  · exact la_M_17
  · exact la_M_18
  · exact la_M_19
  · exact la_M_20
  · exact la_M_21
  · exact la_M_22
  · exact la_M_23
  · exact la_M_24
  · exact la_M_25
  · exact la_M_26
  · exact la_M_27
  · exact la_M_28
  · exact la_M_29
  · exact la_M_30
  · exact la_M_31
  · exact la_M_32
  · exact la_M_33
  · exact la_M_34
theorem wf_M_7 : Cond.fieldLink "SuggestDeskModel" 7 (T_M 2).1 (T_M 2).2.1 (T_M 2).2.2.1 ∈ AL := AL_in (List.mem_append_right _ (List.mem_of_getElem? (i := 706) (by decide +kernel))) (by decide +kernel)
theorem fl_M_7 : Fl "SuggestDeskModel" 7 8 2 "SuggestDeskModel" T_M 35 := ⟨rfl, by decide, la_M, Or.inl wf_M_7⟩
theorem ff_M_7 : vwCl[8]? = some ("SuggestDeskModel", T_M, 35) ∧ 2 < 35 ∧ (∀ w ∈ u_ws "SuggestDeskModel" T_M 35, w ∈ AL) ∧ Cond.fieldLink "SuggestDeskModel" 7 (T_M 2).1 (T_M 2).2.1 (T_M 2).2.2.1 ∈ AL := ⟨rfl, by decide, la_M, wf_M_7⟩
theorem wf_M_13 : Cond.fieldLink "SuggestDeskModel" 13 (T_M 3).1 (T_M 3).2.1 (T_M 3).2.2.1 ∈ AL := AL_in (List.mem_append_right _ (List.mem_of_getElem? (i := 707) (by decide +kernel))) (by decide +kernel)
theorem fl_M_13 : Fl "SuggestDeskModel" 13 8 3 "SuggestDeskModel" T_M 35 := ⟨rfl, by decide, la_M, Or.inl wf_M_13⟩
theorem ff_M_13 : vwCl[8]? = some ("SuggestDeskModel", T_M, 35) ∧ 3 < 35 ∧ (∀ w ∈ u_ws "SuggestDeskModel" T_M 35, w ∈ AL) ∧ Cond.fieldLink "SuggestDeskModel" 13 (T_M 3).1 (T_M 3).2.1 (T_M 3).2.2.1 ∈ AL := ⟨rfl, by decide, la_M, wf_M_13⟩
theorem wf_M_17 : Cond.fieldLink "SuggestDeskModel" 17 (T_M 6).1 (T_M 6).2.1 (T_M 6).2.2.1 ∈ AL := AL_in (List.mem_append_right _ (List.mem_of_getElem? (i := 710) (by decide +kernel))) (by decide +kernel)
theorem fl_M_17 : Fl "SuggestDeskModel" 17 8 6 "SuggestDeskModel" T_M 35 := ⟨rfl, by decide, la_M, Or.inl wf_M_17⟩
theorem ff_M_17 : vwCl[8]? = some ("SuggestDeskModel", T_M, 35) ∧ 6 < 35 ∧ (∀ w ∈ u_ws "SuggestDeskModel" T_M 35, w ∈ AL) ∧ Cond.fieldLink "SuggestDeskModel" 17 (T_M 6).1 (T_M 6).2.1 (T_M 6).2.2.1 ∈ AL := ⟨rfl, by decide, la_M, wf_M_17⟩
theorem wf_M_20 : Cond.fieldLink "SuggestDeskModel" 20 (T_M 7).1 (T_M 7).2.1 (T_M 7).2.2.1 ∈ AL := AL_in (List.mem_append_right _ (List.mem_of_getElem? (i := 711) (by decide +kernel))) (by decide +kernel)
theorem fl_M_20 : Fl "SuggestDeskModel" 20 8 7 "SuggestDeskModel" T_M 35 := ⟨rfl, by decide, la_M, Or.inl wf_M_20⟩
theorem ff_M_20 : vwCl[8]? = some ("SuggestDeskModel", T_M, 35) ∧ 7 < 35 ∧ (∀ w ∈ u_ws "SuggestDeskModel" T_M 35, w ∈ AL) ∧ Cond.fieldLink "SuggestDeskModel" 20 (T_M 7).1 (T_M 7).2.1 (T_M 7).2.2.1 ∈ AL := ⟨rfl, by decide, la_M, wf_M_20⟩
theorem wf_M_23 : Cond.fieldLink "SuggestDeskModel" 23 (T_M 8).1 (T_M 8).2.1 (T_M 8).2.2.1 ∈ AL := AL_in (List.mem_append_right _ (List.mem_of_getElem? (i := 712) (by decide +kernel))) (by decide +kernel)
theorem fl_M_23 : Fl "SuggestDeskModel" 23 8 8 "SuggestDeskModel" T_M 35 := ⟨rfl, by decide, la_M, Or.inl wf_M_23⟩
theorem ff_M_23 : vwCl[8]? = some ("SuggestDeskModel", T_M, 35) ∧ 8 < 35 ∧ (∀ w ∈ u_ws "SuggestDeskModel" T_M 35, w ∈ AL) ∧ Cond.fieldLink "SuggestDeskModel" 23 (T_M 8).1 (T_M 8).2.1 (T_M 8).2.2.1 ∈ AL := ⟨rfl, by decide, la_M, wf_M_23⟩
theorem wf_M_26 : Cond.fieldLink "SuggestDeskModel" 26 (T_M 9).1 (T_M 9).2.1 (T_M 9).2.2.1 ∈ AL := AL_in (List.mem_append_right _ (List.mem_of_getElem? (i := 713) (by decide +kernel))) (by decide +kernel)
theorem fl_M_26 : Fl "SuggestDeskModel" 26 8 9 "SuggestDeskModel" T_M 35 := ⟨rfl, by decide, la_M, Or.inl wf_M_26⟩
theorem ff_M_26 : vwCl[8]? = some ("SuggestDeskModel", T_M, 35) ∧ 9 < 35 ∧ (∀ w ∈ u_ws "SuggestDeskModel" T_M 35, w ∈ AL) ∧ Cond.fieldLink "SuggestDeskModel" 26 (T_M 9).1 (T_M 9).2.1 (T_M 9).2.2.1 ∈ AL := ⟨rfl, by decide, la_M, wf_M_26⟩
theorem wf_M_29 : Cond.fieldLink "SuggestDeskModel" 29 (T_M 10).1 (T_M 10).2.1 (T_M 10).2.2.1 ∈ AL := AL_in (List.mem_append_right _ (List.mem_of_getElem? (i := 714) (by decide +kernel))) (by decide +kernel)
theorem fl_M_29 : Fl "SuggestDeskModel" 29 8 10 "SuggestDeskModel" T_M 35 := ⟨rfl, by decide, la_M, Or.inl wf_M_29⟩
theorem ff_M_29 : vwCl[8]? = some ("SuggestDeskModel", T_M, 35) ∧ 10 < 35 ∧ (∀ w ∈ u_ws "SuggestDeskModel" T_M 35, w ∈ AL) ∧ Cond.fieldLink "SuggestDeskModel" 29 (T_M 10).1 (T_M 10).2.1 (T_M 10).2.2.1 ∈ AL := ⟨rfl, by decide, la_M, wf_M_29⟩
theorem wf_M_32 : Cond.fieldLink "SuggestDeskModel" 32 (T_M 11).1 (T_M 11).2.1 (T_M 11).2.2.1 ∈ AL := AL_in (List.mem_append_right _ (List.mem_of_getElem? (i := 715) (by decide +kernel))) (by decide +kernel)
theorem fl_M_32 : Fl "SuggestDeskModel" 32 8 11 "SuggestDeskModel" T_M 35 := ⟨rfl, by decide, la_M, Or.inl wf_M_32⟩
theorem ff_M_32 : vwCl[8]? = some ("SuggestDeskModel", T_M, 35) ∧ 11 < 35 ∧ (∀ w ∈ u_ws "SuggestDeskModel" T_M 35, w ∈ AL) ∧ Cond.fieldLink "SuggestDeskModel" 32 (T_M 11).1 (T_M 11).2.1 (T_M 11).2.2.1 ∈ AL := ⟨rfl, by decide, la_M, wf_M_32⟩
theorem wf_M_35 : Cond.fieldLink "SuggestDeskModel" 35 (T_M 12).1 (T_M 12).2.1 (T_M 12).2.2.1 ∈ AL := AL_in (List.mem_append_right _ (List.mem_of_getElem? (i := 716) (by decide +kernel))) (by decide +kernel)
theorem fl_M_35 : Fl "SuggestDeskModel" 35 8 12 "SuggestDeskModel" T_M 35 := ⟨rfl, by decide, la_M, Or.inl wf_M_35⟩
theorem ff_M_35 : vwCl[8]? = some ("SuggestDeskModel", T_M, 35) ∧ 12 < 35 ∧ (∀ w ∈ u_ws "SuggestDeskModel" T_M 35, w ∈ AL) ∧ Cond.fieldLink "SuggestDeskModel" 35 (T_M 12).1 (T_M 12).2.1 (T_M 12).2.2.1 ∈ AL := ⟨rfl, by decide, la_M, wf_M_35⟩
theorem wf_M_38 : Cond.fieldLink "SuggestDeskModel" 38 (T_M 14).1 (T_M 14).2.1 (T_M 14).2.2.1 ∈ AL := AL_in (List.mem_append_right _ (List.mem_of_getElem? (i := 718) (by decide +kernel))) (by decide +kernel)
theorem fl_M_38 : Fl "SuggestDeskModel" 38 8 14 "SuggestDeskModel" T_M 35 := ⟨rfl, by decide, la_M, Or.inl wf_M_38⟩
theorem ff_M_38 : vwCl[8]? = some ("SuggestDeskModel", T_M, 35) ∧ 14 < 35 ∧ (∀ w ∈ u_ws "SuggestDeskModel" T_M 35, w ∈ AL) ∧ Cond.fieldLink "SuggestDeskModel" 38 (T_M 14).1 (T_M 14).2.1 (T_M 14).2.2.1 ∈ AL := ⟨rfl, by decide, la_M, wf_M_38⟩
theorem wf_M_41 : Cond.fieldLink "SuggestDeskModel" 41 (T_M 15).1 (T_M 15).2.1 (T_M 15).2.2.1 ∈ AL := AL_in (List.mem_append_right _ (List.mem_of_getElem? (i := 719) (by decide +kernel))) (by decide +kernel)
theorem fl_M_41 : Fl "SuggestDeskModel" 41 8 15 "SuggestDeskModel" T_M 35 := ⟨rfl, by decide, la_M, Or.inl wf_M_41⟩
theorem ff_M_41 : vwCl[8]? = some ("SuggestDeskModel", T_M, 35) ∧ 15 < 35 ∧ (∀ w ∈ u_ws "SuggestDeskModel" T_M 35, w ∈ AL) ∧ Cond.fieldLink "SuggestDeskModel" 41 (T_M 15).1 (T_M 15).2.1 (T_M 15).2.2.1 ∈ AL := ⟨rfl, by decide, la_M, wf_M_41⟩
theorem wf_M_44 : Cond.fieldLink "SuggestDeskModel" 44 (T_M 16).1 (T_M 16).2.1 (T_M 16).2.2.1 ∈ AL := AL_in (List.mem_append_right _ (List.mem_of_getElem? (i := 720) (by decide +kernel))) (by decide +kernel)
theorem fl_M_44 : Fl "SuggestDeskModel" 44 8 16 "SuggestDeskModel" T_M 35 := ⟨rfl, by decide, la_M, Or.inl wf_M_44⟩
theorem ff_M_44 : vwCl[8]? = some ("SuggestDeskModel", T_M, 35) ∧ 16 < 35 ∧ (∀ w ∈ u_ws "SuggestDeskModel" T_M 35, w ∈ AL) ∧ Cond.fieldLink "SuggestDeskModel" 44 (T_M 16).1 (T_M 16).2.1 (T_M 16).2.2.1 ∈ AL := ⟨rfl, by decide, la_M, wf_M_44⟩
theorem wf_M_47 : Cond.fieldLink "SuggestDeskModel" 47 (T_M 17).1 (T_M 17).2.1 (T_M 17).2.2.1 ∈ AL := AL_in (List.mem_append_right _ (List.mem_of_getElem? (i := 721) (by decide +kernel))) (by decide +kernel)
theorem fl_M_47 : Fl "SuggestDeskModel" 47 8 17 "SuggestDeskModel" T_M 35 := ⟨rfl, by decide, la_M, Or.inl wf_M_47⟩
theorem ff_M_47 : vwCl[8]? = some ("SuggestDeskModel", T_M, 35) ∧ 17 < 35 ∧ (∀ w ∈ u_ws "SuggestDeskModel" T_M 35, w ∈ AL) ∧ Cond.fieldLink "SuggestDeskModel" 47 (T_M 17).1 (T_M 17).2.1 (T_M 17).2.2.1 ∈ AL := ⟨rfl, by decide, la_M, wf_M_47⟩
theorem wf_M_50 : Cond.fieldLink "SuggestDeskModel" 50 (T_M 18).1 (T_M 18).2.1 (T_M 18).2.2.1 ∈ AL := AL_in (List.mem_append_right _ (List.mem_of_getElem? (i := 722) (by decide +kernel))) (by decide +kernel)
theorem fl_M_50 : Fl "SuggestDeskModel" 50 8 18 "SuggestDeskModel" T_M 35 := ⟨rfl, by decide, la_M, Or.inl wf_M_50⟩
theorem ff_M_50 : vwCl[8]? = some ("SuggestDeskModel", T_M, 35) ∧ 18 < 35 ∧ (∀ w ∈ u_ws "SuggestDeskModel" T_M 35, w ∈ AL) ∧ Cond.fieldLink "SuggestDeskModel" 50 (T_M 18).1 (T_M 18).2.1 (T_M 18).2.2.1 ∈ AL := ⟨rfl, by decide, la_M, wf_M_50⟩
theorem wf_M_53 : Cond.fieldLink "SuggestDeskModel" 53 (T_M 20).1 (T_M 20).2.1 (T_M 20).2.2.1 ∈ AL := AL_in (List.mem_append_right _ (List.mem_of_getElem? (i := 724) (by decide +kernel))) (by decide +kernel)
theorem fl_M_53 : Fl "SuggestDeskModel" 53 8 20 "SuggestDeskModel" T_M 35 := ⟨rfl, by decide, la_M, Or.inl wf_M_53⟩
theorem ff_M_53 : vwCl[8]? = some ("SuggestDeskModel", T_M, 35) ∧ 20 < 35 ∧ (∀ w ∈ u_ws "SuggestDeskModel" T_M 35, w ∈ AL) ∧ Cond.fieldLink "SuggestDeskModel" 53 (T_M 20).1 (T_M 20).2.1 (T_M 20).2.2.1 ∈ AL := ⟨rfl, by decide, la_M, wf_M_53⟩
theorem wf_M_56 : Cond.fieldLink "SuggestDeskModel" 56 (T_M 21).1 (T_M 21).2.1 (T_M 21).2.2.1 ∈ AL := AL_in (List.mem_append_right _ (List.mem_of_getElem? (i := 725) (by decide +kernel))) (by decide +kernel)
theorem fl_M_56 : Fl "SuggestDeskModel" 56 8 21 "SuggestDeskModel" T_M 35 := ⟨rfl, by decide, la_M, Or.inl wf_M_56⟩
theorem ff_M_56 : vwCl[8]? = some ("SuggestDeskModel", T_M, 35) ∧ 21 < 35 ∧ (∀ w ∈ u_ws "SuggestDeskModel" T_M 35, w ∈ AL) ∧ Cond.fieldLink "SuggestDeskModel" 56 (T_M 21).1 (T_M 21).2.1 (T_M 21).2.2.1 ∈ AL := ⟨rfl, by decide, la_M, wf_M_56⟩
theorem wf_M_59 : Cond.fieldLink "SuggestDeskModel" 59 (T_M 22).1 (T_M 22).2.1 (T_M 22).2.2.1 ∈ AL := AL_in (List.mem_append_right _ (List.mem_of_getElem? (i := 726) (by decide +kernel))) (by decide +kernel)
theorem fl_M_59 : Fl "SuggestDeskModel" 59 8 22 "SuggestDeskModel" T_M 35 := ⟨rfl, by decide, la_M, Or.inl wf_M_59⟩
theorem ff_M_59 : vwCl[8]? = some ("SuggestDeskModel", T_M, 35) ∧ 22 < 35 ∧ (∀ w ∈ u_ws "SuggestDeskModel" T_M 35, w ∈ AL) ∧ Cond.fieldLink "SuggestDeskModel" 59 (T_M 22).1 (T_M 22).2.1 (T_M 22).2.2.1 ∈ AL := ⟨rfl, by decide, la_M, wf_M_59⟩
theorem wf_M_62 : Cond.fieldLink "SuggestDeskModel" 62 (T_M 24).1 (T_M 24).2.1 (T_M 24).2.2.1 ∈ AL := AL_in (List.mem_append_right _ (List.mem_of_getElem? (i := 728) (by decide +kernel))) (by decide +kernel)
theorem fl_M_62 : Fl "SuggestDeskModel" 62 8 24 "SuggestDeskModel" T_M 35 := ⟨rfl, by decide, la_M, Or.inl wf_M_62⟩
theorem ff_M_62 : vwCl[8]? = some ("SuggestDeskModel", T_M, 35) ∧ 24 < 35 ∧ (∀ w ∈ u_ws "SuggestDeskModel" T_M 35, w ∈ AL) ∧ Cond.fieldLink "SuggestDeskModel" 62 (T_M 24).1 (T_M 24).2.1 (T_M 24).2.2.1 ∈ AL := ⟨rfl, by decide, la_M, wf_M_62⟩
theorem wf_M_65 : Cond.fieldLink "SuggestDeskModel" 65 (T_M 25).1 (T_M 25).2.1 (T_M 25).2.2.1 ∈ AL := AL_in (List.mem_append_right _ (List.mem_of_getElem? (i := 729) (by decide +kernel))) (by decide +kernel)
theorem fl_M_65 : Fl "SuggestDeskModel" 65 8 25 "SuggestDeskModel" T_M 35 := ⟨rfl, by decide, la_M, Or.inl wf_M_65⟩
theorem ff_M_65 : vwCl[8]? = some ("SuggestDeskModel", T_M, 35) ∧ 25 < 35 ∧ (∀ w ∈ u_ws "SuggestDeskModel" T_M 35, w ∈ AL) ∧ Cond.fieldLink "SuggestDeskModel" 65 (T_M 25).1 (T_M 25).2.1 (T_M 25).2.2.1 ∈ AL := ⟨rfl, by decide, la_M, wf_M_65⟩
theorem wf_M_68 : Cond.fieldLink "SuggestDeskModel" 68 (T_M 26).1 (T_M 26).2.1 (T_M 26).2.2.1 ∈ AL := AL_in (List.mem_append_right _ (List.mem_of_getElem? (i := 730) (by decide +kernel))) (by decide +kernel)
theorem fl_M_68 : Fl "SuggestDeskModel" 68 8 26 "SuggestDeskModel" T_M 35 := ⟨rfl, by decide, la_M, Or.inl wf_M_68⟩
theorem ff_M_68 : vwCl[8]? = some ("SuggestDeskModel", T_M, 35) ∧ 26 < 35 ∧ (∀ w ∈ u_ws "SuggestDeskModel" T_M 35, w ∈ AL) ∧ Cond.fieldLink "SuggestDeskModel" 68 (T_M 26).1 (T_M 26).2.1 (T_M 26).2.2.1 ∈ AL := ⟨rfl, by decide, la_M, wf_M_68⟩
theorem wf_M_71 : Cond.fieldLink "SuggestDeskModel" 71 (T_M 28).1 (T_M 28).2.1 (T_M 28).2.2.1 ∈ AL := AL_in (List.mem_append_right _ (List.mem_of_getElem? (i := 732) (by decide +kernel))) (by decide +kernel)
theorem fl_M_71 : Fl "SuggestDeskModel" 71 8 28 "SuggestDeskModel" T_M 35 := ⟨rfl, by decide, la_M, Or.inl wf_M_71⟩
theorem ff_M_71 : vwCl[8]? = some ("SuggestDeskModel", T_M, 35) ∧ 28 < 35 ∧ (∀ w ∈ u_ws "SuggestDeskModel" T_M 35, w ∈ AL) ∧ Cond.fieldLink "SuggestDeskModel" 71 (T_M 28).1 (T_M 28).2.1 (T_M 28).2.2.1 ∈ AL := ⟨rfl, by decide, la_M, wf_M_71⟩
theorem wf_M_74 : Cond.fieldLink "SuggestDeskModel" 74 (T_M 30).1 (T_M 30).2.1 (T_M 30).2.2.1 ∈ AL := AL_in (List.mem_append_right _ (List.mem_of_getElem? (i := 734) (by decide +kernel))) (by decide +kernel)
theorem fl_M_74 : Fl "SuggestDeskModel" 74 8 30 "SuggestDeskModel" T_M 35 := ⟨rfl, by decide, la_M, Or.inl wf_M_74⟩
theorem ff_M_74 : vwCl[8]? = some ("SuggestDeskModel", T_M, 35) ∧ 30 < 35 ∧ (∀ w ∈ u_ws "SuggestDeskModel" T_M 35, w ∈ AL) ∧ Cond.fieldLink "SuggestDeskModel" 74 (T_M 30).1 (T_M 30).2.1 (T_M 30).2.2.1 ∈ AL := ⟨rfl, by decide, la_M, wf_M_74⟩
theorem wf_M_77 : Cond.fieldLink "SuggestDeskModel" 77 (T_M 31).1 (T_M 31).2.1 (T_M 31).2.2.1 ∈ AL := AL_in (List.mem_append_right _ (List.mem_of_getElem? (i := 735) (by decide +kernel))) (by decide +kernel)
theorem fl_M_77 : Fl "SuggestDeskModel" 77 8 31 "SuggestDeskModel" T_M 35 := ⟨rfl, by decide, la_M, Or.inl wf_M_77⟩
theorem ff_M_77 : vwCl[8]? = some ("SuggestDeskModel", T_M, 35) ∧ 31 < 35 ∧ (∀ w ∈ u_ws "SuggestDeskModel" T_M 35, w ∈ AL) ∧ Cond.fieldLink "SuggestDeskModel" 77 (T_M 31).1 (T_M 31).2.1 (T_M 31).2.2.1 ∈ AL := ⟨rfl, by decide, la_M, wf_M_77⟩
theorem wf_M_80 : Cond.fieldLink "SuggestDeskModel" 80 (T_M 32).1 (T_M 32).2.1 (T_M 32).2.2.1 ∈ AL := AL_in (List.mem_append_right _ (List.mem_of_getElem? (i := 736) (by decide +kernel))) (by decide +kernel)
theorem fl_M_80 : Fl "SuggestDeskModel" 80 8 32 "SuggestDeskModel" T_M 35 := ⟨rfl, by decide, la_M, Or.inl wf_M_80⟩
theorem ff_M_80 : vwCl[8]? = some ("SuggestDeskModel", T_M, 35) ∧ 32 < 35 ∧ (∀ w ∈ u_ws "SuggestDeskModel" T_M 35, w ∈ AL) ∧ Cond.fieldLink "SuggestDeskModel" 80 (T_M 32).1 (T_M 32).2.1 (T_M 32).2.2.1 ∈ AL := ⟨rfl, by decide, la_M, wf_M_80⟩
theorem wf_M_83 : Cond.fieldLink "SuggestDeskModel" 83 (T_M 33).1 (T_M 33).2.1 (T_M 33).2.2.1 ∈ AL := AL_in (List.mem_append_right _ (List.mem_of_getElem? (i := 737) (by decide +kernel))) (by decide +kernel)
theorem fl_M_83 : Fl "SuggestDeskModel" 83 8 33 "SuggestDeskModel" T_M 35 := ⟨rfl, by decide, la_M, Or.inl wf_M_83⟩
theorem ff_M_83 : vwCl[8]? = some ("SuggestDeskModel", T_M, 35) ∧ 33 < 35 ∧ (∀ w ∈ u_ws "SuggestDeskModel" T_M 35, w ∈ AL) ∧ Cond.fieldLink "SuggestDeskModel" 83 (T_M 33).1 (T_M 33).2.1 (T_M 33).2.2.1 ∈ AL := ⟨rfl, by decide, la_M, wf_M_83⟩
theorem wf_M_86 : Cond.fieldLink "SuggestDeskModel" 86 (T_M 34).1 (T_M 34).2.1 (T_M 34).2.2.1 ∈ AL := AL_in (List.mem_append_right _ (List.mem_of_getElem? (i := 738) (by decide +kernel))) (by decide +kernel)
theorem fl_M_86 : Fl "SuggestDeskModel" 86 8 34 "SuggestDeskModel" T_M 35 := ⟨rfl, by decide, la_M, Or.inl wf_M_86⟩
theorem ff_M_86 : vwCl[8]? = some ("SuggestDeskModel", T_M, 35) ∧ 34 < 35 ∧ (∀ w ∈ u_ws "SuggestDeskModel" T_M 35, w ∈ AL) ∧ Cond.fieldLink "SuggestDeskModel" 86 (T_M 34).1 (T_M 34).2.1 (T_M 34).2.2.1 ∈ AL := ⟨rfl, by decide, la_M, wf_M_86⟩
theorem wf_M_89 : Cond.fieldLink "SuggestDeskModel" 89 (T_M 0).1 (T_M 0).2.1 (T_M 0).2.2.1 ∈ AL := AL_in (List.mem_append_right _ (List.mem_of_getElem? (i := 704) (by decide +kernel))) (by decide +kernel)
theorem fl_M_89 : Fl "SuggestDeskModel" 89 8 0 "SuggestDeskModel" T_M 35 := ⟨rfl, by decide, la_M, Or.inl wf_M_89⟩
theorem wl_M_93 : Cond.methodLink "SuggestDeskModel" 93 y_M_lettersOf ∈ AL := AL_in (List.mem_append_right _ (List.mem_of_getElem? (i := 824) (by decide +kernel))) (by decide +kernel)
theorem lk_M_93 : Lk "SuggestDeskModel" 93 y_M_lettersOf := Or.inl wl_M_93
theorem wc_M_lettersOf : Cond.code y_M_lettersOf b_M_lettersOf 3 (some .int) ∈ AL := AL_in (List.mem_append_right _ (List.mem_of_getElem? (i := 826) (by decide +kernel))) (by decide +kernel)
theorem wi_M : Cond.initialized "SuggestDeskModel" ∈ AL := AL_in (List.mem_append_right _ (List.mem_of_getElem? (i := 9) (by decide +kernel))) (by decide +kernel)
theorem mw_M_lettersOf : Mw y_M_lettersOf b_M_lettersOf 3 (some .int) 1 := ⟨wc_M_lettersOf, wi_M, by decide, by decide, by decide +kernel⟩
theorem ws_M_lettersOf : Cond.static y_M_lettersOf ∈ AL := AL_in (List.mem_append_right _ (List.mem_of_getElem? (i := 825) (by decide +kernel))) (by decide +kernel)
theorem wk_M_97 : Cond.constantLong "SuggestDeskModel" 97 (255 : Int64) ∈ AL := AL_in (List.mem_append_right _ (List.mem_of_getElem? (i := 827) (by decide +kernel))) (by decide +kernel)
theorem wk_M_99 : Cond.constantLong "SuggestDeskModel" 99 (97 : Int64) ∈ AL := AL_in (List.mem_append_right _ (List.mem_of_getElem? (i := 828) (by decide +kernel))) (by decide +kernel)
theorem wk_M_101 : Cond.constantLong "SuggestDeskModel" 101 (106 : Int64) ∈ AL := AL_in (List.mem_append_right _ (List.mem_of_getElem? (i := 829) (by decide +kernel))) (by decide +kernel)
theorem wl_M_103 : Cond.methodLink "SuggestDeskModel" 103 y_M_isText ∈ AL := AL_in (List.mem_append_right _ (List.mem_of_getElem? (i := 821) (by decide +kernel))) (by decide +kernel)
theorem lk_M_103 : Lk "SuggestDeskModel" 103 y_M_isText := Or.inl wl_M_103
theorem wc_M_isText : Cond.code y_M_isText b_M_isText 7 (some .boolean) ∈ AL := AL_in (List.mem_append_right _ (List.mem_of_getElem? (i := 823) (by decide +kernel))) (by decide +kernel)
theorem mw_M_isText : Mw y_M_isText b_M_isText 7 (some .boolean) 1 := ⟨wc_M_isText, wi_M, by decide, by decide, by decide +kernel⟩
theorem ws_M_isText : Cond.static y_M_isText ∈ AL := AL_in (List.mem_append_right _ (List.mem_of_getElem? (i := 822) (by decide +kernel))) (by decide +kernel)
theorem wl_M_107 : Cond.methodLink "SuggestDeskModel" 107 y_M_at ∈ AL := AL_in (List.mem_append_right _ (List.mem_of_getElem? (i := 849) (by decide +kernel))) (by decide +kernel)
theorem lk_M_107 : Lk "SuggestDeskModel" 107 y_M_at := Or.inl wl_M_107
theorem wc_M_at : Cond.code y_M_at b_M_at 4 (some .int) ∈ AL := AL_in (List.mem_append_right _ (List.mem_of_getElem? (i := 851) (by decide +kernel))) (by decide +kernel)
theorem mw_M_at : Mw y_M_at b_M_at 4 (some .int) 2 := ⟨wc_M_at, wi_M, by decide, by decide, by decide +kernel⟩
theorem ws_M_at : Cond.static y_M_at ∈ AL := AL_in (List.mem_append_right _ (List.mem_of_getElem? (i := 850) (by decide +kernel))) (by decide +kernel)
theorem wl_M_111 : Cond.methodLink "SuggestDeskModel" 111 y_M_isWord ∈ AL := AL_in (List.mem_append_right _ (List.mem_of_getElem? (i := 818) (by decide +kernel))) (by decide +kernel)
theorem lk_M_111 : Lk "SuggestDeskModel" 111 y_M_isWord := Or.inl wl_M_111
theorem wc_M_isWord : Cond.code y_M_isWord b_M_isWord 2 (some .boolean) ∈ AL := AL_in (List.mem_append_right _ (List.mem_of_getElem? (i := 820) (by decide +kernel))) (by decide +kernel)
theorem mw_M_isWord : Mw y_M_isWord b_M_isWord 2 (some .boolean) 1 := ⟨wc_M_isWord, wi_M, by decide, by decide, by decide +kernel⟩
theorem ws_M_isWord : Cond.static y_M_isWord ∈ AL := AL_in (List.mem_append_right _ (List.mem_of_getElem? (i := 819) (by decide +kernel))) (by decide +kernel)
theorem wf_M_114 : Cond.fieldLink "SuggestDeskModel" 114 (T_M 1).1 (T_M 1).2.1 (T_M 1).2.2.1 ∈ AL := AL_in (List.mem_append_right _ (List.mem_of_getElem? (i := 705) (by decide +kernel))) (by decide +kernel)
theorem fl_M_114 : Fl "SuggestDeskModel" 114 8 1 "SuggestDeskModel" T_M 35 := ⟨rfl, by decide, la_M, Or.inl wf_M_114⟩
theorem wl_M_117 : Cond.methodLink "SuggestDeskModel" 117 y_M_throwing ∈ AL := AL_in (List.mem_append_right _ (List.mem_of_getElem? (i := 830) (by decide +kernel))) (by decide +kernel)
theorem lk_M_117 : Lk "SuggestDeskModel" 117 y_M_throwing := Or.inl wl_M_117
theorem wc_M_throwing : Cond.code y_M_throwing b_M_throwing 3 (some .boolean) ∈ AL := AL_in (List.mem_append_right _ (List.mem_of_getElem? (i := 833) (by decide +kernel))) (by decide +kernel)
theorem mw_M_throwing : Mw y_M_throwing b_M_throwing 3 (some .boolean) 2 := ⟨wc_M_throwing, wi_M, by decide, by decide, by decide +kernel⟩
theorem wn_M_throwing : Cond.instanceMethod y_M_throwing ∈ AL := AL_in (List.mem_append_right _ (List.mem_of_getElem? (i := 832) (by decide +kernel))) (by decide +kernel)
theorem wx_M_throwing : Cond.selects "SuggestDeskModel" y_M_throwing y_M_throwing ∈ AL := AL_in (List.mem_append_left _ (List.mem_of_getElem? (i := 16) (by decide +kernel))) (by decide +kernel)
theorem sv_M_throwing : Cond.instanceMethod y_M_throwing ∈ AL ∧ Cond.selects y_M_throwing.cls y_M_throwing y_M_throwing ∈ AL := ⟨wn_M_throwing, wx_M_throwing⟩
theorem wf_M_121 : Cond.fieldLink "SuggestDeskModel" 121 (T_M 4).1 (T_M 4).2.1 (T_M 4).2.2.1 ∈ AL := AL_in (List.mem_append_right _ (List.mem_of_getElem? (i := 708) (by decide +kernel))) (by decide +kernel)
theorem fl_M_121 : Fl "SuggestDeskModel" 121 8 4 "SuggestDeskModel" T_M 35 := ⟨rfl, by decide, la_M, Or.inl wf_M_121⟩
theorem wf_M_128 : Cond.fieldLink "SuggestDeskModel" 128 (T_M 5).1 (T_M 5).2.1 (T_M 5).2.2.1 ∈ AL := AL_in (List.mem_append_right _ (List.mem_of_getElem? (i := 709) (by decide +kernel))) (by decide +kernel)
theorem fl_M_128 : Fl "SuggestDeskModel" 128 8 5 "SuggestDeskModel" T_M 35 := ⟨rfl, by decide, la_M, Or.inl wf_M_128⟩
theorem wl_M_131 : Cond.methodLink "SuggestDeskModel" 131 y_M_isBefore ∈ AL := AL_in (List.mem_append_right _ (List.mem_of_getElem? (i := 846) (by decide +kernel))) (by decide +kernel)
theorem lk_M_131 : Lk "SuggestDeskModel" 131 y_M_isBefore := Or.inl wl_M_131
theorem wc_M_isBefore : Cond.code y_M_isBefore b_M_isBefore 5 (some .boolean) ∈ AL := AL_in (List.mem_append_right _ (List.mem_of_getElem? (i := 848) (by decide +kernel))) (by decide +kernel)
theorem mw_M_isBefore : Mw y_M_isBefore b_M_isBefore 5 (some .boolean) 2 := ⟨wc_M_isBefore, wi_M, by decide, by decide, by decide +kernel⟩
theorem ws_M_isBefore : Cond.static y_M_isBefore ∈ AL := AL_in (List.mem_append_right _ (List.mem_of_getElem? (i := 847) (by decide +kernel))) (by decide +kernel)
theorem wl_M_124 : Cond.methodLink "SuggestDeskModel" 124 y_M_move ∈ AL := AL_in (List.mem_append_right _ (List.mem_of_getElem? (i := 842) (by decide +kernel))) (by decide +kernel)
theorem lk_M_124 : Lk "SuggestDeskModel" 124 y_M_move := Or.inl wl_M_124
theorem wc_M_move : Cond.code y_M_move b_M_move 4 none ∈ AL := AL_in (List.mem_append_right _ (List.mem_of_getElem? (i := 845) (by decide +kernel))) (by decide +kernel)
theorem mw_M_move : Mw y_M_move b_M_move 4 none 2 := ⟨wc_M_move, wi_M, by decide, by decide, by decide +kernel⟩
theorem wn_M_move : Cond.instanceMethod y_M_move ∈ AL := AL_in (List.mem_append_right _ (List.mem_of_getElem? (i := 844) (by decide +kernel))) (by decide +kernel)
theorem wx_M_move : Cond.selects "SuggestDeskModel" y_M_move y_M_move ∈ AL := AL_in (List.mem_append_left _ (List.mem_of_getElem? (i := 17) (by decide +kernel))) (by decide +kernel)
theorem sv_M_move : Cond.instanceMethod y_M_move ∈ AL ∧ Cond.selects y_M_move.cls y_M_move y_M_move ∈ AL := ⟨wn_M_move, wx_M_move⟩
theorem wl_M_135 : Cond.methodLink "SuggestDeskModel" 135 y_M_placeOf ∈ AL := AL_in (List.mem_append_right _ (List.mem_of_getElem? (i := 860) (by decide +kernel))) (by decide +kernel)
theorem lk_M_135 : Lk "SuggestDeskModel" 135 y_M_placeOf := Or.inl wl_M_135
theorem wc_M_placeOf : Cond.code y_M_placeOf b_M_placeOf 4 (some .int) ∈ AL := AL_in (List.mem_append_right _ (List.mem_of_getElem? (i := 863) (by decide +kernel))) (by decide +kernel)
theorem mw_M_placeOf : Mw y_M_placeOf b_M_placeOf 4 (some .int) 1 := ⟨wc_M_placeOf, wi_M, by decide, by decide, by decide +kernel⟩
theorem wn_M_placeOf : Cond.instanceMethod y_M_placeOf ∈ AL := AL_in (List.mem_append_right _ (List.mem_of_getElem? (i := 862) (by decide +kernel))) (by decide +kernel)
theorem wx_M_placeOf : Cond.selects "SuggestDeskModel" y_M_placeOf y_M_placeOf ∈ AL := AL_in (List.mem_append_left _ (List.mem_of_getElem? (i := 18) (by decide +kernel))) (by decide +kernel)
theorem sv_M_placeOf : Cond.instanceMethod y_M_placeOf ∈ AL ∧ Cond.selects y_M_placeOf.cls y_M_placeOf y_M_placeOf ∈ AL := ⟨wn_M_placeOf, wx_M_placeOf⟩
theorem wf_M_139 : Cond.fieldLink "SuggestDeskModel" 139 (T_M 13).1 (T_M 13).2.1 (T_M 13).2.2.1 ∈ AL := AL_in (List.mem_append_right _ (List.mem_of_getElem? (i := 717) (by decide +kernel))) (by decide +kernel)
theorem fl_M_139 : Fl "SuggestDeskModel" 139 8 13 "SuggestDeskModel" T_M 35 := ⟨rfl, by decide, la_M, Or.inl wf_M_139⟩
theorem wl_M_142 : Cond.methodLink "SuggestDeskModel" 142 y_M_common ∈ AL := AL_in (List.mem_append_right _ (List.mem_of_getElem? (i := 872) (by decide +kernel))) (by decide +kernel)
theorem lk_M_142 : Lk "SuggestDeskModel" 142 y_M_common := Or.inl wl_M_142
theorem wc_M_common : Cond.code y_M_common b_M_common 5 (some .int) ∈ AL := AL_in (List.mem_append_right _ (List.mem_of_getElem? (i := 874) (by decide +kernel))) (by decide +kernel)
theorem mw_M_common : Mw y_M_common b_M_common 5 (some .int) 2 := ⟨wc_M_common, wi_M, by decide, by decide, by decide +kernel⟩
theorem ws_M_common : Cond.static y_M_common ∈ AL := AL_in (List.mem_append_right _ (List.mem_of_getElem? (i := 873) (by decide +kernel))) (by decide +kernel)
theorem wk_M_146 : Cond.constantLong "SuggestDeskModel" 146 (31 : Int64) ∈ AL := AL_in (List.mem_append_right _ (List.mem_of_getElem? (i := 879) (by decide +kernel))) (by decide +kernel)
theorem wk_M_148 : Cond.constantLong "SuggestDeskModel" 148 (131 : Int64) ∈ AL := AL_in (List.mem_append_right _ (List.mem_of_getElem? (i := 880) (by decide +kernel))) (by decide +kernel)
theorem wl_M_150 : Cond.methodLink "SuggestDeskModel" 150 y_M_begin ∈ AL := AL_in (List.mem_append_right _ (List.mem_of_getElem? (i := 875) (by decide +kernel))) (by decide +kernel)
theorem lk_M_150 : Lk "SuggestDeskModel" 150 y_M_begin := Or.inl wl_M_150
theorem wc_M_begin : Cond.code y_M_begin b_M_begin 9 none ∈ AL := AL_in (List.mem_append_right _ (List.mem_of_getElem? (i := 878) (by decide +kernel))) (by decide +kernel)
theorem mw_M_begin : Mw y_M_begin b_M_begin 9 none 3 := ⟨wc_M_begin, wi_M, by decide, by decide, by decide +kernel⟩
theorem wn_M_begin : Cond.instanceMethod y_M_begin ∈ AL := AL_in (List.mem_append_right _ (List.mem_of_getElem? (i := 877) (by decide +kernel))) (by decide +kernel)
theorem wx_M_begin : Cond.selects "SuggestDeskModel" y_M_begin y_M_begin ∈ AL := AL_in (List.mem_append_left _ (List.mem_of_getElem? (i := 20) (by decide +kernel))) (by decide +kernel)
theorem sv_M_begin : Cond.instanceMethod y_M_begin ∈ AL ∧ Cond.selects y_M_begin.cls y_M_begin y_M_begin ∈ AL := ⟨wn_M_begin, wx_M_begin⟩
theorem wl_M_154 : Cond.methodLink "SuggestDeskModel" 154 y_M_same ∈ AL := AL_in (List.mem_append_right _ (List.mem_of_getElem? (i := 881) (by decide +kernel))) (by decide +kernel)
theorem lk_M_154 : Lk "SuggestDeskModel" 154 y_M_same := Or.inl wl_M_154
theorem wc_M_same : Cond.code y_M_same b_M_same 11 (some .boolean) ∈ AL := AL_in (List.mem_append_right _ (List.mem_of_getElem? (i := 884) (by decide +kernel))) (by decide +kernel)
theorem mw_M_same : Mw y_M_same b_M_same 11 (some .boolean) 3 := ⟨wc_M_same, wi_M, by decide, by decide, by decide +kernel⟩
theorem wn_M_same : Cond.instanceMethod y_M_same ∈ AL := AL_in (List.mem_append_right _ (List.mem_of_getElem? (i := 883) (by decide +kernel))) (by decide +kernel)
theorem wx_M_same : Cond.selects "SuggestDeskModel" y_M_same y_M_same ∈ AL := AL_in (List.mem_append_left _ (List.mem_of_getElem? (i := 21) (by decide +kernel))) (by decide +kernel)
theorem sv_M_same : Cond.instanceMethod y_M_same ∈ AL ∧ Cond.selects y_M_same.cls y_M_same y_M_same ∈ AL := ⟨wn_M_same, wx_M_same⟩
theorem wl_M_158 : Cond.methodLink "SuggestDeskModel" 158 y_M_followers ∈ AL := AL_in (List.mem_append_right _ (List.mem_of_getElem? (i := 885) (by decide +kernel))) (by decide +kernel)
theorem lk_M_158 : Lk "SuggestDeskModel" 158 y_M_followers := Or.inl wl_M_158
theorem wc_M_followers : Cond.code y_M_followers b_M_followers 7 (some .int) ∈ AL := AL_in (List.mem_append_right _ (List.mem_of_getElem? (i := 888) (by decide +kernel))) (by decide +kernel)
theorem mw_M_followers : Mw y_M_followers b_M_followers 7 (some .int) 2 := ⟨wc_M_followers, wi_M, by decide, by decide, by decide +kernel⟩
theorem wn_M_followers : Cond.instanceMethod y_M_followers ∈ AL := AL_in (List.mem_append_right _ (List.mem_of_getElem? (i := 887) (by decide +kernel))) (by decide +kernel)
theorem wx_M_followers : Cond.selects "SuggestDeskModel" y_M_followers y_M_followers ∈ AL := AL_in (List.mem_append_left _ (List.mem_of_getElem? (i := 22) (by decide +kernel))) (by decide +kernel)
theorem sv_M_followers : Cond.instanceMethod y_M_followers ∈ AL ∧ Cond.selects y_M_followers.cls y_M_followers y_M_followers ∈ AL := ⟨wn_M_followers, wx_M_followers⟩
theorem wl_M_162 : Cond.methodLink "SuggestDeskModel" 162 y_M_count ∈ AL := AL_in (List.mem_append_right _ (List.mem_of_getElem? (i := 868) (by decide +kernel))) (by decide +kernel)
theorem lk_M_162 : Lk "SuggestDeskModel" 162 y_M_count := Or.inl wl_M_162
theorem wc_M_count : Cond.code y_M_count b_M_count 5 none ∈ AL := AL_in (List.mem_append_right _ (List.mem_of_getElem? (i := 871) (by decide +kernel))) (by decide +kernel)
theorem mw_M_count : Mw y_M_count b_M_count 5 none 1 := ⟨wc_M_count, wi_M, by decide, by decide, by decide +kernel⟩
theorem wn_M_count : Cond.instanceMethod y_M_count ∈ AL := AL_in (List.mem_append_right _ (List.mem_of_getElem? (i := 870) (by decide +kernel))) (by decide +kernel)
theorem wx_M_count : Cond.selects "SuggestDeskModel" y_M_count y_M_count ∈ AL := AL_in (List.mem_append_left _ (List.mem_of_getElem? (i := 19) (by decide +kernel))) (by decide +kernel)
theorem sv_M_count : Cond.instanceMethod y_M_count ∈ AL ∧ Cond.selects y_M_count.cls y_M_count y_M_count ∈ AL := ⟨wn_M_count, wx_M_count⟩
theorem wf_M_166 : Cond.fieldLink "SuggestDeskModel" 166 (T_M 19).1 (T_M 19).2.1 (T_M 19).2.2.1 ∈ AL := AL_in (List.mem_append_right _ (List.mem_of_getElem? (i := 723) (by decide +kernel))) (by decide +kernel)
theorem fl_M_166 : Fl "SuggestDeskModel" 166 8 19 "SuggestDeskModel" T_M 35 := ⟨rfl, by decide, la_M, Or.inl wf_M_166⟩
theorem wl_M_169 : Cond.methodLink "SuggestDeskModel" 169 y_M_give ∈ AL := AL_in (List.mem_append_right _ (List.mem_of_getElem? (i := 897) (by decide +kernel))) (by decide +kernel)
theorem lk_M_169 : Lk "SuggestDeskModel" 169 y_M_give := Or.inl wl_M_169
theorem wc_M_give : Cond.code y_M_give b_M_give 5 none ∈ AL := AL_in (List.mem_append_right _ (List.mem_of_getElem? (i := 900) (by decide +kernel))) (by decide +kernel)
theorem mw_M_give : Mw y_M_give b_M_give 5 none 2 := ⟨wc_M_give, wi_M, by decide, by decide, by decide +kernel⟩
theorem wn_M_give : Cond.instanceMethod y_M_give ∈ AL := AL_in (List.mem_append_right _ (List.mem_of_getElem? (i := 899) (by decide +kernel))) (by decide +kernel)
theorem wx_M_give : Cond.selects "SuggestDeskModel" y_M_give y_M_give ∈ AL := AL_in (List.mem_append_left _ (List.mem_of_getElem? (i := 23) (by decide +kernel))) (by decide +kernel)
theorem sv_M_give : Cond.instanceMethod y_M_give ∈ AL ∧ Cond.selects y_M_give.cls y_M_give y_M_give ∈ AL := ⟨wn_M_give, wx_M_give⟩
theorem wl_M_173 : Cond.methodLink "SuggestDeskModel" 173 y_M_lesser ∈ AL := AL_in (List.mem_append_right _ (List.mem_of_getElem? (i := 909) (by decide +kernel))) (by decide +kernel)
theorem lk_M_173 : Lk "SuggestDeskModel" 173 y_M_lesser := Or.inl wl_M_173
theorem wc_M_lesser : Cond.code y_M_lesser b_M_lesser 2 (some .int) ∈ AL := AL_in (List.mem_append_right _ (List.mem_of_getElem? (i := 911) (by decide +kernel))) (by decide +kernel)
theorem mw_M_lesser : Mw y_M_lesser b_M_lesser 2 (some .int) 2 := ⟨wc_M_lesser, wi_M, by decide, by decide, by decide +kernel⟩
theorem ws_M_lesser : Cond.static y_M_lesser ∈ AL := AL_in (List.mem_append_right _ (List.mem_of_getElem? (i := 910) (by decide +kernel))) (by decide +kernel)
theorem wl_M_176 : Cond.methodLink "SuggestDeskModel" 176 y_M_distanceOf ∈ AL := AL_in (List.mem_append_right _ (List.mem_of_getElem? (i := 905) (by decide +kernel))) (by decide +kernel)
theorem lk_M_176 : Lk "SuggestDeskModel" 176 y_M_distanceOf := Or.inl wl_M_176
theorem wc_M_distanceOf : Cond.code y_M_distanceOf b_M_distanceOf 11 (some .int) ∈ AL := AL_in (List.mem_append_right _ (List.mem_of_getElem? (i := 908) (by decide +kernel))) (by decide +kernel)
theorem mw_M_distanceOf : Mw y_M_distanceOf b_M_distanceOf 11 (some .int) 2 := ⟨wc_M_distanceOf, wi_M, by decide, by decide, by decide +kernel⟩
theorem wn_M_distanceOf : Cond.instanceMethod y_M_distanceOf ∈ AL := AL_in (List.mem_append_right _ (List.mem_of_getElem? (i := 907) (by decide +kernel))) (by decide +kernel)
theorem wx_M_distanceOf : Cond.selects "SuggestDeskModel" y_M_distanceOf y_M_distanceOf ∈ AL := AL_in (List.mem_append_left _ (List.mem_of_getElem? (i := 24) (by decide +kernel))) (by decide +kernel)
theorem sv_M_distanceOf : Cond.instanceMethod y_M_distanceOf ∈ AL ∧ Cond.selects y_M_distanceOf.cls y_M_distanceOf y_M_distanceOf ∈ AL := ⟨wn_M_distanceOf, wx_M_distanceOf⟩
theorem wf_M_179 : Cond.fieldLink "SuggestDeskModel" 179 (T_M 23).1 (T_M 23).2.1 (T_M 23).2.2.1 ∈ AL := AL_in (List.mem_append_right _ (List.mem_of_getElem? (i := 727) (by decide +kernel))) (by decide +kernel)
theorem fl_M_179 : Fl "SuggestDeskModel" 179 8 23 "SuggestDeskModel" T_M 35 := ⟨rfl, by decide, la_M, Or.inl wf_M_179⟩
theorem wl_M_182 : Cond.methodLink "SuggestDeskModel" 182 y_M_pairOf ∈ AL := AL_in (List.mem_append_right _ (List.mem_of_getElem? (i := 924) (by decide +kernel))) (by decide +kernel)
theorem lk_M_182 : Lk "SuggestDeskModel" 182 y_M_pairOf := Or.inl wl_M_182
theorem wc_M_pairOf : Cond.code y_M_pairOf b_M_pairOf 6 (some .int) ∈ AL := AL_in (List.mem_append_right _ (List.mem_of_getElem? (i := 927) (by decide +kernel))) (by decide +kernel)
theorem mw_M_pairOf : Mw y_M_pairOf b_M_pairOf 6 (some .int) 2 := ⟨wc_M_pairOf, wi_M, by decide, by decide, by decide +kernel⟩
theorem wn_M_pairOf : Cond.instanceMethod y_M_pairOf ∈ AL := AL_in (List.mem_append_right _ (List.mem_of_getElem? (i := 926) (by decide +kernel))) (by decide +kernel)
theorem wx_M_pairOf : Cond.selects "SuggestDeskModel" y_M_pairOf y_M_pairOf ∈ AL := AL_in (List.mem_append_left _ (List.mem_of_getElem? (i := 25) (by decide +kernel))) (by decide +kernel)
theorem sv_M_pairOf : Cond.instanceMethod y_M_pairOf ∈ AL ∧ Cond.selects y_M_pairOf.cls y_M_pairOf y_M_pairOf ∈ AL := ⟨wn_M_pairOf, wx_M_pairOf⟩
theorem wf_M_185 : Cond.fieldLink "SuggestDeskModel" 185 (T_M 27).1 (T_M 27).2.1 (T_M 27).2.2.1 ∈ AL := AL_in (List.mem_append_right _ (List.mem_of_getElem? (i := 731) (by decide +kernel))) (by decide +kernel)
theorem fl_M_185 : Fl "SuggestDeskModel" 185 8 27 "SuggestDeskModel" T_M 35 := ⟨rfl, by decide, la_M, Or.inl wf_M_185⟩
theorem wl_M_188 : Cond.methodLink "SuggestDeskModel" 188 y_M_gather ∈ AL := AL_in (List.mem_append_right _ (List.mem_of_getElem? (i := 936) (by decide +kernel))) (by decide +kernel)
theorem lk_M_188 : Lk "SuggestDeskModel" 188 y_M_gather := Or.inl wl_M_188
theorem wc_M_gather : Cond.code y_M_gather b_M_gather 5 none ∈ AL := AL_in (List.mem_append_right _ (List.mem_of_getElem? (i := 939) (by decide +kernel))) (by decide +kernel)
theorem mw_M_gather : Mw y_M_gather b_M_gather 5 none 2 := ⟨wc_M_gather, wi_M, by decide, by decide, by decide +kernel⟩
theorem wn_M_gather : Cond.instanceMethod y_M_gather ∈ AL := AL_in (List.mem_append_right _ (List.mem_of_getElem? (i := 938) (by decide +kernel))) (by decide +kernel)
theorem wx_M_gather : Cond.selects "SuggestDeskModel" y_M_gather y_M_gather ∈ AL := AL_in (List.mem_append_left _ (List.mem_of_getElem? (i := 26) (by decide +kernel))) (by decide +kernel)
theorem sv_M_gather : Cond.instanceMethod y_M_gather ∈ AL ∧ Cond.selects y_M_gather.cls y_M_gather y_M_gather ∈ AL := ⟨wn_M_gather, wx_M_gather⟩
theorem wk_M_191 : Cond.constant "SuggestDeskModel" 191 (1000000 : Int32) ∈ AL := AL_in (List.mem_append_right _ (List.mem_of_getElem? (i := 940) (by decide +kernel))) (by decide +kernel)
theorem wl_M_192 : Cond.methodLink "SuggestDeskModel" 192 y_M_costOf ∈ AL := AL_in (List.mem_append_right _ (List.mem_of_getElem? (i := 941) (by decide +kernel))) (by decide +kernel)
theorem lk_M_192 : Lk "SuggestDeskModel" 192 y_M_costOf := Or.inl wl_M_192
theorem wc_M_costOf : Cond.code y_M_costOf b_M_costOf 6 (some .int) ∈ AL := AL_in (List.mem_append_right _ (List.mem_of_getElem? (i := 944) (by decide +kernel))) (by decide +kernel)
theorem mw_M_costOf : Mw y_M_costOf b_M_costOf 6 (some .int) 1 := ⟨wc_M_costOf, wi_M, by decide, by decide, by decide +kernel⟩
theorem wn_M_costOf : Cond.instanceMethod y_M_costOf ∈ AL := AL_in (List.mem_append_right _ (List.mem_of_getElem? (i := 943) (by decide +kernel))) (by decide +kernel)
theorem wx_M_costOf : Cond.selects "SuggestDeskModel" y_M_costOf y_M_costOf ∈ AL := AL_in (List.mem_append_left _ (List.mem_of_getElem? (i := 27) (by decide +kernel))) (by decide +kernel)
theorem sv_M_costOf : Cond.instanceMethod y_M_costOf ∈ AL ∧ Cond.selects y_M_costOf.cls y_M_costOf y_M_costOf ∈ AL := ⟨wn_M_costOf, wx_M_costOf⟩
theorem wl_M_195 : Cond.methodLink "SuggestDeskModel" 195 y_M_next ∈ AL := AL_in (List.mem_append_right _ (List.mem_of_getElem? (i := 945) (by decide +kernel))) (by decide +kernel)
theorem lk_M_195 : Lk "SuggestDeskModel" 195 y_M_next := Or.inl wl_M_195
theorem wc_M_next : Cond.code y_M_next b_M_next 3 (some .boolean) ∈ AL := AL_in (List.mem_append_right _ (List.mem_of_getElem? (i := 948) (by decide +kernel))) (by decide +kernel)
theorem mw_M_next : Mw y_M_next b_M_next 3 (some .boolean) 1 := ⟨wc_M_next, wi_M, by decide, by decide, by decide +kernel⟩
theorem wn_M_next : Cond.instanceMethod y_M_next ∈ AL := AL_in (List.mem_append_right _ (List.mem_of_getElem? (i := 947) (by decide +kernel))) (by decide +kernel)
theorem wx_M_next : Cond.selects "SuggestDeskModel" y_M_next y_M_next ∈ AL := AL_in (List.mem_append_left _ (List.mem_of_getElem? (i := 28) (by decide +kernel))) (by decide +kernel)
theorem sv_M_next : Cond.instanceMethod y_M_next ∈ AL ∧ Cond.selects y_M_next.cls y_M_next y_M_next ∈ AL := ⟨wn_M_next, wx_M_next⟩
theorem wf_M_199 : Cond.fieldLink "SuggestDeskModel" 199 (T_M 29).1 (T_M 29).2.1 (T_M 29).2.2.1 ∈ AL := AL_in (List.mem_append_right _ (List.mem_of_getElem? (i := 733) (by decide +kernel))) (by decide +kernel)
theorem fl_M_199 : Fl "SuggestDeskModel" 199 8 29 "SuggestDeskModel" T_M 35 := ⟨rfl, by decide, la_M, Or.inl wf_M_199⟩
theorem wl_Automaton_31 : Cond.methodLink "SuggestDesk$Automaton" 31 y_WordList_size ∈ AL := AL_in (List.mem_append_right _ (List.mem_of_getElem? (i := 371) (by decide +kernel))) (by decide +kernel)
theorem lk_Automaton_31 : Lk "SuggestDesk$Automaton" 31 y_WordList_size := Or.inl wl_Automaton_31
theorem wc_WordList_size : Cond.code y_WordList_size b_WordList_size 1 (some .int) ∈ AL := AL_in (List.mem_append_right _ (List.mem_of_getElem? (i := 337) (by decide +kernel))) (by decide +kernel)
theorem mw_WordList_size : Mw y_WordList_size b_WordList_size 1 (some .int) 0 := ⟨wc_WordList_size, wi_WordList, by decide, by decide, by decide +kernel⟩
theorem wn_WordList_size : Cond.instanceMethod y_WordList_size ∈ AL := AL_in (List.mem_append_right _ (List.mem_of_getElem? (i := 335) (by decide +kernel))) (by decide +kernel)
theorem wx_WordList_size : Cond.selects "SuggestDesk$WordList" y_WordList_size y_WordList_size ∈ AL := AL_in (List.mem_append_right _ (List.mem_of_getElem? (i := 336) (by decide +kernel))) (by decide +kernel)
theorem sv_WordList_size : Cond.instanceMethod y_WordList_size ∈ AL ∧ Cond.selects y_WordList_size.cls y_WordList_size y_WordList_size ∈ AL := ⟨wn_WordList_size, wx_WordList_size⟩
theorem wl_Automaton_37 : Cond.methodLink "SuggestDesk$Automaton" 37 y_WordList_textAt ∈ AL := AL_in (List.mem_append_right _ (List.mem_of_getElem? (i := 372) (by decide +kernel))) (by decide +kernel)
theorem lk_Automaton_37 : Lk "SuggestDesk$Automaton" 37 y_WordList_textAt := Or.inl wl_Automaton_37
theorem wc_WordList_textAt : Cond.code y_WordList_textAt b_WordList_textAt 2 (some .long) ∈ AL := AL_in (List.mem_append_right _ (List.mem_of_getElem? (i := 375) (by decide +kernel))) (by decide +kernel)
theorem mw_WordList_textAt : Mw y_WordList_textAt b_WordList_textAt 2 (some .long) 1 := ⟨wc_WordList_textAt, wi_WordList, by decide, by decide, by decide +kernel⟩
theorem wn_WordList_textAt : Cond.instanceMethod y_WordList_textAt ∈ AL := AL_in (List.mem_append_right _ (List.mem_of_getElem? (i := 373) (by decide +kernel))) (by decide +kernel)
theorem wx_WordList_textAt : Cond.selects "SuggestDesk$WordList" y_WordList_textAt y_WordList_textAt ∈ AL := AL_in (List.mem_append_right _ (List.mem_of_getElem? (i := 374) (by decide +kernel))) (by decide +kernel)
theorem sv_WordList_textAt : Cond.instanceMethod y_WordList_textAt ∈ AL ∧ Cond.selects y_WordList_textAt.cls y_WordList_textAt y_WordList_textAt ∈ AL := ⟨wn_WordList_textAt, wx_WordList_textAt⟩
theorem wl_Automaton_41 : Cond.methodLink "SuggestDesk$Automaton" 41 y_Texts_sharedLetters ∈ AL := AL_in (List.mem_append_right _ (List.mem_of_getElem? (i := 376) (by decide +kernel))) (by decide +kernel)
theorem lk_Automaton_41 : Lk "SuggestDesk$Automaton" 41 y_Texts_sharedLetters := Or.inl wl_Automaton_41
theorem wc_Texts_sharedLetters : Cond.code y_Texts_sharedLetters b_Texts_sharedLetters 5 (some .int) ∈ AL := AL_in (List.mem_append_right _ (List.mem_of_getElem? (i := 378) (by decide +kernel))) (by decide +kernel)
theorem mw_Texts_sharedLetters : Mw y_Texts_sharedLetters b_Texts_sharedLetters 5 (some .int) 2 := ⟨wc_Texts_sharedLetters, wi_Texts, by decide, by decide, by decide +kernel⟩
theorem ws_Texts_sharedLetters : Cond.static y_Texts_sharedLetters ∈ AL := AL_in (List.mem_append_right _ (List.mem_of_getElem? (i := 377) (by decide +kernel))) (by decide +kernel)
theorem wl_Automaton_70 : Cond.methodLink "SuggestDesk$Automaton" 70 y_Texts_head ∈ AL := AL_in (List.mem_append_right _ (List.mem_of_getElem? (i := 389) (by decide +kernel))) (by decide +kernel)
theorem lk_Automaton_70 : Lk "SuggestDesk$Automaton" 70 y_Texts_head := Or.inl wl_Automaton_70
theorem wc_Texts_head : Cond.code y_Texts_head b_Texts_head 3 (some .long) ∈ AL := AL_in (List.mem_append_right _ (List.mem_of_getElem? (i := 391) (by decide +kernel))) (by decide +kernel)
theorem mw_Texts_head : Mw y_Texts_head b_Texts_head 3 (some .long) 2 := ⟨wc_Texts_head, wi_Texts, by decide, by decide, by decide +kernel⟩
theorem ws_Texts_head : Cond.static y_Texts_head ∈ AL := AL_in (List.mem_append_right _ (List.mem_of_getElem? (i := 390) (by decide +kernel))) (by decide +kernel)
theorem wl_Automaton_74 : Cond.methodLink "SuggestDesk$Automaton" 74 y_WordList_costAt ∈ AL := AL_in (List.mem_append_right _ (List.mem_of_getElem? (i := 396) (by decide +kernel))) (by decide +kernel)
theorem lk_Automaton_74 : Lk "SuggestDesk$Automaton" 74 y_WordList_costAt := Or.inl wl_Automaton_74
theorem wc_WordList_costAt : Cond.code y_WordList_costAt b_WordList_costAt 2 (some .int) ∈ AL := AL_in (List.mem_append_right _ (List.mem_of_getElem? (i := 399) (by decide +kernel))) (by decide +kernel)
theorem mw_WordList_costAt : Mw y_WordList_costAt b_WordList_costAt 2 (some .int) 1 := ⟨wc_WordList_costAt, wi_WordList, by decide, by decide, by decide +kernel⟩
theorem wn_WordList_costAt : Cond.instanceMethod y_WordList_costAt ∈ AL := AL_in (List.mem_append_right _ (List.mem_of_getElem? (i := 397) (by decide +kernel))) (by decide +kernel)
theorem wx_WordList_costAt : Cond.selects "SuggestDesk$WordList" y_WordList_costAt y_WordList_costAt ∈ AL := AL_in (List.mem_append_right _ (List.mem_of_getElem? (i := 398) (by decide +kernel))) (by decide +kernel)
theorem sv_WordList_costAt : Cond.instanceMethod y_WordList_costAt ∈ AL ∧ Cond.selects y_WordList_costAt.cls y_WordList_costAt y_WordList_costAt ∈ AL := ⟨wn_WordList_costAt, wx_WordList_costAt⟩
theorem wl_Automaton_78 : Cond.methodLink "SuggestDesk$Automaton" 78 Lib.Math.min.name ∈ AL := AL_in (List.mem_append_right _ (List.mem_of_getElem? (i := 400) (by decide +kernel))) (by decide +kernel)
theorem wl_Automaton_95 : Cond.methodLink "SuggestDesk$Automaton" 95 y_Texts_tail ∈ AL := AL_in (List.mem_append_right _ (List.mem_of_getElem? (i := 411) (by decide +kernel))) (by decide +kernel)
theorem lk_Automaton_95 : Lk "SuggestDesk$Automaton" 95 y_Texts_tail := Or.inl wl_Automaton_95
theorem wc_Texts_tail : Cond.code y_Texts_tail b_Texts_tail 3 (some .long) ∈ AL := AL_in (List.mem_append_right _ (List.mem_of_getElem? (i := 413) (by decide +kernel))) (by decide +kernel)
theorem mw_Texts_tail : Mw y_Texts_tail b_Texts_tail 3 (some .long) 2 := ⟨wc_Texts_tail, wi_Texts, by decide, by decide, by decide +kernel⟩
theorem ws_Texts_tail : Cond.static y_Texts_tail ∈ AL := AL_in (List.mem_append_right _ (List.mem_of_getElem? (i := 412) (by decide +kernel))) (by decide +kernel)
theorem wl_S_9 : Cond.methodLinkNest "SuggestDesk" 9 y_WordList_init "SuggestDesk" ∈ NWs := NW_in (List.mem_append_right _ (List.mem_of_getElem? (i := 29) (by decide +kernel))) (by decide +kernel)
theorem lk_S_9 : Lk "SuggestDesk" 9 y_WordList_init := Or.inr ⟨_, wl_S_9⟩
theorem wc_WordList_init : Cond.code y_WordList_init b_WordList_init 1 none ∈ AL := AL_in (List.mem_append_right _ (List.mem_of_getElem? (i := 31) (by decide +kernel))) (by decide +kernel)
theorem mw_WordList_init : Mw y_WordList_init b_WordList_init 1 none 0 := ⟨wc_WordList_init, wi_WordList, by decide, by decide, by decide +kernel⟩
theorem wn_WordList_init : Cond.instanceMethod y_WordList_init ∈ AL := AL_in (List.mem_append_right _ (List.mem_of_getElem? (i := 30) (by decide +kernel))) (by decide +kernel)
theorem ff_S_10 : vwCl[7]? = some ("SuggestDesk", T_S, 8) ∧ 0 < 8 ∧ (∀ w ∈ u_ws "SuggestDesk" T_S 8, w ∈ AL) ∧ Cond.fieldLink "SuggestDesk" 10 (T_S 0).1 (T_S 0).2.1 (T_S 0).2.2.1 ∈ AL := ⟨rfl, by decide, la_S, wf_S_10⟩
theorem wq_S_16 : Cond.classLink "SuggestDesk" 16 "SuggestDesk$Dictionary" ∈ AL := AL_in (List.mem_append_right _ (List.mem_of_getElem? (i := 45) (by decide +kernel))) (by decide +kernel)
theorem wao_D : Cond.arrayOver (.object "SuggestDesk$Dictionary") ∈ AL := AL_in (List.mem_append_right _ (List.mem_of_getElem? (i := 46) (by decide +kernel))) (by decide +kernel)
theorem ff_S_18 : vwCl[7]? = some ("SuggestDesk", T_S, 8) ∧ 1 < 8 ∧ (∀ w ∈ u_ws "SuggestDesk" T_S 8, w ∈ AL) ∧ Cond.fieldLink "SuggestDesk" 18 (T_S 1).1 (T_S 1).2.1 (T_S 1).2.2.1 ∈ AL := ⟨rfl, by decide, la_S, wf_S_18⟩
theorem wt_Dictionary : Cond.instantiable "SuggestDesk$Dictionary" 5 ∈ AL := AL_in (List.mem_append_right _ (List.mem_of_getElem? (i := 47) (by decide +kernel))) (by decide +kernel)
theorem wi_Dictionary : Cond.initialized "SuggestDesk$Dictionary" ∈ AL := AL_in (List.mem_append_right _ (List.mem_of_getElem? (i := 3) (by decide +kernel))) (by decide +kernel)
theorem nw_S_16 : Nw "SuggestDesk" 16 1 "SuggestDesk$Dictionary" T_Dictionary 5 := ⟨rfl, la_Dictionary, wq_S_16, wt_Dictionary, wi_Dictionary⟩
theorem wl_S_90 : Cond.methodLink "SuggestDesk" 90 y_WordList_size ∈ AL := AL_in (List.mem_append_right _ (List.mem_of_getElem? (i := 334) (by decide +kernel))) (by decide +kernel)
theorem lk_S_90 : Lk "SuggestDesk" 90 y_WordList_size := Or.inl wl_S_90
theorem wl_S_168 : Cond.methodLink "SuggestDesk" 168 y_Suggestions_startAnew ∈ AL := AL_in (List.mem_append_right _ (List.mem_of_getElem? (i := 522) (by decide +kernel))) (by decide +kernel)
theorem lk_S_168 : Lk "SuggestDesk" 168 y_Suggestions_startAnew := Or.inl wl_S_168
theorem wc_Suggestions_startAnew : Cond.code y_Suggestions_startAnew b_Suggestions_startAnew 2 none ∈ AL := AL_in (List.mem_append_right _ (List.mem_of_getElem? (i := 525) (by decide +kernel))) (by decide +kernel)
theorem wi_Suggestions : Cond.initialized "SuggestDesk$Suggestions" ∈ AL := AL_in (List.mem_append_right _ (List.mem_of_getElem? (i := 6) (by decide +kernel))) (by decide +kernel)
theorem mw_Suggestions_startAnew : Mw y_Suggestions_startAnew b_Suggestions_startAnew 2 none 1 := ⟨wc_Suggestions_startAnew, wi_Suggestions, by decide, by decide, by decide +kernel⟩
theorem wn_Suggestions_startAnew : Cond.instanceMethod y_Suggestions_startAnew ∈ AL := AL_in (List.mem_append_right _ (List.mem_of_getElem? (i := 523) (by decide +kernel))) (by decide +kernel)
theorem wx_Suggestions_startAnew : Cond.selects "SuggestDesk$Suggestions" y_Suggestions_startAnew y_Suggestions_startAnew ∈ AL := AL_in (List.mem_append_right _ (List.mem_of_getElem? (i := 524) (by decide +kernel))) (by decide +kernel)
theorem sv_Suggestions_startAnew : Cond.instanceMethod y_Suggestions_startAnew ∈ AL ∧ Cond.selects y_Suggestions_startAnew.cls y_Suggestions_startAnew y_Suggestions_startAnew ∈ AL := ⟨wn_Suggestions_startAnew, wx_Suggestions_startAnew⟩
theorem wl_S_172 : Cond.methodLink "SuggestDesk" 172 y_Texts_isBeginning ∈ AL := AL_in (List.mem_append_right _ (List.mem_of_getElem? (i := 527) (by decide +kernel))) (by decide +kernel)
theorem lk_S_172 : Lk "SuggestDesk" 172 y_Texts_isBeginning := Or.inl wl_S_172
theorem wc_Texts_isBeginning : Cond.code y_Texts_isBeginning b_Texts_isBeginning 7 (some .boolean) ∈ AL := AL_in (List.mem_append_right _ (List.mem_of_getElem? (i := 213) (by decide +kernel))) (by decide +kernel)
theorem mw_Texts_isBeginning : Mw y_Texts_isBeginning b_Texts_isBeginning 7 (some .boolean) 1 := ⟨wc_Texts_isBeginning, wi_Texts, by decide, by decide, by decide +kernel⟩
theorem ws_Texts_isBeginning : Cond.static y_Texts_isBeginning ∈ AL := AL_in (List.mem_append_right _ (List.mem_of_getElem? (i := 212) (by decide +kernel))) (by decide +kernel)
theorem wl_S_183 : Cond.methodLink "SuggestDesk" 183 y_Suggestions_size ∈ AL := AL_in (List.mem_append_right _ (List.mem_of_getElem? (i := 543) (by decide +kernel))) (by decide +kernel)
theorem lk_S_183 : Lk "SuggestDesk" 183 y_Suggestions_size := Or.inl wl_S_183
theorem wc_Suggestions_size : Cond.code y_Suggestions_size b_Suggestions_size 1 (some .int) ∈ AL := AL_in (List.mem_append_right _ (List.mem_of_getElem? (i := 546) (by decide +kernel))) (by decide +kernel)
theorem mw_Suggestions_size : Mw y_Suggestions_size b_Suggestions_size 1 (some .int) 0 := ⟨wc_Suggestions_size, wi_Suggestions, by decide, by decide, by decide +kernel⟩
theorem wn_Suggestions_size : Cond.instanceMethod y_Suggestions_size ∈ AL := AL_in (List.mem_append_right _ (List.mem_of_getElem? (i := 544) (by decide +kernel))) (by decide +kernel)
theorem wx_Suggestions_size : Cond.selects "SuggestDesk$Suggestions" y_Suggestions_size y_Suggestions_size ∈ AL := AL_in (List.mem_append_right _ (List.mem_of_getElem? (i := 545) (by decide +kernel))) (by decide +kernel)
theorem sv_Suggestions_size : Cond.instanceMethod y_Suggestions_size ∈ AL ∧ Cond.selects y_Suggestions_size.cls y_Suggestions_size y_Suggestions_size ∈ AL := ⟨wn_Suggestions_size, wx_Suggestions_size⟩
theorem wl_S_195 : Cond.methodLink "SuggestDesk" 195 y_Suggestions_textAt ∈ AL := AL_in (List.mem_append_right _ (List.mem_of_getElem? (i := 594) (by decide +kernel))) (by decide +kernel)
theorem lk_S_195 : Lk "SuggestDesk" 195 y_Suggestions_textAt := Or.inl wl_S_195
theorem wc_Suggestions_textAt : Cond.code y_Suggestions_textAt b_Suggestions_textAt 2 (some .long) ∈ AL := AL_in (List.mem_append_right _ (List.mem_of_getElem? (i := 597) (by decide +kernel))) (by decide +kernel)
theorem mw_Suggestions_textAt : Mw y_Suggestions_textAt b_Suggestions_textAt 2 (some .long) 1 := ⟨wc_Suggestions_textAt, wi_Suggestions, by decide, by decide, by decide +kernel⟩
theorem wn_Suggestions_textAt : Cond.instanceMethod y_Suggestions_textAt ∈ AL := AL_in (List.mem_append_right _ (List.mem_of_getElem? (i := 595) (by decide +kernel))) (by decide +kernel)
theorem wx_Suggestions_textAt : Cond.selects "SuggestDesk$Suggestions" y_Suggestions_textAt y_Suggestions_textAt ∈ AL := AL_in (List.mem_append_right _ (List.mem_of_getElem? (i := 596) (by decide +kernel))) (by decide +kernel)
theorem sv_Suggestions_textAt : Cond.instanceMethod y_Suggestions_textAt ∈ AL ∧ Cond.selects y_Suggestions_textAt.cls y_Suggestions_textAt y_Suggestions_textAt ∈ AL := ⟨wn_Suggestions_textAt, wx_Suggestions_textAt⟩
theorem wl_S_199 : Cond.methodLink "SuggestDesk" 199 y_Texts_toNumber ∈ AL := AL_in (List.mem_append_right _ (List.mem_of_getElem? (i := 598) (by decide +kernel))) (by decide +kernel)
theorem lk_S_199 : Lk "SuggestDesk" 199 y_Texts_toNumber := Or.inl wl_S_199
theorem wc_Texts_toNumber : Cond.code y_Texts_toNumber b_Texts_toNumber 5 (some .long) ∈ AL := AL_in (List.mem_append_right _ (List.mem_of_getElem? (i := 600) (by decide +kernel))) (by decide +kernel)
theorem mw_Texts_toNumber : Mw y_Texts_toNumber b_Texts_toNumber 5 (some .long) 1 := ⟨wc_Texts_toNumber, wi_Texts, by decide, by decide, by decide +kernel⟩
theorem ws_Texts_toNumber : Cond.static y_Texts_toNumber ∈ AL := AL_in (List.mem_append_right _ (List.mem_of_getElem? (i := 599) (by decide +kernel))) (by decide +kernel)
theorem wl_S_223 : Cond.methodLink "SuggestDesk" 223 y_Phrase_chosenSize ∈ AL := AL_in (List.mem_append_right _ (List.mem_of_getElem? (i := 689) (by decide +kernel))) (by decide +kernel)
theorem lk_S_223 : Lk "SuggestDesk" 223 y_Phrase_chosenSize := Or.inl wl_S_223
theorem wc_Phrase_chosenSize : Cond.code y_Phrase_chosenSize b_Phrase_chosenSize 1 (some .int) ∈ AL := AL_in (List.mem_append_right _ (List.mem_of_getElem? (i := 692) (by decide +kernel))) (by decide +kernel)
theorem wi_Phrase : Cond.initialized "SuggestDesk$Phrase" ∈ AL := AL_in (List.mem_append_right _ (List.mem_of_getElem? (i := 8) (by decide +kernel))) (by decide +kernel)
theorem mw_Phrase_chosenSize : Mw y_Phrase_chosenSize b_Phrase_chosenSize 1 (some .int) 0 := ⟨wc_Phrase_chosenSize, wi_Phrase, by decide, by decide, by decide +kernel⟩
theorem wn_Phrase_chosenSize : Cond.instanceMethod y_Phrase_chosenSize ∈ AL := AL_in (List.mem_append_right _ (List.mem_of_getElem? (i := 690) (by decide +kernel))) (by decide +kernel)
theorem wx_Phrase_chosenSize : Cond.selects "SuggestDesk$Phrase" y_Phrase_chosenSize y_Phrase_chosenSize ∈ AL := AL_in (List.mem_append_right _ (List.mem_of_getElem? (i := 691) (by decide +kernel))) (by decide +kernel)
theorem sv_Phrase_chosenSize : Cond.instanceMethod y_Phrase_chosenSize ∈ AL ∧ Cond.selects y_Phrase_chosenSize.cls y_Phrase_chosenSize y_Phrase_chosenSize ∈ AL := ⟨wn_Phrase_chosenSize, wx_Phrase_chosenSize⟩
theorem wl_S_228 : Cond.methodLink "SuggestDesk" 228 y_Phrase_chosenAt ∈ AL := AL_in (List.mem_append_right _ (List.mem_of_getElem? (i := 694) (by decide +kernel))) (by decide +kernel)
theorem lk_S_228 : Lk "SuggestDesk" 228 y_Phrase_chosenAt := Or.inl wl_S_228
theorem wc_Phrase_chosenAt : Cond.code y_Phrase_chosenAt b_Phrase_chosenAt 2 (some .long) ∈ AL := AL_in (List.mem_append_right _ (List.mem_of_getElem? (i := 697) (by decide +kernel))) (by decide +kernel)
theorem mw_Phrase_chosenAt : Mw y_Phrase_chosenAt b_Phrase_chosenAt 2 (some .long) 1 := ⟨wc_Phrase_chosenAt, wi_Phrase, by decide, by decide, by decide +kernel⟩
theorem wn_Phrase_chosenAt : Cond.instanceMethod y_Phrase_chosenAt ∈ AL := AL_in (List.mem_append_right _ (List.mem_of_getElem? (i := 695) (by decide +kernel))) (by decide +kernel)
theorem wx_Phrase_chosenAt : Cond.selects "SuggestDesk$Phrase" y_Phrase_chosenAt y_Phrase_chosenAt ∈ AL := AL_in (List.mem_append_right _ (List.mem_of_getElem? (i := 696) (by decide +kernel))) (by decide +kernel)
theorem sv_Phrase_chosenAt : Cond.instanceMethod y_Phrase_chosenAt ∈ AL ∧ Cond.selects y_Phrase_chosenAt.cls y_Phrase_chosenAt y_Phrase_chosenAt ∈ AL := ⟨wn_Phrase_chosenAt, wx_Phrase_chosenAt⟩
theorem wl_S_141 : Cond.methodLink "SuggestDesk" 141 y_Dictionary_isThere ∈ AL := AL_in (List.mem_append_right _ (List.mem_of_getElem? (i := 354) (by decide +kernel))) (by decide +kernel)
theorem lk_S_141 : Lk "SuggestDesk" 141 y_Dictionary_isThere := Or.inl wl_S_141
theorem wc_Dictionary_isThere : Cond.code y_Dictionary_isThere b_Dictionary_isThere 1 (some .boolean) ∈ AL := AL_in (List.mem_append_right _ (List.mem_of_getElem? (i := 357) (by decide +kernel))) (by decide +kernel)
theorem mw_Dictionary_isThere : Mw y_Dictionary_isThere b_Dictionary_isThere 1 (some .boolean) 0 := ⟨wc_Dictionary_isThere, wi_Dictionary, by decide, by decide, by decide +kernel⟩
theorem wn_Dictionary_isThere : Cond.instanceMethod y_Dictionary_isThere ∈ AL := AL_in (List.mem_append_right _ (List.mem_of_getElem? (i := 355) (by decide +kernel))) (by decide +kernel)
theorem wx_Dictionary_isThere : Cond.selects "SuggestDesk$Dictionary" y_Dictionary_isThere y_Dictionary_isThere ∈ AL := AL_in (List.mem_append_right _ (List.mem_of_getElem? (i := 356) (by decide +kernel))) (by decide +kernel)
theorem sv_Dictionary_isThere : Cond.instanceMethod y_Dictionary_isThere ∈ AL ∧ Cond.selects y_Dictionary_isThere.cls y_Dictionary_isThere y_Dictionary_isThere ∈ AL := ⟨wn_Dictionary_isThere, wx_Dictionary_isThere⟩
theorem wl_S_231 : Cond.methodLink "SuggestDesk" 231 y_Dictionary_number ∈ AL := AL_in (List.mem_append_right _ (List.mem_of_getElem? (i := 358) (by decide +kernel))) (by decide +kernel)
theorem lk_S_231 : Lk "SuggestDesk" 231 y_Dictionary_number := Or.inl wl_S_231
theorem wc_Dictionary_number : Cond.code y_Dictionary_number b_Dictionary_number 1 (some .int) ∈ AL := AL_in (List.mem_append_right _ (List.mem_of_getElem? (i := 361) (by decide +kernel))) (by decide +kernel)
theorem mw_Dictionary_number : Mw y_Dictionary_number b_Dictionary_number 1 (some .int) 0 := ⟨wc_Dictionary_number, wi_Dictionary, by decide, by decide, by decide +kernel⟩
theorem wn_Dictionary_number : Cond.instanceMethod y_Dictionary_number ∈ AL := AL_in (List.mem_append_right _ (List.mem_of_getElem? (i := 359) (by decide +kernel))) (by decide +kernel)
theorem wx_Dictionary_number : Cond.selects "SuggestDesk$Dictionary" y_Dictionary_number y_Dictionary_number ∈ AL := AL_in (List.mem_append_right _ (List.mem_of_getElem? (i := 360) (by decide +kernel))) (by decide +kernel)
theorem sv_Dictionary_number : Cond.instanceMethod y_Dictionary_number ∈ AL ∧ Cond.selects y_Dictionary_number.cls y_Dictionary_number y_Dictionary_number ∈ AL := ⟨wn_Dictionary_number, wx_Dictionary_number⟩
theorem wl_S_119 : Cond.methodLink "SuggestDesk" 119 y_S_find ∈ AL := AL_in (List.mem_append_right _ (List.mem_of_getElem? (i := 350) (by decide +kernel))) (by decide +kernel)
theorem lk_S_119 : Lk "SuggestDesk" 119 y_S_find := Or.inl wl_S_119
theorem wc_S_find : Cond.code y_S_find b_S_find 3 (some (.object "SuggestDesk$Dictionary")) ∈ AL := AL_in (List.mem_append_right _ (List.mem_of_getElem? (i := 353) (by decide +kernel))) (by decide +kernel)
theorem wi_S : Cond.initialized "SuggestDesk" ∈ AL := AL_in (List.mem_append_right _ (List.mem_of_getElem? (i := 1) (by decide +kernel))) (by decide +kernel)
theorem mw_S_find : Mw y_S_find b_S_find 3 (some (.object "SuggestDesk$Dictionary")) 1 := ⟨wc_S_find, wi_S, by decide, by decide, by decide +kernel⟩
theorem wn_S_find : Cond.instanceMethod y_S_find ∈ AL := AL_in (List.mem_append_right _ (List.mem_of_getElem? (i := 352) (by decide +kernel))) (by decide +kernel)
theorem wx_S_find : Cond.selects "SuggestDesk" y_S_find y_S_find ∈ AL := AL_in (List.mem_append_left _ (List.mem_of_getElem? (i := 3) (by decide +kernel))) (by decide +kernel)
theorem sv_S_find : Cond.instanceMethod y_S_find ∈ AL ∧ Cond.selects y_S_find.cls y_S_find y_S_find ∈ AL := ⟨wn_S_find, wx_S_find⟩
theorem wl_S_125 : Cond.methodLink "SuggestDesk" 125 y_Dictionary_readers ∈ AL := AL_in (List.mem_append_right _ (List.mem_of_getElem? (i := 362) (by decide +kernel))) (by decide +kernel)
theorem lk_S_125 : Lk "SuggestDesk" 125 y_Dictionary_readers := Or.inl wl_S_125
theorem wc_Dictionary_readers : Cond.code y_Dictionary_readers b_Dictionary_readers 1 (some .int) ∈ AL := AL_in (List.mem_append_right _ (List.mem_of_getElem? (i := 365) (by decide +kernel))) (by decide +kernel)
theorem mw_Dictionary_readers : Mw y_Dictionary_readers b_Dictionary_readers 1 (some .int) 0 := ⟨wc_Dictionary_readers, wi_Dictionary, by decide, by decide, by decide +kernel⟩
theorem wn_Dictionary_readers : Cond.instanceMethod y_Dictionary_readers ∈ AL := AL_in (List.mem_append_right _ (List.mem_of_getElem? (i := 363) (by decide +kernel))) (by decide +kernel)
theorem wx_Dictionary_readers : Cond.selects "SuggestDesk$Dictionary" y_Dictionary_readers y_Dictionary_readers ∈ AL := AL_in (List.mem_append_right _ (List.mem_of_getElem? (i := 364) (by decide +kernel))) (by decide +kernel)
theorem sv_Dictionary_readers : Cond.instanceMethod y_Dictionary_readers ∈ AL ∧ Cond.selects y_Dictionary_readers.cls y_Dictionary_readers y_Dictionary_readers ∈ AL := ⟨wn_Dictionary_readers, wx_Dictionary_readers⟩
theorem wl_Dictionary_9 : Cond.methodLinkNest "SuggestDesk$Dictionary" 9 y_WordList_init "SuggestDesk" ∈ NWs := NW_in (List.mem_append_right _ (List.mem_of_getElem? (i := 53) (by decide +kernel))) (by decide +kernel)
theorem lk_Dictionary_9 : Lk "SuggestDesk$Dictionary" 9 y_WordList_init := Or.inr ⟨_, wl_Dictionary_9⟩
theorem ff_Dictionary_10 : vwCl[1]? = some ("SuggestDesk$Dictionary", T_Dictionary, 5) ∧ 0 < 5 ∧ (∀ w ∈ u_ws "SuggestDesk$Dictionary" T_Dictionary 5, w ∈ AL) ∧ Cond.fieldLink "SuggestDesk$Dictionary" 10 (T_Dictionary 0).1 (T_Dictionary 0).2.1 (T_Dictionary 0).2.2.1 ∈ AL := ⟨rfl, by decide, la_Dictionary, wf_Dictionary_10⟩
theorem wl_Dictionary_29 : Cond.methodLink "SuggestDesk$Dictionary" 29 y_WordList_copyFrom ∈ AL := AL_in (List.mem_append_right _ (List.mem_of_getElem? (i := 435) (by decide +kernel))) (by decide +kernel)
theorem lk_Dictionary_29 : Lk "SuggestDesk$Dictionary" 29 y_WordList_copyFrom := Or.inl wl_Dictionary_29
theorem wc_WordList_copyFrom : Cond.code y_WordList_copyFrom b_WordList_copyFrom 3 none ∈ AL := AL_in (List.mem_append_right _ (List.mem_of_getElem? (i := 438) (by decide +kernel))) (by decide +kernel)
theorem mw_WordList_copyFrom : Mw y_WordList_copyFrom b_WordList_copyFrom 3 none 1 := ⟨wc_WordList_copyFrom, wi_WordList, by decide, by decide, by decide +kernel⟩
theorem wn_WordList_copyFrom : Cond.instanceMethod y_WordList_copyFrom ∈ AL := AL_in (List.mem_append_right _ (List.mem_of_getElem? (i := 436) (by decide +kernel))) (by decide +kernel)
theorem wx_WordList_copyFrom : Cond.selects "SuggestDesk$WordList" y_WordList_copyFrom y_WordList_copyFrom ∈ AL := AL_in (List.mem_append_right _ (List.mem_of_getElem? (i := 437) (by decide +kernel))) (by decide +kernel)
theorem sv_WordList_copyFrom : Cond.instanceMethod y_WordList_copyFrom ∈ AL ∧ Cond.selects y_WordList_copyFrom.cls y_WordList_copyFrom y_WordList_copyFrom ∈ AL := ⟨wn_WordList_copyFrom, wx_WordList_copyFrom⟩
theorem wl_Pairs_26 : Cond.methodLink "SuggestDesk$Pairs" 26 y_Pairs_indexOf ∈ AL := AL_in (List.mem_append_right _ (List.mem_of_getElem? (i := 620) (by decide +kernel))) (by decide +kernel)
theorem lk_Pairs_26 : Lk "SuggestDesk$Pairs" 26 y_Pairs_indexOf := Or.inl wl_Pairs_26
theorem wc_Pairs_indexOf : Cond.code y_Pairs_indexOf b_Pairs_indexOf 6 (some .int) ∈ AL := AL_in (List.mem_append_right _ (List.mem_of_getElem? (i := 623) (by decide +kernel))) (by decide +kernel)
theorem wi_Pairs : Cond.initialized "SuggestDesk$Pairs" ∈ AL := AL_in (List.mem_append_right _ (List.mem_of_getElem? (i := 7) (by decide +kernel))) (by decide +kernel)
theorem mw_Pairs_indexOf : Mw y_Pairs_indexOf b_Pairs_indexOf 6 (some .int) 2 := ⟨wc_Pairs_indexOf, wi_Pairs, by decide, by decide, by decide +kernel⟩
theorem wn_Pairs_indexOf : Cond.instanceMethod y_Pairs_indexOf ∈ AL := AL_in (List.mem_append_right _ (List.mem_of_getElem? (i := 622) (by decide +kernel))) (by decide +kernel)
theorem wx_Pairs_indexOf : Cond.selects "SuggestDesk$Pairs" y_Pairs_indexOf y_Pairs_indexOf ∈ AL := AL_in (List.mem_append_left _ (List.mem_of_getElem? (i := 11) (by decide +kernel))) (by decide +kernel)
theorem sv_Pairs_indexOf : Cond.instanceMethod y_Pairs_indexOf ∈ AL ∧ Cond.selects y_Pairs_indexOf.cls y_Pairs_indexOf y_Pairs_indexOf ∈ AL := ⟨wn_Pairs_indexOf, wx_Pairs_indexOf⟩
theorem wl_Pairs_30 : Cond.methodLink "SuggestDesk$Pairs" 30 Lib.Math.min.name ∈ AL := AL_in (List.mem_append_right _ (List.mem_of_getElem? (i := 677) (by decide +kernel))) (by decide +kernel)
theorem wl_Phrase_54 : Cond.methodLink "SuggestDesk$Phrase" 54 y_WordList_size ∈ AL := AL_in (List.mem_append_right _ (List.mem_of_getElem? (i := 661) (by decide +kernel))) (by decide +kernel)
theorem lk_Phrase_54 : Lk "SuggestDesk$Phrase" 54 y_WordList_size := Or.inl wl_Phrase_54
theorem wl_Phrase_58 : Cond.methodLink "SuggestDesk$Phrase" 58 y_WordList_textAt ∈ AL := AL_in (List.mem_append_right _ (List.mem_of_getElem? (i := 662) (by decide +kernel))) (by decide +kernel)
theorem lk_Phrase_58 : Lk "SuggestDesk$Phrase" 58 y_WordList_textAt := Or.inl wl_Phrase_58
theorem wl_Phrase_76 : Cond.methodLink "SuggestDesk$Phrase" 76 y_Pairs_saving ∈ AL := AL_in (List.mem_append_right _ (List.mem_of_getElem? (i := 673) (by decide +kernel))) (by decide +kernel)
theorem lk_Phrase_76 : Lk "SuggestDesk$Phrase" 76 y_Pairs_saving := Or.inl wl_Phrase_76
theorem wc_Pairs_saving : Cond.code y_Pairs_saving b_Pairs_saving 6 (some .int) ∈ AL := AL_in (List.mem_append_right _ (List.mem_of_getElem? (i := 676) (by decide +kernel))) (by decide +kernel)
theorem mw_Pairs_saving : Mw y_Pairs_saving b_Pairs_saving 6 (some .int) 2 := ⟨wc_Pairs_saving, wi_Pairs, by decide, by decide, by decide +kernel⟩
theorem wn_Pairs_saving : Cond.instanceMethod y_Pairs_saving ∈ AL := AL_in (List.mem_append_right _ (List.mem_of_getElem? (i := 674) (by decide +kernel))) (by decide +kernel)
theorem wx_Pairs_saving : Cond.selects "SuggestDesk$Pairs" y_Pairs_saving y_Pairs_saving ∈ AL := AL_in (List.mem_append_right _ (List.mem_of_getElem? (i := 675) (by decide +kernel))) (by decide +kernel)
theorem sv_Pairs_saving : Cond.instanceMethod y_Pairs_saving ∈ AL ∧ Cond.selects y_Pairs_saving.cls y_Pairs_saving y_Pairs_saving ∈ AL := ⟨wn_Pairs_saving, wx_Pairs_saving⟩
theorem wl_Ruler_26 : Cond.methodLink "SuggestDesk$Ruler" 26 y_Texts_letterAt ∈ AL := AL_in (List.mem_append_right _ (List.mem_of_getElem? (i := 568) (by decide +kernel))) (by decide +kernel)
theorem lk_Ruler_26 : Lk "SuggestDesk$Ruler" 26 y_Texts_letterAt := Or.inl wl_Ruler_26
theorem wl_Ruler_30 : Cond.methodLink "SuggestDesk$Ruler" 30 Lib.Math.min.name ∈ AL := AL_in (List.mem_append_right _ (List.mem_of_getElem? (i := 569) (by decide +kernel))) (by decide +kernel)
theorem wl_Suggestions_38 : Cond.methodLink "SuggestDesk$Suggestions" 38 y_WordList_size ∈ AL := AL_in (List.mem_append_right _ (List.mem_of_getElem? (i := 535) (by decide +kernel))) (by decide +kernel)
theorem lk_Suggestions_38 : Lk "SuggestDesk$Suggestions" 38 y_WordList_size := Or.inl wl_Suggestions_38
theorem wl_Suggestions_43 : Cond.methodLink "SuggestDesk$Suggestions" 43 y_WordList_textAt ∈ AL := AL_in (List.mem_append_right _ (List.mem_of_getElem? (i := 536) (by decide +kernel))) (by decide +kernel)
theorem lk_Suggestions_43 : Lk "SuggestDesk$Suggestions" 43 y_WordList_textAt := Or.inl wl_Suggestions_43
theorem wl_Texts_9 : Cond.methodLink "SuggestDesk$Texts" 9 y_Texts_isBeginning ∈ AL := AL_in (List.mem_append_right _ (List.mem_of_getElem? (i := 211) (by decide +kernel))) (by decide +kernel)
theorem lk_Texts_9 : Lk "SuggestDesk$Texts" 9 y_Texts_isBeginning := Or.inl wl_Texts_9
theorem wl_WordList_23 : Cond.methodLink "SuggestDesk$WordList" 23 y_WordList_firstNotBefore ∈ AL := AL_in (List.mem_append_right _ (List.mem_of_getElem? (i := 231) (by decide +kernel))) (by decide +kernel)
theorem lk_WordList_23 : Lk "SuggestDesk$WordList" 23 y_WordList_firstNotBefore := Or.inl wl_WordList_23
theorem wc_WordList_firstNotBefore : Cond.code y_WordList_firstNotBefore b_WordList_firstNotBefore 4 (some .int) ∈ AL := AL_in (List.mem_append_right _ (List.mem_of_getElem? (i := 234) (by decide +kernel))) (by decide +kernel)
theorem mw_WordList_firstNotBefore : Mw y_WordList_firstNotBefore b_WordList_firstNotBefore 4 (some .int) 1 := ⟨wc_WordList_firstNotBefore, wi_WordList, by decide, by decide, by decide +kernel⟩
theorem wn_WordList_firstNotBefore : Cond.instanceMethod y_WordList_firstNotBefore ∈ AL := AL_in (List.mem_append_right _ (List.mem_of_getElem? (i := 233) (by decide +kernel))) (by decide +kernel)
theorem wx_WordList_firstNotBefore : Cond.selects "SuggestDesk$WordList" y_WordList_firstNotBefore y_WordList_firstNotBefore ∈ AL := AL_in (List.mem_append_left _ (List.mem_of_getElem? (i := 0) (by decide +kernel))) (by decide +kernel)
theorem sv_WordList_firstNotBefore : Cond.instanceMethod y_WordList_firstNotBefore ∈ AL ∧ Cond.selects y_WordList_firstNotBefore.cls y_WordList_firstNotBefore y_WordList_firstNotBefore ∈ AL := ⟨wn_WordList_firstNotBefore, wx_WordList_firstNotBefore⟩
theorem wl_WordList_27 : Cond.methodLink "SuggestDesk$WordList" 27 y_WordList_indexOf ∈ AL := AL_in (List.mem_append_right _ (List.mem_of_getElem? (i := 227) (by decide +kernel))) (by decide +kernel)
theorem lk_WordList_27 : Lk "SuggestDesk$WordList" 27 y_WordList_indexOf := Or.inl wl_WordList_27
theorem wc_WordList_indexOf : Cond.code y_WordList_indexOf b_WordList_indexOf 4 (some .int) ∈ AL := AL_in (List.mem_append_right _ (List.mem_of_getElem? (i := 230) (by decide +kernel))) (by decide +kernel)
theorem mw_WordList_indexOf : Mw y_WordList_indexOf b_WordList_indexOf 4 (some .int) 1 := ⟨wc_WordList_indexOf, wi_WordList, by decide, by decide, by decide +kernel⟩
theorem wn_WordList_indexOf : Cond.instanceMethod y_WordList_indexOf ∈ AL := AL_in (List.mem_append_right _ (List.mem_of_getElem? (i := 228) (by decide +kernel))) (by decide +kernel)
theorem wx_WordList_indexOf : Cond.selects "SuggestDesk$WordList" y_WordList_indexOf y_WordList_indexOf ∈ AL := AL_in (List.mem_append_right _ (List.mem_of_getElem? (i := 229) (by decide +kernel))) (by decide +kernel)
theorem sv_WordList_indexOf : Cond.instanceMethod y_WordList_indexOf ∈ AL ∧ Cond.selects y_WordList_indexOf.cls y_WordList_indexOf y_WordList_indexOf ∈ AL := ⟨wn_WordList_indexOf, wx_WordList_indexOf⟩
theorem wl_Automaton_47 : Cond.methodLink "SuggestDesk$Automaton" 47 y_Texts_lengthOf ∈ AL := AL_in (List.mem_append_right _ (List.mem_of_getElem? (i := 379) (by decide +kernel))) (by decide +kernel)
theorem lk_Automaton_47 : Lk "SuggestDesk$Automaton" 47 y_Texts_lengthOf := Or.inl wl_Automaton_47
theorem wc_Texts_lengthOf : Cond.code y_Texts_lengthOf b_Texts_lengthOf 3 (some .int) ∈ AL := AL_in (List.mem_append_right _ (List.mem_of_getElem? (i := 381) (by decide +kernel))) (by decide +kernel)
theorem mw_Texts_lengthOf : Mw y_Texts_lengthOf b_Texts_lengthOf 3 (some .int) 1 := ⟨wc_Texts_lengthOf, wi_Texts, by decide, by decide, by decide +kernel⟩
theorem ws_Texts_lengthOf : Cond.static y_Texts_lengthOf ∈ AL := AL_in (List.mem_append_right _ (List.mem_of_getElem? (i := 380) (by decide +kernel))) (by decide +kernel)
theorem wl_Automaton_55 : Cond.methodLink "SuggestDesk$Automaton" 55 y_Automaton_countWords ∈ AL := AL_in (List.mem_append_right _ (List.mem_of_getElem? (i := 386) (by decide +kernel))) (by decide +kernel)
theorem lk_Automaton_55 : Lk "SuggestDesk$Automaton" 55 y_Automaton_countWords := Or.inl wl_Automaton_55
theorem wc_Automaton_countWords : Cond.code y_Automaton_countWords b_Automaton_countWords 6 (some .int) ∈ AL := AL_in (List.mem_append_right _ (List.mem_of_getElem? (i := 388) (by decide +kernel))) (by decide +kernel)
theorem wi_Automaton : Cond.initialized "SuggestDesk$Automaton" ∈ AL := AL_in (List.mem_append_right _ (List.mem_of_getElem? (i := 4) (by decide +kernel))) (by decide +kernel)
theorem mw_Automaton_countWords : Mw y_Automaton_countWords b_Automaton_countWords 6 (some .int) 3 := ⟨wc_Automaton_countWords, wi_Automaton, by decide, by decide, by decide +kernel⟩
theorem ws_Automaton_countWords : Cond.static y_Automaton_countWords ∈ AL := AL_in (List.mem_append_right _ (List.mem_of_getElem? (i := 387) (by decide +kernel))) (by decide +kernel)
theorem wl_Automaton_59 : Cond.methodLink "SuggestDesk$Automaton" 59 y_Automaton_lowestCost ∈ AL := AL_in (List.mem_append_right _ (List.mem_of_getElem? (i := 393) (by decide +kernel))) (by decide +kernel)
theorem lk_Automaton_59 : Lk "SuggestDesk$Automaton" 59 y_Automaton_lowestCost := Or.inl wl_Automaton_59
theorem wc_Automaton_lowestCost : Cond.code y_Automaton_lowestCost b_Automaton_lowestCost 5 (some .int) ∈ AL := AL_in (List.mem_append_right _ (List.mem_of_getElem? (i := 395) (by decide +kernel))) (by decide +kernel)
theorem mw_Automaton_lowestCost : Mw y_Automaton_lowestCost b_Automaton_lowestCost 5 (some .int) 3 := ⟨wc_Automaton_lowestCost, wi_Automaton, by decide, by decide, by decide +kernel⟩
theorem ws_Automaton_lowestCost : Cond.static y_Automaton_lowestCost ∈ AL := AL_in (List.mem_append_right _ (List.mem_of_getElem? (i := 394) (by decide +kernel))) (by decide +kernel)
theorem wl_Automaton_84 : Cond.methodLink "SuggestDesk$Automaton" 84 y_Automaton_endingAt ∈ AL := AL_in (List.mem_append_right _ (List.mem_of_getElem? (i := 407) (by decide +kernel))) (by decide +kernel)
theorem lk_Automaton_84 : Lk "SuggestDesk$Automaton" 84 y_Automaton_endingAt := Or.inl wl_Automaton_84
theorem wc_Automaton_endingAt : Cond.code y_Automaton_endingAt b_Automaton_endingAt 4 (some .long) ∈ AL := AL_in (List.mem_append_right _ (List.mem_of_getElem? (i := 410) (by decide +kernel))) (by decide +kernel)
theorem mw_Automaton_endingAt : Mw y_Automaton_endingAt b_Automaton_endingAt 4 (some .long) 3 := ⟨wc_Automaton_endingAt, wi_Automaton, by decide, by decide, by decide +kernel⟩
theorem wn_Automaton_endingAt : Cond.instanceMethod y_Automaton_endingAt ∈ AL := AL_in (List.mem_append_right _ (List.mem_of_getElem? (i := 409) (by decide +kernel))) (by decide +kernel)
theorem wx_Automaton_endingAt : Cond.selects "SuggestDesk$Automaton" y_Automaton_endingAt y_Automaton_endingAt ∈ AL := AL_in (List.mem_append_left _ (List.mem_of_getElem? (i := 6) (by decide +kernel))) (by decide +kernel)
theorem sv_Automaton_endingAt : Cond.instanceMethod y_Automaton_endingAt ∈ AL ∧ Cond.selects y_Automaton_endingAt.cls y_Automaton_endingAt y_Automaton_endingAt ∈ AL := ⟨wn_Automaton_endingAt, wx_Automaton_endingAt⟩
theorem wl_Automaton_88 : Cond.methodLink "SuggestDesk$Automaton" 88 y_Automaton_costAbove ∈ AL := AL_in (List.mem_append_right _ (List.mem_of_getElem? (i := 414) (by decide +kernel))) (by decide +kernel)
theorem lk_Automaton_88 : Lk "SuggestDesk$Automaton" 88 y_Automaton_costAbove := Or.inl wl_Automaton_88
theorem wc_Automaton_costAbove : Cond.code y_Automaton_costAbove b_Automaton_costAbove 4 (some .int) ∈ AL := AL_in (List.mem_append_right _ (List.mem_of_getElem? (i := 417) (by decide +kernel))) (by decide +kernel)
theorem mw_Automaton_costAbove : Mw y_Automaton_costAbove b_Automaton_costAbove 4 (some .int) 3 := ⟨wc_Automaton_costAbove, wi_Automaton, by decide, by decide, by decide +kernel⟩
theorem wn_Automaton_costAbove : Cond.instanceMethod y_Automaton_costAbove ∈ AL := AL_in (List.mem_append_right _ (List.mem_of_getElem? (i := 416) (by decide +kernel))) (by decide +kernel)
theorem wx_Automaton_costAbove : Cond.selects "SuggestDesk$Automaton" y_Automaton_costAbove y_Automaton_costAbove ∈ AL := AL_in (List.mem_append_left _ (List.mem_of_getElem? (i := 7) (by decide +kernel))) (by decide +kernel)
theorem sv_Automaton_costAbove : Cond.instanceMethod y_Automaton_costAbove ∈ AL ∧ Cond.selects y_Automaton_costAbove.cls y_Automaton_costAbove y_Automaton_costAbove ∈ AL := ⟨wn_Automaton_costAbove, wx_Automaton_costAbove⟩
theorem wl_Automaton_91 : Cond.methodLink "SuggestDesk$Automaton" 91 y_Texts_letterAt ∈ AL := AL_in (List.mem_append_right _ (List.mem_of_getElem? (i := 422) (by decide +kernel))) (by decide +kernel)
theorem lk_Automaton_91 : Lk "SuggestDesk$Automaton" 91 y_Texts_letterAt := Or.inl wl_Automaton_91
theorem wl_S_22 : Cond.methodLinkNest "SuggestDesk" 22 y_Dictionary_init "SuggestDesk" ∈ NWs := NW_in (List.mem_append_right _ (List.mem_of_getElem? (i := 48) (by decide +kernel))) (by decide +kernel)
theorem lk_S_22 : Lk "SuggestDesk" 22 y_Dictionary_init := Or.inr ⟨_, wl_S_22⟩
theorem wc_Dictionary_init : Cond.code y_Dictionary_init b_Dictionary_init 1 none ∈ AL := AL_in (List.mem_append_right _ (List.mem_of_getElem? (i := 50) (by decide +kernel))) (by decide +kernel)
theorem mw_Dictionary_init : Mw y_Dictionary_init b_Dictionary_init 1 none 0 := ⟨wc_Dictionary_init, wi_Dictionary, by decide, by decide, by decide +kernel⟩
theorem wn_Dictionary_init : Cond.instanceMethod y_Dictionary_init ∈ AL := AL_in (List.mem_append_right _ (List.mem_of_getElem? (i := 49) (by decide +kernel))) (by decide +kernel)
theorem wq_S_23 : Cond.classLink "SuggestDesk" 23 "SuggestDesk$Automaton" ∈ AL := AL_in (List.mem_append_right _ (List.mem_of_getElem? (i := 70) (by decide +kernel))) (by decide +kernel)
theorem wt_Automaton : Cond.instantiable "SuggestDesk$Automaton" 6 ∈ AL := AL_in (List.mem_append_right _ (List.mem_of_getElem? (i := 71) (by decide +kernel))) (by decide +kernel)
theorem nw_S_23 : Nw "SuggestDesk" 23 0 "SuggestDesk$Automaton" T_Automaton 6 := ⟨rfl, la_Automaton, wq_S_23, wt_Automaton, wi_Automaton⟩
theorem wl_S_25 : Cond.methodLinkNest "SuggestDesk" 25 y_Automaton_init "SuggestDesk" ∈ NWs := NW_in (List.mem_append_right _ (List.mem_of_getElem? (i := 72) (by decide +kernel))) (by decide +kernel)
theorem lk_S_25 : Lk "SuggestDesk" 25 y_Automaton_init := Or.inr ⟨_, wl_S_25⟩
theorem wc_Automaton_init : Cond.code y_Automaton_init b_Automaton_init 1 none ∈ AL := AL_in (List.mem_append_right _ (List.mem_of_getElem? (i := 74) (by decide +kernel))) (by decide +kernel)
theorem mw_Automaton_init : Mw y_Automaton_init b_Automaton_init 1 none 0 := ⟨wc_Automaton_init, wi_Automaton, by decide, by decide, by decide +kernel⟩
theorem wn_Automaton_init : Cond.instanceMethod y_Automaton_init ∈ AL := AL_in (List.mem_append_right _ (List.mem_of_getElem? (i := 73) (by decide +kernel))) (by decide +kernel)
theorem wf_S_26 : Cond.fieldLink "SuggestDesk" 26 (T_S 2).1 (T_S 2).2.1 (T_S 2).2.2.1 ∈ AL := AL_in (List.mem_append_right _ (List.mem_of_getElem? (i := 181) (by decide +kernel))) (by decide +kernel)
theorem fl_S_26 : Fl "SuggestDesk" 26 7 2 "SuggestDesk" T_S 8 := ⟨rfl, by decide, la_S, Or.inl wf_S_26⟩
theorem ff_S_26 : vwCl[7]? = some ("SuggestDesk", T_S, 8) ∧ 2 < 8 ∧ (∀ w ∈ u_ws "SuggestDesk" T_S 8, w ∈ AL) ∧ Cond.fieldLink "SuggestDesk" 26 (T_S 2).1 (T_S 2).2.1 (T_S 2).2.2.1 ∈ AL := ⟨rfl, by decide, la_S, wf_S_26⟩
theorem wq_S_30 : Cond.classLink "SuggestDesk" 30 "SuggestDesk$Ruler" ∈ AL := AL_in (List.mem_append_right _ (List.mem_of_getElem? (i := 95) (by decide +kernel))) (by decide +kernel)
theorem wt_Ruler : Cond.instantiable "SuggestDesk$Ruler" 1 ∈ AL := AL_in (List.mem_append_right _ (List.mem_of_getElem? (i := 96) (by decide +kernel))) (by decide +kernel)
theorem wi_Ruler : Cond.initialized "SuggestDesk$Ruler" ∈ AL := AL_in (List.mem_append_right _ (List.mem_of_getElem? (i := 5) (by decide +kernel))) (by decide +kernel)
theorem nw_S_30 : Nw "SuggestDesk" 30 4 "SuggestDesk$Ruler" T_Ruler 1 := ⟨rfl, la_Ruler, wq_S_30, wt_Ruler, wi_Ruler⟩
theorem wl_S_32 : Cond.methodLink "SuggestDesk" 32 y_Ruler_init ∈ AL := AL_in (List.mem_append_right _ (List.mem_of_getElem? (i := 97) (by decide +kernel))) (by decide +kernel)
theorem lk_S_32 : Lk "SuggestDesk" 32 y_Ruler_init := Or.inl wl_S_32
theorem wc_Ruler_init : Cond.code y_Ruler_init b_Ruler_init 2 none ∈ AL := AL_in (List.mem_append_right _ (List.mem_of_getElem? (i := 99) (by decide +kernel))) (by decide +kernel)
theorem mw_Ruler_init : Mw y_Ruler_init b_Ruler_init 2 none 0 := ⟨wc_Ruler_init, wi_Ruler, by decide, by decide, by decide +kernel⟩
theorem wn_Ruler_init : Cond.instanceMethod y_Ruler_init ∈ AL := AL_in (List.mem_append_right _ (List.mem_of_getElem? (i := 98) (by decide +kernel))) (by decide +kernel)
theorem wf_S_33 : Cond.fieldLink "SuggestDesk" 33 (T_S 3).1 (T_S 3).2.1 (T_S 3).2.2.1 ∈ AL := AL_in (List.mem_append_right _ (List.mem_of_getElem? (i := 182) (by decide +kernel))) (by decide +kernel)
theorem fl_S_33 : Fl "SuggestDesk" 33 7 3 "SuggestDesk" T_S 8 := ⟨rfl, by decide, la_S, Or.inl wf_S_33⟩
theorem ff_S_33 : vwCl[7]? = some ("SuggestDesk", T_S, 8) ∧ 3 < 8 ∧ (∀ w ∈ u_ws "SuggestDesk" T_S 8, w ∈ AL) ∧ Cond.fieldLink "SuggestDesk" 33 (T_S 3).1 (T_S 3).2.1 (T_S 3).2.2.1 ∈ AL := ⟨rfl, by decide, la_S, wf_S_33⟩
theorem wq_S_37 : Cond.classLink "SuggestDesk" 37 "SuggestDesk$Suggestions" ∈ AL := AL_in (List.mem_append_right _ (List.mem_of_getElem? (i := 107) (by decide +kernel))) (by decide +kernel)
theorem wt_Suggestions : Cond.instantiable "SuggestDesk$Suggestions" 4 ∈ AL := AL_in (List.mem_append_right _ (List.mem_of_getElem? (i := 108) (by decide +kernel))) (by decide +kernel)
theorem nw_S_37 : Nw "SuggestDesk" 37 5 "SuggestDesk$Suggestions" T_Suggestions 4 := ⟨rfl, la_Suggestions, wq_S_37, wt_Suggestions, wi_Suggestions⟩
theorem wl_S_39 : Cond.methodLinkNest "SuggestDesk" 39 y_Suggestions_init "SuggestDesk" ∈ NWs := NW_in (List.mem_append_right _ (List.mem_of_getElem? (i := 109) (by decide +kernel))) (by decide +kernel)
theorem lk_S_39 : Lk "SuggestDesk" 39 y_Suggestions_init := Or.inr ⟨_, wl_S_39⟩
theorem wc_Suggestions_init : Cond.code y_Suggestions_init b_Suggestions_init 1 none ∈ AL := AL_in (List.mem_append_right _ (List.mem_of_getElem? (i := 111) (by decide +kernel))) (by decide +kernel)
theorem mw_Suggestions_init : Mw y_Suggestions_init b_Suggestions_init 1 none 0 := ⟨wc_Suggestions_init, wi_Suggestions, by decide, by decide, by decide +kernel⟩
theorem wn_Suggestions_init : Cond.instanceMethod y_Suggestions_init ∈ AL := AL_in (List.mem_append_right _ (List.mem_of_getElem? (i := 110) (by decide +kernel))) (by decide +kernel)
theorem ff_S_40 : vwCl[7]? = some ("SuggestDesk", T_S, 8) ∧ 4 < 8 ∧ (∀ w ∈ u_ws "SuggestDesk" T_S 8, w ∈ AL) ∧ Cond.fieldLink "SuggestDesk" 40 (T_S 4).1 (T_S 4).2.1 (T_S 4).2.2.1 ∈ AL := ⟨rfl, by decide, la_S, wf_S_40⟩
theorem wq_S_44 : Cond.classLink "SuggestDesk" 44 "SuggestDesk$Pairs" ∈ AL := AL_in (List.mem_append_right _ (List.mem_of_getElem? (i := 126) (by decide +kernel))) (by decide +kernel)
theorem wt_Pairs : Cond.instantiable "SuggestDesk$Pairs" 4 ∈ AL := AL_in (List.mem_append_right _ (List.mem_of_getElem? (i := 127) (by decide +kernel))) (by decide +kernel)
theorem nw_S_44 : Nw "SuggestDesk" 44 2 "SuggestDesk$Pairs" T_Pairs 4 := ⟨rfl, la_Pairs, wq_S_44, wt_Pairs, wi_Pairs⟩
theorem wl_S_46 : Cond.methodLinkNest "SuggestDesk" 46 y_Pairs_init "SuggestDesk" ∈ NWs := NW_in (List.mem_append_right _ (List.mem_of_getElem? (i := 128) (by decide +kernel))) (by decide +kernel)
theorem lk_S_46 : Lk "SuggestDesk" 46 y_Pairs_init := Or.inr ⟨_, wl_S_46⟩
theorem wc_Pairs_init : Cond.code y_Pairs_init b_Pairs_init 1 none ∈ AL := AL_in (List.mem_append_right _ (List.mem_of_getElem? (i := 130) (by decide +kernel))) (by decide +kernel)
theorem mw_Pairs_init : Mw y_Pairs_init b_Pairs_init 1 none 0 := ⟨wc_Pairs_init, wi_Pairs, by decide, by decide, by decide +kernel⟩
theorem wn_Pairs_init : Cond.instanceMethod y_Pairs_init ∈ AL := AL_in (List.mem_append_right _ (List.mem_of_getElem? (i := 129) (by decide +kernel))) (by decide +kernel)
theorem wf_S_47 : Cond.fieldLink "SuggestDesk" 47 (T_S 5).1 (T_S 5).2.1 (T_S 5).2.2.1 ∈ AL := AL_in (List.mem_append_right _ (List.mem_of_getElem? (i := 184) (by decide +kernel))) (by decide +kernel)
theorem fl_S_47 : Fl "SuggestDesk" 47 7 5 "SuggestDesk" T_S 8 := ⟨rfl, by decide, la_S, Or.inl wf_S_47⟩
theorem ff_S_47 : vwCl[7]? = some ("SuggestDesk", T_S, 8) ∧ 5 < 8 ∧ (∀ w ∈ u_ws "SuggestDesk" T_S 8, w ∈ AL) ∧ Cond.fieldLink "SuggestDesk" 47 (T_S 5).1 (T_S 5).2.1 (T_S 5).2.2.1 ∈ AL := ⟨rfl, by decide, la_S, wf_S_47⟩
theorem wq_S_51 : Cond.classLink "SuggestDesk" 51 "SuggestDesk$Phrase" ∈ AL := AL_in (List.mem_append_right _ (List.mem_of_getElem? (i := 145) (by decide +kernel))) (by decide +kernel)
theorem wt_Phrase : Cond.instantiable "SuggestDesk$Phrase" 8 ∈ AL := AL_in (List.mem_append_right _ (List.mem_of_getElem? (i := 146) (by decide +kernel))) (by decide +kernel)
theorem nw_S_51 : Nw "SuggestDesk" 51 3 "SuggestDesk$Phrase" T_Phrase 8 := ⟨rfl, la_Phrase, wq_S_51, wt_Phrase, wi_Phrase⟩
theorem wl_S_53 : Cond.methodLinkNest "SuggestDesk" 53 y_Phrase_init "SuggestDesk" ∈ NWs := NW_in (List.mem_append_right _ (List.mem_of_getElem? (i := 147) (by decide +kernel))) (by decide +kernel)
theorem lk_S_53 : Lk "SuggestDesk" 53 y_Phrase_init := Or.inr ⟨_, wl_S_53⟩
theorem wc_Phrase_init : Cond.code y_Phrase_init b_Phrase_init 1 none ∈ AL := AL_in (List.mem_append_right _ (List.mem_of_getElem? (i := 149) (by decide +kernel))) (by decide +kernel)
theorem mw_Phrase_init : Mw y_Phrase_init b_Phrase_init 1 none 0 := ⟨wc_Phrase_init, wi_Phrase, by decide, by decide, by decide +kernel⟩
theorem wn_Phrase_init : Cond.instanceMethod y_Phrase_init ∈ AL := AL_in (List.mem_append_right _ (List.mem_of_getElem? (i := 148) (by decide +kernel))) (by decide +kernel)
theorem ff_S_54 : vwCl[7]? = some ("SuggestDesk", T_S, 8) ∧ 6 < 8 ∧ (∀ w ∈ u_ws "SuggestDesk" T_S 8, w ∈ AL) ∧ Cond.fieldLink "SuggestDesk" 54 (T_S 6).1 (T_S 6).2.1 (T_S 6).2.2.1 ∈ AL := ⟨rfl, by decide, la_S, wf_S_54⟩
theorem wl_S_62 : Cond.methodLink "SuggestDesk" 62 y_Texts_isWord ∈ AL := AL_in (List.mem_append_right _ (List.mem_of_getElem? (i := 208) (by decide +kernel))) (by decide +kernel)
theorem lk_S_62 : Lk "SuggestDesk" 62 y_Texts_isWord := Or.inl wl_S_62
theorem wc_Texts_isWord : Cond.code y_Texts_isWord b_Texts_isWord 2 (some .boolean) ∈ AL := AL_in (List.mem_append_right _ (List.mem_of_getElem? (i := 210) (by decide +kernel))) (by decide +kernel)
theorem mw_Texts_isWord : Mw y_Texts_isWord b_Texts_isWord 2 (some .boolean) 1 := ⟨wc_Texts_isWord, wi_Texts, by decide, by decide, by decide +kernel⟩
theorem ws_Texts_isWord : Cond.static y_Texts_isWord ∈ AL := AL_in (List.mem_append_right _ (List.mem_of_getElem? (i := 209) (by decide +kernel))) (by decide +kernel)
theorem wl_S_77 : Cond.methodLink "SuggestDesk" 77 y_Texts_ofNumber ∈ AL := AL_in (List.mem_append_right _ (List.mem_of_getElem? (i := 217) (by decide +kernel))) (by decide +kernel)
theorem lk_S_77 : Lk "SuggestDesk" 77 y_Texts_ofNumber := Or.inl wl_S_77
theorem wc_Texts_ofNumber : Cond.code y_Texts_ofNumber b_Texts_ofNumber 5 (some .long) ∈ AL := AL_in (List.mem_append_right _ (List.mem_of_getElem? (i := 219) (by decide +kernel))) (by decide +kernel)
theorem mw_Texts_ofNumber : Mw y_Texts_ofNumber b_Texts_ofNumber 5 (some .long) 1 := ⟨wc_Texts_ofNumber, wi_Texts, by decide, by decide, by decide +kernel⟩
theorem ws_Texts_ofNumber : Cond.static y_Texts_ofNumber ∈ AL := AL_in (List.mem_append_right _ (List.mem_of_getElem? (i := 218) (by decide +kernel))) (by decide +kernel)
theorem wl_S_81 : Cond.methodLink "SuggestDesk" 81 y_WordList_put ∈ AL := AL_in (List.mem_append_right _ (List.mem_of_getElem? (i := 314) (by decide +kernel))) (by decide +kernel)
theorem lk_S_81 : Lk "SuggestDesk" 81 y_WordList_put := Or.inl wl_S_81
theorem wc_WordList_put : Cond.code y_WordList_put b_WordList_put 6 (some .boolean) ∈ AL := AL_in (List.mem_append_right _ (List.mem_of_getElem? (i := 317) (by decide +kernel))) (by decide +kernel)
theorem mw_WordList_put : Mw y_WordList_put b_WordList_put 6 (some .boolean) 2 := ⟨wc_WordList_put, wi_WordList, by decide, by decide, by decide +kernel⟩
theorem wn_WordList_put : Cond.instanceMethod y_WordList_put ∈ AL := AL_in (List.mem_append_right _ (List.mem_of_getElem? (i := 315) (by decide +kernel))) (by decide +kernel)
theorem wx_WordList_put : Cond.selects "SuggestDesk$WordList" y_WordList_put y_WordList_put ∈ AL := AL_in (List.mem_append_right _ (List.mem_of_getElem? (i := 316) (by decide +kernel))) (by decide +kernel)
theorem sv_WordList_put : Cond.instanceMethod y_WordList_put ∈ AL ∧ Cond.selects y_WordList_put.cls y_WordList_put y_WordList_put ∈ AL := ⟨wn_WordList_put, wx_WordList_put⟩
theorem wl_S_94 : Cond.methodLink "SuggestDesk" 94 y_WordList_remove ∈ AL := AL_in (List.mem_append_right _ (List.mem_of_getElem? (i := 223) (by decide +kernel))) (by decide +kernel)
theorem lk_S_94 : Lk "SuggestDesk" 94 y_WordList_remove := Or.inl wl_S_94
theorem wc_WordList_remove : Cond.code y_WordList_remove b_WordList_remove 5 (some .boolean) ∈ AL := AL_in (List.mem_append_right _ (List.mem_of_getElem? (i := 226) (by decide +kernel))) (by decide +kernel)
theorem mw_WordList_remove : Mw y_WordList_remove b_WordList_remove 5 (some .boolean) 1 := ⟨wc_WordList_remove, wi_WordList, by decide, by decide, by decide +kernel⟩
theorem wn_WordList_remove : Cond.instanceMethod y_WordList_remove ∈ AL := AL_in (List.mem_append_right _ (List.mem_of_getElem? (i := 224) (by decide +kernel))) (by decide +kernel)
theorem wx_WordList_remove : Cond.selects "SuggestDesk$WordList" y_WordList_remove y_WordList_remove ∈ AL := AL_in (List.mem_append_right _ (List.mem_of_getElem? (i := 225) (by decide +kernel))) (by decide +kernel)
theorem sv_WordList_remove : Cond.instanceMethod y_WordList_remove ∈ AL ∧ Cond.selects y_WordList_remove.cls y_WordList_remove y_WordList_remove ∈ AL := ⟨wn_WordList_remove, wx_WordList_remove⟩
theorem wl_S_99 : Cond.methodLink "SuggestDesk" 99 y_S_placeForNext ∈ AL := AL_in (List.mem_append_right _ (List.mem_of_getElem? (i := 346) (by decide +kernel))) (by decide +kernel)
theorem lk_S_99 : Lk "SuggestDesk" 99 y_S_placeForNext := Or.inl wl_S_99
theorem wc_S_placeForNext : Cond.code y_S_placeForNext b_S_placeForNext 3 (some (.object "SuggestDesk$Dictionary")) ∈ AL := AL_in (List.mem_append_right _ (List.mem_of_getElem? (i := 349) (by decide +kernel))) (by decide +kernel)
theorem mw_S_placeForNext : Mw y_S_placeForNext b_S_placeForNext 3 (some (.object "SuggestDesk$Dictionary")) 0 := ⟨wc_S_placeForNext, wi_S, by decide, by decide, by decide +kernel⟩
theorem wn_S_placeForNext : Cond.instanceMethod y_S_placeForNext ∈ AL := AL_in (List.mem_append_right _ (List.mem_of_getElem? (i := 348) (by decide +kernel))) (by decide +kernel)
theorem wx_S_placeForNext : Cond.selects "SuggestDesk" y_S_placeForNext y_S_placeForNext ∈ AL := AL_in (List.mem_append_left _ (List.mem_of_getElem? (i := 2) (by decide +kernel))) (by decide +kernel)
theorem sv_S_placeForNext : Cond.instanceMethod y_S_placeForNext ∈ AL ∧ Cond.selects y_S_placeForNext.cls y_S_placeForNext y_S_placeForNext ∈ AL := ⟨wn_S_placeForNext, wx_S_placeForNext⟩
theorem wl_S_130 : Cond.methodLink "SuggestDesk" 130 y_Dictionary_addReader ∈ AL := AL_in (List.mem_append_right _ (List.mem_of_getElem? (i := 448) (by decide +kernel))) (by decide +kernel)
theorem lk_S_130 : Lk "SuggestDesk" 130 y_Dictionary_addReader := Or.inl wl_S_130
theorem wc_Dictionary_addReader : Cond.code y_Dictionary_addReader b_Dictionary_addReader 1 none ∈ AL := AL_in (List.mem_append_right _ (List.mem_of_getElem? (i := 451) (by decide +kernel))) (by decide +kernel)
theorem mw_Dictionary_addReader : Mw y_Dictionary_addReader b_Dictionary_addReader 1 none 0 := ⟨wc_Dictionary_addReader, wi_Dictionary, by decide, by decide, by decide +kernel⟩
theorem wn_Dictionary_addReader : Cond.instanceMethod y_Dictionary_addReader ∈ AL := AL_in (List.mem_append_right _ (List.mem_of_getElem? (i := 449) (by decide +kernel))) (by decide +kernel)
theorem wx_Dictionary_addReader : Cond.selects "SuggestDesk$Dictionary" y_Dictionary_addReader y_Dictionary_addReader ∈ AL := AL_in (List.mem_append_right _ (List.mem_of_getElem? (i := 450) (by decide +kernel))) (by decide +kernel)
theorem sv_Dictionary_addReader : Cond.instanceMethod y_Dictionary_addReader ∈ AL ∧ Cond.selects y_Dictionary_addReader.cls y_Dictionary_addReader y_Dictionary_addReader ∈ AL := ⟨wn_Dictionary_addReader, wx_Dictionary_addReader⟩
theorem wl_S_135 : Cond.methodLink "SuggestDesk" 135 y_Dictionary_removeReader ∈ AL := AL_in (List.mem_append_right _ (List.mem_of_getElem? (i := 460) (by decide +kernel))) (by decide +kernel)
theorem lk_S_135 : Lk "SuggestDesk" 135 y_Dictionary_removeReader := Or.inl wl_S_135
theorem wc_Dictionary_removeReader : Cond.code y_Dictionary_removeReader b_Dictionary_removeReader 1 none ∈ AL := AL_in (List.mem_append_right _ (List.mem_of_getElem? (i := 463) (by decide +kernel))) (by decide +kernel)
theorem mw_Dictionary_removeReader : Mw y_Dictionary_removeReader b_Dictionary_removeReader 1 none 0 := ⟨wc_Dictionary_removeReader, wi_Dictionary, by decide, by decide, by decide +kernel⟩
theorem wn_Dictionary_removeReader : Cond.instanceMethod y_Dictionary_removeReader ∈ AL := AL_in (List.mem_append_right _ (List.mem_of_getElem? (i := 461) (by decide +kernel))) (by decide +kernel)
theorem wx_Dictionary_removeReader : Cond.selects "SuggestDesk$Dictionary" y_Dictionary_removeReader y_Dictionary_removeReader ∈ AL := AL_in (List.mem_append_right _ (List.mem_of_getElem? (i := 462) (by decide +kernel))) (by decide +kernel)
theorem sv_Dictionary_removeReader : Cond.instanceMethod y_Dictionary_removeReader ∈ AL ∧ Cond.selects y_Dictionary_removeReader.cls y_Dictionary_removeReader y_Dictionary_removeReader ∈ AL := ⟨wn_Dictionary_removeReader, wx_Dictionary_removeReader⟩
theorem wl_S_138 : Cond.methodLink "SuggestDesk" 138 y_Dictionary_clear ∈ AL := AL_in (List.mem_append_right _ (List.mem_of_getElem? (i := 464) (by decide +kernel))) (by decide +kernel)
theorem lk_S_138 : Lk "SuggestDesk" 138 y_Dictionary_clear := Or.inl wl_S_138
theorem wc_Dictionary_clear : Cond.code y_Dictionary_clear b_Dictionary_clear 1 none ∈ AL := AL_in (List.mem_append_right _ (List.mem_of_getElem? (i := 467) (by decide +kernel))) (by decide +kernel)
theorem mw_Dictionary_clear : Mw y_Dictionary_clear b_Dictionary_clear 1 none 0 := ⟨wc_Dictionary_clear, wi_Dictionary, by decide, by decide, by decide +kernel⟩
theorem wn_Dictionary_clear : Cond.instanceMethod y_Dictionary_clear ∈ AL := AL_in (List.mem_append_right _ (List.mem_of_getElem? (i := 465) (by decide +kernel))) (by decide +kernel)
theorem wx_Dictionary_clear : Cond.selects "SuggestDesk$Dictionary" y_Dictionary_clear y_Dictionary_clear ∈ AL := AL_in (List.mem_append_right _ (List.mem_of_getElem? (i := 466) (by decide +kernel))) (by decide +kernel)
theorem sv_Dictionary_clear : Cond.instanceMethod y_Dictionary_clear ∈ AL ∧ Cond.selects y_Dictionary_clear.cls y_Dictionary_clear y_Dictionary_clear ∈ AL := ⟨wn_Dictionary_clear, wx_Dictionary_clear⟩
theorem wl_S_150 : Cond.methodLink "SuggestDesk" 150 y_Dictionary_words ∈ AL := AL_in (List.mem_append_right _ (List.mem_of_getElem? (i := 492) (by decide +kernel))) (by decide +kernel)
theorem lk_S_150 : Lk "SuggestDesk" 150 y_Dictionary_words := Or.inl wl_S_150
theorem wc_Dictionary_words : Cond.code y_Dictionary_words b_Dictionary_words 1 (some (.object "SuggestDesk$WordList")) ∈ AL := AL_in (List.mem_append_right _ (List.mem_of_getElem? (i := 495) (by decide +kernel))) (by decide +kernel)
theorem mw_Dictionary_words : Mw y_Dictionary_words b_Dictionary_words 1 (some (.object "SuggestDesk$WordList")) 0 := ⟨wc_Dictionary_words, wi_Dictionary, by decide, by decide, by decide +kernel⟩
theorem wn_Dictionary_words : Cond.instanceMethod y_Dictionary_words ∈ AL := AL_in (List.mem_append_right _ (List.mem_of_getElem? (i := 493) (by decide +kernel))) (by decide +kernel)
theorem wx_Dictionary_words : Cond.selects "SuggestDesk$Dictionary" y_Dictionary_words y_Dictionary_words ∈ AL := AL_in (List.mem_append_right _ (List.mem_of_getElem? (i := 494) (by decide +kernel))) (by decide +kernel)
theorem sv_Dictionary_words : Cond.instanceMethod y_Dictionary_words ∈ AL ∧ Cond.selects y_Dictionary_words.cls y_Dictionary_words y_Dictionary_words ∈ AL := ⟨wn_Dictionary_words, wx_Dictionary_words⟩
theorem wl_S_154 : Cond.methodLink "SuggestDesk" 154 y_Dictionary_states ∈ AL := AL_in (List.mem_append_right _ (List.mem_of_getElem? (i := 496) (by decide +kernel))) (by decide +kernel)
theorem lk_S_154 : Lk "SuggestDesk" 154 y_Dictionary_states := Or.inl wl_S_154
theorem wc_Dictionary_states : Cond.code y_Dictionary_states b_Dictionary_states 1 (some .int) ∈ AL := AL_in (List.mem_append_right _ (List.mem_of_getElem? (i := 499) (by decide +kernel))) (by decide +kernel)
theorem mw_Dictionary_states : Mw y_Dictionary_states b_Dictionary_states 1 (some .int) 0 := ⟨wc_Dictionary_states, wi_Dictionary, by decide, by decide, by decide +kernel⟩
theorem wn_Dictionary_states : Cond.instanceMethod y_Dictionary_states ∈ AL := AL_in (List.mem_append_right _ (List.mem_of_getElem? (i := 497) (by decide +kernel))) (by decide +kernel)
theorem wx_Dictionary_states : Cond.selects "SuggestDesk$Dictionary" y_Dictionary_states y_Dictionary_states ∈ AL := AL_in (List.mem_append_right _ (List.mem_of_getElem? (i := 498) (by decide +kernel))) (by decide +kernel)
theorem sv_Dictionary_states : Cond.instanceMethod y_Dictionary_states ∈ AL ∧ Cond.selects y_Dictionary_states.cls y_Dictionary_states y_Dictionary_states ∈ AL := ⟨wn_Dictionary_states, wx_Dictionary_states⟩
theorem wl_S_155 : Cond.methodLink "SuggestDesk" 155 y_Dictionary_arcs ∈ AL := AL_in (List.mem_append_right _ (List.mem_of_getElem? (i := 500) (by decide +kernel))) (by decide +kernel)
theorem lk_S_155 : Lk "SuggestDesk" 155 y_Dictionary_arcs := Or.inl wl_S_155
theorem wc_Dictionary_arcs : Cond.code y_Dictionary_arcs b_Dictionary_arcs 1 (some .int) ∈ AL := AL_in (List.mem_append_right _ (List.mem_of_getElem? (i := 503) (by decide +kernel))) (by decide +kernel)
theorem mw_Dictionary_arcs : Mw y_Dictionary_arcs b_Dictionary_arcs 1 (some .int) 0 := ⟨wc_Dictionary_arcs, wi_Dictionary, by decide, by decide, by decide +kernel⟩
theorem wn_Dictionary_arcs : Cond.instanceMethod y_Dictionary_arcs ∈ AL := AL_in (List.mem_append_right _ (List.mem_of_getElem? (i := 501) (by decide +kernel))) (by decide +kernel)
theorem wx_Dictionary_arcs : Cond.selects "SuggestDesk$Dictionary" y_Dictionary_arcs y_Dictionary_arcs ∈ AL := AL_in (List.mem_append_right _ (List.mem_of_getElem? (i := 502) (by decide +kernel))) (by decide +kernel)
theorem sv_Dictionary_arcs : Cond.instanceMethod y_Dictionary_arcs ∈ AL ∧ Cond.selects y_Dictionary_arcs.cls y_Dictionary_arcs y_Dictionary_arcs ∈ AL := ⟨wn_Dictionary_arcs, wx_Dictionary_arcs⟩
theorem wl_S_164 : Cond.methodLink "SuggestDesk" 164 y_WordList_costAt ∈ AL := AL_in (List.mem_append_right _ (List.mem_of_getElem? (i := 514) (by decide +kernel))) (by decide +kernel)
theorem lk_S_164 : Lk "SuggestDesk" 164 y_WordList_costAt := Or.inl wl_S_164
theorem wl_S_158 : Cond.methodLink "SuggestDesk" 158 y_WordList_indexOf ∈ AL := AL_in (List.mem_append_right _ (List.mem_of_getElem? (i := 512) (by decide +kernel))) (by decide +kernel)
theorem lk_S_158 : Lk "SuggestDesk" 158 y_WordList_indexOf := Or.inl wl_S_158
theorem wl_S_206 : Cond.methodLink "SuggestDesk" 206 y_Pairs_add ∈ AL := AL_in (List.mem_append_right _ (List.mem_of_getElem? (i := 616) (by decide +kernel))) (by decide +kernel)
theorem lk_S_206 : Lk "SuggestDesk" 206 y_Pairs_add := Or.inl wl_S_206
theorem wc_Pairs_add : Cond.code y_Pairs_add b_Pairs_add 6 (some .int) ∈ AL := AL_in (List.mem_append_right _ (List.mem_of_getElem? (i := 619) (by decide +kernel))) (by decide +kernel)
theorem mw_Pairs_add : Mw y_Pairs_add b_Pairs_add 6 (some .int) 2 := ⟨wc_Pairs_add, wi_Pairs, by decide, by decide, by decide +kernel⟩
theorem wn_Pairs_add : Cond.instanceMethod y_Pairs_add ∈ AL := AL_in (List.mem_append_right _ (List.mem_of_getElem? (i := 617) (by decide +kernel))) (by decide +kernel)
theorem wx_Pairs_add : Cond.selects "SuggestDesk$Pairs" y_Pairs_add y_Pairs_add ∈ AL := AL_in (List.mem_append_right _ (List.mem_of_getElem? (i := 618) (by decide +kernel))) (by decide +kernel)
theorem sv_Pairs_add : Cond.instanceMethod y_Pairs_add ∈ AL ∧ Cond.selects y_Pairs_add.cls y_Pairs_add y_Pairs_add ∈ AL := ⟨wn_Pairs_add, wx_Pairs_add⟩
theorem wl_S_211 : Cond.methodLink "SuggestDesk" 211 y_Phrase_add ∈ AL := AL_in (List.mem_append_right _ (List.mem_of_getElem? (i := 632) (by decide +kernel))) (by decide +kernel)
theorem lk_S_211 : Lk "SuggestDesk" 211 y_Phrase_add := Or.inl wl_S_211
theorem wc_Phrase_add : Cond.code y_Phrase_add b_Phrase_add 3 (some .boolean) ∈ AL := AL_in (List.mem_append_right _ (List.mem_of_getElem? (i := 635) (by decide +kernel))) (by decide +kernel)
theorem mw_Phrase_add : Mw y_Phrase_add b_Phrase_add 3 (some .boolean) 1 := ⟨wc_Phrase_add, wi_Phrase, by decide, by decide, by decide +kernel⟩
theorem wn_Phrase_add : Cond.instanceMethod y_Phrase_add ∈ AL := AL_in (List.mem_append_right _ (List.mem_of_getElem? (i := 633) (by decide +kernel))) (by decide +kernel)
theorem wx_Phrase_add : Cond.selects "SuggestDesk$Phrase" y_Phrase_add y_Phrase_add ∈ AL := AL_in (List.mem_append_right _ (List.mem_of_getElem? (i := 634) (by decide +kernel))) (by decide +kernel)
theorem sv_Phrase_add : Cond.instanceMethod y_Phrase_add ∈ AL ∧ Cond.selects y_Phrase_add.cls y_Phrase_add y_Phrase_add ∈ AL := ⟨wn_Phrase_add, wx_Phrase_add⟩
theorem wl_S_215 : Cond.methodLink "SuggestDesk" 215 y_Phrase_size ∈ AL := AL_in (List.mem_append_right _ (List.mem_of_getElem? (i := 637) (by decide +kernel))) (by decide +kernel)
theorem lk_S_215 : Lk "SuggestDesk" 215 y_Phrase_size := Or.inl wl_S_215
theorem wc_Phrase_size : Cond.code y_Phrase_size b_Phrase_size 1 (some .int) ∈ AL := AL_in (List.mem_append_right _ (List.mem_of_getElem? (i := 640) (by decide +kernel))) (by decide +kernel)
theorem mw_Phrase_size : Mw y_Phrase_size b_Phrase_size 1 (some .int) 0 := ⟨wc_Phrase_size, wi_Phrase, by decide, by decide, by decide +kernel⟩
theorem wn_Phrase_size : Cond.instanceMethod y_Phrase_size ∈ AL := AL_in (List.mem_append_right _ (List.mem_of_getElem? (i := 638) (by decide +kernel))) (by decide +kernel)
theorem wx_Phrase_size : Cond.selects "SuggestDesk$Phrase" y_Phrase_size y_Phrase_size ∈ AL := AL_in (List.mem_append_right _ (List.mem_of_getElem? (i := 639) (by decide +kernel))) (by decide +kernel)
theorem sv_Phrase_size : Cond.instanceMethod y_Phrase_size ∈ AL ∧ Cond.selects y_Phrase_size.cls y_Phrase_size y_Phrase_size ∈ AL := ⟨wn_Phrase_size, wx_Phrase_size⟩
theorem wl_Phrase_72 : Cond.methodLink "SuggestDesk$Phrase" 72 y_Phrase_costWith ∈ AL := AL_in (List.mem_append_right _ (List.mem_of_getElem? (i := 669) (by decide +kernel))) (by decide +kernel)
theorem lk_Phrase_72 : Lk "SuggestDesk$Phrase" 72 y_Phrase_costWith := Or.inl wl_Phrase_72
theorem wc_Phrase_costWith : Cond.code y_Phrase_costWith b_Phrase_costWith 9 (some .int) ∈ AL := AL_in (List.mem_append_right _ (List.mem_of_getElem? (i := 672) (by decide +kernel))) (by decide +kernel)
theorem mw_Phrase_costWith : Mw y_Phrase_costWith b_Phrase_costWith 9 (some .int) 4 := ⟨wc_Phrase_costWith, wi_Phrase, by decide, by decide, by decide +kernel⟩
theorem wn_Phrase_costWith : Cond.instanceMethod y_Phrase_costWith ∈ AL := AL_in (List.mem_append_right _ (List.mem_of_getElem? (i := 671) (by decide +kernel))) (by decide +kernel)
theorem wx_Phrase_costWith : Cond.selects "SuggestDesk$Phrase" y_Phrase_costWith y_Phrase_costWith ∈ AL := AL_in (List.mem_append_left _ (List.mem_of_getElem? (i := 14) (by decide +kernel))) (by decide +kernel)
theorem sv_Phrase_costWith : Cond.instanceMethod y_Phrase_costWith ∈ AL ∧ Cond.selects y_Phrase_costWith.cls y_Phrase_costWith y_Phrase_costWith ∈ AL := ⟨wn_Phrase_costWith, wx_Phrase_costWith⟩
theorem wl_Ruler_16 : Cond.methodLink "SuggestDesk$Ruler" 16 y_Texts_lengthOf ∈ AL := AL_in (List.mem_append_right _ (List.mem_of_getElem? (i := 563) (by decide +kernel))) (by decide +kernel)
theorem lk_Ruler_16 : Lk "SuggestDesk$Ruler" 16 y_Texts_lengthOf := Or.inl wl_Ruler_16
theorem wl_Ruler_22 : Cond.methodLink "SuggestDesk$Ruler" 22 y_Ruler_leastChanges ∈ AL := AL_in (List.mem_append_right _ (List.mem_of_getElem? (i := 564) (by decide +kernel))) (by decide +kernel)
theorem lk_Ruler_22 : Lk "SuggestDesk$Ruler" 22 y_Ruler_leastChanges := Or.inl wl_Ruler_22
theorem wc_Ruler_leastChanges : Cond.code y_Ruler_leastChanges b_Ruler_leastChanges 10 (some .int) ∈ AL := AL_in (List.mem_append_right _ (List.mem_of_getElem? (i := 567) (by decide +kernel))) (by decide +kernel)
theorem mw_Ruler_leastChanges : Mw y_Ruler_leastChanges b_Ruler_leastChanges 10 (some .int) 4 := ⟨wc_Ruler_leastChanges, wi_Ruler, by decide, by decide, by decide +kernel⟩
theorem wn_Ruler_leastChanges : Cond.instanceMethod y_Ruler_leastChanges ∈ AL := AL_in (List.mem_append_right _ (List.mem_of_getElem? (i := 566) (by decide +kernel))) (by decide +kernel)
theorem wx_Ruler_leastChanges : Cond.selects "SuggestDesk$Ruler" y_Ruler_leastChanges y_Ruler_leastChanges ∈ AL := AL_in (List.mem_append_left _ (List.mem_of_getElem? (i := 10) (by decide +kernel))) (by decide +kernel)
theorem sv_Ruler_leastChanges : Cond.instanceMethod y_Ruler_leastChanges ∈ AL ∧ Cond.selects y_Ruler_leastChanges.cls y_Ruler_leastChanges y_Ruler_leastChanges ∈ AL := ⟨wn_Ruler_leastChanges, wx_Ruler_leastChanges⟩
theorem wl_Suggestions_32 : Cond.methodLink "SuggestDesk$Suggestions" 32 y_Texts_lengthOf ∈ AL := AL_in (List.mem_append_right _ (List.mem_of_getElem? (i := 534) (by decide +kernel))) (by decide +kernel)
theorem lk_Suggestions_32 : Lk "SuggestDesk$Suggestions" 32 y_Texts_lengthOf := Or.inl wl_Suggestions_32
theorem wl_Suggestions_47 : Cond.methodLink "SuggestDesk$Suggestions" 47 y_Texts_head ∈ AL := AL_in (List.mem_append_right _ (List.mem_of_getElem? (i := 537) (by decide +kernel))) (by decide +kernel)
theorem lk_Suggestions_47 : Lk "SuggestDesk$Suggestions" 47 y_Texts_head := Or.inl wl_Suggestions_47
theorem wl_Suggestions_51 : Cond.methodLink "SuggestDesk$Suggestions" 51 y_WordList_costAt ∈ AL := AL_in (List.mem_append_right _ (List.mem_of_getElem? (i := 538) (by decide +kernel))) (by decide +kernel)
theorem lk_Suggestions_51 : Lk "SuggestDesk$Suggestions" 51 y_WordList_costAt := Or.inl wl_Suggestions_51
theorem wl_Suggestions_55 : Cond.methodLink "SuggestDesk$Suggestions" 55 y_Suggestions_offer ∈ AL := AL_in (List.mem_append_right _ (List.mem_of_getElem? (i := 539) (by decide +kernel))) (by decide +kernel)
theorem lk_Suggestions_55 : Lk "SuggestDesk$Suggestions" 55 y_Suggestions_offer := Or.inl wl_Suggestions_55
theorem wc_Suggestions_offer : Cond.code y_Suggestions_offer b_Suggestions_offer 7 none ∈ AL := AL_in (List.mem_append_right _ (List.mem_of_getElem? (i := 542) (by decide +kernel))) (by decide +kernel)
theorem mw_Suggestions_offer : Mw y_Suggestions_offer b_Suggestions_offer 7 none 2 := ⟨wc_Suggestions_offer, wi_Suggestions, by decide, by decide, by decide +kernel⟩
theorem wn_Suggestions_offer : Cond.instanceMethod y_Suggestions_offer ∈ AL := AL_in (List.mem_append_right _ (List.mem_of_getElem? (i := 541) (by decide +kernel))) (by decide +kernel)
theorem wx_Suggestions_offer : Cond.selects "SuggestDesk$Suggestions" y_Suggestions_offer y_Suggestions_offer ∈ AL := AL_in (List.mem_append_left _ (List.mem_of_getElem? (i := 9) (by decide +kernel))) (by decide +kernel)
theorem sv_Suggestions_offer : Cond.instanceMethod y_Suggestions_offer ∈ AL ∧ Cond.selects y_Suggestions_offer.cls y_Suggestions_offer y_Suggestions_offer ∈ AL := ⟨wn_Suggestions_offer, wx_Suggestions_offer⟩
theorem wl_Suggestions_59 : Cond.methodLink "SuggestDesk$Suggestions" 59 y_Ruler_between ∈ AL := AL_in (List.mem_append_right _ (List.mem_of_getElem? (i := 559) (by decide +kernel))) (by decide +kernel)
theorem lk_Suggestions_59 : Lk "SuggestDesk$Suggestions" 59 y_Ruler_between := Or.inl wl_Suggestions_59
theorem wc_Ruler_between : Cond.code y_Ruler_between b_Ruler_between 9 (some .int) ∈ AL := AL_in (List.mem_append_right _ (List.mem_of_getElem? (i := 562) (by decide +kernel))) (by decide +kernel)
theorem mw_Ruler_between : Mw y_Ruler_between b_Ruler_between 9 (some .int) 2 := ⟨wc_Ruler_between, wi_Ruler, by decide, by decide, by decide +kernel⟩
theorem wn_Ruler_between : Cond.instanceMethod y_Ruler_between ∈ AL := AL_in (List.mem_append_right _ (List.mem_of_getElem? (i := 560) (by decide +kernel))) (by decide +kernel)
theorem wx_Ruler_between : Cond.selects "SuggestDesk$Ruler" y_Ruler_between y_Ruler_between ∈ AL := AL_in (List.mem_append_right _ (List.mem_of_getElem? (i := 561) (by decide +kernel))) (by decide +kernel)
theorem sv_Ruler_between : Cond.instanceMethod y_Ruler_between ∈ AL ∧ Cond.selects y_Ruler_between.cls y_Ruler_between y_Ruler_between ∈ AL := ⟨wn_Ruler_between, wx_Ruler_between⟩
theorem wl_Automaton_62 : Cond.methodLink "SuggestDesk$Automaton" 62 y_Automaton_behaveTheSame ∈ AL := AL_in (List.mem_append_right _ (List.mem_of_getElem? (i := 403) (by decide +kernel))) (by decide +kernel)
theorem lk_Automaton_62 : Lk "SuggestDesk$Automaton" 62 y_Automaton_behaveTheSame := Or.inl wl_Automaton_62
theorem wc_Automaton_behaveTheSame : Cond.code y_Automaton_behaveTheSame b_Automaton_behaveTheSame 5 (some .boolean) ∈ AL := AL_in (List.mem_append_right _ (List.mem_of_getElem? (i := 406) (by decide +kernel))) (by decide +kernel)
theorem mw_Automaton_behaveTheSame : Mw y_Automaton_behaveTheSame b_Automaton_behaveTheSame 5 (some .boolean) 3 := ⟨wc_Automaton_behaveTheSame, wi_Automaton, by decide, by decide, by decide +kernel⟩
theorem wn_Automaton_behaveTheSame : Cond.instanceMethod y_Automaton_behaveTheSame ∈ AL := AL_in (List.mem_append_right _ (List.mem_of_getElem? (i := 405) (by decide +kernel))) (by decide +kernel)
theorem wx_Automaton_behaveTheSame : Cond.selects "SuggestDesk$Automaton" y_Automaton_behaveTheSame y_Automaton_behaveTheSame ∈ AL := AL_in (List.mem_append_left _ (List.mem_of_getElem? (i := 5) (by decide +kernel))) (by decide +kernel)
theorem sv_Automaton_behaveTheSame : Cond.instanceMethod y_Automaton_behaveTheSame ∈ AL ∧ Cond.selects y_Automaton_behaveTheSame.cls y_Automaton_behaveTheSame y_Automaton_behaveTheSame ∈ AL := ⟨wn_Automaton_behaveTheSame, wx_Automaton_behaveTheSame⟩
theorem wl_Automaton_66 : Cond.methodLink "SuggestDesk$Automaton" 66 y_Automaton_countArcs ∈ AL := AL_in (List.mem_append_right _ (List.mem_of_getElem? (i := 418) (by decide +kernel))) (by decide +kernel)
theorem lk_Automaton_66 : Lk "SuggestDesk$Automaton" 66 y_Automaton_countArcs := Or.inl wl_Automaton_66
theorem wc_Automaton_countArcs : Cond.code y_Automaton_countArcs b_Automaton_countArcs 7 (some .int) ∈ AL := AL_in (List.mem_append_right _ (List.mem_of_getElem? (i := 421) (by decide +kernel))) (by decide +kernel)
theorem mw_Automaton_countArcs : Mw y_Automaton_countArcs b_Automaton_countArcs 7 (some .int) 2 := ⟨wc_Automaton_countArcs, wi_Automaton, by decide, by decide, by decide +kernel⟩
theorem wn_Automaton_countArcs : Cond.instanceMethod y_Automaton_countArcs ∈ AL := AL_in (List.mem_append_right _ (List.mem_of_getElem? (i := 420) (by decide +kernel))) (by decide +kernel)
theorem wx_Automaton_countArcs : Cond.selects "SuggestDesk$Automaton" y_Automaton_countArcs y_Automaton_countArcs ∈ AL := AL_in (List.mem_append_left _ (List.mem_of_getElem? (i := 8) (by decide +kernel))) (by decide +kernel)
theorem sv_Automaton_countArcs : Cond.instanceMethod y_Automaton_countArcs ∈ AL ∧ Cond.selects y_Automaton_countArcs.cls y_Automaton_countArcs y_Automaton_countArcs ∈ AL := ⟨wn_Automaton_countArcs, wx_Automaton_countArcs⟩
theorem wl_S_179 : Cond.methodLink "SuggestDesk" 179 y_Suggestions_takeBeginning ∈ AL := AL_in (List.mem_append_right _ (List.mem_of_getElem? (i := 530) (by decide +kernel))) (by decide +kernel)
theorem lk_S_179 : Lk "SuggestDesk" 179 y_Suggestions_takeBeginning := Or.inl wl_S_179
theorem wc_Suggestions_takeBeginning : Cond.code y_Suggestions_takeBeginning b_Suggestions_takeBeginning 6 none ∈ AL := AL_in (List.mem_append_right _ (List.mem_of_getElem? (i := 533) (by decide +kernel))) (by decide +kernel)
theorem mw_Suggestions_takeBeginning : Mw y_Suggestions_takeBeginning b_Suggestions_takeBeginning 6 none 2 := ⟨wc_Suggestions_takeBeginning, wi_Suggestions, by decide, by decide, by decide +kernel⟩
theorem wn_Suggestions_takeBeginning : Cond.instanceMethod y_Suggestions_takeBeginning ∈ AL := AL_in (List.mem_append_right _ (List.mem_of_getElem? (i := 531) (by decide +kernel))) (by decide +kernel)
theorem wx_Suggestions_takeBeginning : Cond.selects "SuggestDesk$Suggestions" y_Suggestions_takeBeginning y_Suggestions_takeBeginning ∈ AL := AL_in (List.mem_append_right _ (List.mem_of_getElem? (i := 532) (by decide +kernel))) (by decide +kernel)
theorem sv_Suggestions_takeBeginning : Cond.instanceMethod y_Suggestions_takeBeginning ∈ AL ∧ Cond.selects y_Suggestions_takeBeginning.cls y_Suggestions_takeBeginning y_Suggestions_takeBeginning ∈ AL := ⟨wn_Suggestions_takeBeginning, wx_Suggestions_takeBeginning⟩
theorem wl_S_186 : Cond.methodLink "SuggestDesk" 186 y_Suggestions_takeNear ∈ AL := AL_in (List.mem_append_right _ (List.mem_of_getElem? (i := 555) (by decide +kernel))) (by decide +kernel)
theorem lk_S_186 : Lk "SuggestDesk" 186 y_Suggestions_takeNear := Or.inl wl_S_186
theorem wc_Suggestions_takeNear : Cond.code y_Suggestions_takeNear b_Suggestions_takeNear 8 none ∈ AL := AL_in (List.mem_append_right _ (List.mem_of_getElem? (i := 558) (by decide +kernel))) (by decide +kernel)
theorem mw_Suggestions_takeNear : Mw y_Suggestions_takeNear b_Suggestions_takeNear 8 none 4 := ⟨wc_Suggestions_takeNear, wi_Suggestions, by decide, by decide, by decide +kernel⟩
theorem wn_Suggestions_takeNear : Cond.instanceMethod y_Suggestions_takeNear ∈ AL := AL_in (List.mem_append_right _ (List.mem_of_getElem? (i := 556) (by decide +kernel))) (by decide +kernel)
theorem wx_Suggestions_takeNear : Cond.selects "SuggestDesk$Suggestions" y_Suggestions_takeNear y_Suggestions_takeNear ∈ AL := AL_in (List.mem_append_right _ (List.mem_of_getElem? (i := 557) (by decide +kernel))) (by decide +kernel)
theorem sv_Suggestions_takeNear : Cond.instanceMethod y_Suggestions_takeNear ∈ AL ∧ Cond.selects y_Suggestions_takeNear.cls y_Suggestions_takeNear y_Suggestions_takeNear ∈ AL := ⟨wn_Suggestions_takeNear, wx_Suggestions_takeNear⟩
theorem wl_S_202 : Cond.methodLink "SuggestDesk" 202 y_Ruler_between ∈ AL := AL_in (List.mem_append_right _ (List.mem_of_getElem? (i := 608) (by decide +kernel))) (by decide +kernel)
theorem lk_S_202 : Lk "SuggestDesk" 202 y_Ruler_between := Or.inl wl_S_202
theorem wl_Phrase_62 : Cond.methodLink "SuggestDesk$Phrase" 62 y_Ruler_between ∈ AL := AL_in (List.mem_append_right _ (List.mem_of_getElem? (i := 663) (by decide +kernel))) (by decide +kernel)
theorem lk_Phrase_62 : Lk "SuggestDesk$Phrase" 62 y_Ruler_between := Or.inl wl_Phrase_62
theorem wl_Phrase_68 : Cond.methodLink "SuggestDesk$Phrase" 68 y_WordList_costAt ∈ AL := AL_in (List.mem_append_right _ (List.mem_of_getElem? (i := 664) (by decide +kernel))) (by decide +kernel)
theorem lk_Phrase_68 : Lk "SuggestDesk$Phrase" 68 y_WordList_costAt := Or.inl wl_Phrase_68
theorem wl_Automaton_51 : Cond.methodLink "SuggestDesk$Automaton" 51 y_Automaton_addBeginning ∈ AL := AL_in (List.mem_append_right _ (List.mem_of_getElem? (i := 382) (by decide +kernel))) (by decide +kernel)
theorem lk_Automaton_51 : Lk "SuggestDesk$Automaton" 51 y_Automaton_addBeginning := Or.inl wl_Automaton_51
theorem wc_Automaton_addBeginning : Cond.code y_Automaton_addBeginning b_Automaton_addBeginning 5 none ∈ AL := AL_in (List.mem_append_right _ (List.mem_of_getElem? (i := 385) (by decide +kernel))) (by decide +kernel)
theorem mw_Automaton_addBeginning : Mw y_Automaton_addBeginning b_Automaton_addBeginning 5 none 3 := ⟨wc_Automaton_addBeginning, wi_Automaton, by decide, by decide, by decide +kernel⟩
theorem wn_Automaton_addBeginning : Cond.instanceMethod y_Automaton_addBeginning ∈ AL := AL_in (List.mem_append_right _ (List.mem_of_getElem? (i := 384) (by decide +kernel))) (by decide +kernel)
theorem wx_Automaton_addBeginning : Cond.selects "SuggestDesk$Automaton" y_Automaton_addBeginning y_Automaton_addBeginning ∈ AL := AL_in (List.mem_append_left _ (List.mem_of_getElem? (i := 4) (by decide +kernel))) (by decide +kernel)
theorem sv_Automaton_addBeginning : Cond.instanceMethod y_Automaton_addBeginning ∈ AL ∧ Cond.selects y_Automaton_addBeginning.cls y_Automaton_addBeginning y_Automaton_addBeginning ∈ AL := ⟨wn_Automaton_addBeginning, wx_Automaton_addBeginning⟩
theorem wl_S_105 : Cond.methodLink "SuggestDesk" 105 y_Automaton_measure ∈ AL := AL_in (List.mem_append_right _ (List.mem_of_getElem? (i := 367) (by decide +kernel))) (by decide +kernel)
theorem lk_S_105 : Lk "SuggestDesk" 105 y_Automaton_measure := Or.inl wl_S_105
theorem wc_Automaton_measure : Cond.code y_Automaton_measure b_Automaton_measure 8 none ∈ AL := AL_in (List.mem_append_right _ (List.mem_of_getElem? (i := 370) (by decide +kernel))) (by decide +kernel)
theorem mw_Automaton_measure : Mw y_Automaton_measure b_Automaton_measure 8 none 1 := ⟨wc_Automaton_measure, wi_Automaton, by decide, by decide, by decide +kernel⟩
theorem wn_Automaton_measure : Cond.instanceMethod y_Automaton_measure ∈ AL := AL_in (List.mem_append_right _ (List.mem_of_getElem? (i := 368) (by decide +kernel))) (by decide +kernel)
theorem wx_Automaton_measure : Cond.selects "SuggestDesk$Automaton" y_Automaton_measure y_Automaton_measure ∈ AL := AL_in (List.mem_append_right _ (List.mem_of_getElem? (i := 369) (by decide +kernel))) (by decide +kernel)
theorem sv_Automaton_measure : Cond.instanceMethod y_Automaton_measure ∈ AL ∧ Cond.selects y_Automaton_measure.cls y_Automaton_measure y_Automaton_measure ∈ AL := ⟨wn_Automaton_measure, wx_Automaton_measure⟩
theorem wl_S_109 : Cond.methodLink "SuggestDesk" 109 y_Automaton_states ∈ AL := AL_in (List.mem_append_right _ (List.mem_of_getElem? (i := 423) (by decide +kernel))) (by decide +kernel)
theorem lk_S_109 : Lk "SuggestDesk" 109 y_Automaton_states := Or.inl wl_S_109
theorem wc_Automaton_states : Cond.code y_Automaton_states b_Automaton_states 1 (some .int) ∈ AL := AL_in (List.mem_append_right _ (List.mem_of_getElem? (i := 426) (by decide +kernel))) (by decide +kernel)
theorem mw_Automaton_states : Mw y_Automaton_states b_Automaton_states 1 (some .int) 0 := ⟨wc_Automaton_states, wi_Automaton, by decide, by decide, by decide +kernel⟩
theorem wn_Automaton_states : Cond.instanceMethod y_Automaton_states ∈ AL := AL_in (List.mem_append_right _ (List.mem_of_getElem? (i := 424) (by decide +kernel))) (by decide +kernel)
theorem wx_Automaton_states : Cond.selects "SuggestDesk$Automaton" y_Automaton_states y_Automaton_states ∈ AL := AL_in (List.mem_append_right _ (List.mem_of_getElem? (i := 425) (by decide +kernel))) (by decide +kernel)
theorem sv_Automaton_states : Cond.instanceMethod y_Automaton_states ∈ AL ∧ Cond.selects y_Automaton_states.cls y_Automaton_states y_Automaton_states ∈ AL := ⟨wn_Automaton_states, wx_Automaton_states⟩
theorem wl_S_112 : Cond.methodLink "SuggestDesk" 112 y_Automaton_arcs ∈ AL := AL_in (List.mem_append_right _ (List.mem_of_getElem? (i := 427) (by decide +kernel))) (by decide +kernel)
theorem lk_S_112 : Lk "SuggestDesk" 112 y_Automaton_arcs := Or.inl wl_S_112
theorem wc_Automaton_arcs : Cond.code y_Automaton_arcs b_Automaton_arcs 1 (some .int) ∈ AL := AL_in (List.mem_append_right _ (List.mem_of_getElem? (i := 430) (by decide +kernel))) (by decide +kernel)
theorem mw_Automaton_arcs : Mw y_Automaton_arcs b_Automaton_arcs 1 (some .int) 0 := ⟨wc_Automaton_arcs, wi_Automaton, by decide, by decide, by decide +kernel⟩
theorem wn_Automaton_arcs : Cond.instanceMethod y_Automaton_arcs ∈ AL := AL_in (List.mem_append_right _ (List.mem_of_getElem? (i := 428) (by decide +kernel))) (by decide +kernel)
theorem wx_Automaton_arcs : Cond.selects "SuggestDesk$Automaton" y_Automaton_arcs y_Automaton_arcs ∈ AL := AL_in (List.mem_append_right _ (List.mem_of_getElem? (i := 429) (by decide +kernel))) (by decide +kernel)
theorem sv_Automaton_arcs : Cond.instanceMethod y_Automaton_arcs ∈ AL ∧ Cond.selects y_Automaton_arcs.cls y_Automaton_arcs y_Automaton_arcs ∈ AL := ⟨wn_Automaton_arcs, wx_Automaton_arcs⟩
theorem wl_S_115 : Cond.methodLink "SuggestDesk" 115 y_Dictionary_fill ∈ AL := AL_in (List.mem_append_right _ (List.mem_of_getElem? (i := 431) (by decide +kernel))) (by decide +kernel)
theorem lk_S_115 : Lk "SuggestDesk" 115 y_Dictionary_fill := Or.inl wl_S_115
theorem wc_Dictionary_fill : Cond.code y_Dictionary_fill b_Dictionary_fill 5 none ∈ AL := AL_in (List.mem_append_right _ (List.mem_of_getElem? (i := 434) (by decide +kernel))) (by decide +kernel)
theorem mw_Dictionary_fill : Mw y_Dictionary_fill b_Dictionary_fill 5 none 4 := ⟨wc_Dictionary_fill, wi_Dictionary, by decide, by decide, by decide +kernel⟩
theorem wn_Dictionary_fill : Cond.instanceMethod y_Dictionary_fill ∈ AL := AL_in (List.mem_append_right _ (List.mem_of_getElem? (i := 432) (by decide +kernel))) (by decide +kernel)
theorem wx_Dictionary_fill : Cond.selects "SuggestDesk$Dictionary" y_Dictionary_fill y_Dictionary_fill ∈ AL := AL_in (List.mem_append_right _ (List.mem_of_getElem? (i := 433) (by decide +kernel))) (by decide +kernel)
theorem sv_Dictionary_fill : Cond.instanceMethod y_Dictionary_fill ∈ AL ∧ Cond.selects y_Dictionary_fill.cls y_Dictionary_fill y_Dictionary_fill ∈ AL := ⟨wn_Dictionary_fill, wx_Dictionary_fill⟩
theorem wl_Phrase_42 : Cond.methodLink "SuggestDesk$Phrase" 42 y_Phrase_gather ∈ AL := AL_in (List.mem_append_right _ (List.mem_of_getElem? (i := 657) (by decide +kernel))) (by decide +kernel)
theorem lk_Phrase_42 : Lk "SuggestDesk$Phrase" 42 y_Phrase_gather := Or.inl wl_Phrase_42
theorem wc_Phrase_gather : Cond.code y_Phrase_gather b_Phrase_gather 7 none ∈ AL := AL_in (List.mem_append_right _ (List.mem_of_getElem? (i := 660) (by decide +kernel))) (by decide +kernel)
theorem mw_Phrase_gather : Mw y_Phrase_gather b_Phrase_gather 7 none 3 := ⟨wc_Phrase_gather, wi_Phrase, by decide, by decide, by decide +kernel⟩
theorem wn_Phrase_gather : Cond.instanceMethod y_Phrase_gather ∈ AL := AL_in (List.mem_append_right _ (List.mem_of_getElem? (i := 659) (by decide +kernel))) (by decide +kernel)
theorem wx_Phrase_gather : Cond.selects "SuggestDesk$Phrase" y_Phrase_gather y_Phrase_gather ∈ AL := AL_in (List.mem_append_left _ (List.mem_of_getElem? (i := 12) (by decide +kernel))) (by decide +kernel)
theorem sv_Phrase_gather : Cond.instanceMethod y_Phrase_gather ∈ AL ∧ Cond.selects y_Phrase_gather.cls y_Phrase_gather y_Phrase_gather ∈ AL := ⟨wn_Phrase_gather, wx_Phrase_gather⟩
theorem wl_Phrase_46 : Cond.methodLink "SuggestDesk$Phrase" 46 y_Phrase_chooseFollowers ∈ AL := AL_in (List.mem_append_right _ (List.mem_of_getElem? (i := 665) (by decide +kernel))) (by decide +kernel)
theorem lk_Phrase_46 : Lk "SuggestDesk$Phrase" 46 y_Phrase_chooseFollowers := Or.inl wl_Phrase_46
theorem wc_Phrase_chooseFollowers : Cond.code y_Phrase_chooseFollowers b_Phrase_chooseFollowers 8 none ∈ AL := AL_in (List.mem_append_right _ (List.mem_of_getElem? (i := 668) (by decide +kernel))) (by decide +kernel)
theorem mw_Phrase_chooseFollowers : Mw y_Phrase_chooseFollowers b_Phrase_chooseFollowers 8 none 2 := ⟨wc_Phrase_chooseFollowers, wi_Phrase, by decide, by decide, by decide +kernel⟩
theorem wn_Phrase_chooseFollowers : Cond.instanceMethod y_Phrase_chooseFollowers ∈ AL := AL_in (List.mem_append_right _ (List.mem_of_getElem? (i := 667) (by decide +kernel))) (by decide +kernel)
theorem wx_Phrase_chooseFollowers : Cond.selects "SuggestDesk$Phrase" y_Phrase_chooseFollowers y_Phrase_chooseFollowers ∈ AL := AL_in (List.mem_append_left _ (List.mem_of_getElem? (i := 13) (by decide +kernel))) (by decide +kernel)
theorem sv_Phrase_chooseFollowers : Cond.instanceMethod y_Phrase_chooseFollowers ∈ AL ∧ Cond.selects y_Phrase_chooseFollowers.cls y_Phrase_chooseFollowers y_Phrase_chooseFollowers ∈ AL := ⟨wn_Phrase_chooseFollowers, wx_Phrase_chooseFollowers⟩
theorem wl_Phrase_50 : Cond.methodLink "SuggestDesk$Phrase" 50 y_Phrase_choose ∈ AL := AL_in (List.mem_append_right _ (List.mem_of_getElem? (i := 678) (by decide +kernel))) (by decide +kernel)
theorem lk_Phrase_50 : Lk "SuggestDesk$Phrase" 50 y_Phrase_choose := Or.inl wl_Phrase_50
theorem wc_Phrase_choose : Cond.code y_Phrase_choose b_Phrase_choose 4 (some .int) ∈ AL := AL_in (List.mem_append_right _ (List.mem_of_getElem? (i := 681) (by decide +kernel))) (by decide +kernel)
theorem mw_Phrase_choose : Mw y_Phrase_choose b_Phrase_choose 4 (some .int) 0 := ⟨wc_Phrase_choose, wi_Phrase, by decide, by decide, by decide +kernel⟩
theorem wn_Phrase_choose : Cond.instanceMethod y_Phrase_choose ∈ AL := AL_in (List.mem_append_right _ (List.mem_of_getElem? (i := 680) (by decide +kernel))) (by decide +kernel)
theorem wx_Phrase_choose : Cond.selects "SuggestDesk$Phrase" y_Phrase_choose y_Phrase_choose ∈ AL := AL_in (List.mem_append_left _ (List.mem_of_getElem? (i := 15) (by decide +kernel))) (by decide +kernel)
theorem sv_Phrase_choose : Cond.instanceMethod y_Phrase_choose ∈ AL ∧ Cond.selects y_Phrase_choose.cls y_Phrase_choose y_Phrase_choose ∈ AL := ⟨wn_Phrase_choose, wx_Phrase_choose⟩
theorem wl_S_219 : Cond.methodLink "SuggestDesk" 219 y_Phrase_settle ∈ AL := AL_in (List.mem_append_right _ (List.mem_of_getElem? (i := 653) (by decide +kernel))) (by decide +kernel)
theorem lk_S_219 : Lk "SuggestDesk" 219 y_Phrase_settle := Or.inl wl_S_219
theorem wc_Phrase_settle : Cond.code y_Phrase_settle b_Phrase_settle 5 (some .int) ∈ AL := AL_in (List.mem_append_right _ (List.mem_of_getElem? (i := 656) (by decide +kernel))) (by decide +kernel)
theorem mw_Phrase_settle : Mw y_Phrase_settle b_Phrase_settle 5 (some .int) 3 := ⟨wc_Phrase_settle, wi_Phrase, by decide, by decide, by decide +kernel⟩
theorem wn_Phrase_settle : Cond.instanceMethod y_Phrase_settle ∈ AL := AL_in (List.mem_append_right _ (List.mem_of_getElem? (i := 654) (by decide +kernel))) (by decide +kernel)
theorem wx_Phrase_settle : Cond.selects "SuggestDesk$Phrase" y_Phrase_settle y_Phrase_settle ∈ AL := AL_in (List.mem_append_right _ (List.mem_of_getElem? (i := 655) (by decide +kernel))) (by decide +kernel)
theorem sv_Phrase_settle : Cond.instanceMethod y_Phrase_settle ∈ AL ∧ Cond.selects y_Phrase_settle.cls y_Phrase_settle y_Phrase_settle ∈ AL := ⟨wn_Phrase_settle, wx_Phrase_settle⟩
theorem wl_S_216 : Cond.methodLink "SuggestDesk" 216 y_Phrase_clear ∈ AL := AL_in (List.mem_append_right _ (List.mem_of_getElem? (i := 648) (by decide +kernel))) (by decide +kernel)
theorem lk_S_216 : Lk "SuggestDesk" 216 y_Phrase_clear := Or.inl wl_S_216
theorem wc_Phrase_clear : Cond.code y_Phrase_clear b_Phrase_clear 1 none ∈ AL := AL_in (List.mem_append_right _ (List.mem_of_getElem? (i := 651) (by decide +kernel))) (by decide +kernel)
theorem mw_Phrase_clear : Mw y_Phrase_clear b_Phrase_clear 1 none 0 := ⟨wc_Phrase_clear, wi_Phrase, by decide, by decide, by decide +kernel⟩
theorem wn_Phrase_clear : Cond.instanceMethod y_Phrase_clear ∈ AL := AL_in (List.mem_append_right _ (List.mem_of_getElem? (i := 649) (by decide +kernel))) (by decide +kernel)
theorem wx_Phrase_clear : Cond.selects "SuggestDesk$Phrase" y_Phrase_clear y_Phrase_clear ∈ AL := AL_in (List.mem_append_right _ (List.mem_of_getElem? (i := 650) (by decide +kernel))) (by decide +kernel)
theorem sv_Phrase_clear : Cond.instanceMethod y_Phrase_clear ∈ AL ∧ Cond.selects y_Phrase_clear.cls y_Phrase_clear y_Phrase_clear ∈ AL := ⟨wn_Phrase_clear, wx_Phrase_clear⟩
end
