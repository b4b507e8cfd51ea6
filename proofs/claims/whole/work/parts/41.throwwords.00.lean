theorem wq_S_190 : Cond.classLink "SuggestDesk" 190 "java/lang/IndexOutOfBoundsException" ∈ AL := AL_in (List.mem_append_right _ (List.mem_of_getElem? (i := 578) (by decide +kernel))) (by decide +kernel)
theorem wi_X4 : Cond.initialized "java/lang/IndexOutOfBoundsException" ∈ AL := AL_in (List.mem_append_right _ (List.mem_of_getElem? (i := 18) (by decide +kernel))) (by decide +kernel)
theorem wq_S_68 : Cond.classLink "SuggestDesk" 68 "java/lang/IllegalArgumentException" ∈ AL := AL_in (List.mem_append_right _ (List.mem_of_getElem? (i := 244) (by decide +kernel))) (by decide +kernel)
theorem wi_X1 : Cond.initialized "java/lang/IllegalArgumentException" ∈ AL := AL_in (List.mem_append_right _ (List.mem_of_getElem? (i := 14) (by decide +kernel))) (by decide +kernel)
theorem wq_S_85 : Cond.classLink "SuggestDesk" 85 "java/lang/IllegalStateException" ∈ AL := AL_in (List.mem_append_right _ (List.mem_of_getElem? (i := 318) (by decide +kernel))) (by decide +kernel)
theorem wi_X2 : Cond.initialized "java/lang/IllegalStateException" ∈ AL := AL_in (List.mem_append_right _ (List.mem_of_getElem? (i := 15) (by decide +kernel))) (by decide +kernel)
theorem wq_S_145 : Cond.classLink "SuggestDesk" 145 "java/util/NoSuchElementException" ∈ AL := AL_in (List.mem_append_right _ (List.mem_of_getElem? (i := 476) (by decide +kernel))) (by decide +kernel)
theorem wi_X3 : Cond.initialized "java/util/NoSuchElementException" ∈ AL := AL_in (List.mem_append_right _ (List.mem_of_getElem? (i := 17) (by decide +kernel))) (by decide +kernel)
theorem xt_1 : (Bundle.ownAtoms "SuggestDesk" 72 (EXn 1) XN).all (fun w => !goodWord w || decide (w ∈ lw_tbl)) = true := by decide +kernel
theorem xa_1 : ∀ w ∈ Bundle.ownAtoms "SuggestDesk" 72 (EXn 1) XN, w ∈ AL ∨ w ∈ XW := fun w hw => by
  by_cases hg : goodWord w = true
  · have h := List.all_eq_true.mp xt_1 w hw
    rw [hg] at h
    exact Or.inl (AL_in (by simpa using h) hg)
  · exact Or.inr (List.mem_filter.mpr ⟨by simp only [XI, List.mem_append]; simp [hw], by simpa using hg⟩)
theorem xt_2 : (Bundle.ownAtoms "SuggestDesk" 89 (EXn 2) XN).all (fun w => !goodWord w || decide (w ∈ lw_tbl)) = true := by decide +kernel
theorem xa_2 : ∀ w ∈ Bundle.ownAtoms "SuggestDesk" 89 (EXn 2) XN, w ∈ AL ∨ w ∈ XW := fun w hw => by
  by_cases hg : goodWord w = true
  · have h := List.all_eq_true.mp xt_2 w hw
    rw [hg] at h
    exact Or.inl (AL_in (by simpa using h) hg)
  · exact Or.inr (List.mem_filter.mpr ⟨by simp only [XI, List.mem_append]; simp [hw], by simpa using hg⟩)
theorem xt_3 : (NA "SuggestDesk" 149).all (fun w => !goodWord w || decide (w ∈ lw_tbl)) = true := by decide +kernel
theorem xa_3 : ∀ w ∈ NA "SuggestDesk" 149, w ∈ AL ∨ w ∈ XW := fun w hw => by
  by_cases hg : goodWord w = true
  · have h := List.all_eq_true.mp xt_3 w hw
    rw [hg] at h
    exact Or.inl (AL_in (by simpa using h) hg)
  · exact Or.inr (List.mem_filter.mpr ⟨by simp only [XI, List.mem_append]; simp [hw], by simpa using hg⟩)
theorem xt_4 : (Bundle.ownAtoms "SuggestDesk" 194 (EXn 4) XN).all (fun w => !goodWord w || decide (w ∈ lw_tbl)) = true := by decide +kernel
theorem xa_4 : ∀ w ∈ Bundle.ownAtoms "SuggestDesk" 194 (EXn 4) XN, w ∈ AL ∨ w ∈ XW := fun w hw => by
  by_cases hg : goodWord w = true
  · have h := List.all_eq_true.mp xt_4 w hw
    rw [hg] at h
    exact Or.inl (AL_in (by simpa using h) hg)
  · exact Or.inr (List.mem_filter.mpr ⟨by simp only [XI, List.mem_append]; simp [hw], by simpa using hg⟩)
theorem th_4_192 : Th "SuggestDesk" 4 190 192 194 "no such word was given" := ⟨⟨rfl, by decide +kernel, by decide +kernel⟩, wq_S_190, wi_X4, Or.inl xa_4⟩
theorem th_4_226 : Th "SuggestDesk" 4 190 226 194 "no such word was corrected" := ⟨⟨rfl, by decide +kernel, by decide +kernel⟩, wq_S_190, wi_X4, Or.inl xa_4⟩
theorem th_1_177 : Th "SuggestDesk" 1 68 177 72 "no such number of words" := ⟨⟨rfl, by decide +kernel, by decide +kernel⟩, wq_S_68, wi_X1, Or.inl xa_1⟩
theorem th_1_75 : Th "SuggestDesk" 1 68 75 72 "no weight" := ⟨⟨rfl, by decide +kernel, by decide +kernel⟩, wq_S_68, wi_X1, Or.inl xa_1⟩
theorem th_2_87 : Th "SuggestDesk" 2 85 87 89 "the draft is full" := ⟨⟨rfl, by decide +kernel, by decide +kernel⟩, wq_S_85, wi_X2, Or.inl xa_2⟩
theorem th_1_70 : Th "SuggestDesk" 1 68 70 72 "no word" := ⟨⟨rfl, by decide +kernel, by decide +kernel⟩, wq_S_68, wi_X1, Or.inl xa_1⟩
theorem th_2_128 : Th "SuggestDesk" 2 85 128 89 "too many readers" := ⟨⟨rfl, by decide +kernel, by decide +kernel⟩, wq_S_85, wi_X2, Or.inl xa_2⟩
theorem th_2_123 : Th "SuggestDesk" 2 85 123 89 "no dictionary yet" := ⟨⟨rfl, by decide +kernel, by decide +kernel⟩, wq_S_85, wi_X2, Or.inl xa_2⟩
theorem th_1_133 : Th "SuggestDesk" 1 68 133 72 "no reader holds it" := ⟨⟨rfl, by decide +kernel, by decide +kernel⟩, wq_S_68, wi_X1, Or.inl xa_1⟩
theorem th_1_156 : Th "SuggestDesk" 1 68 156 72 "no such what" := ⟨⟨rfl, by decide +kernel, by decide +kernel⟩, wq_S_68, wi_X1, Or.inl xa_1⟩
theorem th_3_147 : Th "SuggestDesk" 3 145 147 149 "no such dictionary" := ⟨⟨rfl, by decide +kernel, by decide +kernel⟩, wq_S_145, wi_X3, Or.inr ⟨rfl, xa_3⟩⟩
theorem th_3_162 : Th "SuggestDesk" 3 145 162 149 "the dictionary has not the word" := ⟨⟨rfl, by decide +kernel, by decide +kernel⟩, wq_S_145, wi_X3, Or.inr ⟨rfl, xa_3⟩⟩
theorem th_1_184 : Th "SuggestDesk" 1 68 184 72 "no such distance" := ⟨⟨rfl, by decide +kernel, by decide +kernel⟩, wq_S_68, wi_X1, Or.inl xa_1⟩
theorem th_2_209 : Th "SuggestDesk" 2 85 209 89 "too many pairs" := ⟨⟨rfl, by decide +kernel, by decide +kernel⟩, wq_S_85, wi_X2, Or.inl xa_2⟩
theorem th_2_213 : Th "SuggestDesk" 2 85 213 89 "the phrase is full" := ⟨⟨rfl, by decide +kernel, by decide +kernel⟩, wq_S_85, wi_X2, Or.inl xa_2⟩
theorem th_1_175 : Th "SuggestDesk" 1 68 175 72 "no beginning" := ⟨⟨rfl, by decide +kernel, by decide +kernel⟩, wq_S_68, wi_X1, Or.inl xa_1⟩
theorem th_2_103 : Th "SuggestDesk" 2 85 103 89 "every dictionary is held" := ⟨⟨rfl, by decide +kernel, by decide +kernel⟩, wq_S_85, wi_X2, Or.inl xa_2⟩
theorem th_2_97 : Th "SuggestDesk" 2 85 97 89 "the draft is empty" := ⟨⟨rfl, by decide +kernel, by decide +kernel⟩, wq_S_85, wi_X2, Or.inl xa_2⟩
theorem th_2_217 : Th "SuggestDesk" 2 85 217 89 "the phrase is empty" := ⟨⟨rfl, by decide +kernel, by decide +kernel⟩, wq_S_85, wi_X2, Or.inl xa_2⟩

