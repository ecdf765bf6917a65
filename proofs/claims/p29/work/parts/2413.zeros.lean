set_option maxRecDepth 16384 in
theorem rz1.others_3_2 : ((tables_1_3.drop 40).drop 40).all (fun c => rs_isCode c || c.before args0 about) = true := by decide +kernel
set_option maxRecDepth 16384 in
theorem rz1.others_hold_3 : tables_1_3.all (fun c => rs_isCode c || c.before args0 about) = true := rs_all_split _ 40 tables_1_3 others_3_0 (rs_all_split _ 40 (tables_1_3.drop 40) others_3_1 others_3_2)
set_option maxRecDepth 16384 in
theorem rz1.words_3 : ∀ c ∈ tables_1_3, c.before args0 about = true := fun c h => rs_words others_hold_3 codes_hold_3 c h
set_option maxRecDepth 16384 in
theorem rz1.words : ∀ c ∈ (Cond.code x code maxLocals ret :: tables_1), c.before args0 about = true := by
  intro c hc
  rcases List.mem_cons.mp hc with h | h
  · rw [h]; exact word_code
  · have h1 : c ∈ tables_1_1 ++ (tables_1_2 ++ tables_1_3) := h
    rcases List.mem_append.mp h1 with h2 | h1
    · exact words_1 c h2
    rcases List.mem_append.mp h1 with h2 | h1
    · exact words_2 c h2
    exact words_3 c h1
set_option maxRecDepth 16384 in
theorem rz1.atStart : AtStart classFile x code maxLocals ret World_1 tables_1 room_1 Calls_1 rest_1 Pre_1 launch0 p0 e0 about ⟨0, 0⟩ args0 Lib.HandBits.below0 :=
  ⟨rz_lists_1, trivial, launch0.admits_env _ _ _, launch0.least_env, fairChoices_fair.cas, fairChoices_fair.clock, rfl, by decide +kernel, by decide +kernel,
    (Spec.applies_iff rfl).mpr ⟨rfl, rfl, rfl, by decide +kernel, by decide +kernel, by decide +kernel, launch0.hasRoom_least _ room_1 (by decide +kernel) (by decide +kernel) (by decide +kernel) (by decide +kernel) (by decide +kernel) (by decide +kernel), atoms_intro words⟩,
    trivial, (show rest_1_c.before args0 about = true by decide +kernel), (show (Cond.and given_1 narrow_1).before args0 about = true by decide +kernel)⟩
