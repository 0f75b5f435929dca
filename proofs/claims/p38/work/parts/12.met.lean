set_option maxRecDepth 16384 in
theorem rg_words : ∀ c ∈ (Cond.code x code maxLocals ret :: tables_1), c.before start1.args0 rg_s = true := by
  intro c hc
  rcases List.mem_cons.mp hc with h | h
  · rw [h]; exact rg_word_code
  · have h1 : c ∈ tables_1_1 ++ (tables_1_2 ++ (tables_1_3 ++ (tables_1_4 ++ (tables_1_5 ++ (tables_1_6 ++ (tables_1_7 ++ (tables_1_8 ++ tables_1_9))))))) := h
    rcases List.mem_append.mp h1 with h2 | h1
    · exact rg_words_1 c h2
    rcases List.mem_append.mp h1 with h2 | h1
    · exact rg_words_2 c h2
    rcases List.mem_append.mp h1 with h2 | h1
    · exact rg_words_3 c h2
    rcases List.mem_append.mp h1 with h2 | h1
    · exact rg_words_4 c h2
    rcases List.mem_append.mp h1 with h2 | h1
    · exact rg_words_5 c h2
    rcases List.mem_append.mp h1 with h2 | h1
    · exact rg_words_6 c h2
    rcases List.mem_append.mp h1 with h2 | h1
    · exact rg_words_7 c h2
    rcases List.mem_append.mp h1 with h2 | h1
    · exact rg_words_8 c h2
    exact rg_words_9 c h1
set_option maxRecDepth 16384 in
theorem rg_atStart : AtStart classFile x code maxLocals ret World_1 tables_1 room_1 Calls_1 rest_1 Pre_1 launch0 start1.p0 start1.e0 rg_s ⟨0, 0⟩ start1.args0 Lib.HandBits.below0 :=
  ⟨lists_1, trivial, launch0.admits_env _ _ _, launch0.least_env, fairChoices_fair.cas, fairChoices_fair.clock, rfl, by decide +kernel, by decide +kernel,
    (Spec.applies_iff rfl).mpr ⟨rfl, rfl, rfl, by decide +kernel, by decide +kernel, by decide +kernel, launch0.hasRoom_least _ room_1 (by decide +kernel) (by decide +kernel) (by decide +kernel) (by decide +kernel) (by decide +kernel) (by decide +kernel), atoms_intro rg_words⟩,
    trivial, (show rest_1_c.before start1.args0 rg_s = true by decide +kernel), (show (Cond.and given_1 narrow_1).before start1.args0 rg_s = true by decide +kernel)⟩
