set_option maxRecDepth 16384 in
theorem rg_hold_9_0 : (tables_1_9).all (fun c => rg_may start1.about c || c.before start1.args0 rg_s) = true := by decide +kernel
theorem rg_words_9 : ∀ c ∈ tables_1_9, c.before start1.args0 rg_s = true := by
  intro c hc
  have q : tables_1_9.all (fun c => rg_may start1.about c || c.before start1.args0 rg_s) = true := rg_hold_9_0
  have h := List.all_eq_true.mp q c hc
  rcases Bool.or_eq_true_iff.mp h with h | h
  · exact rg_carry rg_rise c h (start1.words_9 c hc)
  · exact h
