set_option maxRecDepth 16384 in
theorem rg_hold_3_0 : ((tables_1_3).take 60).all (fun c => rg_may start1.about c || c.before start1.args0 rg_s) = true := by decide +kernel
set_option maxRecDepth 16384 in
theorem rg_hold_3_1 : (((tables_1_3).drop 60).take 60).all (fun c => rg_may start1.about c || c.before start1.args0 rg_s) = true := by decide +kernel
set_option maxRecDepth 16384 in
theorem rg_hold_3_2 : ((((tables_1_3).drop 60).drop 60).take 60).all (fun c => rg_may start1.about c || c.before start1.args0 rg_s) = true := by decide +kernel
set_option maxRecDepth 16384 in
theorem rg_hold_3_3 : ((((tables_1_3).drop 60).drop 60).drop 60).all (fun c => rg_may start1.about c || c.before start1.args0 rg_s) = true := by decide +kernel
theorem rg_words_3 : ∀ c ∈ tables_1_3, c.before start1.args0 rg_s = true := by
  intro c hc
  have q : tables_1_3.all (fun c => rg_may start1.about c || c.before start1.args0 rg_s) = true := (start1.su_all_split _ 60 (tables_1_3) rg_hold_3_0 (start1.su_all_split _ 60 ((tables_1_3).drop 60) rg_hold_3_1 (start1.su_all_split _ 60 (((tables_1_3).drop 60).drop 60) rg_hold_3_2 rg_hold_3_3)))
  have h := List.all_eq_true.mp q c hc
  rcases Bool.or_eq_true_iff.mp h with h | h
  · exact rg_carry rg_rise c h (start1.words_3 c hc)
  · exact h
