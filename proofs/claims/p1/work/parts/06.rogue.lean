set_option maxRecDepth 16384 in
theorem rg_others_4_6 : ((((((tables_1_4.drop 40).drop 40).drop 40).drop 40).drop 40).drop 36).all (fun c => su_isCode c || c.before start1.args0 rg_s) = true := by decide +kernel
set_option maxRecDepth 16384 in
theorem rg_others_hold_4 : tables_1_4.all (fun c => su_isCode c || c.before start1.args0 rg_s) = true := start1.su_all_split _ 40 tables_1_4 rg_others_4_0 (start1.su_all_split _ 40 (tables_1_4.drop 40) rg_others_4_1 (start1.su_all_split _ 40 ((tables_1_4.drop 40).drop 40) rg_others_4_2 (start1.su_all_split _ 40 (((tables_1_4.drop 40).drop 40).drop 40) rg_others_4_3 (start1.su_all_split _ 40 ((((tables_1_4.drop 40).drop 40).drop 40).drop 40) rg_others_4_4 (start1.su_all_split _ 36 (((((tables_1_4.drop 40).drop 40).drop 40).drop 40).drop 40) rg_others_4_5 rg_others_4_6)))))
set_option maxRecDepth 16384 in
theorem rg_words_4 : ∀ c ∈ tables_1_4, c.before start1.args0 rg_s = true := fun c h => su_words rg_others_hold_4 rg_codes_hold_4 c h
