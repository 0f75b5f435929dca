set_option maxRecDepth 16384 in
theorem rg_code81 : (Jvm.Cond.code (⟨"HungerBooks$Reader", "braced", "(I)Z"⟩ : Jvm.MethodName) prog_10_method_13_code 2 (some .boolean)).before start1.args0 rg_s = true :=
  su_hand_word (m := ⟨3, 12⟩) (by decide +kernel) rfl (by decide +kernel) (by decide +kernel)
set_option maxRecDepth 16384 in
theorem rg_code82 : (Jvm.Cond.code (⟨"HungerBooks$Statement", "<init>", "(IIIII)V"⟩ : Jvm.MethodName) prog_12_method_1_code 6 none).before start1.args0 rg_s = true :=
  su_hand_word (m := ⟨18, 0⟩) (by decide +kernel) rfl (by decide +kernel) (by decide +kernel)
set_option maxRecDepth 16384 in
theorem rg_code83 : (Jvm.Cond.code (⟨"HungerBooks$Reader", "draft", "(LHungerBooks$Statement;)V"⟩ : Jvm.MethodName) prog_10_method_17_code 2 none).before start1.args0 rg_s = true :=
  su_hand_word (m := ⟨3, 16⟩) (by decide +kernel) rfl (by decide +kernel) (by decide +kernel)
set_option maxRecDepth 16384 in
theorem rg_code84 : (Jvm.Cond.code (⟨"HungerBooks$Reader", "settingRule", "(I)Z"⟩ : Jvm.MethodName) prog_10_method_5_code 2 (some .boolean)).before start1.args0 rg_s = true :=
  su_hand_word (m := ⟨3, 4⟩) (by decide +kernel) rfl (by decide +kernel) (by decide +kernel)
set_option maxRecDepth 16384 in
theorem rg_code85 : (Jvm.Cond.code (⟨"HungerBooks$Orders", "<init>", "(LHungerBooks$Reader;II)V"⟩ : Jvm.MethodName) prog_8_method_1_code 5 none).before start1.args0 rg_s = true :=
  su_hand_word (m := ⟨19, 0⟩) (by decide +kernel) rfl (by decide +kernel) (by decide +kernel)
set_option maxRecDepth 16384 in
theorem rg_code86 : (Jvm.Cond.code (⟨"java/util/Arrays", "copyOf", "([II)[I"⟩ : Jvm.MethodName) prog_22_method_123_code 3 (some (.array .int))).before start1.args0 rg_s = true :=
  su_hand_word (m := ⟨20, 2⟩) (by decide +kernel) rfl (by decide +kernel) (by decide +kernel)
set_option maxRecDepth 16384 in
theorem rg_codes_hold_3 : ∀ c ∈ tables_1_3.filter su_isCode, c.before start1.args0 rg_s = true := by
  rw [start1.codes_are_3]
  exact List.forall_mem_cons.mpr ⟨rg_code36, List.forall_mem_cons.mpr ⟨rg_code37, List.forall_mem_cons.mpr ⟨rg_code38, List.forall_mem_cons.mpr ⟨rg_code39, List.forall_mem_cons.mpr ⟨rg_code40, List.forall_mem_cons.mpr ⟨rg_code41, List.forall_mem_cons.mpr ⟨rg_code42, List.forall_mem_cons.mpr ⟨rg_code43, List.forall_mem_cons.mpr ⟨rg_code44, List.forall_mem_cons.mpr ⟨rg_code45, List.forall_mem_cons.mpr ⟨rg_code46, List.forall_mem_cons.mpr ⟨rg_code47, List.forall_mem_cons.mpr ⟨rg_code48, List.forall_mem_cons.mpr ⟨rg_code49, List.forall_mem_cons.mpr ⟨rg_code50, List.forall_mem_cons.mpr ⟨rg_code51, List.forall_mem_cons.mpr ⟨rg_code52, List.forall_mem_cons.mpr ⟨rg_code53, List.forall_mem_cons.mpr ⟨rg_code54, List.forall_mem_cons.mpr ⟨rg_code55, List.forall_mem_cons.mpr ⟨rg_code56, List.forall_mem_cons.mpr ⟨rg_code57, List.forall_mem_cons.mpr ⟨rg_code58, List.forall_mem_cons.mpr ⟨rg_code59, List.forall_mem_cons.mpr ⟨rg_code60, List.forall_mem_cons.mpr ⟨rg_code61, List.forall_mem_cons.mpr ⟨rg_code62, List.forall_mem_cons.mpr ⟨rg_code63, List.forall_mem_cons.mpr ⟨rg_code64, List.forall_mem_cons.mpr ⟨rg_code65, List.forall_mem_cons.mpr ⟨rg_code66, List.forall_mem_cons.mpr ⟨rg_code67, List.forall_mem_cons.mpr ⟨rg_code68, List.forall_mem_cons.mpr ⟨rg_code69, List.forall_mem_cons.mpr ⟨rg_code70, List.forall_mem_cons.mpr ⟨rg_code71, List.forall_mem_cons.mpr ⟨rg_code72, List.forall_mem_cons.mpr ⟨rg_code73, List.forall_mem_cons.mpr ⟨rg_code74, List.forall_mem_cons.mpr ⟨rg_code75, List.forall_mem_cons.mpr ⟨rg_code76, List.forall_mem_cons.mpr ⟨rg_code77, List.forall_mem_cons.mpr ⟨rg_code78, List.forall_mem_cons.mpr ⟨rg_code79, List.forall_mem_cons.mpr ⟨rg_code80, List.forall_mem_cons.mpr ⟨rg_code81, List.forall_mem_cons.mpr ⟨rg_code82, List.forall_mem_cons.mpr ⟨rg_code83, List.forall_mem_cons.mpr ⟨rg_code84, List.forall_mem_cons.mpr ⟨rg_code85, List.forall_mem_cons.mpr ⟨rg_code86, List.forall_mem_nil _⟩⟩⟩⟩⟩⟩⟩⟩⟩⟩⟩⟩⟩⟩⟩⟩⟩⟩⟩⟩⟩⟩⟩⟩⟩⟩⟩⟩⟩⟩⟩⟩⟩⟩⟩⟩⟩⟩⟩⟩⟩⟩⟩⟩⟩⟩⟩⟩⟩⟩⟩
set_option maxRecDepth 16384 in
theorem rg_others_3_0 : (tables_1_3.take 19).all (fun c => su_isCode c || c.before start1.args0 rg_s) = true := by decide +kernel
set_option maxRecDepth 16384 in
theorem rg_others_3_1 : ((tables_1_3.drop 19).take 18).all (fun c => su_isCode c || c.before start1.args0 rg_s) = true := by decide +kernel
set_option maxRecDepth 16384 in
theorem rg_others_3_2 : (((tables_1_3.drop 19).drop 18).take 27).all (fun c => su_isCode c || c.before start1.args0 rg_s) = true := by decide +kernel
set_option maxRecDepth 16384 in
theorem rg_others_3_3 : ((((tables_1_3.drop 19).drop 18).drop 27).take 15).all (fun c => su_isCode c || c.before start1.args0 rg_s) = true := by decide +kernel
set_option maxRecDepth 16384 in
theorem rg_others_3_4 : (((((tables_1_3.drop 19).drop 18).drop 27).drop 15).take 22).all (fun c => su_isCode c || c.before start1.args0 rg_s) = true := by decide +kernel
set_option maxRecDepth 16384 in
theorem rg_others_3_5 : ((((((tables_1_3.drop 19).drop 18).drop 27).drop 15).drop 22).take 40).all (fun c => su_isCode c || c.before start1.args0 rg_s) = true := by decide +kernel
set_option maxRecDepth 16384 in
theorem rg_others_3_6 : (((((((tables_1_3.drop 19).drop 18).drop 27).drop 15).drop 22).drop 40).take 40).all (fun c => su_isCode c || c.before start1.args0 rg_s) = true := by decide +kernel
set_option maxRecDepth 16384 in
theorem rg_others_3_7 : ((((((((tables_1_3.drop 19).drop 18).drop 27).drop 15).drop 22).drop 40).drop 40).take 40).all (fun c => su_isCode c || c.before start1.args0 rg_s) = true := by decide +kernel
set_option maxRecDepth 16384 in
theorem rg_others_3_8 : ((((((((tables_1_3.drop 19).drop 18).drop 27).drop 15).drop 22).drop 40).drop 40).drop 40).all (fun c => su_isCode c || c.before start1.args0 rg_s) = true := by decide +kernel
set_option maxRecDepth 16384 in
theorem rg_others_hold_3 : tables_1_3.all (fun c => su_isCode c || c.before start1.args0 rg_s) = true := start1.su_all_split _ 19 tables_1_3 rg_others_3_0 (start1.su_all_split _ 18 (tables_1_3.drop 19) rg_others_3_1 (start1.su_all_split _ 27 ((tables_1_3.drop 19).drop 18) rg_others_3_2 (start1.su_all_split _ 15 (((tables_1_3.drop 19).drop 18).drop 27) rg_others_3_3 (start1.su_all_split _ 22 ((((tables_1_3.drop 19).drop 18).drop 27).drop 15) rg_others_3_4 (start1.su_all_split _ 40 (((((tables_1_3.drop 19).drop 18).drop 27).drop 15).drop 22) rg_others_3_5 (start1.su_all_split _ 40 ((((((tables_1_3.drop 19).drop 18).drop 27).drop 15).drop 22).drop 40) rg_others_3_6 (start1.su_all_split _ 40 (((((((tables_1_3.drop 19).drop 18).drop 27).drop 15).drop 22).drop 40).drop 40) rg_others_3_7 rg_others_3_8)))))))
set_option maxRecDepth 16384 in
theorem rg_words_3 : ∀ c ∈ tables_1_3, c.before start1.args0 rg_s = true := fun c h => su_words rg_others_hold_3 rg_codes_hold_3 c h
