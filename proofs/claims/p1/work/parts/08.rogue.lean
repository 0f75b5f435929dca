set_option maxRecDepth 16384 in
theorem rg_code170 : (Jvm.Cond.code (⟨"HungerBooks", "post", "(IIII)I"⟩ : Jvm.MethodName) prog_1_method_60_code 6 (some .int)).before start1.args0 rg_s = true :=
  su_hand_word (m := ⟨2, 59⟩) (by decide +kernel) rfl (by decide +kernel) (by decide +kernel)
set_option maxRecDepth 16384 in
theorem rg_code171 : (Jvm.Cond.code (⟨"HungerBooks$Roads", "setPost", "(IIII)I"⟩ : Jvm.MethodName) prog_11_method_3_code 5 (some .int)).before start1.args0 rg_s = true :=
  su_hand_word (m := ⟨7, 2⟩) (by decide +kernel) rfl (by decide +kernel) (by decide +kernel)
set_option maxRecDepth 16384 in
theorem rg_code172 : (Jvm.Cond.code (⟨"HungerBooks", "way", "(IIII)I"⟩ : Jvm.MethodName) prog_1_method_61_code 5 (some .int)).before start1.args0 rg_s = true :=
  su_hand_word (m := ⟨2, 60⟩) (by decide +kernel) rfl (by decide +kernel) (by decide +kernel)
set_option maxRecDepth 16384 in
theorem rg_code173 : (Jvm.Cond.code (⟨"HungerBooks$Roads", "shortest", "(IIII)I"⟩ : Jvm.MethodName) prog_11_method_4_code 6 (some .int)).before start1.args0 rg_s = true :=
  su_hand_word (m := ⟨7, 3⟩) (by decide +kernel) rfl (by decide +kernel) (by decide +kernel)
set_option maxRecDepth 16384 in
theorem rg_code174 : (Jvm.Cond.code (⟨"HungerBooks$Roads", "weighRoads", "(I)V"⟩ : Jvm.MethodName) prog_11_method_5_code 5 none).before start1.args0 rg_s = true :=
  su_hand_word (m := ⟨7, 4⟩) (by decide +kernel) rfl (by decide +kernel) (by decide +kernel)
set_option maxRecDepth 16384 in
theorem rg_code175 : (Jvm.Cond.code (⟨"java/util/Arrays", "fill", "([II)V"⟩ : Jvm.MethodName) prog_22_method_103_code 4 none).before start1.args0 rg_s = true :=
  su_hand_word (m := ⟨20, 1⟩) (by decide +kernel) rfl (by decide +kernel) (by decide +kernel)
set_option maxRecDepth 16384 in
theorem rg_code176 : (Jvm.Cond.code (⟨"HungerBooks$Roads", "settleNearest", "()V"⟩ : Jvm.MethodName) prog_11_method_6_code 4 none).before start1.args0 rg_s = true :=
  su_hand_word (m := ⟨7, 5⟩) (by decide +kernel) rfl (by decide +kernel) (by decide +kernel)
set_option maxRecDepth 16384 in
theorem rg_code177 : (Jvm.Cond.code (⟨"HungerBooks", "plan", "(IIII)I"⟩ : Jvm.MethodName) prog_1_method_62_code 6 (some .int)).before start1.args0 rg_s = true :=
  su_hand_word (m := ⟨2, 61⟩) (by decide +kernel) rfl (by decide +kernel) (by decide +kernel)
set_option maxRecDepth 16384 in
theorem rg_code178 : (Jvm.Cond.code (⟨"HungerBooks", "isPlan", "(III)Z"⟩ : Jvm.MethodName) prog_1_method_64_code 4 (some .boolean)).before start1.args0 rg_s = true :=
  su_hand_word (m := ⟨2, 63⟩) (by decide +kernel) rfl (by decide +kernel) (by decide +kernel)
set_option maxRecDepth 16384 in
theorem rg_code179 : (Jvm.Cond.code (⟨"HungerBooks", "preparePlan", "(I)V"⟩ : Jvm.MethodName) prog_1_method_65_code 7 none).before start1.args0 rg_s = true :=
  su_hand_word (m := ⟨2, 64⟩) (by decide +kernel) rfl (by decide +kernel) (by decide +kernel)
set_option maxRecDepth 16384 in
theorem rg_code180 : (Jvm.Cond.code (⟨"HungerBooks$Planner", "clear", "()V"⟩ : Jvm.MethodName) prog_9_method_2_code 1 none).before start1.args0 rg_s = true :=
  su_hand_word (m := ⟨8, 1⟩) (by decide +kernel) rfl (by decide +kernel) (by decide +kernel)
set_option maxRecDepth 16384 in
theorem rg_code181 : (Jvm.Cond.code (⟨"java/util/Arrays", "fill", "([JJ)V"⟩ : Jvm.MethodName) prog_22_method_101_code 5 none).before start1.args0 rg_s = true :=
  su_hand_word (m := ⟨20, 0⟩) (by decide +kernel) rfl (by decide +kernel) (by decide +kernel)
set_option maxRecDepth 16384 in
theorem rg_code182 : (Jvm.Cond.code (⟨"HungerBooks$Planner", "add", "(IIJ)V"⟩ : Jvm.MethodName) prog_9_method_3_code 10 none).before start1.args0 rg_s = true :=
  su_hand_word (m := ⟨8, 2⟩) (by decide +kernel) rfl (by decide +kernel) (by decide +kernel)
set_option maxRecDepth 16384 in
theorem rg_codes_hold_5 : ∀ c ∈ tables_1_5.filter su_isCode, c.before start1.args0 rg_s = true := by
  rw [start1.codes_are_5]
  exact List.forall_mem_cons.mpr ⟨rg_code125, List.forall_mem_cons.mpr ⟨rg_code126, List.forall_mem_cons.mpr ⟨rg_code127, List.forall_mem_cons.mpr ⟨rg_code128, List.forall_mem_cons.mpr ⟨rg_code129, List.forall_mem_cons.mpr ⟨rg_code130, List.forall_mem_cons.mpr ⟨rg_code131, List.forall_mem_cons.mpr ⟨rg_code132, List.forall_mem_cons.mpr ⟨rg_code133, List.forall_mem_cons.mpr ⟨rg_code134, List.forall_mem_cons.mpr ⟨rg_code135, List.forall_mem_cons.mpr ⟨rg_code136, List.forall_mem_cons.mpr ⟨rg_code137, List.forall_mem_cons.mpr ⟨rg_code138, List.forall_mem_cons.mpr ⟨rg_code139, List.forall_mem_cons.mpr ⟨rg_code140, List.forall_mem_cons.mpr ⟨rg_code141, List.forall_mem_cons.mpr ⟨rg_code142, List.forall_mem_cons.mpr ⟨rg_code143, List.forall_mem_cons.mpr ⟨rg_code144, List.forall_mem_cons.mpr ⟨rg_code145, List.forall_mem_cons.mpr ⟨rg_code146, List.forall_mem_cons.mpr ⟨rg_code147, List.forall_mem_cons.mpr ⟨rg_code148, List.forall_mem_cons.mpr ⟨rg_code149, List.forall_mem_cons.mpr ⟨rg_code150, List.forall_mem_cons.mpr ⟨rg_code151, List.forall_mem_cons.mpr ⟨rg_code152, List.forall_mem_cons.mpr ⟨rg_code153, List.forall_mem_cons.mpr ⟨rg_code154, List.forall_mem_cons.mpr ⟨rg_code155, List.forall_mem_cons.mpr ⟨rg_code156, List.forall_mem_cons.mpr ⟨rg_code157, List.forall_mem_cons.mpr ⟨rg_code158, List.forall_mem_cons.mpr ⟨rg_code159, List.forall_mem_cons.mpr ⟨rg_code160, List.forall_mem_cons.mpr ⟨rg_code161, List.forall_mem_cons.mpr ⟨rg_code162, List.forall_mem_cons.mpr ⟨rg_code163, List.forall_mem_cons.mpr ⟨rg_code164, List.forall_mem_cons.mpr ⟨rg_code165, List.forall_mem_cons.mpr ⟨rg_code166, List.forall_mem_cons.mpr ⟨rg_code167, List.forall_mem_cons.mpr ⟨rg_code168, List.forall_mem_cons.mpr ⟨rg_code169, List.forall_mem_cons.mpr ⟨rg_code170, List.forall_mem_cons.mpr ⟨rg_code171, List.forall_mem_cons.mpr ⟨rg_code172, List.forall_mem_cons.mpr ⟨rg_code173, List.forall_mem_cons.mpr ⟨rg_code174, List.forall_mem_cons.mpr ⟨rg_code175, List.forall_mem_cons.mpr ⟨rg_code176, List.forall_mem_cons.mpr ⟨rg_code177, List.forall_mem_cons.mpr ⟨rg_code178, List.forall_mem_cons.mpr ⟨rg_code179, List.forall_mem_cons.mpr ⟨rg_code180, List.forall_mem_cons.mpr ⟨rg_code181, List.forall_mem_cons.mpr ⟨rg_code182, List.forall_mem_nil _⟩⟩⟩⟩⟩⟩⟩⟩⟩⟩⟩⟩⟩⟩⟩⟩⟩⟩⟩⟩⟩⟩⟩⟩⟩⟩⟩⟩⟩⟩⟩⟩⟩⟩⟩⟩⟩⟩⟩⟩⟩⟩⟩⟩⟩⟩⟩⟩⟩⟩⟩⟩⟩⟩⟩⟩⟩⟩
set_option maxRecDepth 16384 in
theorem rg_others_5_0 : (tables_1_5.take 37).all (fun c => su_isCode c || c.before start1.args0 rg_s) = true := by decide +kernel
set_option maxRecDepth 16384 in
theorem rg_others_5_1 : ((tables_1_5.drop 37).take 40).all (fun c => su_isCode c || c.before start1.args0 rg_s) = true := by decide +kernel
set_option maxRecDepth 16384 in
theorem rg_others_5_2 : (((tables_1_5.drop 37).drop 40).take 40).all (fun c => su_isCode c || c.before start1.args0 rg_s) = true := by decide +kernel
set_option maxRecDepth 16384 in
theorem rg_others_5_3 : ((((tables_1_5.drop 37).drop 40).drop 40).take 39).all (fun c => su_isCode c || c.before start1.args0 rg_s) = true := by decide +kernel
set_option maxRecDepth 16384 in
theorem rg_others_5_4 : (((((tables_1_5.drop 37).drop 40).drop 40).drop 39).take 40).all (fun c => su_isCode c || c.before start1.args0 rg_s) = true := by decide +kernel
set_option maxRecDepth 16384 in
theorem rg_others_5_5 : ((((((tables_1_5.drop 37).drop 40).drop 40).drop 39).drop 40).take 36).all (fun c => su_isCode c || c.before start1.args0 rg_s) = true := by decide +kernel
set_option maxRecDepth 16384 in
theorem rg_others_5_6 : ((((((tables_1_5.drop 37).drop 40).drop 40).drop 39).drop 40).drop 36).all (fun c => su_isCode c || c.before start1.args0 rg_s) = true := by decide +kernel
set_option maxRecDepth 16384 in
theorem rg_others_hold_5 : tables_1_5.all (fun c => su_isCode c || c.before start1.args0 rg_s) = true := start1.su_all_split _ 37 tables_1_5 rg_others_5_0 (start1.su_all_split _ 40 (tables_1_5.drop 37) rg_others_5_1 (start1.su_all_split _ 40 ((tables_1_5.drop 37).drop 40) rg_others_5_2 (start1.su_all_split _ 39 (((tables_1_5.drop 37).drop 40).drop 40) rg_others_5_3 (start1.su_all_split _ 40 ((((tables_1_5.drop 37).drop 40).drop 40).drop 39) rg_others_5_4 (start1.su_all_split _ 36 (((((tables_1_5.drop 37).drop 40).drop 40).drop 39).drop 40) rg_others_5_5 rg_others_5_6)))))
set_option maxRecDepth 16384 in
theorem rg_words_5 : ∀ c ∈ tables_1_5, c.before start1.args0 rg_s = true := fun c h => su_words rg_others_hold_5 rg_codes_hold_5 c h
