set_option maxRecDepth 16384 in
theorem rg_code183 : (Jvm.Cond.code (⟨"HungerBooks$Planner", "solve", "(II)Z"⟩ : Jvm.MethodName) prog_9_method_7_code 5 (some .boolean)).before start1.args0 rg_s = true :=
  su_hand_word (m := ⟨8, 6⟩) (by decide +kernel) rfl (by decide +kernel) (by decide +kernel)
set_option maxRecDepth 16384 in
theorem rg_code184 : (Jvm.Cond.code (⟨"HungerBooks$Planner", "spot", "(II)I"⟩ : Jvm.MethodName) prog_9_method_8_code 2 (some .int)).before start1.args0 rg_s = true :=
  su_hand_word (m := ⟨8, 7⟩) (by decide +kernel) rfl (by decide +kernel) (by decide +kernel)
set_option maxRecDepth 16384 in
theorem rg_code185 : (Jvm.Cond.code (⟨"HungerBooks$Planner", "fillLeast", "(III)V"⟩ : Jvm.MethodName) prog_9_method_9_code 9 none).before start1.args0 rg_s = true :=
  su_hand_word (m := ⟨8, 8⟩) (by decide +kernel) rfl (by decide +kernel) (by decide +kernel)
set_option maxRecDepth 16384 in
theorem rg_code186 : (Jvm.Cond.code (⟨"HungerBooks$Planner", "leastRow", "(II)I"⟩ : Jvm.MethodName) prog_9_method_10_code 8 (some .int)).before start1.args0 rg_s = true :=
  su_hand_word (m := ⟨8, 9⟩) (by decide +kernel) rfl (by decide +kernel) (by decide +kernel)
set_option maxRecDepth 16384 in
theorem rg_code187 : (Jvm.Cond.code (⟨"HungerBooks$Planner", "leastDigit", "(IIII)I"⟩ : Jvm.MethodName) prog_9_method_11_code 8 (some .int)).before start1.args0 rg_s = true :=
  su_hand_word (m := ⟨8, 10⟩) (by decide +kernel) rfl (by decide +kernel) (by decide +kernel)
set_option maxRecDepth 16384 in
theorem rg_code188 : (Jvm.Cond.code (⟨"HungerBooks$Planner", "weigh", "(II)V"⟩ : Jvm.MethodName) prog_9_method_6_code 6 none).before start1.args0 rg_s = true :=
  su_hand_word (m := ⟨8, 5⟩) (by decide +kernel) rfl (by decide +kernel) (by decide +kernel)
set_option maxRecDepth 16384 in
theorem rg_code189 : (Jvm.Cond.code (⟨"HungerBooks$Planner", "digit", "(II)I"⟩ : Jvm.MethodName) prog_9_method_5_code 3 (some .int)).before start1.args0 rg_s = true :=
  su_hand_word (m := ⟨8, 4⟩) (by decide +kernel) rfl (by decide +kernel) (by decide +kernel)
set_option maxRecDepth 16384 in
theorem rg_code190 : (Jvm.Cond.code (⟨"HungerBooks$Planner", "tell", "(II)I"⟩ : Jvm.MethodName) prog_9_method_4_code 3 (some .int)).before start1.args0 rg_s = true :=
  su_hand_word (m := ⟨8, 3⟩) (by decide +kernel) rfl (by decide +kernel) (by decide +kernel)
set_option maxRecDepth 16384 in
theorem rg_code191 : (Jvm.Cond.code (⟨"HungerBooks", "judge", "(IIIII)I"⟩ : Jvm.MethodName) prog_1_method_63_code 6 (some .int)).before start1.args0 rg_s = true :=
  su_hand_word (m := ⟨2, 62⟩) (by decide +kernel) rfl (by decide +kernel) (by decide +kernel)
set_option maxRecDepth 16384 in
theorem rg_code192 : (Jvm.Cond.code (⟨"HungerBooks", "count", "(I)I"⟩ : Jvm.MethodName) prog_1_method_66_code 2 (some .int)).before start1.args0 rg_s = true :=
  su_hand_word (m := ⟨2, 65⟩) (by decide +kernel) rfl (by decide +kernel) (by decide +kernel)
set_option maxRecDepth 16384 in
theorem rg_code193 : (Jvm.Cond.code (⟨"HungerBooks", "livingInAll", "()I"⟩ : Jvm.MethodName) prog_1_method_67_code 3 (some .int)).before start1.args0 rg_s = true :=
  su_hand_word (m := ⟨2, 66⟩) (by decide +kernel) rfl (by decide +kernel) (by decide +kernel)
set_option maxRecDepth 16384 in
theorem rg_code194 : (Jvm.Cond.code (⟨"HungerBooks", "diedInAll", "()I"⟩ : Jvm.MethodName) prog_1_method_68_code 3 (some .int)).before start1.args0 rg_s = true :=
  su_hand_word (m := ⟨2, 67⟩) (by decide +kernel) rfl (by decide +kernel) (by decide +kernel)
set_option maxRecDepth 16384 in
theorem rg_code195 : (Jvm.Cond.code (⟨"HungerBooks", "piecesInAll", "()I"⟩ : Jvm.MethodName) prog_1_method_69_code 3 (some .int)).before start1.args0 rg_s = true :=
  su_hand_word (m := ⟨2, 68⟩) (by decide +kernel) rfl (by decide +kernel) (by decide +kernel)
set_option maxRecDepth 16384 in
theorem rg_code196 : (Jvm.Cond.code (⟨"HungerBooksModel", "<init>", "()V"⟩ : Jvm.MethodName) prog_14_method_1_code 2 none).before start1.args0 rg_s = true :=
  su_hand_word (m := ⟨9, 0⟩) (by decide +kernel) rfl (by decide +kernel) (by decide +kernel)
set_option maxRecDepth 16384 in
theorem rg_codes_hold_6 : ∀ c ∈ tables_1_6.filter su_isCode, c.before start1.args0 rg_s = true := by
  rw [start1.codes_are_6]
  exact List.forall_mem_cons.mpr ⟨rg_code183, List.forall_mem_cons.mpr ⟨rg_code184, List.forall_mem_cons.mpr ⟨rg_code185, List.forall_mem_cons.mpr ⟨rg_code186, List.forall_mem_cons.mpr ⟨rg_code187, List.forall_mem_cons.mpr ⟨rg_code188, List.forall_mem_cons.mpr ⟨rg_code189, List.forall_mem_cons.mpr ⟨rg_code190, List.forall_mem_cons.mpr ⟨rg_code191, List.forall_mem_cons.mpr ⟨rg_code192, List.forall_mem_cons.mpr ⟨rg_code193, List.forall_mem_cons.mpr ⟨rg_code194, List.forall_mem_cons.mpr ⟨rg_code195, List.forall_mem_cons.mpr ⟨rg_code196, List.forall_mem_nil _⟩⟩⟩⟩⟩⟩⟩⟩⟩⟩⟩⟩⟩⟩
set_option maxRecDepth 16384 in
theorem rg_others_6_0 : (tables_1_6.take 40).all (fun c => su_isCode c || c.before start1.args0 rg_s) = true := by decide +kernel
set_option maxRecDepth 16384 in
theorem rg_others_6_1 : ((tables_1_6.drop 40).take 40).all (fun c => su_isCode c || c.before start1.args0 rg_s) = true := by decide +kernel
set_option maxRecDepth 16384 in
theorem rg_others_6_2 : (((tables_1_6.drop 40).drop 40).take 27).all (fun c => su_isCode c || c.before start1.args0 rg_s) = true := by decide +kernel
set_option maxRecDepth 16384 in
theorem rg_others_6_3 : ((((tables_1_6.drop 40).drop 40).drop 27).take 20).all (fun c => su_isCode c || c.before start1.args0 rg_s) = true := by decide +kernel
set_option maxRecDepth 16384 in
theorem rg_others_6_4 : (((((tables_1_6.drop 40).drop 40).drop 27).drop 20).take 22).all (fun c => su_isCode c || c.before start1.args0 rg_s) = true := by decide +kernel
set_option maxRecDepth 16384 in
theorem rg_others_6_5 : ((((((tables_1_6.drop 40).drop 40).drop 27).drop 20).drop 22).take 14).all (fun c => su_isCode c || c.before start1.args0 rg_s) = true := by decide +kernel
set_option maxRecDepth 16384 in
theorem rg_others_6_6 : (((((((tables_1_6.drop 40).drop 40).drop 27).drop 20).drop 22).drop 14).take 40).all (fun c => su_isCode c || c.before start1.args0 rg_s) = true := by decide +kernel
set_option maxRecDepth 16384 in
theorem rg_others_6_7 : (((((((tables_1_6.drop 40).drop 40).drop 27).drop 20).drop 22).drop 14).drop 40).all (fun c => su_isCode c || c.before start1.args0 rg_s) = true := by decide +kernel
set_option maxRecDepth 16384 in
theorem rg_others_hold_6 : tables_1_6.all (fun c => su_isCode c || c.before start1.args0 rg_s) = true := start1.su_all_split _ 40 tables_1_6 rg_others_6_0 (start1.su_all_split _ 40 (tables_1_6.drop 40) rg_others_6_1 (start1.su_all_split _ 27 ((tables_1_6.drop 40).drop 40) rg_others_6_2 (start1.su_all_split _ 20 (((tables_1_6.drop 40).drop 40).drop 27) rg_others_6_3 (start1.su_all_split _ 22 ((((tables_1_6.drop 40).drop 40).drop 27).drop 20) rg_others_6_4 (start1.su_all_split _ 14 (((((tables_1_6.drop 40).drop 40).drop 27).drop 20).drop 22) rg_others_6_5 (start1.su_all_split _ 40 ((((((tables_1_6.drop 40).drop 40).drop 27).drop 20).drop 22).drop 14) rg_others_6_6 rg_others_6_7))))))
set_option maxRecDepth 16384 in
theorem rg_words_6 : ∀ c ∈ tables_1_6, c.before start1.args0 rg_s = true := fun c h => su_words rg_others_hold_6 rg_codes_hold_6 c h
