set_option maxRecDepth 16384 in
theorem rg_code280 : (Jvm.Cond.code (⟨"HungerBooksModel", "isPlace", "(I)Z"⟩ : Jvm.MethodName) prog_14_method_86_code 1 (some .boolean)).before start1.args0 rg_s = true :=
  su_hand_word (m := ⟨9, 83⟩) (by decide +kernel) rfl (by decide +kernel) (by decide +kernel)
set_option maxRecDepth 16384 in
theorem rg_code281 : (Jvm.Cond.code (⟨"HungerBooksModel", "post", "(IIII)I"⟩ : Jvm.MethodName) prog_14_method_88_code 5 (some .int)).before start1.args0 rg_s = true :=
  su_hand_word (m := ⟨9, 85⟩) (by decide +kernel) rfl (by decide +kernel) (by decide +kernel)
set_option maxRecDepth 16384 in
theorem rg_code282 : (Jvm.Cond.code (⟨"HungerBooksModel", "way", "(IIII)I"⟩ : Jvm.MethodName) prog_14_method_90_code 10 (some .int)).before start1.args0 rg_s = true :=
  su_hand_word (m := ⟨9, 87⟩) (by decide +kernel) rfl (by decide +kernel) (by decide +kernel)
set_option maxRecDepth 16384 in
theorem rg_code283 : (Jvm.Cond.code (⟨"HungerBooksModel", "postsOn", "(III)I"⟩ : Jvm.MethodName) prog_14_method_89_code 7 (some .int)).before start1.args0 rg_s = true :=
  su_hand_word (m := ⟨9, 86⟩) (by decide +kernel) rfl (by decide +kernel) (by decide +kernel)
set_option maxRecDepth 16384 in
theorem rg_code284 : (Jvm.Cond.code (⟨"HungerBooksModel", "plan", "(IIII)I"⟩ : Jvm.MethodName) prog_14_method_95_code 10 (some .int)).before start1.args0 rg_s = true :=
  su_hand_word (m := ⟨9, 92⟩) (by decide +kernel) rfl (by decide +kernel) (by decide +kernel)
set_option maxRecDepth 16384 in
theorem rg_code285 : (Jvm.Cond.code (⟨"HungerBooksModel", "prepares", "(I)V"⟩ : Jvm.MethodName) prog_14_method_92_code 11 none).before start1.args0 rg_s = true :=
  su_hand_word (m := ⟨9, 89⟩) (by decide +kernel) rfl (by decide +kernel) (by decide +kernel)
set_option maxRecDepth 16384 in
theorem rg_code286 : (Jvm.Cond.code (⟨"HungerBooksModel", "shareOf", "(I)I"⟩ : Jvm.MethodName) prog_14_method_91_code 1 (some .int)).before start1.args0 rg_s = true :=
  su_hand_word (m := ⟨9, 88⟩) (by decide +kernel) rfl (by decide +kernel) (by decide +kernel)
set_option maxRecDepth 16384 in
theorem rg_code287 : (Jvm.Cond.code (⟨"HungerBooksModel", "missing", "(IJI)J"⟩ : Jvm.MethodName) prog_14_method_93_code 7 (some .long)).before start1.args0 rg_s = true :=
  su_hand_word (m := ⟨9, 90⟩) (by decide +kernel) rfl (by decide +kernel) (by decide +kernel)
set_option maxRecDepth 16384 in
theorem rg_code288 : (Jvm.Cond.code (⟨"HungerBooksModel", "comes", "(IIJ)Z"⟩ : Jvm.MethodName) prog_14_method_94_code 8 (some .boolean)).before start1.args0 rg_s = true :=
  su_hand_word (m := ⟨9, 91⟩) (by decide +kernel) rfl (by decide +kernel) (by decide +kernel)
set_option maxRecDepth 16384 in
theorem rg_code289 : (Jvm.Cond.code (⟨"HungerBooksModel", "judge", "(IIIII)I"⟩ : Jvm.MethodName) prog_14_method_96_code 6 (some .int)).before start1.args0 rg_s = true :=
  su_hand_word (m := ⟨9, 93⟩) (by decide +kernel) rfl (by decide +kernel) (by decide +kernel)
set_option maxRecDepth 16384 in
theorem rg_code290 : (Jvm.Cond.code (⟨"HungerBooksModel", "count", "(I)I"⟩ : Jvm.MethodName) prog_14_method_97_code 5 (some .int)).before start1.args0 rg_s = true :=
  su_hand_word (m := ⟨9, 94⟩) (by decide +kernel) rfl (by decide +kernel) (by decide +kernel)
set_option maxRecDepth 16384 in
theorem rg_codes_hold_9 : ∀ c ∈ tables_1_9.filter su_isCode, c.before start1.args0 rg_s = true := by
  rw [start1.codes_are_9]
  exact List.forall_mem_cons.mpr ⟨rg_code280, List.forall_mem_cons.mpr ⟨rg_code281, List.forall_mem_cons.mpr ⟨rg_code282, List.forall_mem_cons.mpr ⟨rg_code283, List.forall_mem_cons.mpr ⟨rg_code284, List.forall_mem_cons.mpr ⟨rg_code285, List.forall_mem_cons.mpr ⟨rg_code286, List.forall_mem_cons.mpr ⟨rg_code287, List.forall_mem_cons.mpr ⟨rg_code288, List.forall_mem_cons.mpr ⟨rg_code289, List.forall_mem_cons.mpr ⟨rg_code290, List.forall_mem_nil _⟩⟩⟩⟩⟩⟩⟩⟩⟩⟩⟩
set_option maxRecDepth 16384 in
theorem rg_others_9_0 : (tables_1_9.take 26).all (fun c => su_isCode c || c.before start1.args0 rg_s) = true := by decide +kernel
set_option maxRecDepth 16384 in
theorem rg_others_9_1 : (tables_1_9.drop 26).all (fun c => su_isCode c || c.before start1.args0 rg_s) = true := by decide +kernel
set_option maxRecDepth 16384 in
theorem rg_others_hold_9 : tables_1_9.all (fun c => su_isCode c || c.before start1.args0 rg_s) = true := start1.su_all_split _ 26 tables_1_9 rg_others_9_0 rg_others_9_1
set_option maxRecDepth 16384 in
theorem rg_words_9 : ∀ c ∈ tables_1_9, c.before start1.args0 rg_s = true := fun c h => su_words rg_others_hold_9 rg_codes_hold_9 c h
