set_option maxRecDepth 16384 in
theorem rg_code197 : (Jvm.Cond.code (⟨"HungerBooksModel", "good", "(III)Z"⟩ : Jvm.MethodName) prog_14_method_11_code 4 (some .boolean)).before start1.args0 rg_s = true :=
  su_hand_word (m := ⟨9, 9⟩) (by decide +kernel) rfl (by decide +kernel) (by decide +kernel)
set_option maxRecDepth 16384 in
theorem rg_code198 : (Jvm.Cond.code (⟨"HungerBooksModel", "isGood", "(I)Z"⟩ : Jvm.MethodName) prog_14_method_8_code 1 (some .boolean)).before start1.args0 rg_s = true :=
  su_hand_word (m := ⟨9, 6⟩) (by decide +kernel) rfl (by decide +kernel) (by decide +kernel)
set_option maxRecDepth 16384 in
theorem rg_code199 : (Jvm.Cond.code (⟨"HungerBooksModel", "within", "(III)Z"⟩ : Jvm.MethodName) prog_14_method_3_code 3 (some .boolean)).before start1.args0 rg_s = true :=
  su_hand_word (m := ⟨9, 1⟩) (by decide +kernel) rfl (by decide +kernel) (by decide +kernel)
set_option maxRecDepth 16384 in
theorem rg_code200 : (Jvm.Cond.code (⟨"HungerBooksModel", "house", "(IIIII)I"⟩ : Jvm.MethodName) prog_14_method_12_code 6 (some .int)).before start1.args0 rg_s = true :=
  su_hand_word (m := ⟨9, 10⟩) (by decide +kernel) rfl (by decide +kernel) (by decide +kernel)
set_option maxRecDepth 16384 in
theorem rg_code201 : (Jvm.Cond.code (⟨"HungerBooksModel", "isFarm", "(I)Z"⟩ : Jvm.MethodName) prog_14_method_10_code 2 (some .boolean)).before start1.args0 rg_s = true :=
  su_hand_word (m := ⟨9, 8⟩) (by decide +kernel) rfl (by decide +kernel) (by decide +kernel)
set_option maxRecDepth 16384 in
theorem rg_code202 : (Jvm.Cond.code (⟨"HungerBooksModel", "farm", "(II)I"⟩ : Jvm.MethodName) prog_14_method_13_code 3 (some .int)).before start1.args0 rg_s = true :=
  su_hand_word (m := ⟨9, 11⟩) (by decide +kernel) rfl (by decide +kernel) (by decide +kernel)
set_option maxRecDepth 16384 in
theorem rg_code203 : (Jvm.Cond.code (⟨"HungerBooksModel", "die", "(I)I"⟩ : Jvm.MethodName) prog_14_method_15_code 2 (some .int)).before start1.args0 rg_s = true :=
  su_hand_word (m := ⟨9, 13⟩) (by decide +kernel) rfl (by decide +kernel) (by decide +kernel)
set_option maxRecDepth 16384 in
theorem rg_code204 : (Jvm.Cond.code (⟨"HungerBooksModel", "isHouse", "(I)Z"⟩ : Jvm.MethodName) prog_14_method_9_code 2 (some .boolean)).before start1.args0 rg_s = true :=
  su_hand_word (m := ⟨9, 7⟩) (by decide +kernel) rfl (by decide +kernel) (by decide +kernel)
set_option maxRecDepth 16384 in
theorem rg_code205 : (Jvm.Cond.code (⟨"HungerBooksModel", "mouthsOn", "(III)I"⟩ : Jvm.MethodName) prog_14_method_14_code 6 (some .int)).before start1.args0 rg_s = true :=
  su_hand_word (m := ⟨9, 12⟩) (by decide +kernel) rfl (by decide +kernel) (by decide +kernel)
set_option maxRecDepth 16384 in
theorem rg_code206 : (Jvm.Cond.code (⟨"HungerBooksModel", "hear", "(I)I"⟩ : Jvm.MethodName) prog_14_method_16_code 4 (some .int)).before start1.args0 rg_s = true :=
  su_hand_word (m := ⟨9, 14⟩) (by decide +kernel) rfl (by decide +kernel) (by decide +kernel)
set_option maxRecDepth 16384 in
theorem rg_code207 : (Jvm.Cond.code (⟨"HungerBooksModel", "mouths", "(III)I"⟩ : Jvm.MethodName) prog_14_method_17_code 4 (some .int)).before start1.args0 rg_s = true :=
  su_hand_word (m := ⟨9, 15⟩) (by decide +kernel) rfl (by decide +kernel) (by decide +kernel)
set_option maxRecDepth 16384 in
theorem rg_code208 : (Jvm.Cond.code (⟨"HungerBooksModel", "isDay", "(I)Z"⟩ : Jvm.MethodName) prog_14_method_6_code 1 (some .boolean)).before start1.args0 rg_s = true :=
  su_hand_word (m := ⟨9, 4⟩) (by decide +kernel) rfl (by decide +kernel) (by decide +kernel)
set_option maxRecDepth 16384 in
theorem rg_code209 : (Jvm.Cond.code (⟨"HungerBooksModel", "feed", "(IIIII)I"⟩ : Jvm.MethodName) prog_14_method_18_code 8 (some .int)).before start1.args0 rg_s = true :=
  su_hand_word (m := ⟨9, 16⟩) (by decide +kernel) rfl (by decide +kernel) (by decide +kernel)
set_option maxRecDepth 16384 in
theorem rg_code210 : (Jvm.Cond.code (⟨"HungerBooksModel", "orders", "(II)I"⟩ : Jvm.MethodName) prog_14_method_39_code 5 (some .int)).before start1.args0 rg_s = true :=
  su_hand_word (m := ⟨9, 37⟩) (by decide +kernel) rfl (by decide +kernel) (by decide +kernel)
set_option maxRecDepth 16384 in
theorem rg_code211 : (Jvm.Cond.code (⟨"HungerBooksModel", "isWeek", "(I)Z"⟩ : Jvm.MethodName) prog_14_method_7_code 1 (some .boolean)).before start1.args0 rg_s = true :=
  su_hand_word (m := ⟨9, 5⟩) (by decide +kernel) rfl (by decide +kernel) (by decide +kernel)
set_option maxRecDepth 16384 in
theorem rg_code212 : (Jvm.Cond.code (⟨"HungerBooksModel", "next", "()V"⟩ : Jvm.MethodName) prog_14_method_20_code 2 none).before start1.args0 rg_s = true :=
  su_hand_word (m := ⟨9, 18⟩) (by decide +kernel) rfl (by decide +kernel) (by decide +kernel)
set_option maxRecDepth 16384 in
theorem rg_code213 : (Jvm.Cond.code (⟨"HungerBooksModel", "here", "()I"⟩ : Jvm.MethodName) prog_14_method_19_code 1 (some .int)).before start1.args0 rg_s = true :=
  su_hand_word (m := ⟨9, 17⟩) (by decide +kernel) rfl (by decide +kernel) (by decide +kernel)
set_option maxRecDepth 16384 in
theorem rg_code214 : (Jvm.Cond.code (⟨"HungerBooksModel", "min", "(II)I"⟩ : Jvm.MethodName) prog_14_method_4_code 2 (some .int)).before start1.args0 rg_s = true :=
  su_hand_word (m := ⟨9, 2⟩) (by decide +kernel) rfl (by decide +kernel) (by decide +kernel)
set_option maxRecDepth 16384 in
theorem rg_code215 : (Jvm.Cond.code (⟨"HungerBooksModel", "isSignByte", "(I)Z"⟩ : Jvm.MethodName) prog_14_method_21_code 1 (some .boolean)).before start1.args0 rg_s = true :=
  su_hand_word (m := ⟨9, 19⟩) (by decide +kernel) rfl (by decide +kernel) (by decide +kernel)
set_option maxRecDepth 16384 in
theorem rg_code216 : (Jvm.Cond.code (⟨"HungerBooksModel", "errs", "()V"⟩ : Jvm.MethodName) prog_14_method_22_code 1 none).before start1.args0 rg_s = true :=
  su_hand_word (m := ⟨9, 20⟩) (by decide +kernel) rfl (by decide +kernel) (by decide +kernel)
set_option maxRecDepth 16384 in
theorem rg_code217 : (Jvm.Cond.code (⟨"HungerBooksModel", "statement", "(I)V"⟩ : Jvm.MethodName) prog_14_method_38_code 3 none).before start1.args0 rg_s = true :=
  su_hand_word (m := ⟨9, 36⟩) (by decide +kernel) rfl (by decide +kernel) (by decide +kernel)
set_option maxRecDepth 16384 in
theorem rg_code218 : (Jvm.Cond.code (⟨"HungerBooksModel", "ruleOf", "(J)I"⟩ : Jvm.MethodName) prog_14_method_26_code 3 (some .int)).before start1.args0 rg_s = true :=
  su_hand_word (m := ⟨9, 24⟩) (by decide +kernel) rfl (by decide +kernel) (by decide +kernel)
set_option maxRecDepth 16384 in
theorem rg_code219 : (Jvm.Cond.code (⟨"HungerBooksModel", "goodOf", "(J)I"⟩ : Jvm.MethodName) prog_14_method_27_code 3 (some .int)).before start1.args0 rg_s = true :=
  su_hand_word (m := ⟨9, 25⟩) (by decide +kernel) rfl (by decide +kernel) (by decide +kernel)
set_option maxRecDepth 16384 in
theorem rg_code220 : (Jvm.Cond.code (⟨"HungerBooksModel", "parse", "(I)I"⟩ : Jvm.MethodName) prog_14_method_33_code 4 (some .int)).before start1.args0 rg_s = true :=
  su_hand_word (m := ⟨9, 31⟩) (by decide +kernel) rfl (by decide +kernel) (by decide +kernel)
set_option maxRecDepth 16384 in
theorem rg_code221 : (Jvm.Cond.code (⟨"HungerBooksModel", "begin", "(I)V"⟩ : Jvm.MethodName) prog_14_method_30_code 2 none).before start1.args0 rg_s = true :=
  su_hand_word (m := ⟨9, 28⟩) (by decide +kernel) rfl (by decide +kernel) (by decide +kernel)
set_option maxRecDepth 16384 in
theorem rg_code222 : (Jvm.Cond.code (⟨"HungerBooksModel", "sums", "(IZ)V"⟩ : Jvm.MethodName) prog_14_method_34_code 4 none).before start1.args0 rg_s = true :=
  su_hand_word (m := ⟨9, 32⟩) (by decide +kernel) rfl (by decide +kernel) (by decide +kernel)
set_option maxRecDepth 16384 in
theorem rg_codes_hold_7 : ∀ c ∈ tables_1_7.filter su_isCode, c.before start1.args0 rg_s = true := by
  rw [start1.codes_are_7]
  exact List.forall_mem_cons.mpr ⟨rg_code197, List.forall_mem_cons.mpr ⟨rg_code198, List.forall_mem_cons.mpr ⟨rg_code199, List.forall_mem_cons.mpr ⟨rg_code200, List.forall_mem_cons.mpr ⟨rg_code201, List.forall_mem_cons.mpr ⟨rg_code202, List.forall_mem_cons.mpr ⟨rg_code203, List.forall_mem_cons.mpr ⟨rg_code204, List.forall_mem_cons.mpr ⟨rg_code205, List.forall_mem_cons.mpr ⟨rg_code206, List.forall_mem_cons.mpr ⟨rg_code207, List.forall_mem_cons.mpr ⟨rg_code208, List.forall_mem_cons.mpr ⟨rg_code209, List.forall_mem_cons.mpr ⟨rg_code210, List.forall_mem_cons.mpr ⟨rg_code211, List.forall_mem_cons.mpr ⟨rg_code212, List.forall_mem_cons.mpr ⟨rg_code213, List.forall_mem_cons.mpr ⟨rg_code214, List.forall_mem_cons.mpr ⟨rg_code215, List.forall_mem_cons.mpr ⟨rg_code216, List.forall_mem_cons.mpr ⟨rg_code217, List.forall_mem_cons.mpr ⟨rg_code218, List.forall_mem_cons.mpr ⟨rg_code219, List.forall_mem_cons.mpr ⟨rg_code220, List.forall_mem_cons.mpr ⟨rg_code221, List.forall_mem_cons.mpr ⟨rg_code222, List.forall_mem_nil _⟩⟩⟩⟩⟩⟩⟩⟩⟩⟩⟩⟩⟩⟩⟩⟩⟩⟩⟩⟩⟩⟩⟩⟩⟩⟩
set_option maxRecDepth 16384 in
theorem rg_others_7_0 : (tables_1_7.take 26).all (fun c => su_isCode c || c.before start1.args0 rg_s) = true := by decide +kernel
set_option maxRecDepth 16384 in
theorem rg_others_7_1 : ((tables_1_7.drop 26).take 26).all (fun c => su_isCode c || c.before start1.args0 rg_s) = true := by decide +kernel
set_option maxRecDepth 16384 in
theorem rg_others_7_2 : (((tables_1_7.drop 26).drop 26).take 26).all (fun c => su_isCode c || c.before start1.args0 rg_s) = true := by decide +kernel
set_option maxRecDepth 16384 in
theorem rg_others_7_3 : ((((tables_1_7.drop 26).drop 26).drop 26).take 26).all (fun c => su_isCode c || c.before start1.args0 rg_s) = true := by decide +kernel
set_option maxRecDepth 16384 in
theorem rg_others_7_4 : (((((tables_1_7.drop 26).drop 26).drop 26).drop 26).take 27).all (fun c => su_isCode c || c.before start1.args0 rg_s) = true := by decide +kernel
set_option maxRecDepth 16384 in
theorem rg_others_7_5 : ((((((tables_1_7.drop 26).drop 26).drop 26).drop 26).drop 27).take 26).all (fun c => su_isCode c || c.before start1.args0 rg_s) = true := by decide +kernel
set_option maxRecDepth 16384 in
theorem rg_others_7_6 : (((((((tables_1_7.drop 26).drop 26).drop 26).drop 26).drop 27).drop 26).take 26).all (fun c => su_isCode c || c.before start1.args0 rg_s) = true := by decide +kernel
set_option maxRecDepth 16384 in
theorem rg_others_7_7 : ((((((((tables_1_7.drop 26).drop 26).drop 26).drop 26).drop 27).drop 26).drop 26).take 26).all (fun c => su_isCode c || c.before start1.args0 rg_s) = true := by decide +kernel
set_option maxRecDepth 16384 in
theorem rg_others_7_8 : (((((((((tables_1_7.drop 26).drop 26).drop 26).drop 26).drop 27).drop 26).drop 26).drop 26).take 26).all (fun c => su_isCode c || c.before start1.args0 rg_s) = true := by decide +kernel
set_option maxRecDepth 16384 in
theorem rg_others_7_9 : (((((((((tables_1_7.drop 26).drop 26).drop 26).drop 26).drop 27).drop 26).drop 26).drop 26).drop 26).all (fun c => su_isCode c || c.before start1.args0 rg_s) = true := by decide +kernel
set_option maxRecDepth 16384 in
theorem rg_others_hold_7 : tables_1_7.all (fun c => su_isCode c || c.before start1.args0 rg_s) = true := start1.su_all_split _ 26 tables_1_7 rg_others_7_0 (start1.su_all_split _ 26 (tables_1_7.drop 26) rg_others_7_1 (start1.su_all_split _ 26 ((tables_1_7.drop 26).drop 26) rg_others_7_2 (start1.su_all_split _ 26 (((tables_1_7.drop 26).drop 26).drop 26) rg_others_7_3 (start1.su_all_split _ 27 ((((tables_1_7.drop 26).drop 26).drop 26).drop 26) rg_others_7_4 (start1.su_all_split _ 26 (((((tables_1_7.drop 26).drop 26).drop 26).drop 26).drop 27) rg_others_7_5 (start1.su_all_split _ 26 ((((((tables_1_7.drop 26).drop 26).drop 26).drop 26).drop 27).drop 26) rg_others_7_6 (start1.su_all_split _ 26 (((((((tables_1_7.drop 26).drop 26).drop 26).drop 26).drop 27).drop 26).drop 26) rg_others_7_7 (start1.su_all_split _ 26 ((((((((tables_1_7.drop 26).drop 26).drop 26).drop 26).drop 27).drop 26).drop 26).drop 26) rg_others_7_8 rg_others_7_9))))))))
set_option maxRecDepth 16384 in
theorem rg_words_7 : ∀ c ∈ tables_1_7, c.before start1.args0 rg_s = true := fun c h => su_words rg_others_hold_7 rg_codes_hold_7 c h
