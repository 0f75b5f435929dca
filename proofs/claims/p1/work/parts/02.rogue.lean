set_option maxRecDepth 16384 in
theorem rg_code8 : (Jvm.Cond.code (⟨"HungerBooks", "good", "(III)Z"⟩ : Jvm.MethodName) prog_1_method_2_code 5 (some .boolean)).before start1.args0 rg_s = true :=
  su_hand_word (m := ⟨2, 1⟩) (by decide +kernel) rfl (by decide +kernel) (by decide +kernel)
set_option maxRecDepth 16384 in
theorem rg_code9 : (Jvm.Cond.code (⟨"HungerBooks", "isGood", "(I)Z"⟩ : Jvm.MethodName) prog_1_method_73_code 1 (some .boolean)).before start1.args0 rg_s = true :=
  su_hand_word (m := ⟨2, 72⟩) (by decide +kernel) rfl (by decide +kernel) (by decide +kernel)
set_option maxRecDepth 16384 in
theorem rg_code10 : (Jvm.Cond.code (⟨"HungerBooks", "within", "(III)Z"⟩ : Jvm.MethodName) prog_1_method_70_code 3 (some .boolean)).before start1.args0 rg_s = true :=
  su_hand_word (m := ⟨2, 69⟩) (by decide +kernel) rfl (by decide +kernel) (by decide +kernel)
set_option maxRecDepth 16384 in
theorem rg_code11 : (Jvm.Cond.code (⟨"HungerBooks", "house", "(IIIII)I"⟩ : Jvm.MethodName) prog_1_method_3_code 8 (some .int)).before start1.args0 rg_s = true :=
  su_hand_word (m := ⟨2, 2⟩) (by decide +kernel) rfl (by decide +kernel) (by decide +kernel)
set_option maxRecDepth 16384 in
theorem rg_code12 : (Jvm.Cond.code (⟨"HungerBooks", "isTown", "(I)Z"⟩ : Jvm.MethodName) prog_1_method_74_code 1 (some .boolean)).before start1.args0 rg_s = true :=
  su_hand_word (m := ⟨2, 73⟩) (by decide +kernel) rfl (by decide +kernel) (by decide +kernel)
set_option maxRecDepth 16384 in
theorem rg_code13 : (Jvm.Cond.code (⟨"HungerBooks", "farmAt", "(I)LHungerBooks$Farm;"⟩ : Jvm.MethodName) prog_1_method_79_code 2 (some (.object "HungerBooks$Farm"))).before start1.args0 rg_s = true :=
  su_hand_word (m := ⟨2, 78⟩) (by decide +kernel) rfl (by decide +kernel) (by decide +kernel)
set_option maxRecDepth 16384 in
theorem rg_code14 : (Jvm.Cond.code (⟨"HungerBooks$House", "<init>", "(IIIIII)V"⟩ : Jvm.MethodName) prog_5_method_1_code 7 none).before start1.args0 rg_s = true :=
  su_hand_word (m := ⟨10, 0⟩) (by decide +kernel) rfl (by decide +kernel) (by decide +kernel)
set_option maxRecDepth 16384 in
theorem rg_code15 : (Jvm.Cond.code (⟨"HungerBooks", "farm", "(II)I"⟩ : Jvm.MethodName) prog_1_method_4_code 4 (some .int)).before start1.args0 rg_s = true :=
  su_hand_word (m := ⟨2, 3⟩) (by decide +kernel) rfl (by decide +kernel) (by decide +kernel)
set_option maxRecDepth 16384 in
theorem rg_code16 : (Jvm.Cond.code (⟨"HungerBooks", "isPlace", "(I)Z"⟩ : Jvm.MethodName) prog_1_method_75_code 1 (some .boolean)).before start1.args0 rg_s = true :=
  su_hand_word (m := ⟨2, 74⟩) (by decide +kernel) rfl (by decide +kernel) (by decide +kernel)
set_option maxRecDepth 16384 in
theorem rg_code17 : (Jvm.Cond.code (⟨"HungerBooks$Farm", "<init>", "(I)V"⟩ : Jvm.MethodName) prog_4_method_1_code 2 none).before start1.args0 rg_s = true :=
  su_hand_word (m := ⟨11, 0⟩) (by decide +kernel) rfl (by decide +kernel) (by decide +kernel)
set_option maxRecDepth 16384 in
theorem rg_code18 : (Jvm.Cond.code (⟨"HungerBooks", "die", "(I)I"⟩ : Jvm.MethodName) prog_1_method_5_code 3 (some .int)).before start1.args0 rg_s = true :=
  su_hand_word (m := ⟨2, 4⟩) (by decide +kernel) rfl (by decide +kernel) (by decide +kernel)
set_option maxRecDepth 16384 in
theorem rg_code19 : (Jvm.Cond.code (⟨"HungerBooks", "houseAt", "(I)LHungerBooks$House;"⟩ : Jvm.MethodName) prog_1_method_78_code 2 (some (.object "HungerBooks$House"))).before start1.args0 rg_s = true :=
  su_hand_word (m := ⟨2, 77⟩) (by decide +kernel) rfl (by decide +kernel) (by decide +kernel)
set_option maxRecDepth 16384 in
theorem rg_code20 : (Jvm.Cond.code (⟨"HungerBooks$House", "loseMouth", "(I)Z"⟩ : Jvm.MethodName) prog_5_method_3_code 2 (some .boolean)).before start1.args0 rg_s = true :=
  su_hand_word (m := ⟨10, 2⟩) (by decide +kernel) rfl (by decide +kernel) (by decide +kernel)
set_option maxRecDepth 16384 in
theorem rg_code21 : (Jvm.Cond.code (⟨"HungerBooks$House", "living", "()I"⟩ : Jvm.MethodName) prog_5_method_2_code 1 (some .int)).before start1.args0 rg_s = true :=
  su_hand_word (m := ⟨10, 1⟩) (by decide +kernel) rfl (by decide +kernel) (by decide +kernel)
set_option maxRecDepth 16384 in
theorem rg_code22 : (Jvm.Cond.code (⟨"HungerBooks", "hear", "(I)I"⟩ : Jvm.MethodName) prog_1_method_6_code 3 (some .int)).before start1.args0 rg_s = true :=
  su_hand_word (m := ⟨2, 5⟩) (by decide +kernel) rfl (by decide +kernel) (by decide +kernel)
set_option maxRecDepth 16384 in
theorem rg_code23 : (Jvm.Cond.code (⟨"HungerBooks$House", "tellDeaths", "(I)I"⟩ : Jvm.MethodName) prog_5_method_4_code 4 (some .int)).before start1.args0 rg_s = true :=
  su_hand_word (m := ⟨10, 3⟩) (by decide +kernel) rfl (by decide +kernel) (by decide +kernel)
set_option maxRecDepth 16384 in
theorem rg_code24 : (Jvm.Cond.code (⟨"HungerBooks", "mouths", "(III)I"⟩ : Jvm.MethodName) prog_1_method_7_code 5 (some .int)).before start1.args0 rg_s = true :=
  su_hand_word (m := ⟨2, 6⟩) (by decide +kernel) rfl (by decide +kernel) (by decide +kernel)
set_option maxRecDepth 16384 in
theorem rg_code25 : (Jvm.Cond.code (⟨"HungerBooks", "isDay", "(I)Z"⟩ : Jvm.MethodName) prog_1_method_71_code 1 (some .boolean)).before start1.args0 rg_s = true :=
  su_hand_word (m := ⟨2, 70⟩) (by decide +kernel) rfl (by decide +kernel) (by decide +kernel)
set_option maxRecDepth 16384 in
theorem rg_code26 : (Jvm.Cond.code (⟨"HungerBooks$House", "mouthsOn", "(I)I"⟩ : Jvm.MethodName) prog_5_method_5_code 2 (some .int)).before start1.args0 rg_s = true :=
  su_hand_word (m := ⟨10, 4⟩) (by decide +kernel) rfl (by decide +kernel) (by decide +kernel)
set_option maxRecDepth 16384 in
theorem rg_code27 : (Jvm.Cond.code (⟨"HungerBooks$House", "mouthsKnown", "(II)I"⟩ : Jvm.MethodName) prog_5_method_6_code 5 (some .int)).before start1.args0 rg_s = true :=
  su_hand_word (m := ⟨10, 5⟩) (by decide +kernel) rfl (by decide +kernel) (by decide +kernel)
set_option maxRecDepth 16384 in
theorem rg_code28 : (Jvm.Cond.code (⟨"HungerBooks", "feed", "(IIIII)I"⟩ : Jvm.MethodName) prog_1_method_8_code 6 (some .int)).before start1.args0 rg_s = true :=
  su_hand_word (m := ⟨2, 7⟩) (by decide +kernel) rfl (by decide +kernel) (by decide +kernel)
set_option maxRecDepth 16384 in
theorem rg_code29 : (Jvm.Cond.code (⟨"HungerBooks", "putBytes", "(I)V"⟩ : Jvm.MethodName) prog_1_method_9_code 3 none).before start1.args0 rg_s = true :=
  su_hand_word (m := ⟨2, 8⟩) (by decide +kernel) rfl (by decide +kernel) (by decide +kernel)
set_option maxRecDepth 16384 in
theorem rg_code30 : (Jvm.Cond.code (⟨"HungerBooks", "orders", "(II)I"⟩ : Jvm.MethodName) prog_1_method_10_code 3 (some .int)).before start1.args0 rg_s = true :=
  su_hand_word (m := ⟨2, 9⟩) (by decide +kernel) rfl (by decide +kernel) (by decide +kernel)
set_option maxRecDepth 16384 in
theorem rg_code31 : (Jvm.Cond.code (⟨"HungerBooks", "isWeek", "(I)Z"⟩ : Jvm.MethodName) prog_1_method_72_code 1 (some .boolean)).before start1.args0 rg_s = true :=
  su_hand_word (m := ⟨2, 71⟩) (by decide +kernel) rfl (by decide +kernel) (by decide +kernel)
set_option maxRecDepth 16384 in
theorem rg_code32 : (Jvm.Cond.code (⟨"HungerBooks$Reader", "read", "([II)Z"⟩ : Jvm.MethodName) prog_10_method_2_code 4 (some .boolean)).before start1.args0 rg_s = true :=
  su_hand_word (m := ⟨3, 1⟩) (by decide +kernel) rfl (by decide +kernel) (by decide +kernel)
set_option maxRecDepth 16384 in
theorem rg_code33 : (Jvm.Cond.code (⟨"HungerBooks$Lexer", "split", "([II)V"⟩ : Jvm.MethodName) prog_6_method_2_code 5 none).before start1.args0 rg_s = true :=
  su_hand_word (m := ⟨4, 1⟩) (by decide +kernel) rfl (by decide +kernel) (by decide +kernel)
set_option maxRecDepth 16384 in
theorem rg_code34 : (Jvm.Cond.code (⟨"java/lang/Math", "min", "(II)I"⟩ : Jvm.MethodName) prog_17_method_69_code 2 (some .int)).before start1.args0 rg_s = true :=
  su_hand_word (m := ⟨12, 2⟩) (by decide +kernel) rfl (by decide +kernel) (by decide +kernel)
set_option maxRecDepth 16384 in
theorem rg_code35 : (Jvm.Cond.code (⟨"HungerBooks$Lexer", "isLetter", "(I)Z"⟩ : Jvm.MethodName) prog_6_method_8_code 1 (some .boolean)).before start1.args0 rg_s = true :=
  su_hand_word (m := ⟨4, 7⟩) (by decide +kernel) rfl (by decide +kernel) (by decide +kernel)
set_option maxRecDepth 16384 in
theorem rg_codes_hold_2 : ∀ c ∈ tables_1_2.filter su_isCode, c.before start1.args0 rg_s = true := by
  rw [start1.codes_are_2]
  exact List.forall_mem_cons.mpr ⟨rg_code8, List.forall_mem_cons.mpr ⟨rg_code9, List.forall_mem_cons.mpr ⟨rg_code10, List.forall_mem_cons.mpr ⟨rg_code11, List.forall_mem_cons.mpr ⟨rg_code12, List.forall_mem_cons.mpr ⟨rg_code13, List.forall_mem_cons.mpr ⟨rg_code14, List.forall_mem_cons.mpr ⟨rg_code15, List.forall_mem_cons.mpr ⟨rg_code16, List.forall_mem_cons.mpr ⟨rg_code17, List.forall_mem_cons.mpr ⟨rg_code18, List.forall_mem_cons.mpr ⟨rg_code19, List.forall_mem_cons.mpr ⟨rg_code20, List.forall_mem_cons.mpr ⟨rg_code21, List.forall_mem_cons.mpr ⟨rg_code22, List.forall_mem_cons.mpr ⟨rg_code23, List.forall_mem_cons.mpr ⟨rg_code24, List.forall_mem_cons.mpr ⟨rg_code25, List.forall_mem_cons.mpr ⟨rg_code26, List.forall_mem_cons.mpr ⟨rg_code27, List.forall_mem_cons.mpr ⟨rg_code28, List.forall_mem_cons.mpr ⟨rg_code29, List.forall_mem_cons.mpr ⟨rg_code30, List.forall_mem_cons.mpr ⟨rg_code31, List.forall_mem_cons.mpr ⟨rg_code32, List.forall_mem_cons.mpr ⟨rg_code33, List.forall_mem_cons.mpr ⟨rg_code34, List.forall_mem_cons.mpr ⟨rg_code35, List.forall_mem_nil _⟩⟩⟩⟩⟩⟩⟩⟩⟩⟩⟩⟩⟩⟩⟩⟩⟩⟩⟩⟩⟩⟩⟩⟩⟩⟩⟩⟩
set_option maxRecDepth 16384 in
theorem rg_others_2_0 : (tables_1_2.take 36).all (fun c => su_isCode c || c.before start1.args0 rg_s) = true := by decide +kernel
set_option maxRecDepth 16384 in
theorem rg_others_2_1 : ((tables_1_2.drop 36).take 36).all (fun c => su_isCode c || c.before start1.args0 rg_s) = true := by decide +kernel
set_option maxRecDepth 16384 in
theorem rg_others_2_2 : (((tables_1_2.drop 36).drop 36).take 40).all (fun c => su_isCode c || c.before start1.args0 rg_s) = true := by decide +kernel
set_option maxRecDepth 16384 in
theorem rg_others_2_3 : ((((tables_1_2.drop 36).drop 36).drop 40).take 40).all (fun c => su_isCode c || c.before start1.args0 rg_s) = true := by decide +kernel
set_option maxRecDepth 16384 in
theorem rg_others_2_4 : (((((tables_1_2.drop 36).drop 36).drop 40).drop 40).take 40).all (fun c => su_isCode c || c.before start1.args0 rg_s) = true := by decide +kernel
set_option maxRecDepth 16384 in
theorem rg_others_2_5 : ((((((tables_1_2.drop 36).drop 36).drop 40).drop 40).drop 40).take 40).all (fun c => su_isCode c || c.before start1.args0 rg_s) = true := by decide +kernel
set_option maxRecDepth 16384 in
theorem rg_others_2_6 : ((((((tables_1_2.drop 36).drop 36).drop 40).drop 40).drop 40).drop 40).all (fun c => su_isCode c || c.before start1.args0 rg_s) = true := by decide +kernel
set_option maxRecDepth 16384 in
theorem rg_others_hold_2 : tables_1_2.all (fun c => su_isCode c || c.before start1.args0 rg_s) = true := start1.su_all_split _ 36 tables_1_2 rg_others_2_0 (start1.su_all_split _ 36 (tables_1_2.drop 36) rg_others_2_1 (start1.su_all_split _ 40 ((tables_1_2.drop 36).drop 36) rg_others_2_2 (start1.su_all_split _ 40 (((tables_1_2.drop 36).drop 36).drop 40) rg_others_2_3 (start1.su_all_split _ 40 ((((tables_1_2.drop 36).drop 36).drop 40).drop 40) rg_others_2_4 (start1.su_all_split _ 40 (((((tables_1_2.drop 36).drop 36).drop 40).drop 40).drop 40) rg_others_2_5 rg_others_2_6)))))
set_option maxRecDepth 16384 in
theorem rg_words_2 : ∀ c ∈ tables_1_2, c.before start1.args0 rg_s = true := fun c h => su_words rg_others_hold_2 rg_codes_hold_2 c h
