set_option maxRecDepth 16384 in
theorem rg_code268 : (Jvm.Cond.code (⟨"HungerBooksModel", "houseOf", "(II)J"⟩ : Jvm.MethodName) prog_14_method_75_code 6 (some .long)).before start1.args0 rg_s = true :=
  su_hand_word (m := ⟨9, 72⟩) (by decide +kernel) rfl (by decide +kernel) (by decide +kernel)
set_option maxRecDepth 16384 in
theorem rg_code269 : (Jvm.Cond.code (⟨"HungerBooksModel", "lack", "(II)I"⟩ : Jvm.MethodName) prog_14_method_76_code 3 (some .int)).before start1.args0 rg_s = true :=
  su_hand_word (m := ⟨9, 73⟩) (by decide +kernel) rfl (by decide +kernel) (by decide +kernel)
set_option maxRecDepth 16384 in
theorem rg_code270 : (Jvm.Cond.code (⟨"HungerBooksModel", "fake", "(IIII)I"⟩ : Jvm.MethodName) prog_14_method_77_code 7 (some .int)).before start1.args0 rg_s = true :=
  su_hand_word (m := ⟨9, 74⟩) (by decide +kernel) rfl (by decide +kernel) (by decide +kernel)
set_option maxRecDepth 16384 in
theorem rg_code271 : (Jvm.Cond.code (⟨"HungerBooksModel", "dead", "(III)I"⟩ : Jvm.MethodName) prog_14_method_78_code 4 (some .int)).before start1.args0 rg_s = true :=
  su_hand_word (m := ⟨9, 75⟩) (by decide +kernel) rfl (by decide +kernel) (by decide +kernel)
set_option maxRecDepth 16384 in
theorem rg_code272 : (Jvm.Cond.code (⟨"HungerBooksModel", "shortOf", "(IIII)I"⟩ : Jvm.MethodName) prog_14_method_79_code 5 (some .int)).before start1.args0 rg_s = true :=
  su_hand_word (m := ⟨9, 76⟩) (by decide +kernel) rfl (by decide +kernel) (by decide +kernel)
set_option maxRecDepth 16384 in
theorem rg_code273 : (Jvm.Cond.code (⟨"HungerBooksModel", "field", "(IIII)Z"⟩ : Jvm.MethodName) prog_14_method_80_code 5 (some .boolean)).before start1.args0 rg_s = true :=
  su_hand_word (m := ⟨9, 77⟩) (by decide +kernel) rfl (by decide +kernel) (by decide +kernel)
set_option maxRecDepth 16384 in
theorem rg_code274 : (Jvm.Cond.code (⟨"HungerBooksModel", "elsewhere", "(IIIII)I"⟩ : Jvm.MethodName) prog_14_method_81_code 8 (some .int)).before start1.args0 rg_s = true :=
  su_hand_word (m := ⟨9, 78⟩) (by decide +kernel) rfl (by decide +kernel) (by decide +kernel)
set_option maxRecDepth 16384 in
theorem rg_code275 : (Jvm.Cond.code (⟨"HungerBooksModel", "exchange", "(IIII)Z"⟩ : Jvm.MethodName) prog_14_method_83_code 5 (some .boolean)).before start1.args0 rg_s = true :=
  su_hand_word (m := ⟨9, 80⟩) (by decide +kernel) rfl (by decide +kernel) (by decide +kernel)
set_option maxRecDepth 16384 in
theorem rg_code276 : (Jvm.Cond.code (⟨"HungerBooksModel", "isDesk", "(I)Z"⟩ : Jvm.MethodName) prog_14_method_82_code 1 (some .boolean)).before start1.args0 rg_s = true :=
  su_hand_word (m := ⟨9, 79⟩) (by decide +kernel) rfl (by decide +kernel) (by decide +kernel)
set_option maxRecDepth 16384 in
theorem rg_code277 : (Jvm.Cond.code (⟨"HungerBooksModel", "round", "(II)I"⟩ : Jvm.MethodName) prog_14_method_85_code 5 (some .int)).before start1.args0 rg_s = true :=
  su_hand_word (m := ⟨9, 82⟩) (by decide +kernel) rfl (by decide +kernel) (by decide +kernel)
set_option maxRecDepth 16384 in
theorem rg_code278 : (Jvm.Cond.code (⟨"HungerBooksModel", "tries", "(III)V"⟩ : Jvm.MethodName) prog_14_method_84_code 10 none).before start1.args0 rg_s = true :=
  su_hand_word (m := ⟨9, 81⟩) (by decide +kernel) rfl (by decide +kernel) (by decide +kernel)
set_option maxRecDepth 16384 in
theorem rg_code279 : (Jvm.Cond.code (⟨"HungerBooksModel", "road", "(III)Z"⟩ : Jvm.MethodName) prog_14_method_87_code 4 (some .boolean)).before start1.args0 rg_s = true :=
  su_hand_word (m := ⟨9, 84⟩) (by decide +kernel) rfl (by decide +kernel) (by decide +kernel)
set_option maxRecDepth 16384 in
theorem rg_codes_hold_8 : ∀ c ∈ tables_1_8.filter su_isCode, c.before start1.args0 rg_s = true := by
  rw [start1.codes_are_8]
  exact List.forall_mem_cons.mpr ⟨rg_code223, List.forall_mem_cons.mpr ⟨rg_code224, List.forall_mem_cons.mpr ⟨rg_code225, List.forall_mem_cons.mpr ⟨rg_code226, List.forall_mem_cons.mpr ⟨rg_code227, List.forall_mem_cons.mpr ⟨rg_code228, List.forall_mem_cons.mpr ⟨rg_code229, List.forall_mem_cons.mpr ⟨rg_code230, List.forall_mem_cons.mpr ⟨rg_code231, List.forall_mem_cons.mpr ⟨rg_code232, List.forall_mem_cons.mpr ⟨rg_code233, List.forall_mem_cons.mpr ⟨rg_code234, List.forall_mem_cons.mpr ⟨rg_code235, List.forall_mem_cons.mpr ⟨rg_code236, List.forall_mem_cons.mpr ⟨rg_code237, List.forall_mem_cons.mpr ⟨rg_code238, List.forall_mem_cons.mpr ⟨rg_code239, List.forall_mem_cons.mpr ⟨rg_code240, List.forall_mem_cons.mpr ⟨rg_code241, List.forall_mem_cons.mpr ⟨rg_code242, List.forall_mem_cons.mpr ⟨rg_code243, List.forall_mem_cons.mpr ⟨rg_code244, List.forall_mem_cons.mpr ⟨rg_code245, List.forall_mem_cons.mpr ⟨rg_code246, List.forall_mem_cons.mpr ⟨rg_code247, List.forall_mem_cons.mpr ⟨rg_code248, List.forall_mem_cons.mpr ⟨rg_code249, List.forall_mem_cons.mpr ⟨rg_code250, List.forall_mem_cons.mpr ⟨rg_code251, List.forall_mem_cons.mpr ⟨rg_code252, List.forall_mem_cons.mpr ⟨rg_code253, List.forall_mem_cons.mpr ⟨rg_code254, List.forall_mem_cons.mpr ⟨rg_code255, List.forall_mem_cons.mpr ⟨rg_code256, List.forall_mem_cons.mpr ⟨rg_code257, List.forall_mem_cons.mpr ⟨rg_code258, List.forall_mem_cons.mpr ⟨rg_code259, List.forall_mem_cons.mpr ⟨rg_code260, List.forall_mem_cons.mpr ⟨rg_code261, List.forall_mem_cons.mpr ⟨rg_code262, List.forall_mem_cons.mpr ⟨rg_code263, List.forall_mem_cons.mpr ⟨rg_code264, List.forall_mem_cons.mpr ⟨rg_code265, List.forall_mem_cons.mpr ⟨rg_code266, List.forall_mem_cons.mpr ⟨rg_code267, List.forall_mem_cons.mpr ⟨rg_code268, List.forall_mem_cons.mpr ⟨rg_code269, List.forall_mem_cons.mpr ⟨rg_code270, List.forall_mem_cons.mpr ⟨rg_code271, List.forall_mem_cons.mpr ⟨rg_code272, List.forall_mem_cons.mpr ⟨rg_code273, List.forall_mem_cons.mpr ⟨rg_code274, List.forall_mem_cons.mpr ⟨rg_code275, List.forall_mem_cons.mpr ⟨rg_code276, List.forall_mem_cons.mpr ⟨rg_code277, List.forall_mem_cons.mpr ⟨rg_code278, List.forall_mem_cons.mpr ⟨rg_code279, List.forall_mem_nil _⟩⟩⟩⟩⟩⟩⟩⟩⟩⟩⟩⟩⟩⟩⟩⟩⟩⟩⟩⟩⟩⟩⟩⟩⟩⟩⟩⟩⟩⟩⟩⟩⟩⟩⟩⟩⟩⟩⟩⟩⟩⟩⟩⟩⟩⟩⟩⟩⟩⟩⟩⟩⟩⟩⟩⟩⟩
set_option maxRecDepth 16384 in
theorem rg_others_8_0 : (tables_1_8.take 26).all (fun c => su_isCode c || c.before start1.args0 rg_s) = true := by decide +kernel
set_option maxRecDepth 16384 in
theorem rg_others_8_1 : ((tables_1_8.drop 26).take 26).all (fun c => su_isCode c || c.before start1.args0 rg_s) = true := by decide +kernel
set_option maxRecDepth 16384 in
theorem rg_others_8_2 : (((tables_1_8.drop 26).drop 26).take 26).all (fun c => su_isCode c || c.before start1.args0 rg_s) = true := by decide +kernel
set_option maxRecDepth 16384 in
theorem rg_others_8_3 : ((((tables_1_8.drop 26).drop 26).drop 26).take 26).all (fun c => su_isCode c || c.before start1.args0 rg_s) = true := by decide +kernel
set_option maxRecDepth 16384 in
theorem rg_others_8_4 : (((((tables_1_8.drop 26).drop 26).drop 26).drop 26).take 26).all (fun c => su_isCode c || c.before start1.args0 rg_s) = true := by decide +kernel
set_option maxRecDepth 16384 in
theorem rg_others_8_5 : ((((((tables_1_8.drop 26).drop 26).drop 26).drop 26).drop 26).take 26).all (fun c => su_isCode c || c.before start1.args0 rg_s) = true := by decide +kernel
set_option maxRecDepth 16384 in
theorem rg_others_8_6 : (((((((tables_1_8.drop 26).drop 26).drop 26).drop 26).drop 26).drop 26).take 26).all (fun c => su_isCode c || c.before start1.args0 rg_s) = true := by decide +kernel
set_option maxRecDepth 16384 in
theorem rg_others_8_7 : ((((((((tables_1_8.drop 26).drop 26).drop 26).drop 26).drop 26).drop 26).drop 26).take 26).all (fun c => su_isCode c || c.before start1.args0 rg_s) = true := by decide +kernel
set_option maxRecDepth 16384 in
theorem rg_others_8_8 : (((((((((tables_1_8.drop 26).drop 26).drop 26).drop 26).drop 26).drop 26).drop 26).drop 26).take 26).all (fun c => su_isCode c || c.before start1.args0 rg_s) = true := by decide +kernel
set_option maxRecDepth 16384 in
theorem rg_others_8_9 : (((((((((tables_1_8.drop 26).drop 26).drop 26).drop 26).drop 26).drop 26).drop 26).drop 26).drop 26).all (fun c => su_isCode c || c.before start1.args0 rg_s) = true := by decide +kernel
set_option maxRecDepth 16384 in
theorem rg_others_hold_8 : tables_1_8.all (fun c => su_isCode c || c.before start1.args0 rg_s) = true := start1.su_all_split _ 26 tables_1_8 rg_others_8_0 (start1.su_all_split _ 26 (tables_1_8.drop 26) rg_others_8_1 (start1.su_all_split _ 26 ((tables_1_8.drop 26).drop 26) rg_others_8_2 (start1.su_all_split _ 26 (((tables_1_8.drop 26).drop 26).drop 26) rg_others_8_3 (start1.su_all_split _ 26 ((((tables_1_8.drop 26).drop 26).drop 26).drop 26) rg_others_8_4 (start1.su_all_split _ 26 (((((tables_1_8.drop 26).drop 26).drop 26).drop 26).drop 26) rg_others_8_5 (start1.su_all_split _ 26 ((((((tables_1_8.drop 26).drop 26).drop 26).drop 26).drop 26).drop 26) rg_others_8_6 (start1.su_all_split _ 26 (((((((tables_1_8.drop 26).drop 26).drop 26).drop 26).drop 26).drop 26).drop 26) rg_others_8_7 (start1.su_all_split _ 26 ((((((((tables_1_8.drop 26).drop 26).drop 26).drop 26).drop 26).drop 26).drop 26).drop 26) rg_others_8_8 rg_others_8_9))))))))
set_option maxRecDepth 16384 in
theorem rg_words_8 : ∀ c ∈ tables_1_8, c.before start1.args0 rg_s = true := fun c h => su_words rg_others_hold_8 rg_codes_hold_8 c h
