section
/-- a class of the kind 'array of int', not the one called [I: it has a clone of its own, whose code is no instruction -/
def rg_K : Class := { Lib.HandJ.cls "[rogue" #[] #[] 0x411 #[] #[Lib.HandJ.method "clone" "()Ljava/lang/Object;" [] (some (.object "java/lang/Object")) 0x1 1 ⟨#[0xfe]⟩] #[] with kind := .array 24 .int, super := some 1, cf := none }
/-- the witness's start, but FIRST_MEASURES holds an array of that class -/
def rg_s : State := { start1.about with vm := { start1.about.vm with classes := start1.about.vm.classes.push rg_K }, heap := start1.about.heap.setIfInBounds 7 { cls := 37, slots := #[.int 200, .int 80, .int 150, .int 300, .int 60, .int 0], vm := .none } }

set_option maxRecDepth 16384 in
theorem rg_word_code : (Cond.code x code maxLocals ret).before start1.args0 rg_s = true := su_hand_word (m := ⟨0, 0⟩) (by decide +kernel) rfl (by decide +kernel) (by decide +kernel)
set_option maxRecDepth 16384 in
theorem rg_code0 : (Jvm.Cond.code (⟨"HungerBooks", "<init>", "()V"⟩ : Jvm.MethodName) prog_1_method_1_code 1 none).before start1.args0 rg_s = true :=
  su_hand_word (m := ⟨2, 0⟩) (by decide +kernel) rfl (by decide +kernel) (by decide +kernel)
set_option maxRecDepth 16384 in
theorem rg_code1 : (Jvm.Cond.code (⟨"java/lang/Object", "<init>", "()V"⟩ : Jvm.MethodName) object_method_1_code 1 none).before start1.args0 rg_s = true :=
  su_hand_word (m := ⟨1, 0⟩) (by decide +kernel) rfl (by decide +kernel) (by decide +kernel)
set_option maxRecDepth 16384 in
theorem rg_code2 : (Jvm.Cond.code (⟨"HungerBooks$Reader", "<init>", "()V"⟩ : Jvm.MethodName) prog_10_method_1_code 1 none).before start1.args0 rg_s = true :=
  su_hand_word (m := ⟨3, 0⟩) (by decide +kernel) rfl (by decide +kernel) (by decide +kernel)
set_option maxRecDepth 16384 in
theorem rg_code3 : (Jvm.Cond.code (⟨"HungerBooks$Lexer", "<init>", "()V"⟩ : Jvm.MethodName) prog_6_method_1_code 1 none).before start1.args0 rg_s = true :=
  su_hand_word (m := ⟨4, 0⟩) (by decide +kernel) rfl (by decide +kernel) (by decide +kernel)
set_option maxRecDepth 16384 in
theorem rg_code4 : (Jvm.Cond.code (⟨"HungerBooks$Decrees", "<init>", "()V"⟩ : Jvm.MethodName) prog_2_method_1_code 1 none).before start1.args0 rg_s = true :=
  su_hand_word (m := ⟨5, 0⟩) (by decide +kernel) rfl (by decide +kernel) (by decide +kernel)
set_option maxRecDepth 16384 in
theorem rg_code5 : (Jvm.Cond.code (⟨"HungerBooks$Desks", "<init>", "()V"⟩ : Jvm.MethodName) prog_3_method_1_code 1 none).before start1.args0 rg_s = true :=
  su_hand_word (m := ⟨6, 0⟩) (by decide +kernel) rfl (by decide +kernel) (by decide +kernel)
set_option maxRecDepth 16384 in
theorem rg_code6 : (Jvm.Cond.code (⟨"HungerBooks$Roads", "<init>", "()V"⟩ : Jvm.MethodName) prog_11_method_1_code 1 none).before start1.args0 rg_s = true :=
  su_hand_word (m := ⟨7, 0⟩) (by decide +kernel) rfl (by decide +kernel) (by decide +kernel)
set_option maxRecDepth 16384 in
theorem rg_code7 : (Jvm.Cond.code (⟨"HungerBooks$Planner", "<init>", "()V"⟩ : Jvm.MethodName) prog_9_method_1_code 1 none).before start1.args0 rg_s = true :=
  su_hand_word (m := ⟨8, 0⟩) (by decide +kernel) rfl (by decide +kernel) (by decide +kernel)
set_option maxRecDepth 16384 in
theorem rg_codes_hold_1 : ∀ c ∈ tables_1_1.filter su_isCode, c.before start1.args0 rg_s = true := by
  rw [start1.codes_are_1]
  exact List.forall_mem_cons.mpr ⟨rg_code0, List.forall_mem_cons.mpr ⟨rg_code1, List.forall_mem_cons.mpr ⟨rg_code2, List.forall_mem_cons.mpr ⟨rg_code3, List.forall_mem_cons.mpr ⟨rg_code4, List.forall_mem_cons.mpr ⟨rg_code5, List.forall_mem_cons.mpr ⟨rg_code6, List.forall_mem_cons.mpr ⟨rg_code7, List.forall_mem_nil _⟩⟩⟩⟩⟩⟩⟩⟩
set_option maxRecDepth 16384 in
theorem rg_others_1_0 : (tables_1_1.take 40).all (fun c => su_isCode c || c.before start1.args0 rg_s) = true := by decide +kernel
set_option maxRecDepth 16384 in
theorem rg_others_1_1 : ((tables_1_1.drop 40).take 40).all (fun c => su_isCode c || c.before start1.args0 rg_s) = true := by decide +kernel
set_option maxRecDepth 16384 in
theorem rg_others_1_2 : (((tables_1_1.drop 40).drop 40).take 40).all (fun c => su_isCode c || c.before start1.args0 rg_s) = true := by decide +kernel
set_option maxRecDepth 16384 in
theorem rg_others_1_3 : ((((tables_1_1.drop 40).drop 40).drop 40).take 40).all (fun c => su_isCode c || c.before start1.args0 rg_s) = true := by decide +kernel
set_option maxRecDepth 16384 in
theorem rg_others_1_4 : (((((tables_1_1.drop 40).drop 40).drop 40).drop 40).take 40).all (fun c => su_isCode c || c.before start1.args0 rg_s) = true := by decide +kernel
set_option maxRecDepth 16384 in
theorem rg_others_1_5 : (((((tables_1_1.drop 40).drop 40).drop 40).drop 40).drop 40).all (fun c => su_isCode c || c.before start1.args0 rg_s) = true := by decide +kernel
set_option maxRecDepth 16384 in
theorem rg_others_hold_1 : tables_1_1.all (fun c => su_isCode c || c.before start1.args0 rg_s) = true := start1.su_all_split _ 40 tables_1_1 rg_others_1_0 (start1.su_all_split _ 40 (tables_1_1.drop 40) rg_others_1_1 (start1.su_all_split _ 40 ((tables_1_1.drop 40).drop 40) rg_others_1_2 (start1.su_all_split _ 40 (((tables_1_1.drop 40).drop 40).drop 40) rg_others_1_3 (start1.su_all_split _ 40 ((((tables_1_1.drop 40).drop 40).drop 40).drop 40) rg_others_1_4 rg_others_1_5))))
set_option maxRecDepth 16384 in
theorem rg_words_1 : ∀ c ∈ tables_1_1, c.before start1.args0 rg_s = true := fun c h => su_words rg_others_hold_1 rg_codes_hold_1 c h
end
section
set_option maxRecDepth 16384 in
theorem rg_code8 : (Jvm.Cond.code (⟨"HungerBooks", "good", "(III)Z"⟩ : Jvm.MethodName) prog_1_method_2_code 5 (some .boolean)).before start1.args0 rg_s = true :=
  su_hand_word (m := ⟨2, 1⟩) (by decide +kernel) rfl (by decide +kernel) (by decide +kernel)
set_option maxRecDepth 16384 in
theorem rg_code9 : (Jvm.Cond.code (⟨"HungerBooks", "isGood", "(I)Z"⟩ : Jvm.MethodName) prog_1_method_73_code 1 (some .boolean)).before start1.args0 rg_s = true :=
  su_hand_word (m := ⟨2, 72⟩) (by decide +kernel) rfl (by decide +kernel) (by decide +kernel)
set_option maxRecDepth 16384 in
theorem rg_code10 : (Jvm.Cond.code (⟨"HungerBooks", "within", "(III)Z"⟩ : Jvm.MethodName) prog_1_method_70_code 3 (some .boolean)).before start1.args0 rg_s = true :=
  su_hand_word (m := ⟨2, 69⟩) (by decide +kernel) rfl (by decide +kernel) (by decide +kernel)
set_option maxRecDepth 16384 in
theorem rg_code11 : (Jvm.Cond.code (⟨"HungerBooks", "house", "(IIIII)I"⟩ : Jvm.MethodName) prog_1_method_3_code 8 (some .int)).before start1.args0 rg_s = true :=
  su_hand_word (m := ⟨2, 2⟩) (by decide +kernel) rfl (by decide +kernel) (by decide +kernel)
set_option maxRecDepth 16384 in
theorem rg_code12 : (Jvm.Cond.code (⟨"HungerBooks", "isTown", "(I)Z"⟩ : Jvm.MethodName) prog_1_method_74_code 1 (some .boolean)).before start1.args0 rg_s = true :=
  su_hand_word (m := ⟨2, 73⟩) (by decide +kernel) rfl (by decide +kernel) (by decide +kernel)
set_option maxRecDepth 16384 in
theorem rg_code13 : (Jvm.Cond.code (⟨"HungerBooks", "farmAt", "(I)LHungerBooks$Farm;"⟩ : Jvm.MethodName) prog_1_method_79_code 2 (some (.object "HungerBooks$Farm"))).before start1.args0 rg_s = true :=
  su_hand_word (m := ⟨2, 78⟩) (by decide +kernel) rfl (by decide +kernel) (by decide +kernel)
set_option maxRecDepth 16384 in
theorem rg_code14 : (Jvm.Cond.code (⟨"HungerBooks$House", "<init>", "(IIIIII)V"⟩ : Jvm.MethodName) prog_5_method_1_code 7 none).before start1.args0 rg_s = true :=
  su_hand_word (m := ⟨10, 0⟩) (by decide +kernel) rfl (by decide +kernel) (by decide +kernel)
set_option maxRecDepth 16384 in
theorem rg_code15 : (Jvm.Cond.code (⟨"HungerBooks", "farm", "(II)I"⟩ : Jvm.MethodName) prog_1_method_4_code 4 (some .int)).before start1.args0 rg_s = true :=
  su_hand_word (m := ⟨2, 3⟩) (by decide +kernel) rfl (by decide +kernel) (by decide +kernel)
set_option maxRecDepth 16384 in
theorem rg_code16 : (Jvm.Cond.code (⟨"HungerBooks", "isPlace", "(I)Z"⟩ : Jvm.MethodName) prog_1_method_75_code 1 (some .boolean)).before start1.args0 rg_s = true :=
  su_hand_word (m := ⟨2, 74⟩) (by decide +kernel) rfl (by decide +kernel) (by decide +kernel)
set_option maxRecDepth 16384 in
theorem rg_code17 : (Jvm.Cond.code (⟨"HungerBooks$Farm", "<init>", "(I)V"⟩ : Jvm.MethodName) prog_4_method_1_code 2 none).before start1.args0 rg_s = true :=
  su_hand_word (m := ⟨11, 0⟩) (by decide +kernel) rfl (by decide +kernel) (by decide +kernel)
set_option maxRecDepth 16384 in
theorem rg_code18 : (Jvm.Cond.code (⟨"HungerBooks", "die", "(I)I"⟩ : Jvm.MethodName) prog_1_method_5_code 3 (some .int)).before start1.args0 rg_s = true :=
  su_hand_word (m := ⟨2, 4⟩) (by decide +kernel) rfl (by decide +kernel) (by decide +kernel)
set_option maxRecDepth 16384 in
theorem rg_code19 : (Jvm.Cond.code (⟨"HungerBooks", "houseAt", "(I)LHungerBooks$House;"⟩ : Jvm.MethodName) prog_1_method_78_code 2 (some (.object "HungerBooks$House"))).before start1.args0 rg_s = true :=
  su_hand_word (m := ⟨2, 77⟩) (by decide +kernel) rfl (by decide +kernel) (by decide +kernel)
set_option maxRecDepth 16384 in
theorem rg_code20 : (Jvm.Cond.code (⟨"HungerBooks$House", "loseMouth", "(I)Z"⟩ : Jvm.MethodName) prog_5_method_3_code 2 (some .boolean)).before start1.args0 rg_s = true :=
  su_hand_word (m := ⟨10, 2⟩) (by decide +kernel) rfl (by decide +kernel) (by decide +kernel)
set_option maxRecDepth 16384 in
theorem rg_code21 : (Jvm.Cond.code (⟨"HungerBooks$House", "living", "()I"⟩ : Jvm.MethodName) prog_5_method_2_code 1 (some .int)).before start1.args0 rg_s = true :=
  su_hand_word (m := ⟨10, 1⟩) (by decide +kernel) rfl (by decide +kernel) (by decide +kernel)
set_option maxRecDepth 16384 in
theorem rg_code22 : (Jvm.Cond.code (⟨"HungerBooks", "hear", "(I)I"⟩ : Jvm.MethodName) prog_1_method_6_code 3 (some .int)).before start1.args0 rg_s = true :=
  su_hand_word (m := ⟨2, 5⟩) (by decide +kernel) rfl (by decide +kernel) (by decide +kernel)
set_option maxRecDepth 16384 in
theorem rg_code23 : (Jvm.Cond.code (⟨"HungerBooks$House", "tellDeaths", "(I)I"⟩ : Jvm.MethodName) prog_5_method_4_code 4 (some .int)).before start1.args0 rg_s = true :=
  su_hand_word (m := ⟨10, 3⟩) (by decide +kernel) rfl (by decide +kernel) (by decide +kernel)
set_option maxRecDepth 16384 in
theorem rg_code24 : (Jvm.Cond.code (⟨"HungerBooks", "mouths", "(III)I"⟩ : Jvm.MethodName) prog_1_method_7_code 5 (some .int)).before start1.args0 rg_s = true :=
  su_hand_word (m := ⟨2, 6⟩) (by decide +kernel) rfl (by decide +kernel) (by decide +kernel)
set_option maxRecDepth 16384 in
theorem rg_code25 : (Jvm.Cond.code (⟨"HungerBooks", "isDay", "(I)Z"⟩ : Jvm.MethodName) prog_1_method_71_code 1 (some .boolean)).before start1.args0 rg_s = true :=
  su_hand_word (m := ⟨2, 70⟩) (by decide +kernel) rfl (by decide +kernel) (by decide +kernel)
set_option maxRecDepth 16384 in
theorem rg_code26 : (Jvm.Cond.code (⟨"HungerBooks$House", "mouthsOn", "(I)I"⟩ : Jvm.MethodName) prog_5_method_5_code 2 (some .int)).before start1.args0 rg_s = true :=
  su_hand_word (m := ⟨10, 4⟩) (by decide +kernel) rfl (by decide +kernel) (by decide +kernel)
set_option maxRecDepth 16384 in
theorem rg_code27 : (Jvm.Cond.code (⟨"HungerBooks$House", "mouthsKnown", "(II)I"⟩ : Jvm.MethodName) prog_5_method_6_code 5 (some .int)).before start1.args0 rg_s = true :=
  su_hand_word (m := ⟨10, 5⟩) (by decide +kernel) rfl (by decide +kernel) (by decide +kernel)
set_option maxRecDepth 16384 in
theorem rg_code28 : (Jvm.Cond.code (⟨"HungerBooks", "feed", "(IIIII)I"⟩ : Jvm.MethodName) prog_1_method_8_code 6 (some .int)).before start1.args0 rg_s = true :=
  su_hand_word (m := ⟨2, 7⟩) (by decide +kernel) rfl (by decide +kernel) (by decide +kernel)
set_option maxRecDepth 16384 in
theorem rg_code29 : (Jvm.Cond.code (⟨"HungerBooks", "putBytes", "(I)V"⟩ : Jvm.MethodName) prog_1_method_9_code 3 none).before start1.args0 rg_s = true :=
  su_hand_word (m := ⟨2, 8⟩) (by decide +kernel) rfl (by decide +kernel) (by decide +kernel)
set_option maxRecDepth 16384 in
theorem rg_code30 : (Jvm.Cond.code (⟨"HungerBooks", "orders", "(II)I"⟩ : Jvm.MethodName) prog_1_method_10_code 3 (some .int)).before start1.args0 rg_s = true :=
  su_hand_word (m := ⟨2, 9⟩) (by decide +kernel) rfl (by decide +kernel) (by decide +kernel)
set_option maxRecDepth 16384 in
theorem rg_code31 : (Jvm.Cond.code (⟨"HungerBooks", "isWeek", "(I)Z"⟩ : Jvm.MethodName) prog_1_method_72_code 1 (some .boolean)).before start1.args0 rg_s = true :=
  su_hand_word (m := ⟨2, 71⟩) (by decide +kernel) rfl (by decide +kernel) (by decide +kernel)
set_option maxRecDepth 16384 in
theorem rg_code32 : (Jvm.Cond.code (⟨"HungerBooks$Reader", "read", "([II)Z"⟩ : Jvm.MethodName) prog_10_method_2_code 4 (some .boolean)).before start1.args0 rg_s = true :=
  su_hand_word (m := ⟨3, 1⟩) (by decide +kernel) rfl (by decide +kernel) (by decide +kernel)
set_option maxRecDepth 16384 in
theorem rg_code33 : (Jvm.Cond.code (⟨"HungerBooks$Lexer", "split", "([II)V"⟩ : Jvm.MethodName) prog_6_method_2_code 5 none).before start1.args0 rg_s = true :=
  su_hand_word (m := ⟨4, 1⟩) (by decide +kernel) rfl (by decide +kernel) (by decide +kernel)
set_option maxRecDepth 16384 in
theorem rg_code34 : (Jvm.Cond.code (⟨"java/lang/Math", "min", "(II)I"⟩ : Jvm.MethodName) prog_17_method_69_code 2 (some .int)).before start1.args0 rg_s = true :=
  su_hand_word (m := ⟨12, 2⟩) (by decide +kernel) rfl (by decide +kernel) (by decide +kernel)
set_option maxRecDepth 16384 in
theorem rg_code35 : (Jvm.Cond.code (⟨"HungerBooks$Lexer", "isLetter", "(I)Z"⟩ : Jvm.MethodName) prog_6_method_8_code 1 (some .boolean)).before start1.args0 rg_s = true :=
  su_hand_word (m := ⟨4, 7⟩) (by decide +kernel) rfl (by decide +kernel) (by decide +kernel)
set_option maxRecDepth 16384 in
theorem rg_codes_hold_2 : ∀ c ∈ tables_1_2.filter su_isCode, c.before start1.args0 rg_s = true := by
  rw [start1.codes_are_2]
  exact List.forall_mem_cons.mpr ⟨rg_code8, List.forall_mem_cons.mpr ⟨rg_code9, List.forall_mem_cons.mpr ⟨rg_code10, List.forall_mem_cons.mpr ⟨rg_code11, List.forall_mem_cons.mpr ⟨rg_code12, List.forall_mem_cons.mpr ⟨rg_code13, List.forall_mem_cons.mpr ⟨rg_code14, List.forall_mem_cons.mpr ⟨rg_code15, List.forall_mem_cons.mpr ⟨rg_code16, List.forall_mem_cons.mpr ⟨rg_code17, List.forall_mem_cons.mpr ⟨rg_code18, List.forall_mem_cons.mpr ⟨rg_code19, List.forall_mem_cons.mpr ⟨rg_code20, List.forall_mem_cons.mpr ⟨rg_code21, List.forall_mem_cons.mpr ⟨rg_code22, List.forall_mem_cons.mpr ⟨rg_code23, List.forall_mem_cons.mpr ⟨rg_code24, List.forall_mem_cons.mpr ⟨rg_code25, List.forall_mem_cons.mpr ⟨rg_code26, List.forall_mem_cons.mpr ⟨rg_code27, List.forall_mem_cons.mpr ⟨rg_code28, List.forall_mem_cons.mpr ⟨rg_code29, List.forall_mem_cons.mpr ⟨rg_code30, List.forall_mem_cons.mpr ⟨rg_code31, List.forall_mem_cons.mpr ⟨rg_code32, List.forall_mem_cons.mpr ⟨rg_code33, List.forall_mem_cons.mpr ⟨rg_code34, List.forall_mem_cons.mpr ⟨rg_code35, List.forall_mem_nil _⟩⟩⟩⟩⟩⟩⟩⟩⟩⟩⟩⟩⟩⟩⟩⟩⟩⟩⟩⟩⟩⟩⟩⟩⟩⟩⟩⟩
set_option maxRecDepth 16384 in
theorem rg_others_2_0 : (tables_1_2.take 36).all (fun c => su_isCode c || c.before start1.args0 rg_s) = true := by decide +kernel
set_option maxRecDepth 16384 in
theorem rg_others_2_1 : ((tables_1_2.drop 36).take 36).all (fun c => su_isCode c || c.before start1.args0 rg_s) = true := by decide +kernel
set_option maxRecDepth 16384 in
theorem rg_others_2_2 : (((tables_1_2.drop 36).drop 36).take 40).all (fun c => su_isCode c || c.before start1.args0 rg_s) = true := by decide +kernel
set_option maxRecDepth 16384 in
theorem rg_others_2_3 : ((((tables_1_2.drop 36).drop 36).drop 40).take 40).all (fun c => su_isCode c || c.before start1.args0 rg_s) = true := by decide +kernel
set_option maxRecDepth 16384 in
theorem rg_others_2_4 : (((((tables_1_2.drop 36).drop 36).drop 40).drop 40).take 40).all (fun c => su_isCode c || c.before start1.args0 rg_s) = true := by decide +kernel
set_option maxRecDepth 16384 in
theorem rg_others_2_5 : ((((((tables_1_2.drop 36).drop 36).drop 40).drop 40).drop 40).take 40).all (fun c => su_isCode c || c.before start1.args0 rg_s) = true := by decide +kernel
set_option maxRecDepth 16384 in
theorem rg_others_2_6 : ((((((tables_1_2.drop 36).drop 36).drop 40).drop 40).drop 40).drop 40).all (fun c => su_isCode c || c.before start1.args0 rg_s) = true := by decide +kernel
set_option maxRecDepth 16384 in
theorem rg_others_hold_2 : tables_1_2.all (fun c => su_isCode c || c.before start1.args0 rg_s) = true := start1.su_all_split _ 36 tables_1_2 rg_others_2_0 (start1.su_all_split _ 36 (tables_1_2.drop 36) rg_others_2_1 (start1.su_all_split _ 40 ((tables_1_2.drop 36).drop 36) rg_others_2_2 (start1.su_all_split _ 40 (((tables_1_2.drop 36).drop 36).drop 40) rg_others_2_3 (start1.su_all_split _ 40 ((((tables_1_2.drop 36).drop 36).drop 40).drop 40) rg_others_2_4 (start1.su_all_split _ 40 (((((tables_1_2.drop 36).drop 36).drop 40).drop 40).drop 40) rg_others_2_5 rg_others_2_6)))))
set_option maxRecDepth 16384 in
theorem rg_words_2 : ∀ c ∈ tables_1_2, c.before start1.args0 rg_s = true := fun c h => su_words rg_others_hold_2 rg_codes_hold_2 c h
end
section
set_option maxRecDepth 16384 in
theorem rg_code36 : (Jvm.Cond.code (⟨"HungerBooks$Lexer", "splitWord", "()V"⟩ : Jvm.MethodName) prog_6_method_4_code 4 none).before start1.args0 rg_s = true :=
  su_hand_word (m := ⟨4, 3⟩) (by decide +kernel) rfl (by decide +kernel) (by decide +kernel)
set_option maxRecDepth 16384 in
theorem rg_code37 : (Jvm.Cond.code (⟨"HungerBooks$Lexer", "isWord", "(II)Z"⟩ : Jvm.MethodName) prog_6_method_5_code 6 (some .boolean)).before start1.args0 rg_s = true :=
  su_hand_word (m := ⟨4, 4⟩) (by decide +kernel) rfl (by decide +kernel) (by decide +kernel)
set_option maxRecDepth 16384 in
theorem rg_code38 : (Jvm.Cond.code (⟨"java/lang/String", "charAt", "(I)C"⟩ : Jvm.MethodName) prog_18_method_56_code 2 (some .char)).before start1.args0 rg_s = true :=
  su_hand_word (m := ⟨13, 1⟩) (by decide +kernel) rfl (by decide +kernel) (by decide +kernel)
set_option maxRecDepth 16384 in
theorem rg_code39 : (Jvm.Cond.code (⟨"java/lang/String", "isLatin1", "()Z"⟩ : Jvm.MethodName) prog_18_method_154_code 1 (some .boolean)).before start1.args0 rg_s = true :=
  su_hand_word (m := ⟨13, 5⟩) (by decide +kernel) rfl (by decide +kernel) (by decide +kernel)
set_option maxRecDepth 16384 in
theorem rg_code40 : (Jvm.Cond.code (⟨"java/lang/StringLatin1", "charAt", "([BI)C"⟩ : Jvm.MethodName) prog_19_method_2_code 2 (some .char)).before start1.args0 rg_s = true :=
  su_hand_word (m := ⟨14, 0⟩) (by decide +kernel) rfl (by decide +kernel) (by decide +kernel)
set_option maxRecDepth 16384 in
theorem rg_code41 : (Jvm.Cond.code (⟨"java/lang/String", "checkIndex", "(II)V"⟩ : Jvm.MethodName) prog_18_method_155_code 2 none).before start1.args0 rg_s = true :=
  su_hand_word (m := ⟨13, 6⟩) (by decide +kernel) rfl (by decide +kernel) (by decide +kernel)
set_option maxRecDepth 16384 in
theorem rg_code42 : (Jvm.Cond.code (⟨"jdk/internal/util/Preconditions", "checkIndex", "(IILjava/util/function/BiFunction;)I"⟩ : Jvm.MethodName) prog_23_method_11_code 3 (some .int)).before start1.args0 rg_s = true :=
  su_hand_word (m := ⟨15, 0⟩) (by decide +kernel) rfl (by decide +kernel) (by decide +kernel)
set_option maxRecDepth 16384 in
theorem rg_code43 : (Jvm.Cond.code (⟨"java/lang/StringUTF16", "charAt", "([BI)C"⟩ : Jvm.MethodName) prog_20_method_83_code 2 (some .char)).before start1.args0 rg_s = true :=
  su_hand_word (m := ⟨16, 6⟩) (by decide +kernel) rfl (by decide +kernel) (by decide +kernel)
set_option maxRecDepth 16384 in
theorem rg_code44 : (Jvm.Cond.code (⟨"java/lang/StringUTF16", "checkIndex", "(I[B)V"⟩ : Jvm.MethodName) prog_20_method_91_code 2 none).before start1.args0 rg_s = true :=
  su_hand_word (m := ⟨16, 7⟩) (by decide +kernel) rfl (by decide +kernel) (by decide +kernel)
set_option maxRecDepth 16384 in
theorem rg_code45 : (Jvm.Cond.code (⟨"java/lang/StringUTF16", "length", "([B)I"⟩ : Jvm.MethodName) prog_20_method_6_code 1 (some .int)).before start1.args0 rg_s = true :=
  su_hand_word (m := ⟨16, 1⟩) (by decide +kernel) rfl (by decide +kernel) (by decide +kernel)
set_option maxRecDepth 16384 in
theorem rg_code46 : (Jvm.Cond.code (⟨"java/lang/StringUTF16", "getChar", "([BI)C"⟩ : Jvm.MethodName) prog_20_method_5_code 2 (some .char)).before start1.args0 rg_s = true :=
  su_hand_word (m := ⟨16, 0⟩) (by decide +kernel) rfl (by decide +kernel) (by decide +kernel)
set_option maxRecDepth 16384 in
theorem rg_code47 : (Jvm.Cond.code (⟨"HungerBooks$Lexer", "put", "(III)V"⟩ : Jvm.MethodName) prog_6_method_7_code 4 none).before start1.args0 rg_s = true :=
  su_hand_word (m := ⟨4, 6⟩) (by decide +kernel) rfl (by decide +kernel) (by decide +kernel)
set_option maxRecDepth 16384 in
theorem rg_code48 : (Jvm.Cond.code (⟨"HungerBooks$Lexer", "isDigit", "(I)Z"⟩ : Jvm.MethodName) prog_6_method_9_code 1 (some .boolean)).before start1.args0 rg_s = true :=
  su_hand_word (m := ⟨4, 8⟩) (by decide +kernel) rfl (by decide +kernel) (by decide +kernel)
set_option maxRecDepth 16384 in
theorem rg_code49 : (Jvm.Cond.code (⟨"HungerBooks$Lexer", "splitNumber", "()V"⟩ : Jvm.MethodName) prog_6_method_6_code 3 none).before start1.args0 rg_s = true :=
  su_hand_word (m := ⟨4, 5⟩) (by decide +kernel) rfl (by decide +kernel) (by decide +kernel)
set_option maxRecDepth 16384 in
theorem rg_code50 : (Jvm.Cond.code (⟨"java/lang/String", "indexOf", "(I)I"⟩ : Jvm.MethodName) prog_18_method_79_code 2 (some .int)).before start1.args0 rg_s = true :=
  su_hand_word (m := ⟨13, 2⟩) (by decide +kernel) rfl (by decide +kernel) (by decide +kernel)
set_option maxRecDepth 16384 in
theorem rg_code51 : (Jvm.Cond.code (⟨"java/lang/String", "indexOf", "(II)I"⟩ : Jvm.MethodName) prog_18_method_80_code 3 (some .int)).before start1.args0 rg_s = true :=
  su_hand_word (m := ⟨13, 3⟩) (by decide +kernel) rfl (by decide +kernel) (by decide +kernel)
set_option maxRecDepth 16384 in
theorem rg_code52 : (Jvm.Cond.code (⟨"java/lang/String", "length", "()I"⟩ : Jvm.MethodName) prog_18_method_54_code 1 (some .int)).before start1.args0 rg_s = true :=
  su_hand_word (m := ⟨13, 0⟩) (by decide +kernel) rfl (by decide +kernel) (by decide +kernel)
set_option maxRecDepth 16384 in
theorem rg_code53 : (Jvm.Cond.code (⟨"java/lang/String", "coder", "()B"⟩ : Jvm.MethodName) prog_18_method_152_code 1 (some .byte)).before start1.args0 rg_s = true :=
  su_hand_word (m := ⟨13, 4⟩) (by decide +kernel) rfl (by decide +kernel) (by decide +kernel)
set_option maxRecDepth 16384 in
theorem rg_code54 : (Jvm.Cond.code (⟨"java/lang/StringLatin1", "indexOf", "([BIII)I"⟩ : Jvm.MethodName) prog_19_method_22_code 4 (some .int)).before start1.args0 rg_s = true :=
  su_hand_word (m := ⟨14, 2⟩) (by decide +kernel) rfl (by decide +kernel) (by decide +kernel)
set_option maxRecDepth 16384 in
theorem rg_code55 : (Jvm.Cond.code (⟨"java/lang/StringLatin1", "canEncode", "(I)Z"⟩ : Jvm.MethodName) prog_19_method_4_code 1 (some .boolean)).before start1.args0 rg_s = true :=
  su_hand_word (m := ⟨14, 1⟩) (by decide +kernel) rfl (by decide +kernel) (by decide +kernel)
set_option maxRecDepth 16384 in
theorem rg_code56 : (Jvm.Cond.code (⟨"java/lang/Math", "max", "(II)I"⟩ : Jvm.MethodName) prog_17_method_65_code 2 (some .int)).before start1.args0 rg_s = true :=
  su_hand_word (m := ⟨12, 0⟩) (by decide +kernel) rfl (by decide +kernel) (by decide +kernel)
set_option maxRecDepth 16384 in
theorem rg_code57 : (Jvm.Cond.code (⟨"java/lang/StringLatin1", "indexOfChar", "([BIII)I"⟩ : Jvm.MethodName) prog_19_method_23_code 6 (some .int)).before start1.args0 rg_s = true :=
  su_hand_word (m := ⟨14, 3⟩) (by decide +kernel) rfl (by decide +kernel) (by decide +kernel)
set_option maxRecDepth 16384 in
theorem rg_code58 : (Jvm.Cond.code (⟨"java/lang/StringUTF16", "indexOf", "([BIII)I"⟩ : Jvm.MethodName) prog_20_method_40_code 4 (some .int)).before start1.args0 rg_s = true :=
  su_hand_word (m := ⟨16, 2⟩) (by decide +kernel) rfl (by decide +kernel) (by decide +kernel)
set_option maxRecDepth 16384 in
theorem rg_code59 : (Jvm.Cond.code (⟨"java/lang/StringUTF16", "indexOfChar", "([BIII)I"⟩ : Jvm.MethodName) prog_20_method_47_code 4 (some .int)).before start1.args0 rg_s = true :=
  su_hand_word (m := ⟨16, 3⟩) (by decide +kernel) rfl (by decide +kernel) (by decide +kernel)
set_option maxRecDepth 16384 in
theorem rg_code60 : (Jvm.Cond.code (⟨"java/lang/StringUTF16", "checkBoundsBeginEnd", "(II[B)V"⟩ : Jvm.MethodName) prog_20_method_93_code 3 none).before start1.args0 rg_s = true :=
  su_hand_word (m := ⟨16, 8⟩) (by decide +kernel) rfl (by decide +kernel) (by decide +kernel)
set_option maxRecDepth 16384 in
theorem rg_code61 : (Jvm.Cond.code (⟨"java/lang/String", "checkBoundsBeginEnd", "(III)V"⟩ : Jvm.MethodName) prog_18_method_158_code 3 none).before start1.args0 rg_s = true :=
  su_hand_word (m := ⟨13, 7⟩) (by decide +kernel) rfl (by decide +kernel) (by decide +kernel)
set_option maxRecDepth 16384 in
theorem rg_code62 : (Jvm.Cond.code (⟨"jdk/internal/util/Preconditions", "checkFromToIndex", "(IIILjava/util/function/BiFunction;)I"⟩ : Jvm.MethodName) prog_23_method_12_code 4 (some .int)).before start1.args0 rg_s = true :=
  su_hand_word (m := ⟨15, 1⟩) (by decide +kernel) rfl (by decide +kernel) (by decide +kernel)
set_option maxRecDepth 16384 in
theorem rg_code63 : (Jvm.Cond.code (⟨"java/lang/StringUTF16", "indexOfCharUnsafe", "([BIII)I"⟩ : Jvm.MethodName) prog_20_method_48_code 5 (some .int)).before start1.args0 rg_s = true :=
  su_hand_word (m := ⟨16, 4⟩) (by decide +kernel) rfl (by decide +kernel) (by decide +kernel)
set_option maxRecDepth 16384 in
theorem rg_code64 : (Jvm.Cond.code (⟨"java/lang/StringUTF16", "indexOfSupplementary", "([BIII)I"⟩ : Jvm.MethodName) prog_20_method_49_code 7 (some .int)).before start1.args0 rg_s = true :=
  su_hand_word (m := ⟨16, 5⟩) (by decide +kernel) rfl (by decide +kernel) (by decide +kernel)
set_option maxRecDepth 16384 in
theorem rg_code65 : (Jvm.Cond.code (⟨"java/lang/Character", "isValidCodePoint", "(I)Z"⟩ : Jvm.MethodName) prog_15_method_11_code 2 (some .boolean)).before start1.args0 rg_s = true :=
  su_hand_word (m := ⟨17, 0⟩) (by decide +kernel) rfl (by decide +kernel) (by decide +kernel)
set_option maxRecDepth 16384 in
theorem rg_code66 : (Jvm.Cond.code (⟨"java/lang/Character", "highSurrogate", "(I)C"⟩ : Jvm.MethodName) prog_15_method_28_code 1 (some .char)).before start1.args0 rg_s = true :=
  su_hand_word (m := ⟨17, 1⟩) (by decide +kernel) rfl (by decide +kernel) (by decide +kernel)
set_option maxRecDepth 16384 in
theorem rg_code67 : (Jvm.Cond.code (⟨"java/lang/Character", "lowSurrogate", "(I)C"⟩ : Jvm.MethodName) prog_15_method_29_code 1 (some .char)).before start1.args0 rg_s = true :=
  su_hand_word (m := ⟨17, 2⟩) (by decide +kernel) rfl (by decide +kernel) (by decide +kernel)
set_option maxRecDepth 16384 in
theorem rg_code68 : (Jvm.Cond.code (⟨"HungerBooks$Lexer", "splitSign", "(I)V"⟩ : Jvm.MethodName) prog_6_method_3_code 2 none).before start1.args0 rg_s = true :=
  su_hand_word (m := ⟨4, 2⟩) (by decide +kernel) rfl (by decide +kernel) (by decide +kernel)
set_option maxRecDepth 16384 in
theorem rg_code69 : (Jvm.Cond.code (⟨"HungerBooks$Reader", "step", "()V"⟩ : Jvm.MethodName) prog_10_method_15_code 1 none).before start1.args0 rg_s = true :=
  su_hand_word (m := ⟨3, 14⟩) (by decide +kernel) rfl (by decide +kernel) (by decide +kernel)
set_option maxRecDepth 16384 in
theorem rg_code70 : (Jvm.Cond.code (⟨"HungerBooks$Reader", "statement", "()Z"⟩ : Jvm.MethodName) prog_10_method_3_code 3 (some .boolean)).before start1.args0 rg_s = true :=
  su_hand_word (m := ⟨3, 2⟩) (by decide +kernel) rfl (by decide +kernel) (by decide +kernel)
set_option maxRecDepth 16384 in
theorem rg_code71 : (Jvm.Cond.code (⟨"HungerBooks$Reader", "gradedRule", "(I)Z"⟩ : Jvm.MethodName) prog_10_method_4_code 5 (some .boolean)).before start1.args0 rg_s = true :=
  su_hand_word (m := ⟨3, 3⟩) (by decide +kernel) rfl (by decide +kernel) (by decide +kernel)
set_option maxRecDepth 16384 in
theorem rg_code72 : (Jvm.Cond.code (⟨"HungerBooks$Reader", "sum", "(I)Z"⟩ : Jvm.MethodName) prog_10_method_6_code 4 (some .boolean)).before start1.args0 rg_s = true :=
  su_hand_word (m := ⟨3, 5⟩) (by decide +kernel) rfl (by decide +kernel) (by decide +kernel)
set_option maxRecDepth 16384 in
theorem rg_code73 : (Jvm.Cond.code (⟨"HungerBooks$Reader", "product", "(I)Z"⟩ : Jvm.MethodName) prog_10_method_7_code 4 (some .boolean)).before start1.args0 rg_s = true :=
  su_hand_word (m := ⟨3, 6⟩) (by decide +kernel) rfl (by decide +kernel) (by decide +kernel)
set_option maxRecDepth 16384 in
theorem rg_code74 : (Jvm.Cond.code (⟨"HungerBooks$Reader", "atom", "(I)Z"⟩ : Jvm.MethodName) prog_10_method_8_code 2 (some .boolean)).before start1.args0 rg_s = true :=
  su_hand_word (m := ⟨3, 7⟩) (by decide +kernel) rfl (by decide +kernel) (by decide +kernel)
set_option maxRecDepth 16384 in
theorem rg_code75 : (Jvm.Cond.code (⟨"HungerBooks$Reader", "took", "(I)Z"⟩ : Jvm.MethodName) prog_10_method_14_code 2 (some .boolean)).before start1.args0 rg_s = true :=
  su_hand_word (m := ⟨3, 13⟩) (by decide +kernel) rfl (by decide +kernel) (by decide +kernel)
set_option maxRecDepth 16384 in
theorem rg_code76 : (Jvm.Cond.code (⟨"HungerBooks$Reader", "lay", "(I)V"⟩ : Jvm.MethodName) prog_10_method_16_code 2 none).before start1.args0 rg_s = true :=
  su_hand_word (m := ⟨3, 15⟩) (by decide +kernel) rfl (by decide +kernel) (by decide +kernel)
set_option maxRecDepth 16384 in
theorem rg_code77 : (Jvm.Cond.code (⟨"HungerBooks$Reader", "anyOf", "(I)Z"⟩ : Jvm.MethodName) prog_10_method_9_code 3 (some .boolean)).before start1.args0 rg_s = true :=
  su_hand_word (m := ⟨3, 8⟩) (by decide +kernel) rfl (by decide +kernel) (by decide +kernel)
set_option maxRecDepth 16384 in
theorem rg_code78 : (Jvm.Cond.code (⟨"HungerBooks$Reader", "allOf", "(I)Z"⟩ : Jvm.MethodName) prog_10_method_10_code 3 (some .boolean)).before start1.args0 rg_s = true :=
  su_hand_word (m := ⟨3, 9⟩) (by decide +kernel) rfl (by decide +kernel) (by decide +kernel)
set_option maxRecDepth 16384 in
theorem rg_code79 : (Jvm.Cond.code (⟨"HungerBooks$Reader", "one", "(I)Z"⟩ : Jvm.MethodName) prog_10_method_11_code 3 (some .boolean)).before start1.args0 rg_s = true :=
  su_hand_word (m := ⟨3, 10⟩) (by decide +kernel) rfl (by decide +kernel) (by decide +kernel)
set_option maxRecDepth 16384 in
theorem rg_code80 : (Jvm.Cond.code (⟨"HungerBooks$Reader", "denied", "(I)Z"⟩ : Jvm.MethodName) prog_10_method_12_code 2 (some .boolean)).before start1.args0 rg_s = true :=
  su_hand_word (m := ⟨3, 11⟩) (by decide +kernel) rfl (by decide +kernel) (by decide +kernel)
end
section
set_option maxRecDepth 16384 in
theorem rg_code81 : (Jvm.Cond.code (⟨"HungerBooks$Reader", "braced", "(I)Z"⟩ : Jvm.MethodName) prog_10_method_13_code 2 (some .boolean)).before start1.args0 rg_s = true :=
  su_hand_word (m := ⟨3, 12⟩) (by decide +kernel) rfl (by decide +kernel) (by decide +kernel)
set_option maxRecDepth 16384 in
theorem rg_code82 : (Jvm.Cond.code (⟨"HungerBooks$Statement", "<init>", "(IIIII)V"⟩ : Jvm.MethodName) prog_12_method_1_code 6 none).before start1.args0 rg_s = true :=
  su_hand_word (m := ⟨18, 0⟩) (by decide +kernel) rfl (by decide +kernel) (by decide +kernel)
set_option maxRecDepth 16384 in
theorem rg_code83 : (Jvm.Cond.code (⟨"HungerBooks$Reader", "draft", "(LHungerBooks$Statement;)V"⟩ : Jvm.MethodName) prog_10_method_17_code 2 none).before start1.args0 rg_s = true :=
  su_hand_word (m := ⟨3, 16⟩) (by decide +kernel) rfl (by decide +kernel) (by decide +kernel)
set_option maxRecDepth 16384 in
theorem rg_code84 : (Jvm.Cond.code (⟨"HungerBooks$Reader", "settingRule", "(I)Z"⟩ : Jvm.MethodName) prog_10_method_5_code 2 (some .boolean)).before start1.args0 rg_s = true :=
  su_hand_word (m := ⟨3, 4⟩) (by decide +kernel) rfl (by decide +kernel) (by decide +kernel)
set_option maxRecDepth 16384 in
theorem rg_code85 : (Jvm.Cond.code (⟨"HungerBooks$Orders", "<init>", "(LHungerBooks$Reader;II)V"⟩ : Jvm.MethodName) prog_8_method_1_code 5 none).before start1.args0 rg_s = true :=
  su_hand_word (m := ⟨19, 0⟩) (by decide +kernel) rfl (by decide +kernel) (by decide +kernel)
set_option maxRecDepth 16384 in
theorem rg_code86 : (Jvm.Cond.code (⟨"java/util/Arrays", "copyOf", "([II)[I"⟩ : Jvm.MethodName) prog_22_method_123_code 3 (some (.array .int))).before start1.args0 rg_s = true :=
  su_hand_word (m := ⟨20, 2⟩) (by decide +kernel) rfl (by decide +kernel) (by decide +kernel)
set_option maxRecDepth 16384 in
theorem rg_codes_hold_3 : ∀ c ∈ tables_1_3.filter su_isCode, c.before start1.args0 rg_s = true := by
  rw [start1.codes_are_3]
  exact List.forall_mem_cons.mpr ⟨rg_code36, List.forall_mem_cons.mpr ⟨rg_code37, List.forall_mem_cons.mpr ⟨rg_code38, List.forall_mem_cons.mpr ⟨rg_code39, List.forall_mem_cons.mpr ⟨rg_code40, List.forall_mem_cons.mpr ⟨rg_code41, List.forall_mem_cons.mpr ⟨rg_code42, List.forall_mem_cons.mpr ⟨rg_code43, List.forall_mem_cons.mpr ⟨rg_code44, List.forall_mem_cons.mpr ⟨rg_code45, List.forall_mem_cons.mpr ⟨rg_code46, List.forall_mem_cons.mpr ⟨rg_code47, List.forall_mem_cons.mpr ⟨rg_code48, List.forall_mem_cons.mpr ⟨rg_code49, List.forall_mem_cons.mpr ⟨rg_code50, List.forall_mem_cons.mpr ⟨rg_code51, List.forall_mem_cons.mpr ⟨rg_code52, List.forall_mem_cons.mpr ⟨rg_code53, List.forall_mem_cons.mpr ⟨rg_code54, List.forall_mem_cons.mpr ⟨rg_code55, List.forall_mem_cons.mpr ⟨rg_code56, List.forall_mem_cons.mpr ⟨rg_code57, List.forall_mem_cons.mpr ⟨rg_code58, List.forall_mem_cons.mpr ⟨rg_code59, List.forall_mem_cons.mpr ⟨rg_code60, List.forall_mem_cons.mpr ⟨rg_code61, List.forall_mem_cons.mpr ⟨rg_code62, List.forall_mem_cons.mpr ⟨rg_code63, List.forall_mem_cons.mpr ⟨rg_code64, List.forall_mem_cons.mpr ⟨rg_code65, List.forall_mem_cons.mpr ⟨rg_code66, List.forall_mem_cons.mpr ⟨rg_code67, List.forall_mem_cons.mpr ⟨rg_code68, List.forall_mem_cons.mpr ⟨rg_code69, List.forall_mem_cons.mpr ⟨rg_code70, List.forall_mem_cons.mpr ⟨rg_code71, List.forall_mem_cons.mpr ⟨rg_code72, List.forall_mem_cons.mpr ⟨rg_code73, List.forall_mem_cons.mpr ⟨rg_code74, List.forall_mem_cons.mpr ⟨rg_code75, List.forall_mem_cons.mpr ⟨rg_code76, List.forall_mem_cons.mpr ⟨rg_code77, List.forall_mem_cons.mpr ⟨rg_code78, List.forall_mem_cons.mpr ⟨rg_code79, List.forall_mem_cons.mpr ⟨rg_code80, List.forall_mem_cons.mpr ⟨rg_code81, List.forall_mem_cons.mpr ⟨rg_code82, List.forall_mem_cons.mpr ⟨rg_code83, List.forall_mem_cons.mpr ⟨rg_code84, List.forall_mem_cons.mpr ⟨rg_code85, List.forall_mem_cons.mpr ⟨rg_code86, List.forall_mem_nil _⟩⟩⟩⟩⟩⟩⟩⟩⟩⟩⟩⟩⟩⟩⟩⟩⟩⟩⟩⟩⟩⟩⟩⟩⟩⟩⟩⟩⟩⟩⟩⟩⟩⟩⟩⟩⟩⟩⟩⟩⟩⟩⟩⟩⟩⟩⟩⟩⟩⟩⟩
set_option maxRecDepth 16384 in
theorem rg_others_3_0 : (tables_1_3.take 19).all (fun c => su_isCode c || c.before start1.args0 rg_s) = true := by decide +kernel
set_option maxRecDepth 16384 in
theorem rg_others_3_1 : ((tables_1_3.drop 19).take 18).all (fun c => su_isCode c || c.before start1.args0 rg_s) = true := by decide +kernel
set_option maxRecDepth 16384 in
theorem rg_others_3_2 : (((tables_1_3.drop 19).drop 18).take 27).all (fun c => su_isCode c || c.before start1.args0 rg_s) = true := by decide +kernel
set_option maxRecDepth 16384 in
theorem rg_others_3_3 : ((((tables_1_3.drop 19).drop 18).drop 27).take 15).all (fun c => su_isCode c || c.before start1.args0 rg_s) = true := by decide +kernel
set_option maxRecDepth 16384 in
theorem rg_others_3_4 : (((((tables_1_3.drop 19).drop 18).drop 27).drop 15).take 22).all (fun c => su_isCode c || c.before start1.args0 rg_s) = true := by decide +kernel
set_option maxRecDepth 16384 in
theorem rg_others_3_5 : ((((((tables_1_3.drop 19).drop 18).drop 27).drop 15).drop 22).take 40).all (fun c => su_isCode c || c.before start1.args0 rg_s) = true := by decide +kernel
set_option maxRecDepth 16384 in
theorem rg_others_3_6 : (((((((tables_1_3.drop 19).drop 18).drop 27).drop 15).drop 22).drop 40).take 40).all (fun c => su_isCode c || c.before start1.args0 rg_s) = true := by decide +kernel
set_option maxRecDepth 16384 in
theorem rg_others_3_7 : ((((((((tables_1_3.drop 19).drop 18).drop 27).drop 15).drop 22).drop 40).drop 40).take 40).all (fun c => su_isCode c || c.before start1.args0 rg_s) = true := by decide +kernel
set_option maxRecDepth 16384 in
theorem rg_others_3_8 : ((((((((tables_1_3.drop 19).drop 18).drop 27).drop 15).drop 22).drop 40).drop 40).drop 40).all (fun c => su_isCode c || c.before start1.args0 rg_s) = true := by decide +kernel
set_option maxRecDepth 16384 in
theorem rg_others_hold_3 : tables_1_3.all (fun c => su_isCode c || c.before start1.args0 rg_s) = true := start1.su_all_split _ 19 tables_1_3 rg_others_3_0 (start1.su_all_split _ 18 (tables_1_3.drop 19) rg_others_3_1 (start1.su_all_split _ 27 ((tables_1_3.drop 19).drop 18) rg_others_3_2 (start1.su_all_split _ 15 (((tables_1_3.drop 19).drop 18).drop 27) rg_others_3_3 (start1.su_all_split _ 22 ((((tables_1_3.drop 19).drop 18).drop 27).drop 15) rg_others_3_4 (start1.su_all_split _ 40 (((((tables_1_3.drop 19).drop 18).drop 27).drop 15).drop 22) rg_others_3_5 (start1.su_all_split _ 40 ((((((tables_1_3.drop 19).drop 18).drop 27).drop 15).drop 22).drop 40) rg_others_3_6 (start1.su_all_split _ 40 (((((((tables_1_3.drop 19).drop 18).drop 27).drop 15).drop 22).drop 40).drop 40) rg_others_3_7 rg_others_3_8)))))))
set_option maxRecDepth 16384 in
theorem rg_words_3 : ∀ c ∈ tables_1_3, c.before start1.args0 rg_s = true := fun c h => su_words rg_others_hold_3 rg_codes_hold_3 c h
end
section
set_option maxRecDepth 16384 in
theorem rg_code87 : (Jvm.Cond.code (⟨"HungerBooks$Decrees", "keep", "(LHungerBooks$Orders;)I"⟩ : Jvm.MethodName) prog_2_method_2_code 2 (some .int)).before start1.args0 rg_s = true :=
  su_hand_word (m := ⟨5, 1⟩) (by decide +kernel) rfl (by decide +kernel) (by decide +kernel)
set_option maxRecDepth 16384 in
theorem rg_code88 : (Jvm.Cond.code (⟨"HungerBooks", "fault", "()I"⟩ : Jvm.MethodName) prog_1_method_11_code 1 (some .int)).before start1.args0 rg_s = true :=
  su_hand_word (m := ⟨2, 10⟩) (by decide +kernel) rfl (by decide +kernel) (by decide +kernel)
set_option maxRecDepth 16384 in
theorem rg_code89 : (Jvm.Cond.code (⟨"HungerBooks", "rule", "(III)I"⟩ : Jvm.MethodName) prog_1_method_12_code 4 (some .int)).before start1.args0 rg_s = true :=
  su_hand_word (m := ⟨2, 11⟩) (by decide +kernel) rfl (by decide +kernel) (by decide +kernel)
set_option maxRecDepth 16384 in
theorem rg_code90 : (Jvm.Cond.code (⟨"HungerBooks$Decrees", "setting", "(III)I"⟩ : Jvm.MethodName) prog_2_method_5_code 7 (some .int)).before start1.args0 rg_s = true :=
  su_hand_word (m := ⟨5, 4⟩) (by decide +kernel) rfl (by decide +kernel) (by decide +kernel)
set_option maxRecDepth 16384 in
theorem rg_code91 : (Jvm.Cond.code (⟨"HungerBooks$Decrees", "inForce", "(II)I"⟩ : Jvm.MethodName) prog_2_method_3_code 7 (some .int)).before start1.args0 rg_s = true :=
  su_hand_word (m := ⟨5, 2⟩) (by decide +kernel) rfl (by decide +kernel) (by decide +kernel)
set_option maxRecDepth 16384 in
theorem rg_code92 : (Jvm.Cond.code (⟨"HungerBooks$Decrees", "ordersAt", "(I)LHungerBooks$Orders;"⟩ : Jvm.MethodName) prog_2_method_4_code 2 (some (.object "HungerBooks$Orders"))).before start1.args0 rg_s = true :=
  su_hand_word (m := ⟨5, 3⟩) (by decide +kernel) rfl (by decide +kernel) (by decide +kernel)
set_option maxRecDepth 16384 in
theorem rg_code93 : (Jvm.Cond.code (⟨"HungerBooks", "priceOf", "(III)I"⟩ : Jvm.MethodName) prog_1_method_18_code 4 (some .int)).before start1.args0 rg_s = true :=
  su_hand_word (m := ⟨2, 17⟩) (by decide +kernel) rfl (by decide +kernel) (by decide +kernel)
set_option maxRecDepth 16384 in
theorem rg_code94 : (Jvm.Cond.code (⟨"HungerBooks$Decrees", "nameAll", "(IIIII)V"⟩ : Jvm.MethodName) prog_2_method_6_code 6 none).before start1.args0 rg_s = true :=
  su_hand_word (m := ⟨5, 5⟩) (by decide +kernel) rfl (by decide +kernel) (by decide +kernel)
set_option maxRecDepth 16384 in
theorem rg_code95 : (Jvm.Cond.code (⟨"HungerBooks$Decrees", "graded", "(IIIII)I"⟩ : Jvm.MethodName) prog_2_method_7_code 11 (some .int)).before start1.args0 rg_s = true :=
  su_hand_word (m := ⟨5, 6⟩) (by decide +kernel) rfl (by decide +kernel) (by decide +kernel)
set_option maxRecDepth 16384 in
theorem rg_code96 : (Jvm.Cond.code (⟨"HungerBooks$Decrees", "reckon", "([III)I"⟩ : Jvm.MethodName) prog_2_method_8_code 9 (some .int)).before start1.args0 rg_s = true :=
  su_hand_word (m := ⟨5, 7⟩) (by decide +kernel) rfl (by decide +kernel) (by decide +kernel)
set_option maxRecDepth 16384 in
theorem rg_code97 : (Jvm.Cond.code (⟨"HungerBooks$Decrees", "joined", "(IJJ)J"⟩ : Jvm.MethodName) prog_2_method_9_code 5 (some .long)).before start1.args0 rg_s = true :=
  su_hand_word (m := ⟨5, 8⟩) (by decide +kernel) rfl (by decide +kernel) (by decide +kernel)
set_option maxRecDepth 16384 in
theorem rg_code98 : (Jvm.Cond.code (⟨"java/lang/Math", "min", "(JJ)J"⟩ : Jvm.MethodName) prog_17_method_70_code 4 (some .long)).before start1.args0 rg_s = true :=
  su_hand_word (m := ⟨12, 3⟩) (by decide +kernel) rfl (by decide +kernel) (by decide +kernel)
set_option maxRecDepth 16384 in
theorem rg_code99 : (Jvm.Cond.code (⟨"java/lang/Math", "max", "(JJ)J"⟩ : Jvm.MethodName) prog_17_method_66_code 4 (some .long)).before start1.args0 rg_s = true :=
  su_hand_word (m := ⟨12, 1⟩) (by decide +kernel) rfl (by decide +kernel) (by decide +kernel)
set_option maxRecDepth 16384 in
theorem rg_code100 : (Jvm.Cond.code (⟨"HungerBooks", "card", "(IIII)I"⟩ : Jvm.MethodName) prog_1_method_13_code 6 (some .int)).before start1.args0 rg_s = true :=
  su_hand_word (m := ⟨2, 12⟩) (by decide +kernel) rfl (by decide +kernel) (by decide +kernel)
set_option maxRecDepth 16384 in
theorem rg_code101 : (Jvm.Cond.code (⟨"HungerBooks", "cardKnown", "(LHungerBooks$House;III)I"⟩ : Jvm.MethodName) prog_1_method_15_code 5 (some .int)).before start1.args0 rg_s = true :=
  su_hand_word (m := ⟨2, 14⟩) (by decide +kernel) rfl (by decide +kernel) (by decide +kernel)
set_option maxRecDepth 16384 in
theorem rg_code102 : (Jvm.Cond.code (⟨"HungerBooks", "cardFor", "(LHungerBooks$House;IIII)I"⟩ : Jvm.MethodName) prog_1_method_16_code 6 (some .int)).before start1.args0 rg_s = true :=
  su_hand_word (m := ⟨2, 15⟩) (by decide +kernel) rfl (by decide +kernel) (by decide +kernel)
set_option maxRecDepth 16384 in
theorem rg_code103 : (Jvm.Cond.code (⟨"HungerBooks", "quota", "(IIII)I"⟩ : Jvm.MethodName) prog_1_method_14_code 6 (some .int)).before start1.args0 rg_s = true :=
  su_hand_word (m := ⟨2, 13⟩) (by decide +kernel) rfl (by decide +kernel) (by decide +kernel)
set_option maxRecDepth 16384 in
theorem rg_code104 : (Jvm.Cond.code (⟨"HungerBooks", "quotaOf", "(LHungerBooks$Farm;IIII)I"⟩ : Jvm.MethodName) prog_1_method_17_code 6 (some .int)).before start1.args0 rg_s = true :=
  su_hand_word (m := ⟨2, 16⟩) (by decide +kernel) rfl (by decide +kernel) (by decide +kernel)
set_option maxRecDepth 16384 in
theorem rg_code105 : (Jvm.Cond.code (⟨"HungerBooks", "cropped", "(III)I"⟩ : Jvm.MethodName) prog_1_method_56_code 8 (some .int)).before start1.args0 rg_s = true :=
  su_hand_word (m := ⟨2, 55⟩) (by decide +kernel) rfl (by decide +kernel) (by decide +kernel)
set_option maxRecDepth 16384 in
theorem rg_code106 : (Jvm.Cond.code (⟨"HungerBooks$Lot", "isOf", "(II)Z"⟩ : Jvm.MethodName) prog_7_method_3_code 3 (some .boolean)).before start1.args0 rg_s = true :=
  su_hand_word (m := ⟨22, 2⟩) (by decide +kernel) rfl (by decide +kernel) (by decide +kernel)
set_option maxRecDepth 16384 in
theorem rg_code107 : (Jvm.Cond.code (⟨"HungerBooks$Lot", "week", "()I"⟩ : Jvm.MethodName) prog_7_method_4_code 1 (some .int)).before start1.args0 rg_s = true :=
  su_hand_word (m := ⟨22, 3⟩) (by decide +kernel) rfl (by decide +kernel) (by decide +kernel)
set_option maxRecDepth 16384 in
theorem rg_code108 : (Jvm.Cond.code (⟨"HungerBooks", "crop", "(III)I"⟩ : Jvm.MethodName) prog_1_method_21_code 5 (some .int)).before start1.args0 rg_s = true :=
  su_hand_word (m := ⟨2, 20⟩) (by decide +kernel) rfl (by decide +kernel) (by decide +kernel)
set_option maxRecDepth 16384 in
theorem rg_code109 : (Jvm.Cond.code (⟨"HungerBooks$Lot", "<init>", "(ILHungerBooks$Lot;III)V"⟩ : Jvm.MethodName) prog_7_method_1_code 6 none).before start1.args0 rg_s = true :=
  su_hand_word (m := ⟨22, 0⟩) (by decide +kernel) rfl (by decide +kernel) (by decide +kernel)
set_option maxRecDepth 16384 in
theorem rg_code110 : (Jvm.Cond.code (⟨"HungerBooks$Lot", "bring", "(III)V"⟩ : Jvm.MethodName) prog_7_method_2_code 4 none).before start1.args0 rg_s = true :=
  su_hand_word (m := ⟨22, 1⟩) (by decide +kernel) rfl (by decide +kernel) (by decide +kernel)
set_option maxRecDepth 16384 in
theorem rg_code111 : (Jvm.Cond.code (⟨"HungerBooks", "keepLot", "(LHungerBooks$Lot;)I"⟩ : Jvm.MethodName) prog_1_method_29_code 3 (some .int)).before start1.args0 rg_s = true :=
  su_hand_word (m := ⟨2, 28⟩) (by decide +kernel) rfl (by decide +kernel) (by decide +kernel)
set_option maxRecDepth 16384 in
theorem rg_code112 : (Jvm.Cond.code (⟨"HungerBooks$House", "chain", "(LHungerBooks$Lot;)V"⟩ : Jvm.MethodName) prog_5_method_7_code 2 none).before start1.args0 rg_s = true :=
  su_hand_word (m := ⟨10, 6⟩) (by decide +kernel) rfl (by decide +kernel) (by decide +kernel)
set_option maxRecDepth 16384 in
theorem rg_code113 : (Jvm.Cond.code (⟨"HungerBooks", "deliver", "(II)I"⟩ : Jvm.MethodName) prog_1_method_22_code 6 (some .int)).before start1.args0 rg_s = true :=
  su_hand_word (m := ⟨2, 21⟩) (by decide +kernel) rfl (by decide +kernel) (by decide +kernel)
set_option maxRecDepth 16384 in
theorem rg_code114 : (Jvm.Cond.code (⟨"HungerBooks", "lotAt", "(I)LHungerBooks$Lot;"⟩ : Jvm.MethodName) prog_1_method_80_code 2 (some (.object "HungerBooks$Lot"))).before start1.args0 rg_s = true :=
  su_hand_word (m := ⟨2, 79⟩) (by decide +kernel) rfl (by decide +kernel) (by decide +kernel)
set_option maxRecDepth 16384 in
theorem rg_code115 : (Jvm.Cond.code (⟨"HungerBooks", "canHandOn", "(LHungerBooks$Lot;I)Z"⟩ : Jvm.MethodName) prog_1_method_27_code 3 (some .boolean)).before start1.args0 rg_s = true :=
  su_hand_word (m := ⟨2, 26⟩) (by decide +kernel) rfl (by decide +kernel) (by decide +kernel)
set_option maxRecDepth 16384 in
theorem rg_code116 : (Jvm.Cond.code (⟨"HungerBooks", "priceNow", "(I)I"⟩ : Jvm.MethodName) prog_1_method_19_code 2 (some .int)).before start1.args0 rg_s = true :=
  su_hand_word (m := ⟨2, 18⟩) (by decide +kernel) rfl (by decide +kernel) (by decide +kernel)
set_option maxRecDepth 16384 in
theorem rg_code117 : (Jvm.Cond.code (⟨"HungerBooks", "thisWeek", "()I"⟩ : Jvm.MethodName) prog_1_method_77_code 1 (some .int)).before start1.args0 rg_s = true :=
  su_hand_word (m := ⟨2, 76⟩) (by decide +kernel) rfl (by decide +kernel) (by decide +kernel)
set_option maxRecDepth 16384 in
theorem rg_code118 : (Jvm.Cond.code (⟨"HungerBooks", "handOn", "(LHungerBooks$Lot;IIII)I"⟩ : Jvm.MethodName) prog_1_method_28_code 7 (some .int)).before start1.args0 rg_s = true :=
  su_hand_word (m := ⟨2, 27⟩) (by decide +kernel) rfl (by decide +kernel) (by decide +kernel)
set_option maxRecDepth 16384 in
theorem rg_code119 : (Jvm.Cond.code (⟨"HungerBooks", "buy", "(IIIZ)J"⟩ : Jvm.MethodName) prog_1_method_23_code 10 (some .long)).before start1.args0 rg_s = true :=
  su_hand_word (m := ⟨2, 22⟩) (by decide +kernel) rfl (by decide +kernel) (by decide +kernel)
set_option maxRecDepth 16384 in
theorem rg_code120 : (Jvm.Cond.code (⟨"HungerBooks", "piecesHeld", "(II)I"⟩ : Jvm.MethodName) prog_1_method_30_code 5 (some .int)).before start1.args0 rg_s = true :=
  su_hand_word (m := ⟨2, 29⟩) (by decide +kernel) rfl (by decide +kernel) (by decide +kernel)
set_option maxRecDepth 16384 in
theorem rg_code121 : (Jvm.Cond.code (⟨"HungerBooks", "ticketsLeft", "(LHungerBooks$House;I)I"⟩ : Jvm.MethodName) prog_1_method_31_code 4 (some .int)).before start1.args0 rg_s = true :=
  su_hand_word (m := ⟨2, 30⟩) (by decide +kernel) rfl (by decide +kernel) (by decide +kernel)
set_option maxRecDepth 16384 in
theorem rg_code122 : (Jvm.Cond.code (⟨"HungerBooks", "boughtOnTickets", "(LHungerBooks$House;II)I"⟩ : Jvm.MethodName) prog_1_method_53_code 7 (some .int)).before start1.args0 rg_s = true :=
  su_hand_word (m := ⟨2, 52⟩) (by decide +kernel) rfl (by decide +kernel) (by decide +kernel)
set_option maxRecDepth 16384 in
theorem rg_code123 : (Jvm.Cond.code (⟨"HungerBooks", "partsOf", "(III)I"⟩ : Jvm.MethodName) prog_1_method_32_code 8 (some .int)).before start1.args0 rg_s = true :=
  su_hand_word (m := ⟨2, 31⟩) (by decide +kernel) rfl (by decide +kernel) (by decide +kernel)
set_option maxRecDepth 16384 in
theorem rg_code124 : (Jvm.Cond.code (⟨"HungerBooks", "oldestBehind", "(LHungerBooks$Lot;II)LHungerBooks$Lot;"⟩ : Jvm.MethodName) prog_1_method_34_code 9 (some (.object "HungerBooks$Lot"))).before start1.args0 rg_s = true :=
  su_hand_word (m := ⟨2, 33⟩) (by decide +kernel) rfl (by decide +kernel) (by decide +kernel)
set_option maxRecDepth 16384 in
theorem rg_codes_hold_4 : ∀ c ∈ tables_1_4.filter su_isCode, c.before start1.args0 rg_s = true := by
  rw [start1.codes_are_4]
  exact List.forall_mem_cons.mpr ⟨rg_code87, List.forall_mem_cons.mpr ⟨rg_code88, List.forall_mem_cons.mpr ⟨rg_code89, List.forall_mem_cons.mpr ⟨rg_code90, List.forall_mem_cons.mpr ⟨rg_code91, List.forall_mem_cons.mpr ⟨rg_code92, List.forall_mem_cons.mpr ⟨rg_code93, List.forall_mem_cons.mpr ⟨rg_code94, List.forall_mem_cons.mpr ⟨rg_code95, List.forall_mem_cons.mpr ⟨rg_code96, List.forall_mem_cons.mpr ⟨rg_code97, List.forall_mem_cons.mpr ⟨rg_code98, List.forall_mem_cons.mpr ⟨rg_code99, List.forall_mem_cons.mpr ⟨rg_code100, List.forall_mem_cons.mpr ⟨rg_code101, List.forall_mem_cons.mpr ⟨rg_code102, List.forall_mem_cons.mpr ⟨rg_code103, List.forall_mem_cons.mpr ⟨rg_code104, List.forall_mem_cons.mpr ⟨rg_code105, List.forall_mem_cons.mpr ⟨rg_code106, List.forall_mem_cons.mpr ⟨rg_code107, List.forall_mem_cons.mpr ⟨rg_code108, List.forall_mem_cons.mpr ⟨rg_code109, List.forall_mem_cons.mpr ⟨rg_code110, List.forall_mem_cons.mpr ⟨rg_code111, List.forall_mem_cons.mpr ⟨rg_code112, List.forall_mem_cons.mpr ⟨rg_code113, List.forall_mem_cons.mpr ⟨rg_code114, List.forall_mem_cons.mpr ⟨rg_code115, List.forall_mem_cons.mpr ⟨rg_code116, List.forall_mem_cons.mpr ⟨rg_code117, List.forall_mem_cons.mpr ⟨rg_code118, List.forall_mem_cons.mpr ⟨rg_code119, List.forall_mem_cons.mpr ⟨rg_code120, List.forall_mem_cons.mpr ⟨rg_code121, List.forall_mem_cons.mpr ⟨rg_code122, List.forall_mem_cons.mpr ⟨rg_code123, List.forall_mem_cons.mpr ⟨rg_code124, List.forall_mem_nil _⟩⟩⟩⟩⟩⟩⟩⟩⟩⟩⟩⟩⟩⟩⟩⟩⟩⟩⟩⟩⟩⟩⟩⟩⟩⟩⟩⟩⟩⟩⟩⟩⟩⟩⟩⟩⟩⟩
set_option maxRecDepth 16384 in
theorem rg_others_4_0 : (tables_1_4.take 40).all (fun c => su_isCode c || c.before start1.args0 rg_s) = true := by decide +kernel
set_option maxRecDepth 16384 in
theorem rg_others_4_1 : ((tables_1_4.drop 40).take 40).all (fun c => su_isCode c || c.before start1.args0 rg_s) = true := by decide +kernel
set_option maxRecDepth 16384 in
theorem rg_others_4_2 : (((tables_1_4.drop 40).drop 40).take 40).all (fun c => su_isCode c || c.before start1.args0 rg_s) = true := by decide +kernel
set_option maxRecDepth 16384 in
theorem rg_others_4_3 : ((((tables_1_4.drop 40).drop 40).drop 40).take 40).all (fun c => su_isCode c || c.before start1.args0 rg_s) = true := by decide +kernel
set_option maxRecDepth 16384 in
theorem rg_others_4_4 : (((((tables_1_4.drop 40).drop 40).drop 40).drop 40).take 40).all (fun c => su_isCode c || c.before start1.args0 rg_s) = true := by decide +kernel
set_option maxRecDepth 16384 in
theorem rg_others_4_5 : ((((((tables_1_4.drop 40).drop 40).drop 40).drop 40).drop 40).take 36).all (fun c => su_isCode c || c.before start1.args0 rg_s) = true := by decide +kernel
end
section
set_option maxRecDepth 16384 in
theorem rg_others_4_6 : ((((((tables_1_4.drop 40).drop 40).drop 40).drop 40).drop 40).drop 36).all (fun c => su_isCode c || c.before start1.args0 rg_s) = true := by decide +kernel
set_option maxRecDepth 16384 in
theorem rg_others_hold_4 : tables_1_4.all (fun c => su_isCode c || c.before start1.args0 rg_s) = true := start1.su_all_split _ 40 tables_1_4 rg_others_4_0 (start1.su_all_split _ 40 (tables_1_4.drop 40) rg_others_4_1 (start1.su_all_split _ 40 ((tables_1_4.drop 40).drop 40) rg_others_4_2 (start1.su_all_split _ 40 (((tables_1_4.drop 40).drop 40).drop 40) rg_others_4_3 (start1.su_all_split _ 40 ((((tables_1_4.drop 40).drop 40).drop 40).drop 40) rg_others_4_4 (start1.su_all_split _ 36 (((((tables_1_4.drop 40).drop 40).drop 40).drop 40).drop 40) rg_others_4_5 rg_others_4_6)))))
set_option maxRecDepth 16384 in
theorem rg_words_4 : ∀ c ∈ tables_1_4, c.before start1.args0 rg_s = true := fun c h => su_words rg_others_hold_4 rg_codes_hold_4 c h
end
section
set_option maxRecDepth 16384 in
theorem rg_code125 : (Jvm.Cond.code (⟨"HungerBooks$Lot", "ageRank", "()I"⟩ : Jvm.MethodName) prog_7_method_5_code 1 (some .int)).before start1.args0 rg_s = true :=
  su_hand_word (m := ⟨22, 4⟩) (by decide +kernel) rfl (by decide +kernel) (by decide +kernel)
set_option maxRecDepth 16384 in
theorem rg_code126 : (Jvm.Cond.code (⟨"HungerBooks", "takeParts", "(LHungerBooks$House;IIIZ)V"⟩ : Jvm.MethodName) prog_1_method_33_code 13 none).before start1.args0 rg_s = true :=
  su_hand_word (m := ⟨2, 32⟩) (by decide +kernel) rfl (by decide +kernel) (by decide +kernel)
set_option maxRecDepth 16384 in
theorem rg_code127 : (Jvm.Cond.code (⟨"HungerBooks", "deal", "(IIII)I"⟩ : Jvm.MethodName) prog_1_method_24_code 6 (some .int)).before start1.args0 rg_s = true :=
  su_hand_word (m := ⟨2, 23⟩) (by decide +kernel) rfl (by decide +kernel) (by decide +kernel)
set_option maxRecDepth 16384 in
theorem rg_code128 : (Jvm.Cond.code (⟨"HungerBooks", "hasPurse", "(I)Z"⟩ : Jvm.MethodName) prog_1_method_44_code 2 (some .boolean)).before start1.args0 rg_s = true :=
  su_hand_word (m := ⟨2, 43⟩) (by decide +kernel) rfl (by decide +kernel) (by decide +kernel)
set_option maxRecDepth 16384 in
theorem rg_code129 : (Jvm.Cond.code (⟨"HungerBooks", "purseOf", "(I)J"⟩ : Jvm.MethodName) prog_1_method_45_code 4 (some .long)).before start1.args0 rg_s = true :=
  su_hand_word (m := ⟨2, 44⟩) (by decide +kernel) rfl (by decide +kernel) (by decide +kernel)
set_option maxRecDepth 16384 in
theorem rg_code130 : (Jvm.Cond.code (⟨"HungerBooks", "addToPurse", "(IJ)V"⟩ : Jvm.MethodName) prog_1_method_46_code 6 none).before start1.args0 rg_s = true :=
  su_hand_word (m := ⟨2, 45⟩) (by decide +kernel) rfl (by decide +kernel) (by decide +kernel)
set_option maxRecDepth 16384 in
theorem rg_code131 : (Jvm.Cond.code (⟨"HungerBooks", "parcel", "(III)I"⟩ : Jvm.MethodName) prog_1_method_25_code 6 (some .int)).before start1.args0 rg_s = true :=
  su_hand_word (m := ⟨2, 24⟩) (by decide +kernel) rfl (by decide +kernel) (by decide +kernel)
set_option maxRecDepth 16384 in
theorem rg_code132 : (Jvm.Cond.code (⟨"HungerBooks", "parcelled", "(LHungerBooks$House;I)I"⟩ : Jvm.MethodName) prog_1_method_54_code 5 (some .int)).before start1.args0 rg_s = true :=
  su_hand_word (m := ⟨2, 53⟩) (by decide +kernel) rfl (by decide +kernel) (by decide +kernel)
set_option maxRecDepth 16384 in
theorem rg_code133 : (Jvm.Cond.code (⟨"HungerBooks", "settingNow", "(I)I"⟩ : Jvm.MethodName) prog_1_method_20_code 2 (some .int)).before start1.args0 rg_s = true :=
  su_hand_word (m := ⟨2, 19⟩) (by decide +kernel) rfl (by decide +kernel) (by decide +kernel)
set_option maxRecDepth 16384 in
theorem rg_code134 : (Jvm.Cond.code (⟨"HungerBooks", "seize", "(I)I"⟩ : Jvm.MethodName) prog_1_method_26_code 5 (some .int)).before start1.args0 rg_s = true :=
  su_hand_word (m := ⟨2, 25⟩) (by decide +kernel) rfl (by decide +kernel) (by decide +kernel)
set_option maxRecDepth 16384 in
theorem rg_code135 : (Jvm.Cond.code (⟨"HungerBooks", "pass", "(I)I"⟩ : Jvm.MethodName) prog_1_method_35_code 6 (some .int)).before start1.args0 rg_s = true :=
  su_hand_word (m := ⟨2, 34⟩) (by decide +kernel) rfl (by decide +kernel) (by decide +kernel)
set_option maxRecDepth 16384 in
theorem rg_code136 : (Jvm.Cond.code (⟨"HungerBooks", "feedHouse", "(LHungerBooks$House;II)V"⟩ : Jvm.MethodName) prog_1_method_36_code 10 none).before start1.args0 rg_s = true :=
  su_hand_word (m := ⟨2, 35⟩) (by decide +kernel) rfl (by decide +kernel) (by decide +kernel)
set_option maxRecDepth 16384 in
theorem rg_code137 : (Jvm.Cond.code (⟨"HungerBooks", "nextMeal", "(LHungerBooks$House;)LHungerBooks$Lot;"⟩ : Jvm.MethodName) prog_1_method_37_code 7 (some (.object "HungerBooks$Lot"))).before start1.args0 rg_s = true :=
  su_hand_word (m := ⟨2, 36⟩) (by decide +kernel) rfl (by decide +kernel) (by decide +kernel)
set_option maxRecDepth 16384 in
theorem rg_code138 : (Jvm.Cond.code (⟨"HungerBooks$House", "eat", "(IZ)V"⟩ : Jvm.MethodName) prog_5_method_8_code 3 none).before start1.args0 rg_s = true :=
  su_hand_word (m := ⟨10, 7⟩) (by decide +kernel) rfl (by decide +kernel) (by decide +kernel)
set_option maxRecDepth 16384 in
theorem rg_code139 : (Jvm.Cond.code (⟨"HungerBooks$House", "endDay", "(IIII)V"⟩ : Jvm.MethodName) prog_5_method_9_code 8 none).before start1.args0 rg_s = true :=
  su_hand_word (m := ⟨10, 8⟩) (by decide +kernel) rfl (by decide +kernel) (by decide +kernel)
set_option maxRecDepth 16384 in
theorem rg_code140 : (Jvm.Cond.code (⟨"HungerBooks", "spoilLots", "()V"⟩ : Jvm.MethodName) prog_1_method_38_code 3 none).before start1.args0 rg_s = true :=
  su_hand_word (m := ⟨2, 37⟩) (by decide +kernel) rfl (by decide +kernel) (by decide +kernel)
set_option maxRecDepth 16384 in
theorem rg_code141 : (Jvm.Cond.code (⟨"HungerBooks", "lotOf", "(II)I"⟩ : Jvm.MethodName) prog_1_method_39_code 4 (some .int)).before start1.args0 rg_s = true :=
  su_hand_word (m := ⟨2, 38⟩) (by decide +kernel) rfl (by decide +kernel) (by decide +kernel)
set_option maxRecDepth 16384 in
theorem rg_code142 : (Jvm.Cond.code (⟨"HungerBooks$Lot", "tell", "(I)I"⟩ : Jvm.MethodName) prog_7_method_8_code 2 (some .int)).before start1.args0 rg_s = true :=
  su_hand_word (m := ⟨22, 7⟩) (by decide +kernel) rfl (by decide +kernel) (by decide +kernel)
set_option maxRecDepth 16384 in
theorem rg_code143 : (Jvm.Cond.code (⟨"HungerBooks", "led", "(II)I"⟩ : Jvm.MethodName) prog_1_method_40_code 6 (some .int)).before start1.args0 rg_s = true :=
  su_hand_word (m := ⟨2, 39⟩) (by decide +kernel) rfl (by decide +kernel) (by decide +kernel)
set_option maxRecDepth 16384 in
theorem rg_code144 : (Jvm.Cond.code (⟨"HungerBooks$Lot", "ledTo", "(I)I"⟩ : Jvm.MethodName) prog_7_method_6_code 2 (some .int)).before start1.args0 rg_s = true :=
  su_hand_word (m := ⟨22, 5⟩) (by decide +kernel) rfl (by decide +kernel) (by decide +kernel)
set_option maxRecDepth 16384 in
theorem rg_code145 : (Jvm.Cond.code (⟨"HungerBooks$Lot", "holderKind", "()I"⟩ : Jvm.MethodName) prog_7_method_7_code 1 (some .int)).before start1.args0 rg_s = true :=
  su_hand_word (m := ⟨22, 6⟩) (by decide +kernel) rfl (by decide +kernel) (by decide +kernel)
set_option maxRecDepth 16384 in
theorem rg_code146 : (Jvm.Cond.code (⟨"HungerBooks", "coins", "(I)J"⟩ : Jvm.MethodName) prog_1_method_41_code 2 (some .long)).before start1.args0 rg_s = true :=
  su_hand_word (m := ⟨2, 40⟩) (by decide +kernel) rfl (by decide +kernel) (by decide +kernel)
set_option maxRecDepth 16384 in
theorem rg_code147 : (Jvm.Cond.code (⟨"HungerBooks", "houseOf", "(II)J"⟩ : Jvm.MethodName) prog_1_method_42_code 4 (some .long)).before start1.args0 rg_s = true :=
  su_hand_word (m := ⟨2, 41⟩) (by decide +kernel) rfl (by decide +kernel) (by decide +kernel)
set_option maxRecDepth 16384 in
theorem rg_code148 : (Jvm.Cond.code (⟨"HungerBooks$House", "tell", "(I)J"⟩ : Jvm.MethodName) prog_5_method_12_code 2 (some .long)).before start1.args0 rg_s = true :=
  su_hand_word (m := ⟨10, 11⟩) (by decide +kernel) rfl (by decide +kernel) (by decide +kernel)
set_option maxRecDepth 16384 in
theorem rg_code149 : (Jvm.Cond.code (⟨"HungerBooks$House", "piecesNow", "()I"⟩ : Jvm.MethodName) prog_5_method_11_code 3 (some .int)).before start1.args0 rg_s = true :=
  su_hand_word (m := ⟨10, 10⟩) (by decide +kernel) rfl (by decide +kernel) (by decide +kernel)
set_option maxRecDepth 16384 in
theorem rg_code150 : (Jvm.Cond.code (⟨"HungerBooks", "lack", "(II)I"⟩ : Jvm.MethodName) prog_1_method_43_code 4 (some .int)).before start1.args0 rg_s = true :=
  su_hand_word (m := ⟨2, 42⟩) (by decide +kernel) rfl (by decide +kernel) (by decide +kernel)
set_option maxRecDepth 16384 in
theorem rg_code151 : (Jvm.Cond.code (⟨"HungerBooks$House", "lackOn", "(I)I"⟩ : Jvm.MethodName) prog_5_method_10_code 2 (some .int)).before start1.args0 rg_s = true :=
  su_hand_word (m := ⟨10, 9⟩) (by decide +kernel) rfl (by decide +kernel) (by decide +kernel)
set_option maxRecDepth 16384 in
theorem rg_code152 : (Jvm.Cond.code (⟨"HungerBooks", "fake", "(IIII)I"⟩ : Jvm.MethodName) prog_1_method_47_code 7 (some .int)).before start1.args0 rg_s = true :=
  su_hand_word (m := ⟨2, 46⟩) (by decide +kernel) rfl (by decide +kernel) (by decide +kernel)
set_option maxRecDepth 16384 in
theorem rg_code153 : (Jvm.Cond.code (⟨"HungerBooks", "boughtIn", "(III)I"⟩ : Jvm.MethodName) prog_1_method_52_code 8 (some .int)).before start1.args0 rg_s = true :=
  su_hand_word (m := ⟨2, 51⟩) (by decide +kernel) rfl (by decide +kernel) (by decide +kernel)
set_option maxRecDepth 16384 in
theorem rg_code154 : (Jvm.Cond.code (⟨"HungerBooks", "dead", "(III)I"⟩ : Jvm.MethodName) prog_1_method_48_code 6 (some .int)).before start1.args0 rg_s = true :=
  su_hand_word (m := ⟨2, 47⟩) (by decide +kernel) rfl (by decide +kernel) (by decide +kernel)
set_option maxRecDepth 16384 in
theorem rg_code155 : (Jvm.Cond.code (⟨"HungerBooks", "shortOf", "(IIII)I"⟩ : Jvm.MethodName) prog_1_method_49_code 7 (some .int)).before start1.args0 rg_s = true :=
  su_hand_word (m := ⟨2, 48⟩) (by decide +kernel) rfl (by decide +kernel) (by decide +kernel)
set_option maxRecDepth 16384 in
theorem rg_code156 : (Jvm.Cond.code (⟨"HungerBooks", "delivered", "(IIII)I"⟩ : Jvm.MethodName) prog_1_method_55_code 9 (some .int)).before start1.args0 rg_s = true :=
  su_hand_word (m := ⟨2, 54⟩) (by decide +kernel) rfl (by decide +kernel) (by decide +kernel)
set_option maxRecDepth 16384 in
theorem rg_code157 : (Jvm.Cond.code (⟨"HungerBooks", "field", "(IIII)Z"⟩ : Jvm.MethodName) prog_1_method_50_code 7 (some .boolean)).before start1.args0 rg_s = true :=
  su_hand_word (m := ⟨2, 49⟩) (by decide +kernel) rfl (by decide +kernel) (by decide +kernel)
set_option maxRecDepth 16384 in
theorem rg_code158 : (Jvm.Cond.code (⟨"HungerBooks", "elsewhere", "(IIIII)I"⟩ : Jvm.MethodName) prog_1_method_51_code 8 (some .int)).before start1.args0 rg_s = true :=
  su_hand_word (m := ⟨2, 50⟩) (by decide +kernel) rfl (by decide +kernel) (by decide +kernel)
set_option maxRecDepth 16384 in
theorem rg_code159 : (Jvm.Cond.code (⟨"HungerBooks", "exchange", "(IIII)Z"⟩ : Jvm.MethodName) prog_1_method_57_code 6 (some .boolean)).before start1.args0 rg_s = true :=
  su_hand_word (m := ⟨2, 56⟩) (by decide +kernel) rfl (by decide +kernel) (by decide +kernel)
set_option maxRecDepth 16384 in
theorem rg_code160 : (Jvm.Cond.code (⟨"HungerBooks", "isDesk", "(I)Z"⟩ : Jvm.MethodName) prog_1_method_76_code 1 (some .boolean)).before start1.args0 rg_s = true :=
  su_hand_word (m := ⟨2, 75⟩) (by decide +kernel) rfl (by decide +kernel) (by decide +kernel)
set_option maxRecDepth 16384 in
theorem rg_code161 : (Jvm.Cond.code (⟨"HungerBooks$Desks", "tell", "(IIII)V"⟩ : Jvm.MethodName) prog_3_method_2_code 5 none).before start1.args0 rg_s = true :=
  su_hand_word (m := ⟨6, 1⟩) (by decide +kernel) rfl (by decide +kernel) (by decide +kernel)
set_option maxRecDepth 16384 in
theorem rg_code162 : (Jvm.Cond.code (⟨"HungerBooks", "round", "(II)I"⟩ : Jvm.MethodName) prog_1_method_58_code 3 (some .int)).before start1.args0 rg_s = true :=
  su_hand_word (m := ⟨2, 57⟩) (by decide +kernel) rfl (by decide +kernel) (by decide +kernel)
set_option maxRecDepth 16384 in
theorem rg_code163 : (Jvm.Cond.code (⟨"HungerBooks$Desks", "findRound", "(I)Z"⟩ : Jvm.MethodName) prog_3_method_3_code 4 (some .boolean)).before start1.args0 rg_s = true :=
  su_hand_word (m := ⟨6, 2⟩) (by decide +kernel) rfl (by decide +kernel) (by decide +kernel)
set_option maxRecDepth 16384 in
theorem rg_code164 : (Jvm.Cond.code (⟨"HungerBooks$Desks", "weigh", "(III)V"⟩ : Jvm.MethodName) prog_3_method_4_code 9 none).before start1.args0 rg_s = true :=
  su_hand_word (m := ⟨6, 3⟩) (by decide +kernel) rfl (by decide +kernel) (by decide +kernel)
set_option maxRecDepth 16384 in
theorem rg_code165 : (Jvm.Cond.code (⟨"HungerBooks$Desks", "gaveBy", "(II)J"⟩ : Jvm.MethodName) prog_3_method_5_code 3 (some .long)).before start1.args0 rg_s = true :=
  su_hand_word (m := ⟨6, 4⟩) (by decide +kernel) rfl (by decide +kernel) (by decide +kernel)
set_option maxRecDepth 16384 in
theorem rg_code166 : (Jvm.Cond.code (⟨"HungerBooks$Desks", "tookBy", "(II)J"⟩ : Jvm.MethodName) prog_3_method_6_code 3 (some .long)).before start1.args0 rg_s = true :=
  su_hand_word (m := ⟨6, 5⟩) (by decide +kernel) rfl (by decide +kernel) (by decide +kernel)
set_option maxRecDepth 16384 in
theorem rg_code167 : (Jvm.Cond.code (⟨"HungerBooks$Desks", "tellRound", "(I)I"⟩ : Jvm.MethodName) prog_3_method_7_code 2 (some .int)).before start1.args0 rg_s = true :=
  su_hand_word (m := ⟨6, 6⟩) (by decide +kernel) rfl (by decide +kernel) (by decide +kernel)
set_option maxRecDepth 16384 in
theorem rg_code168 : (Jvm.Cond.code (⟨"HungerBooks", "road", "(III)Z"⟩ : Jvm.MethodName) prog_1_method_59_code 5 (some .boolean)).before start1.args0 rg_s = true :=
  su_hand_word (m := ⟨2, 58⟩) (by decide +kernel) rfl (by decide +kernel) (by decide +kernel)
set_option maxRecDepth 16384 in
theorem rg_code169 : (Jvm.Cond.code (⟨"HungerBooks$Roads", "lay", "(III)V"⟩ : Jvm.MethodName) prog_11_method_2_code 4 none).before start1.args0 rg_s = true :=
  su_hand_word (m := ⟨7, 1⟩) (by decide +kernel) rfl (by decide +kernel) (by decide +kernel)
end
section
set_option maxRecDepth 16384 in
theorem rg_code170 : (Jvm.Cond.code (⟨"HungerBooks", "post", "(IIII)I"⟩ : Jvm.MethodName) prog_1_method_60_code 6 (some .int)).before start1.args0 rg_s = true :=
  su_hand_word (m := ⟨2, 59⟩) (by decide +kernel) rfl (by decide +kernel) (by decide +kernel)
set_option maxRecDepth 16384 in
theorem rg_code171 : (Jvm.Cond.code (⟨"HungerBooks$Roads", "setPost", "(IIII)I"⟩ : Jvm.MethodName) prog_11_method_3_code 5 (some .int)).before start1.args0 rg_s = true :=
  su_hand_word (m := ⟨7, 2⟩) (by decide +kernel) rfl (by decide +kernel) (by decide +kernel)
set_option maxRecDepth 16384 in
theorem rg_code172 : (Jvm.Cond.code (⟨"HungerBooks", "way", "(IIII)I"⟩ : Jvm.MethodName) prog_1_method_61_code 5 (some .int)).before start1.args0 rg_s = true :=
  su_hand_word (m := ⟨2, 60⟩) (by decide +kernel) rfl (by decide +kernel) (by decide +kernel)
set_option maxRecDepth 16384 in
theorem rg_code173 : (Jvm.Cond.code (⟨"HungerBooks$Roads", "shortest", "(IIII)I"⟩ : Jvm.MethodName) prog_11_method_4_code 6 (some .int)).before start1.args0 rg_s = true :=
  su_hand_word (m := ⟨7, 3⟩) (by decide +kernel) rfl (by decide +kernel) (by decide +kernel)
set_option maxRecDepth 16384 in
theorem rg_code174 : (Jvm.Cond.code (⟨"HungerBooks$Roads", "weighRoads", "(I)V"⟩ : Jvm.MethodName) prog_11_method_5_code 5 none).before start1.args0 rg_s = true :=
  su_hand_word (m := ⟨7, 4⟩) (by decide +kernel) rfl (by decide +kernel) (by decide +kernel)
set_option maxRecDepth 16384 in
theorem rg_code175 : (Jvm.Cond.code (⟨"java/util/Arrays", "fill", "([II)V"⟩ : Jvm.MethodName) prog_22_method_103_code 4 none).before start1.args0 rg_s = true :=
  su_hand_word (m := ⟨20, 1⟩) (by decide +kernel) rfl (by decide +kernel) (by decide +kernel)
set_option maxRecDepth 16384 in
theorem rg_code176 : (Jvm.Cond.code (⟨"HungerBooks$Roads", "settleNearest", "()V"⟩ : Jvm.MethodName) prog_11_method_6_code 4 none).before start1.args0 rg_s = true :=
  su_hand_word (m := ⟨7, 5⟩) (by decide +kernel) rfl (by decide +kernel) (by decide +kernel)
set_option maxRecDepth 16384 in
theorem rg_code177 : (Jvm.Cond.code (⟨"HungerBooks", "plan", "(IIII)I"⟩ : Jvm.MethodName) prog_1_method_62_code 6 (some .int)).before start1.args0 rg_s = true :=
  su_hand_word (m := ⟨2, 61⟩) (by decide +kernel) rfl (by decide +kernel) (by decide +kernel)
set_option maxRecDepth 16384 in
theorem rg_code178 : (Jvm.Cond.code (⟨"HungerBooks", "isPlan", "(III)Z"⟩ : Jvm.MethodName) prog_1_method_64_code 4 (some .boolean)).before start1.args0 rg_s = true :=
  su_hand_word (m := ⟨2, 63⟩) (by decide +kernel) rfl (by decide +kernel) (by decide +kernel)
set_option maxRecDepth 16384 in
theorem rg_code179 : (Jvm.Cond.code (⟨"HungerBooks", "preparePlan", "(I)V"⟩ : Jvm.MethodName) prog_1_method_65_code 7 none).before start1.args0 rg_s = true :=
  su_hand_word (m := ⟨2, 64⟩) (by decide +kernel) rfl (by decide +kernel) (by decide +kernel)
set_option maxRecDepth 16384 in
theorem rg_code180 : (Jvm.Cond.code (⟨"HungerBooks$Planner", "clear", "()V"⟩ : Jvm.MethodName) prog_9_method_2_code 1 none).before start1.args0 rg_s = true :=
  su_hand_word (m := ⟨8, 1⟩) (by decide +kernel) rfl (by decide +kernel) (by decide +kernel)
set_option maxRecDepth 16384 in
theorem rg_code181 : (Jvm.Cond.code (⟨"java/util/Arrays", "fill", "([JJ)V"⟩ : Jvm.MethodName) prog_22_method_101_code 5 none).before start1.args0 rg_s = true :=
  su_hand_word (m := ⟨20, 0⟩) (by decide +kernel) rfl (by decide +kernel) (by decide +kernel)
set_option maxRecDepth 16384 in
theorem rg_code182 : (Jvm.Cond.code (⟨"HungerBooks$Planner", "add", "(IIJ)V"⟩ : Jvm.MethodName) prog_9_method_3_code 10 none).before start1.args0 rg_s = true :=
  su_hand_word (m := ⟨8, 2⟩) (by decide +kernel) rfl (by decide +kernel) (by decide +kernel)
set_option maxRecDepth 16384 in
theorem rg_codes_hold_5 : ∀ c ∈ tables_1_5.filter su_isCode, c.before start1.args0 rg_s = true := by
  rw [start1.codes_are_5]
  exact List.forall_mem_cons.mpr ⟨rg_code125, List.forall_mem_cons.mpr ⟨rg_code126, List.forall_mem_cons.mpr ⟨rg_code127, List.forall_mem_cons.mpr ⟨rg_code128, List.forall_mem_cons.mpr ⟨rg_code129, List.forall_mem_cons.mpr ⟨rg_code130, List.forall_mem_cons.mpr ⟨rg_code131, List.forall_mem_cons.mpr ⟨rg_code132, List.forall_mem_cons.mpr ⟨rg_code133, List.forall_mem_cons.mpr ⟨rg_code134, List.forall_mem_cons.mpr ⟨rg_code135, List.forall_mem_cons.mpr ⟨rg_code136, List.forall_mem_cons.mpr ⟨rg_code137, List.forall_mem_cons.mpr ⟨rg_code138, List.forall_mem_cons.mpr ⟨rg_code139, List.forall_mem_cons.mpr ⟨rg_code140, List.forall_mem_cons.mpr ⟨rg_code141, List.forall_mem_cons.mpr ⟨rg_code142, List.forall_mem_cons.mpr ⟨rg_code143, List.forall_mem_cons.mpr ⟨rg_code144, List.forall_mem_cons.mpr ⟨rg_code145, List.forall_mem_cons.mpr ⟨rg_code146, List.forall_mem_cons.mpr ⟨rg_code147, List.forall_mem_cons.mpr ⟨rg_code148, List.forall_mem_cons.mpr ⟨rg_code149, List.forall_mem_cons.mpr ⟨rg_code150, List.forall_mem_cons.mpr ⟨rg_code151, List.forall_mem_cons.mpr ⟨rg_code152, List.forall_mem_cons.mpr ⟨rg_code153, List.forall_mem_cons.mpr ⟨rg_code154, List.forall_mem_cons.mpr ⟨rg_code155, List.forall_mem_cons.mpr ⟨rg_code156, List.forall_mem_cons.mpr ⟨rg_code157, List.forall_mem_cons.mpr ⟨rg_code158, List.forall_mem_cons.mpr ⟨rg_code159, List.forall_mem_cons.mpr ⟨rg_code160, List.forall_mem_cons.mpr ⟨rg_code161, List.forall_mem_cons.mpr ⟨rg_code162, List.forall_mem_cons.mpr ⟨rg_code163, List.forall_mem_cons.mpr ⟨rg_code164, List.forall_mem_cons.mpr ⟨rg_code165, List.forall_mem_cons.mpr ⟨rg_code166, List.forall_mem_cons.mpr ⟨rg_code167, List.forall_mem_cons.mpr ⟨rg_code168, List.forall_mem_cons.mpr ⟨rg_code169, List.forall_mem_cons.mpr ⟨rg_code170, List.forall_mem_cons.mpr ⟨rg_code171, List.forall_mem_cons.mpr ⟨rg_code172, List.forall_mem_cons.mpr ⟨rg_code173, List.forall_mem_cons.mpr ⟨rg_code174, List.forall_mem_cons.mpr ⟨rg_code175, List.forall_mem_cons.mpr ⟨rg_code176, List.forall_mem_cons.mpr ⟨rg_code177, List.forall_mem_cons.mpr ⟨rg_code178, List.forall_mem_cons.mpr ⟨rg_code179, List.forall_mem_cons.mpr ⟨rg_code180, List.forall_mem_cons.mpr ⟨rg_code181, List.forall_mem_cons.mpr ⟨rg_code182, List.forall_mem_nil _⟩⟩⟩⟩⟩⟩⟩⟩⟩⟩⟩⟩⟩⟩⟩⟩⟩⟩⟩⟩⟩⟩⟩⟩⟩⟩⟩⟩⟩⟩⟩⟩⟩⟩⟩⟩⟩⟩⟩⟩⟩⟩⟩⟩⟩⟩⟩⟩⟩⟩⟩⟩⟩⟩⟩⟩⟩⟩
set_option maxRecDepth 16384 in
theorem rg_others_5_0 : (tables_1_5.take 37).all (fun c => su_isCode c || c.before start1.args0 rg_s) = true := by decide +kernel
set_option maxRecDepth 16384 in
theorem rg_others_5_1 : ((tables_1_5.drop 37).take 40).all (fun c => su_isCode c || c.before start1.args0 rg_s) = true := by decide +kernel
set_option maxRecDepth 16384 in
theorem rg_others_5_2 : (((tables_1_5.drop 37).drop 40).take 40).all (fun c => su_isCode c || c.before start1.args0 rg_s) = true := by decide +kernel
set_option maxRecDepth 16384 in
theorem rg_others_5_3 : ((((tables_1_5.drop 37).drop 40).drop 40).take 39).all (fun c => su_isCode c || c.before start1.args0 rg_s) = true := by decide +kernel
set_option maxRecDepth 16384 in
theorem rg_others_5_4 : (((((tables_1_5.drop 37).drop 40).drop 40).drop 39).take 40).all (fun c => su_isCode c || c.before start1.args0 rg_s) = true := by decide +kernel
set_option maxRecDepth 16384 in
theorem rg_others_5_5 : ((((((tables_1_5.drop 37).drop 40).drop 40).drop 39).drop 40).take 36).all (fun c => su_isCode c || c.before start1.args0 rg_s) = true := by decide +kernel
set_option maxRecDepth 16384 in
theorem rg_others_5_6 : ((((((tables_1_5.drop 37).drop 40).drop 40).drop 39).drop 40).drop 36).all (fun c => su_isCode c || c.before start1.args0 rg_s) = true := by decide +kernel
set_option maxRecDepth 16384 in
theorem rg_others_hold_5 : tables_1_5.all (fun c => su_isCode c || c.before start1.args0 rg_s) = true := start1.su_all_split _ 37 tables_1_5 rg_others_5_0 (start1.su_all_split _ 40 (tables_1_5.drop 37) rg_others_5_1 (start1.su_all_split _ 40 ((tables_1_5.drop 37).drop 40) rg_others_5_2 (start1.su_all_split _ 39 (((tables_1_5.drop 37).drop 40).drop 40) rg_others_5_3 (start1.su_all_split _ 40 ((((tables_1_5.drop 37).drop 40).drop 40).drop 39) rg_others_5_4 (start1.su_all_split _ 36 (((((tables_1_5.drop 37).drop 40).drop 40).drop 39).drop 40) rg_others_5_5 rg_others_5_6)))))
set_option maxRecDepth 16384 in
theorem rg_words_5 : ∀ c ∈ tables_1_5, c.before start1.args0 rg_s = true := fun c h => su_words rg_others_hold_5 rg_codes_hold_5 c h
end
section
set_option maxRecDepth 16384 in
theorem rg_code183 : (Jvm.Cond.code (⟨"HungerBooks$Planner", "solve", "(II)Z"⟩ : Jvm.MethodName) prog_9_method_7_code 5 (some .boolean)).before start1.args0 rg_s = true :=
  su_hand_word (m := ⟨8, 6⟩) (by decide +kernel) rfl (by decide +kernel) (by decide +kernel)
set_option maxRecDepth 16384 in
theorem rg_code184 : (Jvm.Cond.code (⟨"HungerBooks$Planner", "spot", "(II)I"⟩ : Jvm.MethodName) prog_9_method_8_code 2 (some .int)).before start1.args0 rg_s = true :=
  su_hand_word (m := ⟨8, 7⟩) (by decide +kernel) rfl (by decide +kernel) (by decide +kernel)
set_option maxRecDepth 16384 in
theorem rg_code185 : (Jvm.Cond.code (⟨"HungerBooks$Planner", "fillLeast", "(III)V"⟩ : Jvm.MethodName) prog_9_method_9_code 9 none).before start1.args0 rg_s = true :=
  su_hand_word (m := ⟨8, 8⟩) (by decide +kernel) rfl (by decide +kernel) (by decide +kernel)
set_option maxRecDepth 16384 in
theorem rg_code186 : (Jvm.Cond.code (⟨"HungerBooks$Planner", "leastRow", "(II)I"⟩ : Jvm.MethodName) prog_9_method_10_code 8 (some .int)).before start1.args0 rg_s = true :=
  su_hand_word (m := ⟨8, 9⟩) (by decide +kernel) rfl (by decide +kernel) (by decide +kernel)
set_option maxRecDepth 16384 in
theorem rg_code187 : (Jvm.Cond.code (⟨"HungerBooks$Planner", "leastDigit", "(IIII)I"⟩ : Jvm.MethodName) prog_9_method_11_code 8 (some .int)).before start1.args0 rg_s = true :=
  su_hand_word (m := ⟨8, 10⟩) (by decide +kernel) rfl (by decide +kernel) (by decide +kernel)
set_option maxRecDepth 16384 in
theorem rg_code188 : (Jvm.Cond.code (⟨"HungerBooks$Planner", "weigh", "(II)V"⟩ : Jvm.MethodName) prog_9_method_6_code 6 none).before start1.args0 rg_s = true :=
  su_hand_word (m := ⟨8, 5⟩) (by decide +kernel) rfl (by decide +kernel) (by decide +kernel)
set_option maxRecDepth 16384 in
theorem rg_code189 : (Jvm.Cond.code (⟨"HungerBooks$Planner", "digit", "(II)I"⟩ : Jvm.MethodName) prog_9_method_5_code 3 (some .int)).before start1.args0 rg_s = true :=
  su_hand_word (m := ⟨8, 4⟩) (by decide +kernel) rfl (by decide +kernel) (by decide +kernel)
set_option maxRecDepth 16384 in
theorem rg_code190 : (Jvm.Cond.code (⟨"HungerBooks$Planner", "tell", "(II)I"⟩ : Jvm.MethodName) prog_9_method_4_code 3 (some .int)).before start1.args0 rg_s = true :=
  su_hand_word (m := ⟨8, 3⟩) (by decide +kernel) rfl (by decide +kernel) (by decide +kernel)
set_option maxRecDepth 16384 in
theorem rg_code191 : (Jvm.Cond.code (⟨"HungerBooks", "judge", "(IIIII)I"⟩ : Jvm.MethodName) prog_1_method_63_code 6 (some .int)).before start1.args0 rg_s = true :=
  su_hand_word (m := ⟨2, 62⟩) (by decide +kernel) rfl (by decide +kernel) (by decide +kernel)
set_option maxRecDepth 16384 in
theorem rg_code192 : (Jvm.Cond.code (⟨"HungerBooks", "count", "(I)I"⟩ : Jvm.MethodName) prog_1_method_66_code 2 (some .int)).before start1.args0 rg_s = true :=
  su_hand_word (m := ⟨2, 65⟩) (by decide +kernel) rfl (by decide +kernel) (by decide +kernel)
set_option maxRecDepth 16384 in
theorem rg_code193 : (Jvm.Cond.code (⟨"HungerBooks", "livingInAll", "()I"⟩ : Jvm.MethodName) prog_1_method_67_code 3 (some .int)).before start1.args0 rg_s = true :=
  su_hand_word (m := ⟨2, 66⟩) (by decide +kernel) rfl (by decide +kernel) (by decide +kernel)
set_option maxRecDepth 16384 in
theorem rg_code194 : (Jvm.Cond.code (⟨"HungerBooks", "diedInAll", "()I"⟩ : Jvm.MethodName) prog_1_method_68_code 3 (some .int)).before start1.args0 rg_s = true :=
  su_hand_word (m := ⟨2, 67⟩) (by decide +kernel) rfl (by decide +kernel) (by decide +kernel)
set_option maxRecDepth 16384 in
theorem rg_code195 : (Jvm.Cond.code (⟨"HungerBooks", "piecesInAll", "()I"⟩ : Jvm.MethodName) prog_1_method_69_code 3 (some .int)).before start1.args0 rg_s = true :=
  su_hand_word (m := ⟨2, 68⟩) (by decide +kernel) rfl (by decide +kernel) (by decide +kernel)
set_option maxRecDepth 16384 in
theorem rg_code196 : (Jvm.Cond.code (⟨"HungerBooksModel", "<init>", "()V"⟩ : Jvm.MethodName) prog_14_method_1_code 2 none).before start1.args0 rg_s = true :=
  su_hand_word (m := ⟨9, 0⟩) (by decide +kernel) rfl (by decide +kernel) (by decide +kernel)
set_option maxRecDepth 16384 in
theorem rg_codes_hold_6 : ∀ c ∈ tables_1_6.filter su_isCode, c.before start1.args0 rg_s = true := by
  rw [start1.codes_are_6]
  exact List.forall_mem_cons.mpr ⟨rg_code183, List.forall_mem_cons.mpr ⟨rg_code184, List.forall_mem_cons.mpr ⟨rg_code185, List.forall_mem_cons.mpr ⟨rg_code186, List.forall_mem_cons.mpr ⟨rg_code187, List.forall_mem_cons.mpr ⟨rg_code188, List.forall_mem_cons.mpr ⟨rg_code189, List.forall_mem_cons.mpr ⟨rg_code190, List.forall_mem_cons.mpr ⟨rg_code191, List.forall_mem_cons.mpr ⟨rg_code192, List.forall_mem_cons.mpr ⟨rg_code193, List.forall_mem_cons.mpr ⟨rg_code194, List.forall_mem_cons.mpr ⟨rg_code195, List.forall_mem_cons.mpr ⟨rg_code196, List.forall_mem_nil _⟩⟩⟩⟩⟩⟩⟩⟩⟩⟩⟩⟩⟩⟩
set_option maxRecDepth 16384 in
theorem rg_others_6_0 : (tables_1_6.take 40).all (fun c => su_isCode c || c.before start1.args0 rg_s) = true := by decide +kernel
set_option maxRecDepth 16384 in
theorem rg_others_6_1 : ((tables_1_6.drop 40).take 40).all (fun c => su_isCode c || c.before start1.args0 rg_s) = true := by decide +kernel
set_option maxRecDepth 16384 in
theorem rg_others_6_2 : (((tables_1_6.drop 40).drop 40).take 27).all (fun c => su_isCode c || c.before start1.args0 rg_s) = true := by decide +kernel
set_option maxRecDepth 16384 in
theorem rg_others_6_3 : ((((tables_1_6.drop 40).drop 40).drop 27).take 20).all (fun c => su_isCode c || c.before start1.args0 rg_s) = true := by decide +kernel
set_option maxRecDepth 16384 in
theorem rg_others_6_4 : (((((tables_1_6.drop 40).drop 40).drop 27).drop 20).take 22).all (fun c => su_isCode c || c.before start1.args0 rg_s) = true := by decide +kernel
set_option maxRecDepth 16384 in
theorem rg_others_6_5 : ((((((tables_1_6.drop 40).drop 40).drop 27).drop 20).drop 22).take 14).all (fun c => su_isCode c || c.before start1.args0 rg_s) = true := by decide +kernel
set_option maxRecDepth 16384 in
theorem rg_others_6_6 : (((((((tables_1_6.drop 40).drop 40).drop 27).drop 20).drop 22).drop 14).take 40).all (fun c => su_isCode c || c.before start1.args0 rg_s) = true := by decide +kernel
set_option maxRecDepth 16384 in
theorem rg_others_6_7 : (((((((tables_1_6.drop 40).drop 40).drop 27).drop 20).drop 22).drop 14).drop 40).all (fun c => su_isCode c || c.before start1.args0 rg_s) = true := by decide +kernel
set_option maxRecDepth 16384 in
theorem rg_others_hold_6 : tables_1_6.all (fun c => su_isCode c || c.before start1.args0 rg_s) = true := start1.su_all_split _ 40 tables_1_6 rg_others_6_0 (start1.su_all_split _ 40 (tables_1_6.drop 40) rg_others_6_1 (start1.su_all_split _ 27 ((tables_1_6.drop 40).drop 40) rg_others_6_2 (start1.su_all_split _ 20 (((tables_1_6.drop 40).drop 40).drop 27) rg_others_6_3 (start1.su_all_split _ 22 ((((tables_1_6.drop 40).drop 40).drop 27).drop 20) rg_others_6_4 (start1.su_all_split _ 14 (((((tables_1_6.drop 40).drop 40).drop 27).drop 20).drop 22) rg_others_6_5 (start1.su_all_split _ 40 ((((((tables_1_6.drop 40).drop 40).drop 27).drop 20).drop 22).drop 14) rg_others_6_6 rg_others_6_7))))))
set_option maxRecDepth 16384 in
theorem rg_words_6 : ∀ c ∈ tables_1_6, c.before start1.args0 rg_s = true := fun c h => su_words rg_others_hold_6 rg_codes_hold_6 c h
end
section
set_option maxRecDepth 16384 in
theorem rg_code197 : (Jvm.Cond.code (⟨"HungerBooksModel", "good", "(III)Z"⟩ : Jvm.MethodName) prog_14_method_11_code 4 (some .boolean)).before start1.args0 rg_s = true :=
  su_hand_word (m := ⟨9, 9⟩) (by decide +kernel) rfl (by decide +kernel) (by decide +kernel)
set_option maxRecDepth 16384 in
theorem rg_code198 : (Jvm.Cond.code (⟨"HungerBooksModel", "isGood", "(I)Z"⟩ : Jvm.MethodName) prog_14_method_8_code 1 (some .boolean)).before start1.args0 rg_s = true :=
  su_hand_word (m := ⟨9, 6⟩) (by decide +kernel) rfl (by decide +kernel) (by decide +kernel)
set_option maxRecDepth 16384 in
theorem rg_code199 : (Jvm.Cond.code (⟨"HungerBooksModel", "within", "(III)Z"⟩ : Jvm.MethodName) prog_14_method_3_code 3 (some .boolean)).before start1.args0 rg_s = true :=
  su_hand_word (m := ⟨9, 1⟩) (by decide +kernel) rfl (by decide +kernel) (by decide +kernel)
set_option maxRecDepth 16384 in
theorem rg_code200 : (Jvm.Cond.code (⟨"HungerBooksModel", "house", "(IIIII)I"⟩ : Jvm.MethodName) prog_14_method_12_code 6 (some .int)).before start1.args0 rg_s = true :=
  su_hand_word (m := ⟨9, 10⟩) (by decide +kernel) rfl (by decide +kernel) (by decide +kernel)
set_option maxRecDepth 16384 in
theorem rg_code201 : (Jvm.Cond.code (⟨"HungerBooksModel", "isFarm", "(I)Z"⟩ : Jvm.MethodName) prog_14_method_10_code 2 (some .boolean)).before start1.args0 rg_s = true :=
  su_hand_word (m := ⟨9, 8⟩) (by decide +kernel) rfl (by decide +kernel) (by decide +kernel)
set_option maxRecDepth 16384 in
theorem rg_code202 : (Jvm.Cond.code (⟨"HungerBooksModel", "farm", "(II)I"⟩ : Jvm.MethodName) prog_14_method_13_code 3 (some .int)).before start1.args0 rg_s = true :=
  su_hand_word (m := ⟨9, 11⟩) (by decide +kernel) rfl (by decide +kernel) (by decide +kernel)
set_option maxRecDepth 16384 in
theorem rg_code203 : (Jvm.Cond.code (⟨"HungerBooksModel", "die", "(I)I"⟩ : Jvm.MethodName) prog_14_method_15_code 2 (some .int)).before start1.args0 rg_s = true :=
  su_hand_word (m := ⟨9, 13⟩) (by decide +kernel) rfl (by decide +kernel) (by decide +kernel)
set_option maxRecDepth 16384 in
theorem rg_code204 : (Jvm.Cond.code (⟨"HungerBooksModel", "isHouse", "(I)Z"⟩ : Jvm.MethodName) prog_14_method_9_code 2 (some .boolean)).before start1.args0 rg_s = true :=
  su_hand_word (m := ⟨9, 7⟩) (by decide +kernel) rfl (by decide +kernel) (by decide +kernel)
set_option maxRecDepth 16384 in
theorem rg_code205 : (Jvm.Cond.code (⟨"HungerBooksModel", "mouthsOn", "(III)I"⟩ : Jvm.MethodName) prog_14_method_14_code 6 (some .int)).before start1.args0 rg_s = true :=
  su_hand_word (m := ⟨9, 12⟩) (by decide +kernel) rfl (by decide +kernel) (by decide +kernel)
set_option maxRecDepth 16384 in
theorem rg_code206 : (Jvm.Cond.code (⟨"HungerBooksModel", "hear", "(I)I"⟩ : Jvm.MethodName) prog_14_method_16_code 4 (some .int)).before start1.args0 rg_s = true :=
  su_hand_word (m := ⟨9, 14⟩) (by decide +kernel) rfl (by decide +kernel) (by decide +kernel)
set_option maxRecDepth 16384 in
theorem rg_code207 : (Jvm.Cond.code (⟨"HungerBooksModel", "mouths", "(III)I"⟩ : Jvm.MethodName) prog_14_method_17_code 4 (some .int)).before start1.args0 rg_s = true :=
  su_hand_word (m := ⟨9, 15⟩) (by decide +kernel) rfl (by decide +kernel) (by decide +kernel)
set_option maxRecDepth 16384 in
theorem rg_code208 : (Jvm.Cond.code (⟨"HungerBooksModel", "isDay", "(I)Z"⟩ : Jvm.MethodName) prog_14_method_6_code 1 (some .boolean)).before start1.args0 rg_s = true :=
  su_hand_word (m := ⟨9, 4⟩) (by decide +kernel) rfl (by decide +kernel) (by decide +kernel)
set_option maxRecDepth 16384 in
theorem rg_code209 : (Jvm.Cond.code (⟨"HungerBooksModel", "feed", "(IIIII)I"⟩ : Jvm.MethodName) prog_14_method_18_code 8 (some .int)).before start1.args0 rg_s = true :=
  su_hand_word (m := ⟨9, 16⟩) (by decide +kernel) rfl (by decide +kernel) (by decide +kernel)
set_option maxRecDepth 16384 in
theorem rg_code210 : (Jvm.Cond.code (⟨"HungerBooksModel", "orders", "(II)I"⟩ : Jvm.MethodName) prog_14_method_39_code 5 (some .int)).before start1.args0 rg_s = true :=
  su_hand_word (m := ⟨9, 37⟩) (by decide +kernel) rfl (by decide +kernel) (by decide +kernel)
set_option maxRecDepth 16384 in
theorem rg_code211 : (Jvm.Cond.code (⟨"HungerBooksModel", "isWeek", "(I)Z"⟩ : Jvm.MethodName) prog_14_method_7_code 1 (some .boolean)).before start1.args0 rg_s = true :=
  su_hand_word (m := ⟨9, 5⟩) (by decide +kernel) rfl (by decide +kernel) (by decide +kernel)
set_option maxRecDepth 16384 in
theorem rg_code212 : (Jvm.Cond.code (⟨"HungerBooksModel", "next", "()V"⟩ : Jvm.MethodName) prog_14_method_20_code 2 none).before start1.args0 rg_s = true :=
  su_hand_word (m := ⟨9, 18⟩) (by decide +kernel) rfl (by decide +kernel) (by decide +kernel)
set_option maxRecDepth 16384 in
theorem rg_code213 : (Jvm.Cond.code (⟨"HungerBooksModel", "here", "()I"⟩ : Jvm.MethodName) prog_14_method_19_code 1 (some .int)).before start1.args0 rg_s = true :=
  su_hand_word (m := ⟨9, 17⟩) (by decide +kernel) rfl (by decide +kernel) (by decide +kernel)
set_option maxRecDepth 16384 in
theorem rg_code214 : (Jvm.Cond.code (⟨"HungerBooksModel", "min", "(II)I"⟩ : Jvm.MethodName) prog_14_method_4_code 2 (some .int)).before start1.args0 rg_s = true :=
  su_hand_word (m := ⟨9, 2⟩) (by decide +kernel) rfl (by decide +kernel) (by decide +kernel)
set_option maxRecDepth 16384 in
theorem rg_code215 : (Jvm.Cond.code (⟨"HungerBooksModel", "isSignByte", "(I)Z"⟩ : Jvm.MethodName) prog_14_method_21_code 1 (some .boolean)).before start1.args0 rg_s = true :=
  su_hand_word (m := ⟨9, 19⟩) (by decide +kernel) rfl (by decide +kernel) (by decide +kernel)
set_option maxRecDepth 16384 in
theorem rg_code216 : (Jvm.Cond.code (⟨"HungerBooksModel", "errs", "()V"⟩ : Jvm.MethodName) prog_14_method_22_code 1 none).before start1.args0 rg_s = true :=
  su_hand_word (m := ⟨9, 20⟩) (by decide +kernel) rfl (by decide +kernel) (by decide +kernel)
set_option maxRecDepth 16384 in
theorem rg_code217 : (Jvm.Cond.code (⟨"HungerBooksModel", "statement", "(I)V"⟩ : Jvm.MethodName) prog_14_method_38_code 3 none).before start1.args0 rg_s = true :=
  su_hand_word (m := ⟨9, 36⟩) (by decide +kernel) rfl (by decide +kernel) (by decide +kernel)
set_option maxRecDepth 16384 in
theorem rg_code218 : (Jvm.Cond.code (⟨"HungerBooksModel", "ruleOf", "(J)I"⟩ : Jvm.MethodName) prog_14_method_26_code 3 (some .int)).before start1.args0 rg_s = true :=
  su_hand_word (m := ⟨9, 24⟩) (by decide +kernel) rfl (by decide +kernel) (by decide +kernel)
set_option maxRecDepth 16384 in
theorem rg_code219 : (Jvm.Cond.code (⟨"HungerBooksModel", "goodOf", "(J)I"⟩ : Jvm.MethodName) prog_14_method_27_code 3 (some .int)).before start1.args0 rg_s = true :=
  su_hand_word (m := ⟨9, 25⟩) (by decide +kernel) rfl (by decide +kernel) (by decide +kernel)
set_option maxRecDepth 16384 in
theorem rg_code220 : (Jvm.Cond.code (⟨"HungerBooksModel", "parse", "(I)I"⟩ : Jvm.MethodName) prog_14_method_33_code 4 (some .int)).before start1.args0 rg_s = true :=
  su_hand_word (m := ⟨9, 31⟩) (by decide +kernel) rfl (by decide +kernel) (by decide +kernel)
set_option maxRecDepth 16384 in
theorem rg_code221 : (Jvm.Cond.code (⟨"HungerBooksModel", "begin", "(I)V"⟩ : Jvm.MethodName) prog_14_method_30_code 2 none).before start1.args0 rg_s = true :=
  su_hand_word (m := ⟨9, 28⟩) (by decide +kernel) rfl (by decide +kernel) (by decide +kernel)
set_option maxRecDepth 16384 in
theorem rg_code222 : (Jvm.Cond.code (⟨"HungerBooksModel", "sums", "(IZ)V"⟩ : Jvm.MethodName) prog_14_method_34_code 4 none).before start1.args0 rg_s = true :=
  su_hand_word (m := ⟨9, 32⟩) (by decide +kernel) rfl (by decide +kernel) (by decide +kernel)
set_option maxRecDepth 16384 in
theorem rg_codes_hold_7 : ∀ c ∈ tables_1_7.filter su_isCode, c.before start1.args0 rg_s = true := by
  rw [start1.codes_are_7]
  exact List.forall_mem_cons.mpr ⟨rg_code197, List.forall_mem_cons.mpr ⟨rg_code198, List.forall_mem_cons.mpr ⟨rg_code199, List.forall_mem_cons.mpr ⟨rg_code200, List.forall_mem_cons.mpr ⟨rg_code201, List.forall_mem_cons.mpr ⟨rg_code202, List.forall_mem_cons.mpr ⟨rg_code203, List.forall_mem_cons.mpr ⟨rg_code204, List.forall_mem_cons.mpr ⟨rg_code205, List.forall_mem_cons.mpr ⟨rg_code206, List.forall_mem_cons.mpr ⟨rg_code207, List.forall_mem_cons.mpr ⟨rg_code208, List.forall_mem_cons.mpr ⟨rg_code209, List.forall_mem_cons.mpr ⟨rg_code210, List.forall_mem_cons.mpr ⟨rg_code211, List.forall_mem_cons.mpr ⟨rg_code212, List.forall_mem_cons.mpr ⟨rg_code213, List.forall_mem_cons.mpr ⟨rg_code214, List.forall_mem_cons.mpr ⟨rg_code215, List.forall_mem_cons.mpr ⟨rg_code216, List.forall_mem_cons.mpr ⟨rg_code217, List.forall_mem_cons.mpr ⟨rg_code218, List.forall_mem_cons.mpr ⟨rg_code219, List.forall_mem_cons.mpr ⟨rg_code220, List.forall_mem_cons.mpr ⟨rg_code221, List.forall_mem_cons.mpr ⟨rg_code222, List.forall_mem_nil _⟩⟩⟩⟩⟩⟩⟩⟩⟩⟩⟩⟩⟩⟩⟩⟩⟩⟩⟩⟩⟩⟩⟩⟩⟩⟩
set_option maxRecDepth 16384 in
theorem rg_others_7_0 : (tables_1_7.take 26).all (fun c => su_isCode c || c.before start1.args0 rg_s) = true := by decide +kernel
set_option maxRecDepth 16384 in
theorem rg_others_7_1 : ((tables_1_7.drop 26).take 26).all (fun c => su_isCode c || c.before start1.args0 rg_s) = true := by decide +kernel
set_option maxRecDepth 16384 in
theorem rg_others_7_2 : (((tables_1_7.drop 26).drop 26).take 26).all (fun c => su_isCode c || c.before start1.args0 rg_s) = true := by decide +kernel
set_option maxRecDepth 16384 in
theorem rg_others_7_3 : ((((tables_1_7.drop 26).drop 26).drop 26).take 26).all (fun c => su_isCode c || c.before start1.args0 rg_s) = true := by decide +kernel
set_option maxRecDepth 16384 in
theorem rg_others_7_4 : (((((tables_1_7.drop 26).drop 26).drop 26).drop 26).take 27).all (fun c => su_isCode c || c.before start1.args0 rg_s) = true := by decide +kernel
set_option maxRecDepth 16384 in
theorem rg_others_7_5 : ((((((tables_1_7.drop 26).drop 26).drop 26).drop 26).drop 27).take 26).all (fun c => su_isCode c || c.before start1.args0 rg_s) = true := by decide +kernel
set_option maxRecDepth 16384 in
theorem rg_others_7_6 : (((((((tables_1_7.drop 26).drop 26).drop 26).drop 26).drop 27).drop 26).take 26).all (fun c => su_isCode c || c.before start1.args0 rg_s) = true := by decide +kernel
set_option maxRecDepth 16384 in
theorem rg_others_7_7 : ((((((((tables_1_7.drop 26).drop 26).drop 26).drop 26).drop 27).drop 26).drop 26).take 26).all (fun c => su_isCode c || c.before start1.args0 rg_s) = true := by decide +kernel
set_option maxRecDepth 16384 in
theorem rg_others_7_8 : (((((((((tables_1_7.drop 26).drop 26).drop 26).drop 26).drop 27).drop 26).drop 26).drop 26).take 26).all (fun c => su_isCode c || c.before start1.args0 rg_s) = true := by decide +kernel
set_option maxRecDepth 16384 in
theorem rg_others_7_9 : (((((((((tables_1_7.drop 26).drop 26).drop 26).drop 26).drop 27).drop 26).drop 26).drop 26).drop 26).all (fun c => su_isCode c || c.before start1.args0 rg_s) = true := by decide +kernel
set_option maxRecDepth 16384 in
theorem rg_others_hold_7 : tables_1_7.all (fun c => su_isCode c || c.before start1.args0 rg_s) = true := start1.su_all_split _ 26 tables_1_7 rg_others_7_0 (start1.su_all_split _ 26 (tables_1_7.drop 26) rg_others_7_1 (start1.su_all_split _ 26 ((tables_1_7.drop 26).drop 26) rg_others_7_2 (start1.su_all_split _ 26 (((tables_1_7.drop 26).drop 26).drop 26) rg_others_7_3 (start1.su_all_split _ 27 ((((tables_1_7.drop 26).drop 26).drop 26).drop 26) rg_others_7_4 (start1.su_all_split _ 26 (((((tables_1_7.drop 26).drop 26).drop 26).drop 26).drop 27) rg_others_7_5 (start1.su_all_split _ 26 ((((((tables_1_7.drop 26).drop 26).drop 26).drop 26).drop 27).drop 26) rg_others_7_6 (start1.su_all_split _ 26 (((((((tables_1_7.drop 26).drop 26).drop 26).drop 26).drop 27).drop 26).drop 26) rg_others_7_7 (start1.su_all_split _ 26 ((((((((tables_1_7.drop 26).drop 26).drop 26).drop 26).drop 27).drop 26).drop 26).drop 26) rg_others_7_8 rg_others_7_9))))))))
set_option maxRecDepth 16384 in
theorem rg_words_7 : ∀ c ∈ tables_1_7, c.before start1.args0 rg_s = true := fun c h => su_words rg_others_hold_7 rg_codes_hold_7 c h
end
section
set_option maxRecDepth 16384 in
theorem rg_code223 : (Jvm.Cond.code (⟨"HungerBooksModel", "node", "(III)I"⟩ : Jvm.MethodName) prog_14_method_29_code 4 (some .int)).before start1.args0 rg_s = true :=
  su_hand_word (m := ⟨9, 27⟩) (by decide +kernel) rfl (by decide +kernel) (by decide +kernel)
set_option maxRecDepth 16384 in
theorem rg_code224 : (Jvm.Cond.code (⟨"HungerBooksModel", "isSign", "(I)Z"⟩ : Jvm.MethodName) prog_14_method_24_code 2 (some .boolean)).before start1.args0 rg_s = true :=
  su_hand_word (m := ⟨9, 22⟩) (by decide +kernel) rfl (by decide +kernel) (by decide +kernel)
set_option maxRecDepth 16384 in
theorem rg_code225 : (Jvm.Cond.code (⟨"HungerBooksModel", "ends", "(I)V"⟩ : Jvm.MethodName) prog_14_method_31_code 2 none).before start1.args0 rg_s = true :=
  su_hand_word (m := ⟨9, 29⟩) (by decide +kernel) rfl (by decide +kernel) (by decide +kernel)
set_option maxRecDepth 16384 in
theorem rg_code226 : (Jvm.Cond.code (⟨"HungerBooksModel", "atom", "(I)V"⟩ : Jvm.MethodName) prog_14_method_35_code 3 none).before start1.args0 rg_s = true :=
  su_hand_word (m := ⟨9, 33⟩) (by decide +kernel) rfl (by decide +kernel) (by decide +kernel)
set_option maxRecDepth 16384 in
theorem rg_code227 : (Jvm.Cond.code (⟨"HungerBooksModel", "opens", "()V"⟩ : Jvm.MethodName) prog_14_method_32_code 1 none).before start1.args0 rg_s = true :=
  su_hand_word (m := ⟨9, 30⟩) (by decide +kernel) rfl (by decide +kernel) (by decide +kernel)
set_option maxRecDepth 16384 in
theorem rg_code228 : (Jvm.Cond.code (⟨"HungerBooksModel", "nameOf", "(J)I"⟩ : Jvm.MethodName) prog_14_method_28_code 3 (some .int)).before start1.args0 rg_s = true :=
  su_hand_word (m := ⟨9, 26⟩) (by decide +kernel) rfl (by decide +kernel) (by decide +kernel)
set_option maxRecDepth 16384 in
theorem rg_code229 : (Jvm.Cond.code (⟨"HungerBooksModel", "must", "(I)V"⟩ : Jvm.MethodName) prog_14_method_25_code 2 none).before start1.args0 rg_s = true :=
  su_hand_word (m := ⟨9, 23⟩) (by decide +kernel) rfl (by decide +kernel) (by decide +kernel)
set_option maxRecDepth 16384 in
theorem rg_code230 : (Jvm.Cond.code (⟨"HungerBooksModel", "chain", "(IZ)V"⟩ : Jvm.MethodName) prog_14_method_36_code 3 none).before start1.args0 rg_s = true :=
  su_hand_word (m := ⟨9, 34⟩) (by decide +kernel) rfl (by decide +kernel) (by decide +kernel)
set_option maxRecDepth 16384 in
theorem rg_code231 : (Jvm.Cond.code (⟨"HungerBooksModel", "isWord", "(J)Z"⟩ : Jvm.MethodName) prog_14_method_23_code 3 (some .boolean)).before start1.args0 rg_s = true :=
  su_hand_word (m := ⟨9, 21⟩) (by decide +kernel) rfl (by decide +kernel) (by decide +kernel)
set_option maxRecDepth 16384 in
theorem rg_code232 : (Jvm.Cond.code (⟨"HungerBooksModel", "test", "(I)V"⟩ : Jvm.MethodName) prog_14_method_37_code 2 none).before start1.args0 rg_s = true :=
  su_hand_word (m := ⟨9, 35⟩) (by decide +kernel) rfl (by decide +kernel) (by decide +kernel)
set_option maxRecDepth 16384 in
theorem rg_code233 : (Jvm.Cond.code (⟨"HungerBooksModel", "fault", "()I"⟩ : Jvm.MethodName) prog_14_method_40_code 1 (some .int)).before start1.args0 rg_s = true :=
  su_hand_word (m := ⟨9, 38⟩) (by decide +kernel) rfl (by decide +kernel) (by decide +kernel)
set_option maxRecDepth 16384 in
theorem rg_code234 : (Jvm.Cond.code (⟨"HungerBooksModel", "rule", "(III)I"⟩ : Jvm.MethodName) prog_14_method_48_code 4 (some .int)).before start1.args0 rg_s = true :=
  su_hand_word (m := ⟨9, 46⟩) (by decide +kernel) rfl (by decide +kernel) (by decide +kernel)
set_option maxRecDepth 16384 in
theorem rg_code235 : (Jvm.Cond.code (⟨"HungerBooksModel", "priceOf", "(III)I"⟩ : Jvm.MethodName) prog_14_method_47_code 4 (some .int)).before start1.args0 rg_s = true :=
  su_hand_word (m := ⟨9, 45⟩) (by decide +kernel) rfl (by decide +kernel) (by decide +kernel)
set_option maxRecDepth 16384 in
theorem rg_code236 : (Jvm.Cond.code (⟨"HungerBooksModel", "asked", "(IIIII)V"⟩ : Jvm.MethodName) prog_14_method_43_code 6 none).before start1.args0 rg_s = true :=
  su_hand_word (m := ⟨9, 41⟩) (by decide +kernel) rfl (by decide +kernel) (by decide +kernel)
set_option maxRecDepth 16384 in
theorem rg_code237 : (Jvm.Cond.code (⟨"HungerBooksModel", "first", "(IIIIII)I"⟩ : Jvm.MethodName) prog_14_method_46_code 11 (some .int)).before start1.args0 rg_s = true :=
  su_hand_word (m := ⟨9, 44⟩) (by decide +kernel) rfl (by decide +kernel) (by decide +kernel)
set_option maxRecDepth 16384 in
theorem rg_code238 : (Jvm.Cond.code (⟨"HungerBooksModel", "inForce", "(II)I"⟩ : Jvm.MethodName) prog_14_method_41_code 5 (some .int)).before start1.args0 rg_s = true :=
  su_hand_word (m := ⟨9, 39⟩) (by decide +kernel) rfl (by decide +kernel) (by decide +kernel)
set_option maxRecDepth 16384 in
theorem rg_code239 : (Jvm.Cond.code (⟨"HungerBooksModel", "works", "(I)V"⟩ : Jvm.MethodName) prog_14_method_45_code 10 none).before start1.args0 rg_s = true :=
  su_hand_word (m := ⟨9, 43⟩) (by decide +kernel) rfl (by decide +kernel) (by decide +kernel)
set_option maxRecDepth 16384 in
theorem rg_code240 : (Jvm.Cond.code (⟨"HungerBooksModel", "held", "(J)J"⟩ : Jvm.MethodName) prog_14_method_44_code 2 (some .long)).before start1.args0 rg_s = true :=
  su_hand_word (m := ⟨9, 42⟩) (by decide +kernel) rfl (by decide +kernel) (by decide +kernel)
set_option maxRecDepth 16384 in
theorem rg_code241 : (Jvm.Cond.code (⟨"HungerBooksModel", "number", "(III)I"⟩ : Jvm.MethodName) prog_14_method_42_code 7 (some .int)).before start1.args0 rg_s = true :=
  su_hand_word (m := ⟨9, 40⟩) (by decide +kernel) rfl (by decide +kernel) (by decide +kernel)
set_option maxRecDepth 16384 in
theorem rg_code242 : (Jvm.Cond.code (⟨"HungerBooksModel", "card", "(IIII)I"⟩ : Jvm.MethodName) prog_14_method_50_code 5 (some .int)).before start1.args0 rg_s = true :=
  su_hand_word (m := ⟨9, 48⟩) (by decide +kernel) rfl (by decide +kernel) (by decide +kernel)
set_option maxRecDepth 16384 in
theorem rg_code243 : (Jvm.Cond.code (⟨"HungerBooksModel", "cardOf", "(IIIII)I"⟩ : Jvm.MethodName) prog_14_method_49_code 6 (some .int)).before start1.args0 rg_s = true :=
  su_hand_word (m := ⟨9, 47⟩) (by decide +kernel) rfl (by decide +kernel) (by decide +kernel)
set_option maxRecDepth 16384 in
theorem rg_code244 : (Jvm.Cond.code (⟨"HungerBooksModel", "quota", "(IIII)I"⟩ : Jvm.MethodName) prog_14_method_52_code 5 (some .int)).before start1.args0 rg_s = true :=
  su_hand_word (m := ⟨9, 50⟩) (by decide +kernel) rfl (by decide +kernel) (by decide +kernel)
set_option maxRecDepth 16384 in
theorem rg_code245 : (Jvm.Cond.code (⟨"HungerBooksModel", "quotaOf", "(IIII)I"⟩ : Jvm.MethodName) prog_14_method_51_code 5 (some .int)).before start1.args0 rg_s = true :=
  su_hand_word (m := ⟨9, 49⟩) (by decide +kernel) rfl (by decide +kernel) (by decide +kernel)
set_option maxRecDepth 16384 in
theorem rg_code246 : (Jvm.Cond.code (⟨"HungerBooksModel", "crop", "(III)I"⟩ : Jvm.MethodName) prog_14_method_58_code 4 (some .int)).before start1.args0 rg_s = true :=
  su_hand_word (m := ⟨9, 56⟩) (by decide +kernel) rfl (by decide +kernel) (by decide +kernel)
set_option maxRecDepth 16384 in
theorem rg_code247 : (Jvm.Cond.code (⟨"HungerBooksModel", "add", "(IIIIIII)I"⟩ : Jvm.MethodName) prog_14_method_56_code 8 (some .int)).before start1.args0 rg_s = true :=
  su_hand_word (m := ⟨9, 54⟩) (by decide +kernel) rfl (by decide +kernel) (by decide +kernel)
set_option maxRecDepth 16384 in
theorem rg_code248 : (Jvm.Cond.code (⟨"HungerBooksModel", "deliver", "(II)I"⟩ : Jvm.MethodName) prog_14_method_59_code 6 (some .int)).before start1.args0 rg_s = true :=
  su_hand_word (m := ⟨9, 57⟩) (by decide +kernel) rfl (by decide +kernel) (by decide +kernel)
set_option maxRecDepth 16384 in
theorem rg_code249 : (Jvm.Cond.code (⟨"HungerBooksModel", "isLot", "(I)Z"⟩ : Jvm.MethodName) prog_14_method_53_code 2 (some .boolean)).before start1.args0 rg_s = true :=
  su_hand_word (m := ⟨9, 51⟩) (by decide +kernel) rfl (by decide +kernel) (by decide +kernel)
set_option maxRecDepth 16384 in
theorem rg_code250 : (Jvm.Cond.code (⟨"HungerBooksModel", "isOfFarm", "(I)Z"⟩ : Jvm.MethodName) prog_14_method_55_code 1 (some .boolean)).before start1.args0 rg_s = true :=
  su_hand_word (m := ⟨9, 53⟩) (by decide +kernel) rfl (by decide +kernel) (by decide +kernel)
set_option maxRecDepth 16384 in
theorem rg_code251 : (Jvm.Cond.code (⟨"HungerBooksModel", "hands", "(IIIII)I"⟩ : Jvm.MethodName) prog_14_method_57_code 6 (some .int)).before start1.args0 rg_s = true :=
  su_hand_word (m := ⟨9, 55⟩) (by decide +kernel) rfl (by decide +kernel) (by decide +kernel)
set_option maxRecDepth 16384 in
theorem rg_code252 : (Jvm.Cond.code (⟨"HungerBooksModel", "buy", "(IIIZ)J"⟩ : Jvm.MethodName) prog_14_method_61_code 17 (some .long)).before start1.args0 rg_s = true :=
  su_hand_word (m := ⟨9, 58⟩) (by decide +kernel) rfl (by decide +kernel) (by decide +kernel)
set_option maxRecDepth 16384 in
theorem rg_code253 : (Jvm.Cond.code (⟨"HungerBooksModel", "deal", "(IIII)I"⟩ : Jvm.MethodName) prog_14_method_65_code 5 (some .int)).before start1.args0 rg_s = true :=
  su_hand_word (m := ⟨9, 62⟩) (by decide +kernel) rfl (by decide +kernel) (by decide +kernel)
set_option maxRecDepth 16384 in
theorem rg_code254 : (Jvm.Cond.code (⟨"HungerBooksModel", "isParty", "(I)Z"⟩ : Jvm.MethodName) prog_14_method_62_code 2 (some .boolean)).before start1.args0 rg_s = true :=
  su_hand_word (m := ⟨9, 59⟩) (by decide +kernel) rfl (by decide +kernel) (by decide +kernel)
set_option maxRecDepth 16384 in
theorem rg_code255 : (Jvm.Cond.code (⟨"HungerBooksModel", "isOfHouse", "(I)Z"⟩ : Jvm.MethodName) prog_14_method_54_code 1 (some .boolean)).before start1.args0 rg_s = true :=
  su_hand_word (m := ⟨9, 52⟩) (by decide +kernel) rfl (by decide +kernel) (by decide +kernel)
set_option maxRecDepth 16384 in
theorem rg_code256 : (Jvm.Cond.code (⟨"HungerBooksModel", "coinsOf", "(I)J"⟩ : Jvm.MethodName) prog_14_method_63_code 2 (some .long)).before start1.args0 rg_s = true :=
  su_hand_word (m := ⟨9, 60⟩) (by decide +kernel) rfl (by decide +kernel) (by decide +kernel)
set_option maxRecDepth 16384 in
theorem rg_code257 : (Jvm.Cond.code (⟨"HungerBooksModel", "pays", "(IJ)V"⟩ : Jvm.MethodName) prog_14_method_64_code 4 none).before start1.args0 rg_s = true :=
  su_hand_word (m := ⟨9, 61⟩) (by decide +kernel) rfl (by decide +kernel) (by decide +kernel)
set_option maxRecDepth 16384 in
theorem rg_code258 : (Jvm.Cond.code (⟨"HungerBooksModel", "parcel", "(III)I"⟩ : Jvm.MethodName) prog_14_method_66_code 5 (some .int)).before start1.args0 rg_s = true :=
  su_hand_word (m := ⟨9, 63⟩) (by decide +kernel) rfl (by decide +kernel) (by decide +kernel)
set_option maxRecDepth 16384 in
theorem rg_code259 : (Jvm.Cond.code (⟨"HungerBooksModel", "seize", "(I)I"⟩ : Jvm.MethodName) prog_14_method_67_code 5 (some .int)).before start1.args0 rg_s = true :=
  su_hand_word (m := ⟨9, 64⟩) (by decide +kernel) rfl (by decide +kernel) (by decide +kernel)
set_option maxRecDepth 16384 in
theorem rg_code260 : (Jvm.Cond.code (⟨"HungerBooksModel", "pass", "(I)I"⟩ : Jvm.MethodName) prog_14_method_70_code 4 (some .int)).before start1.args0 rg_s = true :=
  su_hand_word (m := ⟨9, 67⟩) (by decide +kernel) rfl (by decide +kernel) (by decide +kernel)
set_option maxRecDepth 16384 in
theorem rg_code261 : (Jvm.Cond.code (⟨"HungerBooksModel", "eats", "(I)V"⟩ : Jvm.MethodName) prog_14_method_69_code 8 none).before start1.args0 rg_s = true :=
  su_hand_word (m := ⟨9, 66⟩) (by decide +kernel) rfl (by decide +kernel) (by decide +kernel)
set_option maxRecDepth 16384 in
theorem rg_code262 : (Jvm.Cond.code (⟨"HungerBooksModel", "nextOf", "(I)I"⟩ : Jvm.MethodName) prog_14_method_68_code 4 (some .int)).before start1.args0 rg_s = true :=
  su_hand_word (m := ⟨9, 65⟩) (by decide +kernel) rfl (by decide +kernel) (by decide +kernel)
set_option maxRecDepth 16384 in
theorem rg_code263 : (Jvm.Cond.code (⟨"HungerBooksModel", "max", "(II)I"⟩ : Jvm.MethodName) prog_14_method_5_code 2 (some .int)).before start1.args0 rg_s = true :=
  su_hand_word (m := ⟨9, 3⟩) (by decide +kernel) rfl (by decide +kernel) (by decide +kernel)
set_option maxRecDepth 16384 in
theorem rg_code264 : (Jvm.Cond.code (⟨"HungerBooksModel", "lotOf", "(II)I"⟩ : Jvm.MethodName) prog_14_method_72_code 3 (some .int)).before start1.args0 rg_s = true :=
  su_hand_word (m := ⟨9, 69⟩) (by decide +kernel) rfl (by decide +kernel) (by decide +kernel)
set_option maxRecDepth 16384 in
theorem rg_code265 : (Jvm.Cond.code (⟨"HungerBooksModel", "handsOf", "(I)I"⟩ : Jvm.MethodName) prog_14_method_71_code 4 (some .int)).before start1.args0 rg_s = true :=
  su_hand_word (m := ⟨9, 68⟩) (by decide +kernel) rfl (by decide +kernel) (by decide +kernel)
set_option maxRecDepth 16384 in
theorem rg_code266 : (Jvm.Cond.code (⟨"HungerBooksModel", "led", "(II)I"⟩ : Jvm.MethodName) prog_14_method_73_code 7 (some .int)).before start1.args0 rg_s = true :=
  su_hand_word (m := ⟨9, 70⟩) (by decide +kernel) rfl (by decide +kernel) (by decide +kernel)
set_option maxRecDepth 16384 in
theorem rg_code267 : (Jvm.Cond.code (⟨"HungerBooksModel", "coins", "(I)J"⟩ : Jvm.MethodName) prog_14_method_74_code 2 (some .long)).before start1.args0 rg_s = true :=
  su_hand_word (m := ⟨9, 71⟩) (by decide +kernel) rfl (by decide +kernel) (by decide +kernel)
end
section
set_option maxRecDepth 16384 in
theorem rg_code268 : (Jvm.Cond.code (⟨"HungerBooksModel", "houseOf", "(II)J"⟩ : Jvm.MethodName) prog_14_method_75_code 6 (some .long)).before start1.args0 rg_s = true :=
  su_hand_word (m := ⟨9, 72⟩) (by decide +kernel) rfl (by decide +kernel) (by decide +kernel)
set_option maxRecDepth 16384 in
theorem rg_code269 : (Jvm.Cond.code (⟨"HungerBooksModel", "lack", "(II)I"⟩ : Jvm.MethodName) prog_14_method_76_code 3 (some .int)).before start1.args0 rg_s = true :=
  su_hand_word (m := ⟨9, 73⟩) (by decide +kernel) rfl (by decide +kernel) (by decide +kernel)
set_option maxRecDepth 16384 in
theorem rg_code270 : (Jvm.Cond.code (⟨"HungerBooksModel", "fake", "(IIII)I"⟩ : Jvm.MethodName) prog_14_method_77_code 7 (some .int)).before start1.args0 rg_s = true :=
  su_hand_word (m := ⟨9, 74⟩) (by decide +kernel) rfl (by decide +kernel) (by decide +kernel)
set_option maxRecDepth 16384 in
theorem rg_code271 : (Jvm.Cond.code (⟨"HungerBooksModel", "dead", "(III)I"⟩ : Jvm.MethodName) prog_14_method_78_code 4 (some .int)).before start1.args0 rg_s = true :=
  su_hand_word (m := ⟨9, 75⟩) (by decide +kernel) rfl (by decide +kernel) (by decide +kernel)
set_option maxRecDepth 16384 in
theorem rg_code272 : (Jvm.Cond.code (⟨"HungerBooksModel", "shortOf", "(IIII)I"⟩ : Jvm.MethodName) prog_14_method_79_code 5 (some .int)).before start1.args0 rg_s = true :=
  su_hand_word (m := ⟨9, 76⟩) (by decide +kernel) rfl (by decide +kernel) (by decide +kernel)
set_option maxRecDepth 16384 in
theorem rg_code273 : (Jvm.Cond.code (⟨"HungerBooksModel", "field", "(IIII)Z"⟩ : Jvm.MethodName) prog_14_method_80_code 5 (some .boolean)).before start1.args0 rg_s = true :=
  su_hand_word (m := ⟨9, 77⟩) (by decide +kernel) rfl (by decide +kernel) (by decide +kernel)
set_option maxRecDepth 16384 in
theorem rg_code274 : (Jvm.Cond.code (⟨"HungerBooksModel", "elsewhere", "(IIIII)I"⟩ : Jvm.MethodName) prog_14_method_81_code 8 (some .int)).before start1.args0 rg_s = true :=
  su_hand_word (m := ⟨9, 78⟩) (by decide +kernel) rfl (by decide +kernel) (by decide +kernel)
set_option maxRecDepth 16384 in
theorem rg_code275 : (Jvm.Cond.code (⟨"HungerBooksModel", "exchange", "(IIII)Z"⟩ : Jvm.MethodName) prog_14_method_83_code 5 (some .boolean)).before start1.args0 rg_s = true :=
  su_hand_word (m := ⟨9, 80⟩) (by decide +kernel) rfl (by decide +kernel) (by decide +kernel)
set_option maxRecDepth 16384 in
theorem rg_code276 : (Jvm.Cond.code (⟨"HungerBooksModel", "isDesk", "(I)Z"⟩ : Jvm.MethodName) prog_14_method_82_code 1 (some .boolean)).before start1.args0 rg_s = true :=
  su_hand_word (m := ⟨9, 79⟩) (by decide +kernel) rfl (by decide +kernel) (by decide +kernel)
set_option maxRecDepth 16384 in
theorem rg_code277 : (Jvm.Cond.code (⟨"HungerBooksModel", "round", "(II)I"⟩ : Jvm.MethodName) prog_14_method_85_code 5 (some .int)).before start1.args0 rg_s = true :=
  su_hand_word (m := ⟨9, 82⟩) (by decide +kernel) rfl (by decide +kernel) (by decide +kernel)
set_option maxRecDepth 16384 in
theorem rg_code278 : (Jvm.Cond.code (⟨"HungerBooksModel", "tries", "(III)V"⟩ : Jvm.MethodName) prog_14_method_84_code 10 none).before start1.args0 rg_s = true :=
  su_hand_word (m := ⟨9, 81⟩) (by decide +kernel) rfl (by decide +kernel) (by decide +kernel)
set_option maxRecDepth 16384 in
theorem rg_code279 : (Jvm.Cond.code (⟨"HungerBooksModel", "road", "(III)Z"⟩ : Jvm.MethodName) prog_14_method_87_code 4 (some .boolean)).before start1.args0 rg_s = true :=
  su_hand_word (m := ⟨9, 84⟩) (by decide +kernel) rfl (by decide +kernel) (by decide +kernel)
set_option maxRecDepth 16384 in
theorem rg_codes_hold_8 : ∀ c ∈ tables_1_8.filter su_isCode, c.before start1.args0 rg_s = true := by
  rw [start1.codes_are_8]
  exact List.forall_mem_cons.mpr ⟨rg_code223, List.forall_mem_cons.mpr ⟨rg_code224, List.forall_mem_cons.mpr ⟨rg_code225, List.forall_mem_cons.mpr ⟨rg_code226, List.forall_mem_cons.mpr ⟨rg_code227, List.forall_mem_cons.mpr ⟨rg_code228, List.forall_mem_cons.mpr ⟨rg_code229, List.forall_mem_cons.mpr ⟨rg_code230, List.forall_mem_cons.mpr ⟨rg_code231, List.forall_mem_cons.mpr ⟨rg_code232, List.forall_mem_cons.mpr ⟨rg_code233, List.forall_mem_cons.mpr ⟨rg_code234, List.forall_mem_cons.mpr ⟨rg_code235, List.forall_mem_cons.mpr ⟨rg_code236, List.forall_mem_cons.mpr ⟨rg_code237, List.forall_mem_cons.mpr ⟨rg_code238, List.forall_mem_cons.mpr ⟨rg_code239, List.forall_mem_cons.mpr ⟨rg_code240, List.forall_mem_cons.mpr ⟨rg_code241, List.forall_mem_cons.mpr ⟨rg_code242, List.forall_mem_cons.mpr ⟨rg_code243, List.forall_mem_cons.mpr ⟨rg_code244, List.forall_mem_cons.mpr ⟨rg_code245, List.forall_mem_cons.mpr ⟨rg_code246, List.forall_mem_cons.mpr ⟨rg_code247, List.forall_mem_cons.mpr ⟨rg_code248, List.forall_mem_cons.mpr ⟨rg_code249, List.forall_mem_cons.mpr ⟨rg_code250, List.forall_mem_cons.mpr ⟨rg_code251, List.forall_mem_cons.mpr ⟨rg_code252, List.forall_mem_cons.mpr ⟨rg_code253, List.forall_mem_cons.mpr ⟨rg_code254, List.forall_mem_cons.mpr ⟨rg_code255, List.forall_mem_cons.mpr ⟨rg_code256, List.forall_mem_cons.mpr ⟨rg_code257, List.forall_mem_cons.mpr ⟨rg_code258, List.forall_mem_cons.mpr ⟨rg_code259, List.forall_mem_cons.mpr ⟨rg_code260, List.forall_mem_cons.mpr ⟨rg_code261, List.forall_mem_cons.mpr ⟨rg_code262, List.forall_mem_cons.mpr ⟨rg_code263, List.forall_mem_cons.mpr ⟨rg_code264, List.forall_mem_cons.mpr ⟨rg_code265, List.forall_mem_cons.mpr ⟨rg_code266, List.forall_mem_cons.mpr ⟨rg_code267, List.forall_mem_cons.mpr ⟨rg_code268, List.forall_mem_cons.mpr ⟨rg_code269, List.forall_mem_cons.mpr ⟨rg_code270, List.forall_mem_cons.mpr ⟨rg_code271, List.forall_mem_cons.mpr ⟨rg_code272, List.forall_mem_cons.mpr ⟨rg_code273, List.forall_mem_cons.mpr ⟨rg_code274, List.forall_mem_cons.mpr ⟨rg_code275, List.forall_mem_cons.mpr ⟨rg_code276, List.forall_mem_cons.mpr ⟨rg_code277, List.forall_mem_cons.mpr ⟨rg_code278, List.forall_mem_cons.mpr ⟨rg_code279, List.forall_mem_nil _⟩⟩⟩⟩⟩⟩⟩⟩⟩⟩⟩⟩⟩⟩⟩⟩⟩⟩⟩⟩⟩⟩⟩⟩⟩⟩⟩⟩⟩⟩⟩⟩⟩⟩⟩⟩⟩⟩⟩⟩⟩⟩⟩⟩⟩⟩⟩⟩⟩⟩⟩⟩⟩⟩⟩⟩⟩
set_option maxRecDepth 16384 in
theorem rg_others_8_0 : (tables_1_8.take 26).all (fun c => su_isCode c || c.before start1.args0 rg_s) = true := by decide +kernel
set_option maxRecDepth 16384 in
theorem rg_others_8_1 : ((tables_1_8.drop 26).take 26).all (fun c => su_isCode c || c.before start1.args0 rg_s) = true := by decide +kernel
set_option maxRecDepth 16384 in
theorem rg_others_8_2 : (((tables_1_8.drop 26).drop 26).take 26).all (fun c => su_isCode c || c.before start1.args0 rg_s) = true := by decide +kernel
set_option maxRecDepth 16384 in
theorem rg_others_8_3 : ((((tables_1_8.drop 26).drop 26).drop 26).take 26).all (fun c => su_isCode c || c.before start1.args0 rg_s) = true := by decide +kernel
set_option maxRecDepth 16384 in
theorem rg_others_8_4 : (((((tables_1_8.drop 26).drop 26).drop 26).drop 26).take 26).all (fun c => su_isCode c || c.before start1.args0 rg_s) = true := by decide +kernel
set_option maxRecDepth 16384 in
theorem rg_others_8_5 : ((((((tables_1_8.drop 26).drop 26).drop 26).drop 26).drop 26).take 26).all (fun c => su_isCode c || c.before start1.args0 rg_s) = true := by decide +kernel
set_option maxRecDepth 16384 in
theorem rg_others_8_6 : (((((((tables_1_8.drop 26).drop 26).drop 26).drop 26).drop 26).drop 26).take 26).all (fun c => su_isCode c || c.before start1.args0 rg_s) = true := by decide +kernel
set_option maxRecDepth 16384 in
theorem rg_others_8_7 : ((((((((tables_1_8.drop 26).drop 26).drop 26).drop 26).drop 26).drop 26).drop 26).take 26).all (fun c => su_isCode c || c.before start1.args0 rg_s) = true := by decide +kernel
set_option maxRecDepth 16384 in
theorem rg_others_8_8 : (((((((((tables_1_8.drop 26).drop 26).drop 26).drop 26).drop 26).drop 26).drop 26).drop 26).take 26).all (fun c => su_isCode c || c.before start1.args0 rg_s) = true := by decide +kernel
set_option maxRecDepth 16384 in
theorem rg_others_8_9 : (((((((((tables_1_8.drop 26).drop 26).drop 26).drop 26).drop 26).drop 26).drop 26).drop 26).drop 26).all (fun c => su_isCode c || c.before start1.args0 rg_s) = true := by decide +kernel
set_option maxRecDepth 16384 in
theorem rg_others_hold_8 : tables_1_8.all (fun c => su_isCode c || c.before start1.args0 rg_s) = true := start1.su_all_split _ 26 tables_1_8 rg_others_8_0 (start1.su_all_split _ 26 (tables_1_8.drop 26) rg_others_8_1 (start1.su_all_split _ 26 ((tables_1_8.drop 26).drop 26) rg_others_8_2 (start1.su_all_split _ 26 (((tables_1_8.drop 26).drop 26).drop 26) rg_others_8_3 (start1.su_all_split _ 26 ((((tables_1_8.drop 26).drop 26).drop 26).drop 26) rg_others_8_4 (start1.su_all_split _ 26 (((((tables_1_8.drop 26).drop 26).drop 26).drop 26).drop 26) rg_others_8_5 (start1.su_all_split _ 26 ((((((tables_1_8.drop 26).drop 26).drop 26).drop 26).drop 26).drop 26) rg_others_8_6 (start1.su_all_split _ 26 (((((((tables_1_8.drop 26).drop 26).drop 26).drop 26).drop 26).drop 26).drop 26) rg_others_8_7 (start1.su_all_split _ 26 ((((((((tables_1_8.drop 26).drop 26).drop 26).drop 26).drop 26).drop 26).drop 26).drop 26) rg_others_8_8 rg_others_8_9))))))))
set_option maxRecDepth 16384 in
theorem rg_words_8 : ∀ c ∈ tables_1_8, c.before start1.args0 rg_s = true := fun c h => su_words rg_others_hold_8 rg_codes_hold_8 c h
end
section
set_option maxRecDepth 16384 in
theorem rg_code280 : (Jvm.Cond.code (⟨"HungerBooksModel", "isPlace", "(I)Z"⟩ : Jvm.MethodName) prog_14_method_86_code 1 (some .boolean)).before start1.args0 rg_s = true :=
  su_hand_word (m := ⟨9, 83⟩) (by decide +kernel) rfl (by decide +kernel) (by decide +kernel)
set_option maxRecDepth 16384 in
theorem rg_code281 : (Jvm.Cond.code (⟨"HungerBooksModel", "post", "(IIII)I"⟩ : Jvm.MethodName) prog_14_method_88_code 5 (some .int)).before start1.args0 rg_s = true :=
  su_hand_word (m := ⟨9, 85⟩) (by decide +kernel) rfl (by decide +kernel) (by decide +kernel)
set_option maxRecDepth 16384 in
theorem rg_code282 : (Jvm.Cond.code (⟨"HungerBooksModel", "way", "(IIII)I"⟩ : Jvm.MethodName) prog_14_method_90_code 10 (some .int)).before start1.args0 rg_s = true :=
  su_hand_word (m := ⟨9, 87⟩) (by decide +kernel) rfl (by decide +kernel) (by decide +kernel)
set_option maxRecDepth 16384 in
theorem rg_code283 : (Jvm.Cond.code (⟨"HungerBooksModel", "postsOn", "(III)I"⟩ : Jvm.MethodName) prog_14_method_89_code 7 (some .int)).before start1.args0 rg_s = true :=
  su_hand_word (m := ⟨9, 86⟩) (by decide +kernel) rfl (by decide +kernel) (by decide +kernel)
set_option maxRecDepth 16384 in
theorem rg_code284 : (Jvm.Cond.code (⟨"HungerBooksModel", "plan", "(IIII)I"⟩ : Jvm.MethodName) prog_14_method_95_code 10 (some .int)).before start1.args0 rg_s = true :=
  su_hand_word (m := ⟨9, 92⟩) (by decide +kernel) rfl (by decide +kernel) (by decide +kernel)
set_option maxRecDepth 16384 in
theorem rg_code285 : (Jvm.Cond.code (⟨"HungerBooksModel", "prepares", "(I)V"⟩ : Jvm.MethodName) prog_14_method_92_code 11 none).before start1.args0 rg_s = true :=
  su_hand_word (m := ⟨9, 89⟩) (by decide +kernel) rfl (by decide +kernel) (by decide +kernel)
set_option maxRecDepth 16384 in
theorem rg_code286 : (Jvm.Cond.code (⟨"HungerBooksModel", "shareOf", "(I)I"⟩ : Jvm.MethodName) prog_14_method_91_code 1 (some .int)).before start1.args0 rg_s = true :=
  su_hand_word (m := ⟨9, 88⟩) (by decide +kernel) rfl (by decide +kernel) (by decide +kernel)
set_option maxRecDepth 16384 in
theorem rg_code287 : (Jvm.Cond.code (⟨"HungerBooksModel", "missing", "(IJI)J"⟩ : Jvm.MethodName) prog_14_method_93_code 7 (some .long)).before start1.args0 rg_s = true :=
  su_hand_word (m := ⟨9, 90⟩) (by decide +kernel) rfl (by decide +kernel) (by decide +kernel)
set_option maxRecDepth 16384 in
theorem rg_code288 : (Jvm.Cond.code (⟨"HungerBooksModel", "comes", "(IIJ)Z"⟩ : Jvm.MethodName) prog_14_method_94_code 8 (some .boolean)).before start1.args0 rg_s = true :=
  su_hand_word (m := ⟨9, 91⟩) (by decide +kernel) rfl (by decide +kernel) (by decide +kernel)
set_option maxRecDepth 16384 in
theorem rg_code289 : (Jvm.Cond.code (⟨"HungerBooksModel", "judge", "(IIIII)I"⟩ : Jvm.MethodName) prog_14_method_96_code 6 (some .int)).before start1.args0 rg_s = true :=
  su_hand_word (m := ⟨9, 93⟩) (by decide +kernel) rfl (by decide +kernel) (by decide +kernel)
set_option maxRecDepth 16384 in
theorem rg_code290 : (Jvm.Cond.code (⟨"HungerBooksModel", "count", "(I)I"⟩ : Jvm.MethodName) prog_14_method_97_code 5 (some .int)).before start1.args0 rg_s = true :=
  su_hand_word (m := ⟨9, 94⟩) (by decide +kernel) rfl (by decide +kernel) (by decide +kernel)
set_option maxRecDepth 16384 in
theorem rg_codes_hold_9 : ∀ c ∈ tables_1_9.filter su_isCode, c.before start1.args0 rg_s = true := by
  rw [start1.codes_are_9]
  exact List.forall_mem_cons.mpr ⟨rg_code280, List.forall_mem_cons.mpr ⟨rg_code281, List.forall_mem_cons.mpr ⟨rg_code282, List.forall_mem_cons.mpr ⟨rg_code283, List.forall_mem_cons.mpr ⟨rg_code284, List.forall_mem_cons.mpr ⟨rg_code285, List.forall_mem_cons.mpr ⟨rg_code286, List.forall_mem_cons.mpr ⟨rg_code287, List.forall_mem_cons.mpr ⟨rg_code288, List.forall_mem_cons.mpr ⟨rg_code289, List.forall_mem_cons.mpr ⟨rg_code290, List.forall_mem_nil _⟩⟩⟩⟩⟩⟩⟩⟩⟩⟩⟩
set_option maxRecDepth 16384 in
theorem rg_others_9_0 : (tables_1_9.take 26).all (fun c => su_isCode c || c.before start1.args0 rg_s) = true := by decide +kernel
set_option maxRecDepth 16384 in
theorem rg_others_9_1 : (tables_1_9.drop 26).all (fun c => su_isCode c || c.before start1.args0 rg_s) = true := by decide +kernel
set_option maxRecDepth 16384 in
theorem rg_others_hold_9 : tables_1_9.all (fun c => su_isCode c || c.before start1.args0 rg_s) = true := start1.su_all_split _ 26 tables_1_9 rg_others_9_0 rg_others_9_1
set_option maxRecDepth 16384 in
theorem rg_words_9 : ∀ c ∈ tables_1_9, c.before start1.args0 rg_s = true := fun c h => su_words rg_others_hold_9 rg_codes_hold_9 c h
end
section
set_option maxRecDepth 16384 in
theorem rg_words : ∀ c ∈ (Cond.code x code maxLocals ret :: tables_1), c.before start1.args0 rg_s = true := by
  intro c hc
  rcases List.mem_cons.mp hc with h | h
  · rw [h]; exact rg_word_code
  · have h1 : c ∈ tables_1_1 ++ (tables_1_2 ++ (tables_1_3 ++ (tables_1_4 ++ (tables_1_5 ++ (tables_1_6 ++ (tables_1_7 ++ (tables_1_8 ++ tables_1_9))))))) := h
    rcases List.mem_append.mp h1 with h2 | h1
    · exact rg_words_1 c h2
    rcases List.mem_append.mp h1 with h2 | h1
    · exact rg_words_2 c h2
    rcases List.mem_append.mp h1 with h2 | h1
    · exact rg_words_3 c h2
    rcases List.mem_append.mp h1 with h2 | h1
    · exact rg_words_4 c h2
    rcases List.mem_append.mp h1 with h2 | h1
    · exact rg_words_5 c h2
    rcases List.mem_append.mp h1 with h2 | h1
    · exact rg_words_6 c h2
    rcases List.mem_append.mp h1 with h2 | h1
    · exact rg_words_7 c h2
    rcases List.mem_append.mp h1 with h2 | h1
    · exact rg_words_8 c h2
    exact rg_words_9 c h1
set_option maxRecDepth 16384 in
theorem rg_atStart : AtStart classFile x code maxLocals ret World_1 tables_1 room_1 Calls_1 rest_1 Pre_1 launch0 start1.p0 start1.e0 rg_s ⟨0, 0⟩ start1.args0 Lib.HandBits.below0 :=
  ⟨lists_1, trivial, launch0.admits_env _ _ _, launch0.least_env, fairChoices_fair.cas, fairChoices_fair.clock, rfl, by decide +kernel, by decide +kernel,
    (Spec.applies_iff rfl).mpr ⟨rfl, rfl, rfl, by decide +kernel, by decide +kernel, by decide +kernel, launch0.hasRoom_least _ room_1 (by decide +kernel) (by decide +kernel) (by decide +kernel) (by decide +kernel) (by decide +kernel) (by decide +kernel), atoms_intro rg_words⟩,
    trivial, (show rest_1_c.before start1.args0 rg_s = true by decide +kernel), (show (Cond.and given_1 narrow_1).before start1.args0 rg_s = true by decide +kernel)⟩
end
section
def rg_st (n : Nat) : State := stepsAlone start1.p0.tables start1.e0 n rg_s
/-- not ended, as far as frames tell: above what was below lies a frame that isn't an exception's -/
def rg_open (t : State) : Bool := match t.frames with
  | .throwing _ :: _ => false
  | _ :: _ :: _ => true
  | _ => false
set_option maxRecDepth 16384 in
theorem rg_first : (List.range 11).all (fun n => rg_open (rg_st n)) = true := by decide +kernel
set_option maxRecDepth 16384 in
theorem rg_halts : ¬ (rg_st 11).status = .running := by decide +kernel
theorem rg_held (tb : Tables) (e : Env) {t : State} (h : ¬ t.status = .running) : ∀ k, stepsAlone tb e k t = t := by
  intro k
  cases k with
  | zero => rfl
  | succ k =>
    show (match t.status, t.curStatus?, t.alone with
      | .running, some .runnable, true => stepsAlone tb e k (stepThread tb e t).1
      | _, _, _ => t) = t
    split
    · rename_i q _ _
      exact absurd q h
    · rfl
/-- after any number of steps: not ended, or stopped -/
theorem rg_all (n : Nat) : rg_open (rg_st n) = true ∨ ¬ (rg_st n).status = .running := by
  rcases Nat.lt_or_ge n 11 with h | h
  · exact Or.inl (List.all_eq_true.mp rg_first n (List.mem_range.mpr h))
  · obtain ⟨k, rfl⟩ : ∃ k, n = 11 + k := ⟨n - 11, by omega⟩
    have e : rg_st (11 + k) = rg_st 11 := by
      show stepsAlone _ _ (11 + k) rg_s = _
      rw [stepsAlone_add]
      exact rg_held _ _ rg_halts k
    rw [e]
    exact Or.inr rg_halts
theorem rg_not {t : State} (h : rg_open t = true) (o : Outcome) : ¬ Ended t Lib.HandBits.below0 o := by
  intro q
  cases o with
  | threw a =>
    have q : t.frames = .throwing a :: Lib.HandBits.below0 := q
    simp [rg_open, q] at h
  | returned v =>
    have q : t.frames = .native { method := ⟨0, 0⟩, args := #[], awaiting := false, answer := some (.returned v) } :: [] := q
    simp [rg_open, q] at h
/-- THE STATEMENT IS FALSE: it doesn't say of which class the static array is that the constructor clones -/
theorem rg_false : ¬ Claimed_1_1 := by
  intro h
  obtain ⟨hL, hW, ha, -, hc, hk, hf, hfit, hheap, happ, h1, h2, h3⟩ := rg_atStart
  obtain ⟨n, o, -, hs, hE, -⟩ := h launch0 rfl hL hW start1.p0 start1.e0 ha hc hk rg_s ⟨0, 0⟩ start1.args0 Lib.HandBits.below0 hf hfit hheap happ ⟨h1, h2, h3⟩
  rcases rg_all n with q | q
  · exact rg_not q o hE
  · exact q hs
theorem rg_no : ¬ (Claimed_1_1 ∧ Claimed_1_2) := fun h => rg_false h.1
end
