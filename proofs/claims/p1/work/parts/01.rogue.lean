/-- a class of the kind 'array of int', not the one called [I: it has a clone of its own, whose code is no instruction -/
def rg_K : Class := { Lib.HandJ.cls "[rogue" #[] #[] 0x411 #[] #[Lib.HandJ.method "clone" "()Ljava/lang/Object;" [] (some (.object "java/lang/Object")) 0x1 1 ⟨#[0xfe]⟩] #[] with kind := .array 24 .int, super := some 1, cf := none }
/-- the witness's start, but FIRST_MEASURES holds an array of that class -/
def rg_s : State := { start1.about with vm := { start1.about.vm with classes := start1.about.vm.classes.push rg_K }, heap := start1.about.heap.setIfInBounds 7 { cls := 37, slots := #[.int 200, .int 80, .int 150, .int 300, .int 60, .int 0], vm := .none } }

set_option maxRecDepth 16384 in
theorem rg_word_code : (Cond.code x code maxLocals ret).before start1.args0 rg_s = true := su_hand_word (m := ⟨0, 0⟩) (by decide +kernel) rfl (by decide +kernel) (by decide +kernel)
set_option maxRecDepth 16384 in
theorem rg_code0 : (Jvm.Cond.code (⟨"HungerBooks", "<init>", "()V"⟩ : Jvm.MethodName) prog_1_method_1_code 1 none).before start1.args0 rg_s = true :=
  su_hand_word (m := ⟨2, 0⟩) (by decide +kernel) rfl (by decide +kernel) (by decide +kernel)
set_option maxRecDepth 16384 in
theorem rg_code1 : (Jvm.Cond.code (⟨"java/lang/Object", "<init>", "()V"⟩ : Jvm.MethodName) object_method_1_code 1 none).before start1.args0 rg_s = true :=
  su_hand_word (m := ⟨1, 0⟩) (by decide +kernel) rfl (by decide +kernel) (by decide +kernel)
set_option maxRecDepth 16384 in
theorem rg_code2 : (Jvm.Cond.code (⟨"HungerBooks$Reader", "<init>", "()V"⟩ : Jvm.MethodName) prog_10_method_1_code 1 none).before start1.args0 rg_s = true :=
  su_hand_word (m := ⟨3, 0⟩) (by decide +kernel) rfl (by decide +kernel) (by decide +kernel)
set_option maxRecDepth 16384 in
theorem rg_code3 : (Jvm.Cond.code (⟨"HungerBooks$Lexer", "<init>", "()V"⟩ : Jvm.MethodName) prog_6_method_1_code 1 none).before start1.args0 rg_s = true :=
  su_hand_word (m := ⟨4, 0⟩) (by decide +kernel) rfl (by decide +kernel) (by decide +kernel)
set_option maxRecDepth 16384 in
theorem rg_code4 : (Jvm.Cond.code (⟨"HungerBooks$Decrees", "<init>", "()V"⟩ : Jvm.MethodName) prog_2_method_1_code 1 none).before start1.args0 rg_s = true :=
  su_hand_word (m := ⟨5, 0⟩) (by decide +kernel) rfl (by decide +kernel) (by decide +kernel)
set_option maxRecDepth 16384 in
theorem rg_code5 : (Jvm.Cond.code (⟨"HungerBooks$Desks", "<init>", "()V"⟩ : Jvm.MethodName) prog_3_method_1_code 1 none).before start1.args0 rg_s = true :=
  su_hand_word (m := ⟨6, 0⟩) (by decide +kernel) rfl (by decide +kernel) (by decide +kernel)
set_option maxRecDepth 16384 in
theorem rg_code6 : (Jvm.Cond.code (⟨"HungerBooks$Roads", "<init>", "()V"⟩ : Jvm.MethodName) prog_11_method_1_code 1 none).before start1.args0 rg_s = true :=
  su_hand_word (m := ⟨7, 0⟩) (by decide +kernel) rfl (by decide +kernel) (by decide +kernel)
set_option maxRecDepth 16384 in
theorem rg_code7 : (Jvm.Cond.code (⟨"HungerBooks$Planner", "<init>", "()V"⟩ : Jvm.MethodName) prog_9_method_1_code 1 none).before start1.args0 rg_s = true :=
  su_hand_word (m := ⟨8, 0⟩) (by decide +kernel) rfl (by decide +kernel) (by decide +kernel)
set_option maxRecDepth 16384 in
theorem rg_codes_hold_1 : ∀ c ∈ tables_1_1.filter su_isCode, c.before start1.args0 rg_s = true := by
  rw [start1.codes_are_1]
  exact List.forall_mem_cons.mpr ⟨rg_code0, List.forall_mem_cons.mpr ⟨rg_code1, List.forall_mem_cons.mpr ⟨rg_code2, List.forall_mem_cons.mpr ⟨rg_code3, List.forall_mem_cons.mpr ⟨rg_code4, List.forall_mem_cons.mpr ⟨rg_code5, List.forall_mem_cons.mpr ⟨rg_code6, List.forall_mem_cons.mpr ⟨rg_code7, List.forall_mem_nil _⟩⟩⟩⟩⟩⟩⟩⟩
set_option maxRecDepth 16384 in
theorem rg_others_1_0 : (tables_1_1.take 40).all (fun c => su_isCode c || c.before start1.args0 rg_s) = true := by decide +kernel
set_option maxRecDepth 16384 in
theorem rg_others_1_1 : ((tables_1_1.drop 40).take 40).all (fun c => su_isCode c || c.before start1.args0 rg_s) = true := by decide +kernel
set_option maxRecDepth 16384 in
theorem rg_others_1_2 : (((tables_1_1.drop 40).drop 40).take 40).all (fun c => su_isCode c || c.before start1.args0 rg_s) = true := by decide +kernel
set_option maxRecDepth 16384 in
theorem rg_others_1_3 : ((((tables_1_1.drop 40).drop 40).drop 40).take 40).all (fun c => su_isCode c || c.before start1.args0 rg_s) = true := by decide +kernel
set_option maxRecDepth 16384 in
theorem rg_others_1_4 : (((((tables_1_1.drop 40).drop 40).drop 40).drop 40).take 40).all (fun c => su_isCode c || c.before start1.args0 rg_s) = true := by decide +kernel
set_option maxRecDepth 16384 in
theorem rg_others_1_5 : (((((tables_1_1.drop 40).drop 40).drop 40).drop 40).drop 40).all (fun c => su_isCode c || c.before start1.args0 rg_s) = true := by decide +kernel
set_option maxRecDepth 16384 in
theorem rg_others_hold_1 : tables_1_1.all (fun c => su_isCode c || c.before start1.args0 rg_s) = true := start1.su_all_split _ 40 tables_1_1 rg_others_1_0 (start1.su_all_split _ 40 (tables_1_1.drop 40) rg_others_1_1 (start1.su_all_split _ 40 ((tables_1_1.drop 40).drop 40) rg_others_1_2 (start1.su_all_split _ 40 (((tables_1_1.drop 40).drop 40).drop 40) rg_others_1_3 (start1.su_all_split _ 40 ((((tables_1_1.drop 40).drop 40).drop 40).drop 40) rg_others_1_4 rg_others_1_5))))
set_option maxRecDepth 16384 in
theorem rg_words_1 : ∀ c ∈ tables_1_1, c.before start1.args0 rg_s = true := fun c h => su_words rg_others_hold_1 rg_codes_hold_1 c h
