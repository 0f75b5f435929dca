set_option maxRecDepth 16384 in
theorem rg_code87 : (Jvm.Cond.code (⟨"HungerBooks$Decrees", "keep", "(LHungerBooks$Orders;)I"⟩ : Jvm.MethodName) prog_2_method_2_code 2 (some .int)).before start1.args0 rg_s = true :=
  su_hand_word (m := ⟨5, 1⟩) (by decide +kernel) rfl (by decide +kernel) (by decide +kernel)
set_option maxRecDepth 16384 in
theorem rg_code88 : (Jvm.Cond.code (⟨"HungerBooks", "fault", "()I"⟩ : Jvm.MethodName) prog_1_method_11_code 1 (some .int)).before start1.args0 rg_s = true :=
  su_hand_word (m := ⟨2, 10⟩) (by decide +kernel) rfl (by decide +kernel) (by decide +kernel)
set_option maxRecDepth 16384 in
theorem rg_code89 : (Jvm.Cond.code (⟨"HungerBooks", "rule", "(III)I"⟩ : Jvm.MethodName) prog_1_method_12_code 4 (some .int)).before start1.args0 rg_s = true :=
  su_hand_word (m := ⟨2, 11⟩) (by decide +kernel) rfl (by decide +kernel) (by decide +kernel)
set_option maxRecDepth 16384 in
theorem rg_code90 : (Jvm.Cond.code (⟨"HungerBooks$Decrees", "setting", "(III)I"⟩ : Jvm.MethodName) prog_2_method_5_code 7 (some .int)).before start1.args0 rg_s = true :=
  su_hand_word (m := ⟨5, 4⟩) (by decide +kernel) rfl (by decide +kernel) (by decide +kernel)
set_option maxRecDepth 16384 in
theorem rg_code91 : (Jvm.Cond.code (⟨"HungerBooks$Decrees", "inForce", "(II)I"⟩ : Jvm.MethodName) prog_2_method_3_code 7 (some .int)).before start1.args0 rg_s = true :=
  su_hand_word (m := ⟨5, 2⟩) (by decide +kernel) rfl (by decide +kernel) (by decide +kernel)
set_option maxRecDepth 16384 in
theorem rg_code92 : (Jvm.Cond.code (⟨"HungerBooks$Decrees", "ordersAt", "(I)LHungerBooks$Orders;"⟩ : Jvm.MethodName) prog_2_method_4_code 2 (some (.object "HungerBooks$Orders"))).before start1.args0 rg_s = true :=
  su_hand_word (m := ⟨5, 3⟩) (by decide +kernel) rfl (by decide +kernel) (by decide +kernel)
set_option maxRecDepth 16384 in
theorem rg_code93 : (Jvm.Cond.code (⟨"HungerBooks", "priceOf", "(III)I"⟩ : Jvm.MethodName) prog_1_method_18_code 4 (some .int)).before start1.args0 rg_s = true :=
  su_hand_word (m := ⟨2, 17⟩) (by decide +kernel) rfl (by decide +kernel) (by decide +kernel)
set_option maxRecDepth 16384 in
theorem rg_code94 : (Jvm.Cond.code (⟨"HungerBooks$Decrees", "nameAll", "(IIIII)V"⟩ : Jvm.MethodName) prog_2_method_6_code 6 none).before start1.args0 rg_s = true :=
  su_hand_word (m := ⟨5, 5⟩) (by decide +kernel) rfl (by decide +kernel) (by decide +kernel)
set_option maxRecDepth 16384 in
theorem rg_code95 : (Jvm.Cond.code (⟨"HungerBooks$Decrees", "graded", "(IIIII)I"⟩ : Jvm.MethodName) prog_2_method_7_code 11 (some .int)).before start1.args0 rg_s = true :=
  su_hand_word (m := ⟨5, 6⟩) (by decide +kernel) rfl (by decide +kernel) (by decide +kernel)
set_option maxRecDepth 16384 in
theorem rg_code96 : (Jvm.Cond.code (⟨"HungerBooks$Decrees", "reckon", "([III)I"⟩ : Jvm.MethodName) prog_2_method_8_code 9 (some .int)).before start1.args0 rg_s = true :=
  su_hand_word (m := ⟨5, 7⟩) (by decide +kernel) rfl (by decide +kernel) (by decide +kernel)
set_option maxRecDepth 16384 in
theorem rg_code97 : (Jvm.Cond.code (⟨"HungerBooks$Decrees", "joined", "(IJJ)J"⟩ : Jvm.MethodName) prog_2_method_9_code 5 (some .long)).before start1.args0 rg_s = true :=
  su_hand_word (m := ⟨5, 8⟩) (by decide +kernel) rfl (by decide +kernel) (by decide +kernel)
set_option maxRecDepth 16384 in
theorem rg_code98 : (Jvm.Cond.code (⟨"java/lang/Math", "min", "(JJ)J"⟩ : Jvm.MethodName) prog_17_method_70_code 4 (some .long)).before start1.args0 rg_s = true :=
  su_hand_word (m := ⟨12, 3⟩) (by decide +kernel) rfl (by decide +kernel) (by decide +kernel)
set_option maxRecDepth 16384 in
theorem rg_code99 : (Jvm.Cond.code (⟨"java/lang/Math", "max", "(JJ)J"⟩ : Jvm.MethodName) prog_17_method_66_code 4 (some .long)).before start1.args0 rg_s = true :=
  su_hand_word (m := ⟨12, 1⟩) (by decide +kernel) rfl (by decide +kernel) (by decide +kernel)
set_option maxRecDepth 16384 in
theorem rg_code100 : (Jvm.Cond.code (⟨"HungerBooks", "card", "(IIII)I"⟩ : Jvm.MethodName) prog_1_method_13_code 6 (some .int)).before start1.args0 rg_s = true :=
  su_hand_word (m := ⟨2, 12⟩) (by decide +kernel) rfl (by decide +kernel) (by decide +kernel)
set_option maxRecDepth 16384 in
theorem rg_code101 : (Jvm.Cond.code (⟨"HungerBooks", "cardKnown", "(LHungerBooks$House;III)I"⟩ : Jvm.MethodName) prog_1_method_15_code 5 (some .int)).before start1.args0 rg_s = true :=
  su_hand_word (m := ⟨2, 14⟩) (by decide +kernel) rfl (by decide +kernel) (by decide +kernel)
set_option maxRecDepth 16384 in
theorem rg_code102 : (Jvm.Cond.code (⟨"HungerBooks", "cardFor", "(LHungerBooks$House;IIII)I"⟩ : Jvm.MethodName) prog_1_method_16_code 6 (some .int)).before start1.args0 rg_s = true :=
  su_hand_word (m := ⟨2, 15⟩) (by decide +kernel) rfl (by decide +kernel) (by decide +kernel)
set_option maxRecDepth 16384 in
theorem rg_code103 : (Jvm.Cond.code (⟨"HungerBooks", "quota", "(IIII)I"⟩ : Jvm.MethodName) prog_1_method_14_code 6 (some .int)).before start1.args0 rg_s = true :=
  su_hand_word (m := ⟨2, 13⟩) (by decide +kernel) rfl (by decide +kernel) (by decide +kernel)
set_option maxRecDepth 16384 in
theorem rg_code104 : (Jvm.Cond.code (⟨"HungerBooks", "quotaOf", "(LHungerBooks$Farm;IIII)I"⟩ : Jvm.MethodName) prog_1_method_17_code 6 (some .int)).before start1.args0 rg_s = true :=
  su_hand_word (m := ⟨2, 16⟩) (by decide +kernel) rfl (by decide +kernel) (by decide +kernel)
set_option maxRecDepth 16384 in
theorem rg_code105 : (Jvm.Cond.code (⟨"HungerBooks", "cropped", "(III)I"⟩ : Jvm.MethodName) prog_1_method_56_code 8 (some .int)).before start1.args0 rg_s = true :=
  su_hand_word (m := ⟨2, 55⟩) (by decide +kernel) rfl (by decide +kernel) (by decide +kernel)
set_option maxRecDepth 16384 in
theorem rg_code106 : (Jvm.Cond.code (⟨"HungerBooks$Lot", "isOf", "(II)Z"⟩ : Jvm.MethodName) prog_7_method_3_code 3 (some .boolean)).before start1.args0 rg_s = true :=
  su_hand_word (m := ⟨22, 2⟩) (by decide +kernel) rfl (by decide +kernel) (by decide +kernel)
set_option maxRecDepth 16384 in
theorem rg_code107 : (Jvm.Cond.code (⟨"HungerBooks$Lot", "week", "()I"⟩ : Jvm.MethodName) prog_7_method_4_code 1 (some .int)).before start1.args0 rg_s = true :=
  su_hand_word (m := ⟨22, 3⟩) (by decide +kernel) rfl (by decide +kernel) (by decide +kernel)
set_option maxRecDepth 16384 in
theorem rg_code108 : (Jvm.Cond.code (⟨"HungerBooks", "crop", "(III)I"⟩ : Jvm.MethodName) prog_1_method_21_code 5 (some .int)).before start1.args0 rg_s = true :=
  su_hand_word (m := ⟨2, 20⟩) (by decide +kernel) rfl (by decide +kernel) (by decide +kernel)
set_option maxRecDepth 16384 in
theorem rg_code109 : (Jvm.Cond.code (⟨"HungerBooks$Lot", "<init>", "(ILHungerBooks$Lot;III)V"⟩ : Jvm.MethodName) prog_7_method_1_code 6 none).before start1.args0 rg_s = true :=
  su_hand_word (m := ⟨22, 0⟩) (by decide +kernel) rfl (by decide +kernel) (by decide +kernel)
set_option maxRecDepth 16384 in
theorem rg_code110 : (Jvm.Cond.code (⟨"HungerBooks$Lot", "bring", "(III)V"⟩ : Jvm.MethodName) prog_7_method_2_code 4 none).before start1.args0 rg_s = true :=
  su_hand_word (m := ⟨22, 1⟩) (by decide +kernel) rfl (by decide +kernel) (by decide +kernel)
set_option maxRecDepth 16384 in
theorem rg_code111 : (Jvm.Cond.code (⟨"HungerBooks", "keepLot", "(LHungerBooks$Lot;)I"⟩ : Jvm.MethodName) prog_1_method_29_code 3 (some .int)).before start1.args0 rg_s = true :=
  su_hand_word (m := ⟨2, 28⟩) (by decide +kernel) rfl (by decide +kernel) (by decide +kernel)
set_option maxRecDepth 16384 in
theorem rg_code112 : (Jvm.Cond.code (⟨"HungerBooks$House", "chain", "(LHungerBooks$Lot;)V"⟩ : Jvm.MethodName) prog_5_method_7_code 2 none).before start1.args0 rg_s = true :=
  su_hand_word (m := ⟨10, 6⟩) (by decide +kernel) rfl (by decide +kernel) (by decide +kernel)
set_option maxRecDepth 16384 in
theorem rg_code113 : (Jvm.Cond.code (⟨"HungerBooks", "deliver", "(II)I"⟩ : Jvm.MethodName) prog_1_method_22_code 6 (some .int)).before start1.args0 rg_s = true :=
  su_hand_word (m := ⟨2, 21⟩) (by decide +kernel) rfl (by decide +kernel) (by decide +kernel)
set_option maxRecDepth 16384 in
theorem rg_code114 : (Jvm.Cond.code (⟨"HungerBooks", "lotAt", "(I)LHungerBooks$Lot;"⟩ : Jvm.MethodName) prog_1_method_80_code 2 (some (.object "HungerBooks$Lot"))).before start1.args0 rg_s = true :=
  su_hand_word (m := ⟨2, 79⟩) (by decide +kernel) rfl (by decide +kernel) (by decide +kernel)
set_option maxRecDepth 16384 in
theorem rg_code115 : (Jvm.Cond.code (⟨"HungerBooks", "canHandOn", "(LHungerBooks$Lot;I)Z"⟩ : Jvm.MethodName) prog_1_method_27_code 3 (some .boolean)).before start1.args0 rg_s = true :=
  su_hand_word (m := ⟨2, 26⟩) (by decide +kernel) rfl (by decide +kernel) (by decide +kernel)
set_option maxRecDepth 16384 in
theorem rg_code116 : (Jvm.Cond.code (⟨"HungerBooks", "priceNow", "(I)I"⟩ : Jvm.MethodName) prog_1_method_19_code 2 (some .int)).before start1.args0 rg_s = true :=
  su_hand_word (m := ⟨2, 18⟩) (by decide +kernel) rfl (by decide +kernel) (by decide +kernel)
set_option maxRecDepth 16384 in
theorem rg_code117 : (Jvm.Cond.code (⟨"HungerBooks", "thisWeek", "()I"⟩ : Jvm.MethodName) prog_1_method_77_code 1 (some .int)).before start1.args0 rg_s = true :=
  su_hand_word (m := ⟨2, 76⟩) (by decide +kernel) rfl (by decide +kernel) (by decide +kernel)
set_option maxRecDepth 16384 in
theorem rg_code118 : (Jvm.Cond.code (⟨"HungerBooks", "handOn", "(LHungerBooks$Lot;IIII)I"⟩ : Jvm.MethodName) prog_1_method_28_code 7 (some .int)).before start1.args0 rg_s = true :=
  su_hand_word (m := ⟨2, 27⟩) (by decide +kernel) rfl (by decide +kernel) (by decide +kernel)
set_option maxRecDepth 16384 in
theorem rg_code119 : (Jvm.Cond.code (⟨"HungerBooks", "buy", "(IIIZ)J"⟩ : Jvm.MethodName) prog_1_method_23_code 10 (some .long)).before start1.args0 rg_s = true :=
  su_hand_word (m := ⟨2, 22⟩) (by decide +kernel) rfl (by decide +kernel) (by decide +kernel)
set_option maxRecDepth 16384 in
theorem rg_code120 : (Jvm.Cond.code (⟨"HungerBooks", "piecesHeld", "(II)I"⟩ : Jvm.MethodName) prog_1_method_30_code 5 (some .int)).before start1.args0 rg_s = true :=
  su_hand_word (m := ⟨2, 29⟩) (by decide +kernel) rfl (by decide +kernel) (by decide +kernel)
set_option maxRecDepth 16384 in
theorem rg_code121 : (Jvm.Cond.code (⟨"HungerBooks", "ticketsLeft", "(LHungerBooks$House;I)I"⟩ : Jvm.MethodName) prog_1_method_31_code 4 (some .int)).before start1.args0 rg_s = true :=
  su_hand_word (m := ⟨2, 30⟩) (by decide +kernel) rfl (by decide +kernel) (by decide +kernel)
set_option maxRecDepth 16384 in
theorem rg_code122 : (Jvm.Cond.code (⟨"HungerBooks", "boughtOnTickets", "(LHungerBooks$House;II)I"⟩ : Jvm.MethodName) prog_1_method_53_code 7 (some .int)).before start1.args0 rg_s = true :=
  su_hand_word (m := ⟨2, 52⟩) (by decide +kernel) rfl (by decide +kernel) (by decide +kernel)
set_option maxRecDepth 16384 in
theorem rg_code123 : (Jvm.Cond.code (⟨"HungerBooks", "partsOf", "(III)I"⟩ : Jvm.MethodName) prog_1_method_32_code 8 (some .int)).before start1.args0 rg_s = true :=
  su_hand_word (m := ⟨2, 31⟩) (by decide +kernel) rfl (by decide +kernel) (by decide +kernel)
set_option maxRecDepth 16384 in
theorem rg_code124 : (Jvm.Cond.code (⟨"HungerBooks", "oldestBehind", "(LHungerBooks$Lot;II)LHungerBooks$Lot;"⟩ : Jvm.MethodName) prog_1_method_34_code 9 (some (.object "HungerBooks$Lot"))).before start1.args0 rg_s = true :=
  su_hand_word (m := ⟨2, 33⟩) (by decide +kernel) rfl (by decide +kernel) (by decide +kernel)
set_option maxRecDepth 16384 in
theorem rg_codes_hold_4 : ∀ c ∈ tables_1_4.filter su_isCode, c.before start1.args0 rg_s = true := by
  rw [start1.codes_are_4]
  exact List.forall_mem_cons.mpr ⟨rg_code87, List.forall_mem_cons.mpr ⟨rg_code88, List.forall_mem_cons.mpr ⟨rg_code89, List.forall_mem_cons.mpr ⟨rg_code90, List.forall_mem_cons.mpr ⟨rg_code91, List.forall_mem_cons.mpr ⟨rg_code92, List.forall_mem_cons.mpr ⟨rg_code93, List.forall_mem_cons.mpr ⟨rg_code94, List.forall_mem_cons.mpr ⟨rg_code95, List.forall_mem_cons.mpr ⟨rg_code96, List.forall_mem_cons.mpr ⟨rg_code97, List.forall_mem_cons.mpr ⟨rg_code98, List.forall_mem_cons.mpr ⟨rg_code99, List.forall_mem_cons.mpr ⟨rg_code100, List.forall_mem_cons.mpr ⟨rg_code101, List.forall_mem_cons.mpr ⟨rg_code102, List.forall_mem_cons.mpr ⟨rg_code103, List.forall_mem_cons.mpr ⟨rg_code104, List.forall_mem_cons.mpr ⟨rg_code105, List.forall_mem_cons.mpr ⟨rg_code106, List.forall_mem_cons.mpr ⟨rg_code107, List.forall_mem_cons.mpr ⟨rg_code108, List.forall_mem_cons.mpr ⟨rg_code109, List.forall_mem_cons.mpr ⟨rg_code110, List.forall_mem_cons.mpr ⟨rg_code111, List.forall_mem_cons.mpr ⟨rg_code112, List.forall_mem_cons.mpr ⟨rg_code113, List.forall_mem_cons.mpr ⟨rg_code114, List.forall_mem_cons.mpr ⟨rg_code115, List.forall_mem_cons.mpr ⟨rg_code116, List.forall_mem_cons.mpr ⟨rg_code117, List.forall_mem_cons.mpr ⟨rg_code118, List.forall_mem_cons.mpr ⟨rg_code119, List.forall_mem_cons.mpr ⟨rg_code120, List.forall_mem_cons.mpr ⟨rg_code121, List.forall_mem_cons.mpr ⟨rg_code122, List.forall_mem_cons.mpr ⟨rg_code123, List.forall_mem_cons.mpr ⟨rg_code124, List.forall_mem_nil _⟩⟩⟩⟩⟩⟩⟩⟩⟩⟩⟩⟩⟩⟩⟩⟩⟩⟩⟩⟩⟩⟩⟩⟩⟩⟩⟩⟩⟩⟩⟩⟩⟩⟩⟩⟩⟩⟩
set_option maxRecDepth 16384 in
theorem rg_others_4_0 : (tables_1_4.take 40).all (fun c => su_isCode c || c.before start1.args0 rg_s) = true := by decide +kernel
set_option maxRecDepth 16384 in
theorem rg_others_4_1 : ((tables_1_4.drop 40).take 40).all (fun c => su_isCode c || c.before start1.args0 rg_s) = true := by decide +kernel
set_option maxRecDepth 16384 in
theorem rg_others_4_2 : (((tables_1_4.drop 40).drop 40).take 40).all (fun c => su_isCode c || c.before start1.args0 rg_s) = true := by decide +kernel
set_option maxRecDepth 16384 in
theorem rg_others_4_3 : ((((tables_1_4.drop 40).drop 40).drop 40).take 40).all (fun c => su_isCode c || c.before start1.args0 rg_s) = true := by decide +kernel
set_option maxRecDepth 16384 in
theorem rg_others_4_4 : (((((tables_1_4.drop 40).drop 40).drop 40).drop 40).take 40).all (fun c => su_isCode c || c.before start1.args0 rg_s) = true := by decide +kernel
set_option maxRecDepth 16384 in
theorem rg_others_4_5 : ((((((tables_1_4.drop 40).drop 40).drop 40).drop 40).drop 40).take 36).all (fun c => su_isCode c || c.before start1.args0 rg_s) = true := by decide +kernel
