set_option maxRecDepth 16384 in
theorem rg_code125 : (Jvm.Cond.code (⟨"HungerBooks$Lot", "ageRank", "()I"⟩ : Jvm.MethodName) prog_7_method_5_code 1 (some .int)).before start1.args0 rg_s = true :=
  su_hand_word (m := ⟨22, 4⟩) (by decide +kernel) rfl (by decide +kernel) (by decide +kernel)
set_option maxRecDepth 16384 in
theorem rg_code126 : (Jvm.Cond.code (⟨"HungerBooks", "takeParts", "(LHungerBooks$House;IIIZ)V"⟩ : Jvm.MethodName) prog_1_method_33_code 13 none).before start1.args0 rg_s = true :=
  su_hand_word (m := ⟨2, 32⟩) (by decide +kernel) rfl (by decide +kernel) (by decide +kernel)
set_option maxRecDepth 16384 in
theorem rg_code127 : (Jvm.Cond.code (⟨"HungerBooks", "deal", "(IIII)I"⟩ : Jvm.MethodName) prog_1_method_24_code 6 (some .int)).before start1.args0 rg_s = true :=
  su_hand_word (m := ⟨2, 23⟩) (by decide +kernel) rfl (by decide +kernel) (by decide +kernel)
set_option maxRecDepth 16384 in
theorem rg_code128 : (Jvm.Cond.code (⟨"HungerBooks", "hasPurse", "(I)Z"⟩ : Jvm.MethodName) prog_1_method_44_code 2 (some .boolean)).before start1.args0 rg_s = true :=
  su_hand_word (m := ⟨2, 43⟩) (by decide +kernel) rfl (by decide +kernel) (by decide +kernel)
set_option maxRecDepth 16384 in
theorem rg_code129 : (Jvm.Cond.code (⟨"HungerBooks", "purseOf", "(I)J"⟩ : Jvm.MethodName) prog_1_method_45_code 4 (some .long)).before start1.args0 rg_s = true :=
  su_hand_word (m := ⟨2, 44⟩) (by decide +kernel) rfl (by decide +kernel) (by decide +kernel)
set_option maxRecDepth 16384 in
theorem rg_code130 : (Jvm.Cond.code (⟨"HungerBooks", "addToPurse", "(IJ)V"⟩ : Jvm.MethodName) prog_1_method_46_code 6 none).before start1.args0 rg_s = true :=
  su_hand_word (m := ⟨2, 45⟩) (by decide +kernel) rfl (by decide +kernel) (by decide +kernel)
set_option maxRecDepth 16384 in
theorem rg_code131 : (Jvm.Cond.code (⟨"HungerBooks", "parcel", "(III)I"⟩ : Jvm.MethodName) prog_1_method_25_code 6 (some .int)).before start1.args0 rg_s = true :=
  su_hand_word (m := ⟨2, 24⟩) (by decide +kernel) rfl (by decide +kernel) (by decide +kernel)
set_option maxRecDepth 16384 in
theorem rg_code132 : (Jvm.Cond.code (⟨"HungerBooks", "parcelled", "(LHungerBooks$House;I)I"⟩ : Jvm.MethodName) prog_1_method_54_code 5 (some .int)).before start1.args0 rg_s = true :=
  su_hand_word (m := ⟨2, 53⟩) (by decide +kernel) rfl (by decide +kernel) (by decide +kernel)
set_option maxRecDepth 16384 in
theorem rg_code133 : (Jvm.Cond.code (⟨"HungerBooks", "settingNow", "(I)I"⟩ : Jvm.MethodName) prog_1_method_20_code 2 (some .int)).before start1.args0 rg_s = true :=
  su_hand_word (m := ⟨2, 19⟩) (by decide +kernel) rfl (by decide +kernel) (by decide +kernel)
set_option maxRecDepth 16384 in
theorem rg_code134 : (Jvm.Cond.code (⟨"HungerBooks", "seize", "(I)I"⟩ : Jvm.MethodName) prog_1_method_26_code 5 (some .int)).before start1.args0 rg_s = true :=
  su_hand_word (m := ⟨2, 25⟩) (by decide +kernel) rfl (by decide +kernel) (by decide +kernel)
set_option maxRecDepth 16384 in
theorem rg_code135 : (Jvm.Cond.code (⟨"HungerBooks", "pass", "(I)I"⟩ : Jvm.MethodName) prog_1_method_35_code 6 (some .int)).before start1.args0 rg_s = true :=
  su_hand_word (m := ⟨2, 34⟩) (by decide +kernel) rfl (by decide +kernel) (by decide +kernel)
set_option maxRecDepth 16384 in
theorem rg_code136 : (Jvm.Cond.code (⟨"HungerBooks", "feedHouse", "(LHungerBooks$House;II)V"⟩ : Jvm.MethodName) prog_1_method_36_code 10 none).before start1.args0 rg_s = true :=
  su_hand_word (m := ⟨2, 35⟩) (by decide +kernel) rfl (by decide +kernel) (by decide +kernel)
set_option maxRecDepth 16384 in
theorem rg_code137 : (Jvm.Cond.code (⟨"HungerBooks", "nextMeal", "(LHungerBooks$House;)LHungerBooks$Lot;"⟩ : Jvm.MethodName) prog_1_method_37_code 7 (some (.object "HungerBooks$Lot"))).before start1.args0 rg_s = true :=
  su_hand_word (m := ⟨2, 36⟩) (by decide +kernel) rfl (by decide +kernel) (by decide +kernel)
set_option maxRecDepth 16384 in
theorem rg_code138 : (Jvm.Cond.code (⟨"HungerBooks$House", "eat", "(IZ)V"⟩ : Jvm.MethodName) prog_5_method_8_code 3 none).before start1.args0 rg_s = true :=
  su_hand_word (m := ⟨10, 7⟩) (by decide +kernel) rfl (by decide +kernel) (by decide +kernel)
set_option maxRecDepth 16384 in
theorem rg_code139 : (Jvm.Cond.code (⟨"HungerBooks$House", "endDay", "(IIII)V"⟩ : Jvm.MethodName) prog_5_method_9_code 8 none).before start1.args0 rg_s = true :=
  su_hand_word (m := ⟨10, 8⟩) (by decide +kernel) rfl (by decide +kernel) (by decide +kernel)
set_option maxRecDepth 16384 in
theorem rg_code140 : (Jvm.Cond.code (⟨"HungerBooks", "spoilLots", "()V"⟩ : Jvm.MethodName) prog_1_method_38_code 3 none).before start1.args0 rg_s = true :=
  su_hand_word (m := ⟨2, 37⟩) (by decide +kernel) rfl (by decide +kernel) (by decide +kernel)
set_option maxRecDepth 16384 in
theorem rg_code141 : (Jvm.Cond.code (⟨"HungerBooks", "lotOf", "(II)I"⟩ : Jvm.MethodName) prog_1_method_39_code 4 (some .int)).before start1.args0 rg_s = true :=
  su_hand_word (m := ⟨2, 38⟩) (by decide +kernel) rfl (by decide +kernel) (by decide +kernel)
set_option maxRecDepth 16384 in
theorem rg_code142 : (Jvm.Cond.code (⟨"HungerBooks$Lot", "tell", "(I)I"⟩ : Jvm.MethodName) prog_7_method_8_code 2 (some .int)).before start1.args0 rg_s = true :=
  su_hand_word (m := ⟨22, 7⟩) (by decide +kernel) rfl (by decide +kernel) (by decide +kernel)
set_option maxRecDepth 16384 in
theorem rg_code143 : (Jvm.Cond.code (⟨"HungerBooks", "led", "(II)I"⟩ : Jvm.MethodName) prog_1_method_40_code 6 (some .int)).before start1.args0 rg_s = true :=
  su_hand_word (m := ⟨2, 39⟩) (by decide +kernel) rfl (by decide +kernel) (by decide +kernel)
set_option maxRecDepth 16384 in
theorem rg_code144 : (Jvm.Cond.code (⟨"HungerBooks$Lot", "ledTo", "(I)I"⟩ : Jvm.MethodName) prog_7_method_6_code 2 (some .int)).before start1.args0 rg_s = true :=
  su_hand_word (m := ⟨22, 5⟩) (by decide +kernel) rfl (by decide +kernel) (by decide +kernel)
set_option maxRecDepth 16384 in
theorem rg_code145 : (Jvm.Cond.code (⟨"HungerBooks$Lot", "holderKind", "()I"⟩ : Jvm.MethodName) prog_7_method_7_code 1 (some .int)).before start1.args0 rg_s = true :=
  su_hand_word (m := ⟨22, 6⟩) (by decide +kernel) rfl (by decide +kernel) (by decide +kernel)
set_option maxRecDepth 16384 in
theorem rg_code146 : (Jvm.Cond.code (⟨"HungerBooks", "coins", "(I)J"⟩ : Jvm.MethodName) prog_1_method_41_code 2 (some .long)).before start1.args0 rg_s = true :=
  su_hand_word (m := ⟨2, 40⟩) (by decide +kernel) rfl (by decide +kernel) (by decide +kernel)
set_option maxRecDepth 16384 in
theorem rg_code147 : (Jvm.Cond.code (⟨"HungerBooks", "houseOf", "(II)J"⟩ : Jvm.MethodName) prog_1_method_42_code 4 (some .long)).before start1.args0 rg_s = true :=
  su_hand_word (m := ⟨2, 41⟩) (by decide +kernel) rfl (by decide +kernel) (by decide +kernel)
set_option maxRecDepth 16384 in
theorem rg_code148 : (Jvm.Cond.code (⟨"HungerBooks$House", "tell", "(I)J"⟩ : Jvm.MethodName) prog_5_method_12_code 2 (some .long)).before start1.args0 rg_s = true :=
  su_hand_word (m := ⟨10, 11⟩) (by decide +kernel) rfl (by decide +kernel) (by decide +kernel)
set_option maxRecDepth 16384 in
theorem rg_code149 : (Jvm.Cond.code (⟨"HungerBooks$House", "piecesNow", "()I"⟩ : Jvm.MethodName) prog_5_method_11_code 3 (some .int)).before start1.args0 rg_s = true :=
  su_hand_word (m := ⟨10, 10⟩) (by decide +kernel) rfl (by decide +kernel) (by decide +kernel)
set_option maxRecDepth 16384 in
theorem rg_code150 : (Jvm.Cond.code (⟨"HungerBooks", "lack", "(II)I"⟩ : Jvm.MethodName) prog_1_method_43_code 4 (some .int)).before start1.args0 rg_s = true :=
  su_hand_word (m := ⟨2, 42⟩) (by decide +kernel) rfl (by decide +kernel) (by decide +kernel)
set_option maxRecDepth 16384 in
theorem rg_code151 : (Jvm.Cond.code (⟨"HungerBooks$House", "lackOn", "(I)I"⟩ : Jvm.MethodName) prog_5_method_10_code 2 (some .int)).before start1.args0 rg_s = true :=
  su_hand_word (m := ⟨10, 9⟩) (by decide +kernel) rfl (by decide +kernel) (by decide +kernel)
set_option maxRecDepth 16384 in
theorem rg_code152 : (Jvm.Cond.code (⟨"HungerBooks", "fake", "(IIII)I"⟩ : Jvm.MethodName) prog_1_method_47_code 7 (some .int)).before start1.args0 rg_s = true :=
  su_hand_word (m := ⟨2, 46⟩) (by decide +kernel) rfl (by decide +kernel) (by decide +kernel)
set_option maxRecDepth 16384 in
theorem rg_code153 : (Jvm.Cond.code (⟨"HungerBooks", "boughtIn", "(III)I"⟩ : Jvm.MethodName) prog_1_method_52_code 8 (some .int)).before start1.args0 rg_s = true :=
  su_hand_word (m := ⟨2, 51⟩) (by decide +kernel) rfl (by decide +kernel) (by decide +kernel)
set_option maxRecDepth 16384 in
theorem rg_code154 : (Jvm.Cond.code (⟨"HungerBooks", "dead", "(III)I"⟩ : Jvm.MethodName) prog_1_method_48_code 6 (some .int)).before start1.args0 rg_s = true :=
  su_hand_word (m := ⟨2, 47⟩) (by decide +kernel) rfl (by decide +kernel) (by decide +kernel)
set_option maxRecDepth 16384 in
theorem rg_code155 : (Jvm.Cond.code (⟨"HungerBooks", "shortOf", "(IIII)I"⟩ : Jvm.MethodName) prog_1_method_49_code 7 (some .int)).before start1.args0 rg_s = true :=
  su_hand_word (m := ⟨2, 48⟩) (by decide +kernel) rfl (by decide +kernel) (by decide +kernel)
set_option maxRecDepth 16384 in
theorem rg_code156 : (Jvm.Cond.code (⟨"HungerBooks", "delivered", "(IIII)I"⟩ : Jvm.MethodName) prog_1_method_55_code 9 (some .int)).before start1.args0 rg_s = true :=
  su_hand_word (m := ⟨2, 54⟩) (by decide +kernel) rfl (by decide +kernel) (by decide +kernel)
set_option maxRecDepth 16384 in
theorem rg_code157 : (Jvm.Cond.code (⟨"HungerBooks", "field", "(IIII)Z"⟩ : Jvm.MethodName) prog_1_method_50_code 7 (some .boolean)).before start1.args0 rg_s = true :=
  su_hand_word (m := ⟨2, 49⟩) (by decide +kernel) rfl (by decide +kernel) (by decide +kernel)
set_option maxRecDepth 16384 in
theorem rg_code158 : (Jvm.Cond.code (⟨"HungerBooks", "elsewhere", "(IIIII)I"⟩ : Jvm.MethodName) prog_1_method_51_code 8 (some .int)).before start1.args0 rg_s = true :=
  su_hand_word (m := ⟨2, 50⟩) (by decide +kernel) rfl (by decide +kernel) (by decide +kernel)
set_option maxRecDepth 16384 in
theorem rg_code159 : (Jvm.Cond.code (⟨"HungerBooks", "exchange", "(IIII)Z"⟩ : Jvm.MethodName) prog_1_method_57_code 6 (some .boolean)).before start1.args0 rg_s = true :=
  su_hand_word (m := ⟨2, 56⟩) (by decide +kernel) rfl (by decide +kernel) (by decide +kernel)
set_option maxRecDepth 16384 in
theorem rg_code160 : (Jvm.Cond.code (⟨"HungerBooks", "isDesk", "(I)Z"⟩ : Jvm.MethodName) prog_1_method_76_code 1 (some .boolean)).before start1.args0 rg_s = true :=
  su_hand_word (m := ⟨2, 75⟩) (by decide +kernel) rfl (by decide +kernel) (by decide +kernel)
set_option maxRecDepth 16384 in
theorem rg_code161 : (Jvm.Cond.code (⟨"HungerBooks$Desks", "tell", "(IIII)V"⟩ : Jvm.MethodName) prog_3_method_2_code 5 none).before start1.args0 rg_s = true :=
  su_hand_word (m := ⟨6, 1⟩) (by decide +kernel) rfl (by decide +kernel) (by decide +kernel)
set_option maxRecDepth 16384 in
theorem rg_code162 : (Jvm.Cond.code (⟨"HungerBooks", "round", "(II)I"⟩ : Jvm.MethodName) prog_1_method_58_code 3 (some .int)).before start1.args0 rg_s = true :=
  su_hand_word (m := ⟨2, 57⟩) (by decide +kernel) rfl (by decide +kernel) (by decide +kernel)
set_option maxRecDepth 16384 in
theorem rg_code163 : (Jvm.Cond.code (⟨"HungerBooks$Desks", "findRound", "(I)Z"⟩ : Jvm.MethodName) prog_3_method_3_code 4 (some .boolean)).before start1.args0 rg_s = true :=
  su_hand_word (m := ⟨6, 2⟩) (by decide +kernel) rfl (by decide +kernel) (by decide +kernel)
set_option maxRecDepth 16384 in
theorem rg_code164 : (Jvm.Cond.code (⟨"HungerBooks$Desks", "weigh", "(III)V"⟩ : Jvm.MethodName) prog_3_method_4_code 9 none).before start1.args0 rg_s = true :=
  su_hand_word (m := ⟨6, 3⟩) (by decide +kernel) rfl (by decide +kernel) (by decide +kernel)
set_option maxRecDepth 16384 in
theorem rg_code165 : (Jvm.Cond.code (⟨"HungerBooks$Desks", "gaveBy", "(II)J"⟩ : Jvm.MethodName) prog_3_method_5_code 3 (some .long)).before start1.args0 rg_s = true :=
  su_hand_word (m := ⟨6, 4⟩) (by decide +kernel) rfl (by decide +kernel) (by decide +kernel)
set_option maxRecDepth 16384 in
theorem rg_code166 : (Jvm.Cond.code (⟨"HungerBooks$Desks", "tookBy", "(II)J"⟩ : Jvm.MethodName) prog_3_method_6_code 3 (some .long)).before start1.args0 rg_s = true :=
  su_hand_word (m := ⟨6, 5⟩) (by decide +kernel) rfl (by decide +kernel) (by decide +kernel)
set_option maxRecDepth 16384 in
theorem rg_code167 : (Jvm.Cond.code (⟨"HungerBooks$Desks", "tellRound", "(I)I"⟩ : Jvm.MethodName) prog_3_method_7_code 2 (some .int)).before start1.args0 rg_s = true :=
  su_hand_word (m := ⟨6, 6⟩) (by decide +kernel) rfl (by decide +kernel) (by decide +kernel)
set_option maxRecDepth 16384 in
theorem rg_code168 : (Jvm.Cond.code (⟨"HungerBooks", "road", "(III)Z"⟩ : Jvm.MethodName) prog_1_method_59_code 5 (some .boolean)).before start1.args0 rg_s = true :=
  su_hand_word (m := ⟨2, 58⟩) (by decide +kernel) rfl (by decide +kernel) (by decide +kernel)
set_option maxRecDepth 16384 in
theorem rg_code169 : (Jvm.Cond.code (⟨"HungerBooks$Roads", "lay", "(III)V"⟩ : Jvm.MethodName) prog_11_method_2_code 4 none).before start1.args0 rg_s = true :=
  su_hand_word (m := ⟨7, 1⟩) (by decide +kernel) rfl (by decide +kernel) (by decide +kernel)
