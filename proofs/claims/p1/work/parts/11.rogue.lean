set_option maxRecDepth 16384 in
theorem rg_code223 : (Jvm.Cond.code (⟨"HungerBooksModel", "node", "(III)I"⟩ : Jvm.MethodName) prog_14_method_29_code 4 (some .int)).before start1.args0 rg_s = true :=
  su_hand_word (m := ⟨9, 27⟩) (by decide +kernel) rfl (by decide +kernel) (by decide +kernel)
set_option maxRecDepth 16384 in
theorem rg_code224 : (Jvm.Cond.code (⟨"HungerBooksModel", "isSign", "(I)Z"⟩ : Jvm.MethodName) prog_14_method_24_code 2 (some .boolean)).before start1.args0 rg_s = true :=
  su_hand_word (m := ⟨9, 22⟩) (by decide +kernel) rfl (by decide +kernel) (by decide +kernel)
set_option maxRecDepth 16384 in
theorem rg_code225 : (Jvm.Cond.code (⟨"HungerBooksModel", "ends", "(I)V"⟩ : Jvm.MethodName) prog_14_method_31_code 2 none).before start1.args0 rg_s = true :=
  su_hand_word (m := ⟨9, 29⟩) (by decide +kernel) rfl (by decide +kernel) (by decide +kernel)
set_option maxRecDepth 16384 in
theorem rg_code226 : (Jvm.Cond.code (⟨"HungerBooksModel", "atom", "(I)V"⟩ : Jvm.MethodName) prog_14_method_35_code 3 none).before start1.args0 rg_s = true :=
  su_hand_word (m := ⟨9, 33⟩) (by decide +kernel) rfl (by decide +kernel) (by decide +kernel)
set_option maxRecDepth 16384 in
theorem rg_code227 : (Jvm.Cond.code (⟨"HungerBooksModel", "opens", "()V"⟩ : Jvm.MethodName) prog_14_method_32_code 1 none).before start1.args0 rg_s = true :=
  su_hand_word (m := ⟨9, 30⟩) (by decide +kernel) rfl (by decide +kernel) (by decide +kernel)
set_option maxRecDepth 16384 in
theorem rg_code228 : (Jvm.Cond.code (⟨"HungerBooksModel", "nameOf", "(J)I"⟩ : Jvm.MethodName) prog_14_method_28_code 3 (some .int)).before start1.args0 rg_s = true :=
  su_hand_word (m := ⟨9, 26⟩) (by decide +kernel) rfl (by decide +kernel) (by decide +kernel)
set_option maxRecDepth 16384 in
theorem rg_code229 : (Jvm.Cond.code (⟨"HungerBooksModel", "must", "(I)V"⟩ : Jvm.MethodName) prog_14_method_25_code 2 none).before start1.args0 rg_s = true :=
  su_hand_word (m := ⟨9, 23⟩) (by decide +kernel) rfl (by decide +kernel) (by decide +kernel)
set_option maxRecDepth 16384 in
theorem rg_code230 : (Jvm.Cond.code (⟨"HungerBooksModel", "chain", "(IZ)V"⟩ : Jvm.MethodName) prog_14_method_36_code 3 none).before start1.args0 rg_s = true :=
  su_hand_word (m := ⟨9, 34⟩) (by decide +kernel) rfl (by decide +kernel) (by decide +kernel)
set_option maxRecDepth 16384 in
theorem rg_code231 : (Jvm.Cond.code (⟨"HungerBooksModel", "isWord", "(J)Z"⟩ : Jvm.MethodName) prog_14_method_23_code 3 (some .boolean)).before start1.args0 rg_s = true :=
  su_hand_word (m := ⟨9, 21⟩) (by decide +kernel) rfl (by decide +kernel) (by decide +kernel)
set_option maxRecDepth 16384 in
theorem rg_code232 : (Jvm.Cond.code (⟨"HungerBooksModel", "test", "(I)V"⟩ : Jvm.MethodName) prog_14_method_37_code 2 none).before start1.args0 rg_s = true :=
  su_hand_word (m := ⟨9, 35⟩) (by decide +kernel) rfl (by decide +kernel) (by decide +kernel)
set_option maxRecDepth 16384 in
theorem rg_code233 : (Jvm.Cond.code (⟨"HungerBooksModel", "fault", "()I"⟩ : Jvm.MethodName) prog_14_method_40_code 1 (some .int)).before start1.args0 rg_s = true :=
  su_hand_word (m := ⟨9, 38⟩) (by decide +kernel) rfl (by decide +kernel) (by decide +kernel)
set_option maxRecDepth 16384 in
theorem rg_code234 : (Jvm.Cond.code (⟨"HungerBooksModel", "rule", "(III)I"⟩ : Jvm.MethodName) prog_14_method_48_code 4 (some .int)).before start1.args0 rg_s = true :=
  su_hand_word (m := ⟨9, 46⟩) (by decide +kernel) rfl (by decide +kernel) (by decide +kernel)
set_option maxRecDepth 16384 in
theorem rg_code235 : (Jvm.Cond.code (⟨"HungerBooksModel", "priceOf", "(III)I"⟩ : Jvm.MethodName) prog_14_method_47_code 4 (some .int)).before start1.args0 rg_s = true :=
  su_hand_word (m := ⟨9, 45⟩) (by decide +kernel) rfl (by decide +kernel) (by decide +kernel)
set_option maxRecDepth 16384 in
theorem rg_code236 : (Jvm.Cond.code (⟨"HungerBooksModel", "asked", "(IIIII)V"⟩ : Jvm.MethodName) prog_14_method_43_code 6 none).before start1.args0 rg_s = true :=
  su_hand_word (m := ⟨9, 41⟩) (by decide +kernel) rfl (by decide +kernel) (by decide +kernel)
set_option maxRecDepth 16384 in
theorem rg_code237 : (Jvm.Cond.code (⟨"HungerBooksModel", "first", "(IIIIII)I"⟩ : Jvm.MethodName) prog_14_method_46_code 11 (some .int)).before start1.args0 rg_s = true :=
  su_hand_word (m := ⟨9, 44⟩) (by decide +kernel) rfl (by decide +kernel) (by decide +kernel)
set_option maxRecDepth 16384 in
theorem rg_code238 : (Jvm.Cond.code (⟨"HungerBooksModel", "inForce", "(II)I"⟩ : Jvm.MethodName) prog_14_method_41_code 5 (some .int)).before start1.args0 rg_s = true :=
  su_hand_word (m := ⟨9, 39⟩) (by decide +kernel) rfl (by decide +kernel) (by decide +kernel)
set_option maxRecDepth 16384 in
theorem rg_code239 : (Jvm.Cond.code (⟨"HungerBooksModel", "works", "(I)V"⟩ : Jvm.MethodName) prog_14_method_45_code 10 none).before start1.args0 rg_s = true :=
  su_hand_word (m := ⟨9, 43⟩) (by decide +kernel) rfl (by decide +kernel) (by decide +kernel)
set_option maxRecDepth 16384 in
theorem rg_code240 : (Jvm.Cond.code (⟨"HungerBooksModel", "held", "(J)J"⟩ : Jvm.MethodName) prog_14_method_44_code 2 (some .long)).before start1.args0 rg_s = true :=
  su_hand_word (m := ⟨9, 42⟩) (by decide +kernel) rfl (by decide +kernel) (by decide +kernel)
set_option maxRecDepth 16384 in
theorem rg_code241 : (Jvm.Cond.code (⟨"HungerBooksModel", "number", "(III)I"⟩ : Jvm.MethodName) prog_14_method_42_code 7 (some .int)).before start1.args0 rg_s = true :=
  su_hand_word (m := ⟨9, 40⟩) (by decide +kernel) rfl (by decide +kernel) (by decide +kernel)
set_option maxRecDepth 16384 in
theorem rg_code242 : (Jvm.Cond.code (⟨"HungerBooksModel", "card", "(IIII)I"⟩ : Jvm.MethodName) prog_14_method_50_code 5 (some .int)).before start1.args0 rg_s = true :=
  su_hand_word (m := ⟨9, 48⟩) (by decide +kernel) rfl (by decide +kernel) (by decide +kernel)
set_option maxRecDepth 16384 in
theorem rg_code243 : (Jvm.Cond.code (⟨"HungerBooksModel", "cardOf", "(IIIII)I"⟩ : Jvm.MethodName) prog_14_method_49_code 6 (some .int)).before start1.args0 rg_s = true :=
  su_hand_word (m := ⟨9, 47⟩) (by decide +kernel) rfl (by decide +kernel) (by decide +kernel)
set_option maxRecDepth 16384 in
theorem rg_code244 : (Jvm.Cond.code (⟨"HungerBooksModel", "quota", "(IIII)I"⟩ : Jvm.MethodName) prog_14_method_52_code 5 (some .int)).before start1.args0 rg_s = true :=
  su_hand_word (m := ⟨9, 50⟩) (by decide +kernel) rfl (by decide +kernel) (by decide +kernel)
set_option maxRecDepth 16384 in
theorem rg_code245 : (Jvm.Cond.code (⟨"HungerBooksModel", "quotaOf", "(IIII)I"⟩ : Jvm.MethodName) prog_14_method_51_code 5 (some .int)).before start1.args0 rg_s = true :=
  su_hand_word (m := ⟨9, 49⟩) (by decide +kernel) rfl (by decide +kernel) (by decide +kernel)
set_option maxRecDepth 16384 in
theorem rg_code246 : (Jvm.Cond.code (⟨"HungerBooksModel", "crop", "(III)I"⟩ : Jvm.MethodName) prog_14_method_58_code 4 (some .int)).before start1.args0 rg_s = true :=
  su_hand_word (m := ⟨9, 56⟩) (by decide +kernel) rfl (by decide +kernel) (by decide +kernel)
set_option maxRecDepth 16384 in
theorem rg_code247 : (Jvm.Cond.code (⟨"HungerBooksModel", "add", "(IIIIIII)I"⟩ : Jvm.MethodName) prog_14_method_56_code 8 (some .int)).before start1.args0 rg_s = true :=
  su_hand_word (m := ⟨9, 54⟩) (by decide +kernel) rfl (by decide +kernel) (by decide +kernel)
set_option maxRecDepth 16384 in
theorem rg_code248 : (Jvm.Cond.code (⟨"HungerBooksModel", "deliver", "(II)I"⟩ : Jvm.MethodName) prog_14_method_59_code 6 (some .int)).before start1.args0 rg_s = true :=
  su_hand_word (m := ⟨9, 57⟩) (by decide +kernel) rfl (by decide +kernel) (by decide +kernel)
set_option maxRecDepth 16384 in
theorem rg_code249 : (Jvm.Cond.code (⟨"HungerBooksModel", "isLot", "(I)Z"⟩ : Jvm.MethodName) prog_14_method_53_code 2 (some .boolean)).before start1.args0 rg_s = true :=
  su_hand_word (m := ⟨9, 51⟩) (by decide +kernel) rfl (by decide +kernel) (by decide +kernel)
set_option maxRecDepth 16384 in
theorem rg_code250 : (Jvm.Cond.code (⟨"HungerBooksModel", "isOfFarm", "(I)Z"⟩ : Jvm.MethodName) prog_14_method_55_code 1 (some .boolean)).before start1.args0 rg_s = true :=
  su_hand_word (m := ⟨9, 53⟩) (by decide +kernel) rfl (by decide +kernel) (by decide +kernel)
set_option maxRecDepth 16384 in
theorem rg_code251 : (Jvm.Cond.code (⟨"HungerBooksModel", "hands", "(IIIII)I"⟩ : Jvm.MethodName) prog_14_method_57_code 6 (some .int)).before start1.args0 rg_s = true :=
  su_hand_word (m := ⟨9, 55⟩) (by decide +kernel) rfl (by decide +kernel) (by decide +kernel)
set_option maxRecDepth 16384 in
theorem rg_code252 : (Jvm.Cond.code (⟨"HungerBooksModel", "buy", "(IIIZ)J"⟩ : Jvm.MethodName) prog_14_method_61_code 17 (some .long)).before start1.args0 rg_s = true :=
  su_hand_word (m := ⟨9, 58⟩) (by decide +kernel) rfl (by decide +kernel) (by decide +kernel)
set_option maxRecDepth 16384 in
theorem rg_code253 : (Jvm.Cond.code (⟨"HungerBooksModel", "deal", "(IIII)I"⟩ : Jvm.MethodName) prog_14_method_65_code 5 (some .int)).before start1.args0 rg_s = true :=
  su_hand_word (m := ⟨9, 62⟩) (by decide +kernel) rfl (by decide +kernel) (by decide +kernel)
set_option maxRecDepth 16384 in
theorem rg_code254 : (Jvm.Cond.code (⟨"HungerBooksModel", "isParty", "(I)Z"⟩ : Jvm.MethodName) prog_14_method_62_code 2 (some .boolean)).before start1.args0 rg_s = true :=
  su_hand_word (m := ⟨9, 59⟩) (by decide +kernel) rfl (by decide +kernel) (by decide +kernel)
set_option maxRecDepth 16384 in
theorem rg_code255 : (Jvm.Cond.code (⟨"HungerBooksModel", "isOfHouse", "(I)Z"⟩ : Jvm.MethodName) prog_14_method_54_code 1 (some .boolean)).before start1.args0 rg_s = true :=
  su_hand_word (m := ⟨9, 52⟩) (by decide +kernel) rfl (by decide +kernel) (by decide +kernel)
set_option maxRecDepth 16384 in
theorem rg_code256 : (Jvm.Cond.code (⟨"HungerBooksModel", "coinsOf", "(I)J"⟩ : Jvm.MethodName) prog_14_method_63_code 2 (some .long)).before start1.args0 rg_s = true :=
  su_hand_word (m := ⟨9, 60⟩) (by decide +kernel) rfl (by decide +kernel) (by decide +kernel)
set_option maxRecDepth 16384 in
theorem rg_code257 : (Jvm.Cond.code (⟨"HungerBooksModel", "pays", "(IJ)V"⟩ : Jvm.MethodName) prog_14_method_64_code 4 none).before start1.args0 rg_s = true :=
  su_hand_word (m := ⟨9, 61⟩) (by decide +kernel) rfl (by decide +kernel) (by decide +kernel)
set_option maxRecDepth 16384 in
theorem rg_code258 : (Jvm.Cond.code (⟨"HungerBooksModel", "parcel", "(III)I"⟩ : Jvm.MethodName) prog_14_method_66_code 5 (some .int)).before start1.args0 rg_s = true :=
  su_hand_word (m := ⟨9, 63⟩) (by decide +kernel) rfl (by decide +kernel) (by decide +kernel)
set_option maxRecDepth 16384 in
theorem rg_code259 : (Jvm.Cond.code (⟨"HungerBooksModel", "seize", "(I)I"⟩ : Jvm.MethodName) prog_14_method_67_code 5 (some .int)).before start1.args0 rg_s = true :=
  su_hand_word (m := ⟨9, 64⟩) (by decide +kernel) rfl (by decide +kernel) (by decide +kernel)
set_option maxRecDepth 16384 in
theorem rg_code260 : (Jvm.Cond.code (⟨"HungerBooksModel", "pass", "(I)I"⟩ : Jvm.MethodName) prog_14_method_70_code 4 (some .int)).before start1.args0 rg_s = true :=
  su_hand_word (m := ⟨9, 67⟩) (by decide +kernel) rfl (by decide +kernel) (by decide +kernel)
set_option maxRecDepth 16384 in
theorem rg_code261 : (Jvm.Cond.code (⟨"HungerBooksModel", "eats", "(I)V"⟩ : Jvm.MethodName) prog_14_method_69_code 8 none).before start1.args0 rg_s = true :=
  su_hand_word (m := ⟨9, 66⟩) (by decide +kernel) rfl (by decide +kernel) (by decide +kernel)
set_option maxRecDepth 16384 in
theorem rg_code262 : (Jvm.Cond.code (⟨"HungerBooksModel", "nextOf", "(I)I"⟩ : Jvm.MethodName) prog_14_method_68_code 4 (some .int)).before start1.args0 rg_s = true :=
  su_hand_word (m := ⟨9, 65⟩) (by decide +kernel) rfl (by decide +kernel) (by decide +kernel)
set_option maxRecDepth 16384 in
theorem rg_code263 : (Jvm.Cond.code (⟨"HungerBooksModel", "max", "(II)I"⟩ : Jvm.MethodName) prog_14_method_5_code 2 (some .int)).before start1.args0 rg_s = true :=
  su_hand_word (m := ⟨9, 3⟩) (by decide +kernel) rfl (by decide +kernel) (by decide +kernel)
set_option maxRecDepth 16384 in
theorem rg_code264 : (Jvm.Cond.code (⟨"HungerBooksModel", "lotOf", "(II)I"⟩ : Jvm.MethodName) prog_14_method_72_code 3 (some .int)).before start1.args0 rg_s = true :=
  su_hand_word (m := ⟨9, 69⟩) (by decide +kernel) rfl (by decide +kernel) (by decide +kernel)
set_option maxRecDepth 16384 in
theorem rg_code265 : (Jvm.Cond.code (⟨"HungerBooksModel", "handsOf", "(I)I"⟩ : Jvm.MethodName) prog_14_method_71_code 4 (some .int)).before start1.args0 rg_s = true :=
  su_hand_word (m := ⟨9, 68⟩) (by decide +kernel) rfl (by decide +kernel) (by decide +kernel)
set_option maxRecDepth 16384 in
theorem rg_code266 : (Jvm.Cond.code (⟨"HungerBooksModel", "led", "(II)I"⟩ : Jvm.MethodName) prog_14_method_73_code 7 (some .int)).before start1.args0 rg_s = true :=
  su_hand_word (m := ⟨9, 70⟩) (by decide +kernel) rfl (by decide +kernel) (by decide +kernel)
set_option maxRecDepth 16384 in
theorem rg_code267 : (Jvm.Cond.code (⟨"HungerBooksModel", "coins", "(I)J"⟩ : Jvm.MethodName) prog_14_method_74_code 2 (some .long)).before start1.args0 rg_s = true :=
  su_hand_word (m := ⟨9, 71⟩) (by decide +kernel) rfl (by decide +kernel) (by decide +kernel)
