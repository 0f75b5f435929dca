set_option maxRecDepth 16384 in
theorem rg_code36 : (Jvm.Cond.code (⟨"HungerBooks$Lexer", "splitWord", "()V"⟩ : Jvm.MethodName) prog_6_method_4_code 4 none).before start1.args0 rg_s = true :=
  su_hand_word (m := ⟨4, 3⟩) (by decide +kernel) rfl (by decide +kernel) (by decide +kernel)
set_option maxRecDepth 16384 in
theorem rg_code37 : (Jvm.Cond.code (⟨"HungerBooks$Lexer", "isWord", "(II)Z"⟩ : Jvm.MethodName) prog_6_method_5_code 6 (some .boolean)).before start1.args0 rg_s = true :=
  su_hand_word (m := ⟨4, 4⟩) (by decide +kernel) rfl (by decide +kernel) (by decide +kernel)
set_option maxRecDepth 16384 in
theorem rg_code38 : (Jvm.Cond.code (⟨"java/lang/String", "charAt", "(I)C"⟩ : Jvm.MethodName) prog_18_method_56_code 2 (some .char)).before start1.args0 rg_s = true :=
  su_hand_word (m := ⟨13, 1⟩) (by decide +kernel) rfl (by decide +kernel) (by decide +kernel)
set_option maxRecDepth 16384 in
theorem rg_code39 : (Jvm.Cond.code (⟨"java/lang/String", "isLatin1", "()Z"⟩ : Jvm.MethodName) prog_18_method_154_code 1 (some .boolean)).before start1.args0 rg_s = true :=
  su_hand_word (m := ⟨13, 5⟩) (by decide +kernel) rfl (by decide +kernel) (by decide +kernel)
set_option maxRecDepth 16384 in
theorem rg_code40 : (Jvm.Cond.code (⟨"java/lang/StringLatin1", "charAt", "([BI)C"⟩ : Jvm.MethodName) prog_19_method_2_code 2 (some .char)).before start1.args0 rg_s = true :=
  su_hand_word (m := ⟨14, 0⟩) (by decide +kernel) rfl (by decide +kernel) (by decide +kernel)
set_option maxRecDepth 16384 in
theorem rg_code41 : (Jvm.Cond.code (⟨"java/lang/String", "checkIndex", "(II)V"⟩ : Jvm.MethodName) prog_18_method_155_code 2 none).before start1.args0 rg_s = true :=
  su_hand_word (m := ⟨13, 6⟩) (by decide +kernel) rfl (by decide +kernel) (by decide +kernel)
set_option maxRecDepth 16384 in
theorem rg_code42 : (Jvm.Cond.code (⟨"jdk/internal/util/Preconditions", "checkIndex", "(IILjava/util/function/BiFunction;)I"⟩ : Jvm.MethodName) prog_23_method_11_code 3 (some .int)).before start1.args0 rg_s = true :=
  su_hand_word (m := ⟨15, 0⟩) (by decide +kernel) rfl (by decide +kernel) (by decide +kernel)
set_option maxRecDepth 16384 in
theorem rg_code43 : (Jvm.Cond.code (⟨"java/lang/StringUTF16", "charAt", "([BI)C"⟩ : Jvm.MethodName) prog_20_method_83_code 2 (some .char)).before start1.args0 rg_s = true :=
  su_hand_word (m := ⟨16, 6⟩) (by decide +kernel) rfl (by decide +kernel) (by decide +kernel)
set_option maxRecDepth 16384 in
theorem rg_code44 : (Jvm.Cond.code (⟨"java/lang/StringUTF16", "checkIndex", "(I[B)V"⟩ : Jvm.MethodName) prog_20_method_91_code 2 none).before start1.args0 rg_s = true :=
  su_hand_word (m := ⟨16, 7⟩) (by decide +kernel) rfl (by decide +kernel) (by decide +kernel)
set_option maxRecDepth 16384 in
theorem rg_code45 : (Jvm.Cond.code (⟨"java/lang/StringUTF16", "length", "([B)I"⟩ : Jvm.MethodName) prog_20_method_6_code 1 (some .int)).before start1.args0 rg_s = true :=
  su_hand_word (m := ⟨16, 1⟩) (by decide +kernel) rfl (by decide +kernel) (by decide +kernel)
set_option maxRecDepth 16384 in
theorem rg_code46 : (Jvm.Cond.code (⟨"java/lang/StringUTF16", "getChar", "([BI)C"⟩ : Jvm.MethodName) prog_20_method_5_code 2 (some .char)).before start1.args0 rg_s = true :=
  su_hand_word (m := ⟨16, 0⟩) (by decide +kernel) rfl (by decide +kernel) (by decide +kernel)
set_option maxRecDepth 16384 in
theorem rg_code47 : (Jvm.Cond.code (⟨"HungerBooks$Lexer", "put", "(III)V"⟩ : Jvm.MethodName) prog_6_method_7_code 4 none).before start1.args0 rg_s = true :=
  su_hand_word (m := ⟨4, 6⟩) (by decide +kernel) rfl (by decide +kernel) (by decide +kernel)
set_option maxRecDepth 16384 in
theorem rg_code48 : (Jvm.Cond.code (⟨"HungerBooks$Lexer", "isDigit", "(I)Z"⟩ : Jvm.MethodName) prog_6_method_9_code 1 (some .boolean)).before start1.args0 rg_s = true :=
  su_hand_word (m := ⟨4, 8⟩) (by decide +kernel) rfl (by decide +kernel) (by decide +kernel)
set_option maxRecDepth 16384 in
theorem rg_code49 : (Jvm.Cond.code (⟨"HungerBooks$Lexer", "splitNumber", "()V"⟩ : Jvm.MethodName) prog_6_method_6_code 3 none).before start1.args0 rg_s = true :=
  su_hand_word (m := ⟨4, 5⟩) (by decide +kernel) rfl (by decide +kernel) (by decide +kernel)
set_option maxRecDepth 16384 in
theorem rg_code50 : (Jvm.Cond.code (⟨"java/lang/String", "indexOf", "(I)I"⟩ : Jvm.MethodName) prog_18_method_79_code 2 (some .int)).before start1.args0 rg_s = true :=
  su_hand_word (m := ⟨13, 2⟩) (by decide +kernel) rfl (by decide +kernel) (by decide +kernel)
set_option maxRecDepth 16384 in
theorem rg_code51 : (Jvm.Cond.code (⟨"java/lang/String", "indexOf", "(II)I"⟩ : Jvm.MethodName) prog_18_method_80_code 3 (some .int)).before start1.args0 rg_s = true :=
  su_hand_word (m := ⟨13, 3⟩) (by decide +kernel) rfl (by decide +kernel) (by decide +kernel)
set_option maxRecDepth 16384 in
theorem rg_code52 : (Jvm.Cond.code (⟨"java/lang/String", "length", "()I"⟩ : Jvm.MethodName) prog_18_method_54_code 1 (some .int)).before start1.args0 rg_s = true :=
  su_hand_word (m := ⟨13, 0⟩) (by decide +kernel) rfl (by decide +kernel) (by decide +kernel)
set_option maxRecDepth 16384 in
theorem rg_code53 : (Jvm.Cond.code (⟨"java/lang/String", "coder", "()B"⟩ : Jvm.MethodName) prog_18_method_152_code 1 (some .byte)).before start1.args0 rg_s = true :=
  su_hand_word (m := ⟨13, 4⟩) (by decide +kernel) rfl (by decide +kernel) (by decide +kernel)
set_option maxRecDepth 16384 in
theorem rg_code54 : (Jvm.Cond.code (⟨"java/lang/StringLatin1", "indexOf", "([BIII)I"⟩ : Jvm.MethodName) prog_19_method_22_code 4 (some .int)).before start1.args0 rg_s = true :=
  su_hand_word (m := ⟨14, 2⟩) (by decide +kernel) rfl (by decide +kernel) (by decide +kernel)
set_option maxRecDepth 16384 in
theorem rg_code55 : (Jvm.Cond.code (⟨"java/lang/StringLatin1", "canEncode", "(I)Z"⟩ : Jvm.MethodName) prog_19_method_4_code 1 (some .boolean)).before start1.args0 rg_s = true :=
  su_hand_word (m := ⟨14, 1⟩) (by decide +kernel) rfl (by decide +kernel) (by decide +kernel)
set_option maxRecDepth 16384 in
theorem rg_code56 : (Jvm.Cond.code (⟨"java/lang/Math", "max", "(II)I"⟩ : Jvm.MethodName) prog_17_method_65_code 2 (some .int)).before start1.args0 rg_s = true :=
  su_hand_word (m := ⟨12, 0⟩) (by decide +kernel) rfl (by decide +kernel) (by decide +kernel)
set_option maxRecDepth 16384 in
theorem rg_code57 : (Jvm.Cond.code (⟨"java/lang/StringLatin1", "indexOfChar", "([BIII)I"⟩ : Jvm.MethodName) prog_19_method_23_code 6 (some .int)).before start1.args0 rg_s = true :=
  su_hand_word (m := ⟨14, 3⟩) (by decide +kernel) rfl (by decide +kernel) (by decide +kernel)
set_option maxRecDepth 16384 in
theorem rg_code58 : (Jvm.Cond.code (⟨"java/lang/StringUTF16", "indexOf", "([BIII)I"⟩ : Jvm.MethodName) prog_20_method_40_code 4 (some .int)).before start1.args0 rg_s = true :=
  su_hand_word (m := ⟨16, 2⟩) (by decide +kernel) rfl (by decide +kernel) (by decide +kernel)
set_option maxRecDepth 16384 in
theorem rg_code59 : (Jvm.Cond.code (⟨"java/lang/StringUTF16", "indexOfChar", "([BIII)I"⟩ : Jvm.MethodName) prog_20_method_47_code 4 (some .int)).before start1.args0 rg_s = true :=
  su_hand_word (m := ⟨16, 3⟩) (by decide +kernel) rfl (by decide +kernel) (by decide +kernel)
set_option maxRecDepth 16384 in
theorem rg_code60 : (Jvm.Cond.code (⟨"java/lang/StringUTF16", "checkBoundsBeginEnd", "(II[B)V"⟩ : Jvm.MethodName) prog_20_method_93_code 3 none).before start1.args0 rg_s = true :=
  su_hand_word (m := ⟨16, 8⟩) (by decide +kernel) rfl (by decide +kernel) (by decide +kernel)
set_option maxRecDepth 16384 in
theorem rg_code61 : (Jvm.Cond.code (⟨"java/lang/String", "checkBoundsBeginEnd", "(III)V"⟩ : Jvm.MethodName) prog_18_method_158_code 3 none).before start1.args0 rg_s = true :=
  su_hand_word (m := ⟨13, 7⟩) (by decide +kernel) rfl (by decide +kernel) (by decide +kernel)
set_option maxRecDepth 16384 in
theorem rg_code62 : (Jvm.Cond.code (⟨"jdk/internal/util/Preconditions", "checkFromToIndex", "(IIILjava/util/function/BiFunction;)I"⟩ : Jvm.MethodName) prog_23_method_12_code 4 (some .int)).before start1.args0 rg_s = true :=
  su_hand_word (m := ⟨15, 1⟩) (by decide +kernel) rfl (by decide +kernel) (by decide +kernel)
set_option maxRecDepth 16384 in
theorem rg_code63 : (Jvm.Cond.code (⟨"java/lang/StringUTF16", "indexOfCharUnsafe", "([BIII)I"⟩ : Jvm.MethodName) prog_20_method_48_code 5 (some .int)).before start1.args0 rg_s = true :=
  su_hand_word (m := ⟨16, 4⟩) (by decide +kernel) rfl (by decide +kernel) (by decide +kernel)
set_option maxRecDepth 16384 in
theorem rg_code64 : (Jvm.Cond.code (⟨"java/lang/StringUTF16", "indexOfSupplementary", "([BIII)I"⟩ : Jvm.MethodName) prog_20_method_49_code 7 (some .int)).before start1.args0 rg_s = true :=
  su_hand_word (m := ⟨16, 5⟩) (by decide +kernel) rfl (by decide +kernel) (by decide +kernel)
set_option maxRecDepth 16384 in
theorem rg_code65 : (Jvm.Cond.code (⟨"java/lang/Character", "isValidCodePoint", "(I)Z"⟩ : Jvm.MethodName) prog_15_method_11_code 2 (some .boolean)).before start1.args0 rg_s = true :=
  su_hand_word (m := ⟨17, 0⟩) (by decide +kernel) rfl (by decide +kernel) (by decide +kernel)
set_option maxRecDepth 16384 in
theorem rg_code66 : (Jvm.Cond.code (⟨"java/lang/Character", "highSurrogate", "(I)C"⟩ : Jvm.MethodName) prog_15_method_28_code 1 (some .char)).before start1.args0 rg_s = true :=
  su_hand_word (m := ⟨17, 1⟩) (by decide +kernel) rfl (by decide +kernel) (by decide +kernel)
set_option maxRecDepth 16384 in
theorem rg_code67 : (Jvm.Cond.code (⟨"java/lang/Character", "lowSurrogate", "(I)C"⟩ : Jvm.MethodName) prog_15_method_29_code 1 (some .char)).before start1.args0 rg_s = true :=
  su_hand_word (m := ⟨17, 2⟩) (by decide +kernel) rfl (by decide +kernel) (by decide +kernel)
set_option maxRecDepth 16384 in
theorem rg_code68 : (Jvm.Cond.code (⟨"HungerBooks$Lexer", "splitSign", "(I)V"⟩ : Jvm.MethodName) prog_6_method_3_code 2 none).before start1.args0 rg_s = true :=
  su_hand_word (m := ⟨4, 2⟩) (by decide +kernel) rfl (by decide +kernel) (by decide +kernel)
set_option maxRecDepth 16384 in
theorem rg_code69 : (Jvm.Cond.code (⟨"HungerBooks$Reader", "step", "()V"⟩ : Jvm.MethodName) prog_10_method_15_code 1 none).before start1.args0 rg_s = true :=
  su_hand_word (m := ⟨3, 14⟩) (by decide +kernel) rfl (by decide +kernel) (by decide +kernel)
set_option maxRecDepth 16384 in
theorem rg_code70 : (Jvm.Cond.code (⟨"HungerBooks$Reader", "statement", "()Z"⟩ : Jvm.MethodName) prog_10_method_3_code 3 (some .boolean)).before start1.args0 rg_s = true :=
  su_hand_word (m := ⟨3, 2⟩) (by decide +kernel) rfl (by decide +kernel) (by decide +kernel)
set_option maxRecDepth 16384 in
theorem rg_code71 : (Jvm.Cond.code (⟨"HungerBooks$Reader", "gradedRule", "(I)Z"⟩ : Jvm.MethodName) prog_10_method_4_code 5 (some .boolean)).before start1.args0 rg_s = true :=
  su_hand_word (m := ⟨3, 3⟩) (by decide +kernel) rfl (by decide +kernel) (by decide +kernel)
set_option maxRecDepth 16384 in
theorem rg_code72 : (Jvm.Cond.code (⟨"HungerBooks$Reader", "sum", "(I)Z"⟩ : Jvm.MethodName) prog_10_method_6_code 4 (some .boolean)).before start1.args0 rg_s = true :=
  su_hand_word (m := ⟨3, 5⟩) (by decide +kernel) rfl (by decide +kernel) (by decide +kernel)
set_option maxRecDepth 16384 in
theorem rg_code73 : (Jvm.Cond.code (⟨"HungerBooks$Reader", "product", "(I)Z"⟩ : Jvm.MethodName) prog_10_method_7_code 4 (some .boolean)).before start1.args0 rg_s = true :=
  su_hand_word (m := ⟨3, 6⟩) (by decide +kernel) rfl (by decide +kernel) (by decide +kernel)
set_option maxRecDepth 16384 in
theorem rg_code74 : (Jvm.Cond.code (⟨"HungerBooks$Reader", "atom", "(I)Z"⟩ : Jvm.MethodName) prog_10_method_8_code 2 (some .boolean)).before start1.args0 rg_s = true :=
  su_hand_word (m := ⟨3, 7⟩) (by decide +kernel) rfl (by decide +kernel) (by decide +kernel)
set_option maxRecDepth 16384 in
theorem rg_code75 : (Jvm.Cond.code (⟨"HungerBooks$Reader", "took", "(I)Z"⟩ : Jvm.MethodName) prog_10_method_14_code 2 (some .boolean)).before start1.args0 rg_s = true :=
  su_hand_word (m := ⟨3, 13⟩) (by decide +kernel) rfl (by decide +kernel) (by decide +kernel)
set_option maxRecDepth 16384 in
theorem rg_code76 : (Jvm.Cond.code (⟨"HungerBooks$Reader", "lay", "(I)V"⟩ : Jvm.MethodName) prog_10_method_16_code 2 none).before start1.args0 rg_s = true :=
  su_hand_word (m := ⟨3, 15⟩) (by decide +kernel) rfl (by decide +kernel) (by decide +kernel)
set_option maxRecDepth 16384 in
theorem rg_code77 : (Jvm.Cond.code (⟨"HungerBooks$Reader", "anyOf", "(I)Z"⟩ : Jvm.MethodName) prog_10_method_9_code 3 (some .boolean)).before start1.args0 rg_s = true :=
  su_hand_word (m := ⟨3, 8⟩) (by decide +kernel) rfl (by decide +kernel) (by decide +kernel)
set_option maxRecDepth 16384 in
theorem rg_code78 : (Jvm.Cond.code (⟨"HungerBooks$Reader", "allOf", "(I)Z"⟩ : Jvm.MethodName) prog_10_method_10_code 3 (some .boolean)).before start1.args0 rg_s = true :=
  su_hand_word (m := ⟨3, 9⟩) (by decide +kernel) rfl (by decide +kernel) (by decide +kernel)
set_option maxRecDepth 16384 in
theorem rg_code79 : (Jvm.Cond.code (⟨"HungerBooks$Reader", "one", "(I)Z"⟩ : Jvm.MethodName) prog_10_method_11_code 3 (some .boolean)).before start1.args0 rg_s = true :=
  su_hand_word (m := ⟨3, 10⟩) (by decide +kernel) rfl (by decide +kernel) (by decide +kernel)
set_option maxRecDepth 16384 in
theorem rg_code80 : (Jvm.Cond.code (⟨"HungerBooks$Reader", "denied", "(I)Z"⟩ : Jvm.MethodName) prog_10_method_12_code 2 (some .boolean)).before start1.args0 rg_s = true :=
  su_hand_word (m := ⟨3, 11⟩) (by decide +kernel) rfl (by decide +kernel) (by decide +kernel)
