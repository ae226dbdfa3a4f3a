section
/-! THE OWED STATEMENT IS FALSE AT THIS START: the static row FIRST_SETTINGS is an int row, as the Statement asks, but of a class (number 10) that isn't the one called [I: a class of its own, which has a clone() of its own whose body is empty: the machine stops there -/
def z_cls : Class := { start1.cArr "W" 7 .int with interfaces := #[6], methods := #[Lib.HandJ.method "clone" "()Ljava/lang/Object;" [] (some (.object "java/lang/Object")) 0x1 1 ⟨#[]⟩] }
def z_about : State where
  vm := { classes := #[start1.c0, start1.cObjectC, start1.c2, start1.c3, start1.c4, start1.c5, start1.c6, start1.cPrim "int" 'I', { start1.cArr "[I" 7 .int with interfaces := #[6] }, { start1.cArr "[[I" 8 (.array .int) with interfaces := #[6] }, z_cls] }
  heap := #[{ cls := 8, slots := #[], vm := .none }, { cls := 2, slots := #[.int 0, .int 0, .int 0, .int 0, .int 0, .int 0, .int 0, .int 0, .int 0, .int 0, .int 0, .int 0, .int 0, .int 0, .int 0, .int 0, .ref 2, .ref 3], vm := .statics 2 }, { cls := 10, slots := #[.int (2), .int (2), .int (3), .int (3)], vm := .none }, { cls := 8, slots := #[.int (4), .int (5), .int (9), .int (9)], vm := .none }]
  slotsUsed := 26
  threads := #[{ frames := .invoking ⟨0, 0⟩ start1.args0 :: Lib.HandBits.below0 }]
theorem z_word_code : (Cond.code x code maxLocals ret).before start1.args0 z_about = true := su_hand_word (m := ⟨0, 0⟩) (by decide +kernel) rfl (by decide +kernel) (by decide +kernel)
theorem z_code0 : (Jvm.Cond.code (⟨"BasketHouse", "<init>", "()V"⟩ : Jvm.MethodName) prog_1_method_1_code 1 none).before start1.args0 z_about = true := su_hand_word (m := ⟨2, 0⟩) (by decide +kernel) rfl (by decide +kernel) (by decide +kernel)
theorem z_code1 : (Jvm.Cond.code (⟨"java/lang/Object", "<init>", "()V"⟩ : Jvm.MethodName) object_method_1_code 1 none).before start1.args0 z_about = true := su_hand_word (m := ⟨1, 0⟩) (by decide +kernel) rfl (by decide +kernel) (by decide +kernel)
theorem z_code2 : (Jvm.Cond.code (⟨"BasketHouse", "thing", "(I)I"⟩ : Jvm.MethodName) prog_1_method_2_code 3 (some .int)).before start1.args0 z_about = true := su_hand_word (m := ⟨2, 1⟩) (by decide +kernel) rfl (by decide +kernel) (by decide +kernel)
theorem z_code3 : (Jvm.Cond.code (⟨"BasketHouse", "stock", "(IZ)Z"⟩ : Jvm.MethodName) prog_1_method_3_code 3 (some .boolean)).before start1.args0 z_about = true := su_hand_word (m := ⟨2, 2⟩) (by decide +kernel) rfl (by decide +kernel) (by decide +kernel)
theorem z_code4 : (Jvm.Cond.code (⟨"BasketHouse", "isThing", "(I)Z"⟩ : Jvm.MethodName) prog_1_method_22_code 2 (some .boolean)).before start1.args0 z_about = true := su_hand_word (m := ⟨2, 21⟩) (by decide +kernel) rfl (by decide +kernel) (by decide +kernel)
theorem z_code5 : (Jvm.Cond.code (⟨"BasketHouse", "has", "(II)Z"⟩ : Jvm.MethodName) prog_1_method_28_code 2 (some .boolean)).before start1.args0 z_about = true := su_hand_word (m := ⟨2, 27⟩) (by decide +kernel) rfl (by decide +kernel) (by decide +kernel)
theorem z_code6 : (Jvm.Cond.code (⟨"BasketHouse", "set", "(II)Z"⟩ : Jvm.MethodName) prog_1_method_4_code 3 (some .boolean)).before start1.args0 z_about = true := su_hand_word (m := ⟨2, 3⟩) (by decide +kernel) rfl (by decide +kernel) (by decide +kernel)
theorem z_code7 : (Jvm.Cond.code (⟨"BasketHouse", "apart", "(IIZ)Z"⟩ : Jvm.MethodName) prog_1_method_5_code 4 (some .boolean)).before start1.args0 z_about = true := su_hand_word (m := ⟨2, 4⟩) (by decide +kernel) rfl (by decide +kernel) (by decide +kernel)
theorem z_code8 : (Jvm.Cond.code (⟨"BasketHouse", "areTwoThings", "(II)Z"⟩ : Jvm.MethodName) prog_1_method_23_code 3 (some .boolean)).before start1.args0 z_about = true := su_hand_word (m := ⟨2, 22⟩) (by decide +kernel) rfl (by decide +kernel) (by decide +kernel)
theorem z_code9 : (Jvm.Cond.code (⟨"BasketHouse", "basket", "(II)I"⟩ : Jvm.MethodName) prog_1_method_6_code 4 (some .int)).before start1.args0 z_about = true := su_hand_word (m := ⟨2, 5⟩) (by decide +kernel) rfl (by decide +kernel) (by decide +kernel)
theorem z_code10 : (Jvm.Cond.code (⟨"BasketHouse", "isPerson", "(I)Z"⟩ : Jvm.MethodName) prog_1_method_27_code 1 (some .boolean)).before start1.args0 z_about = true := su_hand_word (m := ⟨2, 26⟩) (by decide +kernel) rfl (by decide +kernel) (by decide +kernel)
theorem z_code11 : (Jvm.Cond.code (⟨"BasketHouse", "isSetOfThings", "(I)Z"⟩ : Jvm.MethodName) prog_1_method_24_code 2 (some .boolean)).before start1.args0 z_about = true := su_hand_word (m := ⟨2, 23⟩) (by decide +kernel) rfl (by decide +kernel) (by decide +kernel)
theorem z_code12 : (Jvm.Cond.code (⟨"BasketHouse", "allThings", "()I"⟩ : Jvm.MethodName) prog_1_method_29_code 1 (some .int)).before start1.args0 z_about = true := su_hand_word (m := ⟨2, 28⟩) (by decide +kernel) rfl (by decide +kernel) (by decide +kernel)
theorem z_code13 : (Jvm.Cond.code (⟨"BasketHouse", "clearShown", "(II)V"⟩ : Jvm.MethodName) prog_1_method_48_code 4 none).before start1.args0 z_about = true := su_hand_word (m := ⟨2, 47⟩) (by decide +kernel) rfl (by decide +kernel) (by decide +kernel)
theorem z_code14 : (Jvm.Cond.code (⟨"BasketHouse", "drop", "(I)Z"⟩ : Jvm.MethodName) prog_1_method_7_code 2 (some .boolean)).before start1.args0 z_about = true := su_hand_word (m := ⟨2, 6⟩) (by decide +kernel) rfl (by decide +kernel) (by decide +kernel)
theorem z_code15 : (Jvm.Cond.code (⟨"BasketHouse", "isBasket", "(I)Z"⟩ : Jvm.MethodName) prog_1_method_25_code 2 (some .boolean)).before start1.args0 z_about = true := su_hand_word (m := ⟨2, 24⟩) (by decide +kernel) rfl (by decide +kernel) (by decide +kernel)
theorem z_code16 : (Jvm.Cond.code (⟨"BasketHouse", "removeBasket", "(I)V"⟩ : Jvm.MethodName) prog_1_method_31_code 3 none).before start1.args0 z_about = true := su_hand_word (m := ⟨2, 30⟩) (by decide +kernel) rfl (by decide +kernel) (by decide +kernel)
theorem z_code17 : (Jvm.Cond.code (⟨"BasketHouse", "forget", "(I)I"⟩ : Jvm.MethodName) prog_1_method_8_code 4 (some .int)).before start1.args0 z_about = true := su_hand_word (m := ⟨2, 7⟩) (by decide +kernel) rfl (by decide +kernel) (by decide +kernel)
theorem z_code18 : (Jvm.Cond.code (⟨"BasketHouse", "day", "()I"⟩ : Jvm.MethodName) prog_1_method_9_code 1 (some .int)).before start1.args0 z_about = true := su_hand_word (m := ⟨2, 8⟩) (by decide +kernel) rfl (by decide +kernel) (by decide +kernel)
theorem z_code19 : (Jvm.Cond.code (⟨"BasketHouse", "removeOldBaskets", "()V"⟩ : Jvm.MethodName) prog_1_method_32_code 2 none).before start1.args0 z_about = true := su_hand_word (m := ⟨2, 31⟩) (by decide +kernel) rfl (by decide +kernel) (by decide +kernel)
theorem z_code20 : (Jvm.Cond.code (⟨"BasketHouse", "look", "(I)I"⟩ : Jvm.MethodName) prog_1_method_10_code 2 (some .int)).before start1.args0 z_about = true := su_hand_word (m := ⟨2, 9⟩) (by decide +kernel) rfl (by decide +kernel) (by decide +kernel)
theorem z_code21 : (Jvm.Cond.code (⟨"BasketHouse", "newThings", "()I"⟩ : Jvm.MethodName) prog_1_method_30_code 3 (some .int)).before start1.args0 z_about = true := su_hand_word (m := ⟨2, 29⟩) (by decide +kernel) rfl (by decide +kernel) (by decide +kernel)
theorem z_code22 : (Jvm.Cond.code (⟨"BasketHouse", "of", "(II)I"⟩ : Jvm.MethodName) prog_1_method_11_code 3 (some .int)).before start1.args0 z_about = true := su_hand_word (m := ⟨2, 10⟩) (by decide +kernel) rfl (by decide +kernel) (by decide +kernel)
theorem z_code23 : (Jvm.Cond.code (⟨"BasketHouse", "count", "(III)I"⟩ : Jvm.MethodName) prog_1_method_12_code 4 (some .int)).before start1.args0 z_about = true := su_hand_word (m := ⟨2, 11⟩) (by decide +kernel) rfl (by decide +kernel) (by decide +kernel)
theorem z_code24 : (Jvm.Cond.code (⟨"BasketHouse", "basketsWith", "(II)I"⟩ : Jvm.MethodName) prog_1_method_33_code 6 (some .int)).before start1.args0 z_about = true := su_hand_word (m := ⟨2, 32⟩) (by decide +kernel) rfl (by decide +kernel) (by decide +kernel)
theorem z_code25 : (Jvm.Cond.code (⟨"BasketHouse", "peopleWith", "(II)I"⟩ : Jvm.MethodName) prog_1_method_34_code 6 (some .int)).before start1.args0 z_about = true := su_hand_word (m := ⟨2, 33⟩) (by decide +kernel) rfl (by decide +kernel) (by decide +kernel)
theorem z_code26 : (Jvm.Cond.code (⟨"java/lang/Integer", "bitCount", "(I)I"⟩ : Jvm.MethodName) prog_5_method_49_code 1 (some .int)).before start1.args0 z_about = true := su_hand_word (m := ⟨4, 0⟩) (by decide +kernel) rfl (by decide +kernel) (by decide +kernel)
theorem z_code27 : (Jvm.Cond.code (⟨"BasketHouse", "kin", "(II)I"⟩ : Jvm.MethodName) prog_1_method_13_code 3 (some .int)).before start1.args0 z_about = true := su_hand_word (m := ⟨2, 12⟩) (by decide +kernel) rfl (by decide +kernel) (by decide +kernel)
theorem z_code28 : (Jvm.Cond.code (⟨"BasketHouse", "kinOf", "(II)I"⟩ : Jvm.MethodName) prog_1_method_35_code 4 (some .int)).before start1.args0 z_about = true := su_hand_word (m := ⟨2, 34⟩) (by decide +kernel) rfl (by decide +kernel) (by decide +kernel)
theorem z_code29 : (Jvm.Cond.code (⟨"BasketHouse", "near", "(II)I"⟩ : Jvm.MethodName) prog_1_method_14_code 7 (some .int)).before start1.args0 z_about = true := su_hand_word (m := ⟨2, 13⟩) (by decide +kernel) rfl (by decide +kernel) (by decide +kernel)
theorem z_code30 : (Jvm.Cond.code (⟨"BasketHouse", "writeKin", "(II)V"⟩ : Jvm.MethodName) prog_1_method_38_code 4 none).before start1.args0 z_about = true := su_hand_word (m := ⟨2, 37⟩) (by decide +kernel) rfl (by decide +kernel) (by decide +kernel)
theorem z_code31 : (Jvm.Cond.code (⟨"BasketHouse", "bestByPoints", "(I)I"⟩ : Jvm.MethodName) prog_1_method_40_code 5 (some .int)).before start1.args0 z_about = true := su_hand_word (m := ⟨2, 39⟩) (by decide +kernel) rfl (by decide +kernel) (by decide +kernel)
theorem z_code32 : (Jvm.Cond.code (⟨"BasketHouse", "taken", "(I)I"⟩ : Jvm.MethodName) prog_1_method_15_code 2 (some .int)).before start1.args0 z_about = true := su_hand_word (m := ⟨2, 14⟩) (by decide +kernel) rfl (by decide +kernel) (by decide +kernel)
theorem z_code33 : (Jvm.Cond.code (⟨"BasketHouse", "takenBy", "(I)I"⟩ : Jvm.MethodName) prog_1_method_36_code 4 (some .int)).before start1.args0 z_about = true := su_hand_word (m := ⟨2, 35⟩) (by decide +kernel) rfl (by decide +kernel) (by decide +kernel)
theorem z_code34 : (Jvm.Cond.code (⟨"BasketHouse", "score", "(II)I"⟩ : Jvm.MethodName) prog_1_method_16_code 3 (some .int)).before start1.args0 z_about = true := su_hand_word (m := ⟨2, 15⟩) (by decide +kernel) rfl (by decide +kernel) (by decide +kernel)
theorem z_code35 : (Jvm.Cond.code (⟨"BasketHouse", "scoreOf", "(II)I"⟩ : Jvm.MethodName) prog_1_method_37_code 5 (some .int)).before start1.args0 z_about = true := su_hand_word (m := ⟨2, 36⟩) (by decide +kernel) rfl (by decide +kernel) (by decide +kernel)
theorem z_code36 : (Jvm.Cond.code (⟨"BasketHouse", "may", "(I)I"⟩ : Jvm.MethodName) prog_1_method_17_code 2 (some .int)).before start1.args0 z_about = true := su_hand_word (m := ⟨2, 16⟩) (by decide +kernel) rfl (by decide +kernel) (by decide +kernel)
theorem z_code37 : (Jvm.Cond.code (⟨"BasketHouse", "mayPutUp", "(I)I"⟩ : Jvm.MethodName) prog_1_method_42_code 4 (some .int)).before start1.args0 z_about = true := su_hand_word (m := ⟨2, 41⟩) (by decide +kernel) rfl (by decide +kernel) (by decide +kernel)
theorem z_code38 : (Jvm.Cond.code (⟨"BasketHouse", "daysTired", "(II)I"⟩ : Jvm.MethodName) prog_1_method_46_code 3 (some .int)).before start1.args0 z_about = true := su_hand_word (m := ⟨2, 45⟩) (by decide +kernel) rfl (by decide +kernel) (by decide +kernel)
theorem z_code39 : (Jvm.Cond.code (⟨"java/lang/Math", "max", "(II)I"⟩ : Jvm.MethodName) prog_6_method_65_code 2 (some .int)).before start1.args0 z_about = true := su_hand_word (m := ⟨5, 0⟩) (by decide +kernel) rfl (by decide +kernel) (by decide +kernel)
theorem z_code40 : (Jvm.Cond.code (⟨"BasketHouse", "list", "(III)I"⟩ : Jvm.MethodName) prog_1_method_18_code 5 (some .int)).before start1.args0 z_about = true := su_hand_word (m := ⟨2, 17⟩) (by decide +kernel) rfl (by decide +kernel) (by decide +kernel)
theorem z_code41 : (Jvm.Cond.code (⟨"BasketHouse", "canList", "(II)Z"⟩ : Jvm.MethodName) prog_1_method_26_code 3 (some .boolean)).before start1.args0 z_about = true := su_hand_word (m := ⟨2, 25⟩) (by decide +kernel) rfl (by decide +kernel) (by decide +kernel)
theorem z_code42 : (Jvm.Cond.code (⟨"BasketHouse", "bestList", "(II)I"⟩ : Jvm.MethodName) prog_1_method_45_code 14 (some .int)).before start1.args0 z_about = true := su_hand_word (m := ⟨2, 44⟩) (by decide +kernel) rfl (by decide +kernel) (by decide +kernel)
theorem z_code43 : (Jvm.Cond.code (⟨"BasketHouse", "isTurnOfNew", "(I)Z"⟩ : Jvm.MethodName) prog_1_method_43_code 3 (some .boolean)).before start1.args0 z_about = true := su_hand_word (m := ⟨2, 42⟩) (by decide +kernel) rfl (by decide +kernel) (by decide +kernel)
theorem z_code44 : (Jvm.Cond.code (⟨"BasketHouse", "writeScores", "(II)V"⟩ : Jvm.MethodName) prog_1_method_39_code 5 none).before start1.args0 z_about = true := su_hand_word (m := ⟨2, 38⟩) (by decide +kernel) rfl (by decide +kernel) (by decide +kernel)
theorem z_code45 : (Jvm.Cond.code (⟨"BasketHouse", "keepsRules", "(I)Z"⟩ : Jvm.MethodName) prog_1_method_44_code 3 (some .boolean)).before start1.args0 z_about = true := su_hand_word (m := ⟨2, 43⟩) (by decide +kernel) rfl (by decide +kernel) (by decide +kernel)
theorem z_code46 : (Jvm.Cond.code (⟨"BasketHouse", "sumOfPoints", "(I)I"⟩ : Jvm.MethodName) prog_1_method_41_code 4 (some .int)).before start1.args0 z_about = true := su_hand_word (m := ⟨2, 40⟩) (by decide +kernel) rfl (by decide +kernel) (by decide +kernel)
theorem z_code47 : (Jvm.Cond.code (⟨"BasketHouse", "show", "(II)I"⟩ : Jvm.MethodName) prog_1_method_19_code 5 (some .int)).before start1.args0 z_about = true := su_hand_word (m := ⟨2, 18⟩) (by decide +kernel) rfl (by decide +kernel) (by decide +kernel)
theorem z_code48 : (Jvm.Cond.code (⟨"BasketHouse", "showOnce", "(II)V"⟩ : Jvm.MethodName) prog_1_method_47_code 3 none).before start1.args0 z_about = true := su_hand_word (m := ⟨2, 46⟩) (by decide +kernel) rfl (by decide +kernel) (by decide +kernel)
theorem z_code49 : (Jvm.Cond.code (⟨"BasketHouse", "shown", "(III)I"⟩ : Jvm.MethodName) prog_1_method_20_code 4 (some .int)).before start1.args0 z_about = true := su_hand_word (m := ⟨2, 19⟩) (by decide +kernel) rfl (by decide +kernel) (by decide +kernel)
theorem z_code50 : (Jvm.Cond.code (⟨"BasketHouse", "why", "(III)I"⟩ : Jvm.MethodName) prog_1_method_21_code 6 (some .int)).before start1.args0 z_about = true := su_hand_word (m := ⟨2, 20⟩) (by decide +kernel) rfl (by decide +kernel) (by decide +kernel)
theorem z_code51 : (Jvm.Cond.code (⟨"BasketHouseModel", "<init>", "()V"⟩ : Jvm.MethodName) prog_3_method_1_code 1 none).before start1.args0 z_about = true := su_hand_word (m := ⟨3, 0⟩) (by decide +kernel) rfl (by decide +kernel) (by decide +kernel)
theorem z_code52 : (Jvm.Cond.code (⟨"BasketHouseModel", "thing", "(I)I"⟩ : Jvm.MethodName) prog_3_method_5_code 2 (some .int)).before start1.args0 z_about = true := su_hand_word (m := ⟨3, 4⟩) (by decide +kernel) rfl (by decide +kernel) (by decide +kernel)
theorem z_code53 : (Jvm.Cond.code (⟨"BasketHouseModel", "isIn", "(III)Z"⟩ : Jvm.MethodName) prog_3_method_2_code 3 (some .boolean)).before start1.args0 z_about = true := su_hand_word (m := ⟨3, 1⟩) (by decide +kernel) rfl (by decide +kernel) (by decide +kernel)
theorem z_code54 : (Jvm.Cond.code (⟨"BasketHouseModel", "stock", "(IZ)Z"⟩ : Jvm.MethodName) prog_3_method_6_code 3 (some .boolean)).before start1.args0 z_about = true := su_hand_word (m := ⟨3, 5⟩) (by decide +kernel) rfl (by decide +kernel) (by decide +kernel)
theorem z_code55 : (Jvm.Cond.code (⟨"BasketHouseModel", "isThing", "(I)Z"⟩ : Jvm.MethodName) prog_3_method_3_code 2 (some .boolean)).before start1.args0 z_about = true := su_hand_word (m := ⟨3, 2⟩) (by decide +kernel) rfl (by decide +kernel) (by decide +kernel)
theorem z_code56 : (Jvm.Cond.code (⟨"BasketHouseModel", "set", "(II)Z"⟩ : Jvm.MethodName) prog_3_method_7_code 3 (some .boolean)).before start1.args0 z_about = true := su_hand_word (m := ⟨3, 6⟩) (by decide +kernel) rfl (by decide +kernel) (by decide +kernel)
theorem z_code57 : (Jvm.Cond.code (⟨"BasketHouseModel", "apart", "(IIZ)Z"⟩ : Jvm.MethodName) prog_3_method_8_code 4 (some .boolean)).before start1.args0 z_about = true := su_hand_word (m := ⟨3, 7⟩) (by decide +kernel) rfl (by decide +kernel) (by decide +kernel)
theorem z_code58 : (Jvm.Cond.code (⟨"BasketHouseModel", "basket", "(II)I"⟩ : Jvm.MethodName) prog_3_method_9_code 4 (some .int)).before start1.args0 z_about = true := su_hand_word (m := ⟨3, 8⟩) (by decide +kernel) rfl (by decide +kernel) (by decide +kernel)
theorem z_code59 : (Jvm.Cond.code (⟨"BasketHouseModel", "isPerson", "(I)Z"⟩ : Jvm.MethodName) prog_3_method_4_code 1 (some .boolean)).before start1.args0 z_about = true := su_hand_word (m := ⟨3, 3⟩) (by decide +kernel) rfl (by decide +kernel) (by decide +kernel)
theorem z_code60 : (Jvm.Cond.code (⟨"BasketHouseModel", "drop", "(I)Z"⟩ : Jvm.MethodName) prog_3_method_11_code 2 (some .boolean)).before start1.args0 z_about = true := su_hand_word (m := ⟨3, 10⟩) (by decide +kernel) rfl (by decide +kernel) (by decide +kernel)
theorem z_code61 : (Jvm.Cond.code (⟨"BasketHouseModel", "goes", "(I)V"⟩ : Jvm.MethodName) prog_3_method_10_code 3 none).before start1.args0 z_about = true := su_hand_word (m := ⟨3, 9⟩) (by decide +kernel) rfl (by decide +kernel) (by decide +kernel)
theorem z_code62 : (Jvm.Cond.code (⟨"BasketHouseModel", "forget", "(I)I"⟩ : Jvm.MethodName) prog_3_method_12_code 4 (some .int)).before start1.args0 z_about = true := su_hand_word (m := ⟨3, 11⟩) (by decide +kernel) rfl (by decide +kernel) (by decide +kernel)
theorem z_code63 : (Jvm.Cond.code (⟨"BasketHouseModel", "day", "()I"⟩ : Jvm.MethodName) prog_3_method_13_code 2 (some .int)).before start1.args0 z_about = true := su_hand_word (m := ⟨3, 12⟩) (by decide +kernel) rfl (by decide +kernel) (by decide +kernel)
theorem z_code64 : (Jvm.Cond.code (⟨"BasketHouseModel", "look", "(I)I"⟩ : Jvm.MethodName) prog_3_method_15_code 2 (some .int)).before start1.args0 z_about = true := su_hand_word (m := ⟨3, 14⟩) (by decide +kernel) rfl (by decide +kernel) (by decide +kernel)
theorem z_code65 : (Jvm.Cond.code (⟨"BasketHouseModel", "news", "()I"⟩ : Jvm.MethodName) prog_3_method_14_code 3 (some .int)).before start1.args0 z_about = true := su_hand_word (m := ⟨3, 13⟩) (by decide +kernel) rfl (by decide +kernel) (by decide +kernel)
theorem z_code66 : (Jvm.Cond.code (⟨"BasketHouseModel", "of", "(II)I"⟩ : Jvm.MethodName) prog_3_method_16_code 3 (some .int)).before start1.args0 z_about = true := su_hand_word (m := ⟨3, 15⟩) (by decide +kernel) rfl (by decide +kernel) (by decide +kernel)
theorem z_code67 : (Jvm.Cond.code (⟨"BasketHouseModel", "count", "(III)I"⟩ : Jvm.MethodName) prog_3_method_19_code 4 (some .int)).before start1.args0 z_about = true := su_hand_word (m := ⟨3, 18⟩) (by decide +kernel) rfl (by decide +kernel) (by decide +kernel)
theorem z_code68 : (Jvm.Cond.code (⟨"BasketHouseModel", "both", "(II)I"⟩ : Jvm.MethodName) prog_3_method_17_code 5 (some .int)).before start1.args0 z_about = true := su_hand_word (m := ⟨3, 16⟩) (by decide +kernel) rfl (by decide +kernel) (by decide +kernel)
theorem z_code69 : (Jvm.Cond.code (⟨"BasketHouseModel", "people", "(II)I"⟩ : Jvm.MethodName) prog_3_method_18_code 7 (some .int)).before start1.args0 z_about = true := su_hand_word (m := ⟨3, 17⟩) (by decide +kernel) rfl (by decide +kernel) (by decide +kernel)
theorem z_code70 : (Jvm.Cond.code (⟨"BasketHouseModel", "kin", "(II)I"⟩ : Jvm.MethodName) prog_3_method_21_code 3 (some .int)).before start1.args0 z_about = true := su_hand_word (m := ⟨3, 20⟩) (by decide +kernel) rfl (by decide +kernel) (by decide +kernel)
theorem z_code71 : (Jvm.Cond.code (⟨"BasketHouseModel", "kinOf", "(II)I"⟩ : Jvm.MethodName) prog_3_method_20_code 5 (some .int)).before start1.args0 z_about = true := su_hand_word (m := ⟨3, 19⟩) (by decide +kernel) rfl (by decide +kernel) (by decide +kernel)
theorem z_code72 : (Jvm.Cond.code (⟨"BasketHouseModel", "near", "(II)I"⟩ : Jvm.MethodName) prog_3_method_22_code 7 (some .int)).before start1.args0 z_about = true := su_hand_word (m := ⟨3, 21⟩) (by decide +kernel) rfl (by decide +kernel) (by decide +kernel)
theorem z_code73 : (Jvm.Cond.code (⟨"BasketHouseModel", "taken", "(I)I"⟩ : Jvm.MethodName) prog_3_method_24_code 2 (some .int)).before start1.args0 z_about = true := su_hand_word (m := ⟨3, 23⟩) (by decide +kernel) rfl (by decide +kernel) (by decide +kernel)
theorem z_code74 : (Jvm.Cond.code (⟨"BasketHouseModel", "takenBy", "(I)I"⟩ : Jvm.MethodName) prog_3_method_23_code 4 (some .int)).before start1.args0 z_about = true := su_hand_word (m := ⟨3, 22⟩) (by decide +kernel) rfl (by decide +kernel) (by decide +kernel)
theorem z_code75 : (Jvm.Cond.code (⟨"BasketHouseModel", "score", "(II)I"⟩ : Jvm.MethodName) prog_3_method_26_code 3 (some .int)).before start1.args0 z_about = true := su_hand_word (m := ⟨3, 25⟩) (by decide +kernel) rfl (by decide +kernel) (by decide +kernel)
theorem z_code76 : (Jvm.Cond.code (⟨"BasketHouseModel", "scoreOf", "(II)I"⟩ : Jvm.MethodName) prog_3_method_25_code 6 (some .int)).before start1.args0 z_about = true := su_hand_word (m := ⟨3, 24⟩) (by decide +kernel) rfl (by decide +kernel) (by decide +kernel)
theorem z_code77 : (Jvm.Cond.code (⟨"BasketHouseModel", "may", "(I)I"⟩ : Jvm.MethodName) prog_3_method_28_code 2 (some .int)).before start1.args0 z_about = true := su_hand_word (m := ⟨3, 27⟩) (by decide +kernel) rfl (by decide +kernel) (by decide +kernel)
theorem z_code78 : (Jvm.Cond.code (⟨"BasketHouseModel", "mayFor", "(I)I"⟩ : Jvm.MethodName) prog_3_method_27_code 4 (some .int)).before start1.args0 z_about = true := su_hand_word (m := ⟨3, 26⟩) (by decide +kernel) rfl (by decide +kernel) (by decide +kernel)
theorem z_code79 : (Jvm.Cond.code (⟨"BasketHouseModel", "list", "(III)I"⟩ : Jvm.MethodName) prog_3_method_32_code 4 (some .int)).before start1.args0 z_about = true := su_hand_word (m := ⟨3, 31⟩) (by decide +kernel) rfl (by decide +kernel) (by decide +kernel)
theorem z_code80 : (Jvm.Cond.code (⟨"BasketHouseModel", "lists", "(II)Z"⟩ : Jvm.MethodName) prog_3_method_31_code 8 (some .boolean)).before start1.args0 z_about = true := su_hand_word (m := ⟨3, 30⟩) (by decide +kernel) rfl (by decide +kernel) (by decide +kernel)
theorem z_code81 : (Jvm.Cond.code (⟨"BasketHouseModel", "bits", "(I)I"⟩ : Jvm.MethodName) prog_3_method_29_code 3 (some .int)).before start1.args0 z_about = true := su_hand_word (m := ⟨3, 28⟩) (by decide +kernel) rfl (by decide +kernel) (by decide +kernel)
theorem z_code82 : (Jvm.Cond.code (⟨"BasketHouseModel", "keeps", "(I)Z"⟩ : Jvm.MethodName) prog_3_method_30_code 5 (some .boolean)).before start1.args0 z_about = true := su_hand_word (m := ⟨3, 29⟩) (by decide +kernel) rfl (by decide +kernel) (by decide +kernel)
theorem z_code83 : (Jvm.Cond.code (⟨"BasketHouseModel", "show", "(II)I"⟩ : Jvm.MethodName) prog_3_method_33_code 5 (some .int)).before start1.args0 z_about = true := su_hand_word (m := ⟨3, 32⟩) (by decide +kernel) rfl (by decide +kernel) (by decide +kernel)
theorem z_code84 : (Jvm.Cond.code (⟨"BasketHouseModel", "shown", "(III)I"⟩ : Jvm.MethodName) prog_3_method_34_code 5 (some .int)).before start1.args0 z_about = true := su_hand_word (m := ⟨3, 33⟩) (by decide +kernel) rfl (by decide +kernel) (by decide +kernel)
theorem z_code85 : (Jvm.Cond.code (⟨"BasketHouseModel", "why", "(III)I"⟩ : Jvm.MethodName) prog_3_method_35_code 7 (some .int)).before start1.args0 z_about = true := su_hand_word (m := ⟨3, 34⟩) (by decide +kernel) rfl (by decide +kernel) (by decide +kernel)
end
section
theorem z_codes_hold_1 : ∀ c ∈ tables_1_1.filter su_isCode, c.before start1.args0 z_about = true := by
  rw [start1.codes_are_1]
  exact List.forall_mem_cons.mpr ⟨z_code0, List.forall_mem_cons.mpr ⟨z_code1, List.forall_mem_cons.mpr ⟨z_code2, List.forall_mem_cons.mpr ⟨z_code3, List.forall_mem_cons.mpr ⟨z_code4, List.forall_mem_cons.mpr ⟨z_code5, List.forall_mem_cons.mpr ⟨z_code6, List.forall_mem_cons.mpr ⟨z_code7, List.forall_mem_cons.mpr ⟨z_code8, List.forall_mem_cons.mpr ⟨z_code9, List.forall_mem_cons.mpr ⟨z_code10, List.forall_mem_cons.mpr ⟨z_code11, List.forall_mem_cons.mpr ⟨z_code12, List.forall_mem_cons.mpr ⟨z_code13, List.forall_mem_cons.mpr ⟨z_code14, List.forall_mem_cons.mpr ⟨z_code15, List.forall_mem_cons.mpr ⟨z_code16, List.forall_mem_cons.mpr ⟨z_code17, List.forall_mem_cons.mpr ⟨z_code18, List.forall_mem_cons.mpr ⟨z_code19, List.forall_mem_cons.mpr ⟨z_code20, List.forall_mem_cons.mpr ⟨z_code21, List.forall_mem_cons.mpr ⟨z_code22, List.forall_mem_cons.mpr ⟨z_code23, List.forall_mem_cons.mpr ⟨z_code24, List.forall_mem_cons.mpr ⟨z_code25, List.forall_mem_cons.mpr ⟨z_code26, List.forall_mem_cons.mpr ⟨z_code27, List.forall_mem_cons.mpr ⟨z_code28, List.forall_mem_cons.mpr ⟨z_code29, List.forall_mem_cons.mpr ⟨z_code30, List.forall_mem_cons.mpr ⟨z_code31, List.forall_mem_cons.mpr ⟨z_code32, List.forall_mem_cons.mpr ⟨z_code33, List.forall_mem_cons.mpr ⟨z_code34, List.forall_mem_cons.mpr ⟨z_code35, List.forall_mem_cons.mpr ⟨z_code36, List.forall_mem_cons.mpr ⟨z_code37, List.forall_mem_cons.mpr ⟨z_code38, List.forall_mem_cons.mpr ⟨z_code39, List.forall_mem_cons.mpr ⟨z_code40, List.forall_mem_cons.mpr ⟨z_code41, List.forall_mem_cons.mpr ⟨z_code42, fun _ h => absurd h List.not_mem_nil⟩⟩⟩⟩⟩⟩⟩⟩⟩⟩⟩⟩⟩⟩⟩⟩⟩⟩⟩⟩⟩⟩⟩⟩⟩⟩⟩⟩⟩⟩⟩⟩⟩⟩⟩⟩⟩⟩⟩⟩⟩⟩⟩
set_option maxRecDepth 16384 in
theorem z_others_1_0 : (tables_1_1.take 40).all (fun c => su_isCode c || c.before start1.args0 z_about) = true := by decide +kernel
set_option maxRecDepth 16384 in
theorem z_others_1_1 : ((tables_1_1.drop 40).take 40).all (fun c => su_isCode c || c.before start1.args0 z_about) = true := by decide +kernel
set_option maxRecDepth 16384 in
theorem z_others_1_2 : (((tables_1_1.drop 40).drop 40).take 40).all (fun c => su_isCode c || c.before start1.args0 z_about) = true := by decide +kernel
set_option maxRecDepth 16384 in
theorem z_others_1_3 : ((((tables_1_1.drop 40).drop 40).drop 40).take 40).all (fun c => su_isCode c || c.before start1.args0 z_about) = true := by decide +kernel
set_option maxRecDepth 16384 in
theorem z_others_1_4 : (((((tables_1_1.drop 40).drop 40).drop 40).drop 40).take 40).all (fun c => su_isCode c || c.before start1.args0 z_about) = true := by decide +kernel
set_option maxRecDepth 16384 in
theorem z_others_1_5 : (((((tables_1_1.drop 40).drop 40).drop 40).drop 40).drop 40).all (fun c => su_isCode c || c.before start1.args0 z_about) = true := by decide +kernel
theorem z_others_hold_1 : tables_1_1.all (fun c => su_isCode c || c.before start1.args0 z_about) = true := start1.su_all_split _ 40 tables_1_1 z_others_1_0 (start1.su_all_split _ 40 (tables_1_1.drop 40) z_others_1_1 (start1.su_all_split _ 40 ((tables_1_1.drop 40).drop 40) z_others_1_2 (start1.su_all_split _ 40 (((tables_1_1.drop 40).drop 40).drop 40) z_others_1_3 (start1.su_all_split _ 40 ((((tables_1_1.drop 40).drop 40).drop 40).drop 40) z_others_1_4 z_others_1_5))))
theorem z_words_1 : ∀ c ∈ tables_1_1, c.before start1.args0 z_about = true := fun c h => su_words z_others_hold_1 z_codes_hold_1 c h
theorem z_codes_hold_2 : ∀ c ∈ tables_1_2.filter su_isCode, c.before start1.args0 z_about = true := by
  rw [start1.codes_are_2]
  exact List.forall_mem_cons.mpr ⟨z_code43, List.forall_mem_cons.mpr ⟨z_code44, List.forall_mem_cons.mpr ⟨z_code45, List.forall_mem_cons.mpr ⟨z_code46, List.forall_mem_cons.mpr ⟨z_code47, List.forall_mem_cons.mpr ⟨z_code48, List.forall_mem_cons.mpr ⟨z_code49, List.forall_mem_cons.mpr ⟨z_code50, List.forall_mem_cons.mpr ⟨z_code51, List.forall_mem_cons.mpr ⟨z_code52, List.forall_mem_cons.mpr ⟨z_code53, List.forall_mem_cons.mpr ⟨z_code54, List.forall_mem_cons.mpr ⟨z_code55, List.forall_mem_cons.mpr ⟨z_code56, List.forall_mem_cons.mpr ⟨z_code57, List.forall_mem_cons.mpr ⟨z_code58, List.forall_mem_cons.mpr ⟨z_code59, List.forall_mem_cons.mpr ⟨z_code60, List.forall_mem_cons.mpr ⟨z_code61, List.forall_mem_cons.mpr ⟨z_code62, List.forall_mem_cons.mpr ⟨z_code63, List.forall_mem_cons.mpr ⟨z_code64, List.forall_mem_cons.mpr ⟨z_code65, List.forall_mem_cons.mpr ⟨z_code66, List.forall_mem_cons.mpr ⟨z_code67, List.forall_mem_cons.mpr ⟨z_code68, List.forall_mem_cons.mpr ⟨z_code69, List.forall_mem_cons.mpr ⟨z_code70, List.forall_mem_cons.mpr ⟨z_code71, List.forall_mem_cons.mpr ⟨z_code72, List.forall_mem_cons.mpr ⟨z_code73, List.forall_mem_cons.mpr ⟨z_code74, List.forall_mem_cons.mpr ⟨z_code75, List.forall_mem_cons.mpr ⟨z_code76, List.forall_mem_cons.mpr ⟨z_code77, List.forall_mem_cons.mpr ⟨z_code78, List.forall_mem_cons.mpr ⟨z_code79, List.forall_mem_cons.mpr ⟨z_code80, List.forall_mem_cons.mpr ⟨z_code81, List.forall_mem_cons.mpr ⟨z_code82, List.forall_mem_cons.mpr ⟨z_code83, List.forall_mem_cons.mpr ⟨z_code84, List.forall_mem_cons.mpr ⟨z_code85, fun _ h => absurd h List.not_mem_nil⟩⟩⟩⟩⟩⟩⟩⟩⟩⟩⟩⟩⟩⟩⟩⟩⟩⟩⟩⟩⟩⟩⟩⟩⟩⟩⟩⟩⟩⟩⟩⟩⟩⟩⟩⟩⟩⟩⟩⟩⟩⟩⟩
set_option maxRecDepth 16384 in
theorem z_others_2_0 : (tables_1_2.take 40).all (fun c => su_isCode c || c.before start1.args0 z_about) = true := by decide +kernel
set_option maxRecDepth 16384 in
theorem z_others_2_1 : ((tables_1_2.drop 40).take 40).all (fun c => su_isCode c || c.before start1.args0 z_about) = true := by decide +kernel
set_option maxRecDepth 16384 in
theorem z_others_2_2 : (((tables_1_2.drop 40).drop 40).take 40).all (fun c => su_isCode c || c.before start1.args0 z_about) = true := by decide +kernel
set_option maxRecDepth 16384 in
theorem z_others_2_3 : ((((tables_1_2.drop 40).drop 40).drop 40).take 40).all (fun c => su_isCode c || c.before start1.args0 z_about) = true := by decide +kernel
set_option maxRecDepth 16384 in
theorem z_others_2_4 : (((((tables_1_2.drop 40).drop 40).drop 40).drop 40).take 40).all (fun c => su_isCode c || c.before start1.args0 z_about) = true := by decide +kernel
set_option maxRecDepth 16384 in
theorem z_others_2_5 : (((((tables_1_2.drop 40).drop 40).drop 40).drop 40).drop 40).all (fun c => su_isCode c || c.before start1.args0 z_about) = true := by decide +kernel
theorem z_others_hold_2 : tables_1_2.all (fun c => su_isCode c || c.before start1.args0 z_about) = true := start1.su_all_split _ 40 tables_1_2 z_others_2_0 (start1.su_all_split _ 40 (tables_1_2.drop 40) z_others_2_1 (start1.su_all_split _ 40 ((tables_1_2.drop 40).drop 40) z_others_2_2 (start1.su_all_split _ 40 (((tables_1_2.drop 40).drop 40).drop 40) z_others_2_3 (start1.su_all_split _ 40 ((((tables_1_2.drop 40).drop 40).drop 40).drop 40) z_others_2_4 z_others_2_5))))
theorem z_words_2 : ∀ c ∈ tables_1_2, c.before start1.args0 z_about = true := fun c h => su_words z_others_hold_2 z_codes_hold_2 c h
theorem z_words : ∀ c ∈ (Cond.code x code maxLocals ret :: tables_1), c.before start1.args0 z_about = true := by
  intro c hc
  rcases List.mem_cons.mp hc with h | h
  · rw [h]; exact z_word_code
  · have h1 : c ∈ tables_1_1 ++ tables_1_2 := h
    rcases List.mem_append.mp h1 with h2 | h1
    · exact z_words_1 c h2
    exact z_words_2 c h1
set_option maxRecDepth 16384 in
theorem z_atStart : AtStart classFile x code maxLocals ret World_1 tables_1 room_1 Calls_1 rest_1 Pre_1 launch0 start1.p0 start1.e0 z_about ⟨0, 0⟩ start1.args0 Lib.HandBits.below0 :=
  ⟨lists_1, trivial, launch0.admits_env _ _ _, launch0.least_env, fairChoices_fair.cas, fairChoices_fair.clock, rfl, by decide +kernel, by decide +kernel,
    (Spec.applies_iff rfl).mpr ⟨rfl, rfl, rfl, by decide +kernel, by decide +kernel, by decide +kernel, launch0.hasRoom_least _ room_1 (by decide +kernel) (by decide +kernel) (by decide +kernel) (by decide +kernel) (by decide +kernel) (by decide +kernel), atoms_intro z_words⟩,
    trivial, (show rest_1_c.before start1.args0 z_about = true by decide +kernel), (show (Cond.and given_1 narrow_1).before start1.args0 z_about = true by decide +kernel)⟩
end
section
def z_f (n : Nat) : State := stepsAlone start1.p0.tables start1.e0 n z_about
/-- the law's invocation, above the frame that it was made from, hasn't ended -/
def z_in (s : State) : Bool := match s.frames with
  | [] => false
  | [_] => false
  | .throwing _ :: _ :: [] => false
  | _ => true
set_option maxRecDepth 16384 in
theorem z_before : (List.range 11).all (fun n => z_in (z_f n)) = true := by decide +kernel
set_option maxRecDepth 16384 in
theorem z_stop : ¬ (z_f 11).status = .running := by decide +kernel
theorem z_out {s : State} {o : Outcome} (h : z_in s = true) : ¬ Ended s Lib.HandBits.below0 o := by
  intro he
  cases o with
  | threw a =>
    have h1 : s.frames = .throwing a :: Lib.HandBits.below0 := he
    unfold z_in at h
    rw [h1] at h
    cases h
  | returned v =>
    obtain ⟨f, h1⟩ : ∃ f : Frame, s.frames = [f] := ⟨_, he⟩
    unfold z_in at h
    rw [h1] at h
    cases h
theorem z_stay {tb : Tables} {e : Env} {s : State} (h : ¬ s.status = .running) : ∀ n : Nat, stepsAlone tb e n s = s
  | 0 => rfl
  | n + 1 => by
    unfold stepsAlone
    split
    · next h1 _ _ => exact absurd h1 h
    · rfl
theorem z_late {n : Nat} (h : 11 ≤ n) : z_f n = z_f 11 := by
  obtain ⟨j, rfl⟩ := Nat.exists_eq_add_of_le h
  unfold z_f
  rw [stepsAlone_add]
  exact z_stay z_stop j
/-- THE OWED STATEMENT'S FIRST HALF IS FALSE -/
theorem z_false : ¬ Claimed_1_1 := by
  intro h
  obtain ⟨hL, hW, ha, -, hc, hk, hf, haf, hhf, happ, hca, hre, hpr⟩ := z_atStart
  obtain ⟨n, o, hw, hs, he, -⟩ := h launch0 rfl hL hW start1.p0 start1.e0 ha hc hk z_about ⟨0, 0⟩ start1.args0 Lib.HandBits.below0 hf haf hhf happ ⟨hca, hre, hpr⟩
  rcases Nat.lt_or_ge n 11 with h1 | h1
  · exact z_out (List.all_eq_true.mp z_before n (List.mem_range.mpr h1)) he
  · have e : (z_f n).status = .running := hs
    rw [z_late h1] at e
    exact z_stop e
theorem z_not_owed : ¬ (Claimed_1_1 ∧ Claimed_1_2) := fun h => z_false h.1
/-- beside it: from the printed witness's own start, where FIRST_SETTINGS is a row of the class called [I, the machine goes on past the clone -/
def z_g (n : Nat) : State := stepsAlone start1.p0.tables start1.e0 n start1.about
set_option maxRecDepth 16384 in
theorem z_goes : (z_g 60).status = .running := by decide +kernel
end
section
theorem mx_end : True := trivial
end
