theorem z_codes_hold_1 : ∀ c ∈ tables_1_1.filter su_isCode, c.before start1.args0 z_about = true := by
  rw [start1.codes_are_1]
  exact List.forall_mem_cons.mpr ⟨z_code0, List.forall_mem_cons.mpr ⟨z_code1, List.forall_mem_cons.mpr ⟨z_code2, List.forall_mem_cons.mpr ⟨z_code3, List.forall_mem_cons.mpr ⟨z_code4, List.forall_mem_cons.mpr ⟨z_code5, List.forall_mem_cons.mpr ⟨z_code6, List.forall_mem_cons.mpr ⟨z_code7, List.forall_mem_cons.mpr ⟨z_code8, List.forall_mem_cons.mpr ⟨z_code9, List.forall_mem_cons.mpr ⟨z_code10, List.forall_mem_cons.mpr ⟨z_code11, List.forall_mem_cons.mpr ⟨z_code12, List.forall_mem_cons.mpr ⟨z_code13, List.forall_mem_cons.mpr ⟨z_code14, List.forall_mem_cons.mpr ⟨z_code15, List.forall_mem_cons.mpr ⟨z_code16, List.forall_mem_cons.mpr ⟨z_code17, List.forall_mem_cons.mpr ⟨z_code18, List.forall_mem_cons.mpr ⟨z_code19, List.forall_mem_cons.mpr ⟨z_code20, List.forall_mem_cons.mpr ⟨z_code21, List.forall_mem_cons.mpr ⟨z_code22, List.forall_mem_cons.mpr ⟨z_code23, List.forall_mem_cons.mpr ⟨z_code24, List.forall_mem_cons.mpr ⟨z_code25, List.forall_mem_cons.mpr ⟨z_code26, List.forall_mem_cons.mpr ⟨z_code27, List.forall_mem_cons.mpr ⟨z_code28, List.forall_mem_cons.mpr ⟨z_code29, List.forall_mem_cons.mpr ⟨z_code30, List.forall_mem_cons.mpr ⟨z_code31, List.forall_mem_cons.mpr ⟨z_code32, List.forall_mem_cons.mpr ⟨z_code33, List.forall_mem_cons.mpr ⟨z_code34, List.forall_mem_cons.mpr ⟨z_code35, List.forall_mem_cons.mpr ⟨z_code36, List.forall_mem_cons.mpr ⟨z_code37, List.forall_mem_cons.mpr ⟨z_code38, List.forall_mem_cons.mpr ⟨z_code39, List.forall_mem_cons.mpr ⟨z_code40, List.forall_mem_cons.mpr ⟨z_code41, List.forall_mem_cons.mpr ⟨z_code42, fun _ h => absurd h List.not_mem_nil⟩⟩⟩⟩⟩⟩⟩⟩⟩⟩⟩⟩⟩⟩⟩⟩⟩⟩⟩⟩⟩⟩⟩⟩⟩⟩⟩⟩⟩⟩⟩⟩⟩⟩⟩⟩⟩⟩⟩⟩⟩⟩⟩
set_option maxRecDepth 16384 in
theorem z_others_1_0 : (tables_1_1.take 40).all (fun c => su_isCode c || c.before start1.args0 z_about) = true := by decide +kernel
set_option maxRecDepth 16384 in
theorem z_others_1_1 : ((tables_1_1.drop 40).take 40).all (fun c => su_isCode c || c.before start1.args0 z_about) = true := by decide +kernel
set_option maxRecDepth 16384 in
theorem z_others_1_2 : (((tables_1_1.drop 40).drop 40).take 40).all (fun c => su_isCode c || c.before start1.args0 z_about) = true := by decide +kernel
set_option maxRecDepth 16384 in
theorem z_others_1_3 : ((((tables_1_1.drop 40).drop 40).drop 40).take 40).all (fun c => su_isCode c || c.before start1.args0 z_about) = true := by decide +kernel
set_option maxRecDepth 16384 in
theorem z_others_1_4 : (((((tables_1_1.drop 40).drop 40).drop 40).drop 40).take 40).all (fun c => su_isCode c || c.before start1.args0 z_about) = true := by decide +kernel
set_option maxRecDepth 16384 in
theorem z_others_1_5 : (((((tables_1_1.drop 40).drop 40).drop 40).drop 40).drop 40).all (fun c => su_isCode c || c.before start1.args0 z_about) = true := by decide +kernel
theorem z_others_hold_1 : tables_1_1.all (fun c => su_isCode c || c.before start1.args0 z_about) = true := start1.su_all_split _ 40 tables_1_1 z_others_1_0 (start1.su_all_split _ 40 (tables_1_1.drop 40) z_others_1_1 (start1.su_all_split _ 40 ((tables_1_1.drop 40).drop 40) z_others_1_2 (start1.su_all_split _ 40 (((tables_1_1.drop 40).drop 40).drop 40) z_others_1_3 (start1.su_all_split _ 40 ((((tables_1_1.drop 40).drop 40).drop 40).drop 40) z_others_1_4 z_others_1_5))))
theorem z_words_1 : ∀ c ∈ tables_1_1, c.before start1.args0 z_about = true := fun c h => su_words z_others_hold_1 z_codes_hold_1 c h
theorem z_codes_hold_2 : ∀ c ∈ tables_1_2.filter su_isCode, c.before start1.args0 z_about = true := by
  rw [start1.codes_are_2]
  exact List.forall_mem_cons.mpr ⟨z_code43, List.forall_mem_cons.mpr ⟨z_code44, List.forall_mem_cons.mpr ⟨z_code45, List.forall_mem_cons.mpr ⟨z_code46, List.forall_mem_cons.mpr ⟨z_code47, List.forall_mem_cons.mpr ⟨z_code48, List.forall_mem_cons.mpr ⟨z_code49, List.forall_mem_cons.mpr ⟨z_code50, List.forall_mem_cons.mpr ⟨z_code51, List.forall_mem_cons.mpr ⟨z_code52, List.forall_mem_cons.mpr ⟨z_code53, List.forall_mem_cons.mpr ⟨z_code54, List.forall_mem_cons.mpr ⟨z_code55, List.forall_mem_cons.mpr ⟨z_code56, List.forall_mem_cons.mpr ⟨z_code57, List.forall_mem_cons.mpr ⟨z_code58, List.forall_mem_cons.mpr ⟨z_code59, List.forall_mem_cons.mpr ⟨z_code60, List.forall_mem_cons.mpr ⟨z_code61, List.forall_mem_cons.mpr ⟨z_code62, List.forall_mem_cons.mpr ⟨z_code63, List.forall_mem_cons.mpr ⟨z_code64, List.forall_mem_cons.mpr ⟨z_code65, List.forall_mem_cons.mpr ⟨z_code66, List.forall_mem_cons.mpr ⟨z_code67, List.forall_mem_cons.mpr ⟨z_code68, List.forall_mem_cons.mpr ⟨z_code69, List.forall_mem_cons.mpr ⟨z_code70, List.forall_mem_cons.mpr ⟨z_code71, List.forall_mem_cons.mpr ⟨z_code72, List.forall_mem_cons.mpr ⟨z_code73, List.forall_mem_cons.mpr ⟨z_code74, List.forall_mem_cons.mpr ⟨z_code75, List.forall_mem_cons.mpr ⟨z_code76, List.forall_mem_cons.mpr ⟨z_code77, List.forall_mem_cons.mpr ⟨z_code78, List.forall_mem_cons.mpr ⟨z_code79, List.forall_mem_cons.mpr ⟨z_code80, List.forall_mem_cons.mpr ⟨z_code81, List.forall_mem_cons.mpr ⟨z_code82, List.forall_mem_cons.mpr ⟨z_code83, List.forall_mem_cons.mpr ⟨z_code84, List.forall_mem_cons.mpr ⟨z_code85, fun _ h => absurd h List.not_mem_nil⟩⟩⟩⟩⟩⟩⟩⟩⟩⟩⟩⟩⟩⟩⟩⟩⟩⟩⟩⟩⟩⟩⟩⟩⟩⟩⟩⟩⟩⟩⟩⟩⟩⟩⟩⟩⟩⟩⟩⟩⟩⟩⟩
set_option maxRecDepth 16384 in
theorem z_others_2_0 : (tables_1_2.take 40).all (fun c => su_isCode c || c.before start1.args0 z_about) = true := by decide +kernel
set_option maxRecDepth 16384 in
theorem z_others_2_1 : ((tables_1_2.drop 40).take 40).all (fun c => su_isCode c || c.before start1.args0 z_about) = true := by decide +kernel
set_option maxRecDepth 16384 in
theorem z_others_2_2 : (((tables_1_2.drop 40).drop 40).take 40).all (fun c => su_isCode c || c.before start1.args0 z_about) = true := by decide +kernel
set_option maxRecDepth 16384 in
theorem z_others_2_3 : ((((tables_1_2.drop 40).drop 40).drop 40).take 40).all (fun c => su_isCode c || c.before start1.args0 z_about) = true := by decide +kernel
set_option maxRecDepth 16384 in
theorem z_others_2_4 : (((((tables_1_2.drop 40).drop 40).drop 40).drop 40).take 40).all (fun c => su_isCode c || c.before start1.args0 z_about) = true := by decide +kernel
set_option maxRecDepth 16384 in
theorem z_others_2_5 : (((((tables_1_2.drop 40).drop 40).drop 40).drop 40).drop 40).all (fun c => su_isCode c || c.before start1.args0 z_about) = true := by decide +kernel
theorem z_others_hold_2 : tables_1_2.all (fun c => su_isCode c || c.before start1.args0 z_about) = true := start1.su_all_split _ 40 tables_1_2 z_others_2_0 (start1.su_all_split _ 40 (tables_1_2.drop 40) z_others_2_1 (start1.su_all_split _ 40 ((tables_1_2.drop 40).drop 40) z_others_2_2 (start1.su_all_split _ 40 (((tables_1_2.drop 40).drop 40).drop 40) z_others_2_3 (start1.su_all_split _ 40 ((((tables_1_2.drop 40).drop 40).drop 40).drop 40) z_others_2_4 z_others_2_5))))
theorem z_words_2 : ∀ c ∈ tables_1_2, c.before start1.args0 z_about = true := fun c h => su_words z_others_hold_2 z_codes_hold_2 c h
theorem z_words : ∀ c ∈ (Cond.code x code maxLocals ret :: tables_1), c.before start1.args0 z_about = true := by
  intro c hc
  rcases List.mem_cons.mp hc with h | h
  · rw [h]; exact z_word_code
  · have h1 : c ∈ tables_1_1 ++ tables_1_2 := h
    rcases List.mem_append.mp h1 with h2 | h1
    · exact z_words_1 c h2
    exact z_words_2 c h1
set_option maxRecDepth 16384 in
theorem z_atStart : AtStart classFile x code maxLocals ret World_1 tables_1 room_1 Calls_1 rest_1 Pre_1 launch0 start1.p0 start1.e0 z_about ⟨0, 0⟩ start1.args0 Lib.HandBits.below0 :=
  ⟨lists_1, trivial, launch0.admits_env _ _ _, launch0.least_env, fairChoices_fair.cas, fairChoices_fair.clock, rfl, by decide +kernel, by decide +kernel,
    (Spec.applies_iff rfl).mpr ⟨rfl, rfl, rfl, by decide +kernel, by decide +kernel, by decide +kernel, launch0.hasRoom_least _ room_1 (by decide +kernel) (by decide +kernel) (by decide +kernel) (by decide +kernel) (by decide +kernel) (by decide +kernel), atoms_intro z_words⟩,
    trivial, (show rest_1_c.before start1.args0 z_about = true by decide +kernel), (show (Cond.and given_1 narrow_1).before start1.args0 z_about = true by decide +kernel)⟩
