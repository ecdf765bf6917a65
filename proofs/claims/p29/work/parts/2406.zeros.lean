set_option maxRecDepth 16384 in
theorem rz1.others_1_4 : (((((tables_1_1.drop 40).drop 40).drop 40).drop 40).take 40).all (fun c => rs_isCode c || c.before args0 about) = true := by decide +kernel
set_option maxRecDepth 16384 in
theorem rz1.others_1_5 : (((((tables_1_1.drop 40).drop 40).drop 40).drop 40).drop 40).all (fun c => rs_isCode c || c.before args0 about) = true := by decide +kernel
set_option maxRecDepth 16384 in
theorem rz1.others_hold_1 : tables_1_1.all (fun c => rs_isCode c || c.before args0 about) = true := rs_all_split _ 40 tables_1_1 others_1_0 (rs_all_split _ 40 (tables_1_1.drop 40) others_1_1 (rs_all_split _ 40 ((tables_1_1.drop 40).drop 40) others_1_2 (rs_all_split _ 40 (((tables_1_1.drop 40).drop 40).drop 40) others_1_3 (rs_all_split _ 40 ((((tables_1_1.drop 40).drop 40).drop 40).drop 40) others_1_4 others_1_5))))
set_option maxRecDepth 16384 in
theorem rz1.words_1 : ∀ c ∈ tables_1_1, c.before args0 about = true := fun c h => rs_words others_hold_1 codes_hold_1 c h
