set_option maxRecDepth 16384 in
theorem rz1.others_2_4 : (((((tables_1_2.drop 40).drop 40).drop 40).drop 40).take 40).all (fun c => rs_isCode c || c.before args0 about) = true := by decide +kernel
set_option maxRecDepth 16384 in
theorem rz1.others_2_5 : (((((tables_1_2.drop 40).drop 40).drop 40).drop 40).drop 40).all (fun c => rs_isCode c || c.before args0 about) = true := by decide +kernel
set_option maxRecDepth 16384 in
theorem rz1.others_hold_2 : tables_1_2.all (fun c => rs_isCode c || c.before args0 about) = true := rs_all_split _ 40 tables_1_2 others_2_0 (rs_all_split _ 40 (tables_1_2.drop 40) others_2_1 (rs_all_split _ 40 ((tables_1_2.drop 40).drop 40) others_2_2 (rs_all_split _ 40 (((tables_1_2.drop 40).drop 40).drop 40) others_2_3 (rs_all_split _ 40 ((((tables_1_2.drop 40).drop 40).drop 40).drop 40) others_2_4 others_2_5))))
set_option maxRecDepth 16384 in
theorem rz1.words_2 : ∀ c ∈ tables_1_2, c.before args0 about = true := fun c h => rs_words others_hold_2 codes_hold_2 c h
