set_option maxRecDepth 16384 in
theorem rz1.others_2_2 : (((tables_1_2.drop 40).drop 40).take 40).all (fun c => rs_isCode c || c.before args0 about) = true := by decide +kernel
set_option maxRecDepth 16384 in
theorem rz1.others_2_3 : ((((tables_1_2.drop 40).drop 40).drop 40).take 40).all (fun c => rs_isCode c || c.before args0 about) = true := by decide +kernel
