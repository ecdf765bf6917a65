/-! the witness's start, with a script of a hundred zeros: what the tables say doesn't see the script -/
def rz_cells : Array Value := (List.replicate 100 (Value.int 0)).toArray
def rz_about : State := start1.aboutOf rz_cells
theorem rz_vm : start1.about.vm = rz_about.vm := rfl
theorem rz_warm : start1.about.WarmedH rz_about.vm := State.WarmedH.refl start1.about
theorem rz_all {L : List Cond} (h : L.all (fun c => vx_ot c || c.before start1.args0 rz_about) = true) (h1 : ∀ c ∈ L, c.before start1.args0 start1.about = true) : ∀ c ∈ L, c.before start1.args0 rz_about = true := by
  intro c hc
  have h2 := List.all_eq_true.mp h c hc
  cases hq : vx_ot c with
  | true => exact vx_ot_at rz_warm rz_vm hq (h1 c hc)
  | false => rw [hq] at h2; exact h2
set_option maxRecDepth 16384 in
theorem rz_o0 : [Cond.code x code maxLocals ret].all (fun c => vx_ot c || c.before start1.args0 rz_about) = true := by decide +kernel
set_option maxRecDepth 16384 in
theorem rz_o1 : tables_1_1.all (fun c => vx_ot c || c.before start1.args0 rz_about) = true := by decide +kernel
set_option maxRecDepth 16384 in
theorem rz_o2 : tables_1_2.all (fun c => vx_ot c || c.before start1.args0 rz_about) = true := by decide +kernel
set_option maxRecDepth 16384 in
theorem rz_o3 : tables_1_3.all (fun c => vx_ot c || c.before start1.args0 rz_about) = true := by decide +kernel
theorem rz_words : ∀ c ∈ (Cond.code x code maxLocals ret :: tables_1), c.before start1.args0 rz_about = true := by
  intro c hc
  rcases List.mem_cons.mp hc with h | h
  · exact rz_all rz_o0 (fun w hw => start1.words w (by rcases List.mem_singleton.mp hw with rfl; exact List.mem_cons_self)) c (by rw [h]; exact List.mem_singleton.mpr rfl)
  · have h : c ∈ tables_1_1 ++ (tables_1_2 ++ tables_1_3) := h
    have k1 : ∀ w, w ∈ tables_1_1 → w ∈ (Cond.code x code maxLocals ret :: tables_1) := fun w hw => List.mem_cons_of_mem _ (show w ∈ tables_1_1 ++ (tables_1_2 ++ tables_1_3) from List.mem_append_left _ hw)
    have k2 : ∀ w, w ∈ tables_1_2 → w ∈ (Cond.code x code maxLocals ret :: tables_1) := fun w hw => List.mem_cons_of_mem _ (show w ∈ tables_1_1 ++ (tables_1_2 ++ tables_1_3) from List.mem_append_right _ (List.mem_append_left _ hw))
    have k3 : ∀ w, w ∈ tables_1_3 → w ∈ (Cond.code x code maxLocals ret :: tables_1) := fun w hw => List.mem_cons_of_mem _ (show w ∈ tables_1_1 ++ (tables_1_2 ++ tables_1_3) from List.mem_append_right _ (List.mem_append_right _ hw))
    rcases List.mem_append.mp h with h | h
    · exact rz_all rz_o1 (fun w hw => start1.words w (k1 w hw)) c h
    · rcases List.mem_append.mp h with h | h
      · exact rz_all rz_o2 (fun w hw => start1.words w (k2 w hw)) c h
      · exact rz_all rz_o3 (fun w hw => start1.words w (k3 w hw)) c h
set_option maxRecDepth 16384 in
theorem rz_appliesB : (headSpec (Cond.code x code maxLocals ret :: tables_1) room_B).applies x start1.e0.platform rz_about = true :=
  (Spec.applies_iff rfl).mpr ⟨rfl, rfl, rfl, by decide +kernel, by decide +kernel, by decide +kernel, launch0.hasRoom_least _ room_B (by decide +kernel) (by decide +kernel) (by decide +kernel) (by decide +kernel) (by decide +kernel) (by decide +kernel), atoms_intro rz_words⟩
set_option maxRecDepth 16384 in
theorem rz_applies1 : (headSpec (Cond.code x code maxLocals ret :: tables_1) room_1).applies x start1.e0.platform rz_about = true :=
  (Spec.applies_iff rfl).mpr ⟨rfl, rfl, rfl, by decide +kernel, by decide +kernel, by decide +kernel, launch0.hasRoom_least _ room_1 (by decide +kernel) (by decide +kernel) (by decide +kernel) (by decide +kernel) (by decide +kernel) (by decide +kernel), atoms_intro rz_words⟩
set_option maxRecDepth 16384 in
theorem rz_at : AtStart classFile x code maxLocals ret World_1 tables_1 room_1 Calls_1 rest_1 Pre_1 launch0 start1.p0 start1.e0 rz_about ⟨0, 0⟩ start1.args0 Lib.HandBits.below0 :=
  ⟨lists_1, trivial, launch0.admits_env _ _ _, launch0.least_env, fairChoices_fair.cas, fairChoices_fair.clock, rfl, by decide +kernel, by decide +kernel, rz_applies1,
    trivial, (show rest_1_c.before start1.args0 rz_about = true by decide +kernel), (show (Cond.and given_1 narrow_1).before start1.args0 rz_about = true by decide +kernel)⟩
