def rz_isC : Cond → Bool
  | .code .. => true
  | .codeWith .. => true
  | _ => false
theorem rz_mem {ws big : List Cond} (h1 : ∀ w ∈ ws.filter rz_isC, w ∈ big) (h2 : (ws.filter (fun w => !rz_isC w)).all (fun w => decide (w ∈ big)) = true) : ∀ w ∈ ws, w ∈ big := by
  intro w hw
  cases hq : rz_isC w with
  | true => exact h1 w (List.mem_filter.mpr ⟨hw, hq⟩)
  | false => exact of_decide_eq_true (List.all_eq_true.mp h2 w (List.mem_filter.mpr ⟨hw, by rw [hq]; rfl⟩))
set_option maxRecDepth 20000 in
theorem wsL_law0_r1_in : ∀ w ∈ wsL_law0_r1, w ∈ lw_tbl := rz_mem (show ∀ w ∈ wsL_law0_r1.filter rz_isC, w ∈ lw_tbl from (List.forall_mem_cons.mpr ⟨show Cond.code yX3_init cX3_init 2 none ∈ lw_tbl from List.mem_append_right _ (List.mem_append_left _ (List.mem_of_getElem? (i := 16) rfl)), (List.forall_mem_cons.mpr ⟨show Cond.code objectInit ⟨#[0xb1]⟩ 1 none ∈ lw_tbl from List.mem_append_right _ (List.mem_append_left _ (List.mem_of_getElem? (i := 19) rfl)), (fun _ h => absurd h List.not_mem_nil)⟩)⟩)) (by decide +kernel)
set_option maxRecDepth 20000 in
theorem wsL_law0_r2_in : ∀ w ∈ wsL_law0_r2, w ∈ lw_tbl := rz_mem (show ∀ w ∈ wsL_law0_r2.filter rz_isC, w ∈ lw_tbl from (List.forall_mem_cons.mpr ⟨show Cond.code yX0_init cX0_init 2 none ∈ lw_tbl from List.mem_append_right _ (List.mem_append_left _ (List.mem_of_getElem? (i := 24) rfl)), (List.forall_mem_cons.mpr ⟨show Cond.code yX1_init cX1_init 1 none ∈ lw_tbl from List.mem_append_right _ (List.mem_append_left _ (List.mem_of_getElem? (i := 57) rfl)), (fun _ h => absurd h List.not_mem_nil)⟩)⟩)) (by decide +kernel)
