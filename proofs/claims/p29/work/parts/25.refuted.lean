set_option maxHeartbeats 4000000 in
theorem rz_walk (l : Launch) (hflags : l.flags = flags0) (b : Addr) (xs : List Int32) : MetFree l x (headSpec (Jvm.Cond.code x code maxLocals ret :: tables_1) room_B) (rz_P b xs) (fun _ _ _ _ _ => True) rz_Q := by
  refine MetFree.of_bodyS (code := code) (maxLocals := maxLocals) (ret := ret) (by decide) ?_ ?_
  · intro args s m h hn
    obtain ⟨meth, c, h1, h2, h3, h4, h5, h6, -, -⟩ := Cond.code_spec hn (atoms_spec (ws := Jvm.Cond.code x code maxLocals ret :: tables_1) h _ List.mem_cons_self)
    exact ⟨meth, c, h1, h2, h3, h4, h5, h6⟩
  · intro p e s m args below meth c s₁ B hml0 hP _
    obtain ⟨rfl, hx, hbd, hgv⟩ := hP
    obtain ⟨scr, harrAt, hlist, hof, hsmall⟩ := hx
    obtain ⟨hcb, hkn, -, -⟩ := State.arrayAt?_spec harrAt
    have hown : s.vm.findClass R_lawB = some m.cls := findClass_of_methodNamed B.named
    have hts0 : ∀ c ∈ (Jvm.Cond.code x code maxLocals ret :: tables_1), c.before #[Value.ref b] s = true := atoms_spec (ws := Jvm.Cond.code x code maxLocals ret :: tables_1) B.pre
    have hts : ∀ w ∈ lw_tbl, w.before #[Value.ref b] s = true := k2_hts_sels lw_privs (fun w hw => hts0 w (List.mem_cons_of_mem _ hw)) lw_privs_ok
    have hml : c.maxLocals = 19 := B.maxLocals_eq (hts0 _ List.mem_cons_self)
    have X₀ : Stand p l e room_B s m #[Value.ref b] below meth c s₁ [] 0 0 := Stand.of_body B
    have hh0 : s₁.heap = s.heap := by rw [B.state]; rfl
    have hsz : scr.slots.size = xs.length := by rw [← Array.length_toList, hlist, List.length_map]
    have hval : ∀ j : Nat, j < xs.length → scr.slots[j]? = some (.int (xs.getD j 0)) := fun j hj => by
      rw [← Array.getElem?_toList, hlist]
      simp [hj]
    have hbl : b < s.heap.size := (Array.getElem?_eq_some_iff.mp hcb).1
    have hX : va_X b 100 (fun _ => nI 0) s s.heap := ⟨scr, hcb, hof, hkn, by rw [hsz, hbd, List.length_replicate], fun j hj => by
      rw [hval j (by rw [hbd, List.length_replicate]; exact hj)]
      have e9 : (List.replicate 100 (0 : Int32)).getD j 0 = 0 := by rw [List.getD_eq_getElem?_getD, List.getElem?_replicate]; split <;> rfl
      rw [hbd, e9]; rfl⟩
    have K : W p l e room_B s m #[Value.ref b] below meth c s₁.heap [] 0 0 (rz_Z below #[Value.ref b] s) (entryFrame m ([Value.ref b] : List Value).toArray 19) := by
      rw [hh0]
      exact rz_start l hflags ⟨B.exec, B.bytes, B.returns, hml, hown, hts, hX, hbl, B.notSynchronized, hgv⟩
    obtain ⟨t, a1, o, b1, b2, b3⟩ := K s₁ rfl X₀
    exact ⟨t, o, a1, b1, b2, b3⟩
theorem rz_ints : rz_about.IntsAt 0 (List.replicate 100 0) := by
  refine ⟨{ cls := 15, slots := rz_cells, vm := .none }, by rfl, by decide, ⟨(fun k h => by cases h), _, rfl, _, rfl⟩, by decide⟩
theorem rz_pre : rz_P 0 (List.replicate 100 0) start1.args0 rz_about := ⟨rfl, rz_ints, rfl, by decide +kernel⟩
/-- from that start the law answers true, and 196 cells or more are new then -/
theorem rz_run : ∃ (n : Nat) (o : Outcome), (∀ k, k < n → Within (stepsAlone start1.p0.tables start1.e0 k rz_about) Lib.HandBits.below0) ∧ (stepsAlone start1.p0.tables start1.e0 n rz_about).status = Status.running ∧ Ended (stepsAlone start1.p0.tables start1.e0 n rz_about) Lib.HandBits.below0 o ∧ o = .returned (some (.int 1)) ∧ rz_about.heap.size + 196 ≤ (stepsAlone start1.p0.tables start1.e0 n rz_about).heap.size := by
  obtain ⟨n, o, h1, h2, h3, h4, -, hz⟩ := rz_walk launch0 rfl 0 (List.replicate 100 0) start1.p0 start1.e0 (launch0.admits_env _ _ _) fairChoices_fair.cas fairChoices_fair.clock rz_about ⟨0, 0⟩ start1.args0 Lib.HandBits.below0 rfl ((Spec.applies_iff_loose rfl).mp rz_appliesB).1 rz_pre trivial
  exact ⟨n, o, h1, h2, h3, h4, hz⟩
/-- THE STATEMENT IS FALSE: from a start that it allows, with the script of a hundred zeros, the law answers true, and its end isn't within the claimed room: 196 exceptions lie in the heap, and 151 new cells are claimed at most -/
theorem rz_refuted_1 : RefutedClaimed_1_1 := by
  obtain ⟨n, o, h1, h2, h3, -, hz⟩ := rz_run
  refine ⟨launch0, start1.p0, start1.e0, rz_about, ⟨0, 0⟩, start1.args0, Lib.HandBits.below0, rfl, rz_at, n, o, h1, h2, h3, fun h => ?_⟩
  have h9 : (stepsAlone start1.p0.tables start1.e0 n rz_about).heap.size ≤ rz_about.heap.size + 151 := h.2.2.2.2.2.1
  omega
theorem rz_refuted_2 : RefutedClaimed_1_2 := by
  obtain ⟨n, o, h1, h2, h3, -, hz⟩ := rz_run
  refine ⟨launch0, start1.p0, start1.e0, rz_about, ⟨0, 0⟩, start1.args0, Lib.HandBits.below0, rfl, rz_at, n, o, h1, h2, h3, fun h => ?_⟩
  have h9 : (stepsAlone start1.p0.tables start1.e0 n rz_about).heap.size ≤ rz_about.heap.size + 151 := h.2.2.2.2.2.1
  omega
/-- so the claim can't hold -/
theorem rz_ew {s : State} {below : List Frame} {o : Outcome} (h : Ended s below o) (hw : Within s below) : False := by
  obtain ⟨above, h1, h2, h3⟩ := hw
  cases o with
  | threw a =>
    have h : s.frames = .throwing a :: below := h
    rw [h1] at h
    have h9 : above = [.throwing a] := List.append_cancel_right (h.trans (show Frame.throwing a :: below = [Frame.throwing a] ++ below from rfl))
    exact h3 a h9
  | returned v =>
    have hl : s.frames.length = below.length := by
      unfold Ended at h
      cases below with
      | nil => have h : v = none ∧ s.frames = [] := h; rw [h.2]
      | cons f r =>
        cases f with
        | java g => obtain ⟨c, i, len, -, -, h⟩ := h; rw [h]; rfl
        | native g => have h : s.frames = _ := h; rw [h]; rfl
        | proc g => have h : s.frames = _ := h; rw [h]; rfl
        | _ => have h : v = none ∧ s.frames = _ := h; rw [h.2]
    rw [h1, List.length_append] at hl
    have h9 : above.length = 0 := by omega
    exact h2 (List.length_eq_zero_iff.mp h9)
/-- a claim of that room, whatever else it says of the end, doesn't hold -/
theorem rz_not {Post : Tables → Env → Array Value → State → Outcome → State → Prop} (hP : ∀ tb e a s o t, Post tb e a s o t → t.heap.size ≤ s.heap.size + 151) : ¬ ArmFor flags0 classFile x code maxLocals ret World_1 tables_1 room_1 Calls_1 rest_1 Pre_1 Post := by
  intro hC
  obtain ⟨n, o, h1, h2, h3, -, hz⟩ := rz_run
  obtain ⟨hL, hW, a1, a2, a3, a4, a5, a6, a7, a8, a9, a10, a11⟩ := rz_at
  obtain ⟨k, o', g1, g2, g3, hp⟩ := hC launch0 rfl hL hW start1.p0 start1.e0 a1 a3 a4 rz_about ⟨0, 0⟩ start1.args0 Lib.HandBits.below0 a5 a6 a7 a8 ⟨a9, a10, a11⟩
  have e9 : n = k := by
    rcases Nat.lt_trichotomy n k with h | h | h
    · exact (rz_ew h3 (g1 n h)).elim
    · exact h
    · exact (rz_ew g3 (h1 k h)).elim
  subst e9
  have h9 := hP _ _ _ _ _ _ hp
  omega
theorem rz_no_1 : ¬ Claimed_1_1 := rz_not (fun tb e a s o t h => h.2.2.2.2.2.1)
theorem rz_no_2 : ¬ Claimed_1_2 := rz_not (fun tb e a s o t h => h.2.2.2.2.2.1)
theorem rz_neither : ¬ (Claimed_1_1 ∧ Claimed_1_2) := fun h => rz_no_1 h.1
