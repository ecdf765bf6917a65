/-! the model's sharing -/
def tL (tk : Nat → Bool) (n : Nat) : List Nat := (List.range n).filter tk
def gW (w : Nat → Nat) (tk la : Nat → Bool) (i : Nat) : Nat := wsum w (fun k => tk k && la k) (List.range i)
def mdl (pf rf : Nat → Nat) (n : Nat) (gp gr ro : Nat → Int32) : Prop := ∀ k, k < n → (gr k = nI (gN gr k) ∧ gN gr k < 5) ∧ (gp (gN gr k) = nI (pf k) ∧ 1 ≤ pf k ∧ pf k ≤ 100) ∧ ro k = nI (rf k) ∧ rf k ≤ 1000000
def mT (tk : Nat → Bool) (n : Nat) (tp : Nat → Int32) : Prop := ∀ k, k < n → tp k = nI (if tk k = true then 1 else 0)
def mF (tk la : Nat → Bool) (n : Nat) (fu : Nat → Int32) : Prop := ∀ k, k < n → fu k = nI (if (tk k && !la k) = true then 1 else 0)
def mS (rf : Nat → Nat) (tk la : Nat → Bool) (n : Nat) (sh : Nat → Int32) : Prop := ∀ k, k < n → tk k = true → la k = false → sh k = nI (rf k)
theorem band2 {a b : Bool} (h : (a && b) = true) : a = true ∧ b = true := by cases a <;> cases b <;> simp_all
theorem tL_mem {tk : Nat → Bool} {n k : Nat} : k ∈ tL tk n ↔ k < n ∧ tk k = true := by unfold tL; rw [List.mem_filter, List.mem_range]
theorem tL_nd (tk : Nat → Bool) (n : Nat) : (tL tk n).Nodup := List.Pairwise.filter _ List.nodup_range
theorem tL_len9 (tk : Nat → Bool) (n : Nat) : (tL tk n).length ≤ n := Nat.le_trans (List.length_filter_le _ _) (by rw [List.length_range]; exact Nat.le_refl _)
theorem tL_b {pf rf : Nat → Nat} {n : Nat} {gp gr ro : Nat → Int32} (hn : n ≤ 24) (h : mdl pf rf n gp gr ro) (tk : Nat → Bool) : bndL pf rf (tL tk n) :=
  ⟨Nat.le_trans (tL_len9 ..) hn, fun k hk => by
    have h1 := (tL_mem.mp hk).1
    exact ⟨by omega, (h k h1).2.1.2.1, (h k h1).2.1.2.2, (h k h1).2.2.2⟩⟩
theorem tL_s (tk : Nat → Bool) (i : Nat) : tL tk (i + 1) = tL tk i ++ (if tk i = true then [i] else []) := by
  unfold tL
  rw [List.range_succ, List.filter_append, List.filter_cons]
  split <;> rfl
theorem gW_all (w : Nat → Nat) (tk la : Nat → Bool) (n : Nat) : wsum w la (tL tk n) = gW w tk la n := wsum_filter w la tk _
theorem gW_0 (w : Nat → Nat) (tk la : Nat → Bool) : gW w tk la 0 = 0 := rfl
theorem gW_y {w : Nat → Nat} {tk la : Nat → Bool} {i : Nat} (h : (tk i && la i) = true) : gW w tk la (i + 1) = gW w tk la i + w i := by
  unfold gW; rw [wsum_range]; simp only [h, if_true]
theorem gW_n {w : Nat → Nat} {tk la : Nat → Bool} {i : Nat} (h : ¬ (tk i && la i) = true) : gW w tk la (i + 1) = gW w tk la i := by
  unfold gW; rw [wsum_range]; simp only [if_neg h, Nat.add_zero]
theorem gW_le (w : Nat → Nat) (tk la : Nat → Bool) {i n : Nat} (h : i ≤ n) : gW w tk la i ≤ gW w tk la n := by
  induction n with
  | zero => rw [show i = 0 by omega]; exact Nat.le_refl _
  | succ n ih =>
    rcases Nat.lt_or_ge i (n + 1) with q | q
    · have h1 := ih (by omega)
      by_cases c : (tk n && la n) = true
      · rw [gW_y c]; omega
      · rw [gW_n c]; exact h1
    · rw [show i = n + 1 by omega]; exact Nat.le_refl _
theorem gW_one (tk la : Nat → Bool) (i : Nat) : gW (fun _ => 1) tk la i ≤ i := Nat.le_trans (wsum_len _ _) (by rw [List.length_range]; exact Nat.le_refl _)
theorem gW_cnt (tk la : Nat → Bool) {i : Nat} : ∀ {n : Nat}, i ≤ n → cntB la i (tL tk n) = gW (fun _ => 1) tk la i := by
  intro n h
  unfold cntB
  rw [gW_all]
  induction n with
  | zero => rw [show i = 0 by omega]; rfl
  | succ n ih =>
    rcases Nat.lt_or_ge n i with q | q
    · have e : i = n + 1 := by omega
      subst e
      refine wsum_congr (fun k hk => ?_) (fun _ _ _ => rfl)
      show (tk k && (la k && decide (k < n + 1))) = (tk k && la k)
      rw [decide_eq_true (List.mem_range.mp hk), Bool.and_true]
    · rw [gW_n (by rw [decide_eq_false (show ¬ n < i by omega)]; simp)]
      exact ih q
theorem mixF_lt {f g : Nat → Int32} {i k : Nat} (h : k < i) : mixF f g i k = f k := if_pos h
theorem mixF_n {f g : Nat → Int32} {i : Nat} (h : g i = f i) : mixF f g i = mixF f g (i + 1) := by
  funext k
  unfold mixF
  by_cases l : k < i
  · rw [if_pos l, if_pos (by omega)]
  · by_cases e : k = i
    · subst e; rw [if_neg l, if_pos (Nat.lt_succ_self _), h]
    · rw [if_neg l, if_neg (by omega)]
theorem il_1 {a b : Bool} (h1 : (if a = true then 1 else 0) ≠ 0) (h2 : (if (a && !b) = true then 1 else 0) = 0) : (1 : Nat) = if (a && b) = true then 1 else 0 := by cases a <;> cases b <;> simp_all
theorem il_0 {a b : Bool} (h2 : (if (a && !b) = true then 1 else 0) ≠ 0) : (0 : Nat) = if (a && b) = true then 1 else 0 := by cases a <;> cases b <;> simp_all
theorem il_2 {a b : Bool} (h2 : (if a = true then 1 else 0) = 0) : (0 : Nat) = if (a && b) = true then 1 else 0 := by cases a <;> cases b <;> simp_all
/-! giving rooms -/
def clF (tk la : Nat → Bool) (sh : Nat → Int32) (k : Nat) : Int32 := if (tk k && la k) = true then (-1) else sh k
def htF (pf rf : Nat → Nat) (tk la : Nat → Bool) (n mm : Nat) (sh : Nat → Int32) (k : Nat) : Int32 := if (tk k && hit pf rf (tL tk n) la mm k) = true then nI (rf k) else clF tk la sh k
def fuF (tk lb : Nat → Bool) (k : Nat) : Int32 := nI (if (tk k && !lb k) = true then 1 else 0)
theorem clF_y {tk la : Nat → Bool} {sh : Nat → Int32} {k : Nat} (h : (tk k && la k) = true) : (-1) = clF tk la sh k := (if_pos h).symm
theorem clF_n {tk la : Nat → Bool} {sh : Nat → Int32} {k : Nat} (h : ¬ (tk k && la k) = true) : sh k = clF tk la sh k := (if_neg h).symm
theorem htF_y {pf rf : Nat → Nat} {tk la : Nat → Bool} {n mm : Nat} {sh : Nat → Int32} {k : Nat} (h : (tk k && hit pf rf (tL tk n) la mm k) = true) : nI (rf k) = htF pf rf tk la n mm sh k := (if_pos h).symm
theorem htF_n {pf rf : Nat → Nat} {tk la : Nat → Bool} {n mm : Nat} {sh : Nat → Int32} {k : Nat} (hk : k < n) (h : ¬ (tk k && hit pf rf (tL tk n) la mm k) = true) : mixF (clF tk la sh) sh n k = htF pf rf tk la n mm sh k := by
  rw [mixF_lt hk]; exact (if_neg h).symm
theorem nI_nm1 {a : Nat} (h : a < 2 ^ 30) : ¬ nI a = (-1) := fun e => zz_nm1 h e
theorem fu_1 {pf rf : Nat → Nat} {tk la : Nat → Bool} {n mm : Nat} {sh : Nat → Int32} {k : Nat} (h1 : tk k = true) (h : ¬ htF pf rf tk la n mm sh k = (-1)) : nI 1 = fuF tk (off pf rf (tL tk n) la mm) k := by
  unfold htF clF at h
  unfold fuF off
  unfold hit at h
  rw [h1] at h ⊢
  cases e : la k with
  | false => rfl
  | true =>
    rw [e] at h
    cases e2 : rch pf rf mm (wsum pf la (tL tk n)) k with
    | true => rfl
    | false => rw [e2] at h; exact absurd rfl h
theorem fu_2 {pf rf : Nat → Nat} {tk la : Nat → Bool} {n mm : Nat} {sh : Nat → Int32} {k : Nat} (h1 : tk k = true) (hr9 : rf k ≤ 1000000) (hs9 : la k = false → sh k = nI (rf k)) (h : htF pf rf tk la n mm sh k = (-1)) : nI 0 = fuF tk (off pf rf (tL tk n) la mm) k := by
  unfold htF clF at h
  unfold fuF off
  unfold hit at h
  rw [h1] at h ⊢
  cases e : la k with
  | false =>
    rw [e] at h
    have h : sh k = (-1) := h
    rw [hs9 e] at h
    exact absurd h (nI_nm1 (by omega))
  | true =>
    rw [e] at h
    cases e2 : rch pf rf mm (wsum pf la (tL tk n)) k with
    | true => rw [e2] at h; have h : nI (rf k) = (-1) := h; exact absurd h (nI_nm1 (by omega))
    | false => rfl
theorem fu_0 {tk lb : Nat → Bool} {k : Nat} (h1 : ¬ tk k = true) : nI 0 = fuF tk lb k := by
  unfold fuF
  cases e : tk k with
  | false => rfl
  | true => exact absurd e h1
theorem gr_fu {tk lb : Nat → Bool} {n i : Nat} {fu : Nat → Int32} (h : n ≤ i) : mF tk lb n (mixF (fuF tk lb) fu i) := fun k hk => mixF_lt (by omega)
theorem gr_sh {pf rf : Nat → Nat} {tk la : Nat → Bool} {n mm : Nat} {sh g : Nat → Int32} (hS9 : mS rf tk la n sh) : mS rf tk (off pf rf (tL tk n) la mm) n (mixF (htF pf rf tk la n mm sh) g n) := by
  intro k hk h1 h2
  rw [mixF_lt hk]
  unfold htF clF hit
  unfold off at h2
  rw [h1]
  cases e : la k with
  | false => exact hS9 k hk h1 e
  | true =>
    rw [e] at h2
    cases e2 : rch pf rf mm (wsum pf la (tL tk n)) k with
    | true => rfl
    | false => rw [e2] at h2; cases h2
/-! giving the rest -/
def flF (pf : Nat → Nat) (tk la : Nat → Bool) (n mm : Nat) (sh : Nat → Int32) (k : Nat) : Int32 := if (tk k && la k) = true then nI (flo pf (tL tk n) la mm k) else sh k
def rsF (pf rf : Nat → Nat) (tk la : Nat → Bool) (n mm : Nat) (sh : Nat → Int32) (k : Nat) : Int32 := if tk k = true then nI (shA pf rf (tL tk n) la mm k) else sh k
theorem flF_y {pf : Nat → Nat} {tk la : Nat → Bool} {n mm : Nat} {sh : Nat → Int32} {k : Nat} (h : (tk k && la k) = true) : nI (flo pf (tL tk n) la mm k) = flF pf tk la n mm sh k := (if_pos h).symm
theorem flF_n {pf : Nat → Nat} {tk la : Nat → Bool} {n mm : Nat} {sh : Nat → Int32} {k : Nat} (h : ¬ (tk k && la k) = true) : sh k = flF pf tk la n mm sh k := (if_neg h).symm
theorem rs_at {F : Nat → Int32} {pf : Nat → Nat} {tk la : Nat → Bool} {n mm : Nat} {sh : Nat → Int32} {i : Nat} (hi : i < n) : mixF F (mixF (flF pf tk la n mm sh) sh n) i i = flF pf tk la n mm sh i := by rw [mixF_at, mixF_lt hi]
theorem rs_at1 {F : Nat → Int32} {pf : Nat → Nat} {tk la : Nat → Bool} {n mm : Nat} {sh : Nat → Int32} {i : Nat} (hi : i < n) (h : (tk i && la i) = true) : mixF F (mixF (flF pf tk la n mm sh) sh n) i i = nI (flo pf (tL tk n) la mm i) := by rw [rs_at hi]; exact if_pos h
theorem rs_1 {pf rf : Nat → Nat} {tk la : Nat → Bool} {n mm : Nat} {sh : Nat → Int32} {i : Nat} (hi : i < n) (h : (tk i && la i) = true) (h2 : 0 < over pf (tL tk n) la mm - gW (fun _ => 1) tk la i) : nI (flo pf (tL tk n) la mm i + 1) = rsF pf rf tk la n mm sh i := by
  unfold rsF
  rw [if_pos (band2 h).1, shA_t (band2 h).2, gW_cnt tk la (Nat.le_of_lt hi), if_pos (by omega)]
theorem rs_0 {pf rf : Nat → Nat} {tk la : Nat → Bool} {n mm : Nat} {sh : Nat → Int32} {i : Nat} (hi : i < n) (h : (tk i && la i) = true) (h2 : over pf (tL tk n) la mm - gW (fun _ => 1) tk la i = 0) : flF pf tk la n mm sh i = rsF pf rf tk la n mm sh i := by
  unfold rsF flF
  rw [if_pos h, if_pos (band2 h).1, shA_t (band2 h).2, gW_cnt tk la (Nat.le_of_lt hi), if_neg (by omega)]; rfl
theorem rs_n {pf rf : Nat → Nat} {tk la : Nat → Bool} {n mm : Nat} {sh : Nat → Int32} {i : Nat} (hi : i < n) (hS9 : mS rf tk la n sh) (h : ¬ (tk i && la i) = true) : flF pf tk la n mm sh i = rsF pf rf tk la n mm sh i := by
  unfold rsF flF
  rw [if_neg h]
  cases e : tk i with
  | false => rfl
  | true =>
    have e2 : la i = false := by
      cases e3 : la i with
      | false => rfl
      | true => rw [e, e3] at h; exact absurd rfl h
    rw [if_pos rfl, shA_f e2]; exact hS9 i hi e e2
theorem rest_y {tk la : Nat → Bool} {n i : Nat} {w : Nat → Nat} {y : Int32} {x : Nat} (hw : ∀ k, k < n → tk k = true → y = nI (x - gW w tk la i)) (h : (tk i && la i) = true) (hl : gW w tk la (i + 1) ≤ x) : ∀ k, k < n → tk k = true → y - nI (w i) = nI (x - gW w tk la (i + 1)) := by
  intro k hk ht
  rw [gW_y h] at hl ⊢
  rw [hw k hk ht, pk_sub (by omega)]
  congr 1; omega
theorem rest_n {tk la : Nat → Bool} {n i : Nat} {w : Nat → Nat} {y : Int32} {x : Nat} (hw : ∀ k, k < n → tk k = true → y = nI (x - gW w tk la i)) (h : ¬ (tk i && la i) = true) : ∀ k, k < n → tk k = true → y = nI (x - gW w tk la (i + 1)) := by
  intro k hk ht
  rw [gW_n h]; exact hw k hk ht
theorem rest_z {tk la : Nat → Bool} {n i : Nat} {y : Int32} {x : Nat} (hw : ∀ k, k < n → tk k = true → y = nI (x - gW (fun _ => 1) tk la i)) (h : (tk i && la i) = true) (h0 : x - gW (fun _ => 1) tk la i = 0) : ∀ k, k < n → tk k = true → y = nI (x - gW (fun _ => 1) tk la (i + 1)) := by
  intro k hk ht
  rw [gW_y h, hw k hk ht]
  congr 1; omega
theorem flo_le9 (pf : Nat → Nat) (tk la : Nat → Bool) (n mm : Nat) {i : Nat} (h : i ≤ n) : gW (flo pf (tL tk n) la mm) tk la i ≤ mm := by
  refine Nat.le_trans (gW_le _ _ _ h) ?_
  rw [← gW_all]; exact floor_le la mm
theorem over_eq (pf : Nat → Nat) (tk la : Nat → Bool) (n mm : Nat) : over pf (tL tk n) la mm = mm - gW (flo pf (tL tk n) la mm) tk la n := by unfold over; rw [gW_all]
/-! the shares -/
theorem mF_0 (tk : Nat → Bool) {n i : Nat} {fu : Nat → Int32} (h : n ≤ i) : mF tk (fun _ => true) n (mixF (fun _ => nI 0) fu i) := by
  intro k hk
  rw [mixF_lt (by omega)]
  show nI 0 = nI (if (tk k && false) = true then 1 else 0)
  rw [Bool.and_false]; rfl
theorem mS_0 (rf : Nat → Nat) (tk : Nat → Bool) (n : Nat) (sh : Nat → Int32) : mS rf tk (fun _ => true) n sh := fun k _ _ h => by cases h
def shI (pf rf : Nat → Nat) (tk : Nat → Bool) (n M : Nat) (la : Nat → Bool) (mm : Nat) (y : Int32) (f : Nat) (fu sh : Nat → Int32) : Prop :=
  mF tk (off pf rf (tL tk n) la mm) n fu ∧ mS rf tk (off pf rf (tL tk n) la mm) n sh ∧ mm ≤ M ∧ (∀ k, k < n → tk k = true → y = nI mm) ∧ wsum (fun _ => 1) la (tL tk n) < f ∧ clo pf rf (tL tk n) f la mm = fin pf rf (tL tk n) M
theorem sh_sub {pf rf : Nat → Nat} {tk : Nat → Bool} {n M : Nat} {la : Nat → Bool} {mm : Nat} {y : Int32} {f : Nat} {fu sh : Nat → Int32} (hB : bndL pf rf (tL tk n)) (h : shI pf rf tk n M la mm y f fu sh) : ∀ k, k < n → tk k = true → y - nI (wsum rf (hit pf rf (tL tk n) la mm) (tL tk n)) = nI (mm - wsum rf (hit pf rf (tL tk n) la mm) (tL tk n)) := by
  intro k hk ht
  rw [h.2.2.2.1 k hk ht, pk_sub (room_le (fun k hk => (hB.2 k hk).2.1) la mm)]
theorem sh_cnt {pf rf : Nat → Nat} {L : List Nat} {la : Nat → Bool} {mm : Nat} (hg : 0 < wsum rf (hit pf rf L la mm) L) : wsum (fun _ => 1) (off pf rf L la mm) L < wsum (fun _ => 1) la L ∧ ¬ wsum (fun _ => 1) (hit pf rf L la mm) L = 0 := by
  have h1 := hitp_le pf rf L la mm (fun _ => 1)
  have h2 : ¬ wsum (fun _ => 1) (hit pf rf L la mm) L = 0 := fun e => by
    have := wsum_none (w := rf) (wsum_zero e); omega
  exact ⟨by omega, h2⟩
theorem sh_step {pf rf : Nat → Nat} {tk : Nat → Bool} {n M : Nat} {la : Nat → Bool} {mm : Nat} {y : Int32} {f : Nat} {fu sh fu3 sh3 : Nat → Int32} (hB : bndL pf rf (tL tk n)) (h : shI pf rf tk n M la mm y f fu sh) (hg : 0 < wsum rf (hit pf rf (tL tk n) la mm) (tL tk n))
    (h1 : mF tk (off pf rf (tL tk n) (off pf rf (tL tk n) la mm) (mm - wsum rf (hit pf rf (tL tk n) la mm) (tL tk n))) n fu3) (h2 : mS rf tk (off pf rf (tL tk n) (off pf rf (tL tk n) la mm) (mm - wsum rf (hit pf rf (tL tk n) la mm) (tL tk n))) n sh3) :
    shI pf rf tk n M (off pf rf (tL tk n) la mm) (mm - wsum rf (hit pf rf (tL tk n) la mm) (tL tk n)) (y - nI (wsum rf (hit pf rf (tL tk n) la mm) (tL tk n))) (f - 1) fu3 sh3 := by
  obtain ⟨q1, q2⟩ := sh_cnt hg
  have h3 := h.2.2.2.2.1
  have h4 := h.2.2.2.2.2
  refine ⟨h1, h2, by have := h.2.2.1; omega, sh_sub hB h, by omega, ?_⟩
  rw [← h4, show f = (f - 1) + 1 by omega]
  conv => rhs; unfold clo
  rw [if_neg q2]; rfl
theorem sh_end {pf rf : Nat → Nat} {tk : Nat → Bool} {n M : Nat} {la : Nat → Bool} {mm : Nat} {y : Int32} {f : Nat} {fu sh : Nat → Int32} (hr1 : ∀ k, k < n → tk k = true → 1 ≤ rf k) (h : shI pf rf tk n M la mm y f fu sh) (hg : wsum rf (hit pf rf (tL tk n) la mm) (tL tk n) = 0) :
    mF tk la n fu ∧ mS rf tk la n sh ∧ fin pf rf (tL tk n) M = (la, mm) := by
  obtain ⟨h1, h2, h3, h4, h5, h6⟩ := h
  have hno : ∀ k, k ∈ tL tk n → hit pf rf (tL tk n) la mm k = false := by
    intro k hk
    cases e : hit pf rf (tL tk n) la mm k with
    | false => rfl
    | true =>
      have := wsum_mem (w := rf) hk e
      have := hr1 k (tL_mem.mp hk).1 (tL_mem.mp hk).2
      omega
  have hoff : ∀ k, k < n → tk k = true → off pf rf (tL tk n) la mm k = la k := by
    intro k hk ht
    have h9 := hno k (tL_mem.mpr ⟨hk, ht⟩)
    unfold hit at h9; unfold off
    cases e : la k with
    | false => rfl
    | true => rw [e, Bool.true_and] at h9; rw [h9]; rfl
  refine ⟨fun k hk => ?_, fun k hk ht ha => h2 k hk ht (by rw [hoff k hk ht]; exact ha), ?_⟩
  · rw [h1 k hk]
    cases e : tk k with
    | false => rfl
    | true => rw [hoff k hk e]
  · rw [← h6, show f = (f - 1) + 1 by omega]
    unfold clo
    rw [if_pos (wsum_none hno)]
/-! the lowest -/
def lwI (sf : Nat → Nat) (tk : Nat → Bool) (i : Nat) (w : Int32) : Prop := (tL tk i = [] ∧ w = (-1)) ∨ ∃ m9 : Nat, w = nI m9 ∧ isMin sf (tL tk i) m9
theorem lw_some {sf : Nat → Nat} {tk : Nat → Bool} {i : Nat} {w : Int32} (h : lwI sf tk i w) (h2 : ¬ w = (-1)) : ∃ m9 : Nat, w = nI m9 ∧ isMin sf (tL tk i) m9 := h.elim (fun q => absurd q.2 h2) id
theorem lw_none {sf : Nat → Nat} {tk : Nat → Bool} {i : Nat} {w : Int32} (hi : i ≤ 24) (h : lwI sf tk i w) (h2 : w = (-1)) : tL tk i = [] := by
  rcases h with h | ⟨m9, e, h⟩
  · exact h.1
  · have := (tL_mem.mp h.1).1
    rw [e] at h2
    exact absurd h2 (nI_nm1 (by omega))
theorem lw_n {sf : Nat → Nat} {tk : Nat → Bool} {i : Nat} {w : Int32} (h : lwI sf tk i w) (h2 : ¬ tk i = true) : lwI sf tk (i + 1) w := by
  unfold lwI; rw [tL_s, if_neg h2, List.append_nil]; exact h
theorem lw_first {sf : Nat → Nat} {tk : Nat → Bool} {i : Nat} {w : Int32} (hi : i ≤ 24) (h : lwI sf tk i w) (h1 : w = (-1)) (h2 : tk i = true) : lwI sf tk (i + 1) (nI i) := by
  right
  rw [tL_s, if_pos h2, lw_none hi h h1]
  exact ⟨i, rfl, List.mem_singleton.mpr rfl, fun k hk => by rw [List.mem_singleton.mp hk]; exact Or.inr ⟨rfl, Nat.le_refl _⟩⟩
theorem lw_keep {sf : Nat → Nat} {tk : Nat → Bool} {i m9 : Nat} {w : Int32} (hw : w = nI m9) (h : isMin sf (tL tk i) m9) (h1 : sf m9 < sf i) : lwI sf tk (i + 1) w := by
  right
  refine ⟨m9, hw, ?_, fun k hk => ?_⟩
  · rw [tL_s]; exact List.mem_append_left _ h.1
  · rw [tL_s] at hk
    rcases List.mem_append.mp hk with hk | hk
    · exact h.2 k hk
    · by_cases c : tk i = true
      · rw [if_pos c] at hk; rw [List.mem_singleton.mp hk]; exact Or.inl h1
      · rw [if_neg c] at hk; cases hk
theorem lw_new {sf : Nat → Nat} {tk : Nat → Bool} {i m9 : Nat} (h : isMin sf (tL tk i) m9) (h1 : sf i ≤ sf m9) (h2 : tk i = true) : lwI sf tk (i + 1) (nI i) := by
  right
  rw [tL_s, if_pos h2]
  refine ⟨i, rfl, List.mem_append_right _ (List.mem_singleton.mpr rfl), fun k hk => ?_⟩
  rcases List.mem_append.mp hk with hk | hk
  · have := h.2 k hk
    have := (tL_mem.mp hk).1
    omega
  · rw [List.mem_singleton.mp hk]; exact Or.inr ⟨rfl, Nat.le_refl _⟩
/-! a whole sharing -/
def tk0 (sm fe ex : Int32) (gc gr st yc ya ys : Nat → Int32) (q k : Nat) : Bool := decide (nI 1 ≤ leftF sm fe ex ya ys q) && takeB gc gr st yc ya ys q k
def tpF (sm fe ex : Int32) (gc gr st yc ya ys : Nat → Int32) (q k : Nat) : Int32 := nI (if tk0 sm fe ex gc gr st yc ya ys q k = true then 1 else 0)
theorem one_le {x : Int32} : nI 1 ≤ x ↔ ¬ x ≤ 0 := by
  rw [Int32.le_iff_toInt_le, Int32.le_iff_toInt_le, show (nI 1).toInt = 1 by decide, show (0 : Int32).toInt = 0 by decide]
  omega
theorem tp_1 {sm fe ex : Int32} {gc gr st yc ya ys : Nat → Int32} {q i : Nat} (h1 : ¬ leftF sm fe ex ya ys q ≤ 0) (h2 : st i = 0) (h3 : ¬ roomF gc gr yc ya ys q i ≤ 0) (h4 : ¬ vdB yc ys (nI i) q = true) : nI 1 = tpF sm fe ex gc gr st yc ya ys q i := by
  unfold tpF tk0 takeB
  rw [decide_eq_true (one_le.mpr h1), decide_eq_true h2, decide_eq_true h3, (Bool.not_eq_true _).mp h4]; rfl
theorem tp_0 {sm fe ex : Int32} {gc gr st yc ya ys : Nat → Int32} {q i : Nat} (h : leftF sm fe ex ya ys q ≤ 0 ∨ ¬ st i = 0 ∨ roomF gc gr yc ya ys q i ≤ 0 ∨ vdB yc ys (nI i) q = true) : nI 0 = tpF sm fe ex gc gr st yc ya ys q i := by
  unfold tpF tk0 takeB
  rcases h with h | h | h | h
  · rw [decide_eq_false (fun z => one_le.mp z h)]; rfl
  · rw [decide_eq_false h, Bool.false_and, Bool.and_false]; rfl
  · rw [decide_eq_false (fun z : ¬ roomF gc gr yc ya ys q i ≤ 0 => z h), Bool.false_and, Bool.and_false, Bool.and_false]; rfl
  · rw [h, Bool.not_true, Bool.and_false, Bool.and_false, Bool.and_false]; rfl
theorem lays_T {sm fe ex : Int32} {gc gr st yc ya ys tp : Nat → Int32} {q n i : Nat} (h : n ≤ i) : mT (tk0 sm fe ex gc gr st yc ya ys q) n (mixF (tpF sm fe ex gc gr st yc ya ys q) tp i) := fun k hk => mixF_lt (by omega)
theorem lays_D {gp gc gr yc ya ys ro : Nat → Int32} {q n i : Nat} (hV : claimV gp gc gr yc ya ys q n) (h : n ≤ i) : mdl (pK gp gr) (rK gc gr yc ya ys q) n gp gr (mixF (roomF gc gr yc ya ys q) ro i) := by
  intro k hk
  have h9 := hV k hk
  exact ⟨h9.1, h9.2.1, by rw [mixF_lt (by omega)]; exact h9.2.2.1, h9.2.2.2⟩
theorem lays_M {sm fe ex : Int32} {gc gr st yc ya ys : Nat → Int32} {q n : Nat} (hL : leftV sm fe ex ya ys q) : ∀ k, k < n → tk0 sm fe ex gc gr st yc ya ys q k = true → leftF sm fe ex ya ys q = nI (mK sm fe ex ya ys q) := by
  intro k _ ht
  exact (hL (of_decide_eq_true (band2 ht).1)).1
theorem mK_le {sm fe ex : Int32} {ya ys : Nat → Int32} {q : Nat} (hL : leftV sm fe ex ya ys q) : mK sm fe ex ya ys q ≤ 10000000 := by
  by_cases c : nI 1 ≤ leftF sm fe ex ya ys q
  · exact (hL c).2.2
  · have h1 : leftF sm fe ex ya ys q ≤ 0 := Classical.byContradiction (fun z => c (one_le.mpr z))
    have h2 := Int32.le_iff_toInt_le.mp h1
    rw [show (0 : Int32).toInt = 0 by decide] at h2
    unfold mK
    have h3 : (leftF sm fe ex ya ys q).toNatClampNeg = (leftF sm fe ex ya ys q).toInt.toNat := rfl
    rw [h3]; omega
theorem tk0_r {sm fe ex : Int32} {gp gc gr st yc ya ys : Nat → Int32} {q n k : Nat} (hV : claimV gp gc gr yc ya ys q n) (hk : k < n) (h : tk0 sm fe ex gc gr st yc ya ys q k = true) : 1 ≤ rK gc gr yc ya ys q k := by
  have h1 := (band2 (band2 h).2).2
  have h2 := of_decide_eq_true (band2 h1).1
  rw [(hV k hk).2.2.1] at h2
  rcases Nat.eq_zero_or_pos (rK gc gr yc ya ys q k) with e | e
  · rw [e] at h2; exact absurd (by decide) h2
  · exact e
def rmv (tk : Nat → Bool) (m9 : Nat) (k : Nat) : Bool := tk k && decide (k ≠ m9)
theorem rmv_L (tk : Nat → Bool) (m9 n : Nat) : tL (rmv tk m9) n = (tL tk n).filter (fun k => decide (k ≠ m9)) := by
  unfold tL rmv
  rw [List.filter_filter]
  congr 1; funext k; exact Bool.and_comm _ _
theorem rmv_T {tk : Nat → Bool} {m9 n : Nat} {tp : Nat → Int32} (h : mT tk n tp) : mT (rmv tk m9) n (upd tp m9 (nI 0)) := by
  intro k hk
  unfold upd rmv
  by_cases e : k = m9
  · rw [if_pos e, decide_eq_false (fun z => z e), Bool.and_false]; rfl
  · rw [if_neg e, decide_eq_true e, Bool.and_true]; exact h k hk
theorem filter_lt9 {L : List Nat} {f : Nat → Bool} {m9 : Nat} (h : m9 ∈ L) (h2 : f m9 = false) : (L.filter f).length < L.length := by
  rcases Nat.lt_or_ge (L.filter f).length L.length with q | q
  · exact q
  · have e := List.filter_eq_self.mp (List.Sublist.eq_of_length_le List.filter_sublist q) m9 h
    rw [h2] at e; cases e
theorem rmv_len {sf : Nat → Nat} {tk : Nat → Bool} {m9 n : Nat} (h : isMin sf (tL tk n) m9) : (tL (rmv tk m9) n).length < (tL tk n).length := by
  rw [rmv_L]; exact filter_lt9 h.1 (decide_eq_false (fun z => z rfl))
def layI (sm fe ex : Int32) (gp gc gr st yc ya ys : Nat → Int32) (n q le : Nat) (tk : Nat → Bool) (f : Nat) (w : Int32) (tp sh : Nat → Int32) : Prop :=
  mT tk n tp ∧ (∀ k, tk k = true → tk0 sm fe ex gc gr st yc ya ys q k = true) ∧ (∀ k, k < n → tk k = true → sh k = nI (shr (pK gp gr) (rK gc gr yc ya ys q) (tL tk n) (mK sm fe ex ya ys q) k)) ∧ lwI (shr (pK gp gr) (rK gc gr yc ya ys q) (tL tk n) (mK sm fe ex ya ys q)) tk n w ∧ (tL tk n).length < f ∧ rnd (pK gp gr) (rK gc gr yc ya ys q) (mK sm fe ex ya ys q) le f (tL tk n) = finL sm fe ex gp gc gr st yc ya ys n q le
theorem tk0_L (sm fe ex : Int32) (gp gc gr st yc ya ys : Nat → Int32) (n q le : Nat) : rnd (pK gp gr) (rK gc gr yc ya ys q) (mK sm fe ex ya ys q) le 25 (tL (tk0 sm fe ex gc gr st yc ya ys q) n) = finL sm fe ex gp gc gr st yc ya ys n q le := by
  unfold finL
  by_cases c : nI 1 ≤ leftF sm fe ex ya ys q
  · rw [if_pos c]
    congr 1
    unfold tL tkL
    congr 1; funext k; unfold tk0; rw [decide_eq_true c, Bool.true_and]
  · rw [if_neg c]
    have e : tL (tk0 sm fe ex gc gr st yc ya ys q) n = [] := by
      unfold tL
      rw [List.filter_eq_nil_iff]
      intro k _
      unfold tk0
      rw [decide_eq_false c, Bool.false_and]; decide
    rw [e, rnd_nil]
theorem lay_step {sm fe ex : Int32} {gp gc gr st yc ya ys : Nat → Int32} {n q le : Nat} {tk : Nat → Bool} {f m9 : Nat} {w w2 : Int32} {tp sh sh3 : Nat → Int32} (h : layI sm fe ex gp gc gr st yc ya ys n q le tk f w tp sh) (hm : isMin (shr (pK gp gr) (rK gc gr yc ya ys q) (tL tk n) (mK sm fe ex ya ys q)) (tL tk n) m9) (hl : shr (pK gp gr) (rK gc gr yc ya ys q) (tL tk n) (mK sm fe ex ya ys q) m9 < le)
    (h3 : ∀ k, k < n → rmv tk m9 k = true → sh3 k = nI (shr (pK gp gr) (rK gc gr yc ya ys q) (tL (rmv tk m9) n) (mK sm fe ex ya ys q) k)) (h4 : lwI (shr (pK gp gr) (rK gc gr yc ya ys q) (tL (rmv tk m9) n) (mK sm fe ex ya ys q)) (rmv tk m9) n w2) : layI sm fe ex gp gc gr st yc ya ys n q le (rmv tk m9) (f - 1) w2 (upd tp m9 (nI 0)) sh3 := by
  obtain ⟨a1, a2, a3, a4, a5, a6⟩ := h
  have hln := rmv_len hm
  refine ⟨rmv_T a1, fun k hk => a2 k (band2 hk).1, h3, h4, by omega, ?_⟩
  rw [← a6, show f = (f - 1) + 1 by omega, rnd_go hm hl, rmv_L]; rfl
theorem lay_end1 {sm fe ex : Int32} {gp gc gr st yc ya ys : Nat → Int32} {n q le : Nat} {tk : Nat → Bool} {f : Nat} {w : Int32} {tp sh : Nat → Int32} (h : layI sm fe ex gp gc gr st yc ya ys n q le tk f w tp sh) (he : finL sm fe ex gp gc gr st yc ya ys n q le = tL tk n) : ∀ k, k < n → tp k = nI (if k ∈ finL sm fe ex gp gc gr st yc ya ys n q le then 1 else 0) ∧ (k ∈ finL sm fe ex gp gc gr st yc ya ys n q le → sh k = nI (shK sm fe ex gp gc gr st yc ya ys n q le k)) := by
  obtain ⟨a1, a2, a3, a4, a5, a6⟩ := h
  intro k hk
  have e : (k ∈ finL sm fe ex gp gc gr st yc ya ys n q le) ↔ tk k = true := by rw [he, tL_mem]; exact ⟨fun z => z.2, fun z => ⟨hk, z⟩⟩
  refine ⟨?_, fun h9 => ?_⟩
  · rw [a1 k hk]
    congr 1
    by_cases c : tk k = true
    · rw [if_pos c, if_pos (e.mpr c)]
    · rw [if_neg c, if_neg (fun z => c (e.mp z))]
  · unfold shK
    rw [if_pos h9, he]; exact a3 k hk (e.mp h9)
theorem lay_fin1 {sm fe ex : Int32} {gp gc gr st yc ya ys : Nat → Int32} {n q le : Nat} {tk : Nat → Bool} {f : Nat} {w : Int32} {tp sh : Nat → Int32} (hn : n ≤ 24) (h : layI sm fe ex gp gc gr st yc ya ys n q le tk f w tp sh) (hw : w = (-1)) : finL sm fe ex gp gc gr st yc ya ys n q le = tL tk n := by
  rw [← h.2.2.2.2.2, lw_none hn h.2.2.2.1 hw, rnd_nil]
theorem lay_fin2 {sm fe ex : Int32} {gp gc gr st yc ya ys : Nat → Int32} {n q le : Nat} {tk : Nat → Bool} {f m9 : Nat} {w : Int32} {tp sh : Nat → Int32} (h : layI sm fe ex gp gc gr st yc ya ys n q le tk f w tp sh) (hm : isMin (shr (pK gp gr) (rK gc gr yc ya ys q) (tL tk n) (mK sm fe ex ya ys q)) (tL tk n) m9) (hl : le ≤ shr (pK gp gr) (rK gc gr yc ya ys q) (tL tk n) (mK sm fe ex ya ys q) m9) : finL sm fe ex gp gc gr st yc ya ys n q le = tL tk n := by
  have h5 := h.2.2.2.2.1
  rw [← h.2.2.2.2.2, show f = (f - 1) + 1 by omega, rnd_stop hm (by omega)]
theorem shK_n {sm fe ex : Int32} {gp gc gr st yc ya ys : Nat → Int32} {n q le k : Nat} (h : ¬ k ∈ finL sm fe ex gp gc gr st yc ya ys n q le) : shK sm fe ex gp gc gr st yc ya ys n q le k = 0 := if_neg h

set_option maxHeartbeats 4000000 in
set_option maxRecDepth 100000 in
theorem c_X4_isLeft (l : Launch) {dC : Nat → ClassId} {dI : Nat → Nat → Nat} {cI cZ : ClassId} {am : Nat → Nat} {sm fe ex : Int32} {gp gc : Nat → Int32} {dy : Int32} {n : Nat} {pe gr st dl wo : Nat → Int32} {q : Nat} {yc ya yd ys tp fu sh ro : Nat → Int32} {th : Int32} {tk : Nat → Bool} {la : Nat → Bool} {k : Nat} (hn : n ≤ 24) (hT : mT tk n tp) (hF : mF tk la n fu) (hk : k < n) : Met l yX4_isLeft wsX4_isLeft { frames := 0, cells := 0, slots := 0, locals := 0 } (va_Pc [.ref (am 0), .int (nI k)] (fun U => va_P (dC, dI) vwCl (wM cI cZ am sm fe ex gp gc dy n pe gr st dl wo q yc ya yd ys tp fu sh ro th) U.heap ∧ va_K (dC, dI) vwCl [(cI, .int), (cZ, .boolean)] U)) (vp_Si (fun r => r = nI (if (tk k && la k) = true then 1 else 0))) 0 0 (fun _ => False) := by
  refine Met.ofW (cc := cX4_isLeft) (maxL := 2) (ret := (some .boolean)) (by decide) rfl ?_
  intro p e s m args below meth c s₁ B hml hv
  obtain ⟨rfl, hP, hK⟩ := hv
  have hx := B.exec
  have hb := B.bytes
  have hr := B.returns
  have hts := atoms_spec (ws := wsX4_isLeft) B.pre
  have hown : s.vm.findClass RX4 = some m.cls := findClass_of_methodNamed B.named
  have hlocks := B.notSynchronized
  have hl := lv_entry ([.ref (am 0), .int (nI k)]) (n := 2) (Nat.le_of_ble_eq_true rfl)
  rw [lg_entry_eq]
  generalize (lg_sl ([.ref (am 0), .int (nI k)]) ++ List.replicate (2 - (lg_sl ([.ref (am 0), .int (nI k)])).length) Slot.unset).toArray = ls at hl ⊢
  have hl : lv_has ls 2 [(0, .ref (am 0)), (1, .int (nI k))] := hl
  have hiX4 : ∀ w ∈ wsX40, w ∈ wsX4_isLeft := by decide +kernel
  have hf44 := hts (.fieldLink RX4 44 "SettlementFundModel" "takesPart" "[Z") (by decide +kernel)
  have hf47 := hts (.fieldLink RX4 47 "SettlementFundModel" "isFull" "[Z") (by decide +kernel)
  refine lv_aload_n hx hb dX4_isLeft_0 rfl (lv_at hl 0 rfl) ?_
  refine gM_0_17 hx hb hts hiX4 hown hK hP hf44 dX4_isLeft_1 ?_
  refine lv_iload_n hx hb dX4_isLeft_4 rfl (lv_at hl 1 rfl) ?_
  refine lM_12 hx hb hK hP (by omega) dX4_isLeft_5 ?_
  refine zt_i (y := nI (if tk k = true then 1 else 0)) (hT k hk) ?_
  refine zi_eq (tgt := 22) hx hb (by split <;> decide) dX4_isLeft_6 (by decide) (fun c_6 => ?_) (fun c_6 => ?_)
  · refine lv_iconst (v := nI 0) hx hb dX4_isLeft_22 (by decide) ?_
    exact W.zret (v := nI 0) hx hb hr (rfl) (fun t ht hW => ⟨nI 0, rfl, congrArg nI (il_2 c_6), ht⟩) (fun _ h => nomatch h) dX4_isLeft_23
  · refine lv_aload_n hx hb dX4_isLeft_9 rfl (lv_at hl 0 rfl) ?_
    refine gM_0_18 hx hb hts hiX4 hown hK hP hf47 dX4_isLeft_10 ?_
    refine lv_iload_n hx hb dX4_isLeft_13 rfl (lv_at hl 1 rfl) ?_
    refine lM_13 hx hb hK hP (by omega) dX4_isLeft_14 ?_
    refine zt_i (y := nI (if (tk k && !la k) = true then 1 else 0)) (hF k hk) ?_
    refine zi_ne (tgt := 22) hx hb (by split <;> decide) dX4_isLeft_15 (by decide) (fun c_15 => ?_) (fun c_15 => ?_)
    · refine lv_iconst (v := nI 0) hx hb dX4_isLeft_22 (by decide) ?_
      exact W.zret (v := nI 0) hx hb hr (rfl) (fun t ht hW => ⟨nI 0, rfl, congrArg nI (il_0 c_15), ht⟩) (fun _ h => nomatch h) dX4_isLeft_23
    · refine lv_iconst (v := nI 1) hx hb dX4_isLeft_18 (by decide) ?_
      refine lv_goto (tgt := 23) hx hb dX4_isLeft_19 (by decide) ?_
      exact W.zret (v := nI 1) hx hb hr (rfl) (fun t ht hW => ⟨nI 1, rfl, congrArg nI (il_1 c_6 c_15), ht⟩) (fun _ h => nomatch h) dX4_isLeft_23
section
variable {p : Program} {e : Env} {R : Room} {s : State} {m : MethodId} {args : Array Value} {below : List Frame} {meth : Method} {c : Code} {H : Heap} {locs : List Loc} {cells slots : Nat} {Q : State → Prop} {cc : ByteArray} {pc : Nat} {ls : Array Slot} {rest : List Value} {own : String} {index nL : Nat} {Ts : List Cond} {H0 : Heap} {A0 : Nat → Prop}
theorem k_X4_isLeft (l : Launch) {dC : Nat → ClassId} {dI : Nat → Nat → Nat} {cI cZ : ClassId} {am : Nat → Nat} {sm fe ex : Int32} {gp gc : Nat → Int32} {dy : Int32} {n : Nat} {pe gr st dl wo : Nat → Int32} {q : Nat} {yc ya yd ys tp fu sh ro : Nat → Int32} {th : Int32} {tk : Nat → Bool} {la : Nat → Bool} {k : Nat} (hn : n ≤ 24) (hT : mT tk n tp) (hF : mF tk la n fu) (hk : k < n) (hx : p.tables.exec = Jvm.exec) (hb : c.code = cc) (hml : c.maxLocals = nL) (hown : s.vm.findClass own = some m.cls) (hts : ∀ w ∈ Ts, w.before args s = true) (hK : va_K (dC, dI) vwCl [(cI, .int), (cZ, .boolean)] s) (hP : va_P (dC, dI) vwCl (wM cI cZ am sm fe ex gp gc dy n pe gr st dl wo q yc ya yd ys tp fu sh ro th) H) (hg9 : GoodIn Ts (wsV own index RX4 yX4_isLeft wsX4_isLeft)) (hR9 : 0 + 1 ≤ R.frames ∧ 8 + (2 + 11) + 0 ≤ R.locals) (hc9 : cells ≤ R.cells ∧ slots ≤ R.slots) (hl9 : ls.size = nL) (hw9 : (rest.map fun v => v.category).sum ≤ 8) (hdg : decode cc pc = .ok (.invokevirtual index, 3)) (kk : W p l e R s m args below meth c H locs cells slots Q (F0 m (pc + 3) ls (.int (nI (if (tk k && la k) = true then 1 else 0)) :: rest))) : W p l e R s m args below meth c H locs cells slots Q (F0 m pc ls (.int (nI k) :: .ref (am 0) :: rest)) := zc_ro (W.runV (As := [.int (nI k)]) (rest := rest) ⟨hx, hb, hml, hown, hts⟩ (c_X4_isLeft (dC := dC) (dI := dI) (cI := cI) (cZ := cZ) (am := am) (sm := sm) (fe := fe) (ex := ex) (gp := gp) (gc := gc) (dy := dy) (n := n) (pe := pe) (gr := gr) (st := st) (dl := dl) (wo := wo) (q := q) (yc := yc) (ya := ya) (yd := yd) (ys := ys) (tp := tp) (fu := fu) (sh := sh) (ro := ro) (th := th) (tk := tk) (la := la) (k := k) l hn hT hF hk) (cwV 1 hts hg9 rfl rfl rfl (by decide +kernel) hR9) ⟨fun a U g mk q => ⟨q.1, q.2.1, va_K.moved (u := U) (U := U.calling g mk a) (Vm.Alike.refl U.vm) q.2.2⟩, rM_0 hK hP, fun U hU hW => ⟨rfl, by rw [hU]; exact hP, va_K.moved hW.alike hK⟩⟩ rfl rfl hl9 rfl (lv_room hw9) hdg hc9) (fun r h => by subst h; exact kk)
end
set_option maxHeartbeats 4000000 in
set_option maxRecDepth 100000 in
theorem c_X4_allPoints (l : Launch) {dC : Nat → ClassId} {dI : Nat → Nat → Nat} {cI cZ : ClassId} {am : Nat → Nat} {sm fe ex : Int32} {gp gc : Nat → Int32} {dy : Int32} {n : Nat} {pe gr st dl wo : Nat → Int32} {q : Nat} {yc ya yd ys tp fu sh ro : Nat → Int32} {th : Int32} {pf : Nat → Nat} {rf : Nat → Nat} {tk : Nat → Bool} {la : Nat → Bool} (hn : n ≤ 24) (hT : mT tk n tp) (hF : mF tk la n fu) (hD : mdl pf rf n gp gr ro) : Met l yX4_allPoints wsX4_allPoints { frames := 1, cells := 0, slots := 0, locals := 21 } (va_Pc [.ref (am 0)] (fun U => va_P (dC, dI) vwCl (wM cI cZ am sm fe ex gp gc dy n pe gr st dl wo q yc ya yd ys tp fu sh ro th) U.heap ∧ va_K (dC, dI) vwCl [(cI, .int), (cZ, .boolean)] U)) (vp_Sl (fun r => r = lN (wsum pf la (tL tk n)))) 0 0 (fun _ => False) := by
  refine Met.ofW (cc := cX4_allPoints) (maxL := 4) (ret := (some .long)) (by decide) rfl ?_
  intro p e s m args below meth c s₁ B hml hv
  obtain ⟨rfl, hP, hK⟩ := hv
  have hx := B.exec
  have hb := B.bytes
  have hr := B.returns
  have hts := atoms_spec (ws := wsX4_allPoints) B.pre
  have hown : s.vm.findClass RX4 = some m.cls := findClass_of_methodNamed B.named
  have hlocks := B.notSynchronized
  have hl := lv_entry ([.ref (am 0)]) (n := 4) (Nat.le_of_ble_eq_true rfl)
  rw [lg_entry_eq]
  generalize (lg_sl ([.ref (am 0)]) ++ List.replicate (4 - (lg_sl ([.ref (am 0)])).length) Slot.unset).toArray = ls at hl ⊢
  have hl : lv_has ls 4 [(0, .ref (am 0))] := hl
  have hiX4 : ∀ w ∈ wsX40, w ∈ wsX4_allPoints := by decide +kernel
  have hf61 := hts (.fieldLink RX4 61 "SettlementFundModel" "claims" "I") (by decide +kernel)
  have hf7 := hts (.fieldLink RX4 7 "SettlementFundModel" "points" "[I") (by decide +kernel)
  have hf19 := hts (.fieldLink RX4 19 "SettlementFundModel" "grades" "[I") (by decide +kernel)
  refine lv_lconst (v := lN 0) hx hb dX4_allPoints_0 (by decide) ?_
  refine lv_lstore_n (lv' := [(1, .long (lN 0)), (0, .ref (am 0))]) hx hb dX4_allPoints_1 rfl hl (by decide) rfl (fun ls hl => ?_)
  refine lv_iconst (v := nI 0) hx hb dX4_allPoints_2 (by decide) ?_
  refine lv_istore_n (lv' := [(3, .int (nI 0)), (1, .long (lN 0)), (0, .ref (am 0))]) hx hb dX4_allPoints_3 rfl hl (by decide) rfl (fun ls hl => ?_)
  have e_1 : lN 0 = lN (gW pf tk la 0) := rfl
  rw [e_1] at hl
  refine zl_ro (fun a9 : Nat => [(0, .ref (am 0)), (1, .long (lN (gW pf tk la a9))), (3, .int (nI a9))]) (fun a9 : Nat => a9 ≤ n) (fun a9 : Nat => n - a9) 0 (Nat.zero_le _) (lv_sub hl [2, 1, 0] rfl) ?_
  intro a9 hi_4 ih_4 ls hl
  obtain ⟨i, rfl⟩ : ∃ z, z = a9 := ⟨_, rfl⟩
  have hi_4 : i ≤ n := hi_4
  have hl : lv_has ls 4 [(0, .ref (am 0)), (1, .long (lN (gW pf tk la i))), (3, .int (nI i))] := hl
  refine lv_iload_n hx hb dX4_allPoints_4 rfl (lv_at hl 2 rfl) ?_
  refine lv_aload_n hx hb dX4_allPoints_5 rfl (lv_at hl 0 rfl) ?_
  refine gM_0_6 hx hb hts hiX4 hown hK hP hf61 dX4_allPoints_6 ?_
  refine zb_ge (tgt := 45) hx hb (by omega) (by omega) dX4_allPoints_9 (by decide) (fun c_9 => ?_) (fun c_9 => ?_)
  · refine lv_lload_n hx hb dX4_allPoints_45 rfl (lv_at hl 1 rfl) ?_
    exact W.lret (v := lN (gW pf tk la i)) hx hb hr (fun t ht hW => ⟨lN (gW pf tk la i), rfl, by rw [gW_all, show i = n by omega], ht⟩) (fun _ h => nomatch h) dX4_allPoints_46
  · refine lv_lload_n hx hb dX4_allPoints_12 rfl (lv_at hl 1 rfl) ?_
    refine lv_aload_n hx hb dX4_allPoints_13 rfl (lv_at hl 0 rfl) ?_
    refine lv_iload_n hx hb dX4_allPoints_14 rfl (lv_at hl 2 rfl) ?_
    refine k_X4_isLeft l (k := i) (hn := hn) (hT := hT) (hF := hF) (hk := (by omega)) hx hb hml hown hts hK hP gX4_allPoints_X4_isLeft ⟨Nat.le_of_ble_eq_true rfl, Nat.le_of_ble_eq_true rfl⟩ ⟨Nat.le_of_ble_eq_true rfl, Nat.le_of_ble_eq_true rfl⟩ hl.1 (Nat.le_of_ble_eq_true rfl) dX4_allPoints_15 ?_
    refine zi_eq (tgt := 36) hx hb (by split <;> decide) dX4_allPoints_18 (by decide) (fun c_18 => ?_) (fun c_18 => ?_)
    · refine lv_lconst (v := lN 0) hx hb dX4_allPoints_36 (by decide) ?_
      refine lv_ladd hx hb dX4_allPoints_37 ?_
      refine zt_l (y := lN ((gW pf tk la i) + 0)) (lN_add _ _) ?_
      refine lv_lstore_n (lv' := [(1, .long (lN ((gW pf tk la i) + 0))), (0, .ref (am 0)), (3, .int (nI i))]) hx hb dX4_allPoints_38 rfl hl (by decide) rfl (fun ls hl => ?_)
      refine lv_iinc (v := nI (i + 1)) (lv' := [(3, .int (nI (i + 1))), (1, .long (lN ((gW pf tk la i) + 0))), (0, .ref (am 0))]) hx hb dX4_allPoints_39 hl (k := 2) rfl (zz_inc _) (by decide) rfl (fun ls hl => ?_)
      refine lv_goto (tgt := 4) hx hb dX4_allPoints_42 (by decide) ?_
      have e_2 : lN ((gW pf tk la i) + 0) = lN (gW pf tk la (i + 1)) := by rw [gW_n (zz_ifq c_18)]; rfl
      rw [e_2] at hl
      exact ih_4 (i + 1) (by omega) (by omega) ls (lv_sub hl [2, 1, 0] rfl)
    · obtain ⟨⟨hd1, hd2⟩, ⟨hd3, hd4, hd5⟩, hd6, hd7⟩ := hD i (by omega)
      refine lv_aload_n hx hb dX4_allPoints_21 rfl (lv_at hl 0 rfl) ?_
      refine gM_0_3 hx hb hts hiX4 hown hK hP hf7 dX4_allPoints_22 ?_
      refine lv_aload_n hx hb dX4_allPoints_25 rfl (lv_at hl 0 rfl) ?_
      refine gM_0_8 hx hb hts hiX4 hown hK hP hf19 dX4_allPoints_26 ?_
      refine lv_iload_n hx hb dX4_allPoints_29 rfl (lv_at hl 2 rfl) ?_
      refine lM_4 hx hb hK hP (by omega) dX4_allPoints_30 ?_
      refine zt_i (y := nI (gN gr i)) (hd1) ?_
      refine lM_1 hx hb hK hP (hd2) dX4_allPoints_31 ?_
      refine zt_i (y := nI (pf i)) (hd3) ?_
      refine lv_i2l (v := lN (pf i)) hx hb dX4_allPoints_32 (nI_l (by omega)) ?_
      refine lv_goto (tgt := 37) hx hb dX4_allPoints_33 (by decide) ?_
      refine lv_ladd hx hb dX4_allPoints_37 ?_
      refine zt_l (y := lN ((gW pf tk la i) + (pf i))) (lN_add _ _) ?_
      refine lv_lstore_n (lv' := [(1, .long (lN ((gW pf tk la i) + (pf i)))), (0, .ref (am 0)), (3, .int (nI i))]) hx hb dX4_allPoints_38 rfl hl (by decide) rfl (fun ls hl => ?_)
      refine lv_iinc (v := nI (i + 1)) (lv' := [(3, .int (nI (i + 1))), (1, .long (lN ((gW pf tk la i) + (pf i)))), (0, .ref (am 0))]) hx hb dX4_allPoints_39 hl (k := 2) rfl (zz_inc _) (by decide) rfl (fun ls hl => ?_)
      refine lv_goto (tgt := 4) hx hb dX4_allPoints_42 (by decide) ?_
      have e_3 : lN ((gW pf tk la i) + (pf i)) = lN (gW pf tk la (i + 1)) := by rw [gW_y (zz_ifp c_18)]
      rw [e_3] at hl
      exact ih_4 (i + 1) (by omega) (by omega) ls (lv_sub hl [2, 1, 0] rfl)
section
variable {p : Program} {e : Env} {R : Room} {s : State} {m : MethodId} {args : Array Value} {below : List Frame} {meth : Method} {c : Code} {H : Heap} {locs : List Loc} {cells slots : Nat} {Q : State → Prop} {cc : ByteArray} {pc : Nat} {ls : Array Slot} {rest : List Value} {own : String} {index nL : Nat} {Ts : List Cond} {H0 : Heap} {A0 : Nat → Prop}
theorem k_X4_allPoints (l : Launch) {dC : Nat → ClassId} {dI : Nat → Nat → Nat} {cI cZ : ClassId} {am : Nat → Nat} {sm fe ex : Int32} {gp gc : Nat → Int32} {dy : Int32} {n : Nat} {pe gr st dl wo : Nat → Int32} {q : Nat} {yc ya yd ys tp fu sh ro : Nat → Int32} {th : Int32} {pf : Nat → Nat} {rf : Nat → Nat} {tk : Nat → Bool} {la : Nat → Bool} (hn : n ≤ 24) (hT : mT tk n tp) (hF : mF tk la n fu) (hD : mdl pf rf n gp gr ro) (hx : p.tables.exec = Jvm.exec) (hb : c.code = cc) (hml : c.maxLocals = nL) (hown : s.vm.findClass own = some m.cls) (hts : ∀ w ∈ Ts, w.before args s = true) (hK : va_K (dC, dI) vwCl [(cI, .int), (cZ, .boolean)] s) (hP : va_P (dC, dI) vwCl (wM cI cZ am sm fe ex gp gc dy n pe gr st dl wo q yc ya yd ys tp fu sh ro th) H) (hg9 : GoodIn Ts (wsV own index RX4 yX4_allPoints wsX4_allPoints)) (hR9 : 1 + 1 ≤ R.frames ∧ 8 + (4 + 11) + 21 ≤ R.locals) (hc9 : cells ≤ R.cells ∧ slots ≤ R.slots) (hl9 : ls.size = nL) (hw9 : (rest.map fun v => v.category).sum ≤ 8) (hdg : decode cc pc = .ok (.invokevirtual index, 3)) (kk : W p l e R s m args below meth c H locs cells slots Q (F0 m (pc + 3) ls (.long (lN (wsum pf la (tL tk n))) :: rest))) : W p l e R s m args below meth c H locs cells slots Q (F0 m pc ls (.ref (am 0) :: rest)) := vp_callSl (W.runV (As := []) (rest := rest) ⟨hx, hb, hml, hown, hts⟩ (c_X4_allPoints (dC := dC) (dI := dI) (cI := cI) (cZ := cZ) (am := am) (sm := sm) (fe := fe) (ex := ex) (gp := gp) (gc := gc) (dy := dy) (n := n) (pe := pe) (gr := gr) (st := st) (dl := dl) (wo := wo) (q := q) (yc := yc) (ya := ya) (yd := yd) (ys := ys) (tp := tp) (fu := fu) (sh := sh) (ro := ro) (th := th) (pf := pf) (rf := rf) (tk := tk) (la := la) l hn hT hF hD) (cwV 0 hts hg9 rfl rfl rfl (by decide +kernel) hR9) ⟨fun a U g mk q => ⟨q.1, q.2.1, va_K.moved (u := U) (U := U.calling g mk a) (Vm.Alike.refl U.vm) q.2.2⟩, rM_0 hK hP, fun U hU hW => ⟨rfl, by rw [hU]; exact hP, va_K.moved hW.alike hK⟩⟩ rfl rfl hl9 rfl (lv_room hw9) hdg hc9) (fun r h => by subst h; exact kk)
end
set_option maxHeartbeats 4000000 in
set_option maxRecDepth 100000 in
theorem c_X4_givesRooms (l : Launch) {dC : Nat → ClassId} {dI : Nat → Nat → Nat} {cI cZ : ClassId} {am : Nat → Nat} {sm fe ex : Int32} {gp gc : Nat → Int32} {dy : Int32} {n : Nat} {pe gr st dl wo : Nat → Int32} {q : Nat} {yc ya yd ys tp fu sh ro : Nat → Int32} {th : Int32} {pf : Nat → Nat} {rf : Nat → Nat} {tk : Nat → Bool} {la : Nat → Bool} {xm : Int32} {mm : Nat} (hI : iwM am) (hn : n ≤ 24) (hT : mT tk n tp) (hF : mF tk la n fu) (hS9 : mS rf tk la n sh) (hD : mdl pf rf n gp gr ro) (hM : ∀ k, k < n → tk k = true → xm = nI mm) (hmm : mm ≤ 10000000) : Met l yX4_givesRooms wsX4_givesRooms { frames := 2, cells := 0, slots := 0, locals := 44 } (va_Pc [.ref (am 0), .int xm] (fun U => va_P (dC, dI) vwCl (wM cI cZ am sm fe ex gp gc dy n pe gr st dl wo q yc ya yd ys tp fu sh ro th) U.heap ∧ va_K (dC, dI) vwCl [(cI, .int), (cZ, .boolean)] U)) (va_Qi (fun r (u9 : (Nat → Int32) × (Nat → Int32)) => r = nI (wsum rf (hit pf rf (tL tk n) la mm) (tL tk n)) ∧ (mF tk (off pf rf (tL tk n) la mm) n u9.1 ∧ mS rf tk (off pf rf (tL tk n) la mm) n u9.2)) (fun u9 t => va_P (dC, dI) vwCl (wM cI cZ am sm fe ex gp gc dy n pe gr st dl wo q yc ya yd ys tp u9.1 u9.2 ro th) t.heap) (awM am)) 0 0 (awM am) := by
  refine Met.ofW (cc := cX4_givesRooms) (maxL := 7) (ret := (some .int)) (by decide) rfl ?_
  intro p e s m args below meth c s₁ B hml hv
  obtain ⟨rfl, hP, hK⟩ := hv
  have hx := B.exec
  have hb := B.bytes
  have hr := B.returns
  have hts := atoms_spec (ws := wsX4_givesRooms) B.pre
  have hown : s.vm.findClass RX4 = some m.cls := findClass_of_methodNamed B.named
  have hlocks := B.notSynchronized
  have hS : va_S (awM am) s.heap s.heap [] := va_S.rf
  have hl := lv_entry ([.ref (am 0), .int xm]) (n := 7) (Nat.le_of_ble_eq_true rfl)
  rw [lg_entry_eq]
  generalize (lg_sl ([.ref (am 0), .int xm]) ++ List.replicate (7 - (lg_sl ([.ref (am 0), .int xm])).length) Slot.unset).toArray = ls at hl ⊢
  have hl : lv_has ls 7 [(0, .ref (am 0)), (1, .int xm)] := hl
  have hB := tL_b hn hD tk
  have h24 := bnd_P hB la
  have hgm := room_le (r := rf) (fun k hk => (hB.2 k hk).2.1) la mm
  rw [gW_all] at hgm
  have hiX4 : ∀ w ∈ wsX40, w ∈ wsX4_givesRooms := by decide +kernel
  have hf61 := hts (.fieldLink RX4 61 "SettlementFundModel" "claims" "I") (by decide +kernel)
  have hf47 := hts (.fieldLink RX4 47 "SettlementFundModel" "isFull" "[Z") (by decide +kernel)
  have hf44 := hts (.fieldLink RX4 44 "SettlementFundModel" "takesPart" "[Z") (by decide +kernel)
  have hf50 := hts (.fieldLink RX4 50 "SettlementFundModel" "shares" "[I") (by decide +kernel)
  have hf7 := hts (.fieldLink RX4 7 "SettlementFundModel" "points" "[I") (by decide +kernel)
  have hf19 := hts (.fieldLink RX4 19 "SettlementFundModel" "grades" "[I") (by decide +kernel)
  have hf53 := hts (.fieldLink RX4 53 "SettlementFundModel" "rooms" "[I") (by decide +kernel)
  refine lv_aload_n hx hb dX4_givesRooms_0 rfl (lv_at hl 0 rfl) ?_
  refine k_X4_allPoints l (pf := pf) (rf := rf) (tk := tk) (la := la) (hn := hn) (hT := hT) (hF := hF) (hD := hD) hx hb hml hown hts hK hP gX4_givesRooms_X4_allPoints ⟨Nat.le_of_ble_eq_true rfl, Nat.le_of_ble_eq_true rfl⟩ ⟨Nat.le_of_ble_eq_true rfl, Nat.le_of_ble_eq_true rfl⟩ hl.1 (Nat.le_of_ble_eq_true rfl) dX4_givesRooms_1 ?_
  refine lv_lstore_n (lv' := [(2, .long (lN (wsum pf la (tL tk n)))), (0, .ref (am 0)), (1, .int xm)]) hx hb dX4_givesRooms_4 rfl hl (by decide) rfl (fun ls hl => ?_)
  refine lv_iconst (v := nI 0) hx hb dX4_givesRooms_5 (by decide) ?_
  refine lv_istore (lv' := [(4, .int (nI 0)), (2, .long (lN (wsum pf la (tL tk n)))), (0, .ref (am 0)), (1, .int xm)]) hx hb dX4_givesRooms_6 hl (by decide) rfl (fun ls hl => ?_)
  refine lv_iconst (v := nI 0) hx hb dX4_givesRooms_8 (by decide) ?_
  refine lv_istore (lv' := [(5, .int (nI 0)), (4, .int (nI 0)), (2, .long (lN (wsum pf la (tL tk n)))), (0, .ref (am 0)), (1, .int xm)]) hx hb dX4_givesRooms_9 hl (by decide) rfl (fun ls hl => ?_)
  have e_1 : sh = mixF (clF tk la sh) sh 0 := mixF_0 _ _ |>.symm
  rw [e_1] at hP
  refine zl_rw (fun a9 : Nat => wM cI cZ am sm fe ex gp gc dy n pe gr st dl wo q yc ya yd ys tp fu (mixF (clF tk la sh) sh a9) ro th) (fun a9 : Nat => [(0, .ref (am 0)), (1, .int xm), (2, .long (lN (wsum pf la (tL tk n)))), (4, .int (nI 0)), (5, .int (nI a9))]) (fun a9 : Nat => a9 ≤ n) (fun a9 : Nat => n - a9) 0 (Nat.zero_le _) hP hS (lv_sub hl [3, 4, 2, 1, 0] rfl) ?_
  intro a9 hi_11 ih_11 H locs hP hS ls hl
  obtain ⟨i, rfl⟩ : ∃ z, z = a9 := ⟨_, rfl⟩
  have hi_11 : i ≤ n := hi_11
  have hl : lv_has ls 7 [(0, .ref (am 0)), (1, .int xm), (2, .long (lN (wsum pf la (tL tk n)))), (4, .int (nI 0)), (5, .int (nI i))] := hl
  have hP : va_P (dC, dI) vwCl (wM cI cZ am sm fe ex gp gc dy n pe gr st dl wo q yc ya yd ys tp fu (mixF (clF tk la sh) sh i) ro th) H := hP
  refine lv_iload hx hb dX4_givesRooms_11 (lv_at hl 4 rfl) ?_
  refine lv_aload_n hx hb dX4_givesRooms_13 rfl (lv_at hl 0 rfl) ?_
  refine gM_0_6 hx hb hts hiX4 hown hK hP hf61 dX4_givesRooms_14 ?_
  refine zb_ge (tgt := 53) hx hb (by omega) (by omega) dX4_givesRooms_17 (by decide) (fun c_17 => ?_) (fun c_17 => ?_)
  · refine lv_iconst (v := nI 0) hx hb dX4_givesRooms_53 (by decide) ?_
    refine lv_istore (lv' := [(5, .int (nI 0)), (0, .ref (am 0)), (1, .int xm), (2, .long (lN (wsum pf la (tL tk n)))), (4, .int (nI 0))]) hx hb dX4_givesRooms_54 hl (by decide) rfl (fun ls hl => ?_)
    have e_2 : nI 0 = nI (gW rf tk (hit pf rf (tL tk n) la mm) 0) := rfl
    rw [e_2] at hl
    have e_3 : mixF (clF tk la sh) sh i = mixF (htF pf rf tk la n mm sh) (mixF (clF tk la sh) sh n) 0 := by rw [show i = n by omega, mixF_0]
    rw [e_3] at hP
    refine zl_rw (fun a9 : Nat => wM cI cZ am sm fe ex gp gc dy n pe gr st dl wo q yc ya yd ys tp fu (mixF (htF pf rf tk la n mm sh) (mixF (clF tk la sh) sh n) a9) ro th) (fun a9 : Nat => [(0, .ref (am 0)), (1, .int xm), (2, .long (lN (wsum pf la (tL tk n)))), (4, .int (nI (gW rf tk (hit pf rf (tL tk n) la mm) a9))), (5, .int (nI a9))]) (fun a9 : Nat => a9 ≤ n) (fun a9 : Nat => n - a9) 0 (Nat.zero_le _) hP hS (lv_sub hl [1, 2, 3, 4, 0] rfl) ?_
    intro a9 hi_56 ih_56 H locs hP hS ls hl
    obtain ⟨i, rfl⟩ : ∃ z, z = a9 := ⟨_, rfl⟩
    have hi_56 : i ≤ n := hi_56
    have hl : lv_has ls 7 [(0, .ref (am 0)), (1, .int xm), (2, .long (lN (wsum pf la (tL tk n)))), (4, .int (nI (gW rf tk (hit pf rf (tL tk n) la mm) i))), (5, .int (nI i))] := hl
    have hP : va_P (dC, dI) vwCl (wM cI cZ am sm fe ex gp gc dy n pe gr st dl wo q yc ya yd ys tp fu (mixF (htF pf rf tk la n mm sh) (mixF (clF tk la sh) sh n) i) ro th) H := hP
    refine lv_iload hx hb dX4_givesRooms_56 (lv_at hl 4 rfl) ?_
    refine lv_aload_n hx hb dX4_givesRooms_58 rfl (lv_at hl 0 rfl) ?_
    refine gM_0_6 hx hb hts hiX4 hown hK hP hf61 dX4_givesRooms_59 ?_
    refine zb_ge (tgt := 148) hx hb (by omega) (by omega) dX4_givesRooms_62 (by decide) (fun c_62 => ?_) (fun c_62 => ?_)
    · refine lv_iconst (v := nI 0) hx hb dX4_givesRooms_148 (by decide) ?_
      refine lv_istore (lv' := [(5, .int (nI 0)), (0, .ref (am 0)), (1, .int xm), (2, .long (lN (wsum pf la (tL tk n)))), (4, .int (nI (gW rf tk (hit pf rf (tL tk n) la mm) i)))]) hx hb dX4_givesRooms_149 hl (by decide) rfl (fun ls hl => ?_)
      have e_4 : nI (gW rf tk (hit pf rf (tL tk n) la mm) i) = nI (gW rf tk (hit pf rf (tL tk n) la mm) n) := by rw [show i = n by omega]
      rw [e_4] at hl
      have e_5 : fu = mixF (fuF tk (off pf rf (tL tk n) la mm)) fu 0 := (mixF_0 _ _).symm
      rw [e_5] at hP
      have e_6 : mixF (htF pf rf tk la n mm sh) (mixF (clF tk la sh) sh n) i = mixF (htF pf rf tk la n mm sh) (mixF (clF tk la sh) sh n) n := by rw [show i = n by omega]
      rw [e_6] at hP
      refine zl_rw (fun a9 : Nat => wM cI cZ am sm fe ex gp gc dy n pe gr st dl wo q yc ya yd ys tp (mixF (fuF tk (off pf rf (tL tk n) la mm)) fu a9) (mixF (htF pf rf tk la n mm sh) (mixF (clF tk la sh) sh n) n) ro th) (fun a9 : Nat => [(0, .ref (am 0)), (1, .int xm), (2, .long (lN (wsum pf la (tL tk n)))), (4, .int (nI (gW rf tk (hit pf rf (tL tk n) la mm) n))), (5, .int (nI a9))]) (fun a9 : Nat => a9 ≤ n) (fun a9 : Nat => n - a9) 0 (Nat.zero_le _) hP hS (lv_sub hl [1, 2, 3, 4, 0] rfl) ?_
      intro a9 hi_151 ih_151 H locs hP hS ls hl
      obtain ⟨i, rfl⟩ : ∃ z, z = a9 := ⟨_, rfl⟩
      have hi_151 : i ≤ n := hi_151
      have hl : lv_has ls 7 [(0, .ref (am 0)), (1, .int xm), (2, .long (lN (wsum pf la (tL tk n)))), (4, .int (nI (gW rf tk (hit pf rf (tL tk n) la mm) n))), (5, .int (nI i))] := hl
      have hP : va_P (dC, dI) vwCl (wM cI cZ am sm fe ex gp gc dy n pe gr st dl wo q yc ya yd ys tp (mixF (fuF tk (off pf rf (tL tk n) la mm)) fu i) (mixF (htF pf rf tk la n mm sh) (mixF (clF tk la sh) sh n) n) ro th) H := hP
      refine lv_iload hx hb dX4_givesRooms_151 (lv_at hl 4 rfl) ?_
      refine lv_aload_n hx hb dX4_givesRooms_153 rfl (lv_at hl 0 rfl) ?_
      refine gM_0_6 hx hb hts hiX4 hown hK hP hf61 dX4_givesRooms_154 ?_
      refine zb_ge (tgt := 199) hx hb (by omega) (by omega) dX4_givesRooms_157 (by decide) (fun c_157 => ?_) (fun c_157 => ?_)
      · refine lv_iload hx hb dX4_givesRooms_199 (lv_at hl 3 rfl) ?_
        exact W.iret (v := nI (gW rf tk (hit pf rf (tL tk n) la mm) n)) hx hb hr (fun t ht hW => ⟨⟨nI (gW rf tk (hit pf rf (tL tk n) la mm) n), (mixF (fuF tk (off pf rf (tL tk n) la mm)) fu i, mixF (htF pf rf tk la n mm sh) (mixF (clF tk la sh) sh n) n), rfl, ⟨congrArg nI (gW_all ..).symm, ⟨gr_fu (by omega), gr_sh hS9⟩⟩, by (try dsimp only); rw [ht]; exact hP⟩, hS.F ht⟩) hS.2.2 dX4_givesRooms_201
      · refine lv_aload_n hx hb dX4_givesRooms_160 rfl (lv_at hl 0 rfl) ?_
        refine gM_0_18 hx hb hts hiX4 hown hK hP hf47 dX4_givesRooms_161 ?_
        refine lv_iload hx hb dX4_givesRooms_164 (lv_at hl 4 rfl) ?_
        refine lv_aload_n hx hb dX4_givesRooms_166 rfl (lv_at hl 0 rfl) ?_
        refine gM_0_17 hx hb hts hiX4 hown hK hP hf44 dX4_givesRooms_167 ?_
        refine lv_iload hx hb dX4_givesRooms_170 (lv_at hl 4 rfl) ?_
        refine lM_12 hx hb hK hP (by omega) dX4_givesRooms_172 ?_
        refine zt_i (y := nI (if tk i = true then 1 else 0)) (hT i (by omega)) ?_
        refine zi_eq (tgt := 191) hx hb (by split <;> decide) dX4_givesRooms_173 (by decide) (fun c_173 => ?_) (fun c_173 => ?_)
        · refine lv_iconst (v := nI 0) hx hb dX4_givesRooms_191 (by decide) ?_
          refine sM_13 hx hb hK hP hI (fun _ h => h) hS (by omega) (rfl) dX4_givesRooms_192 (fun H locs hP hS => ?_)
          refine lv_iinc (v := nI (i + 1)) (lv' := [(5, .int (nI (i + 1))), (0, .ref (am 0)), (1, .int xm), (2, .long (lN (wsum pf la (tL tk n)))), (4, .int (nI (gW rf tk (hit pf rf (tL tk n) la mm) n)))]) hx hb dX4_givesRooms_193 hl (k := 4) rfl (zz_inc _) (by decide) rfl (fun ls hl => ?_)
          refine lv_goto (tgt := 151) hx hb dX4_givesRooms_196 (by decide) ?_
          have e_7 : upd (mixF (fuF tk (off pf rf (tL tk n) la mm)) fu i) i (nI 0) = mixF (fuF tk (off pf rf (tL tk n) la mm)) fu (i + 1) := mixF_s (fu_0 (zz_ifq c_173))
          rw [e_7] at hP
          exact ih_151 (i + 1) (by omega) (by omega) _ _ hP hS ls (lv_sub hl [1, 2, 3, 4, 0] rfl)
        · refine lv_aload_n hx hb dX4_givesRooms_176 rfl (lv_at hl 0 rfl) ?_
          refine gM_0_19 hx hb hts hiX4 hown hK hP hf50 dX4_givesRooms_177 ?_
          refine lv_iload hx hb dX4_givesRooms_180 (lv_at hl 4 rfl) ?_
          refine lM_14 hx hb hK hP (by omega) dX4_givesRooms_182 ?_
          refine zt_i (y := htF pf rf tk la n mm sh i) (mixF_lt (by omega)) ?_
          refine lv_iconst (v := (-1)) hx hb dX4_givesRooms_183 (by decide) ?_
          refine lv_icmp_eq (tgt := 191) hx hb dX4_givesRooms_184 (by decide) (fun c_184 => ?_) (fun c_184 => ?_)
          · refine lv_iconst (v := nI 0) hx hb dX4_givesRooms_191 (by decide) ?_
            refine sM_13 hx hb hK hP hI (fun _ h => h) hS (by omega) (rfl) dX4_givesRooms_192 (fun H locs hP hS => ?_)
            refine lv_iinc (v := nI (i + 1)) (lv' := [(5, .int (nI (i + 1))), (0, .ref (am 0)), (1, .int xm), (2, .long (lN (wsum pf la (tL tk n)))), (4, .int (nI (gW rf tk (hit pf rf (tL tk n) la mm) n)))]) hx hb dX4_givesRooms_193 hl (k := 4) rfl (zz_inc _) (by decide) rfl (fun ls hl => ?_)
            refine lv_goto (tgt := 151) hx hb dX4_givesRooms_196 (by decide) ?_
            have e_8 : upd (mixF (fuF tk (off pf rf (tL tk n) la mm)) fu i) i (nI 0) = mixF (fuF tk (off pf rf (tL tk n) la mm)) fu (i + 1) := mixF_s (fu_2 (zz_ifp c_173) (hD i (by omega)).2.2.2 (hS9 i (by omega) (zz_ifp c_173)) c_184)
            rw [e_8] at hP
            exact ih_151 (i + 1) (by omega) (by omega) _ _ hP hS ls (lv_sub hl [1, 2, 3, 4, 0] rfl)
          · refine lv_iconst (v := nI 1) hx hb dX4_givesRooms_187 (by decide) ?_
            refine lv_goto (tgt := 192) hx hb dX4_givesRooms_188 (by decide) ?_
            refine sM_13 hx hb hK hP hI (fun _ h => h) hS (by omega) (rfl) dX4_givesRooms_192 (fun H locs hP hS => ?_)
            refine lv_iinc (v := nI (i + 1)) (lv' := [(5, .int (nI (i + 1))), (0, .ref (am 0)), (1, .int xm), (2, .long (lN (wsum pf la (tL tk n)))), (4, .int (nI (gW rf tk (hit pf rf (tL tk n) la mm) n)))]) hx hb dX4_givesRooms_193 hl (k := 4) rfl (zz_inc _) (by decide) rfl (fun ls hl => ?_)
            refine lv_goto (tgt := 151) hx hb dX4_givesRooms_196 (by decide) ?_
            have e_9 : upd (mixF (fuF tk (off pf rf (tL tk n) la mm)) fu i) i (nI 1) = mixF (fuF tk (off pf rf (tL tk n) la mm)) fu (i + 1) := mixF_s (fu_1 (zz_ifp c_173) c_184)
            rw [e_9] at hP
            exact ih_151 (i + 1) (by omega) (by omega) _ _ hP hS ls (lv_sub hl [1, 2, 3, 4, 0] rfl)
    · refine lv_aload_n hx hb dX4_givesRooms_65 rfl (lv_at hl 0 rfl) ?_
      refine lv_iload hx hb dX4_givesRooms_66 (lv_at hl 4 rfl) ?_
      refine k_X4_isLeft l (k := i) (hn := hn) (hT := hT) (hF := hF) (hk := (by omega)) hx hb hml hown hts hK hP gX4_givesRooms_X4_isLeft ⟨Nat.le_of_ble_eq_true rfl, Nat.le_of_ble_eq_true rfl⟩ ⟨Nat.le_of_ble_eq_true rfl, Nat.le_of_ble_eq_true rfl⟩ hl.1 (Nat.le_of_ble_eq_true rfl) dX4_givesRooms_68 ?_
      refine zi_eq (tgt := 108) hx hb (by split <;> decide) dX4_givesRooms_71 (by decide) (fun c_71 => ?_) (fun c_71 => ?_)
      · refine lv_iconst (v := nI 0) hx hb dX4_givesRooms_108 (by decide) ?_
        refine lv_istore (lv' := [(6, .int (nI 0)), (0, .ref (am 0)), (1, .int xm), (2, .long (lN (wsum pf la (tL tk n)))), (4, .int (nI (gW rf tk (hit pf rf (tL tk n) la mm) i))), (5, .int (nI i))]) hx hb dX4_givesRooms_109 hl (by decide) rfl (fun ls hl => ?_)
        refine lv_iload hx hb dX4_givesRooms_111 (lv_at hl 0 rfl) ?_
        refine zi_eq (tgt := 142) hx hb (by decide) dX4_givesRooms_113 (by decide) (fun c_113 => ?_) (fun c_113 => (show False by omega).elim)
        have hh : ¬ (tk i && hit pf rf (tL tk n) la mm i) = true := fun h9 => zz_ifq c_71 (by have h8 := band2 h9; unfold hit at h8; rw [h8.1]; exact (band2 h8.2).1)
        refine lv_iinc (v := nI (i + 1)) (lv' := [(5, .int (nI (i + 1))), (6, .int (nI 0)), (0, .ref (am 0)), (1, .int xm), (2, .long (lN (wsum pf la (tL tk n)))), (4, .int (nI (gW rf tk (hit pf rf (tL tk n) la mm) i)))]) hx hb dX4_givesRooms_142 hl (k := 5) rfl (zz_inc _) (by decide) rfl (fun ls hl => ?_)
        refine lv_goto (tgt := 56) hx hb dX4_givesRooms_145 (by decide) ?_
        have e_10 : nI (gW rf tk (hit pf rf (tL tk n) la mm) i) = nI (gW rf tk (hit pf rf (tL tk n) la mm) (i + 1)) := by rw [gW_n hh]
        rw [e_10] at hl
        have e_11 : mixF (htF pf rf tk la n mm sh) (mixF (clF tk la sh) sh n) i = mixF (htF pf rf tk la n mm sh) (mixF (clF tk la sh) sh n) (i + 1) := mixF_n (htF_n (by omega) hh)
        rw [e_11] at hP
        exact ih_56 (i + 1) (by omega) (by omega) _ _ hP hS ls (lv_sub hl [2, 3, 4, 5, 0] rfl)
      · obtain ⟨htk, hla⟩ := band2 (zz_ifp c_71)
        obtain ⟨⟨hd1, hd2⟩, ⟨hd3, hd4, hd5⟩, hd6, hd7⟩ := hD i (by omega)
        refine lv_aload_n hx hb dX4_givesRooms_74 rfl (lv_at hl 0 rfl) ?_
        refine gM_0_3 hx hb hts hiX4 hown hK hP hf7 dX4_givesRooms_75 ?_
        refine lv_aload_n hx hb dX4_givesRooms_78 rfl (lv_at hl 0 rfl) ?_
        refine gM_0_8 hx hb hts hiX4 hown hK hP hf19 dX4_givesRooms_79 ?_
        refine lv_iload hx hb dX4_givesRooms_82 (lv_at hl 4 rfl) ?_
        refine lM_4 hx hb hK hP (by omega) dX4_givesRooms_84 ?_
        refine zt_i (y := nI (gN gr i)) (hd1) ?_
        refine lM_1 hx hb hK hP (hd2) dX4_givesRooms_85 ?_
        refine zt_i (y := nI (pf i)) (hd3) ?_
        refine lv_i2l (v := lN (pf i)) hx hb dX4_givesRooms_86 (nI_l (by omega)) ?_
        refine lv_iload_n hx hb dX4_givesRooms_87 rfl (lv_at hl 1 rfl) ?_
        refine zt_i (y := nI mm) (hM i (by omega) htk) ?_
        refine lv_i2l (v := lN mm) hx hb dX4_givesRooms_88 (nI_l (by omega)) ?_
        refine lv_lmul hx hb dX4_givesRooms_89 ?_
        refine zt_l (y := lN ((pf i) * mm)) (lN_mul _ _) ?_
        refine lv_aload_n hx hb dX4_givesRooms_90 rfl (lv_at hl 0 rfl) ?_
        refine gM_0_20 hx hb hts hiX4 hown hK hP hf53 dX4_givesRooms_91 ?_
        refine lv_iload hx hb dX4_givesRooms_94 (lv_at hl 4 rfl) ?_
        refine lM_15 hx hb hK hP (by omega) dX4_givesRooms_96 ?_
        refine zt_i (y := nI (rf i)) (hd6) ?_
        refine lv_i2l (v := lN (rf i)) hx hb dX4_givesRooms_97 (nI_l (by omega)) ?_
        refine lv_lload_n hx hb dX4_givesRooms_98 rfl (lv_at hl 2 rfl) ?_
        refine lv_lmul hx hb dX4_givesRooms_99 ?_
        refine zt_l (y := lN ((rf i) * (wsum pf la (tL tk n)))) (lN_mul _ _) ?_
        refine W.lcmp hx hb dX4_givesRooms_100 ?_
        refine zg_lt (tgt := 108) hx hb dX4_givesRooms_101 (by decide) (fun c_101 => ?_) (fun c_101 => ?_)
        · refine lv_iconst (v := nI 0) hx hb dX4_givesRooms_108 (by decide) ?_
          refine lv_istore (lv' := [(6, .int (nI 0)), (0, .ref (am 0)), (1, .int xm), (2, .long (lN (wsum pf la (tL tk n)))), (4, .int (nI (gW rf tk (hit pf rf (tL tk n) la mm) i))), (5, .int (nI i))]) hx hb dX4_givesRooms_109 hl (by decide) rfl (fun ls hl => ?_)
          refine lv_iload hx hb dX4_givesRooms_111 (lv_at hl 0 rfl) ?_
          refine zi_eq (tgt := 142) hx hb (by decide) dX4_givesRooms_113 (by decide) (fun c_113 => ?_) (fun c_113 => (show False by omega).elim)
          have hh : ¬ (tk i && hit pf rf (tL tk n) la mm i) = true := by rw [htk, Bool.true_and, zz_hitn (Nat.not_le.mpr ((pk_lLT (zz_pm hd5 hmm (by decide)) (zz_pm hd7 h24 (by decide))).mp c_101))]; decide
          refine lv_iinc (v := nI (i + 1)) (lv' := [(5, .int (nI (i + 1))), (6, .int (nI 0)), (0, .ref (am 0)), (1, .int xm), (2, .long (lN (wsum pf la (tL tk n)))), (4, .int (nI (gW rf tk (hit pf rf (tL tk n) la mm) i)))]) hx hb dX4_givesRooms_142 hl (k := 5) rfl (zz_inc _) (by decide) rfl (fun ls hl => ?_)
          refine lv_goto (tgt := 56) hx hb dX4_givesRooms_145 (by decide) ?_
          have e_12 : nI (gW rf tk (hit pf rf (tL tk n) la mm) i) = nI (gW rf tk (hit pf rf (tL tk n) la mm) (i + 1)) := by rw [gW_n hh]
          rw [e_12] at hl
          have e_13 : mixF (htF pf rf tk la n mm sh) (mixF (clF tk la sh) sh n) i = mixF (htF pf rf tk la n mm sh) (mixF (clF tk la sh) sh n) (i + 1) := mixF_n (htF_n (by omega) hh)
          rw [e_13] at hP
          exact ih_56 (i + 1) (by omega) (by omega) _ _ hP hS ls (lv_sub hl [2, 3, 4, 5, 0] rfl)
        · refine lv_iconst (v := nI 1) hx hb dX4_givesRooms_104 (by decide) ?_
          refine lv_goto (tgt := 109) hx hb dX4_givesRooms_105 (by decide) ?_
          refine lv_istore (lv' := [(6, .int (nI 1)), (0, .ref (am 0)), (1, .int xm), (2, .long (lN (wsum pf la (tL tk n)))), (4, .int (nI (gW rf tk (hit pf rf (tL tk n) la mm) i))), (5, .int (nI i))]) hx hb dX4_givesRooms_109 hl (by decide) rfl (fun ls hl => ?_)
          refine lv_iload hx hb dX4_givesRooms_111 (lv_at hl 0 rfl) ?_
          refine zi_eq (tgt := 142) hx hb (by decide) dX4_givesRooms_113 (by decide) (fun c_113 => (show False by omega).elim) (fun c_113 => ?_)
          have hch : rf i * wsum pf la (tL tk n) ≤ pf i * mm := Nat.le_of_not_lt (fun h9 => c_101 ((pk_lLT (zz_pm hd5 hmm (by decide)) (zz_pm hd7 h24 (by decide))).mpr h9))
          have hh : (tk i && hit pf rf (tL tk n) la mm i) = true := by rw [htk, Bool.true_and]; exact zz_hity hla hch
          have hg1 := gW_le rf tk (hit pf rf (tL tk n) la mm) (show i + 1 ≤ n by omega)
          have hg2 := hg1
          rw [gW_y hh] at hg1
          refine lv_aload_n hx hb dX4_givesRooms_116 rfl (lv_at hl 1 rfl) ?_
          refine gM_0_19 hx hb hts hiX4 hown hK hP hf50 dX4_givesRooms_117 ?_
          refine lv_iload hx hb dX4_givesRooms_120 (lv_at hl 5 rfl) ?_
          refine lv_aload_n hx hb dX4_givesRooms_122 rfl (lv_at hl 1 rfl) ?_
          refine gM_0_20 hx hb hts hiX4 hown hK hP hf53 dX4_givesRooms_123 ?_
          refine lv_iload hx hb dX4_givesRooms_126 (lv_at hl 5 rfl) ?_
          refine lM_15 hx hb hK hP (by omega) dX4_givesRooms_128 ?_
          refine zt_i (y := nI (rf i)) (hd6) ?_
          refine sM_14 hx hb hK hP hI (fun _ h => h) hS (by omega) dX4_givesRooms_129 (fun H locs hP hS => ?_)
          refine lv_iload hx hb dX4_givesRooms_130 (lv_at hl 4 rfl) ?_
          refine lv_aload_n hx hb dX4_givesRooms_132 rfl (lv_at hl 1 rfl) ?_
          refine gM_0_19 hx hb hts hiX4 hown hK hP hf50 dX4_givesRooms_133 ?_
          refine lv_iload hx hb dX4_givesRooms_136 (lv_at hl 5 rfl) ?_
          refine lM_14 hx hb hK hP (by omega) dX4_givesRooms_138 ?_
          refine zt_i (y := nI (rf i)) (upd_at _ _ _) ?_
          refine lv_iadd hx hb dX4_givesRooms_139 ?_
          refine zt_i (y := nI ((gW rf tk (hit pf rf (tL tk n) la mm) i) + (rf i))) (nI_add _ _) ?_
          refine lv_istore (lv' := [(4, .int (nI ((gW rf tk (hit pf rf (tL tk n) la mm) i) + (rf i)))), (6, .int (nI 1)), (0, .ref (am 0)), (1, .int xm), (2, .long (lN (wsum pf la (tL tk n)))), (5, .int (nI i))]) hx hb dX4_givesRooms_140 hl (by decide) rfl (fun ls hl => ?_)
          skip
          refine lv_iinc (v := nI (i + 1)) (lv' := [(5, .int (nI (i + 1))), (4, .int (nI ((gW rf tk (hit pf rf (tL tk n) la mm) i) + (rf i)))), (6, .int (nI 1)), (0, .ref (am 0)), (1, .int xm), (2, .long (lN (wsum pf la (tL tk n))))]) hx hb dX4_givesRooms_142 hl (k := 5) rfl (zz_inc _) (by decide) rfl (fun ls hl => ?_)
          refine lv_goto (tgt := 56) hx hb dX4_givesRooms_145 (by decide) ?_
          have e_14 : nI ((gW rf tk (hit pf rf (tL tk n) la mm) i) + (rf i)) = nI (gW rf tk (hit pf rf (tL tk n) la mm) (i + 1)) := by rw [gW_y hh]
          rw [e_14] at hl
          have e_15 : upd (mixF (htF pf rf tk la n mm sh) (mixF (clF tk la sh) sh n) i) i (nI (rf i)) = mixF (htF pf rf tk la n mm sh) (mixF (clF tk la sh) sh n) (i + 1) := mixF_s (htF_y hh)
          rw [e_15] at hP
          exact ih_56 (i + 1) (by omega) (by omega) _ _ hP hS ls (lv_sub hl [3, 4, 5, 1, 0] rfl)
  · refine lv_aload_n hx hb dX4_givesRooms_20 rfl (lv_at hl 0 rfl) ?_
    refine gM_0_19 hx hb hts hiX4 hown hK hP hf50 dX4_givesRooms_21 ?_
    refine lv_iload hx hb dX4_givesRooms_24 (lv_at hl 4 rfl) ?_
    refine lv_aload_n hx hb dX4_givesRooms_26 rfl (lv_at hl 0 rfl) ?_
    refine lv_iload hx hb dX4_givesRooms_27 (lv_at hl 4 rfl) ?_
    refine k_X4_isLeft l (k := i) (hn := hn) (hT := hT) (hF := hF) (hk := (by omega)) hx hb hml hown hts hK hP gX4_givesRooms_X4_isLeft ⟨Nat.le_of_ble_eq_true rfl, Nat.le_of_ble_eq_true rfl⟩ ⟨Nat.le_of_ble_eq_true rfl, Nat.le_of_ble_eq_true rfl⟩ hl.1 (Nat.le_of_ble_eq_true rfl) dX4_givesRooms_29 ?_
    refine zi_eq (tgt := 39) hx hb (by split <;> decide) dX4_givesRooms_32 (by decide) (fun c_32 => ?_) (fun c_32 => ?_)
    · refine lv_aload_n hx hb dX4_givesRooms_39 rfl (lv_at hl 0 rfl) ?_
      refine gM_0_19 hx hb hts hiX4 hown hK hP hf50 dX4_givesRooms_40 ?_
      refine lv_iload hx hb dX4_givesRooms_43 (lv_at hl 4 rfl) ?_
      refine lM_14 hx hb hK hP (by omega) dX4_givesRooms_45 ?_
      refine sM_14 hx hb hK hP hI (fun _ h => h) hS (by omega) dX4_givesRooms_46 (fun H locs hP hS => ?_)
      refine lv_iinc (v := nI (i + 1)) (lv' := [(5, .int (nI (i + 1))), (0, .ref (am 0)), (1, .int xm), (2, .long (lN (wsum pf la (tL tk n)))), (4, .int (nI 0))]) hx hb dX4_givesRooms_47 hl (k := 4) rfl (zz_inc _) (by decide) rfl (fun ls hl => ?_)
      refine lv_goto (tgt := 11) hx hb dX4_givesRooms_50 (by decide) ?_
      have e_16 : upd (mixF (clF tk la sh) sh i) i ((mixF (clF tk la sh) sh i) i) = mixF (clF tk la sh) sh (i + 1) := mixF_s (by rw [mixF_at]; exact clF_n (zz_ifq c_32))
      rw [e_16] at hP
      exact ih_11 (i + 1) (by omega) (by omega) _ _ hP hS ls (lv_sub hl [1, 2, 3, 4, 0] rfl)
    · refine lv_iconst (v := (-1)) hx hb dX4_givesRooms_35 (by decide) ?_
      refine lv_goto (tgt := 46) hx hb dX4_givesRooms_36 (by decide) ?_
      refine sM_14 hx hb hK hP hI (fun _ h => h) hS (by omega) dX4_givesRooms_46 (fun H locs hP hS => ?_)
      refine lv_iinc (v := nI (i + 1)) (lv' := [(5, .int (nI (i + 1))), (0, .ref (am 0)), (1, .int xm), (2, .long (lN (wsum pf la (tL tk n)))), (4, .int (nI 0))]) hx hb dX4_givesRooms_47 hl (k := 4) rfl (zz_inc _) (by decide) rfl (fun ls hl => ?_)
      refine lv_goto (tgt := 11) hx hb dX4_givesRooms_50 (by decide) ?_
      have e_17 : upd (mixF (clF tk la sh) sh i) i (-1) = mixF (clF tk la sh) sh (i + 1) := mixF_s (clF_y (zz_ifp c_32))
      rw [e_17] at hP
      exact ih_11 (i + 1) (by omega) (by omega) _ _ hP hS ls (lv_sub hl [1, 2, 3, 4, 0] rfl)
section
variable {p : Program} {e : Env} {R : Room} {s : State} {m : MethodId} {args : Array Value} {below : List Frame} {meth : Method} {c : Code} {H : Heap} {locs : List Loc} {cells slots : Nat} {Q : State → Prop} {cc : ByteArray} {pc : Nat} {ls : Array Slot} {rest : List Value} {own : String} {index nL : Nat} {Ts : List Cond} {H0 : Heap} {A0 : Nat → Prop}
theorem k_X4_givesRooms (l : Launch) {dC : Nat → ClassId} {dI : Nat → Nat → Nat} {cI cZ : ClassId} {am : Nat → Nat} {sm fe ex : Int32} {gp gc : Nat → Int32} {dy : Int32} {n : Nat} {pe gr st dl wo : Nat → Int32} {q : Nat} {yc ya yd ys tp fu sh ro : Nat → Int32} {th : Int32} {pf : Nat → Nat} {rf : Nat → Nat} {tk : Nat → Bool} {la : Nat → Bool} {xm : Int32} {mm : Nat} (hn : n ≤ 24) (hT : mT tk n tp) (hF : mF tk la n fu) (hS9 : mS rf tk la n sh) (hD : mdl pf rf n gp gr ro) (hM : ∀ k, k < n → tk k = true → xm = nI mm) (hmm : mm ≤ 10000000) (hx : p.tables.exec = Jvm.exec) (hb : c.code = cc) (hml : c.maxLocals = nL) (hown : s.vm.findClass own = some m.cls) (hts : ∀ w ∈ Ts, w.before args s = true) (hK : va_K (dC, dI) vwCl [(cI, .int), (cZ, .boolean)] s) (hP : va_P (dC, dI) vwCl (wM cI cZ am sm fe ex gp gc dy n pe gr st dl wo q yc ya yd ys tp fu sh ro th) H) (hg9 : GoodIn Ts (wsV own index RX4 yX4_givesRooms wsX4_givesRooms)) (hR9 : 2 + 1 ≤ R.frames ∧ 8 + (7 + 11) + 44 ≤ R.locals) (hc9 : cells ≤ R.cells ∧ slots ≤ R.slots) (hl9 : ls.size = nL) (hw9 : (rest.map fun v => v.category).sum ≤ 8) (hdg : decode cc pc = .ok (.invokevirtual index, 3)) (hI : iwM am) (hA : ∀ x, awM am x → A0 x) (hS : va_S A0 H0 H locs) (kk : ∀ (u9 : (Nat → Int32) × (Nat → Int32)), (mF tk (off pf rf (tL tk n) la mm) n u9.1 ∧ mS rf tk (off pf rf (tL tk n) la mm) n u9.2) → ∀ (H1 : Heap) (locs1 : List Loc), va_P (dC, dI) vwCl (wM cI cZ am sm fe ex gp gc dy n pe gr st dl wo q yc ya yd ys tp u9.1 u9.2 ro th) H1 → va_S A0 H0 H1 locs1 → (∀ q : Nat, q < H.size → ¬ awM am q → H1[q]? = H[q]?) → W p l e R s m args below meth c H1 locs1 cells slots Q (F0 m (pc + 3) ls (.int (nI (wsum rf (hit pf rf (tL tk n) la mm) (tL tk n))) :: rest))) : W p l e R s m args below meth c H locs cells slots Q (F0 m pc ls (.int xm :: .ref (am 0) :: rest)) := va_calli (va_runV (As := [.int xm]) (rest := rest) ⟨hx, hb, hml, hown, hts⟩ (c_X4_givesRooms (dC := dC) (dI := dI) (cI := cI) (cZ := cZ) (am := am) (sm := sm) (fe := fe) (ex := ex) (gp := gp) (gc := gc) (dy := dy) (n := n) (pe := pe) (gr := gr) (st := st) (dl := dl) (wo := wo) (q := q) (yc := yc) (ya := ya) (yd := yd) (ys := ys) (tp := tp) (fu := fu) (sh := sh) (ro := ro) (th := th) (pf := pf) (rf := rf) (tk := tk) (la := la) (xm := xm) (mm := mm) l hI hn hT hF hS9 hD hM hmm) (cwV 1 hts hg9 rfl rfl rfl (by decide +kernel) hR9) ⟨fun a U g mk q => ⟨q.1, q.2.1, va_K.moved (u := U) (U := U.calling g mk a) (Vm.Alike.refl U.vm) q.2.2⟩, rM_0 hK hP, fun U hU hW => ⟨rfl, by rw [hU]; exact hP, va_K.moved hW.alike hK⟩⟩ rfl rfl hl9 rfl (lv_room hw9) hdg hc9) hS (fun q _ h => hA q h) hA (fun r u t H1 locs1 ht _ hu hB hz hk hS1 => by obtain ⟨h9, hu⟩ := hu; subst h9; exact kk u hu H1 locs1 (by rw [ht] at hB; exact hB) hS1 hk)
end
set_option maxHeartbeats 4000000 in
set_option maxRecDepth 100000 in
theorem c_X4_givesRest (l : Launch) {dC : Nat → ClassId} {dI : Nat → Nat → Nat} {cI cZ : ClassId} {am : Nat → Nat} {sm fe ex : Int32} {gp gc : Nat → Int32} {dy : Int32} {n : Nat} {pe gr st dl wo : Nat → Int32} {q : Nat} {yc ya yd ys tp fu sh ro : Nat → Int32} {th : Int32} {pf : Nat → Nat} {rf : Nat → Nat} {tk : Nat → Bool} {la : Nat → Bool} {xm : Int32} {mm : Nat} (hI : iwM am) (hn : n ≤ 24) (hT : mT tk n tp) (hF : mF tk la n fu) (hS9 : mS rf tk la n sh) (hD : mdl pf rf n gp gr ro) (hM : ∀ k, k < n → tk k = true → xm = nI mm) (hmm : mm ≤ 10000000) : Met l yX4_givesRest wsX4_givesRest { frames := 2, cells := 0, slots := 0, locals := 44 } (va_Pc [.ref (am 0), .int xm] (fun U => va_P (dC, dI) vwCl (wM cI cZ am sm fe ex gp gc dy n pe gr st dl wo q yc ya yd ys tp fu sh ro th) U.heap ∧ va_K (dC, dI) vwCl [(cI, .int), (cZ, .boolean)] U)) (va_Qv (fun u9 : (Nat → Int32) => ∀ k, k < n → tk k = true → u9 k = nI (shA pf rf (tL tk n) la mm k)) (fun u9 t => va_P (dC, dI) vwCl (wM cI cZ am sm fe ex gp gc dy n pe gr st dl wo q yc ya yd ys tp fu u9 ro th) t.heap) (awM am)) 0 0 (awM am) := by
  refine Met.ofW (cc := cX4_givesRest) (maxL := 7) (ret := none) (by decide) rfl ?_
  intro p e s m args below meth c s₁ B hml hv
  obtain ⟨rfl, hP, hK⟩ := hv
  have hx := B.exec
  have hb := B.bytes
  have hr := B.returns
  have hts := atoms_spec (ws := wsX4_givesRest) B.pre
  have hown : s.vm.findClass RX4 = some m.cls := findClass_of_methodNamed B.named
  have hlocks := B.notSynchronized
  have hS : va_S (awM am) s.heap s.heap [] := va_S.rf
  have hl := lv_entry ([.ref (am 0), .int xm]) (n := 7) (Nat.le_of_ble_eq_true rfl)
  rw [lg_entry_eq]
  generalize (lg_sl ([.ref (am 0), .int xm]) ++ List.replicate (7 - (lg_sl ([.ref (am 0), .int xm])).length) Slot.unset).toArray = ls at hl ⊢
  have hl : lv_has ls 7 [(0, .ref (am 0)), (1, .int xm)] := hl
  have hB := tL_b hn hD tk
  have h24 := bnd_P hB la
  have hiX4 : ∀ w ∈ wsX40, w ∈ wsX4_givesRest := by decide +kernel
  have hf61 := hts (.fieldLink RX4 61 "SettlementFundModel" "claims" "I") (by decide +kernel)
  have hf50 := hts (.fieldLink RX4 50 "SettlementFundModel" "shares" "[I") (by decide +kernel)
  have hf7 := hts (.fieldLink RX4 7 "SettlementFundModel" "points" "[I") (by decide +kernel)
  have hf19 := hts (.fieldLink RX4 19 "SettlementFundModel" "grades" "[I") (by decide +kernel)
  refine lv_aload_n hx hb dX4_givesRest_0 rfl (lv_at hl 0 rfl) ?_
  refine k_X4_allPoints l (pf := pf) (rf := rf) (tk := tk) (la := la) (hn := hn) (hT := hT) (hF := hF) (hD := hD) hx hb hml hown hts hK hP gX4_givesRest_X4_allPoints ⟨Nat.le_of_ble_eq_true rfl, Nat.le_of_ble_eq_true rfl⟩ ⟨Nat.le_of_ble_eq_true rfl, Nat.le_of_ble_eq_true rfl⟩ hl.1 (Nat.le_of_ble_eq_true rfl) dX4_givesRest_1 ?_
  refine lv_lstore_n (lv' := [(2, .long (lN (wsum pf la (tL tk n)))), (0, .ref (am 0)), (1, .int xm)]) hx hb dX4_givesRest_4 rfl hl (by decide) rfl (fun ls hl => ?_)
  refine lv_iload_n hx hb dX4_givesRest_5 rfl (lv_at hl 2 rfl) ?_
  refine lv_istore (lv' := [(4, .int xm), (2, .long (lN (wsum pf la (tL tk n)))), (0, .ref (am 0)), (1, .int xm)]) hx hb dX4_givesRest_6 hl (by decide) rfl (fun ls hl => ?_)
  refine lv_iconst (v := nI 0) hx hb dX4_givesRest_8 (by decide) ?_
  refine lv_istore (lv' := [(5, .int (nI 0)), (4, .int xm), (2, .long (lN (wsum pf la (tL tk n)))), (0, .ref (am 0)), (1, .int xm)]) hx hb dX4_givesRest_9 hl (by decide) rfl (fun ls hl => ?_)
  have e_1 : sh = mixF (flF pf tk la n mm sh) sh 0 := (mixF_0 _ _).symm
  rw [e_1] at hP
  refine zl_rw (fun a9 : Nat × Int32 => wM cI cZ am sm fe ex gp gc dy n pe gr st dl wo q yc ya yd ys tp fu (mixF (flF pf tk la n mm sh) sh a9.1) ro th) (fun a9 : Nat × Int32 => [(0, .ref (am 0)), (1, .int xm), (2, .long (lN (wsum pf la (tL tk n)))), (4, .int a9.2), (5, .int (nI a9.1))]) (fun a9 : Nat × Int32 => a9.1 ≤ n ∧ (∀ k, k < n → tk k = true → a9.2 = nI (mm - gW (flo pf (tL tk n) la mm) tk la a9.1))) (fun a9 : Nat × Int32 => n - a9.1) (0, xm) (⟨Nat.zero_le _, by rw [gW_0]; exact hM⟩) hP hS (lv_sub hl [3, 4, 2, 1, 0] rfl) ?_
  intro a9 hi_11 ih_11 H locs hP hS ls hl
  obtain ⟨i, w⟩ := a9
  have hi_11 : i ≤ n ∧ (∀ k, k < n → tk k = true → w = nI (mm - gW (flo pf (tL tk n) la mm) tk la i)) := hi_11
  obtain ⟨hi1, hw⟩ := hi_11
  have hl : lv_has ls 7 [(0, .ref (am 0)), (1, .int xm), (2, .long (lN (wsum pf la (tL tk n)))), (4, .int w), (5, .int (nI i))] := hl
  have hP : va_P (dC, dI) vwCl (wM cI cZ am sm fe ex gp gc dy n pe gr st dl wo q yc ya yd ys tp fu (mixF (flF pf tk la n mm sh) sh i) ro th) H := hP
  refine lv_iload hx hb dX4_givesRest_11 (lv_at hl 4 rfl) ?_
  refine lv_aload_n hx hb dX4_givesRest_13 rfl (lv_at hl 0 rfl) ?_
  refine gM_0_6 hx hb hts hiX4 hown hK hP hf61 dX4_givesRest_14 ?_
  refine zb_ge (tgt := 73) hx hb (by omega) (by omega) dX4_givesRest_17 (by decide) (fun c_17 => ?_) (fun c_17 => ?_)
  · refine lv_iconst (v := nI 0) hx hb dX4_givesRest_73 (by decide) ?_
    refine lv_istore (lv' := [(5, .int (nI 0)), (0, .ref (am 0)), (1, .int xm), (2, .long (lN (wsum pf la (tL tk n)))), (4, .int w)]) hx hb dX4_givesRest_74 hl (by decide) rfl (fun ls hl => ?_)
    have e_2 : mixF (flF pf tk la n mm sh) sh i = mixF (rsF pf rf tk la n mm sh) (mixF (flF pf tk la n mm sh) sh n) 0 := by rw [show i = n by omega, mixF_0]
    rw [e_2] at hP
    refine zl_rw (fun a9 : Nat × Int32 => wM cI cZ am sm fe ex gp gc dy n pe gr st dl wo q yc ya yd ys tp fu (mixF (rsF pf rf tk la n mm sh) (mixF (flF pf tk la n mm sh) sh n) a9.1) ro th) (fun a9 : Nat × Int32 => [(0, .ref (am 0)), (1, .int xm), (2, .long (lN (wsum pf la (tL tk n)))), (4, .int a9.2), (5, .int (nI a9.1))]) (fun a9 : Nat × Int32 => a9.1 ≤ n ∧ (∀ k, k < n → tk k = true → a9.2 = nI (over pf (tL tk n) la mm - gW (fun _ => 1) tk la a9.1))) (fun a9 : Nat × Int32 => n - a9.1) (0, w) (⟨Nat.zero_le _, by rw [gW_0, over_eq]; rw [show i = n by omega] at hw; exact hw⟩) hP hS (lv_sub hl [1, 2, 3, 4, 0] rfl) ?_
    intro a9 hi_76 ih_76 H locs hP hS ls hl
    obtain ⟨i, w2⟩ := a9
    have hi_76 : i ≤ n ∧ (∀ k, k < n → tk k = true → w2 = nI (over pf (tL tk n) la mm - gW (fun _ => 1) tk la i)) := hi_76
    obtain ⟨hi2, hw2⟩ := hi_76
    have hl : lv_has ls 7 [(0, .ref (am 0)), (1, .int xm), (2, .long (lN (wsum pf la (tL tk n)))), (4, .int w2), (5, .int (nI i))] := hl
    have hP : va_P (dC, dI) vwCl (wM cI cZ am sm fe ex gp gc dy n pe gr st dl wo q yc ya yd ys tp fu (mixF (rsF pf rf tk la n mm sh) (mixF (flF pf tk la n mm sh) sh n) i) ro th) H := hP
    refine lv_iload hx hb dX4_givesRest_76 (lv_at hl 4 rfl) ?_
    refine lv_aload_n hx hb dX4_givesRest_78 rfl (lv_at hl 0 rfl) ?_
    refine gM_0_6 hx hb hts hiX4 hown hK hP hf61 dX4_givesRest_79 ?_
    refine zb_ge (tgt := 147) hx hb (by omega) (by omega) dX4_givesRest_82 (by decide) (fun c_82 => ?_) (fun c_82 => ?_)
    · exact W.vret hx hb hr (fun t ht hW => ⟨⟨mixF (rsF pf rf tk la n mm sh) (mixF (flF pf tk la n mm sh) sh n) i, rfl, fun k hk h9 => by rw [mixF_lt (by omega)]; exact if_pos h9, by (try dsimp only); rw [ht]; exact hP⟩, hS.F ht⟩) hS.2.2 dX4_givesRest_147
    · refine lv_aload_n hx hb dX4_givesRest_85 rfl (lv_at hl 0 rfl) ?_
      refine lv_iload hx hb dX4_givesRest_86 (lv_at hl 4 rfl) ?_
      refine k_X4_isLeft l (k := i) (hn := hn) (hT := hT) (hF := hF) (hk := (by omega)) hx hb hml hown hts hK hP gX4_givesRest_X4_isLeft ⟨Nat.le_of_ble_eq_true rfl, Nat.le_of_ble_eq_true rfl⟩ ⟨Nat.le_of_ble_eq_true rfl, Nat.le_of_ble_eq_true rfl⟩ hl.1 (Nat.le_of_ble_eq_true rfl) dX4_givesRest_88 ?_
      refine zi_eq (tgt := 103) hx hb (by split <;> decide) dX4_givesRest_91 (by decide) (fun c_91 => ?_) (fun c_91 => ?_)
      · refine lv_iconst (v := nI 0) hx hb dX4_givesRest_103 (by decide) ?_
        refine lv_istore (lv' := [(6, .int (nI 0)), (0, .ref (am 0)), (1, .int xm), (2, .long (lN (wsum pf la (tL tk n)))), (4, .int w2), (5, .int (nI i))]) hx hb dX4_givesRest_104 hl (by decide) rfl (fun ls hl => ?_)
        refine lv_aload_n hx hb dX4_givesRest_106 rfl (lv_at hl 1 rfl) ?_
        refine gM_0_19 hx hb hts hiX4 hown hK hP hf50 dX4_givesRest_107 ?_
        refine lv_iload hx hb dX4_givesRest_110 (lv_at hl 5 rfl) ?_
        refine lv_dup2_11 hx hb dX4_givesRest_112 rfl rfl ?_
        refine lM_14 hx hb hK hP (by omega) dX4_givesRest_113 ?_
        refine zt_i (y := flF pf tk la n mm sh i) (rs_at (by omega)) ?_
        refine lv_iload hx hb dX4_givesRest_114 (lv_at hl 0 rfl) ?_
        refine zi_eq (tgt := 123) hx hb (by decide) dX4_givesRest_116 (by decide) (fun c_116 => ?_) (fun c_116 => (show False by omega).elim)
        refine lv_iconst (v := nI 0) hx hb dX4_givesRest_123 (by decide) ?_
        refine lv_iadd hx hb dX4_givesRest_124 ?_
        refine zt_i (y := flF pf tk la n mm sh i) (zz_a0 _) ?_
        refine sM_14 hx hb hK hP hI (fun _ h => h) hS (by omega) dX4_givesRest_125 (fun H locs hP hS => ?_)
        refine lv_iload hx hb dX4_givesRest_126 (lv_at hl 4 rfl) ?_
        refine lv_iload hx hb dX4_givesRest_128 (lv_at hl 0 rfl) ?_
        refine zi_eq (tgt := 137) hx hb (by decide) dX4_givesRest_130 (by decide) (fun c_130 => ?_) (fun c_130 => (show False by omega).elim)
        refine lv_iconst (v := nI 0) hx hb dX4_givesRest_137 (by decide) ?_
        refine lv_isub hx hb dX4_givesRest_138 ?_
        refine zt_i (y := w2) (zz_s0 _) ?_
        refine lv_istore (lv' := [(4, .int w2), (6, .int (nI 0)), (0, .ref (am 0)), (1, .int xm), (2, .long (lN (wsum pf la (tL tk n)))), (5, .int (nI i))]) hx hb dX4_givesRest_139 hl (by decide) rfl (fun ls hl => ?_)
        refine lv_iinc (v := nI (i + 1)) (lv' := [(5, .int (nI (i + 1))), (4, .int w2), (6, .int (nI 0)), (0, .ref (am 0)), (1, .int xm), (2, .long (lN (wsum pf la (tL tk n))))]) hx hb dX4_givesRest_141 hl (k := 5) rfl (zz_inc _) (by decide) rfl (fun ls hl => ?_)
        refine lv_goto (tgt := 76) hx hb dX4_givesRest_144 (by decide) ?_
        have e_3 : upd (mixF (rsF pf rf tk la n mm sh) (mixF (flF pf tk la n mm sh) sh n) i) i (flF pf tk la n mm sh i) = mixF (rsF pf rf tk la n mm sh) (mixF (flF pf tk la n mm sh) sh n) (i + 1) := mixF_s (rs_n (by omega) hS9 (zz_ifq c_91))
        rw [e_3] at hP
        exact ih_76 (i + 1, w2) (⟨by omega, rest_n hw2 (zz_ifq c_91)⟩) (by omega) _ _ hP hS ls (lv_sub hl [3, 4, 5, 1, 0] rfl)
      · have hnl := zz_ifp c_91
        obtain ⟨htk, hla⟩ := band2 hnl
        have hfl := flo_lt hB la hmm (tL_mem.mpr ⟨(show i < n by omega), htk⟩)
        have hov : over pf (tL tk n) la mm ≤ mm := Nat.sub_le _ _
        refine lv_iload hx hb dX4_givesRest_94 (lv_at hl 3 rfl) ?_
        refine zt_i (y := nI (over pf (tL tk n) la mm - gW (fun _ => 1) tk la i)) (hw2 i (by omega) htk) ?_
        refine zi_le (tgt := 103) hx hb (by omega) dX4_givesRest_96 (by decide) (fun c_96 => ?_) (fun c_96 => ?_)
        · refine lv_iconst (v := nI 0) hx hb dX4_givesRest_103 (by decide) ?_
          refine lv_istore (lv' := [(6, .int (nI 0)), (0, .ref (am 0)), (1, .int xm), (2, .long (lN (wsum pf la (tL tk n)))), (4, .int w2), (5, .int (nI i))]) hx hb dX4_givesRest_104 hl (by decide) rfl (fun ls hl => ?_)
          refine lv_aload_n hx hb dX4_givesRest_106 rfl (lv_at hl 1 rfl) ?_
          refine gM_0_19 hx hb hts hiX4 hown hK hP hf50 dX4_givesRest_107 ?_
          refine lv_iload hx hb dX4_givesRest_110 (lv_at hl 5 rfl) ?_
          refine lv_dup2_11 hx hb dX4_givesRest_112 rfl rfl ?_
          refine lM_14 hx hb hK hP (by omega) dX4_givesRest_113 ?_
          refine zt_i (y := flF pf tk la n mm sh i) (rs_at (by omega)) ?_
          refine lv_iload hx hb dX4_givesRest_114 (lv_at hl 0 rfl) ?_
          refine zi_eq (tgt := 123) hx hb (by decide) dX4_givesRest_116 (by decide) (fun c_116 => ?_) (fun c_116 => (show False by omega).elim)
          refine lv_iconst (v := nI 0) hx hb dX4_givesRest_123 (by decide) ?_
          refine lv_iadd hx hb dX4_givesRest_124 ?_
          refine zt_i (y := flF pf tk la n mm sh i) (zz_a0 _) ?_
          refine sM_14 hx hb hK hP hI (fun _ h => h) hS (by omega) dX4_givesRest_125 (fun H locs hP hS => ?_)
          refine lv_iload hx hb dX4_givesRest_126 (lv_at hl 4 rfl) ?_
          refine lv_iload hx hb dX4_givesRest_128 (lv_at hl 0 rfl) ?_
          refine zi_eq (tgt := 137) hx hb (by decide) dX4_givesRest_130 (by decide) (fun c_130 => ?_) (fun c_130 => (show False by omega).elim)
          refine lv_iconst (v := nI 0) hx hb dX4_givesRest_137 (by decide) ?_
          refine lv_isub hx hb dX4_givesRest_138 ?_
          refine zt_i (y := w2) (zz_s0 _) ?_
          refine lv_istore (lv' := [(4, .int w2), (6, .int (nI 0)), (0, .ref (am 0)), (1, .int xm), (2, .long (lN (wsum pf la (tL tk n)))), (5, .int (nI i))]) hx hb dX4_givesRest_139 hl (by decide) rfl (fun ls hl => ?_)
          refine lv_iinc (v := nI (i + 1)) (lv' := [(5, .int (nI (i + 1))), (4, .int w2), (6, .int (nI 0)), (0, .ref (am 0)), (1, .int xm), (2, .long (lN (wsum pf la (tL tk n))))]) hx hb dX4_givesRest_141 hl (k := 5) rfl (zz_inc _) (by decide) rfl (fun ls hl => ?_)
          refine lv_goto (tgt := 76) hx hb dX4_givesRest_144 (by decide) ?_
          have e_4 : upd (mixF (rsF pf rf tk la n mm sh) (mixF (flF pf tk la n mm sh) sh n) i) i (flF pf tk la n mm sh i) = mixF (rsF pf rf tk la n mm sh) (mixF (flF pf tk la n mm sh) sh n) (i + 1) := mixF_s (rs_0 (by omega) (zz_ifp c_91) c_96)
          rw [e_4] at hP
          exact ih_76 (i + 1, w2) (⟨by omega, rest_z hw2 (zz_ifp c_91) c_96⟩) (by omega) _ _ hP hS ls (lv_sub hl [3, 4, 5, 1, 0] rfl)
        · refine lv_iconst (v := nI 1) hx hb dX4_givesRest_99 (by decide) ?_
          refine lv_goto (tgt := 104) hx hb dX4_givesRest_100 (by decide) ?_
          refine lv_istore (lv' := [(6, .int (nI 1)), (0, .ref (am 0)), (1, .int xm), (2, .long (lN (wsum pf la (tL tk n)))), (4, .int w2), (5, .int (nI i))]) hx hb dX4_givesRest_104 hl (by decide) rfl (fun ls hl => ?_)
          refine lv_aload_n hx hb dX4_givesRest_106 rfl (lv_at hl 1 rfl) ?_
          refine gM_0_19 hx hb hts hiX4 hown hK hP hf50 dX4_givesRest_107 ?_
          refine lv_iload hx hb dX4_givesRest_110 (lv_at hl 5 rfl) ?_
          refine lv_dup2_11 hx hb dX4_givesRest_112 rfl rfl ?_
          refine lM_14 hx hb hK hP (by omega) dX4_givesRest_113 ?_
          refine zt_i (y := nI (flo pf (tL tk n) la mm i)) (rs_at1 (by omega) hnl) ?_
          refine lv_iload hx hb dX4_givesRest_114 (lv_at hl 0 rfl) ?_
          refine zi_eq (tgt := 123) hx hb (by decide) dX4_givesRest_116 (by decide) (fun c_116 => (show False by omega).elim) (fun c_116 => ?_)
          refine lv_iconst (v := nI 1) hx hb dX4_givesRest_119 (by decide) ?_
          refine lv_goto (tgt := 124) hx hb dX4_givesRest_120 (by decide) ?_
          refine lv_iadd hx hb dX4_givesRest_124 ?_
          refine zt_i (y := nI ((flo pf (tL tk n) la mm i) + 1)) (nI_add _ _) ?_
          refine sM_14 hx hb hK hP hI (fun _ h => h) hS (by omega) dX4_givesRest_125 (fun H locs hP hS => ?_)
          refine lv_iload hx hb dX4_givesRest_126 (lv_at hl 4 rfl) ?_
          refine lv_iload hx hb dX4_givesRest_128 (lv_at hl 0 rfl) ?_
          refine zi_eq (tgt := 137) hx hb (by decide) dX4_givesRest_130 (by decide) (fun c_130 => (show False by omega).elim) (fun c_130 => ?_)
          refine lv_iconst (v := nI 1) hx hb dX4_givesRest_133 (by decide) ?_
          refine lv_goto (tgt := 138) hx hb dX4_givesRest_134 (by decide) ?_
          refine lv_isub hx hb dX4_givesRest_138 ?_
          refine lv_istore (lv' := [(4, .int (w2 - (nI 1))), (6, .int (nI 1)), (0, .ref (am 0)), (1, .int xm), (2, .long (lN (wsum pf la (tL tk n)))), (5, .int (nI i))]) hx hb dX4_givesRest_139 hl (by decide) rfl (fun ls hl => ?_)
          refine lv_iinc (v := nI (i + 1)) (lv' := [(5, .int (nI (i + 1))), (4, .int (w2 - (nI 1))), (6, .int (nI 1)), (0, .ref (am 0)), (1, .int xm), (2, .long (lN (wsum pf la (tL tk n))))]) hx hb dX4_givesRest_141 hl (k := 5) rfl (zz_inc _) (by decide) rfl (fun ls hl => ?_)
          refine lv_goto (tgt := 76) hx hb dX4_givesRest_144 (by decide) ?_
          have e_5 : upd (mixF (rsF pf rf tk la n mm sh) (mixF (flF pf tk la n mm sh) sh n) i) i (nI ((flo pf (tL tk n) la mm i) + 1)) = mixF (rsF pf rf tk la n mm sh) (mixF (flF pf tk la n mm sh) sh n) (i + 1) := mixF_s (rs_1 (by omega) hnl c_96)
          rw [e_5] at hP
          exact ih_76 (i + 1, w2 - (nI 1)) (⟨by omega, rest_y (w := fun _ => 1) hw2 hnl (by rw [gW_y hnl]; omega)⟩) (by omega) _ _ hP hS ls (lv_sub hl [3, 4, 5, 1, 0] rfl)
  · refine lv_aload_n hx hb dX4_givesRest_20 rfl (lv_at hl 0 rfl) ?_
    refine lv_iload hx hb dX4_givesRest_21 (lv_at hl 4 rfl) ?_
    refine k_X4_isLeft l (k := i) (hn := hn) (hT := hT) (hF := hF) (hk := (by omega)) hx hb hml hown hts hK hP gX4_givesRest_X4_isLeft ⟨Nat.le_of_ble_eq_true rfl, Nat.le_of_ble_eq_true rfl⟩ ⟨Nat.le_of_ble_eq_true rfl, Nat.le_of_ble_eq_true rfl⟩ hl.1 (Nat.le_of_ble_eq_true rfl) dX4_givesRest_23 ?_
    refine zi_eq (tgt := 67) hx hb (by split <;> decide) dX4_givesRest_26 (by decide) (fun c_26 => ?_) (fun c_26 => ?_)
    · refine lv_iinc (v := nI (i + 1)) (lv' := [(5, .int (nI (i + 1))), (0, .ref (am 0)), (1, .int xm), (2, .long (lN (wsum pf la (tL tk n)))), (4, .int w)]) hx hb dX4_givesRest_67 hl (k := 4) rfl (zz_inc _) (by decide) rfl (fun ls hl => ?_)
      refine lv_goto (tgt := 11) hx hb dX4_givesRest_70 (by decide) ?_
      have e_6 : mixF (flF pf tk la n mm sh) sh i = mixF (flF pf tk la n mm sh) sh (i + 1) := mixF_n (flF_n (zz_ifq c_26))
      rw [e_6] at hP
      exact ih_11 (i + 1, w) (⟨by omega, rest_n hw (zz_ifq c_26)⟩) (by omega) _ _ hP hS ls (lv_sub hl [1, 2, 3, 4, 0] rfl)
    · obtain ⟨htk, hla⟩ := band2 (zz_ifp c_26)
      obtain ⟨⟨hd1, hd2⟩, ⟨hd3, hd4, hd5⟩, hd6, hd7⟩ := hD i (by omega)
      have hfl := flo_lt hB la hmm (tL_mem.mpr ⟨(show i < n by omega), htk⟩)
      have hP1 : 1 ≤ wsum pf la (tL tk n) := Nat.le_trans hd4 (wsum_mem (tL_mem.mpr ⟨(show i < n by omega), htk⟩) hla)
      have hP0 : ¬ wsum pf la (tL tk n) = 0 := by omega
      refine lv_aload_n hx hb dX4_givesRest_29 rfl (lv_at hl 0 rfl) ?_
      refine gM_0_19 hx hb hts hiX4 hown hK hP hf50 dX4_givesRest_30 ?_
      refine lv_iload hx hb dX4_givesRest_33 (lv_at hl 4 rfl) ?_
      refine lv_aload_n hx hb dX4_givesRest_35 rfl (lv_at hl 0 rfl) ?_
      refine gM_0_3 hx hb hts hiX4 hown hK hP hf7 dX4_givesRest_36 ?_
      refine lv_aload_n hx hb dX4_givesRest_39 rfl (lv_at hl 0 rfl) ?_
      refine gM_0_8 hx hb hts hiX4 hown hK hP hf19 dX4_givesRest_40 ?_
      refine lv_iload hx hb dX4_givesRest_43 (lv_at hl 4 rfl) ?_
      refine lM_4 hx hb hK hP (by omega) dX4_givesRest_45 ?_
      refine zt_i (y := nI (gN gr i)) (hd1) ?_
      refine lM_1 hx hb hK hP (hd2) dX4_givesRest_46 ?_
      refine zt_i (y := nI (pf i)) (hd3) ?_
      refine lv_i2l (v := lN (pf i)) hx hb dX4_givesRest_47 (nI_l (by omega)) ?_
      refine lv_iload_n hx hb dX4_givesRest_48 rfl (lv_at hl 1 rfl) ?_
      refine zt_i (y := nI mm) (hM i (by omega) htk) ?_
      refine lv_i2l (v := lN mm) hx hb dX4_givesRest_49 (nI_l (by omega)) ?_
      refine lv_lmul hx hb dX4_givesRest_50 ?_
      refine zt_l (y := lN ((pf i) * mm)) (lN_mul _ _) ?_
      refine lv_lload_n hx hb dX4_givesRest_51 rfl (lv_at hl 2 rfl) ?_
      refine lv_ldiv hx hb dX4_givesRest_52 (fun h9 => hP0 ((pk_lEQ (by omega) (by decide)).mp (show lN (wsum pf la (tL tk n)) = lN 0 from h9))) ?_
      refine zt_l (y := lN (flo pf (tL tk n) la mm i)) (pk_lDiv (zz_pm hd5 hmm (by decide)) (by omega) (by omega)) ?_
      refine lv_l2i (v := nI (flo pf (tL tk n) la mm i)) hx hb dX4_givesRest_53 (lN_i _) ?_
      refine sM_14 hx hb hK hP hI (fun _ h => h) hS (by omega) dX4_givesRest_54 (fun H locs hP hS => ?_)
      refine lv_iload hx hb dX4_givesRest_55 (lv_at hl 3 rfl) ?_
      refine lv_aload_n hx hb dX4_givesRest_57 rfl (lv_at hl 0 rfl) ?_
      refine gM_0_19 hx hb hts hiX4 hown hK hP hf50 dX4_givesRest_58 ?_
      refine lv_iload hx hb dX4_givesRest_61 (lv_at hl 4 rfl) ?_
      refine lM_14 hx hb hK hP (by omega) dX4_givesRest_63 ?_
      refine zt_i (y := nI (flo pf (tL tk n) la mm i)) (upd_at _ _ _) ?_
      refine lv_isub hx hb dX4_givesRest_64 ?_
      refine lv_istore (lv' := [(4, .int (w - (nI (flo pf (tL tk n) la mm i)))), (0, .ref (am 0)), (1, .int xm), (2, .long (lN (wsum pf la (tL tk n)))), (5, .int (nI i))]) hx hb dX4_givesRest_65 hl (by decide) rfl (fun ls hl => ?_)
      refine lv_iinc (v := nI (i + 1)) (lv' := [(5, .int (nI (i + 1))), (4, .int (w - (nI (flo pf (tL tk n) la mm i)))), (0, .ref (am 0)), (1, .int xm), (2, .long (lN (wsum pf la (tL tk n))))]) hx hb dX4_givesRest_67 hl (k := 4) rfl (zz_inc _) (by decide) rfl (fun ls hl => ?_)
      refine lv_goto (tgt := 11) hx hb dX4_givesRest_70 (by decide) ?_
      have e_7 : upd (mixF (flF pf tk la n mm sh) sh i) i (nI (flo pf (tL tk n) la mm i)) = mixF (flF pf tk la n mm sh) sh (i + 1) := mixF_s (flF_y (zz_ifp c_26))
      rw [e_7] at hP
      exact ih_11 (i + 1, w - (nI (flo pf (tL tk n) la mm i))) (⟨by omega, rest_y hw (zz_ifp c_26) (flo_le9 pf tk la n mm (by omega))⟩) (by omega) _ _ hP hS ls (lv_sub hl [2, 3, 4, 1, 0] rfl)
section
variable {p : Program} {e : Env} {R : Room} {s : State} {m : MethodId} {args : Array Value} {below : List Frame} {meth : Method} {c : Code} {H : Heap} {locs : List Loc} {cells slots : Nat} {Q : State → Prop} {cc : ByteArray} {pc : Nat} {ls : Array Slot} {rest : List Value} {own : String} {index nL : Nat} {Ts : List Cond} {H0 : Heap} {A0 : Nat → Prop}
theorem k_X4_givesRest (l : Launch) {dC : Nat → ClassId} {dI : Nat → Nat → Nat} {cI cZ : ClassId} {am : Nat → Nat} {sm fe ex : Int32} {gp gc : Nat → Int32} {dy : Int32} {n : Nat} {pe gr st dl wo : Nat → Int32} {q : Nat} {yc ya yd ys tp fu sh ro : Nat → Int32} {th : Int32} {pf : Nat → Nat} {rf : Nat → Nat} {tk : Nat → Bool} {la : Nat → Bool} {xm : Int32} {mm : Nat} (hn : n ≤ 24) (hT : mT tk n tp) (hF : mF tk la n fu) (hS9 : mS rf tk la n sh) (hD : mdl pf rf n gp gr ro) (hM : ∀ k, k < n → tk k = true → xm = nI mm) (hmm : mm ≤ 10000000) (hx : p.tables.exec = Jvm.exec) (hb : c.code = cc) (hml : c.maxLocals = nL) (hown : s.vm.findClass own = some m.cls) (hts : ∀ w ∈ Ts, w.before args s = true) (hK : va_K (dC, dI) vwCl [(cI, .int), (cZ, .boolean)] s) (hP : va_P (dC, dI) vwCl (wM cI cZ am sm fe ex gp gc dy n pe gr st dl wo q yc ya yd ys tp fu sh ro th) H) (hg9 : GoodIn Ts (wsV own index RX4 yX4_givesRest wsX4_givesRest)) (hR9 : 2 + 1 ≤ R.frames ∧ 8 + (7 + 11) + 44 ≤ R.locals) (hc9 : cells ≤ R.cells ∧ slots ≤ R.slots) (hl9 : ls.size = nL) (hw9 : (rest.map fun v => v.category).sum ≤ 8) (hdg : decode cc pc = .ok (.invokevirtual index, 3)) (hI : iwM am) (hA : ∀ x, awM am x → A0 x) (hS : va_S A0 H0 H locs) (kk : ∀ (u9 : (Nat → Int32)), (∀ k, k < n → tk k = true → u9 k = nI (shA pf rf (tL tk n) la mm k)) → ∀ (H1 : Heap) (locs1 : List Loc), va_P (dC, dI) vwCl (wM cI cZ am sm fe ex gp gc dy n pe gr st dl wo q yc ya yd ys tp fu u9 ro th) H1 → va_S A0 H0 H1 locs1 → (∀ q : Nat, q < H.size → ¬ awM am q → H1[q]? = H[q]?) → W p l e R s m args below meth c H1 locs1 cells slots Q (F0 m (pc + 3) ls rest)) : W p l e R s m args below meth c H locs cells slots Q (F0 m pc ls (.int xm :: .ref (am 0) :: rest)) := va_callv (va_runV (As := [.int xm]) (rest := rest) ⟨hx, hb, hml, hown, hts⟩ (c_X4_givesRest (dC := dC) (dI := dI) (cI := cI) (cZ := cZ) (am := am) (sm := sm) (fe := fe) (ex := ex) (gp := gp) (gc := gc) (dy := dy) (n := n) (pe := pe) (gr := gr) (st := st) (dl := dl) (wo := wo) (q := q) (yc := yc) (ya := ya) (yd := yd) (ys := ys) (tp := tp) (fu := fu) (sh := sh) (ro := ro) (th := th) (pf := pf) (rf := rf) (tk := tk) (la := la) (xm := xm) (mm := mm) l hI hn hT hF hS9 hD hM hmm) (cwV 1 hts hg9 rfl rfl rfl (by decide +kernel) hR9) ⟨fun a U g mk q => ⟨q.1, q.2.1, va_K.moved (u := U) (U := U.calling g mk a) (Vm.Alike.refl U.vm) q.2.2⟩, rM_0 hK hP, fun U hU hW => ⟨rfl, by rw [hU]; exact hP, va_K.moved hW.alike hK⟩⟩ rfl rfl hl9 rfl (lv_room hw9) hdg hc9) hS (fun q _ h => hA q h) hA (fun u t H1 locs1 ht _ hu hB hz hk hS1 => kk u hu H1 locs1 (by rw [ht] at hB; exact hB) hS1 hk)
end
