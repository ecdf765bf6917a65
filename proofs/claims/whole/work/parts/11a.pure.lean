/-! the order of room by points -/
theorem zz_dec {k : Nat} (h : 0 < k) : nI k + Int32.ofInt (-1) = nI (k - 1) := by
  obtain ⟨j, rfl⟩ : ∃ j, k = j + 1 := ⟨k - 1, by omega⟩
  rw [Nat.add_sub_cancel]; exact pk_m1 j
def swL (L : List Nat) (i j : Nat) : List Nat := (L.set i (lg L j)).set j (lg L i)
theorem swL_len (L : List Nat) (i j : Nat) : (swL L i j).length = L.length := by unfold swL; rw [List.length_set, List.length_set]
theorem swL_perm {L : List Nat} {i j : Nat} (hi : i < L.length) (hj : j < L.length) : (swL L i j).Perm L := by
  unfold swL
  rw [lg_get hi, lg_get hj]
  exact List.set_set_perm hi hj
theorem swL_lg {L : List Nat} {i j : Nat} (hi : i < L.length) (hj : j < L.length) {x : Nat} (hx : x < L.length) : lg (swL L i j) x = if x = j then lg L i else if x = i then lg L j else lg L x := by
  rw [lg_get (by rw [swL_len]; exact hx)]
  unfold swL
  rw [List.getElem_set]
  by_cases e : j = x
  · rw [if_pos e, if_pos e.symm]
  · rw [if_neg e, if_neg (fun h => e h.symm), List.getElem_set]
    by_cases e2 : i = x
    · rw [if_pos e2, if_pos e2.symm]
    · rw [if_neg e2, if_neg (fun h => e2 h.symm), lg_get hx]
theorem swL_rep {p r : Nat → Nat} {L : List Nat} {zc zp zr : Nat → Int32} {z i j : Nat} (h : repL p r L zc zp zr z) (hi : i < z) (hj : j < z) :
    repL p r (swL L i j) (upd (upd zc i (zc j)) j (zc i)) (upd (upd zp i (zp j)) j (zp i)) (upd (upd zr i (zr j)) j (zr i)) z := by
  obtain ⟨h1, h2⟩ := h
  refine ⟨by rw [swL_len]; exact h1, fun x hx => ?_⟩
  rw [swL_lg (by omega) (by omega) (by omega)]
  unfold upd
  by_cases e : x = j
  · rw [if_pos e, if_pos e, if_pos e, if_pos e]; exact h2 i hi
  · rw [if_neg e, if_neg e, if_neg e, if_neg e]
    by_cases e2 : x = i
    · rw [if_pos e2, if_pos e2, if_pos e2, if_pos e2]; exact h2 j hj
    · rw [if_neg e2, if_neg e2, if_neg e2, if_neg e2]; exact h2 x hx
def leP (p r : Nat → Nat) (L : List Nat) (a b : Nat) : Prop := r (lg L a) * p (lg L b) ≤ r (lg L b) * p (lg L a)
def srtI (p r : Nat → Nat) (L : List Nat) (z i : Nat) (L2 : List Nat) (zc zp zr : Nat → Int32) : Prop := L2.Perm L ∧ repL p r L2 zc zp zr z ∧ 1 ≤ i ∧ (i ≤ z ∨ i = 1) ∧ ∀ a b, a < b → b < i → b < z → leP p r L2 a b
def srtK (p r : Nat → Nat) (L : List Nat) (z i k : Nat) (L2 : List Nat) (zc zp zr : Nat → Int32) : Prop := L2.Perm L ∧ repL p r L2 zc zp zr z ∧ k ≤ i ∧ i < z ∧ ∀ a b, a < b → b ≤ i → b ≠ k → leP p r L2 a b
theorem bnd_perm {p r : Nat → Nat} {L L2 : List Nat} (hB : bndL p r L) (h : L2.Perm L) : bndL p r L2 := ⟨by rw [h.length_eq]; exact hB.1, fun k hk => hB.2 k (h.mem_iff.mp hk)⟩
theorem srt_0 {p r : Nat → Nat} {L : List Nat} {zc zp zr : Nat → Int32} {z : Nat} (h : repL p r L zc zp zr z) : srtI p r L z 1 L zc zp zr := ⟨List.Perm.refl _, h, Nat.le_refl _, Or.inr rfl, fun a b h1 h2 => by omega⟩
theorem srt_k {p r : Nat → Nat} {L L2 : List Nat} {zc zp zr : Nat → Int32} {z i : Nat} (h : srtI p r L z i L2 zc zp zr) (hi : i < z) : srtK p r L z i i L2 zc zp zr := ⟨h.1, h.2.1, Nat.le_refl _, hi, fun a b h1 h2 h3 => h.2.2.2.2 a b h1 (by omega) (by omega)⟩
theorem srt_s {p r : Nat → Nat} {L L2 : List Nat} {zc zp zr : Nat → Int32} {z i k : Nat} (h : srtK p r L z i k L2 zc zp zr) (hk : 0 < k) (hl : r (lg L2 k) * p (lg L2 (k - 1)) < r (lg L2 (k - 1)) * p (lg L2 k)) :
    srtK p r L z i (k - 1) (swL L2 k (k - 1)) (upd (upd zc k (zc (k - 1))) (k - 1) (zc k)) (upd (upd zp k (zp (k - 1))) (k - 1) (zp k)) (upd (upd zr k (zr (k - 1))) (k - 1) (zr k)) := by
  obtain ⟨h1, h2, h3, h4, h5⟩ := h
  have hz := h2.1
  refine ⟨(swL_perm (by omega) (by omega)).trans h1, swL_rep h2 (by omega) (by omega), by omega, h4, fun a b hab hb hne => ?_⟩
  unfold leP
  rw [swL_lg (by omega) (by omega) (by omega), swL_lg (by omega) (by omega) (by omega)]
  rw [if_neg hne]
  by_cases eb : b = k
  · rw [if_pos eb]
    by_cases ea : a = k - 1
    · rw [if_pos ea]; omega
    · rw [if_neg ea, if_neg (by omega)]
      exact h5 a (k - 1) (by omega) (by omega) (by omega)
  · rw [if_neg eb]
    by_cases ea : a = k - 1
    · rw [if_pos ea]
      exact h5 k b (by omega) hb eb
    · rw [if_neg ea]
      by_cases ek : a = k
      · rw [if_pos ek]
        exact h5 (k - 1) b (by omega) hb eb
      · rw [if_neg ek]
        exact h5 a b hab hb eb
theorem srt_e {p r : Nat → Nat} {L L2 : List Nat} {zc zp zr : Nat → Int32} {z i k : Nat} (hB : bndL p r L) (h : srtK p r L z i k L2 zc zp zr) (hl : k = 0 ∨ ¬ r (lg L2 k) * p (lg L2 (k - 1)) < r (lg L2 (k - 1)) * p (lg L2 k)) : srtI p r L z (i + 1) L2 zc zp zr := by
  obtain ⟨h1, h2, h3, h4, h5⟩ := h
  have hz := h2.1
  refine ⟨h1, h2, by omega, Or.inl (by omega), fun a b hab hb hbz => ?_⟩
  by_cases e : b = k
  · subst e
    rcases hl with hl | hl
    · omega
    · by_cases ea : a = b - 1
      · subst ea; unfold leP; omega
      · have q1 : leP p r L2 a (b - 1) := h5 a (b - 1) (by omega) (by omega) (by omega)
        have hp := ((bnd_perm hB h1).2 _ (lg_mem (L := L2) (i := b - 1) (by omega))).2.1
        unfold leP at q1 ⊢
        generalize r (lg L2 a) = ra at *
        generalize p (lg L2 a) = pa at *
        generalize r (lg L2 b) = rb at *
        generalize p (lg L2 b) = pb at *
        generalize r (lg L2 (b - 1)) = rm at *
        generalize p (lg L2 (b - 1)) = pm at *
        refine Nat.le_of_mul_le_mul_right ?_ (show 0 < pm by omega)
        have a1 : ra * pm * pb ≤ rm * pa * pb := Nat.mul_le_mul_right _ q1
        have a2 : rm * pb * pa ≤ rb * pm * pa := Nat.mul_le_mul_right _ (Nat.le_of_not_lt hl)
        have a3 : ra * pb * pm = ra * pm * pb := Nat.mul_right_comm _ _ _
        have a4 : rm * pa * pb = rm * pb * pa := Nat.mul_right_comm _ _ _
        have a5 : rb * pa * pm = rb * pm * pa := Nat.mul_right_comm _ _ _
        omega
  · exact h5 a b hab (by omega) e
theorem srt_end {p r : Nat → Nat} {L L2 : List Nat} {zc zp zr : Nat → Int32} {z i : Nat} (h : srtI p r L z i L2 zc zp zr) (hi : z ≤ i) : ∃ L3 : List Nat, L3.Perm L ∧ sortedL p r L3 ∧ repL p r L3 zc zp zr z :=
  ⟨L2, h.1, fun a b h1 h2 => h.2.2.2.2 a b h1 (by have := h.2.1.1; omega) (by have := h.2.1.1; omega), h.2.1⟩
/-! who is left out -/
def isMin (s : Nat → Nat) (L : List Nat) (m : Nat) : Prop := m ∈ L ∧ ∀ k, k ∈ L → s m < s k ∨ (s m = s k ∧ k ≤ m)
def mnl (s : Nat → Nat) : List Nat → Option Nat
  | [] => none
  | k :: l => match mnl s l with
    | none => some k
    | some b => if s k < s b ∨ (s k = s b ∧ b < k) then some k else some b
theorem mnl_spec (s : Nat → Nat) : ∀ L : List Nat, (mnl s L = none ∧ L = []) ∨ ∃ m, mnl s L = some m ∧ isMin s L m
  | [] => Or.inl ⟨rfl, rfl⟩
  | k :: l => by
    right
    rcases mnl_spec s l with ⟨h1, h2⟩ | ⟨b, h1, h2, h3⟩
    · subst h2
      exact ⟨k, rfl, List.mem_cons_self, fun j hj => by rw [List.mem_singleton.mp hj]; exact Or.inr ⟨rfl, Nat.le_refl _⟩⟩
    · unfold mnl
      rw [h1]
      by_cases c : s k < s b ∨ (s k = s b ∧ b < k)
      · refine ⟨k, if_pos c, List.mem_cons_self, fun j hj => ?_⟩
        rcases List.mem_cons.mp hj with e | hj
        · rw [e]; exact Or.inr ⟨rfl, Nat.le_refl _⟩
        · have := h3 j hj; omega
      · refine ⟨b, if_neg c, List.mem_cons_of_mem _ h2, fun j hj => ?_⟩
        rcases List.mem_cons.mp hj with e | hj
        · rw [e]; omega
        · exact h3 j hj
theorem isMin_one {s : Nat → Nat} {L : List Nat} {m m2 : Nat} (h : isMin s L m) (h2 : isMin s L m2) : m = m2 := by
  have a := h.2 m2 h2.1
  have b := h2.2 m h.1
  omega
theorem mnl_eq {s : Nat → Nat} {L : List Nat} {m : Nat} (h : isMin s L m) : mnl s L = some m := by
  rcases mnl_spec s L with ⟨_, h2⟩ | ⟨m2, h1, h2⟩
  · subst h2; cases h.1
  · rw [h1, isMin_one h2 h]
theorem mnl_perm {s : Nat → Nat} {L L2 : List Nat} (h : L.Perm L2) : mnl s L = mnl s L2 := by
  rcases mnl_spec s L with ⟨h1, h2⟩ | ⟨m, h1, h2⟩
  · subst h2; rw [h.symm.eq_nil]
  · rw [h1, mnl_eq (L := L2) ⟨h.mem_iff.mp h2.1, fun k hk => h2.2 k (h.mem_iff.mpr hk)⟩]
def rnd (p r : Nat → Nat) (M le : Nat) : Nat → List Nat → List Nat
  | 0, T => T
  | f + 1, T => match mnl (shr p r T M) T with
    | none => T
    | some m => if shr p r T M m < le then rnd p r M le f (T.filter (fun k => decide (k ≠ m))) else T
theorem rnd_perm {p r : Nat → Nat} {M le : Nat} : ∀ (f : Nat) {T T2 : List Nat}, T.Perm T2 → (rnd p r M le f T).Perm (rnd p r M le f T2)
  | 0, _, _, h => h
  | f + 1, T, T2, h => by
    have e : shr p r T M = shr p r T2 M := funext (shr_perm h M)
    unfold rnd
    rw [e, mnl_perm h]
    cases mnl (shr p r T2 M) T2 with
    | none => exact h
    | some m =>
      show (if shr p r T2 M m < le then _ else T).Perm (if shr p r T2 M m < le then _ else T2)
      by_cases c : shr p r T2 M m < le
      · rw [if_pos c, if_pos c]; exact rnd_perm f (h.filter _)
      · rw [if_neg c, if_neg c]; exact h
theorem rnd_nil (p r : Nat → Nat) (M le : Nat) : ∀ f : Nat, rnd p r M le f [] = []
  | 0 => rfl
  | _ + 1 => rfl
theorem rnd_stop {p r : Nat → Nat} {M le f m : Nat} {T : List Nat} (h : isMin (shr p r T M) T m) (hl : ¬ shr p r T M m < le) : rnd p r M le (f + 1) T = T := by
  unfold rnd; rw [mnl_eq h]; exact if_neg hl
theorem rnd_go {p r : Nat → Nat} {M le f m : Nat} {T : List Nat} (h : isMin (shr p r T M) T m) (hl : shr p r T M m < le) : rnd p r M le (f + 1) T = rnd p r M le f (T.filter (fun k => decide (k ≠ m))) := by
  conv => lhs; unfold rnd
  rw [mnl_eq h]; exact if_pos hl
theorem erase_filter {L : List Nat} (hN : L.Nodup) {v : Nat} (hv : v < L.length) : L.eraseIdx v = L.filter (fun k => decide (k ≠ lg L v)) := by
  have e : L = L.take v ++ lg L v :: L.drop (v + 1) := by
    rw [lg_get hv, List.getElem_cons_drop hv, List.take_append_drop]
  have h1 : (L.take v).filter (fun k => decide (k ≠ lg L v)) = L.take v := by
    rw [List.filter_eq_self]
    intro k hk
    refine decide_eq_true (fun e => ?_)
    obtain ⟨x, hx, e2⟩ := List.getElem_of_mem hk
    rw [List.length_take] at hx
    rw [List.getElem_take, ← lg_get (by omega), e] at e2
    have := nodup_pos hN (by omega) hv e2
    omega
  have h2 : (L.drop (v + 1)).filter (fun k => decide (k ≠ lg L v)) = L.drop (v + 1) := by
    rw [List.filter_eq_self]
    intro k hk
    refine decide_eq_true (fun e => ?_)
    rw [e] at hk
    have := (drop_mem hN hv).mp hk
    omega
  have h3 : L.filter (fun k => decide (k ≠ lg L v)) = L.take v ++ L.drop (v + 1) := by
    have h4 := congrArg (List.filter (fun k => decide (k ≠ lg L v))) e
    rw [List.filter_append, h1, List.filter_cons, if_neg (by simp), h2] at h4
    exact h4
  rw [h3, List.eraseIdx_eq_take_drop_succ]
theorem shr_lt {p r : Nat → Nat} {L : List Nat} (hB : bndL p r L) {M k : Nat} (hM : M ≤ 10000000) (hk : k ∈ L) : shr p r L M k < 2 ^ 31 := by
  unfold shr
  have hb := hB.2 k hk
  cases h : (fin p r L M).1 k with
  | false => rw [shA_f h]; omega
  | true =>
    rw [shA_t h]
    have h1 := flo_lt hB (fin p r L M).1 (m := (fin p r L M).2) (k := k) (Nat.le_trans (fin_le hB M) hM) hk
    split <;> omega
def shoI (p r : Nat → Nat) (L : List Nat) (M le : Nat) (b : Int32) (f : Nat) (L2 : List Nat) (zc zp zr : Nat → Int32) (z : Nat) : Prop :=
  repL p r L2 zc zp zr z ∧ bndL p r L2 ∧ L2.Nodup ∧ (b = 0 ∨ sortedL p r L2) ∧ z < f ∧ (rnd p r M le f L2).Perm (rnd p r M le 25 L)
theorem sho_0 {p r : Nat → Nat} {L L1 : List Nat} {M le : Nat} {b : Int32} {zc zp zr : Nat → Int32} {z : Nat} (hB : bndL p r L) (hN : L.Nodup) (h : L1.Perm L) (h2 : repL p r L1 zc zp zr z) (h3 : b = 0 ∨ sortedL p r L1) : shoI p r L M le b 25 L1 zc zp zr z :=
  ⟨h2, bnd_perm hB h, h.nodup_iff.mpr hN, h3, by have := h2.1; have := h.length_eq; have := hB.1; omega, rnd_perm 25 h⟩
theorem sho_min {p r : Nat → Nat} {L2 : List Nat} {M z v : Nat} (hz : z = L2.length) (hv : v < z) (h : ∀ j, j < z → shr p r L2 M (lg L2 v) < shr p r L2 M (lg L2 j) ∨ (shr p r L2 M (lg L2 v) = shr p r L2 M (lg L2 j) ∧ lg L2 j ≤ lg L2 v)) : isMin (shr p r L2 M) L2 (lg L2 v) :=
  ⟨lg_mem (by omega), fun k hk => by obtain ⟨j, hj, e⟩ := mem_lg hk; rw [← e]; exact h j (by omega)⟩
theorem sho_s {p r : Nat → Nat} {L L2 : List Nat} {M le : Nat} {b : Int32} {f : Nat} {zc zp zr : Nat → Int32} {z v : Nat} (h : shoI p r L M le b f L2 zc zp zr z) (hv : v < z) (hm : isMin (shr p r L2 M) L2 (lg L2 v)) (hl : shr p r L2 M (lg L2 v) < le) :
    shoI p r L M le b (f - 1) (L2.eraseIdx v) (shF zc v (z - 1)) (shF zp v (z - 1)) (shF zr v (z - 1)) (z - 1) := by
  obtain ⟨h1, h2, h3, h4, h5, h6⟩ := h
  have hz := h1.1
  have he := erase_filter h3 (v := v) (by omega)
  have hmem : ∀ k, k ∈ L2.eraseIdx v → k ∈ L2 := fun k hk => by rw [he] at hk; exact (List.mem_filter.mp hk).1
  refine ⟨repL_out h1 hv, ⟨by rw [List.length_eraseIdx]; split <;> (have := h2.1; omega), fun k hk => h2.2 k (hmem k hk)⟩, by rw [he]; exact List.Pairwise.filter _ h3, ?_, by omega, ?_⟩
  · rcases h4 with h4 | h4
    · exact Or.inl h4
    · refine Or.inr (fun i j hij hj => ?_)
      have hl2 : (L2.eraseIdx v).length = z - 1 := by rw [List.length_eraseIdx, if_pos (by omega)]; omega
      rw [lg_erase (by omega) (by omega), lg_erase (by omega) (by omega)]
      by_cases c : v ≤ i
      · rw [if_pos c, if_pos (by omega)]; exact h4 (i + 1) (j + 1) (by omega) (by omega)
      · rw [if_neg c]
        by_cases c2 : v ≤ j
        · rw [if_pos c2]; exact h4 i (j + 1) (by omega) (by omega)
        · rw [if_neg c2]; exact h4 i j hij (by omega)
  · obtain ⟨g, rfl⟩ : ∃ g, f = g + 1 := ⟨f - 1, by omega⟩
    rw [rnd_go hm hl] at h6
    rw [he]; exact h6

theorem sho_e0 {p r : Nat → Nat} {L L2 : List Nat} {M le : Nat} {b : Int32} {f : Nat} {zc zp zr : Nat → Int32} {z : Nat} (h : shoI p r L M le b f L2 zc zp zr z) (hz : z = 0) : L2.Perm (rnd p r M le 25 L) := by
  obtain ⟨h1, h2, h3, h4, h5, h6⟩ := h
  have e : L2 = [] := List.eq_nil_of_length_eq_zero (by have := h1.1; omega)
  subst e
  rw [rnd_nil] at h6
  exact h6
theorem sho_e1 {p r : Nat → Nat} {L L2 : List Nat} {M le : Nat} {b : Int32} {f : Nat} {zc zp zr : Nat → Int32} {z m : Nat} (h : shoI p r L M le b f L2 zc zp zr z) (hm : isMin (shr p r L2 M) L2 m) (hl : ¬ shr p r L2 M m < le) : L2.Perm (rnd p r M le 25 L) := by
  obtain ⟨h1, h2, h3, h4, h5, h6⟩ := h
  obtain ⟨g, rfl⟩ : ∃ g, f = g + 1 := ⟨f - 1, by omega⟩
  rw [rnd_stop hm hl] at h6
  exact h6

