/-! what the state keeps, class and model alike -/
def GI (D : Nat) (sm fe ex dy : Int32) (gp gc op gr wo : Nat → Int32) (n : Nat) (ya yd : Nat → Int32) (q : Nat) (pe : Nat → Int32) : Prop :=
  (n ≤ 24 ∧ q ≤ 100 ∧ dy = nI D) ∧ ((∃ a, a ≤ 10000000 ∧ sm = nI a) ∧ (∃ a, a ≤ 500 ∧ fe = nI a) ∧ (∃ a, a ≤ 1000000 ∧ ex = nI a)) ∧
  (∀ g, g < 5 → (∃ v, 1 ≤ v ∧ v ≤ 100 ∧ gp g = nI v) ∧ ∃ v, v ≤ 1000000 ∧ gc g = nI v) ∧ (∀ k, k < n → ∃ g, g < 5 ∧ gr k = nI g) ∧
  (∀ k, k < q → (∃ v, v ≤ 10000001 ∧ ya k = nI v) ∧ ∃ y, y ≤ D ∧ yd k = nI y) ∧ (∀ k, k < 30 → op k = ofP pe (nI k) n) ∧ ∀ k, n ≤ k → wo k = nI 0
theorem ofP_cases (pe : Nat → Int32) (x : Int32) : ∀ n : Nat, ofP pe x n = (-1) ∨ ∃ j, j < n ∧ ofP pe x n = nI j
  | 0 => Or.inl rfl
  | n + 1 => by
    unfold ofP
    by_cases c : pe n = x
    · rw [if_pos c]; exact Or.inr ⟨n, Nat.lt_succ_self _, rfl⟩
    · rw [if_neg c]
      rcases ofP_cases pe x n with h | ⟨j, h1, h2⟩
      · exact Or.inl h
      · exact Or.inr ⟨j, by omega, h2⟩
theorem ofP_congr {pe pe2 : Nat → Int32} {x : Int32} : ∀ {n : Nat}, (∀ k, k < n → pe2 k = pe k) → ofP pe2 x n = ofP pe x n
  | 0, _ => rfl
  | n + 1, h => by
    unfold ofP
    rw [h n (Nat.lt_succ_self _), ofP_congr (fun k hk => h k (by omega))]
theorem gi_G {D : Nat} {sm fe ex dy : Int32} {gp gc op gr wo : Nat → Int32} {n : Nat} {ya yd : Nat → Int32} {q : Nat} {pe : Nat → Int32} (h : GI D sm fe ex dy gp gc op gr wo n ya yd q pe) {k : Nat} (hk : k < n) : gr k = nI (gN gr k) ∧ gN gr k < 5 := by
  obtain ⟨g, h1, h2⟩ := h.2.2.2.1 k hk
  have e : gN gr k = g := by unfold gN; rw [h2, nI_clamp (by omega)]
  rw [e]; exact ⟨h2, h1⟩
theorem sumFor_n {yc ya ys : Nat → Int32} {w : Int32} : ∀ {q : Nat}, (∀ k, k < q → ∃ v, v ≤ 10000001 ∧ ya k = nI v) → ∃ v, v ≤ 10000001 * q ∧ sumForI yc ya ys w q = nI v
  | 0, _ => ⟨0, by omega, rfl⟩
  | q + 1, h => by
    obtain ⟨a, h1, h2⟩ := sumFor_n (yc := yc) (ys := ys) (w := w) (q := q) (fun k hk => h k (by omega))
    obtain ⟨b, h3, h4⟩ := h q (Nat.lt_succ_self _)
    unfold sumForI
    by_cases c : yc q = w ∧ ¬ ys q = nI 2
    · rw [if_pos c, h2, h4, nI_add]; exact ⟨a + b, by omega, rfl⟩
    · rw [if_neg c]; exact ⟨a, by omega, h2⟩
theorem sumAll_n {ya ys : Nat → Int32} : ∀ {q : Nat}, (∀ k, k < q → ∃ v, v ≤ 10000001 ∧ ya k = nI v) → ∃ v, v ≤ 10000001 * q ∧ sumAllI ya ys q = nI v
  | 0, _ => ⟨0, by omega, rfl⟩
  | q + 1, h => by
    obtain ⟨a, h1, h2⟩ := sumAll_n (ys := ys) (q := q) (fun k hk => h k (by omega))
    obtain ⟨b, h3, h4⟩ := h q (Nat.lt_succ_self _)
    unfold sumAllI
    by_cases c : ¬ ys q = nI 2
    · rw [if_pos c, h2, h4, nI_add]; exact ⟨a + b, by omega, rfl⟩
    · rw [if_neg c]; exact ⟨a, by omega, h2⟩
theorem le0_iff {a b : Nat} (ha : a < 2 ^ 30) (hb : b < 2 ^ 30) : (0 ≤ nI a - nI b) ↔ b ≤ a := by
  rw [Int32.le_iff_toInt_le, pk_sub_toInt ha hb, show (0 : Int32).toInt = 0 by decide]
  omega
theorem gi_V {D : Nat} {sm fe ex dy : Int32} {gp gc op gr wo : Nat → Int32} {n : Nat} {ya yd : Nat → Int32} {q : Nat} {pe : Nat → Int32} (h : GI D sm fe ex dy gp gc op gr wo n ya yd q pe) (yc ys : Nat → Int32) : claimV gp gc gr yc ya ys q n := by
  intro k hk
  have hg := gi_G h hk
  obtain ⟨⟨v, v1, v2, v3⟩, c, c1, c2⟩ := h.2.2.1 _ hg.2
  obtain ⟨u, u1, u2⟩ := sumFor_n (yc := yc) (ys := ys) (w := nI k) (q := q) (fun k hk => (h.2.2.2.2.1 k hk).1)
  have hq := h.1.2.1
  have hu : u < 2 ^ 30 := by omega
  have ep : pK gp gr k = v := by unfold pK; rw [v3, nI_clamp (by omega)]
  refine ⟨hg, by rw [ep]; exact ⟨v3, v1, v2⟩, ?_⟩
  have er : ∃ z, z ≤ 1000000 ∧ roomF gc gr yc ya ys q k = nI z := by
    unfold roomF
    rw [c2, u2]
    by_cases d : u ≤ c
    · rw [if_pos ((le0_iff (by omega) hu).mpr d), pk_sub d]; exact ⟨c - u, by omega, rfl⟩
    · rw [if_neg (fun z => d ((le0_iff (by omega) hu).mp z))]; exact ⟨0, by omega, rfl⟩
  obtain ⟨z, z1, z2⟩ := er
  have e : rK gc gr yc ya ys q k = z := by unfold rK; rw [z2, nI_clamp (by omega)]
  rw [e]; exact ⟨z2, z1⟩
theorem fee_n {a b : Nat} (ha : a ≤ 10000000) (hb : b ≤ 500) : feeF (nI a) (nI b) = nI (a * b / 1000) ∧ a * b / 1000 ≤ 5000000 := by
  have h : a * b ≤ 10000000 * 500 := Nat.mul_le_mul ha hb
  refine ⟨?_, by omega⟩
  unfold feeF
  rw [nI_l (by omega), nI_l (by omega), lN_mul, pk_lDiv (by omega) (by omega) (by omega), lN_i]
theorem gi_L {D : Nat} {sm fe ex dy : Int32} {gp gc op gr wo : Nat → Int32} {n : Nat} {ya yd : Nat → Int32} {q : Nat} {pe : Nat → Int32} (h : GI D sm fe ex dy gp gc op gr wo n ya yd q pe) (ys : Nat → Int32) : leftV sm fe ex ya ys q := by
  intro hl
  obtain ⟨⟨a, a1, a2⟩, ⟨b, b1, b2⟩, ⟨c, c1, c2⟩⟩ := h.2.1
  obtain ⟨u, u1, u2⟩ := sumAll_n (ys := ys) (q := q) (fun k hk => (h.2.2.2.2.1 k hk).1)
  have hq := h.1.2.1
  obtain ⟨f1, f2⟩ := fee_n a1 b1
  have e : leftF sm fe ex ya ys q = nI a - nI (a * b / 1000 + c + u) := by
    unfold leftF
    rw [a2, b2, c2, u2, f1, ← zz_ss, ← zz_ss, nI_add, nI_add, ← Nat.add_assoc]
  have hy : a * b / 1000 + c + u < 1010000000 := by omega
  generalize a * b / 1000 + c + u = y at e hy
  have hle : 1 ≤ (leftF sm fe ex ya ys q).toInt := by
    have h9 := Int32.le_iff_toInt_le.mp hl
    rw [show (nI 1).toInt = 1 by decide] at h9; exact h9
  rw [e, pk_sub_toInt (by omega) (by omega)] at hle
  have hay : y ≤ a := by omega
  rw [pk_sub hay] at e
  have em : mK sm fe ex ya ys q = a - y := by unfold mK; rw [e, nI_clamp (by omega)]
  rw [em]; exact ⟨e, by omega, by omega⟩
theorem gi_0 : GI 0 0 0 0 0 (mixF (fun _ => nI 1) (fun _ => 0) 5) (mixF (fun _ => nI 1000000) (fun _ => 0) 5) (mixF (fun _ => (-1)) (fun _ => 0) 30) (fun _ => 0) (fun _ => 0) 0 (fun _ => 0) (fun _ => 0) 0 (fun _ => 0) :=
  ⟨⟨by omega, by omega, rfl⟩, ⟨⟨0, by omega, rfl⟩, ⟨0, by omega, rfl⟩, ⟨0, by omega, rfl⟩⟩, fun g hg => ⟨⟨1, by omega, by omega, mixF_lt hg⟩, 1000000, by omega, mixF_lt hg⟩, fun k hk => absurd hk (Nat.not_lt_zero k), fun k hk => absurd hk (Nat.not_lt_zero k), fun k hk => mixF_lt hk, fun _ _ => rfl⟩
theorem gi_set {D : Nat} {sm fe ex dy : Int32} {gp gc op gr wo : Nat → Int32} {n : Nat} {ya yd : Nat → Int32} {q : Nat} {pe : Nat → Int32} (h : GI D sm fe ex dy gp gc op gr wo n ya yd q pe) {a b c : Nat} (ha : a ≤ 10000000) (hb9 : b ≤ 500) (hc9 : c ≤ 1000000) : GI D (nI a) (nI b) (nI c) dy gp gc op gr wo n ya yd q pe :=
  ⟨h.1, ⟨⟨a, ha, rfl⟩, ⟨b, hb9, rfl⟩, ⟨c, hc9, rfl⟩⟩, h.2.2⟩
theorem gi_grade {D : Nat} {sm fe ex dy : Int32} {gp gc op gr wo : Nat → Int32} {n : Nat} {ya yd : Nat → Int32} {q : Nat} {pe : Nat → Int32} (h : GI D sm fe ex dy gp gc op gr wo n ya yd q pe) {k a b : Nat} (ha1 : 1 ≤ a) (ha : a ≤ 100) (hb9 : b ≤ 1000000) : GI D sm fe ex dy (upd gp k (nI a)) (upd gc k (nI b)) op gr wo n ya yd q pe := by
  refine ⟨h.1, h.2.1, fun g hg => ?_, h.2.2.2⟩
  unfold upd
  by_cases e : g = k
  · rw [if_pos e, if_pos e]; exact ⟨⟨a, ha1, ha, rfl⟩, b, hb9, rfl⟩
  · rw [if_neg e, if_neg e]; exact h.2.2.1 g hg
theorem gi_pass {D : Nat} {sm fe ex dy : Int32} {gp gc op gr wo : Nat → Int32} {n : Nat} {ya yd : Nat → Int32} {q : Nat} {pe : Nat → Int32} (h : GI D sm fe ex dy gp gc op gr wo n ya yd q pe) (x : Nat) : GI (D + x) sm fe ex (nI (D + x)) gp gc op gr wo n ya yd q pe :=
  ⟨⟨h.1.1, h.1.2.1, rfl⟩, h.2.1, h.2.2.1, h.2.2.2.1, fun k hk => ⟨(h.2.2.2.2.1 k hk).1, by obtain ⟨y, h1, h2⟩ := (h.2.2.2.2.1 k hk).2; exact ⟨y, by omega, h2⟩⟩, h.2.2.2.2.2⟩
theorem gi_join {D : Nat} {sm fe ex dy : Int32} {gp gc op gr wo : Nat → Int32} {n : Nat} {ya yd : Nat → Int32} {q : Nat} {pe : Nat → Int32} (h : GI D sm fe ex dy gp gc op gr wo n ya yd q pe) {j g : Nat} (hj : j < n) (hg : g < 5) : GI D sm fe ex dy gp gc op (upd gr j (maxI (gr j) (nI g))) wo n ya yd q pe := by
  refine ⟨h.1, h.2.1, h.2.2.1, fun k hk => ?_, h.2.2.2.2⟩
  unfold upd
  by_cases e : k = j
  · rw [if_pos e]
    obtain ⟨a, h1, h2⟩ := h.2.2.2.1 j hj
    unfold maxI
    split
    · exact ⟨g, hg, rfl⟩
    · exact ⟨a, h1, h2⟩
  · rw [if_neg e]; exact h.2.2.2.1 k hk
theorem gi_enter {D : Nat} {sm fe ex dy : Int32} {gp gc op gr wo : Nat → Int32} {n : Nat} {ya yd : Nat → Int32} {q : Nat} {pe : Nat → Int32} (h : GI D sm fe ex dy gp gc op gr wo n ya yd q pe) {k9 g : Nat} (hn : n < 24) (hk9 : k9 < 30) (hg : g < 5) : GI D sm fe ex dy gp gc (upd op k9 (nI n)) (upd gr n (nI g)) wo (n + 1) ya yd q (upd pe n (nI k9)) := by
  refine ⟨⟨by omega, h.1.2⟩, h.2.1, h.2.2.1, fun k hk => ?_, h.2.2.2.2.1, fun k hk => ?_, fun k hk => h.2.2.2.2.2.2 k (by omega)⟩
  · unfold upd
    by_cases e : k = n
    · rw [if_pos e]; exact ⟨g, hg, rfl⟩
    · rw [if_neg e]; exact h.2.2.2.1 k (by omega)
  · unfold ofP
    rw [pk_us, ofP_congr (pe := pe) (fun j hj => pk_un (by omega))]
    by_cases e : k = k9
    · subst e; rw [pk_us, if_pos rfl]
    · rw [pk_un e, if_neg (fun z => e ((nI_eq (by omega) (by omega)).mp z).symm)]; exact h.2.2.2.2.2.1 k hk
theorem gi_object {D : Nat} {sm fe ex dy : Int32} {gp gc op gr wo : Nat → Int32} {n : Nat} {ya yd : Nat → Int32} {q : Nat} {pe : Nat → Int32} (h : GI D sm fe ex dy gp gc op gr wo n ya yd q pe) {j : Nat} (hj : j < n) (x : Int32) : GI D sm fe ex dy gp gc op gr (upd wo j x) n ya yd q pe :=
  ⟨h.1, h.2.1, h.2.2.1, h.2.2.2.1, h.2.2.2.2.1, h.2.2.2.2.2.1, fun k hk => by rw [pk_un (by omega)]; exact h.2.2.2.2.2.2 k hk⟩
theorem shr_le9 {p r : Nat → Nat} {L : List Nat} (hB : bndL p r L) {M k : Nat} (hM : M ≤ 10000000) (hk : k ∈ L) : shr p r L M k ≤ 10000001 := by
  unfold shr
  have hb := hB.2 k hk
  cases h : (fin p r L M).1 k with
  | false => rw [shA_f h]; omega
  | true =>
    rw [shA_t h]
    have h1 : (fin p r L M).2 ≤ M := fin_le hB M
    have h2 : p k ≤ wsum p (fin p r L M).1 L := wsum_mem hk h
    have h3 : flo p L (fin p r L M).1 (fin p r L M).2 k ≤ (fin p r L M).2 := by
      unfold flo
      refine Nat.le_trans (Nat.div_le_div_right (Nat.mul_le_mul_right _ h2)) ?_
      rw [Nat.mul_div_cancel_left _ (by omega)]; exact Nat.le_refl _
    split <;> omega
theorem rnd_len (p r : Nat → Nat) (M le : Nat) : ∀ (f : Nat) (T : List Nat), (rnd p r M le f T).length ≤ T.length
  | 0, _ => Nat.le_refl _
  | f + 1, T => by
    unfold rnd
    cases mnl (shr p r T M) T with
    | none => exact Nat.le_refl _
    | some m =>
      show (if shr p r T M m < le then _ else T).length ≤ _
      split
      · exact Nat.le_trans (rnd_len p r M le f _) (List.length_filter_le _ _)
      · exact Nat.le_refl _
theorem finL_len (sm fe ex : Int32) (gp gc gr st yc ya ys : Nat → Int32) (n q le : Nat) : (finL sm fe ex gp gc gr st yc ya ys n q le).length ≤ n := by
  unfold finL
  split
  · exact Nat.le_trans (rnd_len _ _ _ _ _ _) (tkL_len ..)
  · exact Nat.zero_le _
theorem shK_le9 {sm fe ex : Int32} {gp gc gr st yc ya ys : Nat → Int32} {n q le : Nat} (hn : n ≤ 24) (hV : claimV gp gc gr yc ya ys q n) (hL : leftV sm fe ex ya ys q) (k : Nat) : shK sm fe ex gp gc gr st yc ya ys n q le k ≤ 10000001 := by
  unfold shK
  by_cases c : k ∈ finL sm fe ex gp gc gr st yc ya ys n q le
  · rw [if_pos c]
    refine shr_le9 ⟨?_, fun j hj => ?_⟩ (mK_le hL) c
    · have hnd : (finL sm fe ex gp gc gr st yc ya ys n q le).length ≤ n := finL_len ..
      omega
    · have h1 := fin_lt hj
      exact ⟨by omega, (hV j h1).2.1.2.1, (hV j h1).2.1.2.2, (hV j h1).2.2.2⟩
  · rw [if_neg c]; omega
theorem payF_ok {D : Nat} {dy : Int32} {sh : Nat → Nat} {yc ya ys yd : Nat → Int32} {q : Nat} (hdy : dy = nI D) (hs : ∀ k, sh k ≤ 10000001) (h : ∀ k, k < q → (∃ v, v ≤ 10000001 ∧ ya k = nI v) ∧ ∃ y, y ≤ D ∧ yd k = nI y) : ∀ i : Nat, ∀ k, k < (payF dy sh yc ya ys yd q i).2.2.2.2 → (∃ v, v ≤ 10000001 ∧ (payF dy sh yc ya ys yd q i).2.1 k = nI v) ∧ ∃ y, y ≤ D ∧ (payF dy sh yc ya ys yd q i).2.2.2.1 k = nI y
  | 0 => h
  | i + 1 => by
    have ih := payF_ok hdy hs h (yc := yc) (ys := ys) i
    by_cases c : 0 < sh i
    · rw [payF_y c]
      intro k hk
      have hk : k < (payF dy sh yc ya ys yd q i).2.2.2.2 + 1 := hk
      show (∃ v, v ≤ 10000001 ∧ upd _ _ _ k = nI v) ∧ ∃ y, y ≤ D ∧ upd _ _ _ k = nI y
      unfold upd
      by_cases e : k = (payF dy sh yc ya ys yd q i).2.2.2.2
      · rw [if_pos e, if_pos e]; exact ⟨⟨sh i, hs i, rfl⟩, D, Nat.le_refl _, hdy⟩
      · rw [if_neg e, if_neg e]; exact ih k (by omega)
    · rw [payF_n (by omega)]; exact ih
theorem gi_round {D : Nat} {sm fe ex dy : Int32} {gp gc op gr wo : Nat → Int32} {n : Nat} {yc ya ys yd : Nat → Int32} {q : Nat} {pe : Nat → Int32} (h : GI D sm fe ex dy gp gc op gr wo n ya yd q pe) {sh : Nat → Nat} (hs : ∀ k, sh k ≤ 10000001) (hq : q + gain sh n ≤ 100) : GI D sm fe ex dy gp gc op gr wo n (payF dy sh yc ya ys yd q n).2.1 (payF dy sh yc ya ys yd q n).2.2.2.1 (payF dy sh yc ya ys yd q n).2.2.2.2 pe :=
  ⟨⟨h.1.1, by rw [payF_q]; exact hq, h.1.2.2⟩, h.2.1, h.2.2.1, h.2.2.2.1, payF_ok h.1.2.2 hs h.2.2.2.2.1 n, h.2.2.2.2.2⟩
