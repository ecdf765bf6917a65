/-! sharing, as plain sums over the claims that take part -/
def wsum (w : Nat → Nat) (a : Nat → Bool) : List Nat → Nat
  | [] => 0
  | k :: l => (if a k = true then w k else 0) + wsum w a l
theorem wsum_app (w : Nat → Nat) (a : Nat → Bool) : ∀ (l l2 : List Nat), wsum w a (l ++ l2) = wsum w a l + wsum w a l2
  | [], l2 => by show wsum w a l2 = 0 + _; rw [Nat.zero_add]
  | k :: l, l2 => by show _ + wsum w a (l ++ l2) = _ + _ + _; rw [wsum_app w a l l2, Nat.add_assoc]
theorem wsum_perm (w : Nat → Nat) (a : Nat → Bool) {l l2 : List Nat} (h : l.Perm l2) : wsum w a l = wsum w a l2 := by
  induction h with
  | nil => rfl
  | cons x h ih => show _ + _ = _ + _; rw [ih]
  | swap x y l => show _ + (_ + _) = _ + (_ + _); omega
  | trans h1 h2 i1 i2 => exact i1.trans i2
theorem wsum_filter (w : Nat → Nat) (a t : Nat → Bool) : ∀ l : List Nat, wsum w a (l.filter t) = wsum w (fun k => t k && a k) l
  | [] => rfl
  | k :: l => by
    have ih := wsum_filter w a t l
    rw [List.filter_cons]
    show _ = (if (t k && a k) = true then w k else 0) + wsum w _ l
    cases t k with
    | true => rw [if_pos rfl]; show (if a k = true then w k else 0) + wsum w a _ = _; rw [ih]; rfl
    | false => rw [if_neg (by decide), ih]; simp
theorem wsum_congr {w v : Nat → Nat} {a b : Nat → Bool} : ∀ {l : List Nat}, (∀ k, k ∈ l → a k = b k) → (∀ k, k ∈ l → a k = true → w k = v k) → wsum w a l = wsum v b l
  | [], _, _ => rfl
  | k :: l, h1, h2 => by
    show (if a k = true then w k else 0) + wsum w a l = (if b k = true then v k else 0) + wsum v b l
    rw [wsum_congr (fun j hj => h1 j (List.mem_cons_of_mem _ hj)) (fun j hj => h2 j (List.mem_cons_of_mem _ hj)), ← h1 k List.mem_cons_self]
    cases e : a k with
    | true => rw [if_pos rfl, if_pos rfl, h2 k List.mem_cons_self e]
    | false => rw [if_neg (by decide), if_neg (by decide)]
theorem wsum_le {w v : Nat → Nat} {a : Nat → Bool} : ∀ {l : List Nat}, (∀ k, k ∈ l → a k = true → w k ≤ v k) → wsum w a l ≤ wsum v a l
  | [], _ => Nat.le_refl _
  | k :: l, h => by
    show (if a k = true then w k else 0) + wsum w a l ≤ (if a k = true then v k else 0) + wsum v a l
    have ih := wsum_le (fun j hj => h j (List.mem_cons_of_mem _ hj))
    have h1 := h k List.mem_cons_self
    split
    · have := h1 (by assumption); omega
    · omega
theorem wsum_mul (w : Nat → Nat) (c : Nat) (a : Nat → Bool) : ∀ l : List Nat, wsum (fun k => w k * c) a l = wsum w a l * c
  | [] => (Nat.zero_mul c).symm
  | k :: l => by
    show (if a k = true then w k * c else 0) + wsum _ a l = ((if a k = true then w k else 0) + wsum w a l) * c
    rw [wsum_mul w c a l, Nat.add_mul]
    split
    · rfl
    · rw [Nat.zero_mul]
theorem wsum_split (w : Nat → Nat) (a b : Nat → Bool) : ∀ l : List Nat, wsum w a l = wsum w (fun k => a k && b k) l + wsum w (fun k => a k && !b k) l
  | [] => rfl
  | k :: l => by
    have ih := wsum_split w a b l
    show (if a k = true then w k else 0) + wsum w a l = ((if (a k && b k) = true then w k else 0) + wsum w _ l) + ((if (a k && !b k) = true then w k else 0) + wsum w _ l)
    rw [ih]
    cases a k <;> cases b k <;> simp <;> omega
theorem wsum_mem {w : Nat → Nat} {a : Nat → Bool} : ∀ {l : List Nat} {k : Nat}, k ∈ l → a k = true → w k ≤ wsum w a l
  | [], k, h, _ => by cases h
  | j :: l, k, h, ha => by
    show w k ≤ (if a j = true then w j else 0) + wsum w a l
    rcases List.mem_cons.mp h with e | h
    · subst e; rw [if_pos ha]; omega
    · have := wsum_mem (w := w) h ha; omega
theorem wsum_zero {a : Nat → Bool} {l : List Nat} (h : wsum (fun _ => 1) a l = 0) : ∀ k, k ∈ l → a k = false := by
  intro k hk
  cases e : a k with
  | false => rfl
  | true => have := wsum_mem (w := fun _ => 1) hk e; omega
theorem wsum_none {w : Nat → Nat} {a : Nat → Bool} : ∀ {l : List Nat}, (∀ k, k ∈ l → a k = false) → wsum w a l = 0
  | [], _ => rfl
  | k :: l, h => by
    show (if a k = true then w k else 0) + wsum w a l = 0
    rw [h k List.mem_cons_self, wsum_none (fun j hj => h j (List.mem_cons_of_mem _ hj))]; rfl
theorem wsum_len (a : Nat → Bool) : ∀ l : List Nat, wsum (fun _ => 1) a l ≤ l.length
  | [] => Nat.le_refl _
  | k :: l => by
    have := wsum_len a l
    show (if a k = true then 1 else 0) + wsum _ a l ≤ l.length + 1
    split <;> omega
theorem wsum_bound {w : Nat → Nat} {c : Nat} {a : Nat → Bool} : ∀ {l : List Nat}, (∀ k, k ∈ l → w k ≤ c) → wsum w a l ≤ c * l.length
  | [], _ => Nat.zero_le _
  | k :: l, h => by
    have ih := wsum_bound (w := w) (c := c) (a := a) (l := l) (fun j hj => h j (List.mem_cons_of_mem _ hj))
    have h1 := h k List.mem_cons_self
    show (if a k = true then w k else 0) + wsum w a l ≤ c * (l.length + 1)
    rw [Nat.mul_succ]
    split <;> omega
theorem wsum_range (w : Nat → Nat) (a : Nat → Bool) (n : Nat) : wsum w a (List.range (n + 1)) = wsum w a (List.range n) + (if a n = true then w n else 0) := by
  rw [List.range_succ, wsum_app]; rfl
theorem wsum_take (w : Nat → Nat) (a : Nat → Bool) (L : List Nat) {i : Nat} (h : i < L.length) : wsum w a (L.take (i + 1)) = wsum w a (L.take i) + (if a (L.getD i 0) = true then w (L.getD i 0) else 0) := by
  rw [List.take_add_one, wsum_app]
  have e : L[i]? = some (L.getD i 0) := by simp [h]
  rw [e]; rfl
theorem wsum_take_le (w : Nat → Nat) (a : Nat → Bool) (L : List Nat) (i : Nat) : wsum w a (L.take i) ≤ wsum w a L := by
  have h : wsum w a L = wsum w a (L.take i) + wsum w a (L.drop i) := by rw [← wsum_app, List.take_append_drop]
  omega
theorem getD_mem {L : List Nat} {i : Nat} (h : i < L.length) : L.getD i 0 ∈ L := by
  have e : L.getD i 0 = L[i] := by simp [h]
  rw [e]; exact List.getElem_mem h
/-! who reaches the room -/
def rch (p r : Nat → Nat) (m P k : Nat) : Bool := decide (r k * P ≤ p k * m)
def hit (p r : Nat → Nat) (L : List Nat) (a : Nat → Bool) (m : Nat) : Nat → Bool := fun k => a k && rch p r m (wsum p a L) k
def off (p r : Nat → Nat) (L : List Nat) (a : Nat → Bool) (m : Nat) : Nat → Bool := fun k => a k && !rch p r m (wsum p a L) k
def clo (p r : Nat → Nat) (L : List Nat) : Nat → (Nat → Bool) → Nat → (Nat → Bool) × Nat
  | 0, a, m => (a, m)
  | f + 1, a, m => if wsum (fun _ => 1) (hit p r L a m) L = 0 then (a, m) else clo p r L f (off p r L a m) (m - wsum r (hit p r L a m) L)
def fin (p r : Nat → Nat) (L : List Nat) (M : Nat) : (Nat → Bool) × Nat := clo p r L 25 (fun _ => true) M
def shA (p r : Nat → Nat) (L : List Nat) (A : Nat → Bool) (m k : Nat) : Nat :=
  if A k = true then p k * m / wsum p A L + (if wsum (fun _ => 1) (fun j => A j && decide (j < k)) L < m - wsum (fun j => p j * m / wsum p A L) A L then 1 else 0) else r k
def shr (p r : Nat → Nat) (L : List Nat) (M k : Nat) : Nat := shA p r L (fin p r L M).1 (fin p r L M).2 k
theorem clo_congr {p r : Nat → Nat} {L L2 : List Nat} (h : ∀ w a, wsum w a L = wsum w a L2) : ∀ (f : Nat) (a : Nat → Bool) (m : Nat), clo p r L f a m = clo p r L2 f a m
  | 0, _, _ => rfl
  | f + 1, a, m => by
    have e1 : hit p r L a m = hit p r L2 a m := by unfold hit; rw [h p a]
    have e2 : off p r L a m = off p r L2 a m := by unfold off; rw [h p a]
    unfold clo
    rw [e1, e2, h, h, clo_congr h f]
theorem shr_congr {p r : Nat → Nat} {L L2 : List Nat} (h : ∀ w a, wsum w a L = wsum w a L2) (M k : Nat) : shr p r L M k = shr p r L2 M k := by
  have e : fin p r L M = fin p r L2 M := clo_congr h _ _ _
  unfold shr shA
  rw [e, h p, h (fun _ => 1), h (fun j => p j * (fin p r L2 M).2 / wsum p (fin p r L2 M).1 L2)]
theorem shr_perm {p r : Nat → Nat} {L L2 : List Nat} (h : L.Perm L2) (M k : Nat) : shr p r L M k = shr p r L2 M k := shr_congr (fun w a => wsum_perm w a h) M k
/-- plain numbers -/
def bndL (p r : Nat → Nat) (L : List Nat) : Prop := L.length ≤ 24 ∧ ∀ k, k ∈ L → k < 24 ∧ 1 ≤ p k ∧ p k ≤ 100 ∧ r k ≤ 1000000
theorem bnd_P {p r : Nat → Nat} {L : List Nat} (h : bndL p r L) (a : Nat → Bool) : wsum p a L ≤ 2400 := by
  have h1 := wsum_bound (w := p) (c := 100) (a := a) (l := L) (fun k hk => (h.2 k hk).2.2.1)
  have h2 : 100 * L.length ≤ 100 * 24 := Nat.mul_le_mul_left _ h.1
  omega
theorem hit_le {p r : Nat → Nat} {L : List Nat} (hp : ∀ k, k ∈ L → 1 ≤ p k) (a : Nat → Bool) (m : Nat) : wsum r (hit p r L a m) L * wsum p a L ≤ wsum p (hit p r L a m) L * m := by
  rw [← wsum_mul, ← wsum_mul]
  refine wsum_le (fun k _ h => ?_)
  unfold hit at h
  rw [Bool.and_eq_true] at h
  exact of_decide_eq_true h.2
theorem hitp_le (p r : Nat → Nat) (L : List Nat) (a : Nat → Bool) (m : Nat) (w : Nat → Nat) : wsum w a L = wsum w (hit p r L a m) L + wsum w (off p r L a m) L := wsum_split w a _ L
theorem room_le {p r : Nat → Nat} {L : List Nat} (hp : ∀ k, k ∈ L → 1 ≤ p k) (a : Nat → Bool) (m : Nat) : wsum r (hit p r L a m) L ≤ m := by
  have h1 := hit_le (r := r) hp a m
  have h2 := hitp_le p r L a m p
  rcases Nat.eq_zero_or_pos (wsum p a L) with e | e
  · have h3 : wsum r (hit p r L a m) L = 0 := wsum_none (fun k hk => by
      cases ha : a k with
      | false => unfold hit; rw [ha]; rfl
      | true => have := wsum_mem (w := p) hk ha; have := hp k hk; omega)
    omega
  · have h3 : wsum p (hit p r L a m) L * m ≤ wsum p a L * m := Nat.mul_le_mul_right _ (by omega)
    have h4 : wsum p a L * wsum r (hit p r L a m) L ≤ wsum p a L * m := by rw [Nat.mul_comm]; omega
    exact Nat.le_of_mul_le_mul_left h4 e
theorem floor_le {p : Nat → Nat} {L : List Nat} (a : Nat → Bool) (m : Nat) : wsum (fun j => p j * m / wsum p a L) a L ≤ m := by
  rcases Nat.eq_zero_or_pos (wsum p a L) with e | e
  · have h : wsum (fun j => p j * m / wsum p a L) a L = wsum (fun _ => 0) a L := wsum_congr (fun _ _ => rfl) (fun k _ _ => by rw [e, Nat.div_zero])
    have h2 : wsum (fun _ => 0) a L ≤ 0 * L.length := wsum_bound (fun _ _ => Nat.le_refl _)
    omega
  · have h1 : wsum (fun j => p j * m / wsum p a L) a L * wsum p a L ≤ wsum p a L * m := by
      rw [← wsum_mul, ← wsum_mul]
      exact wsum_le (fun k _ _ => Nat.div_mul_le_self _ _)
    rw [Nat.mul_comm] at h1
    exact Nat.le_of_mul_le_mul_left h1 e
/-! the end state is one -/
def goodS3 (p r : Nat → Nat) (L : List Nat) (M : Nat) (a : Nat → Bool) (m : Nat) : Prop := m + wsum r (fun k => !a k) L = M ∧ ∀ k, k ∈ L → a k = false → r k * wsum p a L ≤ p k * m
def closedS (p r : Nat → Nat) (L : List Nat) (a : Nat → Bool) (m : Nat) : Prop := ∀ k, k ∈ L → a k = true → p k * m < r k * wsum p a L
theorem good_step {p r : Nat → Nat} {L : List Nat} {M : Nat} {a : Nat → Bool} {m : Nat} (hp : ∀ k, k ∈ L → 1 ≤ p k) (h : goodS3 p r L M a m) : goodS3 p r L M (off p r L a m) (m - wsum r (hit p r L a m) L) := by
  obtain ⟨h1, h2⟩ := h
  have hr := room_le (r := r) hp a m
  have hl := hit_le (r := r) hp a m
  have hs := hitp_le p r L a m p
  have e1 : wsum r (fun k => !off p r L a m k) L = wsum r (fun k => !a k) L + wsum r (hit p r L a m) L := by
    have s1 := wsum_split r (fun k => !off p r L a m k) a L
    have s2 : wsum r (fun k => (!off p r L a m k) && a k) L = wsum r (hit p r L a m) L := wsum_congr (fun k _ => by unfold off hit; cases a k <;> cases rch p r m (wsum p a L) k <;> rfl) (fun _ _ _ => rfl)
    have s3 : wsum r (fun k => (!off p r L a m k) && !a k) L = wsum r (fun k => !a k) L := wsum_congr (fun k _ => by unfold off; cases a k <;> cases rch p r m (wsum p a L) k <;> rfl) (fun _ _ _ => rfl)
    omega
  refine ⟨by rw [e1]; omega, fun k hk ho => ?_⟩
  rcases Nat.eq_zero_or_pos (wsum p a L) with e | e
  · have : wsum p (off p r L a m) L = 0 := by omega
    rw [this, Nat.mul_zero]; exact Nat.zero_le _
  · have hk0 : r k * wsum p a L ≤ p k * m := by
      cases ha : a k with
      | false => exact h2 k hk ha
      | true =>
        unfold off at ho
        rw [ha, Bool.true_and, Bool.not_eq_false'] at ho
        exact of_decide_eq_true ho
    refine Nat.le_of_mul_le_mul_right ?_ e
    generalize wsum p a L = P at *
    generalize wsum r (hit p r L a m) L = R at *
    generalize wsum p (hit p r L a m) L = Ph at *
    generalize wsum p (off p r L a m) L = Po at *
    subst hs
    have a1 : r k * Po * (Ph + Po) = r k * (Ph + Po) * Po := by rw [Nat.mul_assoc, Nat.mul_assoc, Nat.mul_comm Po]
    have a2 : r k * (Ph + Po) * Po ≤ p k * m * Po := Nat.mul_le_mul_right _ hk0
    have a3 : m * Po ≤ (m - R) * (Ph + Po) := by
      rw [Nat.sub_mul, Nat.mul_add, Nat.mul_comm m Ph]
      have := hl
      omega
    have a4 : p k * m * Po ≤ p k * (m - R) * (Ph + Po) := by rw [Nat.mul_assoc, Nat.mul_assoc]; exact Nat.mul_le_mul_left _ a3
    omega
theorem clo_good {p r : Nat → Nat} {L : List Nat} {M : Nat} (hp : ∀ k, k ∈ L → 1 ≤ p k) : ∀ (f : Nat) (a : Nat → Bool) (m : Nat), goodS3 p r L M a m → wsum (fun _ => 1) a L ≤ f →
    goodS3 p r L M (clo p r L f a m).1 (clo p r L f a m).2 ∧ closedS p r L (clo p r L f a m).1 (clo p r L f a m).2
  | 0, a, m, h, hf => ⟨h, fun k hk ha => by have := wsum_zero (a := a) (l := L) (by omega) k hk; rw [show (clo p r L 0 a m).1 = a from rfl] at ha; rw [this] at ha; cases ha⟩
  | f + 1, a, m, h, hf => by
    unfold clo
    by_cases c : wsum (fun _ => 1) (hit p r L a m) L = 0
    · rw [if_pos c]
      refine ⟨h, fun k hk ha => ?_⟩
      have h1 := wsum_zero c k hk
      have ha : a k = true := ha
      unfold hit at h1
      rw [ha, Bool.true_and] at h1
      have h2 := of_decide_eq_false h1
      show p k * m < r k * wsum p a L
      exact Nat.lt_of_not_le h2
    · rw [if_neg c]
      have hs := hitp_le p r L a m (fun _ => 1)
      exact clo_good hp f _ _ (good_step hp h) (by omega)
theorem fin_good {p r : Nat → Nat} {L : List Nat} (hb : bndL p r L) (M : Nat) : goodS3 p r L M (fin p r L M).1 (fin p r L M).2 ∧ closedS p r L (fin p r L M).1 (fin p r L M).2 := by
  have e : wsum r (fun k => !(fun _ : Nat => true) k) L = 0 := wsum_none (fun _ _ => rfl)
  have l := wsum_len (fun _ => true) L
  have l2 := hb.1
  exact clo_good (fun k hk => (hb.2 k hk).2.1) 25 (fun _ => true) M ⟨by rw [e]; rfl, fun k _ h => by cases h⟩ (by omega)
theorem one_half {p r : Nat → Nat} {L : List Nat} {M : Nat} {a1 a2 : Nat → Bool} {m1 m2 : Nat} (hp : ∀ k, k ∈ L → 1 ≤ p k) (g1 : goodS3 p r L M a1 m1) (c1 : closedS p r L a1 m1) (g2 : goodS3 p r L M a2 m2) (c2 : closedS p r L a2 m2)
    {k : Nat} (hk : k ∈ L) (h1 : a1 k = true) (h2 : a2 k = false) : False := by
  have hP1 : 1 ≤ wsum p a1 L := Nat.le_trans (hp k hk) (wsum_mem hk h1)
  have hk1 := c1 k hk h1
  have hk2 := g2.2 k hk h2
  have key : wsum p a2 L = 0 ∨ m1 * wsum p a2 L < m2 * wsum p a1 L := by
    rcases Nat.eq_zero_or_pos (wsum p a2 L) with e | e
    · exact Or.inl e
    · right
      refine Nat.lt_of_mul_lt_mul_left (a := p k) ?_
      have b1 : p k * m1 * wsum p a2 L < r k * wsum p a1 L * wsum p a2 L := Nat.mul_lt_mul_of_pos_right hk1 e
      have b2 : r k * wsum p a2 L * wsum p a1 L ≤ p k * m2 * wsum p a1 L := Nat.mul_le_mul_right _ hk2
      have b3 : r k * wsum p a1 L * wsum p a2 L = r k * wsum p a2 L * wsum p a1 L := Nat.mul_right_comm _ _ _
      rw [← Nat.mul_assoc, ← Nat.mul_assoc]
      omega
  have sub : ∀ j, j ∈ L → a2 j = true → a1 j = true := by
    intro j hj hj2
    cases hj1 : a1 j with
    | true => rfl
    | false =>
      exfalso
      have d1 := g1.2 j hj hj1
      have d2 := c2 j hj hj2
      have hP2 : 1 ≤ wsum p a2 L := Nat.le_trans (hp j hj) (wsum_mem hj hj2)
      rcases key with e | e
      · omega
      · have b1 : r j * wsum p a1 L * wsum p a2 L ≤ p j * m1 * wsum p a2 L := Nat.mul_le_mul_right _ d1
        have b2 : p j * m2 * wsum p a1 L < r j * wsum p a2 L * wsum p a1 L := Nat.mul_lt_mul_of_pos_right d2 (by omega)
        have b3 : r j * wsum p a1 L * wsum p a2 L = r j * wsum p a2 L * wsum p a1 L := Nat.mul_right_comm _ _ _
        have b4 : p j * m1 * wsum p a2 L ≤ p j * m2 * wsum p a1 L := by rw [Nat.mul_assoc, Nat.mul_assoc]; exact Nat.mul_le_mul_left _ (Nat.le_of_lt e)
        omega
  have s1 : ∀ w : Nat → Nat, wsum w a1 L = wsum w (fun j => a1 j && !a2 j) L + wsum w a2 L := by
    intro w
    have t1 := wsum_split w a1 a2 L
    have t2 : wsum w (fun j => a1 j && a2 j) L = wsum w a2 L := wsum_congr (fun j hj => by
      cases e : a2 j with
      | true => rw [sub j hj e]; rfl
      | false => cases a1 j <;> rfl) (fun _ _ _ => rfl)
    omega
  have s2 : wsum r (fun j => !a2 j) L = wsum r (fun j => a1 j && !a2 j) L + wsum r (fun j => !a1 j) L := by
    have t1 := wsum_split r (fun j => !a2 j) a1 L
    have t2 : wsum r (fun j => (!a2 j) && a1 j) L = wsum r (fun j => a1 j && !a2 j) L := wsum_congr (fun j _ => Bool.and_comm _ _) (fun _ _ _ => rfl)
    have t3 : wsum r (fun j => (!a2 j) && !a1 j) L = wsum r (fun j => !a1 j) L := wsum_congr (fun j hj => by
      cases e : a2 j with
      | true => rw [sub j hj e]; rfl
      | false => cases a1 j <;> rfl) (fun _ _ _ => rfl)
    omega
  have hm : m1 = m2 + wsum r (fun j => a1 j && !a2 j) L := by have := g1.1; have := g2.1; omega
  have hd : wsum p (fun j => a1 j && !a2 j) L * m1 < wsum r (fun j => a1 j && !a2 j) L * wsum p a1 L := by
    rw [← wsum_mul, ← wsum_mul]
    have le : ∀ l : List Nat, (∀ j, j ∈ l → j ∈ L) → k ∈ l → wsum (fun j => p j * m1) (fun j => a1 j && !a2 j) l < wsum (fun j => r j * wsum p a1 L) (fun j => a1 j && !a2 j) l := by
      intro l
      induction l with
      | nil => intro _ h; cases h
      | cons x l ih =>
        intro hl hx
        show (if (a1 x && !a2 x) = true then p x * m1 else 0) + wsum _ _ l < (if (a1 x && !a2 x) = true then r x * wsum p a1 L else 0) + wsum _ _ l
        have wk : wsum (fun j => p j * m1) (fun j => a1 j && !a2 j) l ≤ wsum (fun j => r j * wsum p a1 L) (fun j => a1 j && !a2 j) l := wsum_le (fun j hj ha => by
          rw [Bool.and_eq_true] at ha
          exact Nat.le_of_lt (c1 j (hl j (List.mem_cons_of_mem _ hj)) ha.1))
        rcases List.mem_cons.mp hx with e | hx
        · subst e
          rw [if_pos (by rw [h1, h2]; rfl), if_pos (by rw [h1, h2]; rfl)]
          omega
        · have := ih (fun j hj => hl j (List.mem_cons_of_mem _ hj)) hx
          by_cases c : (a1 x && !a2 x) = true
          · rw [if_pos c, if_pos c]
            rw [Bool.and_eq_true] at c
            have := c1 x (hl x List.mem_cons_self) c.1
            omega
          · rw [if_neg c, if_neg c]; omega
    exact le L (fun _ h => h) hk
  have hP := s1 p
  generalize wsum p a1 L = P1 at *
  generalize wsum p a2 L = P2 at *
  generalize wsum r (fun j => a1 j && !a2 j) L = RD at *
  generalize wsum p (fun j => a1 j && !a2 j) L = PD at *
  subst hP
  subst hm
  have x1 : PD * (m2 + RD) = PD * m2 + PD * RD := Nat.mul_add _ _ _
  have x2 : RD * (PD + P2) = PD * RD + RD * P2 := by rw [Nat.mul_add, Nat.mul_comm RD PD]
  have x3 : (m2 + RD) * P2 = m2 * P2 + RD * P2 := Nat.add_mul _ _ _
  have x4 : m2 * (PD + P2) = PD * m2 + m2 * P2 := by rw [Nat.mul_add, Nat.mul_comm m2 PD]
  rcases key with e | e
  · subst e; rw [Nat.mul_zero] at x2; omega
  · omega
theorem good_one {p r : Nat → Nat} {L : List Nat} {M : Nat} {a1 a2 : Nat → Bool} {m1 m2 : Nat} (hp : ∀ k, k ∈ L → 1 ≤ p k) (g1 : goodS3 p r L M a1 m1) (c1 : closedS p r L a1 m1) (g2 : goodS3 p r L M a2 m2) (c2 : closedS p r L a2 m2) : (∀ k, k ∈ L → a1 k = a2 k) ∧ m1 = m2 := by
  have h : ∀ k, k ∈ L → a1 k = a2 k := by
    intro k hk
    cases e1 : a1 k <;> cases e2 : a2 k
    · rfl
    · exact (one_half hp g2 c2 g1 c1 hk e2 e1).elim
    · exact (one_half hp g1 c1 g2 c2 hk e1 e2).elim
    · rfl
  refine ⟨h, ?_⟩
  have e : wsum r (fun k => !a1 k) L = wsum r (fun k => !a2 k) L := wsum_congr (fun k hk => by rw [h k hk]) (fun _ _ _ => rfl)
  have := g1.1
  have := g2.1
  omega
