/-! in looks -/
def lookI (p r : Nat → Nat) (L : List Nat) (a : Nat → Bool) (mm z i g : Nat) (zs zf : Nat → Int32) : Prop :=
  i ≤ z ∧ (∀ k, k < z → zf k = nI (if (if k < i then off p r L a mm (lg L k) else a (lg L k)) = true then 0 else 1)) ∧ (∀ k, k < z → (if k < i then off p r L a mm (lg L k) else a (lg L k)) = false → zs k = nI (r (lg L k))) ∧ g = (if wsum (fun _ => 1) (hit p r L a mm) (L.take i) = 0 then 0 else 1)
def sR (p r : Nat → Nat) (L : List Nat) (a : Nat → Bool) (mm i : Nat) : Nat := wsum r (hit p r L a mm) (L.take i)
def sP (p r : Nat → Nat) (L : List Nat) (a : Nat → Bool) (mm i : Nat) : Nat := wsum p (hit p r L a mm) (L.take i)
theorem sR_s {p r : Nat → Nat} {L : List Nat} {a : Nat → Bool} {mm i : Nat} (h : i < L.length) : sR p r L a mm (i + 1) = sR p r L a mm i + (if hit p r L a mm (lg L i) = true then r (lg L i) else 0) := wsum_take _ _ _ h
theorem sP_s {p r : Nat → Nat} {L : List Nat} {a : Nat → Bool} {mm i : Nat} (h : i < L.length) : sP p r L a mm (i + 1) = sP p r L a mm i + (if hit p r L a mm (lg L i) = true then p (lg L i) else 0) := wsum_take _ _ _ h
theorem sR_le {p r : Nat → Nat} {L : List Nat} (hB : bndL p r L) (a : Nat → Bool) (mm i : Nat) : sR p r L a mm i ≤ mm := Nat.le_trans (wsum_take_le _ _ _ _) (room_le (fun k hk => (hB.2 k hk).2.1) a mm)
theorem sP_le (p r : Nat → Nat) (L : List Nat) (a : Nat → Bool) (mm i : Nat) : sP p r L a mm i ≤ wsum p a L := Nat.le_trans (wsum_take_le _ _ _ _) (by have := hitp_le p r L a mm p; omega)
theorem lk_no {p r : Nat → Nat} {L : List Nat} {a : Nat → Bool} {mm z i g : Nat} {zs zf : Nat → Int32} (hz : z = L.length) (h : lookI p r L a mm z i g zs zf) (hi : i < z) (hn : hit p r L a mm (lg L i) = false) :
    lookI p r L a mm z (i + 1) g zs zf ∧ sR p r L a mm i = sR p r L a mm (i + 1) ∧ sP p r L a mm i = sP p r L a mm (i + 1) := by
  obtain ⟨h1, h2, h3, h4⟩ := h
  have hoff : off p r L a mm (lg L i) = a (lg L i) := by
    unfold hit at hn; unfold off
    cases ha : a (lg L i) with
    | false => rfl
    | true => rw [ha, Bool.true_and] at hn; rw [hn]; rfl
  have key : ∀ k, (if k < i + 1 then off p r L a mm (lg L k) else a (lg L k)) = (if k < i then off p r L a mm (lg L k) else a (lg L k)) := by
    intro k
    by_cases e : k = i
    · subst e; rw [if_pos (Nat.lt_succ_self _), if_neg (Nat.lt_irrefl _)]; exact hoff
    · by_cases l : k < i
      · rw [if_pos l, if_pos (by omega)]
      · rw [if_neg l, if_neg (by omega)]
  refine ⟨⟨by omega, fun k hk => by rw [key k]; exact h2 k hk, fun k hk => by rw [key k]; exact h3 k hk, ?_⟩, by rw [sR_s (by omega), hn]; rfl, by rw [sP_s (by omega), hn]; rfl⟩
  rw [h4, wsum_take _ _ _ (by omega), show L.getD i 0 = lg L i from rfl, hn, if_neg (by decide : ¬ false = true), Nat.add_zero]
theorem lk_yes {p r : Nat → Nat} {L : List Nat} {a : Nat → Bool} {mm z i g : Nat} {zs zf : Nat → Int32} (hz : z = L.length) (h : lookI p r L a mm z i g zs zf) (hi : i < z) (hn : hit p r L a mm (lg L i) = true) :
    lookI p r L a mm z (i + 1) 1 (upd zs i (nI (r (lg L i)))) (upd zf i (nI 1)) ∧ sR p r L a mm (i + 1) = sR p r L a mm i + r (lg L i) ∧ sP p r L a mm (i + 1) = sP p r L a mm i + p (lg L i) := by
  obtain ⟨h1, h2, h3, h4⟩ := h
  have hoff : off p r L a mm (lg L i) = false := by
    unfold hit at hn; unfold off
    rw [Bool.and_eq_true] at hn
    rw [hn.1, hn.2]; rfl
  refine ⟨⟨by omega, fun k hk => ?_, fun k hk => ?_, ?_⟩, by rw [sR_s (by omega), if_pos hn], by rw [sP_s (by omega), if_pos hn]⟩
  · unfold upd
    by_cases e : k = i
    · subst e; rw [if_pos rfl, if_pos (Nat.lt_succ_self _), hoff]; rfl
    · rw [if_neg e, h2 k hk]
      by_cases l : k < i
      · rw [if_pos l, if_pos (show k < i + 1 by omega)]
      · rw [if_neg l, if_neg (show ¬ k < i + 1 by omega)]
  · unfold upd
    by_cases e : k = i
    · subst e; intro _; rw [if_pos rfl]
    · rw [if_neg e]
      intro q
      refine h3 k hk ?_
      by_cases l : k < i
      · rw [if_pos l]; rw [if_pos (show k < i + 1 by omega)] at q; exact q
      · rw [if_neg l]; rw [if_neg (show ¬ k < i + 1 by omega)] at q; exact q
  · rw [wsum_take _ _ _ (by omega), show L.getD i 0 = lg L i from rfl, hn, if_pos rfl, if_neg (by omega)]
def looksI (p r : Nat → Nat) (L : List Nat) (M z j g : Nat) (a : Nat → Bool) (mm : Nat) (zs zf : Nat → Int32) : Prop :=
  flA L a zf z ∧ (∀ i, i < z → a (lg L i) = false → zs i = nI (r (lg L i))) ∧ mm ≤ M ∧ j ≤ z + 1 ∧ g ≤ 1 ∧ (g = 1 → wsum (fun _ => 1) a L + j ≤ z ∧ clo p r L (25 - j) a mm = fin p r L M) ∧ (g = 0 → (a, mm) = fin p r L M)
theorem looks_0 {p r : Nat → Nat} {L : List Nat} {M z : Nat} {zs zf : Nat → Int32} (hz : z = L.length) (hf : ∀ i, i < z → zf i = nI 0) : looksI p r L M z 0 1 (fun _ => true) M zs zf :=
  ⟨fun i hi => by rw [hf i hi]; rfl, fun i _ h => (by cases h), Nat.le_refl _, Nat.zero_le _, Nat.le_refl _, fun _ => ⟨by rw [hz]; exact wsum_len _ L, rfl⟩, fun h => by cases h⟩
theorem look_0 {p r : Nat → Nat} {L : List Nat} {M z j g : Nat} {a : Nat → Bool} {mm : Nat} {zs zf : Nat → Int32} (h : looksI p r L M z j g a mm zs zf) : lookI p r L a mm z 0 0 zs zf :=
  ⟨Nat.zero_le _, fun k hk => by rw [if_neg (Nat.not_lt_zero k)]; exact h.1 k hk, fun k hk => by rw [if_neg (Nat.not_lt_zero k)]; exact h.2.1 k hk, rfl⟩
def nxA (p r : Nat → Nat) (L : List Nat) (a : Nat → Bool) (mm g : Nat) : Nat → Bool := if g = 0 then a else off p r L a mm
def nxM (p r : Nat → Nat) (L : List Nat) (a : Nat → Bool) (mm g : Nat) : Nat := if g = 0 then mm else mm - wsum r (hit p r L a mm) L
theorem look_end {p r : Nat → Nat} {L : List Nat} {M z j g g2 i : Nat} {a : Nat → Bool} {mm : Nat} {zs zf zs2 zf2 : Nat → Int32} (hz : z = L.length) (hB : bndL p r L) (h : looksI p r L M z j g a mm zs zf) (hg : g = 1) (hj : j ≤ z) (h2 : lookI p r L a mm z i g2 zs2 zf2) (hi : z ≤ i) :
    looksI p r L M z (j + 1) g2 (nxA p r L a mm g2) (nxM p r L a mm g2) zs2 zf2 ∧ mm - sR p r L a mm i = nxM p r L a mm g2 ∧ wsum p a L - sP p r L a mm i = wsum p (nxA p r L a mm g2) L := by
  obtain ⟨a1, a2, a3, a4, a5, a6, a7⟩ := h
  obtain ⟨b1, b2, b3, b4⟩ := h2
  obtain ⟨c1, c2⟩ := a6 hg
  have ht : L.take i = L := take_all hz hi
  unfold sR sP
  rw [ht] at b4 ⊢
  have e25 : 25 - j = (25 - (j + 1)) + 1 := by have := hB.1; omega
  rw [e25] at c2
  unfold clo at c2
  by_cases hc : wsum (fun _ => 1) (hit p r L a mm) L = 0
  · rw [if_pos hc] at c2 b4
    subst b4
    have hno := wsum_zero hc
    have hoff : ∀ k, k < z → off p r L a mm (lg L k) = a (lg L k) := by
      intro k hk
      have := hno _ (lg_mem (L := L) (i := k) (by omega))
      unfold hit at this; unfold off
      cases ha : a (lg L k) with
      | false => rfl
      | true => rw [ha, Bool.true_and] at this; rw [this]; rfl
    have z1 : wsum r (hit p r L a mm) L = 0 := wsum_none hno
    have z2 : wsum p (hit p r L a mm) L = 0 := wsum_none hno
    refine ⟨⟨fun k hk => ?_, fun k hk => ?_, a3, by omega, by omega, fun h => absurd h (by decide), fun _ => c2⟩, by rw [z1]; rfl, by rw [z2]; rfl⟩
    · have := b2 k hk; rw [if_pos (show k < i by omega), hoff k hk] at this; exact this
    · have := b3 k hk; rw [if_pos (show k < i by omega), hoff k hk] at this; exact this
  · rw [if_neg hc] at c2 b4
    subst b4
    have hs := hitp_le p r L a mm (fun _ => 1)
    have hs2 := hitp_le p r L a mm p
    refine ⟨⟨fun k hk => ?_, fun k hk => ?_, by show mm - _ ≤ M; omega, by omega, by omega, fun _ => ⟨by show wsum _ (off p r L a mm) L + (j + 1) ≤ z; omega, c2⟩, fun h => absurd h (by decide)⟩, rfl, by show _ = wsum p (off p r L a mm) L; omega⟩
    · have := b2 k hk; rw [if_pos (show k < i by omega)] at this; exact this
    · have := b3 k hk; rw [if_pos (show k < i by omega)] at this; exact this
theorem looks_end {p r : Nat → Nat} {L : List Nat} {M z j g : Nat} {a : Nat → Bool} {mm : Nat} {zs zf : Nat → Int32} (h : looksI p r L M z j g a mm zs zf) (hg : g = 0) : endS p r L M zs zf z (lN mm) (lN (wsum p a L)) := by
  obtain ⟨a1, a2, a3, a4, a5, a6, a7⟩ := h
  have e := a7 hg
  unfold endS
  rw [← e]
  exact ⟨a1, a2, rfl, rfl⟩
theorem zz_hitn {p r : Nat → Nat} {L : List Nat} {a : Nat → Bool} {mm k : Nat} (h : ¬ r k * wsum p a L ≤ p k * mm) : hit p r L a mm k = false := by
  unfold hit rch; rw [decide_eq_false h, Bool.and_false]
theorem zz_hitf {p r : Nat → Nat} {L : List Nat} {a : Nat → Bool} {mm k : Nat} (h : a k = false) : hit p r L a mm k = false := by
  unfold hit; rw [h]; rfl
theorem zz_hity {p r : Nat → Nat} {L : List Nat} {a : Nat → Bool} {mm k : Nat} (h : a k = true) (h2 : r k * wsum p a L ≤ p k * mm) : hit p r L a mm k = true := by
  unfold hit rch; rw [h, decide_eq_true h2]; rfl
/-! the rest by points -/
def flo (p : Nat → Nat) (L : List Nat) (A : Nat → Bool) (m : Nat) (k : Nat) : Nat := p k * m / wsum p A L
def sF (p : Nat → Nat) (L : List Nat) (A : Nat → Bool) (m i : Nat) : Nat := wsum (flo p L A m) A (L.take i)
theorem sF_s {p : Nat → Nat} {L : List Nat} {A : Nat → Bool} {m i : Nat} (h : i < L.length) : sF p L A m (i + 1) = sF p L A m i + (if A (lg L i) = true then flo p L A m (lg L i) else 0) := wsum_take _ _ _ h
theorem sF_le (p : Nat → Nat) (L : List Nat) (A : Nat → Bool) (m i : Nat) : sF p L A m i ≤ m := Nat.le_trans (wsum_take_le _ _ _ _) (floor_le A m)
theorem flo_lt {p r : Nat → Nat} {L : List Nat} (hB : bndL p r L) (A : Nat → Bool) {m k : Nat} (hm : m ≤ 10000000) (hk : k ∈ L) : flo p L A m k < 2 ^ 30 := by
  have h1 : p k * m ≤ 100 * 10000000 := Nat.mul_le_mul (hB.2 k hk).2.2.1 hm
  have h2 : flo p L A m k ≤ p k * m := Nat.div_le_self _ _
  omega
def over (p : Nat → Nat) (L : List Nat) (A : Nat → Bool) (m : Nat) : Nat := m - wsum (flo p L A m) A L
theorem shA_t {p r : Nat → Nat} {L : List Nat} {A : Nat → Bool} {m k : Nat} (h : A k = true) : shA p r L A m k = flo p L A m k + (if cntB A k L < over p L A m then 1 else 0) := if_pos h
theorem shA_f {p r : Nat → Nat} {L : List Nat} {A : Nat → Bool} {m k : Nat} (h : A k = false) : shA p r L A m k = r k := if_neg (by rw [h]; decide)
def rst1 (p r : Nat → Nat) (L : List Nat) (A : Nat → Bool) (m z i : Nat) (zs : Nat → Int32) : Prop := i ≤ z ∧ (∀ j, j < z → A (lg L j) = false → zs j = nI (r (lg L j))) ∧ ∀ j, j < z → A (lg L j) = true → j < i → zs j = nI (flo p L A m (lg L j))
def rst2 (p r : Nat → Nat) (L : List Nat) (A : Nat → Bool) (m z i : Nat) (zs : Nat → Int32) : Prop := i ≤ z ∧ ∀ j, j < z → zs j = nI (if j < i then shA p r L A m (lg L j) else if A (lg L j) = true then flo p L A m (lg L j) else r (lg L j))
theorem rst1_n {p r : Nat → Nat} {L : List Nat} {A : Nat → Bool} {m z i : Nat} {zs : Nat → Int32} (h : rst1 p r L A m z i zs) (hi : i < z) (hA : A (lg L i) = false) : rst1 p r L A m z (i + 1) zs :=
  ⟨by omega, h.2.1, fun j hj ha hl => h.2.2 j hj ha (by rcases Nat.lt_or_ge j i with q | q; exact q; have e : j = i := by omega
                                                        subst e; rw [hA] at ha; cases ha)⟩
theorem rst1_y {p r : Nat → Nat} {L : List Nat} {A : Nat → Bool} {m z i : Nat} {zs : Nat → Int32} (h : rst1 p r L A m z i zs) (hi : i < z) (hA : A (lg L i) = true) : rst1 p r L A m z (i + 1) (upd zs i (nI (flo p L A m (lg L i)))) := by
  refine ⟨by omega, fun j hj ha => ?_, fun j hj ha hl => ?_⟩
  · unfold upd
    by_cases e : j = i
    · subst e; rw [hA] at ha; cases ha
    · rw [if_neg e]; exact h.2.1 j hj ha
  · unfold upd
    by_cases e : j = i
    · rw [if_pos e, e]
    · rw [if_neg e]; exact h.2.2 j hj ha (by omega)
theorem rst2_0 {p r : Nat → Nat} {L : List Nat} {A : Nat → Bool} {m z i : Nat} {zs : Nat → Int32} (h : rst1 p r L A m z i zs) (hi : z ≤ i) : rst2 p r L A m z 0 zs := by
  refine ⟨Nat.zero_le _, fun j hj => ?_⟩
  rw [if_neg (Nat.not_lt_zero j)]
  cases ha : A (lg L j) with
  | true => rw [if_pos rfl]; exact h.2.2 j hj ha (by omega)
  | false => rw [if_neg (by decide)]; exact h.2.1 j hj ha
theorem rst2_n {p r : Nat → Nat} {L : List Nat} {A : Nat → Bool} {m z i : Nat} {zs : Nat → Int32} (h : rst2 p r L A m z i zs) (hi : i < z) (hA : A (lg L i) = false ∨ (A (lg L i) = true ∧ ¬ cntB A (lg L i) L < over p L A m)) : rst2 p r L A m z (i + 1) zs := by
  refine ⟨by omega, fun j hj => ?_⟩
  have h2 := h.2 j hj
  by_cases e : j = i
  · subst e
    rw [if_neg (Nat.lt_irrefl _)] at h2
    rw [if_pos (Nat.lt_succ_self _), h2]
    rcases hA with ha | ⟨ha, hc⟩
    · rw [shA_f ha, ha]; rfl
    · rw [shA_t ha, ha, if_neg hc]; rfl
  · by_cases l : j < i
    · rw [if_pos (by omega)]; rw [if_pos l] at h2; exact h2
    · rw [if_neg (by omega)]; rw [if_neg l] at h2; exact h2
theorem rst2_y {p r : Nat → Nat} {L : List Nat} {A : Nat → Bool} {m z i : Nat} {zs : Nat → Int32} (h : rst2 p r L A m z i zs) (hi : i < z) (hA : A (lg L i) = true) (hc : cntB A (lg L i) L < over p L A m) : rst2 p r L A m z (i + 1) (upd zs i (nI (flo p L A m (lg L i) + 1))) := by
  refine ⟨by omega, fun j hj => ?_⟩
  unfold upd
  by_cases e : j = i
  · subst e
    rw [if_pos rfl, if_pos (Nat.lt_succ_self _), shA_t hA, if_pos hc]
  · rw [if_neg e]
    have h2 := h.2 j hj
    by_cases l : j < i
    · rw [if_pos (show j < i + 1 by omega)]; rw [if_pos l] at h2; exact h2
    · rw [if_neg (show ¬ j < i + 1 by omega)]; rw [if_neg l] at h2; exact h2
theorem rst2_at {p r : Nat → Nat} {L : List Nat} {A : Nat → Bool} {m z i : Nat} {zs : Nat → Int32} (h : rst2 p r L A m z i zs) (hi : i < z) (hA : A (lg L i) = true) : zs i = nI (flo p L A m (lg L i)) := by
  have h2 := h.2 i hi
  rw [if_neg (Nat.lt_irrefl _), if_pos hA] at h2
  exact h2
theorem zz_lS2 {a b d : Nat} (h : a + b = d) {m : Nat} (hd : d ≤ m) : lN (m - a) - lN b = lN (m - d) := by
  rw [lN_sub (by omega)]; congr 1; omega
theorem zz_ifn {b : Bool} (h : b = true) : ¬ b = false := by rw [h]; decide

theorem wsum_p0 {p r : Nat → Nat} {L : List Nat} {A : Nat → Bool} (hB : bndL p r L) (h : ¬ 1 ≤ wsum p A L) {k : Nat} (hk : k ∈ L) : A k = false := by
  cases e : A k with
  | false => rfl
  | true => have := wsum_mem (w := p) hk e; have := (hB.2 k hk).2.1; omega

set_option maxHeartbeats 4000000 in
set_option maxRecDepth 100000 in
theorem c_X2_fillInLooks (l : Launch) {dC : Nat → ClassId} {dI : Nat → Nat → Nat} {cI cZ : ClassId} {ad : Nat → Nat} {sm fe ex dy : Int32} {gp gc op gr st dl wo : Nat → Int32} {n : Nat} {yc ya ys yd : Nat → Int32} {q : Nat} {zc zp zr zs zf : Nat → Int32} {z : Nat} {zm zt : Int64} {L : List Nat} {pf : Nat → Nat} {rf : Nat → Nat} {M : Nat} (hI : iwC ad) (hR : repL pf rf L zc zp zr z) (hB : bndL pf rf L) (hf0 : ∀ i, i < z → zf i = nI 0) (hmm : M ≤ 10000000) (hm : zm = lN M) (ht0 : zt = lN (wsum pf (fun _ => true) L)) : Met l yX2_fillInLooks wsX2_fillInLooks { frames := 1, cells := 0, slots := 0, locals := 25 } (va_Pc [.ref (ad 14)] (fun U => va_P (dC, dI) vwCl (wC cI cZ ad sm fe ex dy gp gc op gr st dl wo n yc ya ys yd q zc zp zr zs zf z zm zt) U.heap ∧ va_K (dC, dI) vwCl [(cI, .int), (cZ, .boolean)] U)) (va_Qv (fun u9 : (Nat → Int32) × (Nat → Int32) × Int64 × Int64 => endS pf rf L M u9.1 u9.2.1 z u9.2.2.1 u9.2.2.2) (fun u9 t => va_P (dC, dI) vwCl (wC cI cZ ad sm fe ex dy gp gc op gr st dl wo n yc ya ys yd q zc zp zr u9.1 u9.2.1 z u9.2.2.1 u9.2.2.2) t.heap) (awC ad)) 0 0 (awC ad) := by
  refine Met.ofW (cc := cX2_fillInLooks) (maxL := 8) (ret := none) (by decide) rfl ?_
  intro p e s m args below meth c s₁ B hml hv
  obtain ⟨rfl, hP, hK⟩ := hv
  have hx := B.exec
  have hb := B.bytes
  have hr := B.returns
  have hts := atoms_spec (ws := wsX2_fillInLooks) B.pre
  have hown : s.vm.findClass RX2 = some m.cls := findClass_of_methodNamed B.named
  have hlocks := B.notSynchronized
  have hS : va_S (awC ad) s.heap s.heap [] := va_S.rf
  have hl := lv_entry ([.ref (ad 14)]) (n := 8) (Nat.le_of_ble_eq_true rfl)
  rw [lg_entry_eq]
  generalize (lg_sl ([.ref (ad 14)]) ++ List.replicate (8 - (lg_sl ([.ref (ad 14)])).length) Slot.unset).toArray = ls at hl ⊢
  have hl : lv_has ls 8 [(0, .ref (ad 14))] := hl
  have hz := hR.z hB
  have hzl := hR.1
  have hiX2 : ∀ w ∈ wsX20, w ∈ wsX2_fillInLooks := by decide +kernel
  have hf28 := hts (.fieldLink RX2 28 "SettlementFund$Sharing" "size" "I") (by decide +kernel)
  have hf47 := hts (.fieldLink RX2 47 "SettlementFund$Sharing" "restMoney" "J") (by decide +kernel)
  have hf51 := hts (.fieldLink RX2 51 "SettlementFund$Sharing" "restPoints" "J") (by decide +kernel)
  have hf24 := hts (.fieldLink RX2 24 "SettlementFund$Sharing" "isFull" "[Z") (by decide +kernel)
  refine lv_iconst (v := nI 1) hx hb dX2_fillInLooks_0 (by decide) ?_
  refine lv_istore_n (lv' := [(1, .int (nI 1)), (0, .ref (ad 14))]) hx hb dX2_fillInLooks_1 rfl hl (by decide) rfl (fun ls hl => ?_)
  refine lv_iconst (v := nI 0) hx hb dX2_fillInLooks_2 (by decide) ?_
  refine lv_istore_n (lv' := [(2, .int (nI 0)), (1, .int (nI 1)), (0, .ref (ad 14))]) hx hb dX2_fillInLooks_3 rfl hl (by decide) rfl (fun ls hl => ?_)
  have e_1 : zm = lN M := hm
  rw [e_1] at hP
  have e_2 : zt = lN (wsum pf (fun _ => true) L) := ht0
  rw [e_2] at hP
  refine zl_rw (fun a9 : Nat × Nat × (Nat → Bool) × Nat × (Nat → Int32) × (Nat → Int32) => wC cI cZ ad sm fe ex dy gp gc op gr st dl wo n yc ya ys yd q zc zp zr a9.2.2.2.2.1 a9.2.2.2.2.2 z (lN a9.2.2.2.1) (lN (wsum pf a9.2.2.1 L))) (fun a9 : Nat × Nat × (Nat → Bool) × Nat × (Nat → Int32) × (Nat → Int32) => [(0, .ref (ad 14)), (1, .int (nI a9.2.1)), (2, .int (nI a9.1))]) (fun a9 : Nat × Nat × (Nat → Bool) × Nat × (Nat → Int32) × (Nat → Int32) => looksI pf rf L M z a9.1 a9.2.1 a9.2.2.1 a9.2.2.2.1 a9.2.2.2.2.1 a9.2.2.2.2.2) (fun a9 : Nat × Nat × (Nat → Bool) × Nat × (Nat → Int32) × (Nat → Int32) => z + 2 - a9.1) (0, 1, (fun _ => true), M, zs, zf) (looks_0 hzl hf0) hP hS (lv_sub hl [2, 1, 0] rfl) ?_
  intro a9 hi_4 ih_4 H locs hP hS ls hl
  obtain ⟨j, g, a, mm, zs2, zf2⟩ := a9
  have hi_4 : looksI pf rf L M z j g a mm zs2 zf2 := hi_4
  have hl : lv_has ls 8 [(0, .ref (ad 14)), (1, .int (nI g)), (2, .int (nI j))] := hl
  have hP : va_P (dC, dI) vwCl (wC cI cZ ad sm fe ex dy gp gc op gr st dl wo n yc ya ys yd q zc zp zr zs2 zf2 z (lN mm) (lN (wsum pf a L))) H := hP
  have hg1 := hi_4.2.2.2.2.1
  have hj1 := hi_4.2.2.2.1
  refine lv_iload_n hx hb dX2_fillInLooks_4 rfl (lv_at hl 1 rfl) ?_
  refine zi_eq (tgt := 83) hx hb (by omega) dX2_fillInLooks_5 (by decide) (fun c_5 => ?_) (fun c_5 => ?_)
  · exact W.vret hx hb hr (fun t ht hW => ⟨⟨(zs2, zf2, lN mm, lN (wsum pf a L)), rfl, looks_end hi_4 (by omega), by (try dsimp only); rw [ht]; exact hP⟩, hS.F ht⟩) hS.2.2 dX2_fillInLooks_83
  · refine lv_iload_n hx hb dX2_fillInLooks_8 rfl (lv_at hl 2 rfl) ?_
    refine lv_aload_n hx hb dX2_fillInLooks_9 rfl (lv_at hl 0 rfl) ?_
    refine gC_14_5 hx hb hts hiX2 hown hK hP hf28 dX2_fillInLooks_10 ?_
    refine zb_gt (tgt := 83) hx hb (by omega) (by omega) dX2_fillInLooks_13 (by decide) (fun c_13 => (show False by have h9 := (hi_4.2.2.2.2.2.1 (by omega)).1; omega).elim) (fun c_13 => ?_)
    have hmm1 := hi_4.2.2.1
    have h24 := bnd_P hB a
    refine lv_aload_n hx hb dX2_fillInLooks_16 rfl (lv_at hl 0 rfl) ?_
    refine gC_14_6 hx hb hts hiX2 hown hK hP hf47 dX2_fillInLooks_17 ?_
    refine lv_lstore_n (lv' := [(3, .long (lN mm)), (0, .ref (ad 14)), (1, .int (nI g)), (2, .int (nI j))]) hx hb dX2_fillInLooks_20 rfl hl (by decide) rfl (fun ls hl => ?_)
    refine lv_aload_n hx hb dX2_fillInLooks_21 rfl (lv_at hl 1 rfl) ?_
    refine gC_14_7 hx hb hts hiX2 hown hK hP hf51 dX2_fillInLooks_22 ?_
    refine lv_lstore (lv' := [(5, .long (lN (wsum pf a L))), (3, .long (lN mm)), (0, .ref (ad 14)), (1, .int (nI g)), (2, .int (nI j))]) hx hb dX2_fillInLooks_25 hl (by decide) rfl (fun ls hl => ?_)
    refine lv_iconst (v := nI 0) hx hb dX2_fillInLooks_27 (by decide) ?_
    refine lv_istore_n (lv' := [(1, .int (nI 0)), (5, .long (lN (wsum pf a L))), (3, .long (lN mm)), (0, .ref (ad 14)), (2, .int (nI j))]) hx hb dX2_fillInLooks_28 rfl hl (by decide) rfl (fun ls hl => ?_)
    refine lv_iconst (v := nI 0) hx hb dX2_fillInLooks_29 (by decide) ?_
    refine lv_istore (lv' := [(7, .int (nI 0)), (1, .int (nI 0)), (5, .long (lN (wsum pf a L))), (3, .long (lN mm)), (0, .ref (ad 14)), (2, .int (nI j))]) hx hb dX2_fillInLooks_30 hl (by decide) rfl (fun ls hl => ?_)
    have e_3 : lN mm = lN (mm - sR pf rf L a mm 0) := rfl
    rw [e_3] at hP
    have e_4 : lN (wsum pf a L) = lN (wsum pf a L - sP pf rf L a mm 0) := rfl
    rw [e_4] at hP
    refine zl_rw (fun a9 : Nat × Nat × (Nat → Int32) × (Nat → Int32) => wC cI cZ ad sm fe ex dy gp gc op gr st dl wo n yc ya ys yd q zc zp zr a9.2.2.1 a9.2.2.2 z (lN (mm - sR pf rf L a mm a9.1)) (lN (wsum pf a L - sP pf rf L a mm a9.1))) (fun a9 : Nat × Nat × (Nat → Int32) × (Nat → Int32) => [(0, .ref (ad 14)), (1, .int (nI a9.2.1)), (2, .int (nI j)), (3, .long (lN mm)), (5, .long (lN (wsum pf a L))), (7, .int (nI a9.1))]) (fun a9 : Nat × Nat × (Nat → Int32) × (Nat → Int32) => lookI pf rf L a mm z a9.1 a9.2.1 a9.2.2.1 a9.2.2.2) (fun a9 : Nat × Nat × (Nat → Int32) × (Nat → Int32) => z - a9.1) (0, 0, zs2, zf2) (look_0 hi_4) hP hS (lv_sub hl [4, 1, 5, 3, 2, 0] rfl) ?_
    intro a9 hi_32 ih_32 H locs hP hS ls hl
    obtain ⟨i, g2, zs3, zf3⟩ := a9
    have hi_32 : lookI pf rf L a mm z i g2 zs3 zf3 := hi_32
    have hl : lv_has ls 8 [(0, .ref (ad 14)), (1, .int (nI g2)), (2, .int (nI j)), (3, .long (lN mm)), (5, .long (lN (wsum pf a L))), (7, .int (nI i))] := hl
    have hP : va_P (dC, dI) vwCl (wC cI cZ ad sm fe ex dy gp gc op gr st dl wo n yc ya ys yd q zc zp zr zs3 zf3 z (lN (mm - sR pf rf L a mm i)) (lN (wsum pf a L - sP pf rf L a mm i))) H := hP
    have hiz := hi_32.1
    refine lv_iload hx hb dX2_fillInLooks_32 (lv_at hl 5 rfl) ?_
    refine lv_aload_n hx hb dX2_fillInLooks_34 rfl (lv_at hl 0 rfl) ?_
    refine gC_14_5 hx hb hts hiX2 hown hK hP hf28 dX2_fillInLooks_35 ?_
    refine zb_ge (tgt := 77) hx hb (by omega) (by omega) dX2_fillInLooks_38 (by decide) (fun c_38 => ?_) (fun c_38 => ?_)
    · have hle := look_end hzl hB hi_4 (by omega) (by omega) hi_32 (by omega)
      refine lv_iinc (v := nI (j + 1)) (lv' := [(2, .int (nI (j + 1))), (0, .ref (ad 14)), (1, .int (nI g2)), (3, .long (lN mm)), (5, .long (lN (wsum pf a L))), (7, .int (nI i))]) hx hb dX2_fillInLooks_77 hl (k := 2) rfl (zz_inc _) (by decide) rfl (fun ls hl => ?_)
      refine lv_goto (tgt := 4) hx hb dX2_fillInLooks_80 (by decide) ?_
      have e_5 : lN (mm - sR pf rf L a mm i) = lN (nxM pf rf L a mm g2) := by rw [hle.2.1]
      rw [e_5] at hP
      have e_6 : lN (wsum pf a L - sP pf rf L a mm i) = lN (wsum pf (nxA pf rf L a mm g2) L) := by rw [hle.2.2]
      rw [e_6] at hP
      exact ih_4 (j + 1, g2, nxA pf rf L a mm g2, nxM pf rf L a mm g2, zs3, zf3) (hle.1) (by omega) H locs hP hS ls (lv_sub hl [1, 2, 0] rfl)
    · refine lv_aload_n hx hb dX2_fillInLooks_41 rfl (lv_at hl 0 rfl) ?_
      refine gC_14_4 hx hb hts hiX2 hown hK hP hf24 dX2_fillInLooks_42 ?_
      refine lv_iload hx hb dX2_fillInLooks_45 (lv_at hl 5 rfl) ?_
      refine lC_19 hx hb hK hP (by omega) dX2_fillInLooks_47 ?_
      refine zt_i (y := nI (if a (lg L i) = true then 0 else 1)) (by have h9 := hi_32.2.1 i (by omega); rw [if_neg (Nat.lt_irrefl i)] at h9; exact h9) ?_
      have hbi := hR.b hB (i := i) (by omega)
      have hrp := hR.2 i (by omega)
      refine zi_ne (tgt := 71) hx hb (by split <;> decide) dX2_fillInLooks_48 (by decide) (fun c_48 => ?_) (fun c_48 => ?_)
      · have hfu := zz_ifn1 c_48
        refine lv_iinc (v := nI (i + 1)) (lv' := [(7, .int (nI (i + 1))), (0, .ref (ad 14)), (1, .int (nI g2)), (2, .int (nI j)), (3, .long (lN mm)), (5, .long (lN (wsum pf a L)))]) hx hb dX2_fillInLooks_71 hl (k := 5) rfl (zz_inc _) (by decide) rfl (fun ls hl => ?_)
        refine lv_goto (tgt := 32) hx hb dX2_fillInLooks_74 (by decide) ?_
        have e_7 : lN (mm - sR pf rf L a mm i) = lN (mm - sR pf rf L a mm (i + 1)) := by rw [(lk_no hzl hi_32 (by omega) (zz_hitf hfu)).2.1]
        rw [e_7] at hP
        have e_8 : lN (wsum pf a L - sP pf rf L a mm i) = lN (wsum pf a L - sP pf rf L a mm (i + 1)) := by rw [(lk_no hzl hi_32 (by omega) (zz_hitf hfu)).2.2]
        rw [e_8] at hP
        exact ih_32 (i + 1, g2, zs3, zf3) ((lk_no hzl hi_32 (by omega) (zz_hitf hfu)).1) (by omega) H locs hP hS ls (lv_sub hl [1, 2, 3, 4, 5, 0] rfl)
      · have hnf := zz_ifn0 c_48
        refine lv_aload_n hx hb dX2_fillInLooks_51 rfl (lv_at hl 0 rfl) ?_
        refine lv_iload hx hb dX2_fillInLooks_52 (lv_at hl 5 rfl) ?_
        refine lv_lload_n hx hb dX2_fillInLooks_54 rfl (lv_at hl 3 rfl) ?_
        refine lv_lload hx hb dX2_fillInLooks_55 (lv_at hl 4 rfl) ?_
        refine k_X2_reachesRoom l (k := i) (rk := rf (lg L i)) (pk := pf (lg L i)) (mm := mm) (tt := wsum pf a L) (hk := (by omega)) (hr1 := hrp.2.2) (hp1 := hrp.2.1) (hb1 := hbi.2.2.2) (hb2 := hbi.2.2.1) (hmm := (by omega)) (htt := h24) hx hb hml hown hts hK hP gX2_fillInLooks_X2_reachesRoom ⟨Nat.le_of_ble_eq_true rfl, Nat.le_of_ble_eq_true rfl⟩ ⟨Nat.le_of_ble_eq_true rfl, Nat.le_of_ble_eq_true rfl⟩ hl.1 (Nat.le_of_ble_eq_true rfl) dX2_fillInLooks_57 ?_
        refine zi_eq (tgt := 71) hx hb (by split <;> decide) dX2_fillInLooks_60 (by decide) (fun c_60 => ?_) (fun c_60 => ?_)
        · skip
          refine lv_iinc (v := nI (i + 1)) (lv' := [(7, .int (nI (i + 1))), (0, .ref (ad 14)), (1, .int (nI g2)), (2, .int (nI j)), (3, .long (lN mm)), (5, .long (lN (wsum pf a L)))]) hx hb dX2_fillInLooks_71 hl (k := 5) rfl (zz_inc _) (by decide) rfl (fun ls hl => ?_)
          refine lv_goto (tgt := 32) hx hb dX2_fillInLooks_74 (by decide) ?_
          have e_9 : lN (mm - sR pf rf L a mm i) = lN (mm - sR pf rf L a mm (i + 1)) := by rw [(lk_no hzl hi_32 (by omega) (zz_hitn (zz_ifq c_60))).2.1]
          rw [e_9] at hP
          have e_10 : lN (wsum pf a L - sP pf rf L a mm i) = lN (wsum pf a L - sP pf rf L a mm (i + 1)) := by rw [(lk_no hzl hi_32 (by omega) (zz_hitn (zz_ifq c_60))).2.2]
          rw [e_10] at hP
          exact ih_32 (i + 1, g2, zs3, zf3) ((lk_no hzl hi_32 (by omega) (zz_hitn (zz_ifq c_60))).1) (by omega) H locs hP hS ls (lv_sub hl [1, 2, 3, 4, 5, 0] rfl)
        · have hch : rf (lg L i) * wsum pf a L ≤ pf (lg L i) * mm := zz_ifp c_60
          have hly := lk_yes hzl hi_32 (by omega) (zz_hity hnf hch)
          have hq1 := sR_le hB a mm (i + 1)
          have hq2 := sP_le pf rf L a mm (i + 1)
          rw [hly.2.1] at hq1
          rw [hly.2.2] at hq2
          refine lv_aload_n hx hb dX2_fillInLooks_63 rfl (lv_at hl 0 rfl) ?_
          refine lv_iload hx hb dX2_fillInLooks_64 (lv_at hl 5 rfl) ?_
          refine k_X2_fill l (k := i) (rk := rf (lg L i)) (pk := pf (lg L i)) (mm := mm - sR pf rf L a mm i) (tt := wsum pf a L - sP pf rf L a mm i) (hk := (by omega)) (hr1 := hrp.2.2) (hp1 := hrp.2.1) (hb1 := hbi.2.2.2) (hb2 := hbi.2.2.1) (hm := rfl) (ht0 := rfl) (h1 := (by omega)) (h2 := (by omega)) hx hb hml hown hts hK hP gX2_fillInLooks_X2_fill ⟨Nat.le_of_ble_eq_true rfl, Nat.le_of_ble_eq_true rfl⟩ ⟨Nat.le_of_ble_eq_true rfl, Nat.le_of_ble_eq_true rfl⟩ hl.1 (Nat.le_of_ble_eq_true rfl) dX2_fillInLooks_66 hI (fun _ h => h) hS (fun H locs hP hS _ => ?_)
          refine lv_iconst (v := nI 1) hx hb dX2_fillInLooks_69 (by decide) ?_
          refine lv_istore_n (lv' := [(1, .int (nI 1)), (0, .ref (ad 14)), (2, .int (nI j)), (3, .long (lN mm)), (5, .long (lN (wsum pf a L))), (7, .int (nI i))]) hx hb dX2_fillInLooks_70 rfl hl (by decide) rfl (fun ls hl => ?_)
          skip
          refine lv_iinc (v := nI (i + 1)) (lv' := [(7, .int (nI (i + 1))), (1, .int (nI 1)), (0, .ref (ad 14)), (2, .int (nI j)), (3, .long (lN mm)), (5, .long (lN (wsum pf a L)))]) hx hb dX2_fillInLooks_71 hl (k := 5) rfl (zz_inc _) (by decide) rfl (fun ls hl => ?_)
          refine lv_goto (tgt := 32) hx hb dX2_fillInLooks_74 (by decide) ?_
          have e_11 : upd zs3 i (nI (rf (lg L i))) = (upd zs3 i (nI (rf (lg L i)))) := rfl
          rw [e_11] at hP
          have e_12 : upd zf3 i (nI 1) = (upd zf3 i (nI 1)) := rfl
          rw [e_12] at hP
          have e_13 : lN ((mm - sR pf rf L a mm i) - (rf (lg L i))) = lN (mm - sR pf rf L a mm (i + 1)) := by rw [(lk_yes hzl hi_32 (by omega) (zz_hity hnf hch)).2.1, Nat.sub_add_eq]
          rw [e_13] at hP
          have e_14 : lN ((wsum pf a L - sP pf rf L a mm i) - (pf (lg L i))) = lN (wsum pf a L - sP pf rf L a mm (i + 1)) := by rw [(lk_yes hzl hi_32 (by omega) (zz_hity hnf hch)).2.2, Nat.sub_add_eq]
          rw [e_14] at hP
          exact ih_32 (i + 1, 1, upd zs3 i (nI (rf (lg L i))), upd zf3 i (nI 1)) ((lk_yes hzl hi_32 (by omega) (zz_hity hnf hch)).1) (by omega) H locs hP hS ls (lv_sub hl [2, 1, 3, 4, 5, 0] rfl)
section
variable {p : Program} {e : Env} {R : Room} {s : State} {m : MethodId} {args : Array Value} {below : List Frame} {meth : Method} {c : Code} {H : Heap} {locs : List Loc} {cells slots : Nat} {Q : State → Prop} {cc : ByteArray} {pc : Nat} {ls : Array Slot} {rest : List Value} {own : String} {index nL : Nat} {Ts : List Cond} {H0 : Heap} {A0 : Nat → Prop}
theorem k_X2_fillInLooks (l : Launch) {dC : Nat → ClassId} {dI : Nat → Nat → Nat} {cI cZ : ClassId} {ad : Nat → Nat} {sm fe ex dy : Int32} {gp gc op gr st dl wo : Nat → Int32} {n : Nat} {yc ya ys yd : Nat → Int32} {q : Nat} {zc zp zr zs zf : Nat → Int32} {z : Nat} {zm zt : Int64} {L : List Nat} {pf : Nat → Nat} {rf : Nat → Nat} {M : Nat} (hR : repL pf rf L zc zp zr z) (hB : bndL pf rf L) (hf0 : ∀ i, i < z → zf i = nI 0) (hmm : M ≤ 10000000) (hm : zm = lN M) (ht0 : zt = lN (wsum pf (fun _ => true) L)) (hx : p.tables.exec = Jvm.exec) (hb : c.code = cc) (hml : c.maxLocals = nL) (hown : s.vm.findClass own = some m.cls) (hts : ∀ w ∈ Ts, w.before args s = true) (hK : va_K (dC, dI) vwCl [(cI, .int), (cZ, .boolean)] s) (hP : va_P (dC, dI) vwCl (wC cI cZ ad sm fe ex dy gp gc op gr st dl wo n yc ya ys yd q zc zp zr zs zf z zm zt) H) (hg9 : GoodIn Ts (wsV own index RX2 yX2_fillInLooks wsX2_fillInLooks)) (hR9 : 1 + 1 ≤ R.frames ∧ 8 + (8 + 11) + 25 ≤ R.locals) (hc9 : cells ≤ R.cells ∧ slots ≤ R.slots) (hl9 : ls.size = nL) (hw9 : (rest.map fun v => v.category).sum ≤ 8) (hdg : decode cc pc = .ok (.invokevirtual index, 3)) (hI : iwC ad) (hA : ∀ x, awC ad x → A0 x) (hS : va_S A0 H0 H locs) (kk : ∀ (u9 : (Nat → Int32) × (Nat → Int32) × Int64 × Int64), (endS pf rf L M u9.1 u9.2.1 z u9.2.2.1 u9.2.2.2) → ∀ (H1 : Heap) (locs1 : List Loc), va_P (dC, dI) vwCl (wC cI cZ ad sm fe ex dy gp gc op gr st dl wo n yc ya ys yd q zc zp zr u9.1 u9.2.1 z u9.2.2.1 u9.2.2.2) H1 → va_S A0 H0 H1 locs1 → (∀ q : Nat, q < H.size → ¬ awC ad q → H1[q]? = H[q]?) → W p l e R s m args below meth c H1 locs1 cells slots Q (F0 m (pc + 3) ls rest)) : W p l e R s m args below meth c H locs cells slots Q (F0 m pc ls (.ref (ad 14) :: rest)) := va_callv (va_runV (As := []) (rest := rest) ⟨hx, hb, hml, hown, hts⟩ (c_X2_fillInLooks (dC := dC) (dI := dI) (cI := cI) (cZ := cZ) (ad := ad) (sm := sm) (fe := fe) (ex := ex) (dy := dy) (gp := gp) (gc := gc) (op := op) (gr := gr) (st := st) (dl := dl) (wo := wo) (n := n) (yc := yc) (ya := ya) (ys := ys) (yd := yd) (q := q) (zc := zc) (zp := zp) (zr := zr) (zs := zs) (zf := zf) (z := z) (zm := zm) (zt := zt) (L := L) (pf := pf) (rf := rf) (M := M) l hI hR hB hf0 hmm hm ht0) (cwV 0 hts hg9 rfl rfl rfl (by decide +kernel) hR9) ⟨fun a U g mk q => ⟨q.1, q.2.1, va_K.moved (u := U) (U := U.calling g mk a) (Vm.Alike.refl U.vm) q.2.2⟩, rC_14 hK hP, fun U hU hW => ⟨rfl, by rw [hU]; exact hP, va_K.moved hW.alike hK⟩⟩ rfl rfl hl9 rfl (lv_room hw9) hdg hc9) hS (fun q _ h => hA q h) hA (fun u t H1 locs1 ht _ hu hB hz hk hS1 => kk u hu H1 locs1 (by rw [ht] at hB; exact hB) hS1 hk)
end
set_option maxHeartbeats 4000000 in
set_option maxRecDepth 100000 in
theorem c_X2_shareRestByPoints (l : Launch) {dC : Nat → ClassId} {dI : Nat → Nat → Nat} {cI cZ : ClassId} {ad : Nat → Nat} {sm fe ex dy : Int32} {gp gc op gr st dl wo : Nat → Int32} {n : Nat} {yc ya ys yd : Nat → Int32} {q : Nat} {zc zp zr zs zf : Nat → Int32} {z : Nat} {zm zt : Int64} {L : List Nat} {pf : Nat → Nat} {rf : Nat → Nat} {A : Nat → Bool} {mm : Nat} (hI : iwC ad) (hR : repL pf rf L zc zp zr z) (hB : bndL pf rf L) (hF : flA L A zf z) (hs : ∀ i, i < z → A (lg L i) = false → zs i = nI (rf (lg L i))) (hmm : mm ≤ 10000000) (hm : zm = lN mm) (ht0 : zt = lN (wsum pf A L)) : Met l yX2_shareRestByPoints wsX2_shareRestByPoints { frames := 1, cells := 0, slots := 0, locals := 23 } (va_Pc [.ref (ad 14)] (fun U => va_P (dC, dI) vwCl (wC cI cZ ad sm fe ex dy gp gc op gr st dl wo n yc ya ys yd q zc zp zr zs zf z zm zt) U.heap ∧ va_K (dC, dI) vwCl [(cI, .int), (cZ, .boolean)] U)) (va_Qv (fun u9 : (Nat → Int32) => ∀ i, i < z → u9 i = nI (shA pf rf L A mm (lg L i))) (fun u9 t => va_P (dC, dI) vwCl (wC cI cZ ad sm fe ex dy gp gc op gr st dl wo n yc ya ys yd q zc zp zr u9 zf z zm zt) t.heap) (awC ad)) 0 0 (awC ad) := by
  refine Met.ofW (cc := cX2_shareRestByPoints) (maxL := 4) (ret := none) (by decide) rfl ?_
  intro p e s m args below meth c s₁ B hml hv
  obtain ⟨rfl, hP, hK⟩ := hv
  have hx := B.exec
  have hb := B.bytes
  have hr := B.returns
  have hts := atoms_spec (ws := wsX2_shareRestByPoints) B.pre
  have hown : s.vm.findClass RX2 = some m.cls := findClass_of_methodNamed B.named
  have hlocks := B.notSynchronized
  have hS : va_S (awC ad) s.heap s.heap [] := va_S.rf
  have hl := lv_entry ([.ref (ad 14)]) (n := 4) (Nat.le_of_ble_eq_true rfl)
  rw [lg_entry_eq]
  generalize (lg_sl ([.ref (ad 14)]) ++ List.replicate (4 - (lg_sl ([.ref (ad 14)])).length) Slot.unset).toArray = ls at hl ⊢
  have hl : lv_has ls 4 [(0, .ref (ad 14))] := hl
  have hz := hR.z hB
  have hzl := hR.1
  have h24 := bnd_P hB A
  have hiX2 : ∀ w ∈ wsX20, w ∈ wsX2_shareRestByPoints := by decide +kernel
  have hf51 := hts (.fieldLink RX2 51 "SettlementFund$Sharing" "restPoints" "J") (by decide +kernel)
  have hf47 := hts (.fieldLink RX2 47 "SettlementFund$Sharing" "restMoney" "J") (by decide +kernel)
  have hf28 := hts (.fieldLink RX2 28 "SettlementFund$Sharing" "size" "I") (by decide +kernel)
  have hf24 := hts (.fieldLink RX2 24 "SettlementFund$Sharing" "isFull" "[Z") (by decide +kernel)
  have hf9 := hts (.fieldLink RX2 9 "SettlementFund$Sharing" "claim" "[I") (by decide +kernel)
  have hf21 := hts (.fieldLink RX2 21 "SettlementFund$Sharing" "share" "[I") (by decide +kernel)
  have hf15 := hts (.fieldLink RX2 15 "SettlementFund$Sharing" "points" "[I") (by decide +kernel)
  refine lv_aload_n hx hb dX2_shareRestByPoints_0 rfl (lv_at hl 0 rfl) ?_
  refine gC_14_7 hx hb hts hiX2 hown hK hP hf51 dX2_shareRestByPoints_1 ?_
  refine zt_l (y := lN (wsum pf A L)) (ht0) ?_
  refine lv_lconst (v := lN 1) hx hb dX2_shareRestByPoints_4 (by decide) ?_
  refine W.lcmp hx hb dX2_shareRestByPoints_5 ?_
  refine zg_ge (tgt := 10) hx hb dX2_shareRestByPoints_6 (by decide) (fun c_6 => ?_) (fun c_6 => ?_)
  · have hP1 : 1 ≤ wsum pf A L := (pk_lLE (by decide) (by omega)).mp c_6
    have hP0 : ¬ wsum pf A L = 0 := by omega
    refine lv_aload_n hx hb dX2_shareRestByPoints_10 rfl (lv_at hl 0 rfl) ?_
    refine gC_14_6 hx hb hts hiX2 hown hK hP hf47 dX2_shareRestByPoints_11 ?_
    refine zt_l (y := lN mm) (hm) ?_
    refine lv_lstore_n (lv' := [(1, .long (lN mm)), (0, .ref (ad 14))]) hx hb dX2_shareRestByPoints_14 rfl hl (by decide) rfl (fun ls hl => ?_)
    refine lv_iconst (v := nI 0) hx hb dX2_shareRestByPoints_15 (by decide) ?_
    refine lv_istore_n (lv' := [(3, .int (nI 0)), (1, .long (lN mm)), (0, .ref (ad 14))]) hx hb dX2_shareRestByPoints_16 rfl hl (by decide) rfl (fun ls hl => ?_)
    have e_1 : lN mm = lN (mm - sF pf L A mm 0) := rfl
    rw [e_1] at hl
    refine zl_rw (fun a9 : Nat × (Nat → Int32) => wC cI cZ ad sm fe ex dy gp gc op gr st dl wo n yc ya ys yd q zc zp zr a9.2 zf z zm zt) (fun a9 : Nat × (Nat → Int32) => [(0, .ref (ad 14)), (1, .long (lN (mm - sF pf L A mm a9.1))), (3, .int (nI a9.1))]) (fun a9 : Nat × (Nat → Int32) => rst1 pf rf L A mm z a9.1 a9.2) (fun a9 : Nat × (Nat → Int32) => z - a9.1) (0, zs) (⟨Nat.zero_le _, hs, fun j _ _ h => absurd h (Nat.not_lt_zero j)⟩) hP hS (lv_sub hl [2, 1, 0] rfl) ?_
    intro a9 hi_17 ih_17 H locs hP hS ls hl
    obtain ⟨i, zs2⟩ := a9
    have hi_17 : rst1 pf rf L A mm z i zs2 := hi_17
    have hl : lv_has ls 4 [(0, .ref (ad 14)), (1, .long (lN (mm - sF pf L A mm i))), (3, .int (nI i))] := hl
    have hP : va_P (dC, dI) vwCl (wC cI cZ ad sm fe ex dy gp gc op gr st dl wo n yc ya ys yd q zc zp zr zs2 zf z zm zt) H := hP
    have hiz := hi_17.1
    refine lv_iload_n hx hb dX2_shareRestByPoints_17 rfl (lv_at hl 2 rfl) ?_
    refine lv_aload_n hx hb dX2_shareRestByPoints_18 rfl (lv_at hl 0 rfl) ?_
    refine gC_14_5 hx hb hts hiX2 hown hK hP hf28 dX2_shareRestByPoints_19 ?_
    refine zb_ge (tgt := 74) hx hb (by omega) (by omega) dX2_shareRestByPoints_22 (by decide) (fun c_22 => ?_) (fun c_22 => ?_)
    · refine lv_iconst (v := nI 0) hx hb dX2_shareRestByPoints_74 (by decide) ?_
      refine lv_istore_n (lv' := [(3, .int (nI 0)), (0, .ref (ad 14)), (1, .long (lN (mm - sF pf L A mm i)))]) hx hb dX2_shareRestByPoints_75 rfl hl (by decide) rfl (fun ls hl => ?_)
      have e_2 : lN (mm - sF pf L A mm i) = lN (over pf L A mm) := by unfold over sF; rw [take_all hzl (by omega)]
      rw [e_2] at hl
      refine zl_rw (fun a9 : Nat × (Nat → Int32) => wC cI cZ ad sm fe ex dy gp gc op gr st dl wo n yc ya ys yd q zc zp zr a9.2 zf z zm zt) (fun a9 : Nat × (Nat → Int32) => [(0, .ref (ad 14)), (1, .long (lN (over pf L A mm))), (3, .int (nI a9.1))]) (fun a9 : Nat × (Nat → Int32) => rst2 pf rf L A mm z a9.1 a9.2) (fun a9 : Nat × (Nat → Int32) => z - a9.1) (0, zs2) (rst2_0 hi_17 (by omega)) hP hS (lv_sub hl [1, 2, 0] rfl) ?_
      intro a9 hi_76 ih_76 H locs hP hS ls hl
      obtain ⟨i, zs3⟩ := a9
      have hi_76 : rst2 pf rf L A mm z i zs3 := hi_76
      have hl : lv_has ls 4 [(0, .ref (ad 14)), (1, .long (lN (over pf L A mm))), (3, .int (nI i))] := hl
      have hP : va_P (dC, dI) vwCl (wC cI cZ ad sm fe ex dy gp gc op gr st dl wo n yc ya ys yd q zc zp zr zs3 zf z zm zt) H := hP
      have hiz := hi_76.1
      refine lv_iload_n hx hb dX2_shareRestByPoints_76 rfl (lv_at hl 2 rfl) ?_
      refine lv_aload_n hx hb dX2_shareRestByPoints_77 rfl (lv_at hl 0 rfl) ?_
      refine gC_14_5 hx hb hts hiX2 hown hK hP hf28 dX2_shareRestByPoints_78 ?_
      refine zb_ge (tgt := 125) hx hb (by omega) (by omega) dX2_shareRestByPoints_81 (by decide) (fun c_81 => ?_) (fun c_81 => ?_)
      · exact W.vret hx hb hr (fun t ht hW => ⟨⟨zs3, rfl, fun j hj => by have h9 := hi_76.2 j hj; rw [if_pos (by omega)] at h9; exact h9, by (try dsimp only); rw [ht]; exact hP⟩, hS.F ht⟩) hS.2.2 dX2_shareRestByPoints_125
      · have hbi := hR.b hB (i := i) (by omega)
        have hfl := flo_lt hB A hmm (lg_mem (L := L) (i := i) (by omega))
        refine lv_aload_n hx hb dX2_shareRestByPoints_84 rfl (lv_at hl 0 rfl) ?_
        refine gC_14_4 hx hb hts hiX2 hown hK hP hf24 dX2_shareRestByPoints_85 ?_
        refine lv_iload_n hx hb dX2_shareRestByPoints_88 rfl (lv_at hl 2 rfl) ?_
        refine lC_19 hx hb hK hP (by omega) dX2_shareRestByPoints_89 ?_
        refine zt_i (y := nI (if A (lg L i) = true then 0 else 1)) (hF i (by omega)) ?_
        refine zi_ne (tgt := 119) hx hb (by split <;> decide) dX2_shareRestByPoints_90 (by decide) (fun c_90 => ?_) (fun c_90 => ?_)
        · refine lv_iinc (v := nI (i + 1)) (lv' := [(3, .int (nI (i + 1))), (0, .ref (ad 14)), (1, .long (lN (over pf L A mm)))]) hx hb dX2_shareRestByPoints_119 hl (k := 2) rfl (zz_inc _) (by decide) rfl (fun ls hl => ?_)
          refine lv_goto (tgt := 76) hx hb dX2_shareRestByPoints_122 (by decide) ?_
          exact ih_76 (i + 1, zs3) (rst2_n hi_76 (by omega) (Or.inl (zz_ifn1 c_90))) (by omega) H locs hP hS ls (lv_sub hl [1, 2, 0] rfl)
        · have hnf := zz_ifn0 c_90
          refine lv_aload_n hx hb dX2_shareRestByPoints_93 rfl (lv_at hl 0 rfl) ?_
          refine lv_aload_n hx hb dX2_shareRestByPoints_94 rfl (lv_at hl 0 rfl) ?_
          refine gC_14_0 hx hb hts hiX2 hown hK hP hf9 dX2_shareRestByPoints_95 ?_
          refine lv_iload_n hx hb dX2_shareRestByPoints_98 rfl (lv_at hl 2 rfl) ?_
          refine lC_15 hx hb hK hP (by omega) dX2_shareRestByPoints_99 ?_
          refine zt_i (y := nI (lg L i)) ((hR.2 i (by omega)).1) ?_
          refine k_X2_notFullBelow l (L := L) (pf := pf) (rf := rf) (A := A) (k := lg L i) (hR := hR) (hB := hB) (hF := hF) (hk := (by omega)) hx hb hml hown hts hK hP gX2_shareRestByPoints_X2_notFullBelow ⟨Nat.le_of_ble_eq_true rfl, Nat.le_of_ble_eq_true rfl⟩ ⟨Nat.le_of_ble_eq_true rfl, Nat.le_of_ble_eq_true rfl⟩ hl.1 (Nat.le_of_ble_eq_true rfl) dX2_shareRestByPoints_100 ?_
          refine lv_i2l (v := lN (cntB A (lg L i) L)) hx hb dX2_shareRestByPoints_103 (nI_l (Nat.lt_of_le_of_lt (cntB_le _ _ _) (by omega))) ?_
          refine lv_lload_n hx hb dX2_shareRestByPoints_104 rfl (lv_at hl 1 rfl) ?_
          have hov : over pf L A mm < 2 ^ 63 := by unfold over; omega
          have hcn : cntB A (lg L i) L < 2 ^ 63 := Nat.lt_of_le_of_lt (cntB_le ..) (by omega)
          refine W.lcmp hx hb dX2_shareRestByPoints_105 ?_
          refine zg_ge (tgt := 119) hx hb dX2_shareRestByPoints_106 (by decide) (fun c_106 => ?_) (fun c_106 => ?_)
          · refine lv_iinc (v := nI (i + 1)) (lv' := [(3, .int (nI (i + 1))), (0, .ref (ad 14)), (1, .long (lN (over pf L A mm)))]) hx hb dX2_shareRestByPoints_119 hl (k := 2) rfl (zz_inc _) (by decide) rfl (fun ls hl => ?_)
            refine lv_goto (tgt := 76) hx hb dX2_shareRestByPoints_122 (by decide) ?_
            exact ih_76 (i + 1, zs3) (rst2_n hi_76 (by omega) (Or.inr ⟨hnf, Nat.not_lt.mpr ((pk_lLE hov hcn).mp c_106)⟩)) (by omega) H locs hP hS ls (lv_sub hl [1, 2, 0] rfl)
          · refine lv_aload_n hx hb dX2_shareRestByPoints_109 rfl (lv_at hl 0 rfl) ?_
            refine gC_14_3 hx hb hts hiX2 hown hK hP hf21 dX2_shareRestByPoints_110 ?_
            refine lv_iload_n hx hb dX2_shareRestByPoints_113 rfl (lv_at hl 2 rfl) ?_
            refine lv_dup2_11 hx hb dX2_shareRestByPoints_114 rfl rfl ?_
            refine lC_18 hx hb hK hP (by omega) dX2_shareRestByPoints_115 ?_
            refine zt_i (y := nI (flo pf L A mm (lg L i))) (rst2_at hi_76 (by omega) hnf) ?_
            refine lv_iconst (v := nI 1) hx hb dX2_shareRestByPoints_116 (by decide) ?_
            refine lv_iadd hx hb dX2_shareRestByPoints_117 ?_
            refine zt_i (y := nI ((flo pf L A mm (lg L i)) + 1)) (nI_add _ _) ?_
            refine sC_18 hx hb hK hP hI (fun _ h => h) hS (by omega) dX2_shareRestByPoints_118 (fun H locs hP hS => ?_)
            refine lv_iinc (v := nI (i + 1)) (lv' := [(3, .int (nI (i + 1))), (0, .ref (ad 14)), (1, .long (lN (over pf L A mm)))]) hx hb dX2_shareRestByPoints_119 hl (k := 2) rfl (zz_inc _) (by decide) rfl (fun ls hl => ?_)
            refine lv_goto (tgt := 76) hx hb dX2_shareRestByPoints_122 (by decide) ?_
            have e_3 : upd zs3 i (nI ((flo pf L A mm (lg L i)) + 1)) = (upd zs3 i (nI (flo pf L A mm (lg L i) + 1))) := rfl
            rw [e_3] at hP
            exact ih_76 (i + 1, upd zs3 i (nI (flo pf L A mm (lg L i) + 1))) (rst2_y hi_76 (by omega) hnf (Nat.lt_of_not_le (fun h9 => c_106 ((pk_lLE hov hcn).mpr h9)))) (by omega) H locs hP hS ls (lv_sub hl [1, 2, 0] rfl)
    · have hbi := hR.b hB (i := i) (by omega)
      have hrp := hR.2 i (by omega)
      have hfl := flo_lt hB A hmm (lg_mem (L := L) (i := i) (by omega))
      refine lv_aload_n hx hb dX2_shareRestByPoints_25 rfl (lv_at hl 0 rfl) ?_
      refine gC_14_4 hx hb hts hiX2 hown hK hP hf24 dX2_shareRestByPoints_26 ?_
      refine lv_iload_n hx hb dX2_shareRestByPoints_29 rfl (lv_at hl 2 rfl) ?_
      refine lC_19 hx hb hK hP (by omega) dX2_shareRestByPoints_30 ?_
      refine zt_i (y := nI (if A (lg L i) = true then 0 else 1)) (hF i (by omega)) ?_
      refine zi_ne (tgt := 68) hx hb (by split <;> decide) dX2_shareRestByPoints_31 (by decide) (fun c_31 => ?_) (fun c_31 => ?_)
      · have hfu := zz_ifn1 c_31
        refine lv_iinc (v := nI (i + 1)) (lv' := [(3, .int (nI (i + 1))), (0, .ref (ad 14)), (1, .long (lN (mm - sF pf L A mm i)))]) hx hb dX2_shareRestByPoints_68 hl (k := 2) rfl (zz_inc _) (by decide) rfl (fun ls hl => ?_)
        refine lv_goto (tgt := 17) hx hb dX2_shareRestByPoints_71 (by decide) ?_
        have e_4 : lN (mm - sF pf L A mm i) = lN (mm - sF pf L A mm (i + 1)) := by rw [show sF pf L A mm (i + 1) = sF pf L A mm i by rw [sF_s (by omega), hfu]; rfl]
        rw [e_4] at hl
        exact ih_17 (i + 1, zs2) (rst1_n hi_17 (by omega) hfu) (by omega) H locs hP hS ls (lv_sub hl [1, 2, 0] rfl)
      · have hnf := zz_ifn0 c_31
        refine lv_aload_n hx hb dX2_shareRestByPoints_34 rfl (lv_at hl 0 rfl) ?_
        refine gC_14_3 hx hb hts hiX2 hown hK hP hf21 dX2_shareRestByPoints_35 ?_
        refine lv_iload_n hx hb dX2_shareRestByPoints_38 rfl (lv_at hl 2 rfl) ?_
        refine lv_aload_n hx hb dX2_shareRestByPoints_39 rfl (lv_at hl 0 rfl) ?_
        refine gC_14_1 hx hb hts hiX2 hown hK hP hf15 dX2_shareRestByPoints_40 ?_
        refine lv_iload_n hx hb dX2_shareRestByPoints_43 rfl (lv_at hl 2 rfl) ?_
        refine lC_16 hx hb hK hP (by omega) dX2_shareRestByPoints_44 ?_
        refine zt_i (y := nI (pf (lg L i))) (hrp.2.1) ?_
        refine lv_i2l (v := lN (pf (lg L i))) hx hb dX2_shareRestByPoints_45 (nI_l (by omega)) ?_
        refine lv_aload_n hx hb dX2_shareRestByPoints_46 rfl (lv_at hl 0 rfl) ?_
        refine gC_14_6 hx hb hts hiX2 hown hK hP hf47 dX2_shareRestByPoints_47 ?_
        refine zt_l (y := lN mm) (hm) ?_
        refine lv_lmul hx hb dX2_shareRestByPoints_50 ?_
        refine zt_l (y := lN ((pf (lg L i)) * mm)) (lN_mul _ _) ?_
        refine lv_aload_n hx hb dX2_shareRestByPoints_51 rfl (lv_at hl 0 rfl) ?_
        refine gC_14_7 hx hb hts hiX2 hown hK hP hf51 dX2_shareRestByPoints_52 ?_
        refine zt_l (y := lN (wsum pf A L)) (ht0) ?_
        refine lv_ldiv hx hb dX2_shareRestByPoints_55 (fun h9 => hP0 ((pk_lEQ (by omega) (by decide)).mp (show lN (wsum pf A L) = lN 0 from h9))) ?_
        refine zt_l (y := lN (flo pf L A mm (lg L i))) (pk_lDiv (by have h9 : pf (lg L i) * mm ≤ 100 * 10000000 := Nat.mul_le_mul hbi.2.2.1 hmm; omega) (by omega) (by omega)) ?_
        refine lv_l2i (v := nI (flo pf L A mm (lg L i))) hx hb dX2_shareRestByPoints_56 (lN_i _) ?_
        refine sC_18 hx hb hK hP hI (fun _ h => h) hS (by omega) dX2_shareRestByPoints_57 (fun H locs hP hS => ?_)
        refine lv_lload_n hx hb dX2_shareRestByPoints_58 rfl (lv_at hl 1 rfl) ?_
        refine lv_aload_n hx hb dX2_shareRestByPoints_59 rfl (lv_at hl 0 rfl) ?_
        refine gC_14_3 hx hb hts hiX2 hown hK hP hf21 dX2_shareRestByPoints_60 ?_
        refine lv_iload_n hx hb dX2_shareRestByPoints_63 rfl (lv_at hl 2 rfl) ?_
        refine lC_18 hx hb hK hP (by omega) dX2_shareRestByPoints_64 ?_
        refine zt_i (y := nI (flo pf L A mm (lg L i))) (upd_at _ _ _) ?_
        refine lv_i2l (v := lN (flo pf L A mm (lg L i))) hx hb dX2_shareRestByPoints_65 (nI_l (Nat.lt_trans hfl (by decide))) ?_
        refine lv_lsub hx hb dX2_shareRestByPoints_66 ?_
        refine zt_l (y := lN (mm - sF pf L A mm (i + 1))) (zz_lS2 (by rw [sF_s (by omega), if_pos hnf]) (sF_le ..)) ?_
        refine lv_lstore_n (lv' := [(1, .long (lN (mm - sF pf L A mm (i + 1)))), (0, .ref (ad 14)), (3, .int (nI i))]) hx hb dX2_shareRestByPoints_67 rfl hl (by decide) rfl (fun ls hl => ?_)
        skip
        refine lv_iinc (v := nI (i + 1)) (lv' := [(3, .int (nI (i + 1))), (1, .long (lN (mm - sF pf L A mm (i + 1)))), (0, .ref (ad 14))]) hx hb dX2_shareRestByPoints_68 hl (k := 2) rfl (zz_inc _) (by decide) rfl (fun ls hl => ?_)
        refine lv_goto (tgt := 17) hx hb dX2_shareRestByPoints_71 (by decide) ?_
        have e_5 : upd zs2 i (nI (flo pf L A mm (lg L i))) = (upd zs2 i (nI (flo pf L A mm (lg L i)))) := rfl
        rw [e_5] at hP
        exact ih_17 (i + 1, upd zs2 i (nI (flo pf L A mm (lg L i)))) (rst1_y hi_17 (by omega) hnf) (by omega) H locs hP hS ls (lv_sub hl [2, 1, 0] rfl)
  · exact W.vret hx hb hr (fun t ht hW => ⟨⟨zs, rfl, fun i hi => by rw [shA_f (wsum_p0 hB (by have h9 := fun h => c_6 ((pk_lLE (by decide) (by omega)).mpr h); omega) (lg_mem (by omega)))]; exact hs i hi (wsum_p0 hB (by have h9 := fun h => c_6 ((pk_lLE (by decide) (by omega)).mpr h); omega) (lg_mem (by omega))), by (try dsimp only); rw [ht]; exact hP⟩, hS.F ht⟩) hS.2.2 dX2_shareRestByPoints_9
section
variable {p : Program} {e : Env} {R : Room} {s : State} {m : MethodId} {args : Array Value} {below : List Frame} {meth : Method} {c : Code} {H : Heap} {locs : List Loc} {cells slots : Nat} {Q : State → Prop} {cc : ByteArray} {pc : Nat} {ls : Array Slot} {rest : List Value} {own : String} {index nL : Nat} {Ts : List Cond} {H0 : Heap} {A0 : Nat → Prop}
theorem k_X2_shareRestByPoints (l : Launch) {dC : Nat → ClassId} {dI : Nat → Nat → Nat} {cI cZ : ClassId} {ad : Nat → Nat} {sm fe ex dy : Int32} {gp gc op gr st dl wo : Nat → Int32} {n : Nat} {yc ya ys yd : Nat → Int32} {q : Nat} {zc zp zr zs zf : Nat → Int32} {z : Nat} {zm zt : Int64} {L : List Nat} {pf : Nat → Nat} {rf : Nat → Nat} {A : Nat → Bool} {mm : Nat} (hR : repL pf rf L zc zp zr z) (hB : bndL pf rf L) (hF : flA L A zf z) (hs : ∀ i, i < z → A (lg L i) = false → zs i = nI (rf (lg L i))) (hmm : mm ≤ 10000000) (hm : zm = lN mm) (ht0 : zt = lN (wsum pf A L)) (hx : p.tables.exec = Jvm.exec) (hb : c.code = cc) (hml : c.maxLocals = nL) (hown : s.vm.findClass own = some m.cls) (hts : ∀ w ∈ Ts, w.before args s = true) (hK : va_K (dC, dI) vwCl [(cI, .int), (cZ, .boolean)] s) (hP : va_P (dC, dI) vwCl (wC cI cZ ad sm fe ex dy gp gc op gr st dl wo n yc ya ys yd q zc zp zr zs zf z zm zt) H) (hg9 : GoodIn Ts (wsV own index RX2 yX2_shareRestByPoints wsX2_shareRestByPoints)) (hR9 : 1 + 1 ≤ R.frames ∧ 8 + (4 + 11) + 23 ≤ R.locals) (hc9 : cells ≤ R.cells ∧ slots ≤ R.slots) (hl9 : ls.size = nL) (hw9 : (rest.map fun v => v.category).sum ≤ 8) (hdg : decode cc pc = .ok (.invokevirtual index, 3)) (hI : iwC ad) (hA : ∀ x, awC ad x → A0 x) (hS : va_S A0 H0 H locs) (kk : ∀ (u9 : (Nat → Int32)), (∀ i, i < z → u9 i = nI (shA pf rf L A mm (lg L i))) → ∀ (H1 : Heap) (locs1 : List Loc), va_P (dC, dI) vwCl (wC cI cZ ad sm fe ex dy gp gc op gr st dl wo n yc ya ys yd q zc zp zr u9 zf z zm zt) H1 → va_S A0 H0 H1 locs1 → (∀ q : Nat, q < H.size → ¬ awC ad q → H1[q]? = H[q]?) → W p l e R s m args below meth c H1 locs1 cells slots Q (F0 m (pc + 3) ls rest)) : W p l e R s m args below meth c H locs cells slots Q (F0 m pc ls (.ref (ad 14) :: rest)) := va_callv (va_runV (As := []) (rest := rest) ⟨hx, hb, hml, hown, hts⟩ (c_X2_shareRestByPoints (dC := dC) (dI := dI) (cI := cI) (cZ := cZ) (ad := ad) (sm := sm) (fe := fe) (ex := ex) (dy := dy) (gp := gp) (gc := gc) (op := op) (gr := gr) (st := st) (dl := dl) (wo := wo) (n := n) (yc := yc) (ya := ya) (ys := ys) (yd := yd) (q := q) (zc := zc) (zp := zp) (zr := zr) (zs := zs) (zf := zf) (z := z) (zm := zm) (zt := zt) (L := L) (pf := pf) (rf := rf) (A := A) (mm := mm) l hI hR hB hF hs hmm hm ht0) (cwV 0 hts hg9 rfl rfl rfl (by decide +kernel) hR9) ⟨fun a U g mk q => ⟨q.1, q.2.1, va_K.moved (u := U) (U := U.calling g mk a) (Vm.Alike.refl U.vm) q.2.2⟩, rC_14 hK hP, fun U hU hW => ⟨rfl, by rw [hU]; exact hP, va_K.moved hW.alike hK⟩⟩ rfl rfl hl9 rfl (lv_room hw9) hdg hc9) hS (fun q _ h => hA q h) hA (fun u t H1 locs1 ht _ hu hB hz hk hS1 => kk u hu H1 locs1 (by rw [ht] at hB; exact hB) hS1 hk)
end
