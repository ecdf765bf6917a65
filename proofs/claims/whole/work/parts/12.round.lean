/-! a sharing of the money left -/
def pK (gp gr : Nat → Int32) (k : Nat) : Nat := (gp (gN gr k)).toNatClampNeg
def rK (gc gr yc ya ys : Nat → Int32) (q k : Nat) : Nat := (roomF gc gr yc ya ys q k).toNatClampNeg
def mK (sm fe ex : Int32) (ya ys : Nat → Int32) (q : Nat) : Nat := (leftF sm fe ex ya ys q).toNatClampNeg
def tkL (gc gr st yc ya ys : Nat → Int32) (q n : Nat) : List Nat := (List.range n).filter (takeB gc gr st yc ya ys q)
def finL (sm fe ex : Int32) (gp gc gr st yc ya ys : Nat → Int32) (n q le : Nat) : List Nat := if nI 1 ≤ leftF sm fe ex ya ys q then rnd (pK gp gr) (rK gc gr yc ya ys q) (mK sm fe ex ya ys q) le 25 (tkL gc gr st yc ya ys q n) else []
def shK (sm fe ex : Int32) (gp gc gr st yc ya ys : Nat → Int32) (n q le k : Nat) : Nat := if k ∈ finL sm fe ex gp gc gr st yc ya ys n q le then shr (pK gp gr) (rK gc gr yc ya ys q) (finL sm fe ex gp gc gr st yc ya ys n q le) (mK sm fe ex ya ys q) k else 0
/-- what the state keeps, as plain numbers: of each claim, and of the money left -/
def claimV (gp gc gr yc ya ys : Nat → Int32) (q n : Nat) : Prop := ∀ k, k < n → (gr k = nI (gN gr k) ∧ gN gr k < 5) ∧ (gp (gN gr k) = nI (pK gp gr k) ∧ 1 ≤ pK gp gr k ∧ pK gp gr k ≤ 100) ∧ roomF gc gr yc ya ys q k = nI (rK gc gr yc ya ys q k) ∧ rK gc gr yc ya ys q k ≤ 1000000
def leftV (sm fe ex : Int32) (ya ys : Nat → Int32) (q : Nat) : Prop := nI 1 ≤ leftF sm fe ex ya ys q → leftF sm fe ex ya ys q = nI (mK sm fe ex ya ys q) ∧ 1 ≤ mK sm fe ex ya ys q ∧ mK sm fe ex ya ys q ≤ 10000000
theorem tkL_s (gc gr st yc ya ys : Nat → Int32) (q i : Nat) : tkL gc gr st yc ya ys q (i + 1) = tkL gc gr st yc ya ys q i ++ (if takeB gc gr st yc ya ys q i = true then [i] else []) := by
  unfold tkL
  rw [List.range_succ, List.filter_append, List.filter_cons]
  split <;> rfl
theorem tkL_len (gc gr st yc ya ys : Nat → Int32) (q i : Nat) : (tkL gc gr st yc ya ys q i).length ≤ i := Nat.le_trans (List.length_filter_le _ _) (by rw [List.length_range]; exact Nat.le_refl _)
theorem tkL_nd (gc gr st yc ya ys : Nat → Int32) (q i : Nat) : (tkL gc gr st yc ya ys q i).Nodup := List.Pairwise.filter _ List.nodup_range
theorem tkL_b {gp gc gr st yc ya ys : Nat → Int32} {q n : Nat} (hn : n ≤ 24) (hV : claimV gp gc gr yc ya ys q n) : bndL (pK gp gr) (rK gc gr yc ya ys q) (tkL gc gr st yc ya ys q n) :=
  ⟨Nat.le_trans (tkL_len ..) hn, fun k hk => by
    have h := List.mem_range.mp (List.mem_filter.mp hk).1
    exact ⟨by omega, (hV k h).2.1.2.1, (hV k h).2.1.2.2, (hV k h).2.2.2⟩⟩
theorem lg_app1 {L : List Nat} {k i : Nat} (h : i < L.length) : lg (L ++ [k]) i = lg L i := by
  rw [lg_get (by rw [List.length_append]; omega), lg_get h, List.getElem_append_left]
theorem lg_app2 (L : List Nat) (k : Nat) : lg (L ++ [k]) L.length = k := by
  rw [lg_get (by rw [List.length_append]; exact Nat.lt_succ_self _)]; simp
theorem repL_add {p r : Nat → Nat} {L : List Nat} {zc zp zr : Nat → Int32} {z k : Nat} {x2 x3 : Int32} (h : repL p r L zc zp zr z) (h2 : x2 = nI (p k)) (h3 : x3 = nI (r k)) : repL p r (L ++ [k]) (upd zc z (nI k)) (upd zp z x2) (upd zr z x3) (z + 1) := by
  obtain ⟨h1, hr⟩ := h
  refine ⟨by rw [List.length_append, h1]; rfl, fun i hi => ?_⟩
  unfold upd
  by_cases e : i = z
  · rw [if_pos e, if_pos e, if_pos e, e, h1, lg_app2]; exact ⟨rfl, h2, h3⟩
  · rw [if_neg e, if_neg e, if_neg e, lg_app1 (by omega)]; exact hr i (by omega)
def smP (sm fe ex : Int32) (gp gc gr st yc ya ys : Nat → Int32) (n q le : Nat) (zc zp zr zs : Nat → Int32) (z : Nat) : Prop :=
  ∃ L3 : List Nat, L3.Perm (finL sm fe ex gp gc gr st yc ya ys n q le) ∧ bndL (pK gp gr) (rK gc gr yc ya ys q) L3 ∧ L3.Nodup ∧ repL (pK gp gr) (rK gc gr yc ya ys q) L3 zc zp zr z ∧ ∀ i, i < z → zs i = nI (shr (pK gp gr) (rK gc gr yc ya ys q) L3 (mK sm fe ex ya ys q) (lg L3 i))
theorem smP_0 {sm fe ex : Int32} {gp gc gr st yc ya ys : Nat → Int32} {n q le : Nat} {zc zp zr zs : Nat → Int32} (h : ¬ nI 1 ≤ leftF sm fe ex ya ys q) : smP sm fe ex gp gc gr st yc ya ys n q le zc zp zr zs 0 :=
  ⟨[], by unfold finL; rw [if_neg h], ⟨Nat.zero_le _, fun k hk => by cases hk⟩, List.nodup_nil, ⟨rfl, fun i hi => absurd hi (Nat.not_lt_zero i)⟩, fun i hi => absurd hi (Nat.not_lt_zero i)⟩
theorem smP_1 {sm fe ex : Int32} {gp gc gr st yc ya ys : Nat → Int32} {n q le : Nat} {zc zp zr zs : Nat → Int32} {z : Nat} (h : nI 1 ≤ leftF sm fe ex ya ys q)
    (hu : ∃ L3 : List Nat, L3.Perm (rnd (pK gp gr) (rK gc gr yc ya ys q) (mK sm fe ex ya ys q) le 25 (tkL gc gr st yc ya ys q n)) ∧ bndL (pK gp gr) (rK gc gr yc ya ys q) L3 ∧ L3.Nodup ∧ repL (pK gp gr) (rK gc gr yc ya ys q) L3 zc zp zr z ∧ ∀ i, i < z → zs i = nI (shr (pK gp gr) (rK gc gr yc ya ys q) L3 (mK sm fe ex ya ys q) (lg L3 i))) :
    smP sm fe ex gp gc gr st yc ya ys n q le zc zp zr zs z := by
  obtain ⟨L3, h1, h2⟩ := hu
  exact ⟨L3, by unfold finL; rw [if_pos h]; exact h1, h2⟩
theorem shK_eq {sm fe ex : Int32} {gp gc gr st yc ya ys : Nat → Int32} {n q le k : Nat} {L3 : List Nat} (h : L3.Perm (finL sm fe ex gp gc gr st yc ya ys n q le)) : (if k ∈ L3 then shr (pK gp gr) (rK gc gr yc ya ys q) L3 (mK sm fe ex ya ys q) k else 0) = shK sm fe ex gp gc gr st yc ya ys n q le k := by
  unfold shK
  rw [shr_perm h]
  by_cases c : k ∈ L3
  · rw [if_pos c, if_pos (h.mem_iff.mp c)]
  · rw [if_neg c, if_neg (fun z => c (h.mem_iff.mpr z))]
/-! payments -/
def payF (d : Int32) (sh : Nat → Nat) (yc ya ys yd : Nat → Int32) (q : Nat) : Nat → (Nat → Int32) × (Nat → Int32) × (Nat → Int32) × (Nat → Int32) × Nat
  | 0 => (yc, ya, ys, yd, q)
  | i + 1 => if 0 < sh i then (upd (payF d sh yc ya ys yd q i).1 (payF d sh yc ya ys yd q i).2.2.2.2 (nI i), upd (payF d sh yc ya ys yd q i).2.1 (payF d sh yc ya ys yd q i).2.2.2.2 (nI (sh i)), upd (payF d sh yc ya ys yd q i).2.2.1 (payF d sh yc ya ys yd q i).2.2.2.2 (nI 0), upd (payF d sh yc ya ys yd q i).2.2.2.1 (payF d sh yc ya ys yd q i).2.2.2.2 d, (payF d sh yc ya ys yd q i).2.2.2.2 + 1) else payF d sh yc ya ys yd q i
theorem payF_y {d : Int32} {sh : Nat → Nat} {yc ya ys yd : Nat → Int32} {q i : Nat} (h : 0 < sh i) : payF d sh yc ya ys yd q (i + 1) = (upd (payF d sh yc ya ys yd q i).1 (payF d sh yc ya ys yd q i).2.2.2.2 (nI i), upd (payF d sh yc ya ys yd q i).2.1 (payF d sh yc ya ys yd q i).2.2.2.2 (nI (sh i)), upd (payF d sh yc ya ys yd q i).2.2.1 (payF d sh yc ya ys yd q i).2.2.2.2 (nI 0), upd (payF d sh yc ya ys yd q i).2.2.2.1 (payF d sh yc ya ys yd q i).2.2.2.2 d, (payF d sh yc ya ys yd q i).2.2.2.2 + 1) := if_pos h
theorem payF_n {d : Int32} {sh : Nat → Nat} {yc ya ys yd : Nat → Int32} {q i : Nat} (h : sh i = 0) : payF d sh yc ya ys yd q (i + 1) = payF d sh yc ya ys yd q i := if_neg (by omega)
def gain (sh : Nat → Nat) (n : Nat) : Nat := wsum (fun _ => 1) (fun k => decide (0 < sh k)) (List.range n)
theorem gain_s (sh : Nat → Nat) (n : Nat) : gain sh (n + 1) = gain sh n + (if 0 < sh n then 1 else 0) := by
  unfold gain; rw [wsum_range]; simp only [decide_eq_true_eq]
theorem gain_mono (sh : Nat → Nat) {i n : Nat} (h : i ≤ n) : gain sh i ≤ gain sh n := by
  induction n with
  | zero => rw [show i = 0 by omega]; exact Nat.le_refl _
  | succ n ih =>
    rcases Nat.lt_or_ge i (n + 1) with q | q
    · rw [gain_s]; have := ih (by omega); omega
    · rw [show i = n + 1 by omega]; exact Nat.le_refl _
theorem gain_le (sh : Nat → Nat) (n : Nat) : gain sh n ≤ n := Nat.le_trans (wsum_len _ _) (by rw [List.length_range]; exact Nat.le_refl _)
theorem payF_q (d : Int32) (sh : Nat → Nat) (yc ya ys yd : Nat → Int32) (q : Nat) : ∀ i : Nat, (payF d sh yc ya ys yd q i).2.2.2.2 = q + gain sh i
  | 0 => rfl
  | i + 1 => by
    have ih := payF_q d sh yc ya ys yd q i
    rw [gain_s]
    by_cases c : 0 < sh i
    · rw [payF_y c, if_pos c]; show _ + 1 = _; rw [ih]; omega
    · rw [payF_n (by omega), if_neg c, ih]; rfl
theorem wsum_sub {a b : Nat → Bool} {L : List Nat} : ∀ {l : List Nat}, l.Nodup → (∀ k, k ∈ L → k ∈ l) → L.Nodup → (∀ k, k ∈ l → b k = (decide (k ∈ L) && a k)) → wsum (fun _ => 1) b l = wsum (fun _ => 1) a L := by
  intro l hl hs hN hb
  have h1 : wsum (fun _ => 1) b l = wsum (fun _ => 1) (fun k => decide (k ∈ L) && a k) l := wsum_congr hb (fun _ _ _ => rfl)
  rw [h1, ← wsum_filter]
  refine wsum_perm _ _ ?_
  refine (List.perm_ext_iff_of_nodup (List.Pairwise.filter _ hl) hN).mpr (fun k => ?_)
  rw [List.mem_filter, decide_eq_true_eq]
  exact ⟨fun h => h.2, fun h => ⟨hs k h, h⟩⟩
theorem gain_fin {sf sh : Nat → Nat} {L : List Nat} {n : Nat} (hN : L.Nodup) (hL : ∀ k, k ∈ L → k < n) (h : ∀ k, k < n → sh k = if k ∈ L then sf k else 0) : wsum (fun _ => 1) (fun k => decide (0 < sf k)) L = gain sh n := by
  unfold gain
  refine (wsum_sub List.nodup_range (fun k hk => List.mem_range.mpr (hL k hk)) hN (fun k hk => ?_)).symm
  rw [h k (List.mem_range.mp hk)]
  by_cases c : k ∈ L
  · rw [if_pos c, decide_eq_true c, Bool.true_and]
  · rw [if_neg c, decide_eq_false c]; rfl
theorem rnd_mem {p r : Nat → Nat} {M le : Nat} : ∀ (f : Nat) {T : List Nat} {k : Nat}, k ∈ rnd p r M le f T → k ∈ T
  | 0, _, _, h => h
  | f + 1, T, k, h => by
    unfold rnd at h
    cases e : mnl (shr p r T M) T with
    | none => rw [e] at h; exact h
    | some m =>
      rw [e] at h
      have h : k ∈ (if shr p r T M m < le then rnd p r M le f (T.filter (fun k => decide (k ≠ m))) else T) := h
      by_cases c : shr p r T M m < le
      · rw [if_pos c] at h; exact (List.mem_filter.mp (rnd_mem f h)).1
      · rw [if_neg c] at h; exact h
theorem fin_lt {sm fe ex : Int32} {gp gc gr st yc ya ys : Nat → Int32} {n q le k : Nat} (h : k ∈ finL sm fe ex gp gc gr st yc ya ys n q le) : k < n := by
  unfold finL at h
  by_cases c : nI 1 ≤ leftF sm fe ex ya ys q
  · rw [if_pos c] at h
    exact List.mem_range.mp (List.mem_filter.mp (rnd_mem 25 h)).1
  · rw [if_neg c] at h; cases h

theorem shK_lt {sm fe ex : Int32} {gp gc gr st yc ya ys : Nat → Int32} {n q le k : Nat} {L3 : List Nat} (h : L3.Perm (finL sm fe ex gp gc gr st yc ya ys n q le)) (hB : bndL (pK gp gr) (rK gc gr yc ya ys q) L3) (hM : mK sm fe ex ya ys q ≤ 10000000) : shK sm fe ex gp gc gr st yc ya ys n q le k < 2 ^ 31 := by
  rw [← shK_eq h]
  by_cases c : k ∈ L3
  · rw [if_pos c]; exact shr_lt hB hM c
  · rw [if_neg c]; decide

set_option maxHeartbeats 4000000 in
set_option maxRecDepth 100000 in
theorem c_X3_shareMoneyLeft (l : Launch) {dC : Nat → ClassId} {dI : Nat → Nat → Nat} {cI cZ : ClassId} {ad : Nat → Nat} {sm fe ex dy : Int32} {gp gc op gr st dl wo : Nat → Int32} {n : Nat} {yc ya ys yd : Nat → Int32} {q : Nat} {zc zp zr zs zf : Nat → Int32} {z : Nat} {zm zt : Int64} {le : Nat} {b : Int32} (hI : iwC ad) (hn : n ≤ 24) (hq : q ≤ 100) (hV : claimV gp gc gr yc ya ys q n) (hL : leftV sm fe ex ya ys q) (hle : le ≤ 100000) : Met l yX3_shareMoneyLeft wsX3_shareMoneyLeft { frames := 4, cells := 0, slots := 0, locals := 100 } (va_Pc [.ref (ad 0), .int (nI le), .int b] (fun U => va_P (dC, dI) vwCl (wC cI cZ ad sm fe ex dy gp gc op gr st dl wo n yc ya ys yd q zc zp zr zs zf z zm zt) U.heap ∧ va_K (dC, dI) vwCl [(cI, .int), (cZ, .boolean)] U)) (va_Qv (fun u9 : (Nat → Int32) × (Nat → Int32) × (Nat → Int32) × (Nat → Int32) × (Nat → Int32) × Nat × Int64 × Int64 => smP sm fe ex gp gc gr st yc ya ys n q le u9.1 u9.2.1 u9.2.2.1 u9.2.2.2.1 u9.2.2.2.2.2.1) (fun u9 t => va_P (dC, dI) vwCl (wC cI cZ ad sm fe ex dy gp gc op gr st dl wo n yc ya ys yd q u9.1 u9.2.1 u9.2.2.1 u9.2.2.2.1 u9.2.2.2.2.1 u9.2.2.2.2.2.1 u9.2.2.2.2.2.2.1 u9.2.2.2.2.2.2.2) t.heap) (awC ad)) 0 0 (awC ad) := by
  refine Met.ofW (cc := cX3_shareMoneyLeft) (maxL := 5) (ret := none) (by decide) rfl ?_
  intro p e s m args below meth c s₁ B hml hv
  obtain ⟨rfl, hP, hK⟩ := hv
  have hx := B.exec
  have hb := B.bytes
  have hr := B.returns
  have hts := atoms_spec (ws := wsX3_shareMoneyLeft) B.pre
  have hown : s.vm.findClass RX3 = some m.cls := findClass_of_methodNamed B.named
  have hlocks := B.notSynchronized
  have hS : va_S (awC ad) s.heap s.heap [] := va_S.rf
  have hl := lv_entry ([.ref (ad 0), .int (nI le), .int b]) (n := 5) (Nat.le_of_ble_eq_true rfl)
  rw [lg_entry_eq]
  generalize (lg_sl ([.ref (ad 0), .int (nI le), .int b]) ++ List.replicate (5 - (lg_sl ([.ref (ad 0), .int (nI le), .int b])).length) Slot.unset).toArray = ls at hl ⊢
  have hl : lv_has ls 5 [(0, .ref (ad 0)), (1, .int (nI le)), (2, .int b)] := hl
  have hiX3 : ∀ w ∈ wsX30, w ∈ wsX3_shareMoneyLeft := by decide +kernel
  have hf33 := hts (.fieldLink RX3 33 "SettlementFund" "sharing" "LSettlementFund$Sharing;") (by decide +kernel)
  have hf19 := hts (.fieldLink RX3 19 "SettlementFund" "claimBook" "LSettlementFund$ClaimBook;") (by decide +kernel)
  have hiX0 : ∀ w ∈ wsX00, w ∈ wsX3_shareMoneyLeft := by decide +kernel
  have hf173 := hts (.fieldLink RX3 173 "SettlementFund$ClaimBook" "size" "I") (by decide +kernel)
  have hf9 := hts (.fieldLink RX3 9 "SettlementFund" "gradePoints" "[I") (by decide +kernel)
  have hf178 := hts (.fieldLink RX3 178 "SettlementFund$ClaimBook" "grade" "[I") (by decide +kernel)
  refine lv_aload_n hx hb dX3_shareMoneyLeft_0 rfl (lv_at hl 0 rfl) ?_
  refine gC_0_8 hx hb hts hiX3 hown hK hP hf33 dX3_shareMoneyLeft_1 ?_
  refine k_X2_clear l  hx hb hml hown hts hK hP gX3_shareMoneyLeft_X2_clear ⟨Nat.le_of_ble_eq_true rfl, Nat.le_of_ble_eq_true rfl⟩ ⟨Nat.le_of_ble_eq_true rfl, Nat.le_of_ble_eq_true rfl⟩ hl.1 (Nat.le_of_ble_eq_true rfl) dX3_shareMoneyLeft_4 hI (fun _ h => h) hS (fun H locs hP hS _ => ?_)
  refine lv_aload_n hx hb dX3_shareMoneyLeft_7 rfl (lv_at hl 0 rfl) ?_
  refine k_X3_moneyLeft l (hq := hq) hx hb hml hown hts hK hP gX3_shareMoneyLeft_X3_moneyLeft ⟨Nat.le_of_ble_eq_true rfl, Nat.le_of_ble_eq_true rfl⟩ ⟨Nat.le_of_ble_eq_true rfl, Nat.le_of_ble_eq_true rfl⟩ hl.1 (Nat.le_of_ble_eq_true rfl) dX3_shareMoneyLeft_8 ?_
  refine lv_istore_n (lv' := [(3, .int (leftF sm fe ex ya ys q)), (0, .ref (ad 0)), (1, .int (nI le)), (2, .int b)]) hx hb dX3_shareMoneyLeft_11 rfl hl (by decide) rfl (fun ls hl => ?_)
  refine lv_iload_n hx hb dX3_shareMoneyLeft_12 rfl (lv_at hl 0 rfl) ?_
  refine lv_iconst (v := nI 1) hx hb dX3_shareMoneyLeft_13 (by decide) ?_
  refine lv_icmp_ge (tgt := 18) hx hb dX3_shareMoneyLeft_14 (by decide) (fun c_14 => ?_) (fun c_14 => ?_)
  · refine lv_iconst (v := nI 0) hx hb dX3_shareMoneyLeft_18 (by decide) ?_
    refine lv_istore (lv' := [(4, .int (nI 0)), (3, .int (leftF sm fe ex ya ys q)), (0, .ref (ad 0)), (1, .int (nI le)), (2, .int b)]) hx hb dX3_shareMoneyLeft_19 hl (by decide) rfl (fun ls hl => ?_)
    refine zl_rw (fun a9 : Nat × (Nat → Int32) × (Nat → Int32) × (Nat → Int32) × Nat => wC cI cZ ad sm fe ex dy gp gc op gr st dl wo n yc ya ys yd q a9.2.1 a9.2.2.1 a9.2.2.2.1 zs zf a9.2.2.2.2 zm zt) (fun a9 : Nat × (Nat → Int32) × (Nat → Int32) × (Nat → Int32) × Nat => [(0, .ref (ad 0)), (1, .int (nI le)), (2, .int b), (4, .int (nI a9.1)), (3, .int (leftF sm fe ex ya ys q))]) (fun a9 : Nat × (Nat → Int32) × (Nat → Int32) × (Nat → Int32) × Nat => a9.1 ≤ n ∧ repL (pK gp gr) (rK gc gr yc ya ys q) (tkL gc gr st yc ya ys q a9.1) a9.2.1 a9.2.2.1 a9.2.2.2.1 a9.2.2.2.2) (fun a9 : Nat × (Nat → Int32) × (Nat → Int32) × (Nat → Int32) × Nat => n - a9.1) (0, zc, zp, zr, 0) (⟨Nat.zero_le _, rfl, fun j h => absurd h (Nat.not_lt_zero j)⟩) hP hS (lv_sub hl [2, 3, 4, 0, 1] rfl) ?_
    intro a9 hi_21 ih_21 H locs hP hS ls hl
    obtain ⟨i, zc2, zp2, zr2, z2⟩ := a9
    have hi_21 : i ≤ n ∧ repL (pK gp gr) (rK gc gr yc ya ys q) (tkL gc gr st yc ya ys q i) zc2 zp2 zr2 z2 := hi_21
    obtain ⟨hi, hr2⟩ := hi_21
    have hl : lv_has ls 5 [(0, .ref (ad 0)), (1, .int (nI le)), (2, .int b), (4, .int (nI i)), (3, .int (leftF sm fe ex ya ys q))] := hl
    have hP : va_P (dC, dI) vwCl (wC cI cZ ad sm fe ex dy gp gc op gr st dl wo n yc ya ys yd q zc2 zp2 zr2 zs zf z2 zm zt) H := hP
    refine lv_iload hx hb dX3_shareMoneyLeft_21 (lv_at hl 3 rfl) ?_
    refine lv_aload_n hx hb dX3_shareMoneyLeft_23 rfl (lv_at hl 0 rfl) ?_
    refine gC_0_6 hx hb hts hiX3 hown hK hP hf19 dX3_shareMoneyLeft_24 ?_
    refine gC_3_5 hx hb hts hiX0 hown hK hP hf173 dX3_shareMoneyLeft_27 ?_
    refine zb_ge (tgt := 80) hx hb (by omega) (by omega) dX3_shareMoneyLeft_30 (by decide) (fun c_30 => ?_) (fun c_30 => ?_)
    · have hin : i = n := by omega
      rw [hin] at hr2
      refine lv_aload_n hx hb dX3_shareMoneyLeft_80 rfl (lv_at hl 0 rfl) ?_
      refine gC_0_8 hx hb hts hiX3 hown hK hP hf33 dX3_shareMoneyLeft_81 ?_
      refine lv_iload_n hx hb dX3_shareMoneyLeft_84 rfl (lv_at hl 4 rfl) ?_
      refine zt_i (y := nI (mK sm fe ex ya ys q)) ((hL c_14).1) ?_
      refine lv_iload_n hx hb dX3_shareMoneyLeft_85 rfl (lv_at hl 1 rfl) ?_
      refine lv_iload_n hx hb dX3_shareMoneyLeft_86 rfl (lv_at hl 2 rfl) ?_
      refine k_X2_shareOut l (L := (tkL gc gr st yc ya ys q n)) (pf := (pK gp gr)) (rf := (rK gc gr yc ya ys q)) (M := (mK sm fe ex ya ys q)) (le := le) (b := b) (hR := hr2) (hB := (tkL_b hn hV)) (hN := (tkL_nd ..)) (hmm := (hL c_14).2.2) (hle := (by omega)) hx hb hml hown hts hK hP gX3_shareMoneyLeft_X2_shareOut ⟨Nat.le_of_ble_eq_true rfl, Nat.le_of_ble_eq_true rfl⟩ ⟨Nat.le_of_ble_eq_true rfl, Nat.le_of_ble_eq_true rfl⟩ hl.1 (Nat.le_of_ble_eq_true rfl) dX3_shareMoneyLeft_87 hI (fun _ h => h) hS (fun u9 hu9 H locs hP hS _ => ?_)
      obtain ⟨zc3, zp3, zr3, zs3, zf3, z3, zm3, zt3⟩ := u9
      have hP : va_P (dC, dI) vwCl (wC cI cZ ad sm fe ex dy gp gc op gr st dl wo n yc ya ys yd q zc3 zp3 zr3 zs3 zf3 z3 zm3 zt3) H := hP
      have hu_87 : ∃ L3 : List Nat, L3.Perm (rnd (pK gp gr) (rK gc gr yc ya ys q) (mK sm fe ex ya ys q) le 25 (tkL gc gr st yc ya ys q n)) ∧ bndL (pK gp gr) (rK gc gr yc ya ys q) L3 ∧ L3.Nodup ∧ repL (pK gp gr) (rK gc gr yc ya ys q) L3 zc3 zp3 zr3 z3 ∧ ∀ i, i < z3 → zs3 i = nI (shr (pK gp gr) (rK gc gr yc ya ys q) L3 (mK sm fe ex ya ys q) (lg L3 i)) := hu9
      exact W.vret hx hb hr (fun t ht hW => ⟨⟨(zc3, zp3, zr3, zs3, zf3, z3, zm3, zt3), rfl, smP_1 c_14 hu_87, by (try dsimp only); rw [ht]; exact hP⟩, hS.F ht⟩) hS.2.2 dX3_shareMoneyLeft_90
    · have hvi := hV i (by omega)
      have hlz := tkL_len gc gr st yc ya ys q i
      have hz2 := hr2.1
      refine lv_aload_n hx hb dX3_shareMoneyLeft_33 rfl (lv_at hl 0 rfl) ?_
      refine lv_iload hx hb dX3_shareMoneyLeft_34 (lv_at hl 3 rfl) ?_
      refine k_X3_takesPart l (k := i) (hn := hn) (hq := hq) (hk := (by omega)) (hG := hvi.1) hx hb hml hown hts hK hP gX3_shareMoneyLeft_X3_takesPart ⟨Nat.le_of_ble_eq_true rfl, Nat.le_of_ble_eq_true rfl⟩ ⟨Nat.le_of_ble_eq_true rfl, Nat.le_of_ble_eq_true rfl⟩ hl.1 (Nat.le_of_ble_eq_true rfl) dX3_shareMoneyLeft_36 ?_
      refine zi_eq (tgt := 74) hx hb (by split <;> decide) dX3_shareMoneyLeft_39 (by decide) (fun c_39 => ?_) (fun c_39 => ?_)
      · refine lv_iinc (v := nI (i + 1)) (lv' := [(4, .int (nI (i + 1))), (0, .ref (ad 0)), (1, .int (nI le)), (2, .int b), (3, .int (leftF sm fe ex ya ys q))]) hx hb dX3_shareMoneyLeft_74 hl (k := 3) rfl (zz_inc _) (by decide) rfl (fun ls hl => ?_)
        refine lv_goto (tgt := 21) hx hb dX3_shareMoneyLeft_77 (by decide) ?_
        exact ih_21 (i + 1, zc2, zp2, zr2, z2) (⟨by omega, by rw [tkL_s, if_neg (zz_ifq c_39), List.append_nil]; exact hr2⟩) (by omega) _ _ hP hS ls (lv_sub hl [1, 2, 3, 0, 4] rfl)
      · have htk : takeB gc gr st yc ya ys q i = true := zz_ifp c_39
        refine lv_aload_n hx hb dX3_shareMoneyLeft_42 rfl (lv_at hl 0 rfl) ?_
        refine gC_0_8 hx hb hts hiX3 hown hK hP hf33 dX3_shareMoneyLeft_43 ?_
        refine lv_iload hx hb dX3_shareMoneyLeft_46 (lv_at hl 3 rfl) ?_
        refine lv_aload_n hx hb dX3_shareMoneyLeft_48 rfl (lv_at hl 0 rfl) ?_
        refine gC_0_4 hx hb hts hiX3 hown hK hP hf9 dX3_shareMoneyLeft_49 ?_
        refine lv_aload_n hx hb dX3_shareMoneyLeft_52 rfl (lv_at hl 0 rfl) ?_
        refine gC_0_6 hx hb hts hiX3 hown hK hP hf19 dX3_shareMoneyLeft_53 ?_
        refine gC_3_1 hx hb hts hiX0 hown hK hP hf178 dX3_shareMoneyLeft_56 ?_
        refine lv_iload hx hb dX3_shareMoneyLeft_59 (lv_at hl 3 rfl) ?_
        refine lC_5 hx hb hK hP (by omega) dX3_shareMoneyLeft_61 ?_
        refine zt_i (y := nI (gN gr i)) (hvi.1.1) ?_
        refine k_X3_valueAt_gp l (j := gN gr i) (hj := hvi.1.2) hx hb hml hown hts hK hP gX3_shareMoneyLeft_X3_valueAt ⟨Nat.le_of_ble_eq_true rfl, Nat.le_of_ble_eq_true rfl⟩ ⟨Nat.le_of_ble_eq_true rfl, Nat.le_of_ble_eq_true rfl⟩ hl.1 (Nat.le_of_ble_eq_true rfl) dX3_shareMoneyLeft_62 ?_
        refine lv_aload_n hx hb dX3_shareMoneyLeft_65 rfl (lv_at hl 0 rfl) ?_
        refine lv_iload hx hb dX3_shareMoneyLeft_66 (lv_at hl 3 rfl) ?_
        refine k_X3_room_ok l (k := i) (hn := hn) (hq := hq) (hk := (by omega)) (hG := hvi.1) hx hb hml hown hts hK hP gX3_shareMoneyLeft_X3_room ⟨Nat.le_of_ble_eq_true rfl, Nat.le_of_ble_eq_true rfl⟩ ⟨Nat.le_of_ble_eq_true rfl, Nat.le_of_ble_eq_true rfl⟩ hl.1 (Nat.le_of_ble_eq_true rfl) dX3_shareMoneyLeft_68 ?_
        refine k_X2_add l (x1 := nI i) (x2 := gp (gN gr i)) (x3 := roomF gc gr yc ya ys q i) (hz := (by omega)) hx hb hml hown hts hK hP gX3_shareMoneyLeft_X2_add ⟨Nat.le_of_ble_eq_true rfl, Nat.le_of_ble_eq_true rfl⟩ ⟨Nat.le_of_ble_eq_true rfl, Nat.le_of_ble_eq_true rfl⟩ hl.1 (Nat.le_of_ble_eq_true rfl) dX3_shareMoneyLeft_71 hI (fun _ h => h) hS (fun H locs hP hS _ => ?_)
        refine lv_iinc (v := nI (i + 1)) (lv' := [(4, .int (nI (i + 1))), (0, .ref (ad 0)), (1, .int (nI le)), (2, .int b), (3, .int (leftF sm fe ex ya ys q))]) hx hb dX3_shareMoneyLeft_74 hl (k := 3) rfl (zz_inc _) (by decide) rfl (fun ls hl => ?_)
        refine lv_goto (tgt := 21) hx hb dX3_shareMoneyLeft_77 (by decide) ?_
        exact ih_21 (i + 1, upd zc2 z2 (nI i), upd zp2 z2 (gp (gN gr i)), upd zr2 z2 (roomF gc gr yc ya ys q i), z2 + 1) (⟨by omega, by rw [tkL_s, if_pos htk]; exact repL_add hr2 hvi.2.1.1 hvi.2.2.1⟩) (by omega) _ _ hP hS ls (lv_sub hl [1, 2, 3, 0, 4] rfl)
  · exact W.vret hx hb hr (fun t ht hW => ⟨⟨(zc, zp, zr, zs, zf, 0, zm, zt), rfl, smP_0 c_14, by (try dsimp only); rw [ht]; exact hP⟩, hS.F ht⟩) hS.2.2 dX3_shareMoneyLeft_17
section
variable {p : Program} {e : Env} {R : Room} {s : State} {m : MethodId} {args : Array Value} {below : List Frame} {meth : Method} {c : Code} {H : Heap} {locs : List Loc} {cells slots : Nat} {Q : State → Prop} {cc : ByteArray} {pc : Nat} {ls : Array Slot} {rest : List Value} {own : String} {index nL : Nat} {Ts : List Cond} {H0 : Heap} {A0 : Nat → Prop}
theorem k_X3_shareMoneyLeft (l : Launch) {dC : Nat → ClassId} {dI : Nat → Nat → Nat} {cI cZ : ClassId} {ad : Nat → Nat} {sm fe ex dy : Int32} {gp gc op gr st dl wo : Nat → Int32} {n : Nat} {yc ya ys yd : Nat → Int32} {q : Nat} {zc zp zr zs zf : Nat → Int32} {z : Nat} {zm zt : Int64} {le : Nat} {b : Int32} (hn : n ≤ 24) (hq : q ≤ 100) (hV : claimV gp gc gr yc ya ys q n) (hL : leftV sm fe ex ya ys q) (hle : le ≤ 100000) (hx : p.tables.exec = Jvm.exec) (hb : c.code = cc) (hml : c.maxLocals = nL) (hown : s.vm.findClass own = some m.cls) (hts : ∀ w ∈ Ts, w.before args s = true) (hK : va_K (dC, dI) vwCl [(cI, .int), (cZ, .boolean)] s) (hP : va_P (dC, dI) vwCl (wC cI cZ ad sm fe ex dy gp gc op gr st dl wo n yc ya ys yd q zc zp zr zs zf z zm zt) H) (hg9 : GoodIn Ts (wsV own index RX3 yX3_shareMoneyLeft wsX3_shareMoneyLeft)) (hR9 : 4 + 1 ≤ R.frames ∧ 8 + (5 + 11) + 100 ≤ R.locals) (hc9 : cells ≤ R.cells ∧ slots ≤ R.slots) (hl9 : ls.size = nL) (hw9 : (rest.map fun v => v.category).sum ≤ 8) (hdg : decode cc pc = .ok (.invokevirtual index, 3)) (hI : iwC ad) (hA : ∀ x, awC ad x → A0 x) (hS : va_S A0 H0 H locs) (kk : ∀ (u9 : (Nat → Int32) × (Nat → Int32) × (Nat → Int32) × (Nat → Int32) × (Nat → Int32) × Nat × Int64 × Int64), (smP sm fe ex gp gc gr st yc ya ys n q le u9.1 u9.2.1 u9.2.2.1 u9.2.2.2.1 u9.2.2.2.2.2.1) → ∀ (H1 : Heap) (locs1 : List Loc), va_P (dC, dI) vwCl (wC cI cZ ad sm fe ex dy gp gc op gr st dl wo n yc ya ys yd q u9.1 u9.2.1 u9.2.2.1 u9.2.2.2.1 u9.2.2.2.2.1 u9.2.2.2.2.2.1 u9.2.2.2.2.2.2.1 u9.2.2.2.2.2.2.2) H1 → va_S A0 H0 H1 locs1 → (∀ q : Nat, q < H.size → ¬ awC ad q → H1[q]? = H[q]?) → W p l e R s m args below meth c H1 locs1 cells slots Q (F0 m (pc + 3) ls rest)) : W p l e R s m args below meth c H locs cells slots Q (F0 m pc ls (.int b :: .int (nI le) :: .ref (ad 0) :: rest)) := va_callv (va_runV (As := [.int (nI le), .int b]) (rest := rest) ⟨hx, hb, hml, hown, hts⟩ (c_X3_shareMoneyLeft (dC := dC) (dI := dI) (cI := cI) (cZ := cZ) (ad := ad) (sm := sm) (fe := fe) (ex := ex) (dy := dy) (gp := gp) (gc := gc) (op := op) (gr := gr) (st := st) (dl := dl) (wo := wo) (n := n) (yc := yc) (ya := ya) (ys := ys) (yd := yd) (q := q) (zc := zc) (zp := zp) (zr := zr) (zs := zs) (zf := zf) (z := z) (zm := zm) (zt := zt) (le := le) (b := b) l hI hn hq hV hL hle) (cwV 2 hts hg9 rfl rfl rfl (by decide +kernel) hR9) ⟨fun a U g mk q => ⟨q.1, q.2.1, va_K.moved (u := U) (U := U.calling g mk a) (Vm.Alike.refl U.vm) q.2.2⟩, rC_0 hK hP, fun U hU hW => ⟨rfl, by rw [hU]; exact hP, va_K.moved hW.alike hK⟩⟩ rfl rfl hl9 rfl (lv_room hw9) hdg hc9) hS (fun q _ h => hA q h) hA (fun u t H1 locs1 ht _ hu hB hz hk hS1 => kk u hu H1 locs1 (by rw [ht] at hB; exact hB) hS1 hk)
end
set_option maxHeartbeats 4000000 in
set_option maxRecDepth 100000 in
theorem c_X3_makePayments (l : Launch) {dC : Nat → ClassId} {dI : Nat → Nat → Nat} {cI cZ : ClassId} {ad : Nat → Nat} {sm fe ex dy : Int32} {gp gc op gr st dl wo : Nat → Int32} {n : Nat} {yc ya ys yd : Nat → Int32} {q : Nat} {zc zp zr zs zf : Nat → Int32} {z : Nat} {zm zt : Int64} {L : List Nat} {pf : Nat → Nat} {rf : Nat → Nat} {sf : Nat → Nat} {shf : Nat → Nat} (hI : iwC ad) (hn : n ≤ 24) (hR : repL pf rf L zc zp zr z) (hB : bndL pf rf L) (hs : ∀ i, i < z → zs i = nI (sf (lg L i))) (hs9 : ∀ i, i < n → (if i ∈ L then sf i else 0) = shf i ∧ shf i < 2 ^ 31) (hq9 : q + gain shf n ≤ 100) : Met l yX3_makePayments wsX3_makePayments { frames := 2, cells := 0, slots := 0, locals := 44 } (va_Pc [.ref (ad 0)] (fun U => va_P (dC, dI) vwCl (wC cI cZ ad sm fe ex dy gp gc op gr st dl wo n yc ya ys yd q zc zp zr zs zf z zm zt) U.heap ∧ va_K (dC, dI) vwCl [(cI, .int), (cZ, .boolean)] U)) (va_Qv (fun _ : Unit => True) (fun _ t => va_P (dC, dI) vwCl (wC cI cZ ad sm fe ex dy gp gc op gr st dl wo n ((payF dy shf yc ya ys yd q n).1) ((payF dy shf yc ya ys yd q n).2.1) ((payF dy shf yc ya ys yd q n).2.2.1) ((payF dy shf yc ya ys yd q n).2.2.2.1) ((payF dy shf yc ya ys yd q n).2.2.2.2) zc zp zr zs zf z zm zt) t.heap) (awC ad)) 0 0 (awC ad) := by
  refine Met.ofW (cc := cX3_makePayments) (maxL := 3) (ret := none) (by decide) rfl ?_
  intro p e s m args below meth c s₁ B hml hv
  obtain ⟨rfl, hP, hK⟩ := hv
  have hx := B.exec
  have hb := B.bytes
  have hr := B.returns
  have hts := atoms_spec (ws := wsX3_makePayments) B.pre
  have hown : s.vm.findClass RX3 = some m.cls := findClass_of_methodNamed B.named
  have hlocks := B.notSynchronized
  have hS : va_S (awC ad) s.heap s.heap [] := va_S.rf
  have hl := lv_entry ([.ref (ad 0)]) (n := 3) (Nat.le_of_ble_eq_true rfl)
  rw [lg_entry_eq]
  generalize (lg_sl ([.ref (ad 0)]) ++ List.replicate (3 - (lg_sl ([.ref (ad 0)])).length) Slot.unset).toArray = ls at hl ⊢
  have hl : lv_has ls 3 [(0, .ref (ad 0))] := hl
  have hiX3 : ∀ w ∈ wsX30, w ∈ wsX3_makePayments := by decide +kernel
  have hf19 := hts (.fieldLink RX3 19 "SettlementFund" "claimBook" "LSettlementFund$ClaimBook;") (by decide +kernel)
  have hiX0 : ∀ w ∈ wsX00, w ∈ wsX3_makePayments := by decide +kernel
  have hf173 := hts (.fieldLink RX3 173 "SettlementFund$ClaimBook" "size" "I") (by decide +kernel)
  have hf33 := hts (.fieldLink RX3 33 "SettlementFund" "sharing" "LSettlementFund$Sharing;") (by decide +kernel)
  have hf26 := hts (.fieldLink RX3 26 "SettlementFund" "paymentBook" "LSettlementFund$PaymentBook;") (by decide +kernel)
  have hf76 := hts (.fieldLink RX3 76 "SettlementFund" "day" "I") (by decide +kernel)
  refine lv_iconst (v := nI 0) hx hb dX3_makePayments_0 (by decide) ?_
  refine lv_istore_n (lv' := [(1, .int (nI 0)), (0, .ref (ad 0))]) hx hb dX3_makePayments_1 rfl hl (by decide) rfl (fun ls hl => ?_)
  have e_1 : yc = (payF dy shf yc ya ys yd q 0).1 := rfl
  rw [e_1] at hP
  have e_2 : ya = (payF dy shf yc ya ys yd q 0).2.1 := rfl
  rw [e_2] at hP
  have e_3 : ys = (payF dy shf yc ya ys yd q 0).2.2.1 := rfl
  rw [e_3] at hP
  have e_4 : yd = (payF dy shf yc ya ys yd q 0).2.2.2.1 := rfl
  rw [e_4] at hP
  have e_5 : q = (payF dy shf yc ya ys yd q 0).2.2.2.2 := rfl
  rw [e_5] at hP
  refine zl_rw (fun a9 : Nat => wC cI cZ ad sm fe ex dy gp gc op gr st dl wo n ((payF dy shf yc ya ys yd q a9).1) ((payF dy shf yc ya ys yd q a9).2.1) ((payF dy shf yc ya ys yd q a9).2.2.1) ((payF dy shf yc ya ys yd q a9).2.2.2.1) ((payF dy shf yc ya ys yd q a9).2.2.2.2) zc zp zr zs zf z zm zt) (fun a9 : Nat => [(0, .ref (ad 0)), (1, .int (nI a9))]) (fun a9 : Nat => a9 ≤ n) (fun a9 : Nat => n - a9) 0 (Nat.zero_le _) hP hS (lv_sub hl [1, 0] rfl) ?_
  intro a9 hi_2 ih_2 H locs hP hS ls hl
  obtain ⟨i, rfl⟩ : ∃ z, z = a9 := ⟨_, rfl⟩
  have hi_2 : i ≤ n := hi_2
  have hl : lv_has ls 3 [(0, .ref (ad 0)), (1, .int (nI i))] := hl
  have hP : va_P (dC, dI) vwCl (wC cI cZ ad sm fe ex dy gp gc op gr st dl wo n ((payF dy shf yc ya ys yd q i).1) ((payF dy shf yc ya ys yd q i).2.1) ((payF dy shf yc ya ys yd q i).2.2.1) ((payF dy shf yc ya ys yd q i).2.2.2.1) ((payF dy shf yc ya ys yd q i).2.2.2.2) zc zp zr zs zf z zm zt) H := hP
  refine lv_iload_n hx hb dX3_makePayments_2 rfl (lv_at hl 1 rfl) ?_
  refine lv_aload_n hx hb dX3_makePayments_3 rfl (lv_at hl 0 rfl) ?_
  refine gC_0_6 hx hb hts hiX3 hown hK hP hf19 dX3_makePayments_4 ?_
  refine gC_3_5 hx hb hts hiX0 hown hK hP hf173 dX3_makePayments_7 ?_
  refine zb_ge (tgt := 45) hx hb (by omega) (by omega) dX3_makePayments_10 (by decide) (fun c_10 => ?_) (fun c_10 => ?_)
  · have e_6 : (payF dy shf yc ya ys yd q i).2.2.1 = (payF dy shf yc ya ys yd q n).2.2.1 := by rw [show i = n by omega]
    rw [e_6] at hP
    have e_7 : (payF dy shf yc ya ys yd q i).2.1 = (payF dy shf yc ya ys yd q n).2.1 := by rw [show i = n by omega]
    rw [e_7] at hP
    have e_8 : (payF dy shf yc ya ys yd q i).2.2.2.1 = (payF dy shf yc ya ys yd q n).2.2.2.1 := by rw [show i = n by omega]
    rw [e_8] at hP
    have e_9 : (payF dy shf yc ya ys yd q i).1 = (payF dy shf yc ya ys yd q n).1 := by rw [show i = n by omega]
    rw [e_9] at hP
    have e_10 : (payF dy shf yc ya ys yd q i).2.2.2.2 = (payF dy shf yc ya ys yd q n).2.2.2.2 := by rw [show i = n by omega]
    rw [e_10] at hP
    exact W.vret hx hb hr (fun t ht hW => ⟨⟨(), rfl, trivial, by (try dsimp only); rw [ht]; exact hP⟩, hS.F ht⟩) hS.2.2 dX3_makePayments_45
  · refine lv_aload_n hx hb dX3_makePayments_13 rfl (lv_at hl 0 rfl) ?_
    refine gC_0_8 hx hb hts hiX3 hown hK hP hf33 dX3_makePayments_14 ?_
    refine lv_iload_n hx hb dX3_makePayments_17 rfl (lv_at hl 1 rfl) ?_
    refine k_X2_shareGivenTo l (L := L) (pf := pf) (rf := rf) (sf := sf) (k := i) (hR := hR) (hB := hB) (hs := hs) (hk := (by omega)) hx hb hml hown hts hK hP gX3_makePayments_X2_shareGivenTo ⟨Nat.le_of_ble_eq_true rfl, Nat.le_of_ble_eq_true rfl⟩ ⟨Nat.le_of_ble_eq_true rfl, Nat.le_of_ble_eq_true rfl⟩ hl.1 (Nat.le_of_ble_eq_true rfl) dX3_makePayments_18 ?_
    refine zt_i (y := nI (shf i)) (congrArg nI (hs9 i (by omega)).1) ?_
    refine lv_istore_n (lv' := [(2, .int (nI (shf i))), (0, .ref (ad 0)), (1, .int (nI i))]) hx hb dX3_makePayments_21 rfl hl (by decide) rfl (fun ls hl => ?_)
    refine lv_iload_n hx hb dX3_makePayments_22 rfl (lv_at hl 0 rfl) ?_
    refine zi_le (tgt := 39) hx hb ((hs9 i (by omega)).2) dX3_makePayments_23 (by decide) (fun c_23 => ?_) (fun c_23 => ?_)
    · have h9 : shf i = 0 := c_23
      refine lv_iinc (v := nI (i + 1)) (lv' := [(1, .int (nI (i + 1))), (2, .int (nI (shf i))), (0, .ref (ad 0))]) hx hb dX3_makePayments_39 hl (k := 2) rfl (zz_inc _) (by decide) rfl (fun ls hl => ?_)
      refine lv_goto (tgt := 2) hx hb dX3_makePayments_42 (by decide) ?_
      have e_11 : (payF dy shf yc ya ys yd q i).1 = (payF dy shf yc ya ys yd q (i + 1)).1 := by rw [payF_n h9]
      rw [e_11] at hP
      have e_12 : (payF dy shf yc ya ys yd q i).2.1 = (payF dy shf yc ya ys yd q (i + 1)).2.1 := by rw [payF_n h9]
      rw [e_12] at hP
      have e_13 : (payF dy shf yc ya ys yd q i).2.2.1 = (payF dy shf yc ya ys yd q (i + 1)).2.2.1 := by rw [payF_n h9]
      rw [e_13] at hP
      have e_14 : (payF dy shf yc ya ys yd q i).2.2.2.1 = (payF dy shf yc ya ys yd q (i + 1)).2.2.2.1 := by rw [payF_n h9]
      rw [e_14] at hP
      have e_15 : (payF dy shf yc ya ys yd q i).2.2.2.2 = (payF dy shf yc ya ys yd q (i + 1)).2.2.2.2 := by rw [payF_n h9]
      rw [e_15] at hP
      exact ih_2 (i + 1) (by omega) (by omega) _ _ hP hS ls (lv_sub hl [2, 0] rfl)
    · have h9 : 0 < shf i := c_23
      have hg1 := gain_mono shf (show i + 1 ≤ n by omega)
      have hg2 := payF_q dy shf yc ya ys yd q i
      rw [gain_s, if_pos h9] at hg1
      refine lv_aload_n hx hb dX3_makePayments_26 rfl (lv_at hl 1 rfl) ?_
      refine gC_0_7 hx hb hts hiX3 hown hK hP hf26 dX3_makePayments_27 ?_
      refine lv_iload_n hx hb dX3_makePayments_30 rfl (lv_at hl 2 rfl) ?_
      refine lv_iload_n hx hb dX3_makePayments_31 rfl (lv_at hl 0 rfl) ?_
      refine lv_aload_n hx hb dX3_makePayments_32 rfl (lv_at hl 1 rfl) ?_
      refine gC_0_3 hx hb hts hiX3 hown hK hP hf76 dX3_makePayments_33 ?_
      refine k_X1_add l (cl := nI i) (am := nI (shf i)) (d := dy) (hq := (by omega)) hx hb hml hown hts hK hP gX3_makePayments_X1_add ⟨Nat.le_of_ble_eq_true rfl, Nat.le_of_ble_eq_true rfl⟩ ⟨Nat.le_of_ble_eq_true rfl, Nat.le_of_ble_eq_true rfl⟩ hl.1 (Nat.le_of_ble_eq_true rfl) dX3_makePayments_36 hI (fun _ h => h) hS (fun H locs hP hS _ => ?_)
      skip
      refine lv_iinc (v := nI (i + 1)) (lv' := [(1, .int (nI (i + 1))), (2, .int (nI (shf i))), (0, .ref (ad 0))]) hx hb dX3_makePayments_39 hl (k := 2) rfl (zz_inc _) (by decide) rfl (fun ls hl => ?_)
      refine lv_goto (tgt := 2) hx hb dX3_makePayments_42 (by decide) ?_
      have e_16 : upd ((payF dy shf yc ya ys yd q i).1) ((payF dy shf yc ya ys yd q i).2.2.2.2) (nI i) = (payF dy shf yc ya ys yd q (i + 1)).1 := by rw [payF_y h9]
      rw [e_16] at hP
      have e_17 : upd ((payF dy shf yc ya ys yd q i).2.1) ((payF dy shf yc ya ys yd q i).2.2.2.2) (nI (shf i)) = (payF dy shf yc ya ys yd q (i + 1)).2.1 := by rw [payF_y h9]
      rw [e_17] at hP
      have e_18 : upd ((payF dy shf yc ya ys yd q i).2.2.1) ((payF dy shf yc ya ys yd q i).2.2.2.2) (nI 0) = (payF dy shf yc ya ys yd q (i + 1)).2.2.1 := by rw [payF_y h9]
      rw [e_18] at hP
      have e_19 : upd ((payF dy shf yc ya ys yd q i).2.2.2.1) ((payF dy shf yc ya ys yd q i).2.2.2.2) dy = (payF dy shf yc ya ys yd q (i + 1)).2.2.2.1 := by rw [payF_y h9]
      rw [e_19] at hP
      have e_20 : ((payF dy shf yc ya ys yd q i).2.2.2.2) + 1 = (payF dy shf yc ya ys yd q (i + 1)).2.2.2.2 := by rw [payF_y h9]
      rw [e_20] at hP
      exact ih_2 (i + 1) (by omega) (by omega) _ _ hP hS ls (lv_sub hl [2, 0] rfl)
section
variable {p : Program} {e : Env} {R : Room} {s : State} {m : MethodId} {args : Array Value} {below : List Frame} {meth : Method} {c : Code} {H : Heap} {locs : List Loc} {cells slots : Nat} {Q : State → Prop} {cc : ByteArray} {pc : Nat} {ls : Array Slot} {rest : List Value} {own : String} {index nL : Nat} {Ts : List Cond} {H0 : Heap} {A0 : Nat → Prop}
theorem k_X3_makePayments (l : Launch) {dC : Nat → ClassId} {dI : Nat → Nat → Nat} {cI cZ : ClassId} {ad : Nat → Nat} {sm fe ex dy : Int32} {gp gc op gr st dl wo : Nat → Int32} {n : Nat} {yc ya ys yd : Nat → Int32} {q : Nat} {zc zp zr zs zf : Nat → Int32} {z : Nat} {zm zt : Int64} {L : List Nat} {pf : Nat → Nat} {rf : Nat → Nat} {sf : Nat → Nat} {shf : Nat → Nat} (hn : n ≤ 24) (hR : repL pf rf L zc zp zr z) (hB : bndL pf rf L) (hs : ∀ i, i < z → zs i = nI (sf (lg L i))) (hs9 : ∀ i, i < n → (if i ∈ L then sf i else 0) = shf i ∧ shf i < 2 ^ 31) (hq9 : q + gain shf n ≤ 100) (hx : p.tables.exec = Jvm.exec) (hb : c.code = cc) (hml : c.maxLocals = nL) (hown : s.vm.findClass own = some m.cls) (hts : ∀ w ∈ Ts, w.before args s = true) (hK : va_K (dC, dI) vwCl [(cI, .int), (cZ, .boolean)] s) (hP : va_P (dC, dI) vwCl (wC cI cZ ad sm fe ex dy gp gc op gr st dl wo n yc ya ys yd q zc zp zr zs zf z zm zt) H) (hg9 : GoodIn Ts (wsV own index RX3 yX3_makePayments wsX3_makePayments)) (hR9 : 2 + 1 ≤ R.frames ∧ 8 + (3 + 11) + 44 ≤ R.locals) (hc9 : cells ≤ R.cells ∧ slots ≤ R.slots) (hl9 : ls.size = nL) (hw9 : (rest.map fun v => v.category).sum ≤ 8) (hdg : decode cc pc = .ok (.invokevirtual index, 3)) (hI : iwC ad) (hA : ∀ x, awC ad x → A0 x) (hS : va_S A0 H0 H locs) (kk : ∀ (H1 : Heap) (locs1 : List Loc), va_P (dC, dI) vwCl (wC cI cZ ad sm fe ex dy gp gc op gr st dl wo n ((payF dy shf yc ya ys yd q n).1) ((payF dy shf yc ya ys yd q n).2.1) ((payF dy shf yc ya ys yd q n).2.2.1) ((payF dy shf yc ya ys yd q n).2.2.2.1) ((payF dy shf yc ya ys yd q n).2.2.2.2) zc zp zr zs zf z zm zt) H1 → va_S A0 H0 H1 locs1 → (∀ q : Nat, q < H.size → ¬ awC ad q → H1[q]? = H[q]?) → W p l e R s m args below meth c H1 locs1 cells slots Q (F0 m (pc + 3) ls (rest))) : W p l e R s m args below meth c H locs cells slots Q (F0 m pc ls (.ref (ad 0) :: rest)) := va_callv (va_runV (As := []) (rest := rest) ⟨hx, hb, hml, hown, hts⟩ (c_X3_makePayments (dC := dC) (dI := dI) (cI := cI) (cZ := cZ) (ad := ad) (sm := sm) (fe := fe) (ex := ex) (dy := dy) (gp := gp) (gc := gc) (op := op) (gr := gr) (st := st) (dl := dl) (wo := wo) (n := n) (yc := yc) (ya := ya) (ys := ys) (yd := yd) (q := q) (zc := zc) (zp := zp) (zr := zr) (zs := zs) (zf := zf) (z := z) (zm := zm) (zt := zt) (L := L) (pf := pf) (rf := rf) (sf := sf) (shf := shf) l hI hn hR hB hs hs9 hq9) (cwV 0 hts hg9 rfl rfl rfl (by decide +kernel) hR9) ⟨fun a U g mk q => ⟨q.1, q.2.1, va_K.moved (u := U) (U := U.calling g mk a) (Vm.Alike.refl U.vm) q.2.2⟩, rC_0 hK hP, fun U hU hW => ⟨rfl, by rw [hU]; exact hP, va_K.moved hW.alike hK⟩⟩ rfl rfl hl9 rfl (lv_room hw9) hdg hc9) hS (fun q _ h => hA q h) hA (fun u t H1 locs1 ht _ hu hB hz hk hS1 => kk H1 locs1 (by rw [ht] at hB; exact hB) hS1 hk)
end
set_option maxHeartbeats 4000000 in
set_option maxRecDepth 100000 in
theorem c_X3_shareFor (l : Launch) {dC : Nat → ClassId} {dI : Nat → Nat → Nat} {cI cZ : ClassId} {ad : Nat → Nat} {sm fe ex dy : Int32} {gp gc op gr st dl wo : Nat → Int32} {n : Nat} {yc ya ys yd : Nat → Int32} {q : Nat} {zc zp zr zs zf : Nat → Int32} {z : Nat} {zm zt : Int64} {k : Nat} {le : Nat} {b : Int32} (hI : iwC ad) (hn : n ≤ 24) (hq : q ≤ 100) (hk : k < n) (hV : claimV gp gc gr yc ya ys q n) (hL : leftV sm fe ex ya ys q) (hle : le ≤ 100000) (h1 : outN (nI le) (nI 0) (nI 100000) = 0) : Met l yX3_shareFor wsX3_shareFor { frames := 5, cells := 0, slots := 0, locals := 124 } (va_Pc [.ref (ad 0), .int (nI k), .int (nI le), .int b] (fun U => va_P (dC, dI) vwCl (wC cI cZ ad sm fe ex dy gp gc op gr st dl wo n yc ya ys yd q zc zp zr zs zf z zm zt) U.heap ∧ va_K (dC, dI) vwCl [(cI, .int), (cZ, .boolean)] U)) (va_Qi (fun r (u9 : (Nat → Int32) × (Nat → Int32) × (Nat → Int32) × (Nat → Int32) × (Nat → Int32) × Nat × Int64 × Int64) => r = nI (shK sm fe ex gp gc gr st yc ya ys n q le k) ∧ (True)) (fun u9 t => va_P (dC, dI) vwCl (wC cI cZ ad sm fe ex dy gp gc op gr st dl wo n yc ya ys yd q u9.1 u9.2.1 u9.2.2.1 u9.2.2.2.1 u9.2.2.2.2.1 u9.2.2.2.2.2.1 u9.2.2.2.2.2.2.1 u9.2.2.2.2.2.2.2) t.heap) (awC ad)) 0 0 (awC ad) := by
  refine Met.ofW (cc := cX3_shareFor) (maxL := 4) (ret := (some .int)) (by decide) rfl ?_
  intro p e s m args below meth c s₁ B hml hv
  obtain ⟨rfl, hP, hK⟩ := hv
  have hx := B.exec
  have hb := B.bytes
  have hr := B.returns
  have hts := atoms_spec (ws := wsX3_shareFor) B.pre
  have hown : s.vm.findClass RX3 = some m.cls := findClass_of_methodNamed B.named
  have hlocks := B.notSynchronized
  have hS : va_S (awC ad) s.heap s.heap [] := va_S.rf
  have hl := lv_entry ([.ref (ad 0), .int (nI k), .int (nI le), .int b]) (n := 4) (Nat.le_of_ble_eq_true rfl)
  rw [lg_entry_eq]
  generalize (lg_sl ([.ref (ad 0), .int (nI k), .int (nI le), .int b]) ++ List.replicate (4 - (lg_sl ([.ref (ad 0), .int (nI k), .int (nI le), .int b])).length) Slot.unset).toArray = ls at hl ⊢
  have hl : lv_has ls 4 [(0, .ref (ad 0)), (1, .int (nI k)), (2, .int (nI le)), (3, .int b)] := hl
  have hiX3 : ∀ w ∈ wsX30, w ∈ wsX3_shareFor := by decide +kernel
  have hf33 := hts (.fieldLink RX3 33 "SettlementFund" "sharing" "LSettlementFund$Sharing;") (by decide +kernel)
  refine lv_aload_n hx hb dX3_shareFor_0 rfl (lv_at hl 0 rfl) ?_
  refine lv_iload_n hx hb dX3_shareFor_1 rfl (lv_at hl 1 rfl) ?_
  refine k_X3_mustBeClaim_ok l (k := k) (hn := hn) (hk := hk) hx hb hml hown hts hK hP gX3_shareFor_X3_mustBeClaim ⟨Nat.le_of_ble_eq_true rfl, Nat.le_of_ble_eq_true rfl⟩ ⟨Nat.le_of_ble_eq_true rfl, Nat.le_of_ble_eq_true rfl⟩ hl.1 (Nat.le_of_ble_eq_true rfl) dX3_shareFor_2 ?_
  refine lv_aload_n hx hb dX3_shareFor_5 rfl (lv_at hl 0 rfl) ?_
  refine lv_iload_n hx hb dX3_shareFor_6 rfl (lv_at hl 2 rfl) ?_
  refine k_X3_mustBeLeast_ok l (x := nI le) (h1 := h1) hx hb hml hown hts hK hP gX3_shareFor_X3_mustBeLeast ⟨Nat.le_of_ble_eq_true rfl, Nat.le_of_ble_eq_true rfl⟩ ⟨Nat.le_of_ble_eq_true rfl, Nat.le_of_ble_eq_true rfl⟩ hl.1 (Nat.le_of_ble_eq_true rfl) dX3_shareFor_7 ?_
  refine lv_aload_n hx hb dX3_shareFor_10 rfl (lv_at hl 0 rfl) ?_
  refine lv_iload_n hx hb dX3_shareFor_11 rfl (lv_at hl 2 rfl) ?_
  refine lv_iload_n hx hb dX3_shareFor_12 rfl (lv_at hl 3 rfl) ?_
  refine k_X3_shareMoneyLeft l (le := le) (b := b) (hn := hn) (hq := hq) (hV := hV) (hL := hL) (hle := hle) hx hb hml hown hts hK hP gX3_shareFor_X3_shareMoneyLeft ⟨Nat.le_of_ble_eq_true rfl, Nat.le_of_ble_eq_true rfl⟩ ⟨Nat.le_of_ble_eq_true rfl, Nat.le_of_ble_eq_true rfl⟩ hl.1 (Nat.le_of_ble_eq_true rfl) dX3_shareFor_13 hI (fun _ h => h) hS (fun u9 hu9 H locs hP hS _ => ?_)
  obtain ⟨zc3, zp3, zr3, zs3, zf3, z3, zm3, zt3⟩ := u9
  have hP : va_P (dC, dI) vwCl (wC cI cZ ad sm fe ex dy gp gc op gr st dl wo n yc ya ys yd q zc3 zp3 zr3 zs3 zf3 z3 zm3 zt3) H := hP
  have hu_13 : smP sm fe ex gp gc gr st yc ya ys n q le zc3 zp3 zr3 zs3 z3 := hu9
  obtain ⟨L3, q1, q2, q3, q4, q5⟩ := hu_13
  refine lv_aload_n hx hb dX3_shareFor_16 rfl (lv_at hl 0 rfl) ?_
  refine gC_0_8 hx hb hts hiX3 hown hK hP hf33 dX3_shareFor_17 ?_
  refine lv_iload_n hx hb dX3_shareFor_20 rfl (lv_at hl 1 rfl) ?_
  refine k_X2_shareGivenTo l (L := L3) (pf := (pK gp gr)) (rf := (rK gc gr yc ya ys q)) (sf := (shr (pK gp gr) (rK gc gr yc ya ys q) L3 (mK sm fe ex ya ys q))) (k := k) (hR := q4) (hB := q2) (hs := q5) (hk := (by omega)) hx hb hml hown hts hK hP gX3_shareFor_X2_shareGivenTo ⟨Nat.le_of_ble_eq_true rfl, Nat.le_of_ble_eq_true rfl⟩ ⟨Nat.le_of_ble_eq_true rfl, Nat.le_of_ble_eq_true rfl⟩ hl.1 (Nat.le_of_ble_eq_true rfl) dX3_shareFor_21 ?_
  refine zt_i (y := nI (shK sm fe ex gp gc gr st yc ya ys n q le k)) (congrArg nI (shK_eq q1)) ?_
  exact W.iret (v := nI (shK sm fe ex gp gc gr st yc ya ys n q le k)) hx hb hr (fun t ht hW => ⟨⟨nI (shK sm fe ex gp gc gr st yc ya ys n q le k), (zc3, zp3, zr3, zs3, zf3, z3, zm3, zt3), rfl, ⟨rfl, trivial⟩, by (try dsimp only); rw [ht]; exact hP⟩, hS.F ht⟩) hS.2.2 dX3_shareFor_24
section
variable {p : Program} {e : Env} {R : Room} {s : State} {m : MethodId} {args : Array Value} {below : List Frame} {meth : Method} {c : Code} {H : Heap} {locs : List Loc} {cells slots : Nat} {Q : State → Prop} {cc : ByteArray} {pc : Nat} {ls : Array Slot} {rest : List Value} {own : String} {index nL : Nat} {Ts : List Cond} {H0 : Heap} {A0 : Nat → Prop}
theorem k_X3_shareFor (l : Launch) {dC : Nat → ClassId} {dI : Nat → Nat → Nat} {cI cZ : ClassId} {ad : Nat → Nat} {sm fe ex dy : Int32} {gp gc op gr st dl wo : Nat → Int32} {n : Nat} {yc ya ys yd : Nat → Int32} {q : Nat} {zc zp zr zs zf : Nat → Int32} {z : Nat} {zm zt : Int64} {k : Nat} {le : Nat} {b : Int32} (hn : n ≤ 24) (hq : q ≤ 100) (hk : k < n) (hV : claimV gp gc gr yc ya ys q n) (hL : leftV sm fe ex ya ys q) (hle : le ≤ 100000) (h1 : outN (nI le) (nI 0) (nI 100000) = 0) (hx : p.tables.exec = Jvm.exec) (hb : c.code = cc) (hml : c.maxLocals = nL) (hown : s.vm.findClass own = some m.cls) (hts : ∀ w ∈ Ts, w.before args s = true) (hK : va_K (dC, dI) vwCl [(cI, .int), (cZ, .boolean)] s) (hP : va_P (dC, dI) vwCl (wC cI cZ ad sm fe ex dy gp gc op gr st dl wo n yc ya ys yd q zc zp zr zs zf z zm zt) H) (hg9 : GoodIn Ts (wsV own index RX3 yX3_shareFor wsX3_shareFor)) (hR9 : 5 + 1 ≤ R.frames ∧ 8 + (4 + 11) + 124 ≤ R.locals) (hc9 : cells ≤ R.cells ∧ slots ≤ R.slots) (hl9 : ls.size = nL) (hw9 : (rest.map fun v => v.category).sum ≤ 8) (hdg : decode cc pc = .ok (.invokevirtual index, 3)) (hI : iwC ad) (hA : ∀ x, awC ad x → A0 x) (hS : va_S A0 H0 H locs) (kk : ∀ (u9 : (Nat → Int32) × (Nat → Int32) × (Nat → Int32) × (Nat → Int32) × (Nat → Int32) × Nat × Int64 × Int64), (True) → ∀ (H1 : Heap) (locs1 : List Loc), va_P (dC, dI) vwCl (wC cI cZ ad sm fe ex dy gp gc op gr st dl wo n yc ya ys yd q u9.1 u9.2.1 u9.2.2.1 u9.2.2.2.1 u9.2.2.2.2.1 u9.2.2.2.2.2.1 u9.2.2.2.2.2.2.1 u9.2.2.2.2.2.2.2) H1 → va_S A0 H0 H1 locs1 → (∀ q : Nat, q < H.size → ¬ awC ad q → H1[q]? = H[q]?) → W p l e R s m args below meth c H1 locs1 cells slots Q (F0 m (pc + 3) ls (.int (nI (shK sm fe ex gp gc gr st yc ya ys n q le k)) :: rest))) : W p l e R s m args below meth c H locs cells slots Q (F0 m pc ls (.int b :: .int (nI le) :: .int (nI k) :: .ref (ad 0) :: rest)) := va_calli (va_runV (As := [.int (nI k), .int (nI le), .int b]) (rest := rest) ⟨hx, hb, hml, hown, hts⟩ (c_X3_shareFor (dC := dC) (dI := dI) (cI := cI) (cZ := cZ) (ad := ad) (sm := sm) (fe := fe) (ex := ex) (dy := dy) (gp := gp) (gc := gc) (op := op) (gr := gr) (st := st) (dl := dl) (wo := wo) (n := n) (yc := yc) (ya := ya) (ys := ys) (yd := yd) (q := q) (zc := zc) (zp := zp) (zr := zr) (zs := zs) (zf := zf) (z := z) (zm := zm) (zt := zt) (k := k) (le := le) (b := b) l hI hn hq hk hV hL hle h1) (cwV 3 hts hg9 rfl rfl rfl (by decide +kernel) hR9) ⟨fun a U g mk q => ⟨q.1, q.2.1, va_K.moved (u := U) (U := U.calling g mk a) (Vm.Alike.refl U.vm) q.2.2⟩, rC_0 hK hP, fun U hU hW => ⟨rfl, by rw [hU]; exact hP, va_K.moved hW.alike hK⟩⟩ rfl rfl hl9 rfl (lv_room hw9) hdg hc9) hS (fun q _ h => hA q h) hA (fun r u t H1 locs1 ht _ hu hB hz hk hS1 => by obtain ⟨h9, hu⟩ := hu; subst h9; exact kk u hu H1 locs1 (by rw [ht] at hB; exact hB) hS1 hk)
end
set_option maxHeartbeats 4000000 in
set_option maxRecDepth 100000 in
theorem c_X3_shareFor_no (l : Launch) (hfl : l.stackTraces = false) {dC : Nat → ClassId} {dI : Nat → Nat → Nat} {cI cZ : ClassId} {ad : Nat → Nat} {sm fe ex dy : Int32} {gp gc op gr st dl wo : Nat → Int32} {n : Nat} {yc ya ys yd : Nat → Int32} {q : Nat} {zc zp zr zs zf : Nat → Int32} {z : Nat} {zm zt : Int64} {x : Int32} {le : Int32} {b : Int32} (hn : n ≤ 24) (hk : ¬ vp_in x n) : vx_Met l yX3_shareFor wsX3_shareFor { frames := 7, cells := 1, slots := 6, locals := 111 } (va_Pc [.ref (ad 0), .int x, .int le, .int b] (fun U => va_P (dC, dI) vwCl (wC cI cZ ad sm fe ex dy gp gc op gr st dl wo n yc ya ys yd q zc zp zr zs zf z zm zt) U.heap ∧ va_K (dC, dI) vwCl [(cI, .int), (cZ, .boolean)] U ∧ tX (fun _ => False) U U.heap)) (fun _ _ _ _ => False) (xT "java/lang/IndexOutOfBoundsException") 1 6 (fun _ => False) := by
  refine vx_ofW (cc := cX3_shareFor) (maxL := 4) (ret := (some .int)) (by decide) rfl ?_
  intro p e s m args below meth c s₁ B hml ht hv
  obtain ⟨rfl, hP, hK, hT⟩ := hv
  have hx := B.exec
  have hb := B.bytes
  have hr := B.returns
  have hts := atoms_spec (ws := wsX3_shareFor) B.pre
  have hown : s.vm.findClass RX3 = some m.cls := findClass_of_methodNamed B.named
  have hlocks := B.notSynchronized
  have hl := lv_entry ([.ref (ad 0), .int x, .int le, .int b]) (n := 4) (Nat.le_of_ble_eq_true rfl)
  rw [lg_entry_eq]
  generalize (lg_sl ([.ref (ad 0), .int x, .int le, .int b]) ++ List.replicate (4 - (lg_sl ([.ref (ad 0), .int x, .int le, .int b])).length) Slot.unset).toArray = ls at hl ⊢
  have hl : lv_has ls 4 [(0, .ref (ad 0)), (1, .int x), (2, .int le), (3, .int b)] := hl
  refine lv_aload_n hx hb dX3_shareFor_0 rfl (lv_at hl 0 rfl) ?_
  refine lv_iload_n hx hb dX3_shareFor_1 rfl (lv_at hl 1 rfl) ?_
  exact zx_on (kr_X3_mustBeClaim_no l hfl (x := x) (hn := hn) (hk := hk) hx hb hml hown hts hK hP gX3_shareFor_X3_mustBeClaim ⟨Nat.le_of_ble_eq_true rfl, Nat.le_of_ble_eq_true rfl⟩ ⟨Nat.le_of_ble_eq_true rfl, Nat.le_of_ble_eq_true rfl⟩ hl.1 (Nat.le_of_ble_eq_true rfl) dX3_shareFor_2 hT) ht hlocks
section
variable {p : Program} {e : Env} {R : Room} {s : State} {m : MethodId} {args : Array Value} {below : List Frame} {meth : Method} {c : Code} {H : Heap} {locs : List Loc} {cells slots : Nat} {Q : State → Prop} {cc : ByteArray} {pc : Nat} {ls : Array Slot} {rest : List Value} {own : String} {index nL : Nat} {Ts : List Cond} {H0 : Heap} {A0 : Nat → Prop}
theorem kr_X3_shareFor_no (l : Launch) (hfl : l.stackTraces = false) {dC : Nat → ClassId} {dI : Nat → Nat → Nat} {cI cZ : ClassId} {ad : Nat → Nat} {sm fe ex dy : Int32} {gp gc op gr st dl wo : Nat → Int32} {n : Nat} {yc ya ys yd : Nat → Int32} {q : Nat} {zc zp zr zs zf : Nat → Int32} {z : Nat} {zm zt : Int64} {x : Int32} {le : Int32} {b : Int32} (hn : n ≤ 24) (hk : ¬ vp_in x n) (hx : p.tables.exec = Jvm.exec) (hb : c.code = cc) (hml : c.maxLocals = nL) (hown : s.vm.findClass own = some m.cls) (hts : ∀ w ∈ Ts, w.before args s = true) (hK : va_K (dC, dI) vwCl [(cI, .int), (cZ, .boolean)] s) (hP : va_P (dC, dI) vwCl (wC cI cZ ad sm fe ex dy gp gc op gr st dl wo n yc ya ys yd q zc zp zr zs zf z zm zt) H) (hg9 : GoodIn Ts (wsV own index RX3 yX3_shareFor wsX3_shareFor)) (hR9 : 7 + 1 ≤ R.frames ∧ 8 + (4 + 11) + 111 ≤ R.locals) (hc9 : cells + 1 ≤ R.cells ∧ slots + 6 ≤ R.slots) (hl9 : ls.size = nL) (hw9 : (rest.map fun v => v.category).sum ≤ 8) (hdg : decode cc pc = .ok (.invokevirtual index, 3)) (hT : tX (fun _ => False) s H) : vx_Run p l e R s m args below meth c H locs cells slots 1 6 (F0 m pc ls (.int b :: .int le :: .int x :: .ref (ad 0) :: rest)) rest (fun _ _ _ => False) (xT "java/lang/IndexOutOfBoundsException") (fun _ => False) := vx_runV (As := [.int x, .int le, .int b]) (rest := rest) ⟨hx, hb, hml, hown, hts⟩ (c_X3_shareFor_no (dC := dC) (dI := dI) (cI := cI) (cZ := cZ) (ad := ad) (sm := sm) (fe := fe) (ex := ex) (dy := dy) (gp := gp) (gc := gc) (op := op) (gr := gr) (st := st) (dl := dl) (wo := wo) (n := n) (yc := yc) (ya := ya) (ys := ys) (yd := yd) (q := q) (zc := zc) (zp := zp) (zr := zr) (zs := zs) (zf := zf) (z := z) (zm := zm) (zt := zt) (x := x) (le := le) (b := b) l hfl hn hk) (cwV 3 hts hg9 rfl rfl rfl (by decide +kernel) hR9) ⟨fun a U g mk q => ⟨q.1, q.2.1, va_K.moved (u := U) (U := U.calling g mk a) (Vm.Alike.refl U.vm) q.2.2.1, tX.same (u := U) (U := U.calling g mk a) rfl q.2.2.2⟩, rC_0 hK hP, fun U hU hW => ⟨rfl, by rw [hU]; exact hP, va_K.moved hW.alike hK, by rw [hU]; exact tX.warm hW hT⟩⟩ rfl rfl hl9 rfl (lv_room hw9) hdg hc9
end
set_option maxHeartbeats 4000000 in
set_option maxRecDepth 100000 in
theorem c_X3_shareFor_iae (l : Launch) (hfl : l.stackTraces = false) {dC : Nat → ClassId} {dI : Nat → Nat → Nat} {cI cZ : ClassId} {ad : Nat → Nat} {sm fe ex dy : Int32} {gp gc op gr st dl wo : Nat → Int32} {n : Nat} {yc ya ys yd : Nat → Int32} {q : Nat} {zc zp zr zs zf : Nat → Int32} {z : Nat} {zm zt : Int64} {k : Nat} {le : Int32} {b : Int32} (hn : n ≤ 24) (hk : k < n) (h1 : ¬ outN le (nI 0) (nI 100000) = 0) : vx_Met l yX3_shareFor wsX3_shareFor { frames := 7, cells := 1, slots := 6, locals := 111 } (va_Pc [.ref (ad 0), .int (nI k), .int le, .int b] (fun U => va_P (dC, dI) vwCl (wC cI cZ ad sm fe ex dy gp gc op gr st dl wo n yc ya ys yd q zc zp zr zs zf z zm zt) U.heap ∧ va_K (dC, dI) vwCl [(cI, .int), (cZ, .boolean)] U ∧ tX (fun _ => False) U U.heap)) (fun _ _ _ _ => False) (xT "java/lang/IllegalArgumentException") 1 6 (fun _ => False) := by
  refine vx_ofW (cc := cX3_shareFor) (maxL := 4) (ret := (some .int)) (by decide) rfl ?_
  intro p e s m args below meth c s₁ B hml ht hv
  obtain ⟨rfl, hP, hK, hT⟩ := hv
  have hx := B.exec
  have hb := B.bytes
  have hr := B.returns
  have hts := atoms_spec (ws := wsX3_shareFor) B.pre
  have hown : s.vm.findClass RX3 = some m.cls := findClass_of_methodNamed B.named
  have hlocks := B.notSynchronized
  have hl := lv_entry ([.ref (ad 0), .int (nI k), .int le, .int b]) (n := 4) (Nat.le_of_ble_eq_true rfl)
  rw [lg_entry_eq]
  generalize (lg_sl ([.ref (ad 0), .int (nI k), .int le, .int b]) ++ List.replicate (4 - (lg_sl ([.ref (ad 0), .int (nI k), .int le, .int b])).length) Slot.unset).toArray = ls at hl ⊢
  have hl : lv_has ls 4 [(0, .ref (ad 0)), (1, .int (nI k)), (2, .int le), (3, .int b)] := hl
  refine lv_aload_n hx hb dX3_shareFor_0 rfl (lv_at hl 0 rfl) ?_
  refine lv_iload_n hx hb dX3_shareFor_1 rfl (lv_at hl 1 rfl) ?_
  refine k_X3_mustBeClaim_ok l (k := k) (hn := hn) (hk := hk) hx hb hml hown hts hK hP gX3_shareFor_X3_mustBeClaim ⟨Nat.le_of_ble_eq_true rfl, Nat.le_of_ble_eq_true rfl⟩ ⟨Nat.le_of_ble_eq_true rfl, Nat.le_of_ble_eq_true rfl⟩ hl.1 (Nat.le_of_ble_eq_true rfl) dX3_shareFor_2 ?_
  refine lv_aload_n hx hb dX3_shareFor_5 rfl (lv_at hl 0 rfl) ?_
  refine lv_iload_n hx hb dX3_shareFor_6 rfl (lv_at hl 2 rfl) ?_
  exact zx_on (kr_X3_mustBeLeast_no l hfl (x := le) (h1 := h1) hx hb hml hown hts hK hP gX3_shareFor_X3_mustBeLeast ⟨Nat.le_of_ble_eq_true rfl, Nat.le_of_ble_eq_true rfl⟩ ⟨Nat.le_of_ble_eq_true rfl, Nat.le_of_ble_eq_true rfl⟩ hl.1 (Nat.le_of_ble_eq_true rfl) dX3_shareFor_7 hT) ht hlocks
section
variable {p : Program} {e : Env} {R : Room} {s : State} {m : MethodId} {args : Array Value} {below : List Frame} {meth : Method} {c : Code} {H : Heap} {locs : List Loc} {cells slots : Nat} {Q : State → Prop} {cc : ByteArray} {pc : Nat} {ls : Array Slot} {rest : List Value} {own : String} {index nL : Nat} {Ts : List Cond} {H0 : Heap} {A0 : Nat → Prop}
theorem kr_X3_shareFor_iae (l : Launch) (hfl : l.stackTraces = false) {dC : Nat → ClassId} {dI : Nat → Nat → Nat} {cI cZ : ClassId} {ad : Nat → Nat} {sm fe ex dy : Int32} {gp gc op gr st dl wo : Nat → Int32} {n : Nat} {yc ya ys yd : Nat → Int32} {q : Nat} {zc zp zr zs zf : Nat → Int32} {z : Nat} {zm zt : Int64} {k : Nat} {le : Int32} {b : Int32} (hn : n ≤ 24) (hk : k < n) (h1 : ¬ outN le (nI 0) (nI 100000) = 0) (hx : p.tables.exec = Jvm.exec) (hb : c.code = cc) (hml : c.maxLocals = nL) (hown : s.vm.findClass own = some m.cls) (hts : ∀ w ∈ Ts, w.before args s = true) (hK : va_K (dC, dI) vwCl [(cI, .int), (cZ, .boolean)] s) (hP : va_P (dC, dI) vwCl (wC cI cZ ad sm fe ex dy gp gc op gr st dl wo n yc ya ys yd q zc zp zr zs zf z zm zt) H) (hg9 : GoodIn Ts (wsV own index RX3 yX3_shareFor wsX3_shareFor)) (hR9 : 7 + 1 ≤ R.frames ∧ 8 + (4 + 11) + 111 ≤ R.locals) (hc9 : cells + 1 ≤ R.cells ∧ slots + 6 ≤ R.slots) (hl9 : ls.size = nL) (hw9 : (rest.map fun v => v.category).sum ≤ 8) (hdg : decode cc pc = .ok (.invokevirtual index, 3)) (hT : tX (fun _ => False) s H) : vx_Run p l e R s m args below meth c H locs cells slots 1 6 (F0 m pc ls (.int b :: .int le :: .int (nI k) :: .ref (ad 0) :: rest)) rest (fun _ _ _ => False) (xT "java/lang/IllegalArgumentException") (fun _ => False) := vx_runV (As := [.int (nI k), .int le, .int b]) (rest := rest) ⟨hx, hb, hml, hown, hts⟩ (c_X3_shareFor_iae (dC := dC) (dI := dI) (cI := cI) (cZ := cZ) (ad := ad) (sm := sm) (fe := fe) (ex := ex) (dy := dy) (gp := gp) (gc := gc) (op := op) (gr := gr) (st := st) (dl := dl) (wo := wo) (n := n) (yc := yc) (ya := ya) (ys := ys) (yd := yd) (q := q) (zc := zc) (zp := zp) (zr := zr) (zs := zs) (zf := zf) (z := z) (zm := zm) (zt := zt) (k := k) (le := le) (b := b) l hfl hn hk h1) (cwV 3 hts hg9 rfl rfl rfl (by decide +kernel) hR9) ⟨fun a U g mk q => ⟨q.1, q.2.1, va_K.moved (u := U) (U := U.calling g mk a) (Vm.Alike.refl U.vm) q.2.2.1, tX.same (u := U) (U := U.calling g mk a) rfl q.2.2.2⟩, rC_0 hK hP, fun U hU hW => ⟨rfl, by rw [hU]; exact hP, va_K.moved hW.alike hK, by rw [hU]; exact tX.warm hW hT⟩⟩ rfl rfl hl9 rfl (lv_room hw9) hdg hc9
end
set_option maxHeartbeats 4000000 in
set_option maxRecDepth 100000 in
theorem c_X3_shareOf_ok (l : Launch) {dC : Nat → ClassId} {dI : Nat → Nat → Nat} {cI cZ : ClassId} {ad : Nat → Nat} {sm fe ex dy : Int32} {gp gc op gr st dl wo : Nat → Int32} {n : Nat} {yc ya ys yd : Nat → Int32} {q : Nat} {zc zp zr zs zf : Nat → Int32} {z : Nat} {zm zt : Int64} {k : Nat} {le : Nat} (hI : iwC ad) (hn : n ≤ 24) (hq : q ≤ 100) (hk : k < n) (hV : claimV gp gc gr yc ya ys q n) (hL : leftV sm fe ex ya ys q) (hle : le ≤ 100000) (h1 : outN (nI le) (nI 0) (nI 100000) = 0) : Met l yX3_shareOf wsX3_shareOf { frames := 6, cells := 0, slots := 0, locals := 147 } (va_Pc [.ref (ad 0), .int (nI k), .int (nI le)] (fun U => va_P (dC, dI) vwCl (wC cI cZ ad sm fe ex dy gp gc op gr st dl wo n yc ya ys yd q zc zp zr zs zf z zm zt) U.heap ∧ va_K (dC, dI) vwCl [(cI, .int), (cZ, .boolean)] U)) (va_Qi (fun r (u9 : (Nat → Int32) × (Nat → Int32) × (Nat → Int32) × (Nat → Int32) × (Nat → Int32) × Nat × Int64 × Int64) => r = nI (shK sm fe ex gp gc gr st yc ya ys n q le k) ∧ (True)) (fun u9 t => va_P (dC, dI) vwCl (wC cI cZ ad sm fe ex dy gp gc op gr st dl wo n yc ya ys yd q u9.1 u9.2.1 u9.2.2.1 u9.2.2.2.1 u9.2.2.2.2.1 u9.2.2.2.2.2.1 u9.2.2.2.2.2.2.1 u9.2.2.2.2.2.2.2) t.heap) (awC ad)) 0 0 (awC ad) := by
  refine Met.ofW (cc := cX3_shareOf) (maxL := 3) (ret := (some .int)) (by decide) rfl ?_
  intro p e s m args below meth c s₁ B hml hv
  obtain ⟨rfl, hP, hK⟩ := hv
  have hx := B.exec
  have hb := B.bytes
  have hr := B.returns
  have hts := atoms_spec (ws := wsX3_shareOf) B.pre
  have hown : s.vm.findClass RX3 = some m.cls := findClass_of_methodNamed B.named
  have hlocks := B.notSynchronized
  have hS : va_S (awC ad) s.heap s.heap [] := va_S.rf
  have hl := lv_entry ([.ref (ad 0), .int (nI k), .int (nI le)]) (n := 3) (Nat.le_of_ble_eq_true rfl)
  rw [lg_entry_eq]
  generalize (lg_sl ([.ref (ad 0), .int (nI k), .int (nI le)]) ++ List.replicate (3 - (lg_sl ([.ref (ad 0), .int (nI k), .int (nI le)])).length) Slot.unset).toArray = ls at hl ⊢
  have hl : lv_has ls 3 [(0, .ref (ad 0)), (1, .int (nI k)), (2, .int (nI le))] := hl
  refine lv_aload_n hx hb dX3_shareOf_0 rfl (lv_at hl 0 rfl) ?_
  refine lv_iload_n hx hb dX3_shareOf_1 rfl (lv_at hl 1 rfl) ?_
  refine lv_iload_n hx hb dX3_shareOf_2 rfl (lv_at hl 2 rfl) ?_
  refine lv_iconst (v := nI 0) hx hb dX3_shareOf_3 (by decide) ?_
  refine k_X3_shareFor l (k := k) (le := le) (b := nI 0) (hn := hn) (hq := hq) (hk := hk) (hV := hV) (hL := hL) (hle := hle) (h1 := h1) hx hb hml hown hts hK hP gX3_shareOf_X3_shareFor ⟨Nat.le_of_ble_eq_true rfl, Nat.le_of_ble_eq_true rfl⟩ ⟨Nat.le_of_ble_eq_true rfl, Nat.le_of_ble_eq_true rfl⟩ hl.1 (Nat.le_of_ble_eq_true rfl) dX3_shareOf_4 hI (fun _ h => h) hS (fun u9 hu9 H locs hP hS _ => ?_)
  obtain ⟨zc3, zp3, zr3, zs3, zf3, z3, zm3, zt3⟩ := u9
  have hP : va_P (dC, dI) vwCl (wC cI cZ ad sm fe ex dy gp gc op gr st dl wo n yc ya ys yd q zc3 zp3 zr3 zs3 zf3 z3 zm3 zt3) H := hP
  have hu_4 : True := hu9
  exact W.iret (v := nI (shK sm fe ex gp gc gr st yc ya ys n q le k)) hx hb hr (fun t ht hW => ⟨⟨nI (shK sm fe ex gp gc gr st yc ya ys n q le k), (zc3, zp3, zr3, zs3, zf3, z3, zm3, zt3), rfl, ⟨rfl, trivial⟩, by (try dsimp only); rw [ht]; exact hP⟩, hS.F ht⟩) hS.2.2 dX3_shareOf_7
section
variable {p : Program} {e : Env} {R : Room} {s : State} {m : MethodId} {args : Array Value} {below : List Frame} {meth : Method} {c : Code} {H : Heap} {locs : List Loc} {cells slots : Nat} {Q : State → Prop} {cc : ByteArray} {pc : Nat} {ls : Array Slot} {rest : List Value} {own : String} {index nL : Nat} {Ts : List Cond} {H0 : Heap} {A0 : Nat → Prop}
theorem k_X3_shareOf_ok (l : Launch) {dC : Nat → ClassId} {dI : Nat → Nat → Nat} {cI cZ : ClassId} {ad : Nat → Nat} {sm fe ex dy : Int32} {gp gc op gr st dl wo : Nat → Int32} {n : Nat} {yc ya ys yd : Nat → Int32} {q : Nat} {zc zp zr zs zf : Nat → Int32} {z : Nat} {zm zt : Int64} {k : Nat} {le : Nat} (hn : n ≤ 24) (hq : q ≤ 100) (hk : k < n) (hV : claimV gp gc gr yc ya ys q n) (hL : leftV sm fe ex ya ys q) (hle : le ≤ 100000) (h1 : outN (nI le) (nI 0) (nI 100000) = 0) (hx : p.tables.exec = Jvm.exec) (hb : c.code = cc) (hml : c.maxLocals = nL) (hown : s.vm.findClass own = some m.cls) (hts : ∀ w ∈ Ts, w.before args s = true) (hK : va_K (dC, dI) vwCl [(cI, .int), (cZ, .boolean)] s) (hP : va_P (dC, dI) vwCl (wC cI cZ ad sm fe ex dy gp gc op gr st dl wo n yc ya ys yd q zc zp zr zs zf z zm zt) H) (hg9 : GoodIn Ts (wsV own index RX3 yX3_shareOf wsX3_shareOf)) (hR9 : 6 + 1 ≤ R.frames ∧ 8 + (3 + 11) + 147 ≤ R.locals) (hc9 : cells ≤ R.cells ∧ slots ≤ R.slots) (hl9 : ls.size = nL) (hw9 : (rest.map fun v => v.category).sum ≤ 8) (hdg : decode cc pc = .ok (.invokevirtual index, 3)) (hI : iwC ad) (hA : ∀ x, awC ad x → A0 x) (hS : va_S A0 H0 H locs) (kk : ∀ (u9 : (Nat → Int32) × (Nat → Int32) × (Nat → Int32) × (Nat → Int32) × (Nat → Int32) × Nat × Int64 × Int64), (True) → ∀ (H1 : Heap) (locs1 : List Loc), va_P (dC, dI) vwCl (wC cI cZ ad sm fe ex dy gp gc op gr st dl wo n yc ya ys yd q u9.1 u9.2.1 u9.2.2.1 u9.2.2.2.1 u9.2.2.2.2.1 u9.2.2.2.2.2.1 u9.2.2.2.2.2.2.1 u9.2.2.2.2.2.2.2) H1 → va_S A0 H0 H1 locs1 → (∀ q : Nat, q < H.size → ¬ awC ad q → H1[q]? = H[q]?) → W p l e R s m args below meth c H1 locs1 cells slots Q (F0 m (pc + 3) ls (.int (nI (shK sm fe ex gp gc gr st yc ya ys n q le k)) :: rest))) : W p l e R s m args below meth c H locs cells slots Q (F0 m pc ls (.int (nI le) :: .int (nI k) :: .ref (ad 0) :: rest)) := va_calli (va_runV (As := [.int (nI k), .int (nI le)]) (rest := rest) ⟨hx, hb, hml, hown, hts⟩ (c_X3_shareOf_ok (dC := dC) (dI := dI) (cI := cI) (cZ := cZ) (ad := ad) (sm := sm) (fe := fe) (ex := ex) (dy := dy) (gp := gp) (gc := gc) (op := op) (gr := gr) (st := st) (dl := dl) (wo := wo) (n := n) (yc := yc) (ya := ya) (ys := ys) (yd := yd) (q := q) (zc := zc) (zp := zp) (zr := zr) (zs := zs) (zf := zf) (z := z) (zm := zm) (zt := zt) (k := k) (le := le) l hI hn hq hk hV hL hle h1) (cwV 2 hts hg9 rfl rfl rfl (by decide +kernel) hR9) ⟨fun a U g mk q => ⟨q.1, q.2.1, va_K.moved (u := U) (U := U.calling g mk a) (Vm.Alike.refl U.vm) q.2.2⟩, rC_0 hK hP, fun U hU hW => ⟨rfl, by rw [hU]; exact hP, va_K.moved hW.alike hK⟩⟩ rfl rfl hl9 rfl (lv_room hw9) hdg hc9) hS (fun q _ h => hA q h) hA (fun r u t H1 locs1 ht _ hu hB hz hk hS1 => by obtain ⟨h9, hu⟩ := hu; subst h9; exact kk u hu H1 locs1 (by rw [ht] at hB; exact hB) hS1 hk)
end
set_option maxHeartbeats 4000000 in
set_option maxRecDepth 100000 in
theorem c_X3_shareOf_no (l : Launch) (hfl : l.stackTraces = false) {dC : Nat → ClassId} {dI : Nat → Nat → Nat} {cI cZ : ClassId} {ad : Nat → Nat} {sm fe ex dy : Int32} {gp gc op gr st dl wo : Nat → Int32} {n : Nat} {yc ya ys yd : Nat → Int32} {q : Nat} {zc zp zr zs zf : Nat → Int32} {z : Nat} {zm zt : Int64} {x : Int32} {le : Int32} (hn : n ≤ 24) (hk : ¬ vp_in x n) : vx_Met l yX3_shareOf wsX3_shareOf { frames := 8, cells := 1, slots := 6, locals := 134 } (va_Pc [.ref (ad 0), .int x, .int le] (fun U => va_P (dC, dI) vwCl (wC cI cZ ad sm fe ex dy gp gc op gr st dl wo n yc ya ys yd q zc zp zr zs zf z zm zt) U.heap ∧ va_K (dC, dI) vwCl [(cI, .int), (cZ, .boolean)] U ∧ tX (fun _ => False) U U.heap)) (fun _ _ _ _ => False) (xT "java/lang/IndexOutOfBoundsException") 1 6 (fun _ => False) := by
  refine vx_ofW (cc := cX3_shareOf) (maxL := 3) (ret := (some .int)) (by decide) rfl ?_
  intro p e s m args below meth c s₁ B hml ht hv
  obtain ⟨rfl, hP, hK, hT⟩ := hv
  have hx := B.exec
  have hb := B.bytes
  have hr := B.returns
  have hts := atoms_spec (ws := wsX3_shareOf) B.pre
  have hown : s.vm.findClass RX3 = some m.cls := findClass_of_methodNamed B.named
  have hlocks := B.notSynchronized
  have hl := lv_entry ([.ref (ad 0), .int x, .int le]) (n := 3) (Nat.le_of_ble_eq_true rfl)
  rw [lg_entry_eq]
  generalize (lg_sl ([.ref (ad 0), .int x, .int le]) ++ List.replicate (3 - (lg_sl ([.ref (ad 0), .int x, .int le])).length) Slot.unset).toArray = ls at hl ⊢
  have hl : lv_has ls 3 [(0, .ref (ad 0)), (1, .int x), (2, .int le)] := hl
  refine lv_aload_n hx hb dX3_shareOf_0 rfl (lv_at hl 0 rfl) ?_
  refine lv_iload_n hx hb dX3_shareOf_1 rfl (lv_at hl 1 rfl) ?_
  refine lv_iload_n hx hb dX3_shareOf_2 rfl (lv_at hl 2 rfl) ?_
  refine lv_iconst (v := nI 0) hx hb dX3_shareOf_3 (by decide) ?_
  exact zx_on (kr_X3_shareFor_no l hfl (x := x) (le := le) (b := nI 0) (hn := hn) (hk := hk) hx hb hml hown hts hK hP gX3_shareOf_X3_shareFor ⟨Nat.le_of_ble_eq_true rfl, Nat.le_of_ble_eq_true rfl⟩ ⟨Nat.le_of_ble_eq_true rfl, Nat.le_of_ble_eq_true rfl⟩ hl.1 (Nat.le_of_ble_eq_true rfl) dX3_shareOf_4 hT) ht hlocks
section
variable {p : Program} {e : Env} {R : Room} {s : State} {m : MethodId} {args : Array Value} {below : List Frame} {meth : Method} {c : Code} {H : Heap} {locs : List Loc} {cells slots : Nat} {Q : State → Prop} {cc : ByteArray} {pc : Nat} {ls : Array Slot} {rest : List Value} {own : String} {index nL : Nat} {Ts : List Cond} {H0 : Heap} {A0 : Nat → Prop}
theorem kr_X3_shareOf_no (l : Launch) (hfl : l.stackTraces = false) {dC : Nat → ClassId} {dI : Nat → Nat → Nat} {cI cZ : ClassId} {ad : Nat → Nat} {sm fe ex dy : Int32} {gp gc op gr st dl wo : Nat → Int32} {n : Nat} {yc ya ys yd : Nat → Int32} {q : Nat} {zc zp zr zs zf : Nat → Int32} {z : Nat} {zm zt : Int64} {x : Int32} {le : Int32} (hn : n ≤ 24) (hk : ¬ vp_in x n) (hx : p.tables.exec = Jvm.exec) (hb : c.code = cc) (hml : c.maxLocals = nL) (hown : s.vm.findClass own = some m.cls) (hts : ∀ w ∈ Ts, w.before args s = true) (hK : va_K (dC, dI) vwCl [(cI, .int), (cZ, .boolean)] s) (hP : va_P (dC, dI) vwCl (wC cI cZ ad sm fe ex dy gp gc op gr st dl wo n yc ya ys yd q zc zp zr zs zf z zm zt) H) (hg9 : GoodIn Ts (wsV own index RX3 yX3_shareOf wsX3_shareOf)) (hR9 : 8 + 1 ≤ R.frames ∧ 8 + (3 + 11) + 134 ≤ R.locals) (hc9 : cells + 1 ≤ R.cells ∧ slots + 6 ≤ R.slots) (hl9 : ls.size = nL) (hw9 : (rest.map fun v => v.category).sum ≤ 8) (hdg : decode cc pc = .ok (.invokevirtual index, 3)) (hT : tX (fun _ => False) s H) : vx_Run p l e R s m args below meth c H locs cells slots 1 6 (F0 m pc ls (.int le :: .int x :: .ref (ad 0) :: rest)) rest (fun _ _ _ => False) (xT "java/lang/IndexOutOfBoundsException") (fun _ => False) := vx_runV (As := [.int x, .int le]) (rest := rest) ⟨hx, hb, hml, hown, hts⟩ (c_X3_shareOf_no (dC := dC) (dI := dI) (cI := cI) (cZ := cZ) (ad := ad) (sm := sm) (fe := fe) (ex := ex) (dy := dy) (gp := gp) (gc := gc) (op := op) (gr := gr) (st := st) (dl := dl) (wo := wo) (n := n) (yc := yc) (ya := ya) (ys := ys) (yd := yd) (q := q) (zc := zc) (zp := zp) (zr := zr) (zs := zs) (zf := zf) (z := z) (zm := zm) (zt := zt) (x := x) (le := le) l hfl hn hk) (cwV 2 hts hg9 rfl rfl rfl (by decide +kernel) hR9) ⟨fun a U g mk q => ⟨q.1, q.2.1, va_K.moved (u := U) (U := U.calling g mk a) (Vm.Alike.refl U.vm) q.2.2.1, tX.same (u := U) (U := U.calling g mk a) rfl q.2.2.2⟩, rC_0 hK hP, fun U hU hW => ⟨rfl, by rw [hU]; exact hP, va_K.moved hW.alike hK, by rw [hU]; exact tX.warm hW hT⟩⟩ rfl rfl hl9 rfl (lv_room hw9) hdg hc9
end
set_option maxHeartbeats 4000000 in
set_option maxRecDepth 100000 in
theorem c_X3_shareOf_iae (l : Launch) (hfl : l.stackTraces = false) {dC : Nat → ClassId} {dI : Nat → Nat → Nat} {cI cZ : ClassId} {ad : Nat → Nat} {sm fe ex dy : Int32} {gp gc op gr st dl wo : Nat → Int32} {n : Nat} {yc ya ys yd : Nat → Int32} {q : Nat} {zc zp zr zs zf : Nat → Int32} {z : Nat} {zm zt : Int64} {k : Nat} {le : Int32} (hn : n ≤ 24) (hk : k < n) (h1 : ¬ outN le (nI 0) (nI 100000) = 0) : vx_Met l yX3_shareOf wsX3_shareOf { frames := 8, cells := 1, slots := 6, locals := 134 } (va_Pc [.ref (ad 0), .int (nI k), .int le] (fun U => va_P (dC, dI) vwCl (wC cI cZ ad sm fe ex dy gp gc op gr st dl wo n yc ya ys yd q zc zp zr zs zf z zm zt) U.heap ∧ va_K (dC, dI) vwCl [(cI, .int), (cZ, .boolean)] U ∧ tX (fun _ => False) U U.heap)) (fun _ _ _ _ => False) (xT "java/lang/IllegalArgumentException") 1 6 (fun _ => False) := by
  refine vx_ofW (cc := cX3_shareOf) (maxL := 3) (ret := (some .int)) (by decide) rfl ?_
  intro p e s m args below meth c s₁ B hml ht hv
  obtain ⟨rfl, hP, hK, hT⟩ := hv
  have hx := B.exec
  have hb := B.bytes
  have hr := B.returns
  have hts := atoms_spec (ws := wsX3_shareOf) B.pre
  have hown : s.vm.findClass RX3 = some m.cls := findClass_of_methodNamed B.named
  have hlocks := B.notSynchronized
  have hl := lv_entry ([.ref (ad 0), .int (nI k), .int le]) (n := 3) (Nat.le_of_ble_eq_true rfl)
  rw [lg_entry_eq]
  generalize (lg_sl ([.ref (ad 0), .int (nI k), .int le]) ++ List.replicate (3 - (lg_sl ([.ref (ad 0), .int (nI k), .int le])).length) Slot.unset).toArray = ls at hl ⊢
  have hl : lv_has ls 3 [(0, .ref (ad 0)), (1, .int (nI k)), (2, .int le)] := hl
  refine lv_aload_n hx hb dX3_shareOf_0 rfl (lv_at hl 0 rfl) ?_
  refine lv_iload_n hx hb dX3_shareOf_1 rfl (lv_at hl 1 rfl) ?_
  refine lv_iload_n hx hb dX3_shareOf_2 rfl (lv_at hl 2 rfl) ?_
  refine lv_iconst (v := nI 0) hx hb dX3_shareOf_3 (by decide) ?_
  exact zx_on (kr_X3_shareFor_iae l hfl (k := k) (le := le) (b := nI 0) (hn := hn) (hk := hk) (h1 := h1) hx hb hml hown hts hK hP gX3_shareOf_X3_shareFor ⟨Nat.le_of_ble_eq_true rfl, Nat.le_of_ble_eq_true rfl⟩ ⟨Nat.le_of_ble_eq_true rfl, Nat.le_of_ble_eq_true rfl⟩ hl.1 (Nat.le_of_ble_eq_true rfl) dX3_shareOf_4 hT) ht hlocks
section
variable {p : Program} {e : Env} {R : Room} {s : State} {m : MethodId} {args : Array Value} {below : List Frame} {meth : Method} {c : Code} {H : Heap} {locs : List Loc} {cells slots : Nat} {Q : State → Prop} {cc : ByteArray} {pc : Nat} {ls : Array Slot} {rest : List Value} {own : String} {index nL : Nat} {Ts : List Cond} {H0 : Heap} {A0 : Nat → Prop}
theorem kr_X3_shareOf_iae (l : Launch) (hfl : l.stackTraces = false) {dC : Nat → ClassId} {dI : Nat → Nat → Nat} {cI cZ : ClassId} {ad : Nat → Nat} {sm fe ex dy : Int32} {gp gc op gr st dl wo : Nat → Int32} {n : Nat} {yc ya ys yd : Nat → Int32} {q : Nat} {zc zp zr zs zf : Nat → Int32} {z : Nat} {zm zt : Int64} {k : Nat} {le : Int32} (hn : n ≤ 24) (hk : k < n) (h1 : ¬ outN le (nI 0) (nI 100000) = 0) (hx : p.tables.exec = Jvm.exec) (hb : c.code = cc) (hml : c.maxLocals = nL) (hown : s.vm.findClass own = some m.cls) (hts : ∀ w ∈ Ts, w.before args s = true) (hK : va_K (dC, dI) vwCl [(cI, .int), (cZ, .boolean)] s) (hP : va_P (dC, dI) vwCl (wC cI cZ ad sm fe ex dy gp gc op gr st dl wo n yc ya ys yd q zc zp zr zs zf z zm zt) H) (hg9 : GoodIn Ts (wsV own index RX3 yX3_shareOf wsX3_shareOf)) (hR9 : 8 + 1 ≤ R.frames ∧ 8 + (3 + 11) + 134 ≤ R.locals) (hc9 : cells + 1 ≤ R.cells ∧ slots + 6 ≤ R.slots) (hl9 : ls.size = nL) (hw9 : (rest.map fun v => v.category).sum ≤ 8) (hdg : decode cc pc = .ok (.invokevirtual index, 3)) (hT : tX (fun _ => False) s H) : vx_Run p l e R s m args below meth c H locs cells slots 1 6 (F0 m pc ls (.int le :: .int (nI k) :: .ref (ad 0) :: rest)) rest (fun _ _ _ => False) (xT "java/lang/IllegalArgumentException") (fun _ => False) := vx_runV (As := [.int (nI k), .int le]) (rest := rest) ⟨hx, hb, hml, hown, hts⟩ (c_X3_shareOf_iae (dC := dC) (dI := dI) (cI := cI) (cZ := cZ) (ad := ad) (sm := sm) (fe := fe) (ex := ex) (dy := dy) (gp := gp) (gc := gc) (op := op) (gr := gr) (st := st) (dl := dl) (wo := wo) (n := n) (yc := yc) (ya := ya) (ys := ys) (yd := yd) (q := q) (zc := zc) (zp := zp) (zr := zr) (zs := zs) (zf := zf) (z := z) (zm := zm) (zt := zt) (k := k) (le := le) l hfl hn hk h1) (cwV 2 hts hg9 rfl rfl rfl (by decide +kernel) hR9) ⟨fun a U g mk q => ⟨q.1, q.2.1, va_K.moved (u := U) (U := U.calling g mk a) (Vm.Alike.refl U.vm) q.2.2.1, tX.same (u := U) (U := U.calling g mk a) rfl q.2.2.2⟩, rC_0 hK hP, fun U hU hW => ⟨rfl, by rw [hU]; exact hP, va_K.moved hW.alike hK, by rw [hU]; exact tX.warm hW hT⟩⟩ rfl rfl hl9 rfl (lv_room hw9) hdg hc9
end
set_option maxHeartbeats 4000000 in
set_option maxRecDepth 100000 in
theorem c_X3_shareBySorting_ok (l : Launch) {dC : Nat → ClassId} {dI : Nat → Nat → Nat} {cI cZ : ClassId} {ad : Nat → Nat} {sm fe ex dy : Int32} {gp gc op gr st dl wo : Nat → Int32} {n : Nat} {yc ya ys yd : Nat → Int32} {q : Nat} {zc zp zr zs zf : Nat → Int32} {z : Nat} {zm zt : Int64} {k : Nat} {le : Nat} (hI : iwC ad) (hn : n ≤ 24) (hq : q ≤ 100) (hk : k < n) (hV : claimV gp gc gr yc ya ys q n) (hL : leftV sm fe ex ya ys q) (hle : le ≤ 100000) (h1 : outN (nI le) (nI 0) (nI 100000) = 0) : Met l yX3_shareBySorting wsX3_shareBySorting { frames := 6, cells := 0, slots := 0, locals := 147 } (va_Pc [.ref (ad 0), .int (nI k), .int (nI le)] (fun U => va_P (dC, dI) vwCl (wC cI cZ ad sm fe ex dy gp gc op gr st dl wo n yc ya ys yd q zc zp zr zs zf z zm zt) U.heap ∧ va_K (dC, dI) vwCl [(cI, .int), (cZ, .boolean)] U)) (va_Qi (fun r (u9 : (Nat → Int32) × (Nat → Int32) × (Nat → Int32) × (Nat → Int32) × (Nat → Int32) × Nat × Int64 × Int64) => r = nI (shK sm fe ex gp gc gr st yc ya ys n q le k) ∧ (True)) (fun u9 t => va_P (dC, dI) vwCl (wC cI cZ ad sm fe ex dy gp gc op gr st dl wo n yc ya ys yd q u9.1 u9.2.1 u9.2.2.1 u9.2.2.2.1 u9.2.2.2.2.1 u9.2.2.2.2.2.1 u9.2.2.2.2.2.2.1 u9.2.2.2.2.2.2.2) t.heap) (awC ad)) 0 0 (awC ad) := by
  refine Met.ofW (cc := cX3_shareBySorting) (maxL := 3) (ret := (some .int)) (by decide) rfl ?_
  intro p e s m args below meth c s₁ B hml hv
  obtain ⟨rfl, hP, hK⟩ := hv
  have hx := B.exec
  have hb := B.bytes
  have hr := B.returns
  have hts := atoms_spec (ws := wsX3_shareBySorting) B.pre
  have hown : s.vm.findClass RX3 = some m.cls := findClass_of_methodNamed B.named
  have hlocks := B.notSynchronized
  have hS : va_S (awC ad) s.heap s.heap [] := va_S.rf
  have hl := lv_entry ([.ref (ad 0), .int (nI k), .int (nI le)]) (n := 3) (Nat.le_of_ble_eq_true rfl)
  rw [lg_entry_eq]
  generalize (lg_sl ([.ref (ad 0), .int (nI k), .int (nI le)]) ++ List.replicate (3 - (lg_sl ([.ref (ad 0), .int (nI k), .int (nI le)])).length) Slot.unset).toArray = ls at hl ⊢
  have hl : lv_has ls 3 [(0, .ref (ad 0)), (1, .int (nI k)), (2, .int (nI le))] := hl
  refine lv_aload_n hx hb dX3_shareBySorting_0 rfl (lv_at hl 0 rfl) ?_
  refine lv_iload_n hx hb dX3_shareBySorting_1 rfl (lv_at hl 1 rfl) ?_
  refine lv_iload_n hx hb dX3_shareBySorting_2 rfl (lv_at hl 2 rfl) ?_
  refine lv_iconst (v := nI 1) hx hb dX3_shareBySorting_3 (by decide) ?_
  refine k_X3_shareFor l (k := k) (le := le) (b := nI 1) (hn := hn) (hq := hq) (hk := hk) (hV := hV) (hL := hL) (hle := hle) (h1 := h1) hx hb hml hown hts hK hP gX3_shareBySorting_X3_shareFor ⟨Nat.le_of_ble_eq_true rfl, Nat.le_of_ble_eq_true rfl⟩ ⟨Nat.le_of_ble_eq_true rfl, Nat.le_of_ble_eq_true rfl⟩ hl.1 (Nat.le_of_ble_eq_true rfl) dX3_shareBySorting_4 hI (fun _ h => h) hS (fun u9 hu9 H locs hP hS _ => ?_)
  obtain ⟨zc3, zp3, zr3, zs3, zf3, z3, zm3, zt3⟩ := u9
  have hP : va_P (dC, dI) vwCl (wC cI cZ ad sm fe ex dy gp gc op gr st dl wo n yc ya ys yd q zc3 zp3 zr3 zs3 zf3 z3 zm3 zt3) H := hP
  have hu_4 : True := hu9
  exact W.iret (v := nI (shK sm fe ex gp gc gr st yc ya ys n q le k)) hx hb hr (fun t ht hW => ⟨⟨nI (shK sm fe ex gp gc gr st yc ya ys n q le k), (zc3, zp3, zr3, zs3, zf3, z3, zm3, zt3), rfl, ⟨rfl, trivial⟩, by (try dsimp only); rw [ht]; exact hP⟩, hS.F ht⟩) hS.2.2 dX3_shareBySorting_7
section
variable {p : Program} {e : Env} {R : Room} {s : State} {m : MethodId} {args : Array Value} {below : List Frame} {meth : Method} {c : Code} {H : Heap} {locs : List Loc} {cells slots : Nat} {Q : State → Prop} {cc : ByteArray} {pc : Nat} {ls : Array Slot} {rest : List Value} {own : String} {index nL : Nat} {Ts : List Cond} {H0 : Heap} {A0 : Nat → Prop}
theorem k_X3_shareBySorting_ok (l : Launch) {dC : Nat → ClassId} {dI : Nat → Nat → Nat} {cI cZ : ClassId} {ad : Nat → Nat} {sm fe ex dy : Int32} {gp gc op gr st dl wo : Nat → Int32} {n : Nat} {yc ya ys yd : Nat → Int32} {q : Nat} {zc zp zr zs zf : Nat → Int32} {z : Nat} {zm zt : Int64} {k : Nat} {le : Nat} (hn : n ≤ 24) (hq : q ≤ 100) (hk : k < n) (hV : claimV gp gc gr yc ya ys q n) (hL : leftV sm fe ex ya ys q) (hle : le ≤ 100000) (h1 : outN (nI le) (nI 0) (nI 100000) = 0) (hx : p.tables.exec = Jvm.exec) (hb : c.code = cc) (hml : c.maxLocals = nL) (hown : s.vm.findClass own = some m.cls) (hts : ∀ w ∈ Ts, w.before args s = true) (hK : va_K (dC, dI) vwCl [(cI, .int), (cZ, .boolean)] s) (hP : va_P (dC, dI) vwCl (wC cI cZ ad sm fe ex dy gp gc op gr st dl wo n yc ya ys yd q zc zp zr zs zf z zm zt) H) (hg9 : GoodIn Ts (wsV own index RX3 yX3_shareBySorting wsX3_shareBySorting)) (hR9 : 6 + 1 ≤ R.frames ∧ 8 + (3 + 11) + 147 ≤ R.locals) (hc9 : cells ≤ R.cells ∧ slots ≤ R.slots) (hl9 : ls.size = nL) (hw9 : (rest.map fun v => v.category).sum ≤ 8) (hdg : decode cc pc = .ok (.invokevirtual index, 3)) (hI : iwC ad) (hA : ∀ x, awC ad x → A0 x) (hS : va_S A0 H0 H locs) (kk : ∀ (u9 : (Nat → Int32) × (Nat → Int32) × (Nat → Int32) × (Nat → Int32) × (Nat → Int32) × Nat × Int64 × Int64), (True) → ∀ (H1 : Heap) (locs1 : List Loc), va_P (dC, dI) vwCl (wC cI cZ ad sm fe ex dy gp gc op gr st dl wo n yc ya ys yd q u9.1 u9.2.1 u9.2.2.1 u9.2.2.2.1 u9.2.2.2.2.1 u9.2.2.2.2.2.1 u9.2.2.2.2.2.2.1 u9.2.2.2.2.2.2.2) H1 → va_S A0 H0 H1 locs1 → (∀ q : Nat, q < H.size → ¬ awC ad q → H1[q]? = H[q]?) → W p l e R s m args below meth c H1 locs1 cells slots Q (F0 m (pc + 3) ls (.int (nI (shK sm fe ex gp gc gr st yc ya ys n q le k)) :: rest))) : W p l e R s m args below meth c H locs cells slots Q (F0 m pc ls (.int (nI le) :: .int (nI k) :: .ref (ad 0) :: rest)) := va_calli (va_runV (As := [.int (nI k), .int (nI le)]) (rest := rest) ⟨hx, hb, hml, hown, hts⟩ (c_X3_shareBySorting_ok (dC := dC) (dI := dI) (cI := cI) (cZ := cZ) (ad := ad) (sm := sm) (fe := fe) (ex := ex) (dy := dy) (gp := gp) (gc := gc) (op := op) (gr := gr) (st := st) (dl := dl) (wo := wo) (n := n) (yc := yc) (ya := ya) (ys := ys) (yd := yd) (q := q) (zc := zc) (zp := zp) (zr := zr) (zs := zs) (zf := zf) (z := z) (zm := zm) (zt := zt) (k := k) (le := le) l hI hn hq hk hV hL hle h1) (cwV 2 hts hg9 rfl rfl rfl (by decide +kernel) hR9) ⟨fun a U g mk q => ⟨q.1, q.2.1, va_K.moved (u := U) (U := U.calling g mk a) (Vm.Alike.refl U.vm) q.2.2⟩, rC_0 hK hP, fun U hU hW => ⟨rfl, by rw [hU]; exact hP, va_K.moved hW.alike hK⟩⟩ rfl rfl hl9 rfl (lv_room hw9) hdg hc9) hS (fun q _ h => hA q h) hA (fun r u t H1 locs1 ht _ hu hB hz hk hS1 => by obtain ⟨h9, hu⟩ := hu; subst h9; exact kk u hu H1 locs1 (by rw [ht] at hB; exact hB) hS1 hk)
end
set_option maxHeartbeats 4000000 in
set_option maxRecDepth 100000 in
theorem c_X3_shareBySorting_no (l : Launch) (hfl : l.stackTraces = false) {dC : Nat → ClassId} {dI : Nat → Nat → Nat} {cI cZ : ClassId} {ad : Nat → Nat} {sm fe ex dy : Int32} {gp gc op gr st dl wo : Nat → Int32} {n : Nat} {yc ya ys yd : Nat → Int32} {q : Nat} {zc zp zr zs zf : Nat → Int32} {z : Nat} {zm zt : Int64} {x : Int32} {le : Int32} (hn : n ≤ 24) (hk : ¬ vp_in x n) : vx_Met l yX3_shareBySorting wsX3_shareBySorting { frames := 8, cells := 1, slots := 6, locals := 134 } (va_Pc [.ref (ad 0), .int x, .int le] (fun U => va_P (dC, dI) vwCl (wC cI cZ ad sm fe ex dy gp gc op gr st dl wo n yc ya ys yd q zc zp zr zs zf z zm zt) U.heap ∧ va_K (dC, dI) vwCl [(cI, .int), (cZ, .boolean)] U ∧ tX (fun _ => False) U U.heap)) (fun _ _ _ _ => False) (xT "java/lang/IndexOutOfBoundsException") 1 6 (fun _ => False) := by
  refine vx_ofW (cc := cX3_shareBySorting) (maxL := 3) (ret := (some .int)) (by decide) rfl ?_
  intro p e s m args below meth c s₁ B hml ht hv
  obtain ⟨rfl, hP, hK, hT⟩ := hv
  have hx := B.exec
  have hb := B.bytes
  have hr := B.returns
  have hts := atoms_spec (ws := wsX3_shareBySorting) B.pre
  have hown : s.vm.findClass RX3 = some m.cls := findClass_of_methodNamed B.named
  have hlocks := B.notSynchronized
  have hl := lv_entry ([.ref (ad 0), .int x, .int le]) (n := 3) (Nat.le_of_ble_eq_true rfl)
  rw [lg_entry_eq]
  generalize (lg_sl ([.ref (ad 0), .int x, .int le]) ++ List.replicate (3 - (lg_sl ([.ref (ad 0), .int x, .int le])).length) Slot.unset).toArray = ls at hl ⊢
  have hl : lv_has ls 3 [(0, .ref (ad 0)), (1, .int x), (2, .int le)] := hl
  refine lv_aload_n hx hb dX3_shareBySorting_0 rfl (lv_at hl 0 rfl) ?_
  refine lv_iload_n hx hb dX3_shareBySorting_1 rfl (lv_at hl 1 rfl) ?_
  refine lv_iload_n hx hb dX3_shareBySorting_2 rfl (lv_at hl 2 rfl) ?_
  refine lv_iconst (v := nI 1) hx hb dX3_shareBySorting_3 (by decide) ?_
  exact zx_on (kr_X3_shareFor_no l hfl (x := x) (le := le) (b := nI 1) (hn := hn) (hk := hk) hx hb hml hown hts hK hP gX3_shareBySorting_X3_shareFor ⟨Nat.le_of_ble_eq_true rfl, Nat.le_of_ble_eq_true rfl⟩ ⟨Nat.le_of_ble_eq_true rfl, Nat.le_of_ble_eq_true rfl⟩ hl.1 (Nat.le_of_ble_eq_true rfl) dX3_shareBySorting_4 hT) ht hlocks
section
variable {p : Program} {e : Env} {R : Room} {s : State} {m : MethodId} {args : Array Value} {below : List Frame} {meth : Method} {c : Code} {H : Heap} {locs : List Loc} {cells slots : Nat} {Q : State → Prop} {cc : ByteArray} {pc : Nat} {ls : Array Slot} {rest : List Value} {own : String} {index nL : Nat} {Ts : List Cond} {H0 : Heap} {A0 : Nat → Prop}
theorem kr_X3_shareBySorting_no (l : Launch) (hfl : l.stackTraces = false) {dC : Nat → ClassId} {dI : Nat → Nat → Nat} {cI cZ : ClassId} {ad : Nat → Nat} {sm fe ex dy : Int32} {gp gc op gr st dl wo : Nat → Int32} {n : Nat} {yc ya ys yd : Nat → Int32} {q : Nat} {zc zp zr zs zf : Nat → Int32} {z : Nat} {zm zt : Int64} {x : Int32} {le : Int32} (hn : n ≤ 24) (hk : ¬ vp_in x n) (hx : p.tables.exec = Jvm.exec) (hb : c.code = cc) (hml : c.maxLocals = nL) (hown : s.vm.findClass own = some m.cls) (hts : ∀ w ∈ Ts, w.before args s = true) (hK : va_K (dC, dI) vwCl [(cI, .int), (cZ, .boolean)] s) (hP : va_P (dC, dI) vwCl (wC cI cZ ad sm fe ex dy gp gc op gr st dl wo n yc ya ys yd q zc zp zr zs zf z zm zt) H) (hg9 : GoodIn Ts (wsV own index RX3 yX3_shareBySorting wsX3_shareBySorting)) (hR9 : 8 + 1 ≤ R.frames ∧ 8 + (3 + 11) + 134 ≤ R.locals) (hc9 : cells + 1 ≤ R.cells ∧ slots + 6 ≤ R.slots) (hl9 : ls.size = nL) (hw9 : (rest.map fun v => v.category).sum ≤ 8) (hdg : decode cc pc = .ok (.invokevirtual index, 3)) (hT : tX (fun _ => False) s H) : vx_Run p l e R s m args below meth c H locs cells slots 1 6 (F0 m pc ls (.int le :: .int x :: .ref (ad 0) :: rest)) rest (fun _ _ _ => False) (xT "java/lang/IndexOutOfBoundsException") (fun _ => False) := vx_runV (As := [.int x, .int le]) (rest := rest) ⟨hx, hb, hml, hown, hts⟩ (c_X3_shareBySorting_no (dC := dC) (dI := dI) (cI := cI) (cZ := cZ) (ad := ad) (sm := sm) (fe := fe) (ex := ex) (dy := dy) (gp := gp) (gc := gc) (op := op) (gr := gr) (st := st) (dl := dl) (wo := wo) (n := n) (yc := yc) (ya := ya) (ys := ys) (yd := yd) (q := q) (zc := zc) (zp := zp) (zr := zr) (zs := zs) (zf := zf) (z := z) (zm := zm) (zt := zt) (x := x) (le := le) l hfl hn hk) (cwV 2 hts hg9 rfl rfl rfl (by decide +kernel) hR9) ⟨fun a U g mk q => ⟨q.1, q.2.1, va_K.moved (u := U) (U := U.calling g mk a) (Vm.Alike.refl U.vm) q.2.2.1, tX.same (u := U) (U := U.calling g mk a) rfl q.2.2.2⟩, rC_0 hK hP, fun U hU hW => ⟨rfl, by rw [hU]; exact hP, va_K.moved hW.alike hK, by rw [hU]; exact tX.warm hW hT⟩⟩ rfl rfl hl9 rfl (lv_room hw9) hdg hc9
end
set_option maxHeartbeats 4000000 in
set_option maxRecDepth 100000 in
theorem c_X3_shareBySorting_iae (l : Launch) (hfl : l.stackTraces = false) {dC : Nat → ClassId} {dI : Nat → Nat → Nat} {cI cZ : ClassId} {ad : Nat → Nat} {sm fe ex dy : Int32} {gp gc op gr st dl wo : Nat → Int32} {n : Nat} {yc ya ys yd : Nat → Int32} {q : Nat} {zc zp zr zs zf : Nat → Int32} {z : Nat} {zm zt : Int64} {k : Nat} {le : Int32} (hn : n ≤ 24) (hk : k < n) (h1 : ¬ outN le (nI 0) (nI 100000) = 0) : vx_Met l yX3_shareBySorting wsX3_shareBySorting { frames := 8, cells := 1, slots := 6, locals := 134 } (va_Pc [.ref (ad 0), .int (nI k), .int le] (fun U => va_P (dC, dI) vwCl (wC cI cZ ad sm fe ex dy gp gc op gr st dl wo n yc ya ys yd q zc zp zr zs zf z zm zt) U.heap ∧ va_K (dC, dI) vwCl [(cI, .int), (cZ, .boolean)] U ∧ tX (fun _ => False) U U.heap)) (fun _ _ _ _ => False) (xT "java/lang/IllegalArgumentException") 1 6 (fun _ => False) := by
  refine vx_ofW (cc := cX3_shareBySorting) (maxL := 3) (ret := (some .int)) (by decide) rfl ?_
  intro p e s m args below meth c s₁ B hml ht hv
  obtain ⟨rfl, hP, hK, hT⟩ := hv
  have hx := B.exec
  have hb := B.bytes
  have hr := B.returns
  have hts := atoms_spec (ws := wsX3_shareBySorting) B.pre
  have hown : s.vm.findClass RX3 = some m.cls := findClass_of_methodNamed B.named
  have hlocks := B.notSynchronized
  have hl := lv_entry ([.ref (ad 0), .int (nI k), .int le]) (n := 3) (Nat.le_of_ble_eq_true rfl)
  rw [lg_entry_eq]
  generalize (lg_sl ([.ref (ad 0), .int (nI k), .int le]) ++ List.replicate (3 - (lg_sl ([.ref (ad 0), .int (nI k), .int le])).length) Slot.unset).toArray = ls at hl ⊢
  have hl : lv_has ls 3 [(0, .ref (ad 0)), (1, .int (nI k)), (2, .int le)] := hl
  refine lv_aload_n hx hb dX3_shareBySorting_0 rfl (lv_at hl 0 rfl) ?_
  refine lv_iload_n hx hb dX3_shareBySorting_1 rfl (lv_at hl 1 rfl) ?_
  refine lv_iload_n hx hb dX3_shareBySorting_2 rfl (lv_at hl 2 rfl) ?_
  refine lv_iconst (v := nI 1) hx hb dX3_shareBySorting_3 (by decide) ?_
  exact zx_on (kr_X3_shareFor_iae l hfl (k := k) (le := le) (b := nI 1) (hn := hn) (hk := hk) (h1 := h1) hx hb hml hown hts hK hP gX3_shareBySorting_X3_shareFor ⟨Nat.le_of_ble_eq_true rfl, Nat.le_of_ble_eq_true rfl⟩ ⟨Nat.le_of_ble_eq_true rfl, Nat.le_of_ble_eq_true rfl⟩ hl.1 (Nat.le_of_ble_eq_true rfl) dX3_shareBySorting_4 hT) ht hlocks
section
variable {p : Program} {e : Env} {R : Room} {s : State} {m : MethodId} {args : Array Value} {below : List Frame} {meth : Method} {c : Code} {H : Heap} {locs : List Loc} {cells slots : Nat} {Q : State → Prop} {cc : ByteArray} {pc : Nat} {ls : Array Slot} {rest : List Value} {own : String} {index nL : Nat} {Ts : List Cond} {H0 : Heap} {A0 : Nat → Prop}
theorem kr_X3_shareBySorting_iae (l : Launch) (hfl : l.stackTraces = false) {dC : Nat → ClassId} {dI : Nat → Nat → Nat} {cI cZ : ClassId} {ad : Nat → Nat} {sm fe ex dy : Int32} {gp gc op gr st dl wo : Nat → Int32} {n : Nat} {yc ya ys yd : Nat → Int32} {q : Nat} {zc zp zr zs zf : Nat → Int32} {z : Nat} {zm zt : Int64} {k : Nat} {le : Int32} (hn : n ≤ 24) (hk : k < n) (h1 : ¬ outN le (nI 0) (nI 100000) = 0) (hx : p.tables.exec = Jvm.exec) (hb : c.code = cc) (hml : c.maxLocals = nL) (hown : s.vm.findClass own = some m.cls) (hts : ∀ w ∈ Ts, w.before args s = true) (hK : va_K (dC, dI) vwCl [(cI, .int), (cZ, .boolean)] s) (hP : va_P (dC, dI) vwCl (wC cI cZ ad sm fe ex dy gp gc op gr st dl wo n yc ya ys yd q zc zp zr zs zf z zm zt) H) (hg9 : GoodIn Ts (wsV own index RX3 yX3_shareBySorting wsX3_shareBySorting)) (hR9 : 8 + 1 ≤ R.frames ∧ 8 + (3 + 11) + 134 ≤ R.locals) (hc9 : cells + 1 ≤ R.cells ∧ slots + 6 ≤ R.slots) (hl9 : ls.size = nL) (hw9 : (rest.map fun v => v.category).sum ≤ 8) (hdg : decode cc pc = .ok (.invokevirtual index, 3)) (hT : tX (fun _ => False) s H) : vx_Run p l e R s m args below meth c H locs cells slots 1 6 (F0 m pc ls (.int le :: .int (nI k) :: .ref (ad 0) :: rest)) rest (fun _ _ _ => False) (xT "java/lang/IllegalArgumentException") (fun _ => False) := vx_runV (As := [.int (nI k), .int le]) (rest := rest) ⟨hx, hb, hml, hown, hts⟩ (c_X3_shareBySorting_iae (dC := dC) (dI := dI) (cI := cI) (cZ := cZ) (ad := ad) (sm := sm) (fe := fe) (ex := ex) (dy := dy) (gp := gp) (gc := gc) (op := op) (gr := gr) (st := st) (dl := dl) (wo := wo) (n := n) (yc := yc) (ya := ya) (ys := ys) (yd := yd) (q := q) (zc := zc) (zp := zp) (zr := zr) (zs := zs) (zf := zf) (z := z) (zm := zm) (zt := zt) (k := k) (le := le) l hfl hn hk h1) (cwV 2 hts hg9 rfl rfl rfl (by decide +kernel) hR9) ⟨fun a U g mk q => ⟨q.1, q.2.1, va_K.moved (u := U) (U := U.calling g mk a) (Vm.Alike.refl U.vm) q.2.2.1, tX.same (u := U) (U := U.calling g mk a) rfl q.2.2.2⟩, rC_0 hK hP, fun U hU hW => ⟨rfl, by rw [hU]; exact hP, va_K.moved hW.alike hK, by rw [hU]; exact tX.warm hW hT⟩⟩ rfl rfl hl9 rfl (lv_room hw9) hdg hc9
end
set_option maxHeartbeats 4000000 in
set_option maxRecDepth 100000 in
theorem c_X3_round_ok (l : Launch) {dC : Nat → ClassId} {dI : Nat → Nat → Nat} {cI cZ : ClassId} {ad : Nat → Nat} {sm fe ex dy : Int32} {gp gc op gr st dl wo : Nat → Int32} {n : Nat} {yc ya ys yd : Nat → Int32} {q : Nat} {zc zp zr zs zf : Nat → Int32} {z : Nat} {zm zt : Int64} {le : Nat} (hI : iwC ad) (hn : n ≤ 24) (hq : q ≤ 100) (hV : claimV gp gc gr yc ya ys q n) (hL : leftV sm fe ex ya ys q) (hle : le ≤ 100000) (h1 : outN (nI le) (nI 0) (nI 100000) = 0) (h2 : tallyN st (nI 1) n = 0) (h3 : tallyN st (nI 3) n = 0) (h4 : openB ys q = false) (h5 : nI 1 ≤ leftF sm fe ex ya ys q) (h6 : q + gain (shK sm fe ex gp gc gr st yc ya ys n q le) n ≤ 100) : Met l yX3_round wsX3_round { frames := 5, cells := 0, slots := 0, locals := 124 } (va_Pc [.ref (ad 0), .int (nI le)] (fun U => va_P (dC, dI) vwCl (wC cI cZ ad sm fe ex dy gp gc op gr st dl wo n yc ya ys yd q zc zp zr zs zf z zm zt) U.heap ∧ va_K (dC, dI) vwCl [(cI, .int), (cZ, .boolean)] U)) (va_Qi (fun r (u9 : (Nat → Int32) × (Nat → Int32) × (Nat → Int32) × (Nat → Int32) × (Nat → Int32) × Nat × Int64 × Int64) => r = nI (gain (shK sm fe ex gp gc gr st yc ya ys n q le) n) ∧ (True)) (fun u9 t => va_P (dC, dI) vwCl (wC cI cZ ad sm fe ex dy gp gc op gr st dl wo n ((payF dy (shK sm fe ex gp gc gr st yc ya ys n q le) yc ya ys yd q n).1) ((payF dy (shK sm fe ex gp gc gr st yc ya ys n q le) yc ya ys yd q n).2.1) ((payF dy (shK sm fe ex gp gc gr st yc ya ys n q le) yc ya ys yd q n).2.2.1) ((payF dy (shK sm fe ex gp gc gr st yc ya ys n q le) yc ya ys yd q n).2.2.2.1) ((payF dy (shK sm fe ex gp gc gr st yc ya ys n q le) yc ya ys yd q n).2.2.2.2) u9.1 u9.2.1 u9.2.2.1 u9.2.2.2.1 u9.2.2.2.2.1 u9.2.2.2.2.2.1 u9.2.2.2.2.2.2.1 u9.2.2.2.2.2.2.2) t.heap) (awC ad)) 0 0 (awC ad) := by
  refine Met.ofW (cc := cX3_round) (maxL := 3) (ret := (some .int)) (by decide) rfl ?_
  intro p e s m args below meth c s₁ B hml hv
  obtain ⟨rfl, hP, hK⟩ := hv
  have hx := B.exec
  have hb := B.bytes
  have hr := B.returns
  have hts := atoms_spec (ws := wsX3_round) B.pre
  have hown : s.vm.findClass RX3 = some m.cls := findClass_of_methodNamed B.named
  have hlocks := B.notSynchronized
  have hS : va_S (awC ad) s.heap s.heap [] := va_S.rf
  have hl := lv_entry ([.ref (ad 0), .int (nI le)]) (n := 3) (Nat.le_of_ble_eq_true rfl)
  rw [lg_entry_eq]
  generalize (lg_sl ([.ref (ad 0), .int (nI le)]) ++ List.replicate (3 - (lg_sl ([.ref (ad 0), .int (nI le)])).length) Slot.unset).toArray = ls at hl ⊢
  have hl : lv_has ls 3 [(0, .ref (ad 0)), (1, .int (nI le))] := hl
  have hiX3 : ∀ w ∈ wsX30, w ∈ wsX3_round := by decide +kernel
  have hf19 := hts (.fieldLink RX3 19 "SettlementFund" "claimBook" "LSettlementFund$ClaimBook;") (by decide +kernel)
  have hf26 := hts (.fieldLink RX3 26 "SettlementFund" "paymentBook" "LSettlementFund$PaymentBook;") (by decide +kernel)
  have hf33 := hts (.fieldLink RX3 33 "SettlementFund" "sharing" "LSettlementFund$Sharing;") (by decide +kernel)
  refine lv_aload_n hx hb dX3_round_0 rfl (lv_at hl 0 rfl) ?_
  refine lv_iload_n hx hb dX3_round_1 rfl (lv_at hl 1 rfl) ?_
  refine k_X3_mustBeLeast_ok l (x := nI le) (h1 := h1) hx hb hml hown hts hK hP gX3_round_X3_mustBeLeast ⟨Nat.le_of_ble_eq_true rfl, Nat.le_of_ble_eq_true rfl⟩ ⟨Nat.le_of_ble_eq_true rfl, Nat.le_of_ble_eq_true rfl⟩ hl.1 (Nat.le_of_ble_eq_true rfl) dX3_round_2 ?_
  refine lv_aload_n hx hb dX3_round_5 rfl (lv_at hl 0 rfl) ?_
  refine gC_0_6 hx hb hts hiX3 hown hK hP hf19 dX3_round_6 ?_
  refine lv_iconst (v := nI 1) hx hb dX3_round_9 (by decide) ?_
  refine k_X0_tally l (w := nI 1) (hn := hn) hx hb hml hown hts hK hP gX3_round_X0_tally ⟨Nat.le_of_ble_eq_true rfl, Nat.le_of_ble_eq_true rfl⟩ ⟨Nat.le_of_ble_eq_true rfl, Nat.le_of_ble_eq_true rfl⟩ hl.1 (Nat.le_of_ble_eq_true rfl) dX3_round_10 ?_
  refine zi_gt (tgt := 27) hx hb (Nat.lt_of_le_of_lt (tallyN_le _ _ _) (by omega)) dX3_round_13 (by decide) (fun c_13 => (show False by omega).elim) (fun c_13 => ?_)
  refine lv_aload_n hx hb dX3_round_16 rfl (lv_at hl 0 rfl) ?_
  refine gC_0_6 hx hb hts hiX3 hown hK hP hf19 dX3_round_17 ?_
  refine lv_iconst (v := nI 3) hx hb dX3_round_20 (by decide) ?_
  refine k_X0_tally l (w := nI 3) (hn := hn) hx hb hml hown hts hK hP gX3_round_X0_tally ⟨Nat.le_of_ble_eq_true rfl, Nat.le_of_ble_eq_true rfl⟩ ⟨Nat.le_of_ble_eq_true rfl, Nat.le_of_ble_eq_true rfl⟩ hl.1 (Nat.le_of_ble_eq_true rfl) dX3_round_21 ?_
  refine zi_le (tgt := 37) hx hb (Nat.lt_of_le_of_lt (tallyN_le _ _ _) (by omega)) dX3_round_24 (by decide) (fun c_24 => ?_) (fun c_24 => (show False by omega).elim)
  refine lv_aload_n hx hb dX3_round_37 rfl (lv_at hl 0 rfl) ?_
  refine gC_0_7 hx hb hts hiX3 hown hK hP hf26 dX3_round_38 ?_
  refine k_X1_hasOpen l (hq := hq) hx hb hml hown hts hK hP gX3_round_X1_hasOpen ⟨Nat.le_of_ble_eq_true rfl, Nat.le_of_ble_eq_true rfl⟩ ⟨Nat.le_of_ble_eq_true rfl, Nat.le_of_ble_eq_true rfl⟩ hl.1 (Nat.le_of_ble_eq_true rfl) dX3_round_41 ?_
  refine zi_eq (tgt := 57) hx hb (by split <;> decide) dX3_round_44 (by decide) (fun c_44 => ?_) (fun c_44 => (show False by rw [h4] at c_44; exact c_44 rfl).elim)
  refine lv_aload_n hx hb dX3_round_57 rfl (lv_at hl 0 rfl) ?_
  refine k_X3_moneyLeft l (hq := hq) hx hb hml hown hts hK hP gX3_round_X3_moneyLeft ⟨Nat.le_of_ble_eq_true rfl, Nat.le_of_ble_eq_true rfl⟩ ⟨Nat.le_of_ble_eq_true rfl, Nat.le_of_ble_eq_true rfl⟩ hl.1 (Nat.le_of_ble_eq_true rfl) dX3_round_58 ?_
  refine lv_iconst (v := nI 1) hx hb dX3_round_61 (by decide) ?_
  refine lv_icmp_ge (tgt := 75) hx hb dX3_round_62 (by decide) (fun c_62 => ?_) (fun c_62 => (show False by exact c_62 h5).elim)
  refine lv_aload_n hx hb dX3_round_75 rfl (lv_at hl 0 rfl) ?_
  refine lv_iload_n hx hb dX3_round_76 rfl (lv_at hl 1 rfl) ?_
  refine lv_iconst (v := nI 0) hx hb dX3_round_77 (by decide) ?_
  refine k_X3_shareMoneyLeft l (le := le) (b := nI 0) (hn := hn) (hq := hq) (hV := hV) (hL := hL) (hle := hle) hx hb hml hown hts hK hP gX3_round_X3_shareMoneyLeft ⟨Nat.le_of_ble_eq_true rfl, Nat.le_of_ble_eq_true rfl⟩ ⟨Nat.le_of_ble_eq_true rfl, Nat.le_of_ble_eq_true rfl⟩ hl.1 (Nat.le_of_ble_eq_true rfl) dX3_round_78 hI (fun _ h => h) hS (fun u9 hu9 H locs hP hS _ => ?_)
  obtain ⟨zc3, zp3, zr3, zs3, zf3, z3, zm3, zt3⟩ := u9
  have hP : va_P (dC, dI) vwCl (wC cI cZ ad sm fe ex dy gp gc op gr st dl wo n yc ya ys yd q zc3 zp3 zr3 zs3 zf3 z3 zm3 zt3) H := hP
  have hu_78 : smP sm fe ex gp gc gr st yc ya ys n q le zc3 zp3 zr3 zs3 z3 := hu9
  obtain ⟨L3, q1, q2, q3, q4, q5⟩ := hu_78
  have hgn := gain_le (shK sm fe ex gp gc gr st yc ya ys n q le) n
  refine lv_aload_n hx hb dX3_round_81 rfl (lv_at hl 0 rfl) ?_
  refine gC_0_8 hx hb hts hiX3 hown hK hP hf33 dX3_round_82 ?_
  refine k_X2_gainers l (L := L3) (pf := (pK gp gr)) (rf := (rK gc gr yc ya ys q)) (sf := (shr (pK gp gr) (rK gc gr yc ya ys q) L3 (mK sm fe ex ya ys q))) (hR := q4) (hB := q2) (hs := (fun i hi => ⟨q5 i hi, shr_lt q2 (hL h5).2.2 (lg_mem (by have := q4.1; omega))⟩)) hx hb hml hown hts hK hP gX3_round_X2_gainers ⟨Nat.le_of_ble_eq_true rfl, Nat.le_of_ble_eq_true rfl⟩ ⟨Nat.le_of_ble_eq_true rfl, Nat.le_of_ble_eq_true rfl⟩ hl.1 (Nat.le_of_ble_eq_true rfl) dX3_round_85 ?_
  refine zt_i (y := nI (gain (shK sm fe ex gp gc gr st yc ya ys n q le) n)) (congrArg nI (gain_fin q3 (fun k hk => fin_lt (q1.mem_iff.mp hk)) (fun k _ => (shK_eq q1).symm))) ?_
  refine lv_istore_n (lv' := [(2, .int (nI (gain (shK sm fe ex gp gc gr st yc ya ys n q le) n))), (0, .ref (ad 0)), (1, .int (nI le))]) hx hb dX3_round_88 rfl hl (by decide) rfl (fun ls hl => ?_)
  refine lv_aload_n hx hb dX3_round_89 rfl (lv_at hl 1 rfl) ?_
  refine gC_0_7 hx hb hts hiX3 hown hK hP hf26 dX3_round_90 ?_
  refine lv_iload_n hx hb dX3_round_93 rfl (lv_at hl 0 rfl) ?_
  refine k_X1_hasPlacesFor l (k := gain (shK sm fe ex gp gc gr st yc ya ys n q le) n) (hq := hq) (hk := (by omega)) hx hb hml hown hts hK hP gX3_round_X1_hasPlacesFor ⟨Nat.le_of_ble_eq_true rfl, Nat.le_of_ble_eq_true rfl⟩ ⟨Nat.le_of_ble_eq_true rfl, Nat.le_of_ble_eq_true rfl⟩ hl.1 (Nat.le_of_ble_eq_true rfl) dX3_round_94 ?_
  refine zi_ne (tgt := 110) hx hb (by split <;> decide) dX3_round_97 (by decide) (fun c_97 => ?_) (fun c_97 => (show False by rw [if_pos (by omega)] at c_97; exact absurd c_97 (by decide)).elim)
  refine lv_aload_n hx hb dX3_round_110 rfl (lv_at hl 1 rfl) ?_
  refine k_X3_makePayments l (L := L3) (pf := (pK gp gr)) (rf := (rK gc gr yc ya ys q)) (sf := (shr (pK gp gr) (rK gc gr yc ya ys q) L3 (mK sm fe ex ya ys q))) (shf := (shK sm fe ex gp gc gr st yc ya ys n q le)) (hn := hn) (hR := q4) (hB := q2) (hs := q5) (hs9 := (fun i _ => ⟨shK_eq q1, shK_lt q1 q2 (hL h5).2.2⟩)) (hq9 := h6) hx hb hml hown hts hK hP gX3_round_X3_makePayments ⟨Nat.le_of_ble_eq_true rfl, Nat.le_of_ble_eq_true rfl⟩ ⟨Nat.le_of_ble_eq_true rfl, Nat.le_of_ble_eq_true rfl⟩ hl.1 (Nat.le_of_ble_eq_true rfl) dX3_round_111 hI (fun _ h => h) hS (fun H locs hP hS _ => ?_)
  refine lv_iload_n hx hb dX3_round_114 rfl (lv_at hl 0 rfl) ?_
  exact W.iret (v := nI (gain (shK sm fe ex gp gc gr st yc ya ys n q le) n)) hx hb hr (fun t ht hW => ⟨⟨nI (gain (shK sm fe ex gp gc gr st yc ya ys n q le) n), (zc3, zp3, zr3, zs3, zf3, z3, zm3, zt3), rfl, ⟨rfl, trivial⟩, by (try dsimp only); rw [ht]; exact hP⟩, hS.F ht⟩) hS.2.2 dX3_round_115
section
variable {p : Program} {e : Env} {R : Room} {s : State} {m : MethodId} {args : Array Value} {below : List Frame} {meth : Method} {c : Code} {H : Heap} {locs : List Loc} {cells slots : Nat} {Q : State → Prop} {cc : ByteArray} {pc : Nat} {ls : Array Slot} {rest : List Value} {own : String} {index nL : Nat} {Ts : List Cond} {H0 : Heap} {A0 : Nat → Prop}
theorem k_X3_round_ok (l : Launch) {dC : Nat → ClassId} {dI : Nat → Nat → Nat} {cI cZ : ClassId} {ad : Nat → Nat} {sm fe ex dy : Int32} {gp gc op gr st dl wo : Nat → Int32} {n : Nat} {yc ya ys yd : Nat → Int32} {q : Nat} {zc zp zr zs zf : Nat → Int32} {z : Nat} {zm zt : Int64} {le : Nat} (hn : n ≤ 24) (hq : q ≤ 100) (hV : claimV gp gc gr yc ya ys q n) (hL : leftV sm fe ex ya ys q) (hle : le ≤ 100000) (h1 : outN (nI le) (nI 0) (nI 100000) = 0) (h2 : tallyN st (nI 1) n = 0) (h3 : tallyN st (nI 3) n = 0) (h4 : openB ys q = false) (h5 : nI 1 ≤ leftF sm fe ex ya ys q) (h6 : q + gain (shK sm fe ex gp gc gr st yc ya ys n q le) n ≤ 100) (hx : p.tables.exec = Jvm.exec) (hb : c.code = cc) (hml : c.maxLocals = nL) (hown : s.vm.findClass own = some m.cls) (hts : ∀ w ∈ Ts, w.before args s = true) (hK : va_K (dC, dI) vwCl [(cI, .int), (cZ, .boolean)] s) (hP : va_P (dC, dI) vwCl (wC cI cZ ad sm fe ex dy gp gc op gr st dl wo n yc ya ys yd q zc zp zr zs zf z zm zt) H) (hg9 : GoodIn Ts (wsV own index RX3 yX3_round wsX3_round)) (hR9 : 5 + 1 ≤ R.frames ∧ 8 + (3 + 11) + 124 ≤ R.locals) (hc9 : cells ≤ R.cells ∧ slots ≤ R.slots) (hl9 : ls.size = nL) (hw9 : (rest.map fun v => v.category).sum ≤ 8) (hdg : decode cc pc = .ok (.invokevirtual index, 3)) (hI : iwC ad) (hA : ∀ x, awC ad x → A0 x) (hS : va_S A0 H0 H locs) (kk : ∀ (u9 : (Nat → Int32) × (Nat → Int32) × (Nat → Int32) × (Nat → Int32) × (Nat → Int32) × Nat × Int64 × Int64), (True) → ∀ (H1 : Heap) (locs1 : List Loc), va_P (dC, dI) vwCl (wC cI cZ ad sm fe ex dy gp gc op gr st dl wo n ((payF dy (shK sm fe ex gp gc gr st yc ya ys n q le) yc ya ys yd q n).1) ((payF dy (shK sm fe ex gp gc gr st yc ya ys n q le) yc ya ys yd q n).2.1) ((payF dy (shK sm fe ex gp gc gr st yc ya ys n q le) yc ya ys yd q n).2.2.1) ((payF dy (shK sm fe ex gp gc gr st yc ya ys n q le) yc ya ys yd q n).2.2.2.1) ((payF dy (shK sm fe ex gp gc gr st yc ya ys n q le) yc ya ys yd q n).2.2.2.2) u9.1 u9.2.1 u9.2.2.1 u9.2.2.2.1 u9.2.2.2.2.1 u9.2.2.2.2.2.1 u9.2.2.2.2.2.2.1 u9.2.2.2.2.2.2.2) H1 → va_S A0 H0 H1 locs1 → (∀ q : Nat, q < H.size → ¬ awC ad q → H1[q]? = H[q]?) → W p l e R s m args below meth c H1 locs1 cells slots Q (F0 m (pc + 3) ls (.int (nI (gain (shK sm fe ex gp gc gr st yc ya ys n q le) n)) :: rest))) : W p l e R s m args below meth c H locs cells slots Q (F0 m pc ls (.int (nI le) :: .ref (ad 0) :: rest)) := va_calli (va_runV (As := [.int (nI le)]) (rest := rest) ⟨hx, hb, hml, hown, hts⟩ (c_X3_round_ok (dC := dC) (dI := dI) (cI := cI) (cZ := cZ) (ad := ad) (sm := sm) (fe := fe) (ex := ex) (dy := dy) (gp := gp) (gc := gc) (op := op) (gr := gr) (st := st) (dl := dl) (wo := wo) (n := n) (yc := yc) (ya := ya) (ys := ys) (yd := yd) (q := q) (zc := zc) (zp := zp) (zr := zr) (zs := zs) (zf := zf) (z := z) (zm := zm) (zt := zt) (le := le) l hI hn hq hV hL hle h1 h2 h3 h4 h5 h6) (cwV 1 hts hg9 rfl rfl rfl (by decide +kernel) hR9) ⟨fun a U g mk q => ⟨q.1, q.2.1, va_K.moved (u := U) (U := U.calling g mk a) (Vm.Alike.refl U.vm) q.2.2⟩, rC_0 hK hP, fun U hU hW => ⟨rfl, by rw [hU]; exact hP, va_K.moved hW.alike hK⟩⟩ rfl rfl hl9 rfl (lv_room hw9) hdg hc9) hS (fun q _ h => hA q h) hA (fun r u t H1 locs1 ht _ hu hB hz hk hS1 => by obtain ⟨h9, hu⟩ := hu; subst h9; exact kk u hu H1 locs1 (by rw [ht] at hB; exact hB) hS1 hk)
end
set_option maxHeartbeats 4000000 in
set_option maxRecDepth 100000 in
theorem c_X3_round_iae (l : Launch) (hfl : l.stackTraces = false) {dC : Nat → ClassId} {dI : Nat → Nat → Nat} {cI cZ : ClassId} {ad : Nat → Nat} {sm fe ex dy : Int32} {gp gc op gr st dl wo : Nat → Int32} {n : Nat} {yc ya ys yd : Nat → Int32} {q : Nat} {zc zp zr zs zf : Nat → Int32} {z : Nat} {zm zt : Int64} {le : Int32} (h1 : ¬ outN le (nI 0) (nI 100000) = 0) : vx_Met l yX3_round wsX3_round { frames := 7, cells := 1, slots := 6, locals := 111 } (va_Pc [.ref (ad 0), .int le] (fun U => va_P (dC, dI) vwCl (wC cI cZ ad sm fe ex dy gp gc op gr st dl wo n yc ya ys yd q zc zp zr zs zf z zm zt) U.heap ∧ va_K (dC, dI) vwCl [(cI, .int), (cZ, .boolean)] U ∧ tX (fun _ => False) U U.heap)) (fun _ _ _ _ => False) (xT "java/lang/IllegalArgumentException") 1 6 (fun _ => False) := by
  refine vx_ofW (cc := cX3_round) (maxL := 3) (ret := (some .int)) (by decide) rfl ?_
  intro p e s m args below meth c s₁ B hml ht hv
  obtain ⟨rfl, hP, hK, hT⟩ := hv
  have hx := B.exec
  have hb := B.bytes
  have hr := B.returns
  have hts := atoms_spec (ws := wsX3_round) B.pre
  have hown : s.vm.findClass RX3 = some m.cls := findClass_of_methodNamed B.named
  have hlocks := B.notSynchronized
  have hl := lv_entry ([.ref (ad 0), .int le]) (n := 3) (Nat.le_of_ble_eq_true rfl)
  rw [lg_entry_eq]
  generalize (lg_sl ([.ref (ad 0), .int le]) ++ List.replicate (3 - (lg_sl ([.ref (ad 0), .int le])).length) Slot.unset).toArray = ls at hl ⊢
  have hl : lv_has ls 3 [(0, .ref (ad 0)), (1, .int le)] := hl
  refine lv_aload_n hx hb dX3_round_0 rfl (lv_at hl 0 rfl) ?_
  refine lv_iload_n hx hb dX3_round_1 rfl (lv_at hl 1 rfl) ?_
  exact zx_on (kr_X3_mustBeLeast_no l hfl (x := le) (h1 := h1) hx hb hml hown hts hK hP gX3_round_X3_mustBeLeast ⟨Nat.le_of_ble_eq_true rfl, Nat.le_of_ble_eq_true rfl⟩ ⟨Nat.le_of_ble_eq_true rfl, Nat.le_of_ble_eq_true rfl⟩ hl.1 (Nat.le_of_ble_eq_true rfl) dX3_round_2 hT) ht hlocks
section
variable {p : Program} {e : Env} {R : Room} {s : State} {m : MethodId} {args : Array Value} {below : List Frame} {meth : Method} {c : Code} {H : Heap} {locs : List Loc} {cells slots : Nat} {Q : State → Prop} {cc : ByteArray} {pc : Nat} {ls : Array Slot} {rest : List Value} {own : String} {index nL : Nat} {Ts : List Cond} {H0 : Heap} {A0 : Nat → Prop}
theorem kr_X3_round_iae (l : Launch) (hfl : l.stackTraces = false) {dC : Nat → ClassId} {dI : Nat → Nat → Nat} {cI cZ : ClassId} {ad : Nat → Nat} {sm fe ex dy : Int32} {gp gc op gr st dl wo : Nat → Int32} {n : Nat} {yc ya ys yd : Nat → Int32} {q : Nat} {zc zp zr zs zf : Nat → Int32} {z : Nat} {zm zt : Int64} {le : Int32} (h1 : ¬ outN le (nI 0) (nI 100000) = 0) (hx : p.tables.exec = Jvm.exec) (hb : c.code = cc) (hml : c.maxLocals = nL) (hown : s.vm.findClass own = some m.cls) (hts : ∀ w ∈ Ts, w.before args s = true) (hK : va_K (dC, dI) vwCl [(cI, .int), (cZ, .boolean)] s) (hP : va_P (dC, dI) vwCl (wC cI cZ ad sm fe ex dy gp gc op gr st dl wo n yc ya ys yd q zc zp zr zs zf z zm zt) H) (hg9 : GoodIn Ts (wsV own index RX3 yX3_round wsX3_round)) (hR9 : 7 + 1 ≤ R.frames ∧ 8 + (3 + 11) + 111 ≤ R.locals) (hc9 : cells + 1 ≤ R.cells ∧ slots + 6 ≤ R.slots) (hl9 : ls.size = nL) (hw9 : (rest.map fun v => v.category).sum ≤ 8) (hdg : decode cc pc = .ok (.invokevirtual index, 3)) (hT : tX (fun _ => False) s H) : vx_Run p l e R s m args below meth c H locs cells slots 1 6 (F0 m pc ls (.int le :: .ref (ad 0) :: rest)) rest (fun _ _ _ => False) (xT "java/lang/IllegalArgumentException") (fun _ => False) := vx_runV (As := [.int le]) (rest := rest) ⟨hx, hb, hml, hown, hts⟩ (c_X3_round_iae (dC := dC) (dI := dI) (cI := cI) (cZ := cZ) (ad := ad) (sm := sm) (fe := fe) (ex := ex) (dy := dy) (gp := gp) (gc := gc) (op := op) (gr := gr) (st := st) (dl := dl) (wo := wo) (n := n) (yc := yc) (ya := ya) (ys := ys) (yd := yd) (q := q) (zc := zc) (zp := zp) (zr := zr) (zs := zs) (zf := zf) (z := z) (zm := zm) (zt := zt) (le := le) l hfl h1) (cwV 1 hts hg9 rfl rfl rfl (by decide +kernel) hR9) ⟨fun a U g mk q => ⟨q.1, q.2.1, va_K.moved (u := U) (U := U.calling g mk a) (Vm.Alike.refl U.vm) q.2.2.1, tX.same (u := U) (U := U.calling g mk a) rfl q.2.2.2⟩, rC_0 hK hP, fun U hU hW => ⟨rfl, by rw [hU]; exact hP, va_K.moved hW.alike hK, by rw [hU]; exact tX.warm hW hT⟩⟩ rfl rfl hl9 rfl (lv_room hw9) hdg hc9
end
set_option maxHeartbeats 4000000 in
set_option maxRecDepth 100000 in
theorem c_X3_round_ise (l : Launch) (hfl : l.stackTraces = false) {dC : Nat → ClassId} {dI : Nat → Nat → Nat} {cI cZ : ClassId} {ad : Nat → Nat} {sm fe ex dy : Int32} {gp gc op gr st dl wo : Nat → Int32} {n : Nat} {yc ya ys yd : Nat → Int32} {q : Nat} {zc zp zr zs zf : Nat → Int32} {z : Nat} {zm zt : Int64} {le : Nat} (hn : n ≤ 24) (hq : q ≤ 100) (h1 : outN (nI le) (nI 0) (nI 100000) = 0) (h2 : ¬ (tallyN st (nI 1) n = 0 ∧ tallyN st (nI 3) n = 0 ∧ openB ys q = false ∧ nI 1 ≤ leftF sm fe ex ya ys q)) : vx_Met l yX3_round wsX3_round { frames := 6, cells := 1, slots := 6, locals := 90 } (va_Pc [.ref (ad 0), .int (nI le)] (fun U => va_P (dC, dI) vwCl (wC cI cZ ad sm fe ex dy gp gc op gr st dl wo n yc ya ys yd q zc zp zr zs zf z zm zt) U.heap ∧ va_K (dC, dI) vwCl [(cI, .int), (cZ, .boolean)] U ∧ tX (fun _ => False) U U.heap)) (fun _ _ _ _ => False) (xT "java/lang/IllegalStateException") 1 6 (fun _ => False) := by
  refine vx_ofW (cc := cX3_round) (maxL := 3) (ret := (some .int)) (by decide) rfl ?_
  intro p e s m args below meth c s₁ B hml ht hv
  obtain ⟨rfl, hP, hK, hT⟩ := hv
  have hx := B.exec
  have hb := B.bytes
  have hr := B.returns
  have hts := atoms_spec (ws := wsX3_round) B.pre
  have hown : s.vm.findClass RX3 = some m.cls := findClass_of_methodNamed B.named
  have hlocks := B.notSynchronized
  have hl := lv_entry ([.ref (ad 0), .int (nI le)]) (n := 3) (Nat.le_of_ble_eq_true rfl)
  rw [lg_entry_eq]
  generalize (lg_sl ([.ref (ad 0), .int (nI le)]) ++ List.replicate (3 - (lg_sl ([.ref (ad 0), .int (nI le)])).length) Slot.unset).toArray = ls at hl ⊢
  have hl : lv_has ls 3 [(0, .ref (ad 0)), (1, .int (nI le))] := hl
  have hiX3 : ∀ w ∈ wsX30, w ∈ wsX3_round := by decide +kernel
  have hf19 := hts (.fieldLink RX3 19 "SettlementFund" "claimBook" "LSettlementFund$ClaimBook;") (by decide +kernel)
  have hf26 := hts (.fieldLink RX3 26 "SettlementFund" "paymentBook" "LSettlementFund$PaymentBook;") (by decide +kernel)
  refine lv_aload_n hx hb dX3_round_0 rfl (lv_at hl 0 rfl) ?_
  refine lv_iload_n hx hb dX3_round_1 rfl (lv_at hl 1 rfl) ?_
  refine k_X3_mustBeLeast_ok l (x := nI le) (h1 := h1) hx hb hml hown hts hK hP gX3_round_X3_mustBeLeast ⟨Nat.le_of_ble_eq_true rfl, Nat.le_of_ble_eq_true rfl⟩ ⟨Nat.le_of_ble_eq_true rfl, Nat.le_of_ble_eq_true rfl⟩ hl.1 (Nat.le_of_ble_eq_true rfl) dX3_round_2 ?_
  refine lv_aload_n hx hb dX3_round_5 rfl (lv_at hl 0 rfl) ?_
  refine gC_0_6 hx hb hts hiX3 hown hK hP hf19 dX3_round_6 ?_
  refine lv_iconst (v := nI 1) hx hb dX3_round_9 (by decide) ?_
  refine k_X0_tally l (w := nI 1) (hn := hn) hx hb hml hown hts hK hP gX3_round_X0_tally ⟨Nat.le_of_ble_eq_true rfl, Nat.le_of_ble_eq_true rfl⟩ ⟨Nat.le_of_ble_eq_true rfl, Nat.le_of_ble_eq_true rfl⟩ hl.1 (Nat.le_of_ble_eq_true rfl) dX3_round_10 ?_
  refine zi_gt (tgt := 27) hx hb (Nat.lt_of_le_of_lt (tallyN_le _ _ _) (by omega)) dX3_round_13 (by decide) (fun c_13 => ?_) (fun c_13 => ?_)
  · exact zx_IllegalStateException (is := 140) (text := "some claim is FAULTY or OBJECTED") hx hb hfl hown hts hT (by decide +kernel) (by decide +kernel) (by decide +kernel) (by decide +kernel) (hl.1.trans hml.symm) dX3_round_27 dX3_round_30 dX3_round_31 dX3_round_33 dX3_round_36 ht hlocks (Nat.le_of_ble_eq_true rfl) (Nat.le_of_ble_eq_true rfl) (Nat.le_of_ble_eq_true rfl) (Nat.le_of_ble_eq_true rfl)
  · refine lv_aload_n hx hb dX3_round_16 rfl (lv_at hl 0 rfl) ?_
    refine gC_0_6 hx hb hts hiX3 hown hK hP hf19 dX3_round_17 ?_
    refine lv_iconst (v := nI 3) hx hb dX3_round_20 (by decide) ?_
    refine k_X0_tally l (w := nI 3) (hn := hn) hx hb hml hown hts hK hP gX3_round_X0_tally ⟨Nat.le_of_ble_eq_true rfl, Nat.le_of_ble_eq_true rfl⟩ ⟨Nat.le_of_ble_eq_true rfl, Nat.le_of_ble_eq_true rfl⟩ hl.1 (Nat.le_of_ble_eq_true rfl) dX3_round_21 ?_
    refine zi_le (tgt := 37) hx hb (Nat.lt_of_le_of_lt (tallyN_le _ _ _) (by omega)) dX3_round_24 (by decide) (fun c_24 => ?_) (fun c_24 => ?_)
    · refine lv_aload_n hx hb dX3_round_37 rfl (lv_at hl 0 rfl) ?_
      refine gC_0_7 hx hb hts hiX3 hown hK hP hf26 dX3_round_38 ?_
      refine k_X1_hasOpen l (hq := hq) hx hb hml hown hts hK hP gX3_round_X1_hasOpen ⟨Nat.le_of_ble_eq_true rfl, Nat.le_of_ble_eq_true rfl⟩ ⟨Nat.le_of_ble_eq_true rfl, Nat.le_of_ble_eq_true rfl⟩ hl.1 (Nat.le_of_ble_eq_true rfl) dX3_round_41 ?_
      refine zi_eq (tgt := 57) hx hb (by split <;> decide) dX3_round_44 (by decide) (fun c_44 => ?_) (fun c_44 => ?_)
      · refine lv_aload_n hx hb dX3_round_57 rfl (lv_at hl 0 rfl) ?_
        refine k_X3_moneyLeft l (hq := hq) hx hb hml hown hts hK hP gX3_round_X3_moneyLeft ⟨Nat.le_of_ble_eq_true rfl, Nat.le_of_ble_eq_true rfl⟩ ⟨Nat.le_of_ble_eq_true rfl, Nat.le_of_ble_eq_true rfl⟩ hl.1 (Nat.le_of_ble_eq_true rfl) dX3_round_58 ?_
        refine lv_iconst (v := nI 1) hx hb dX3_round_61 (by decide) ?_
        refine lv_icmp_ge (tgt := 75) hx hb dX3_round_62 (by decide) (fun c_62 => (show False by exact h2 ⟨c_13, c_24, zz_if_f c_44, c_62⟩).elim) (fun c_62 => ?_)
        exact zx_IllegalStateException (is := 147) (text := "the money left is below 1") hx hb hfl hown hts hT (by decide +kernel) (by decide +kernel) (by decide +kernel) (by decide +kernel) (hl.1.trans hml.symm) dX3_round_65 dX3_round_68 dX3_round_69 dX3_round_71 dX3_round_74 ht hlocks (Nat.le_of_ble_eq_true rfl) (Nat.le_of_ble_eq_true rfl) (Nat.le_of_ble_eq_true rfl) (Nat.le_of_ble_eq_true rfl)
      · exact zx_IllegalStateException (is := 145) (text := "some payment is OPEN") hx hb hfl hown hts hT (by decide +kernel) (by decide +kernel) (by decide +kernel) (by decide +kernel) (hl.1.trans hml.symm) dX3_round_47 dX3_round_50 dX3_round_51 dX3_round_53 dX3_round_56 ht hlocks (Nat.le_of_ble_eq_true rfl) (Nat.le_of_ble_eq_true rfl) (Nat.le_of_ble_eq_true rfl) (Nat.le_of_ble_eq_true rfl)
    · exact zx_IllegalStateException (is := 140) (text := "some claim is FAULTY or OBJECTED") hx hb hfl hown hts hT (by decide +kernel) (by decide +kernel) (by decide +kernel) (by decide +kernel) (hl.1.trans hml.symm) dX3_round_27 dX3_round_30 dX3_round_31 dX3_round_33 dX3_round_36 ht hlocks (Nat.le_of_ble_eq_true rfl) (Nat.le_of_ble_eq_true rfl) (Nat.le_of_ble_eq_true rfl) (Nat.le_of_ble_eq_true rfl)
section
variable {p : Program} {e : Env} {R : Room} {s : State} {m : MethodId} {args : Array Value} {below : List Frame} {meth : Method} {c : Code} {H : Heap} {locs : List Loc} {cells slots : Nat} {Q : State → Prop} {cc : ByteArray} {pc : Nat} {ls : Array Slot} {rest : List Value} {own : String} {index nL : Nat} {Ts : List Cond} {H0 : Heap} {A0 : Nat → Prop}
theorem kr_X3_round_ise (l : Launch) (hfl : l.stackTraces = false) {dC : Nat → ClassId} {dI : Nat → Nat → Nat} {cI cZ : ClassId} {ad : Nat → Nat} {sm fe ex dy : Int32} {gp gc op gr st dl wo : Nat → Int32} {n : Nat} {yc ya ys yd : Nat → Int32} {q : Nat} {zc zp zr zs zf : Nat → Int32} {z : Nat} {zm zt : Int64} {le : Nat} (hn : n ≤ 24) (hq : q ≤ 100) (h1 : outN (nI le) (nI 0) (nI 100000) = 0) (h2 : ¬ (tallyN st (nI 1) n = 0 ∧ tallyN st (nI 3) n = 0 ∧ openB ys q = false ∧ nI 1 ≤ leftF sm fe ex ya ys q)) (hx : p.tables.exec = Jvm.exec) (hb : c.code = cc) (hml : c.maxLocals = nL) (hown : s.vm.findClass own = some m.cls) (hts : ∀ w ∈ Ts, w.before args s = true) (hK : va_K (dC, dI) vwCl [(cI, .int), (cZ, .boolean)] s) (hP : va_P (dC, dI) vwCl (wC cI cZ ad sm fe ex dy gp gc op gr st dl wo n yc ya ys yd q zc zp zr zs zf z zm zt) H) (hg9 : GoodIn Ts (wsV own index RX3 yX3_round wsX3_round)) (hR9 : 6 + 1 ≤ R.frames ∧ 8 + (3 + 11) + 90 ≤ R.locals) (hc9 : cells + 1 ≤ R.cells ∧ slots + 6 ≤ R.slots) (hl9 : ls.size = nL) (hw9 : (rest.map fun v => v.category).sum ≤ 8) (hdg : decode cc pc = .ok (.invokevirtual index, 3)) (hT : tX (fun _ => False) s H) : vx_Run p l e R s m args below meth c H locs cells slots 1 6 (F0 m pc ls (.int (nI le) :: .ref (ad 0) :: rest)) rest (fun _ _ _ => False) (xT "java/lang/IllegalStateException") (fun _ => False) := vx_runV (As := [.int (nI le)]) (rest := rest) ⟨hx, hb, hml, hown, hts⟩ (c_X3_round_ise (dC := dC) (dI := dI) (cI := cI) (cZ := cZ) (ad := ad) (sm := sm) (fe := fe) (ex := ex) (dy := dy) (gp := gp) (gc := gc) (op := op) (gr := gr) (st := st) (dl := dl) (wo := wo) (n := n) (yc := yc) (ya := ya) (ys := ys) (yd := yd) (q := q) (zc := zc) (zp := zp) (zr := zr) (zs := zs) (zf := zf) (z := z) (zm := zm) (zt := zt) (le := le) l hfl hn hq h1 h2) (cwV 1 hts hg9 rfl rfl rfl (by decide +kernel) hR9) ⟨fun a U g mk q => ⟨q.1, q.2.1, va_K.moved (u := U) (U := U.calling g mk a) (Vm.Alike.refl U.vm) q.2.2.1, tX.same (u := U) (U := U.calling g mk a) rfl q.2.2.2⟩, rC_0 hK hP, fun U hU hW => ⟨rfl, by rw [hU]; exact hP, va_K.moved hW.alike hK, by rw [hU]; exact tX.warm hW hT⟩⟩ rfl rfl hl9 rfl (lv_room hw9) hdg hc9
end
