/-! moving places, filling -/
def shF (f : Nat → Int32) (v i : Nat) : Nat → Int32 := fun j => if v ≤ j ∧ j < i then f (j + 1) else f j
theorem shF_0 (f : Nat → Int32) (v : Nat) : shF f v v = f := funext fun j => if_neg (by omega)
theorem shF_s {f : Nat → Int32} {v i : Nat} (h : v ≤ i) : upd (shF f v i) i (shF f v i (i + 1)) = shF f v (i + 1) := by
  funext j
  unfold upd shF
  by_cases e : j = i
  · subst e; rw [if_pos rfl, if_neg (by omega), if_pos (by omega)]
  · rw [if_neg e]
    by_cases l : v ≤ j ∧ j < i
    · rw [if_pos l, if_pos (by omega)]
    · rw [if_neg l, if_neg (by omega)]
theorem lg_erase {L : List Nat} {v i : Nat} (h : i + 1 < L.length) (hv : v < L.length) : lg (L.eraseIdx v) i = if v ≤ i then lg L (i + 1) else lg L i := by
  have hl : i < (L.eraseIdx v).length := by rw [List.length_eraseIdx]; split <;> omega
  rw [lg_get hl]
  by_cases c : v ≤ i
  · rw [if_pos c, List.getElem_eraseIdx_of_ge _ c, lg_get h]
  · rw [if_neg c, List.getElem_eraseIdx_of_lt _ (by omega), lg_get (by omega)]
theorem repL_out {p r : Nat → Nat} {L : List Nat} {zc zp zr : Nat → Int32} {z v : Nat} (h : repL p r L zc zp zr z) (hv : v < z) : repL p r (L.eraseIdx v) (shF zc v (z - 1)) (shF zp v (z - 1)) (shF zr v (z - 1)) (z - 1) := by
  obtain ⟨h1, h2⟩ := h
  refine ⟨by rw [List.length_eraseIdx, if_pos (by omega)]; omega, fun i hi => ?_⟩
  rw [lg_erase (by omega) (by omega)]
  unfold shF
  by_cases c : v ≤ i
  · rw [if_pos c, if_pos ⟨c, hi⟩, if_pos ⟨c, hi⟩, if_pos ⟨c, hi⟩]; exact h2 (i + 1) (by omega)
  · rw [if_neg c, if_neg (by omega), if_neg (by omega), if_neg (by omega)]; exact h2 i (by omega)
def tot (w : Nat → Nat) (L : List Nat) : Nat := wsum w (fun _ => true) L
theorem tot_take {w : Nat → Nat} {L : List Nat} {i : Nat} (h : i < L.length) : tot w (L.take (i + 1)) = tot w (L.take i) + w (lg L i) := by
  unfold tot; rw [wsum_take _ _ _ h, if_pos rfl]; rfl
theorem tot_split (w : Nat → Nat) (L : List Nat) (i : Nat) : tot w L = tot w (L.take i) + tot w (L.drop i) := by
  unfold tot; rw [← wsum_app, List.take_append_drop]
theorem tot_drop {w : Nat → Nat} {L : List Nat} {i : Nat} (h : i < L.length) : tot w (L.drop i) = w (lg L i) + tot w (L.drop (i + 1)) := by
  have a := tot_split w L i
  have b := tot_split w L (i + 1)
  rw [tot_take h] at b
  omega
theorem tot_24 {p r : Nat → Nat} {L : List Nat} (hB : bndL p r L) (i : Nat) : tot p (L.drop i) ≤ 2400 := by
  have a := tot_split p L i
  have b := bnd_P hB (fun _ => true)
  have e : tot p L = wsum p (fun _ => true) L := rfl
  omega
def sortedL (p r : Nat → Nat) (L : List Nat) : Prop := ∀ i j, i < j → j < L.length → r (lg L i) * p (lg L j) ≤ r (lg L j) * p (lg L i)
def endS (p r : Nat → Nat) (L : List Nat) (M : Nat) (zs zf : Nat → Int32) (z : Nat) (zm zt : Int64) : Prop := flA L (fin p r L M).1 zf z ∧ (∀ i, i < z → (fin p r L M).1 (lg L i) = false → zs i = nI (r (lg L i))) ∧ zm = lN (fin p r L M).2 ∧ zt = lN (wsum p (fin p r L M).1 L)
theorem fin_le {p r : Nat → Nat} {L : List Nat} (hB : bndL p r L) (M : Nat) : (fin p r L M).2 ≤ M := by have := (fin_good hB M).1.1; omega
/-! from the front -/
def frI (p r : Nat → Nat) (L : List Nat) (M z i : Nat) (zs zf : Nat → Int32) : Prop := i ≤ z ∧ tot r (L.take i) ≤ M ∧ (∀ j, j < z → zf j = nI (if j < i then 1 else 0)) ∧ (∀ j, j < i → zs j = nI (r (lg L j))) ∧ ∀ j, j < i → r (lg L j) * tot p (L.drop i) ≤ p (lg L j) * (M - tot r (L.take i))
theorem fr_rk {p r : Nat → Nat} {L : List Nat} {M i : Nat} (hp : 1 ≤ p (lg L i)) (hi : i < L.length) (h : r (lg L i) * tot p (L.drop i) ≤ p (lg L i) * (M - tot r (L.take i))) : r (lg L i) ≤ M - tot r (L.take i) := by
  have h1 : r (lg L i) * p (lg L i) ≤ r (lg L i) * tot p (L.drop i) := Nat.mul_le_mul_left _ (by rw [tot_drop hi]; omega)
  refine Nat.le_of_mul_le_mul_left ?_ (show 0 < p (lg L i) by omega)
  rw [Nat.mul_comm (p (lg L i)) (r (lg L i))]
  omega
theorem fr_step {p r : Nat → Nat} {L : List Nat} {M z i : Nat} {zs zf : Nat → Int32} (hz : z = L.length) (hB : bndL p r L) (h : frI p r L M z i zs zf) (hi : i < z) (hr : r (lg L i) * tot p (L.drop i) ≤ p (lg L i) * (M - tot r (L.take i))) :
    frI p r L M z (i + 1) (upd zs i (nI (r (lg L i)))) (upd zf i (nI 1)) := by
  obtain ⟨h1, h2, h3, h4, h5⟩ := h
  have hb := hB.2 _ (lg_mem (L := L) (i := i) (by omega))
  have hk := fr_rk (p := p) hb.2.1 (by omega) hr
  refine ⟨by omega, by rw [tot_take (by omega)]; omega, fun j hj => ?_, fun j hj => ?_, fun j hj => ?_⟩
  · unfold upd
    by_cases e : j = i
    · rw [if_pos e, if_pos (by omega)]
    · rw [if_neg e, h3 j hj]
      by_cases l : j < i
      · rw [if_pos l, if_pos (by omega)]
      · rw [if_neg l, if_neg (by omega)]
  · unfold upd
    by_cases e : j = i
    · rw [if_pos e, e]
    · rw [if_neg e]; exact h4 j (by omega)
  · rw [tot_take (by omega)]
    have hj0 : r (lg L j) * tot p (L.drop i) ≤ p (lg L j) * (M - tot r (L.take i)) := by
      rcases Nat.lt_or_ge j i with q | q
      · exact h5 j q
      · have e : j = i := by omega
        rw [e]; exact hr
    have hd := tot_drop (w := p) (L := L) (i := i) (by omega)
    rw [hd] at hj0 hr
    have e1 : M - (tot r (L.take i) + r (lg L i)) = (M - tot r (L.take i)) - r (lg L i) := by omega
    rw [e1]
    generalize M - tot r (L.take i) = m at *
    generalize tot p (L.drop (i + 1)) = P' at *
    generalize hpe : p (lg L i) = pi at *
    generalize r (lg L i) = ri at *
    refine Nat.le_of_mul_le_mul_right ?_ (show 0 < pi + P' by omega)
    have a1 : r (lg L j) * P' * (pi + P') = r (lg L j) * (pi + P') * P' := Nat.mul_right_comm _ _ _
    have a2 : r (lg L j) * (pi + P') * P' ≤ p (lg L j) * m * P' := Nat.mul_le_mul_right _ hj0
    have a3 : m * P' ≤ (m - ri) * (pi + P') := by
      rw [Nat.sub_mul, Nat.mul_add m, Nat.mul_comm m pi]
      omega
    have a4 : p (lg L j) * m * P' ≤ p (lg L j) * (m - ri) * (pi + P') := by rw [Nat.mul_assoc, Nat.mul_assoc]; exact Nat.mul_le_mul_left _ a3
    omega
theorem nodup_pos {L : List Nat} (hN : L.Nodup) {i j : Nat} (hi : i < L.length) (hj : j < L.length) (e : lg L i = lg L j) : i = j := by
  rw [lg_get hi, lg_get hj] at e
  exact (List.getElem_inj hN).mp e
theorem drop_mem {L : List Nat} (hN : L.Nodup) {i j : Nat} (hj : j < L.length) : lg L j ∈ L.drop i ↔ i ≤ j := by
  constructor
  · intro h
    obtain ⟨k, hk, e⟩ := List.getElem_of_mem h
    rw [List.length_drop] at hk
    rw [List.getElem_drop, ← lg_get (by omega)] at e
    have := nodup_pos hN (by omega) hj e
    omega
  · intro h
    have e : lg L j = (L.drop i)[j - i]'(by rw [List.length_drop]; omega) := by rw [List.getElem_drop, lg_get hj]; congr 1; omega
    rw [e]; exact List.getElem_mem _
theorem wsum_drop {L : List Nat} (hN : L.Nodup) (w : Nat → Nat) (i : Nat) : wsum w (fun k => decide (k ∈ L.drop i)) L = tot w (L.drop i) ∧ wsum w (fun k => !decide (k ∈ L.drop i)) L = tot w (L.take i) := by
  have hno : ∀ k, k ∈ L.take i → ¬ k ∈ L.drop i := by
    intro k h1 h2
    obtain ⟨x, hx, e⟩ := List.getElem_of_mem h1
    rw [List.length_take] at hx
    rw [List.getElem_take, ← lg_get (by omega)] at e
    rw [← e] at h2
    have := (drop_mem hN (i := i) (by omega)).mp h2
    omega
  have key : ∀ b : Nat → Bool, wsum w b L = wsum w b (L.take i) + wsum w b (L.drop i) := fun b => by rw [← wsum_app, List.take_append_drop]
  constructor
  · rw [key, wsum_none (fun k hk => decide_eq_false (hno k hk)), Nat.zero_add]
    exact wsum_congr (fun k hk => decide_eq_true hk) (fun _ _ _ => rfl)
  · rw [key, wsum_none (l := L.drop i) (fun k hk => by rw [decide_eq_true hk]; rfl), Nat.add_zero]
    exact wsum_congr (fun k hk => by rw [decide_eq_false (hno k hk)]; rfl) (fun _ _ _ => rfl)
theorem fr_end {p r : Nat → Nat} {L : List Nat} {M z i : Nat} {zs zf : Nat → Int32} (hz : z = L.length) (hB : bndL p r L) (hN : L.Nodup) (hso : sortedL p r L) (h : frI p r L M z i zs zf)
    (hc : z ≤ i ∨ ¬ r (lg L i) * tot p (L.drop i) ≤ p (lg L i) * (M - tot r (L.take i))) : endS p r L M zs zf z (lN (M - tot r (L.take i))) (lN (tot p (L.drop i))) := by
  obtain ⟨h1, h2, h3, h4, h5⟩ := h
  have hd := wsum_drop hN p i
  have hd2 := wsum_drop hN r i
  have g1 : goodS3 p r L M (fun k => decide (k ∈ L.drop i)) (M - tot r (L.take i)) := by
    refine ⟨by rw [hd2.2]; omega, fun k hk hk0 => ?_⟩
    obtain ⟨j, hj, e⟩ := mem_lg hk
    subst e
    have hk1 : ¬ lg L j ∈ L.drop i := of_decide_eq_false hk0
    rw [drop_mem hN hj] at hk1
    rw [hd.1]
    exact h5 j (by omega)
  have c1 : closedS p r L (fun k => decide (k ∈ L.drop i)) (M - tot r (L.take i)) := by
    intro k hk hk0
    obtain ⟨j, hj, e⟩ := mem_lg hk
    subst e
    have hk1 := (drop_mem hN hj).mp (of_decide_eq_true hk0)
    rw [hd.1]
    rcases hc with hc | hc
    · omega
    · have hbi := hB.2 _ (lg_mem (L := L) (i := i) (by omega))
      have hbj := hB.2 _ hk
      rcases Nat.eq_or_lt_of_le hk1 with e | q
      · rw [← e]; omega
      · have hs := hso i j q hj
        refine Nat.lt_of_mul_lt_mul_left (a := p (lg L i)) ?_
        have b1 : p (lg L j) * (p (lg L i) * (M - tot r (L.take i))) < p (lg L j) * (r (lg L i) * tot p (L.drop i)) := Nat.mul_lt_mul_of_pos_left (by omega) (by omega)
        have b2 : r (lg L i) * p (lg L j) * tot p (L.drop i) ≤ r (lg L j) * p (lg L i) * tot p (L.drop i) := Nat.mul_le_mul_right _ hs
        have b3 : p (lg L j) * (p (lg L i) * (M - tot r (L.take i))) = p (lg L i) * (p (lg L j) * (M - tot r (L.take i))) := Nat.mul_left_comm _ _ _
        have b4 : p (lg L j) * (r (lg L i) * tot p (L.drop i)) = r (lg L i) * p (lg L j) * tot p (L.drop i) := by rw [← Nat.mul_assoc, Nat.mul_comm (p (lg L j))]
        have b5 : p (lg L i) * (r (lg L j) * tot p (L.drop i)) = r (lg L j) * p (lg L i) * tot p (L.drop i) := by rw [← Nat.mul_assoc, Nat.mul_comm (p (lg L i))]
        omega
  obtain ⟨g2, c2⟩ := fin_good hB M
  obtain ⟨ea, em⟩ := good_one (fun k hk => (hB.2 k hk).2.1) g1 c1 g2 c2
  have eP : wsum p (fin p r L M).1 L = tot p (L.drop i) := by rw [← hd.1]; exact (wsum_congr (fun k hk => (ea k hk).symm) (fun _ _ _ => rfl))
  have eA : ∀ j, j < z → (fin p r L M).1 (lg L j) = decide (i ≤ j) := by
    intro j hj
    rw [← ea _ (lg_mem (by omega))]
    exact decide_eq_decide.mpr (drop_mem hN (by omega))
  refine ⟨fun j hj => ?_, fun j hj hA => ?_, by rw [← em], by rw [eP]⟩
  · rw [eA j hj, h3 j hj]
    by_cases l : j < i
    · rw [if_pos l, decide_eq_false (by omega)]; rfl
    · rw [if_neg l, decide_eq_true (by omega)]; rfl
  · rw [eA j hj] at hA
    exact h4 j (by have := of_decide_eq_false hA; omega)

theorem zz_ifp {c : Prop} [Decidable c] (h : (if c then 1 else 0) ≠ 0) : c := by
  by_cases q : c
  · exact q
  · rw [if_neg q] at h; exact absurd rfl h
theorem zz_ifq {c : Prop} [Decidable c] (h : (if c then 1 else 0) = 0) : ¬ c := by
  intro q
  rw [if_pos q] at h
  exact absurd h (by decide)

set_option maxHeartbeats 4000000 in
set_option maxRecDepth 100000 in
theorem c_X2_takeOut (l : Launch) {dC : Nat → ClassId} {dI : Nat → Nat → Nat} {cI cZ : ClassId} {ad : Nat → Nat} {sm fe ex dy : Int32} {gp gc op gr st dl wo : Nat → Int32} {n : Nat} {yc ya ys yd : Nat → Int32} {q : Nat} {zc zp zr zs zf : Nat → Int32} {z : Nat} {zm zt : Int64} {v : Nat} (hI : iwC ad) (hz : z ≤ 24) (hv : v < z) : Met l yX2_takeOut wsX2_takeOut { frames := 1, cells := 0, slots := 0, locals := 22 } (va_Pc [.ref (ad 14), .int (nI v)] (fun U => va_P (dC, dI) vwCl (wC cI cZ ad sm fe ex dy gp gc op gr st dl wo n yc ya ys yd q zc zp zr zs zf z zm zt) U.heap ∧ va_K (dC, dI) vwCl [(cI, .int), (cZ, .boolean)] U)) (va_Qv (fun _ : Unit => True) (fun _ t => va_P (dC, dI) vwCl (wC cI cZ ad sm fe ex dy gp gc op gr st dl wo n yc ya ys yd q (shF zc v (z - 1)) (shF zp v (z - 1)) (shF zr v (z - 1)) zs zf (z - 1) zm zt) t.heap) (awC ad)) 0 0 (awC ad) := by
  refine Met.ofW (cc := cX2_takeOut) (maxL := 3) (ret := none) (by decide) rfl ?_
  intro p e s m args below meth c s₁ B hml hv
  obtain ⟨rfl, hP, hK⟩ := hv
  have hx := B.exec
  have hb := B.bytes
  have hr := B.returns
  have hts := atoms_spec (ws := wsX2_takeOut) B.pre
  have hown : s.vm.findClass RX2 = some m.cls := findClass_of_methodNamed B.named
  have hlocks := B.notSynchronized
  have hS : va_S (awC ad) s.heap s.heap [] := va_S.rf
  have hl := lv_entry ([.ref (ad 14), .int (nI v)]) (n := 3) (Nat.le_of_ble_eq_true rfl)
  rw [lg_entry_eq]
  generalize (lg_sl ([.ref (ad 14), .int (nI v)]) ++ List.replicate (3 - (lg_sl ([.ref (ad 14), .int (nI v)])).length) Slot.unset).toArray = ls at hl ⊢
  have hl : lv_has ls 3 [(0, .ref (ad 14)), (1, .int (nI v))] := hl
  have hiX2 : ∀ w ∈ wsX20, w ∈ wsX2_takeOut := by decide +kernel
  have hf28 := hts (.fieldLink RX2 28 "SettlementFund$Sharing" "size" "I") (by decide +kernel)
  refine lv_iload_n hx hb dX2_takeOut_0 rfl (lv_at hl 1 rfl) ?_
  refine lv_istore_n (lv' := [(2, .int (nI v)), (0, .ref (ad 14)), (1, .int (nI v))]) hx hb dX2_takeOut_1 rfl hl (by decide) rfl (fun ls hl => ?_)
  have e_1 : zc = shF zc v v := (shF_0 ..).symm
  rw [e_1] at hP
  have e_2 : zp = shF zp v v := (shF_0 ..).symm
  rw [e_2] at hP
  have e_3 : zr = shF zr v v := (shF_0 ..).symm
  rw [e_3] at hP
  refine zl_rw (fun a9 : Nat => wC cI cZ ad sm fe ex dy gp gc op gr st dl wo n yc ya ys yd q (shF zc v a9) (shF zp v a9) (shF zr v a9) zs zf z zm zt) (fun a9 : Nat => [(0, .ref (ad 14)), (1, .int (nI v)), (2, .int (nI a9))]) (fun a9 : Nat => v ≤ a9 ∧ a9 < z) (fun a9 : Nat => z - a9) v (⟨Nat.le_refl _, hv⟩) hP hS (lv_sub hl [1, 2, 0] rfl) ?_
  intro a9 hi_2 ih_2 H locs hP hS ls hl
  obtain ⟨i, rfl⟩ : ∃ z, z = a9 := ⟨_, rfl⟩
  have hi_2 : v ≤ i ∧ i < z := hi_2
  obtain ⟨hvi, hiz⟩ := hi_2
  have hl : lv_has ls 3 [(0, .ref (ad 14)), (1, .int (nI v)), (2, .int (nI i))] := hl
  have hP : va_P (dC, dI) vwCl (wC cI cZ ad sm fe ex dy gp gc op gr st dl wo n yc ya ys yd q (shF zc v i) (shF zp v i) (shF zr v i) zs zf z zm zt) H := hP
  refine lv_iload_n hx hb dX2_takeOut_2 rfl (lv_at hl 2 rfl) ?_
  refine lv_iconst (v := nI 1) hx hb dX2_takeOut_3 (by decide) ?_
  refine lv_iadd hx hb dX2_takeOut_4 ?_
  refine zt_i (y := nI (i + 1)) (nI_add _ _) ?_
  refine lv_aload_n hx hb dX2_takeOut_5 rfl (lv_at hl 0 rfl) ?_
  refine gC_14_5 hx hb hts hiX2 hown hK hP hf28 dX2_takeOut_6 ?_
  refine zb_ge (tgt := 26) hx hb (by omega) (by omega) dX2_takeOut_9 (by decide) (fun c_9 => ?_) (fun c_9 => ?_)
  · refine lv_aload_n hx hb dX2_takeOut_26 rfl (lv_at hl 0 rfl) ?_
    refine lv_dup hx hb dX2_takeOut_27 rfl ?_
    refine gC_14_5 hx hb hts hiX2 hown hK hP hf28 dX2_takeOut_28 ?_
    refine lv_iconst (v := nI 1) hx hb dX2_takeOut_31 (by decide) ?_
    refine lv_isub hx hb dX2_takeOut_32 ?_
    refine zt_i (y := nI (z - 1)) (pk_sub (by omega)) ?_
    refine uC_14_5 hx hb hts hiX2 hown hK hP hf28 hI (fun _ h => h) hS dX2_takeOut_33 (fun H locs hP hS => ?_)
    have e_4 : shF zr v i = shF zr v (z - 1) := by rw [show i = z - 1 by omega]
    rw [e_4] at hP
    have e_5 : shF zp v i = shF zp v (z - 1) := by rw [show i = z - 1 by omega]
    rw [e_5] at hP
    have e_6 : shF zc v i = shF zc v (z - 1) := by rw [show i = z - 1 by omega]
    rw [e_6] at hP
    exact W.vret hx hb hr (fun t ht hW => ⟨⟨(), rfl, trivial, by (try dsimp only); rw [ht]; exact hP⟩, hS.F ht⟩) hS.2.2 dX2_takeOut_36
  · refine lv_aload_n hx hb dX2_takeOut_12 rfl (lv_at hl 0 rfl) ?_
    refine lv_iload_n hx hb dX2_takeOut_13 rfl (lv_at hl 2 rfl) ?_
    refine lv_iconst (v := nI 1) hx hb dX2_takeOut_14 (by decide) ?_
    refine lv_iadd hx hb dX2_takeOut_15 ?_
    refine zt_i (y := nI (i + 1)) (nI_add _ _) ?_
    refine lv_iload_n hx hb dX2_takeOut_16 rfl (lv_at hl 2 rfl) ?_
    refine k_X2_copyPlace l (i1 := i + 1) (i2 := i) (hi1 := (by omega)) (hi2 := (by omega)) hx hb hml hown hts hK hP gX2_takeOut_X2_copyPlace ⟨Nat.le_of_ble_eq_true rfl, Nat.le_of_ble_eq_true rfl⟩ ⟨Nat.le_of_ble_eq_true rfl, Nat.le_of_ble_eq_true rfl⟩ hl.1 (Nat.le_of_ble_eq_true rfl) dX2_takeOut_17 hI (fun _ h => h) hS (fun H locs hP hS _ => ?_)
    refine lv_iinc (v := nI (i + 1)) (lv' := [(2, .int (nI (i + 1))), (0, .ref (ad 14)), (1, .int (nI v))]) hx hb dX2_takeOut_20 hl (k := 2) rfl (zz_inc _) (by decide) rfl (fun ls hl => ?_)
    refine lv_goto (tgt := 2) hx hb dX2_takeOut_23 (by decide) ?_
    have e_7 : upd (shF zc v i) i ((shF zc v i) (i + 1)) = shF zc v (i + 1) := shF_s (by omega)
    rw [e_7] at hP
    have e_8 : upd (shF zp v i) i ((shF zp v i) (i + 1)) = shF zp v (i + 1) := shF_s (by omega)
    rw [e_8] at hP
    have e_9 : upd (shF zr v i) i ((shF zr v i) (i + 1)) = shF zr v (i + 1) := shF_s (by omega)
    rw [e_9] at hP
    exact ih_2 (i + 1) (⟨by omega, by omega⟩) (by omega) H locs hP hS ls (lv_sub hl [1, 2, 0] rfl)
section
variable {p : Program} {e : Env} {R : Room} {s : State} {m : MethodId} {args : Array Value} {below : List Frame} {meth : Method} {c : Code} {H : Heap} {locs : List Loc} {cells slots : Nat} {Q : State → Prop} {cc : ByteArray} {pc : Nat} {ls : Array Slot} {rest : List Value} {own : String} {index nL : Nat} {Ts : List Cond} {H0 : Heap} {A0 : Nat → Prop}
theorem k_X2_takeOut (l : Launch) {dC : Nat → ClassId} {dI : Nat → Nat → Nat} {cI cZ : ClassId} {ad : Nat → Nat} {sm fe ex dy : Int32} {gp gc op gr st dl wo : Nat → Int32} {n : Nat} {yc ya ys yd : Nat → Int32} {q : Nat} {zc zp zr zs zf : Nat → Int32} {z : Nat} {zm zt : Int64} {v : Nat} (hz : z ≤ 24) (hv : v < z) (hx : p.tables.exec = Jvm.exec) (hb : c.code = cc) (hml : c.maxLocals = nL) (hown : s.vm.findClass own = some m.cls) (hts : ∀ w ∈ Ts, w.before args s = true) (hK : va_K (dC, dI) vwCl [(cI, .int), (cZ, .boolean)] s) (hP : va_P (dC, dI) vwCl (wC cI cZ ad sm fe ex dy gp gc op gr st dl wo n yc ya ys yd q zc zp zr zs zf z zm zt) H) (hg9 : GoodIn Ts (wsV own index RX2 yX2_takeOut wsX2_takeOut)) (hR9 : 1 + 1 ≤ R.frames ∧ 8 + (3 + 11) + 22 ≤ R.locals) (hc9 : cells ≤ R.cells ∧ slots ≤ R.slots) (hl9 : ls.size = nL) (hw9 : (rest.map fun v => v.category).sum ≤ 8) (hdg : decode cc pc = .ok (.invokevirtual index, 3)) (hI : iwC ad) (hA : ∀ x, awC ad x → A0 x) (hS : va_S A0 H0 H locs) (kk : ∀ (H1 : Heap) (locs1 : List Loc), va_P (dC, dI) vwCl (wC cI cZ ad sm fe ex dy gp gc op gr st dl wo n yc ya ys yd q (shF zc v (z - 1)) (shF zp v (z - 1)) (shF zr v (z - 1)) zs zf (z - 1) zm zt) H1 → va_S A0 H0 H1 locs1 → (∀ q : Nat, q < H.size → ¬ awC ad q → H1[q]? = H[q]?) → W p l e R s m args below meth c H1 locs1 cells slots Q (F0 m (pc + 3) ls (rest))) : W p l e R s m args below meth c H locs cells slots Q (F0 m pc ls (.int (nI v) :: .ref (ad 14) :: rest)) := va_callv (va_runV (As := [.int (nI v)]) (rest := rest) ⟨hx, hb, hml, hown, hts⟩ (c_X2_takeOut (dC := dC) (dI := dI) (cI := cI) (cZ := cZ) (ad := ad) (sm := sm) (fe := fe) (ex := ex) (dy := dy) (gp := gp) (gc := gc) (op := op) (gr := gr) (st := st) (dl := dl) (wo := wo) (n := n) (yc := yc) (ya := ya) (ys := ys) (yd := yd) (q := q) (zc := zc) (zp := zp) (zr := zr) (zs := zs) (zf := zf) (z := z) (zm := zm) (zt := zt) (v := v) l hI hz hv) (cwV 1 hts hg9 rfl rfl rfl (by decide +kernel) hR9) ⟨fun a U g mk q => ⟨q.1, q.2.1, va_K.moved (u := U) (U := U.calling g mk a) (Vm.Alike.refl U.vm) q.2.2⟩, rC_14 hK hP, fun U hU hW => ⟨rfl, by rw [hU]; exact hP, va_K.moved hW.alike hK⟩⟩ rfl rfl hl9 rfl (lv_room hw9) hdg hc9) hS (fun q _ h => hA q h) hA (fun u t H1 locs1 ht _ hu hB hz hk hS1 => kk H1 locs1 (by rw [ht] at hB; exact hB) hS1 hk)
end
set_option maxHeartbeats 4000000 in
set_option maxRecDepth 100000 in
theorem c_X2_fillFromFront (l : Launch) {dC : Nat → ClassId} {dI : Nat → Nat → Nat} {cI cZ : ClassId} {ad : Nat → Nat} {sm fe ex dy : Int32} {gp gc op gr st dl wo : Nat → Int32} {n : Nat} {yc ya ys yd : Nat → Int32} {q : Nat} {zc zp zr zs zf : Nat → Int32} {z : Nat} {zm zt : Int64} {L : List Nat} {pf : Nat → Nat} {rf : Nat → Nat} {M : Nat} (hI : iwC ad) (hR : repL pf rf L zc zp zr z) (hB : bndL pf rf L) (hN : L.Nodup) (hso : sortedL pf rf L) (hf0 : ∀ i, i < z → zf i = nI 0) (hmm : M ≤ 10000000) (hm : zm = lN M) (ht0 : zt = lN (tot pf L)) : Met l yX2_fillFromFront wsX2_fillFromFront { frames := 1, cells := 0, slots := 0, locals := 25 } (va_Pc [.ref (ad 14)] (fun U => va_P (dC, dI) vwCl (wC cI cZ ad sm fe ex dy gp gc op gr st dl wo n yc ya ys yd q zc zp zr zs zf z zm zt) U.heap ∧ va_K (dC, dI) vwCl [(cI, .int), (cZ, .boolean)] U)) (va_Qv (fun u9 : (Nat → Int32) × (Nat → Int32) × Int64 × Int64 => endS pf rf L M u9.1 u9.2.1 z u9.2.2.1 u9.2.2.2) (fun u9 t => va_P (dC, dI) vwCl (wC cI cZ ad sm fe ex dy gp gc op gr st dl wo n yc ya ys yd q zc zp zr u9.1 u9.2.1 z u9.2.2.1 u9.2.2.2) t.heap) (awC ad)) 0 0 (awC ad) := by
  refine Met.ofW (cc := cX2_fillFromFront) (maxL := 2) (ret := none) (by decide) rfl ?_
  intro p e s m args below meth c s₁ B hml hv
  obtain ⟨rfl, hP, hK⟩ := hv
  have hx := B.exec
  have hb := B.bytes
  have hr := B.returns
  have hts := atoms_spec (ws := wsX2_fillFromFront) B.pre
  have hown : s.vm.findClass RX2 = some m.cls := findClass_of_methodNamed B.named
  have hlocks := B.notSynchronized
  have hS : va_S (awC ad) s.heap s.heap [] := va_S.rf
  have hl := lv_entry ([.ref (ad 14)]) (n := 2) (Nat.le_of_ble_eq_true rfl)
  rw [lg_entry_eq]
  generalize (lg_sl ([.ref (ad 14)]) ++ List.replicate (2 - (lg_sl ([.ref (ad 14)])).length) Slot.unset).toArray = ls at hl ⊢
  have hl : lv_has ls 2 [(0, .ref (ad 14))] := hl
  have hz := hR.z hB
  have hzl := hR.1
  have hiX2 : ∀ w ∈ wsX20, w ∈ wsX2_fillFromFront := by decide +kernel
  have hf28 := hts (.fieldLink RX2 28 "SettlementFund$Sharing" "size" "I") (by decide +kernel)
  have hf47 := hts (.fieldLink RX2 47 "SettlementFund$Sharing" "restMoney" "J") (by decide +kernel)
  have hf51 := hts (.fieldLink RX2 51 "SettlementFund$Sharing" "restPoints" "J") (by decide +kernel)
  refine lv_iconst (v := nI 0) hx hb dX2_fillFromFront_0 (by decide) ?_
  refine lv_istore_n (lv' := [(1, .int (nI 0)), (0, .ref (ad 14))]) hx hb dX2_fillFromFront_1 rfl hl (by decide) rfl (fun ls hl => ?_)
  have e_1 : zm = lN (M - tot rf (L.take 0)) := hm
  rw [e_1] at hP
  have e_2 : zt = lN (tot pf (L.drop 0)) := ht0
  rw [e_2] at hP
  refine zl_rw (fun a9 : Nat × (Nat → Int32) × (Nat → Int32) => wC cI cZ ad sm fe ex dy gp gc op gr st dl wo n yc ya ys yd q zc zp zr a9.2.1 a9.2.2 z (lN (M - tot rf (L.take a9.1))) (lN (tot pf (L.drop a9.1)))) (fun a9 : Nat × (Nat → Int32) × (Nat → Int32) => [(0, .ref (ad 14)), (1, .int (nI a9.1))]) (fun a9 : Nat × (Nat → Int32) × (Nat → Int32) => frI pf rf L M z a9.1 a9.2.1 a9.2.2) (fun a9 : Nat × (Nat → Int32) × (Nat → Int32) => z - a9.1) (0, zs, zf) (⟨Nat.zero_le _, Nat.zero_le _, fun j hj => (hf0 j hj).trans (by simp), fun j h => absurd h (Nat.not_lt_zero j), fun j h => absurd h (Nat.not_lt_zero j)⟩) hP hS (lv_sub hl [1, 0] rfl) ?_
  intro a9 hi_2 ih_2 H locs hP hS ls hl
  obtain ⟨i, zs2, zf2⟩ := a9
  have hi_2 : frI pf rf L M z i zs2 zf2 := hi_2
  have hl : lv_has ls 2 [(0, .ref (ad 14)), (1, .int (nI i))] := hl
  have hP : va_P (dC, dI) vwCl (wC cI cZ ad sm fe ex dy gp gc op gr st dl wo n yc ya ys yd q zc zp zr zs2 zf2 z (lN (M - tot rf (L.take i))) (lN (tot pf (L.drop i)))) H := hP
  have hiz := hi_2.1
  refine lv_iload_n hx hb dX2_fillFromFront_2 rfl (lv_at hl 1 rfl) ?_
  refine lv_aload_n hx hb dX2_fillFromFront_3 rfl (lv_at hl 0 rfl) ?_
  refine gC_14_5 hx hb hts hiX2 hown hK hP hf28 dX2_fillFromFront_4 ?_
  refine zb_ge (tgt := 37) hx hb (by omega) (by omega) dX2_fillFromFront_7 (by decide) (fun c_7 => ?_) (fun c_7 => ?_)
  · exact W.vret hx hb hr (fun t ht hW => ⟨⟨(zs2, zf2, lN (M - tot rf (L.take i)), lN (tot pf (L.drop i))), rfl, fr_end hzl hB hN hso hi_2 (Or.inl (by omega)), by (try dsimp only); rw [ht]; exact hP⟩, hS.F ht⟩) hS.2.2 dX2_fillFromFront_37
  · have hbi := hR.b hB (i := i) (by omega)
    have h24 := tot_24 hB i
    have hrp := hR.2 i (by omega)
    refine lv_aload_n hx hb dX2_fillFromFront_10 rfl (lv_at hl 0 rfl) ?_
    refine lv_iload_n hx hb dX2_fillFromFront_11 rfl (lv_at hl 1 rfl) ?_
    refine lv_aload_n hx hb dX2_fillFromFront_12 rfl (lv_at hl 0 rfl) ?_
    refine gC_14_6 hx hb hts hiX2 hown hK hP hf47 dX2_fillFromFront_13 ?_
    refine lv_aload_n hx hb dX2_fillFromFront_16 rfl (lv_at hl 0 rfl) ?_
    refine gC_14_7 hx hb hts hiX2 hown hK hP hf51 dX2_fillFromFront_17 ?_
    refine k_X2_reachesRoom l (k := i) (rk := rf (lg L i)) (pk := pf (lg L i)) (mm := M - tot rf (L.take i)) (tt := tot pf (L.drop i)) (hk := (by omega)) (hr1 := hrp.2.2) (hp1 := hrp.2.1) (hb1 := hbi.2.2.2) (hb2 := hbi.2.2.1) (hmm := (by omega)) (htt := h24) hx hb hml hown hts hK hP gX2_fillFromFront_X2_reachesRoom ⟨Nat.le_of_ble_eq_true rfl, Nat.le_of_ble_eq_true rfl⟩ ⟨Nat.le_of_ble_eq_true rfl, Nat.le_of_ble_eq_true rfl⟩ hl.1 (Nat.le_of_ble_eq_true rfl) dX2_fillFromFront_20 ?_
    refine zi_eq (tgt := 37) hx hb (by split <;> decide) dX2_fillFromFront_23 (by decide) (fun c_23 => ?_) (fun c_23 => ?_)
    · exact W.vret hx hb hr (fun t ht hW => ⟨⟨(zs2, zf2, lN (M - tot rf (L.take i)), lN (tot pf (L.drop i))), rfl, fr_end hzl hB hN hso hi_2 (Or.inr (zz_ifq c_23)), by (try dsimp only); rw [ht]; exact hP⟩, hS.F ht⟩) hS.2.2 dX2_fillFromFront_37
    · have hch : rf (lg L i) * tot pf (L.drop i) ≤ pf (lg L i) * (M - tot rf (L.take i)) := zz_ifp c_23
      have hrk := fr_rk hbi.2.1 (by omega) hch
      refine lv_aload_n hx hb dX2_fillFromFront_26 rfl (lv_at hl 0 rfl) ?_
      refine lv_iload_n hx hb dX2_fillFromFront_27 rfl (lv_at hl 1 rfl) ?_
      refine k_X2_fill l (k := i) (rk := rf (lg L i)) (pk := pf (lg L i)) (mm := M - tot rf (L.take i)) (tt := tot pf (L.drop i)) (hk := (by omega)) (hr1 := hrp.2.2) (hp1 := hrp.2.1) (hb1 := hbi.2.2.2) (hb2 := hbi.2.2.1) (hm := rfl) (ht0 := rfl) (h1 := hrk) (h2 := (by rw [tot_drop (by omega)]; omega)) hx hb hml hown hts hK hP gX2_fillFromFront_X2_fill ⟨Nat.le_of_ble_eq_true rfl, Nat.le_of_ble_eq_true rfl⟩ ⟨Nat.le_of_ble_eq_true rfl, Nat.le_of_ble_eq_true rfl⟩ hl.1 (Nat.le_of_ble_eq_true rfl) dX2_fillFromFront_28 hI (fun _ h => h) hS (fun H locs hP hS _ => ?_)
      refine lv_iinc (v := nI (i + 1)) (lv' := [(1, .int (nI (i + 1))), (0, .ref (ad 14))]) hx hb dX2_fillFromFront_31 hl (k := 1) rfl (zz_inc _) (by decide) rfl (fun ls hl => ?_)
      refine lv_goto (tgt := 2) hx hb dX2_fillFromFront_34 (by decide) ?_
      have e_3 : upd zs2 i (nI (rf (lg L i))) = (upd zs2 i (nI (rf (lg L i)))) := by first | rfl | (simp [c_7, c_23]; done)
      rw [e_3] at hP
      have e_4 : upd zf2 i (nI 1) = (upd zf2 i (nI 1)) := by first | rfl | (simp [c_7, c_23]; done)
      rw [e_4] at hP
      have e_5 : lN ((M - tot rf (L.take i)) - (rf (lg L i))) = lN (M - tot rf (L.take (i + 1))) := by rw [tot_take (by omega), Nat.sub_add_eq]
      rw [e_5] at hP
      have e_6 : lN ((tot pf (L.drop i)) - (pf (lg L i))) = lN (tot pf (L.drop (i + 1))) := by rw [tot_drop (L := L) (i := i) (by omega), Nat.add_sub_cancel_left]
      rw [e_6] at hP
      exact ih_2 (i + 1, upd zs2 i (nI (rf (lg L i))), upd zf2 i (nI 1)) (fr_step hzl hB hi_2 (by omega) hch) (by omega) H locs hP hS ls (lv_sub hl [1, 0] rfl)
section
variable {p : Program} {e : Env} {R : Room} {s : State} {m : MethodId} {args : Array Value} {below : List Frame} {meth : Method} {c : Code} {H : Heap} {locs : List Loc} {cells slots : Nat} {Q : State → Prop} {cc : ByteArray} {pc : Nat} {ls : Array Slot} {rest : List Value} {own : String} {index nL : Nat} {Ts : List Cond} {H0 : Heap} {A0 : Nat → Prop}
theorem k_X2_fillFromFront (l : Launch) {dC : Nat → ClassId} {dI : Nat → Nat → Nat} {cI cZ : ClassId} {ad : Nat → Nat} {sm fe ex dy : Int32} {gp gc op gr st dl wo : Nat → Int32} {n : Nat} {yc ya ys yd : Nat → Int32} {q : Nat} {zc zp zr zs zf : Nat → Int32} {z : Nat} {zm zt : Int64} {L : List Nat} {pf : Nat → Nat} {rf : Nat → Nat} {M : Nat} (hR : repL pf rf L zc zp zr z) (hB : bndL pf rf L) (hN : L.Nodup) (hso : sortedL pf rf L) (hf0 : ∀ i, i < z → zf i = nI 0) (hmm : M ≤ 10000000) (hm : zm = lN M) (ht0 : zt = lN (tot pf L)) (hx : p.tables.exec = Jvm.exec) (hb : c.code = cc) (hml : c.maxLocals = nL) (hown : s.vm.findClass own = some m.cls) (hts : ∀ w ∈ Ts, w.before args s = true) (hK : va_K (dC, dI) vwCl [(cI, .int), (cZ, .boolean)] s) (hP : va_P (dC, dI) vwCl (wC cI cZ ad sm fe ex dy gp gc op gr st dl wo n yc ya ys yd q zc zp zr zs zf z zm zt) H) (hg9 : GoodIn Ts (wsV own index RX2 yX2_fillFromFront wsX2_fillFromFront)) (hR9 : 1 + 1 ≤ R.frames ∧ 8 + (2 + 11) + 25 ≤ R.locals) (hc9 : cells ≤ R.cells ∧ slots ≤ R.slots) (hl9 : ls.size = nL) (hw9 : (rest.map fun v => v.category).sum ≤ 8) (hdg : decode cc pc = .ok (.invokevirtual index, 3)) (hI : iwC ad) (hA : ∀ x, awC ad x → A0 x) (hS : va_S A0 H0 H locs) (kk : ∀ (u9 : (Nat → Int32) × (Nat → Int32) × Int64 × Int64), (endS pf rf L M u9.1 u9.2.1 z u9.2.2.1 u9.2.2.2) → ∀ (H1 : Heap) (locs1 : List Loc), va_P (dC, dI) vwCl (wC cI cZ ad sm fe ex dy gp gc op gr st dl wo n yc ya ys yd q zc zp zr u9.1 u9.2.1 z u9.2.2.1 u9.2.2.2) H1 → va_S A0 H0 H1 locs1 → (∀ q : Nat, q < H.size → ¬ awC ad q → H1[q]? = H[q]?) → W p l e R s m args below meth c H1 locs1 cells slots Q (F0 m (pc + 3) ls rest)) : W p l e R s m args below meth c H locs cells slots Q (F0 m pc ls (.ref (ad 14) :: rest)) := va_callv (va_runV (As := []) (rest := rest) ⟨hx, hb, hml, hown, hts⟩ (c_X2_fillFromFront (dC := dC) (dI := dI) (cI := cI) (cZ := cZ) (ad := ad) (sm := sm) (fe := fe) (ex := ex) (dy := dy) (gp := gp) (gc := gc) (op := op) (gr := gr) (st := st) (dl := dl) (wo := wo) (n := n) (yc := yc) (ya := ya) (ys := ys) (yd := yd) (q := q) (zc := zc) (zp := zp) (zr := zr) (zs := zs) (zf := zf) (z := z) (zm := zm) (zt := zt) (L := L) (pf := pf) (rf := rf) (M := M) l hI hR hB hN hso hf0 hmm hm ht0) (cwV 0 hts hg9 rfl rfl rfl (by decide +kernel) hR9) ⟨fun a U g mk q => ⟨q.1, q.2.1, va_K.moved (u := U) (U := U.calling g mk a) (Vm.Alike.refl U.vm) q.2.2⟩, rC_14 hK hP, fun U hU hW => ⟨rfl, by rw [hU]; exact hP, va_K.moved hW.alike hK⟩⟩ rfl rfl hl9 rfl (lv_room hw9) hdg hc9) hS (fun q _ h => hA q h) hA (fun u t H1 locs1 ht _ hu hB hz hk hS1 => kk u hu H1 locs1 (by rw [ht] at hB; exact hB) hS1 hk)
end
