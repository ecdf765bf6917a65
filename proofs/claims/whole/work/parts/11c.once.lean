
set_option maxHeartbeats 4000000 in
set_option maxRecDepth 100000 in
theorem c_X2_shareOnce (l : Launch) {dC : Nat → ClassId} {dI : Nat → Nat → Nat} {cI cZ : ClassId} {ad : Nat → Nat} {sm fe ex dy : Int32} {gp gc op gr st dl wo : Nat → Int32} {n : Nat} {yc ya ys yd : Nat → Int32} {q : Nat} {zc zp zr zs zf : Nat → Int32} {z : Nat} {zm zt : Int64} {L : List Nat} {pf : Nat → Nat} {rf : Nat → Nat} {M : Nat} {b : Int32} (hI : iwC ad) (hR : repL pf rf L zc zp zr z) (hB : bndL pf rf L) (hN : L.Nodup) (hso : b = 0 ∨ sortedL pf rf L) (hmm : M ≤ 10000000) : Met l yX2_shareOnce wsX2_shareOnce { frames := 2, cells := 0, slots := 0, locals := 52 } (va_Pc [.ref (ad 14), .int (nI M), .int b] (fun U => va_P (dC, dI) vwCl (wC cI cZ ad sm fe ex dy gp gc op gr st dl wo n yc ya ys yd q zc zp zr zs zf z zm zt) U.heap ∧ va_K (dC, dI) vwCl [(cI, .int), (cZ, .boolean)] U)) (va_Qv (fun u9 : (Nat → Int32) × (Nat → Int32) × Int64 × Int64 => ∀ i, i < z → u9.1 i = nI (shr pf rf L M (lg L i))) (fun u9 t => va_P (dC, dI) vwCl (wC cI cZ ad sm fe ex dy gp gc op gr st dl wo n yc ya ys yd q zc zp zr u9.1 u9.2.1 z u9.2.2.1 u9.2.2.2) t.heap) (awC ad)) 0 0 (awC ad) := by
  refine Met.ofW (cc := cX2_shareOnce) (maxL := 4) (ret := none) (by decide) rfl ?_
  intro p e s m args below meth c s₁ B hml hv
  obtain ⟨rfl, hP, hK⟩ := hv
  have hx := B.exec
  have hb := B.bytes
  have hr := B.returns
  have hts := atoms_spec (ws := wsX2_shareOnce) B.pre
  have hown : s.vm.findClass RX2 = some m.cls := findClass_of_methodNamed B.named
  have hlocks := B.notSynchronized
  have hS : va_S (awC ad) s.heap s.heap [] := va_S.rf
  have hl := lv_entry ([.ref (ad 14), .int (nI M), .int b]) (n := 4) (Nat.le_of_ble_eq_true rfl)
  rw [lg_entry_eq]
  generalize (lg_sl ([.ref (ad 14), .int (nI M), .int b]) ++ List.replicate (4 - (lg_sl ([.ref (ad 14), .int (nI M), .int b])).length) Slot.unset).toArray = ls at hl ⊢
  have hl : lv_has ls 4 [(0, .ref (ad 14)), (1, .int (nI M)), (2, .int b)] := hl
  have hz := hR.z hB
  have hzl := hR.1
  have hiX2 : ∀ w ∈ wsX20, w ∈ wsX2_shareOnce := by decide +kernel
  have hf47 := hts (.fieldLink RX2 47 "SettlementFund$Sharing" "restMoney" "J") (by decide +kernel)
  have hf51 := hts (.fieldLink RX2 51 "SettlementFund$Sharing" "restPoints" "J") (by decide +kernel)
  have hf28 := hts (.fieldLink RX2 28 "SettlementFund$Sharing" "size" "I") (by decide +kernel)
  have hf24 := hts (.fieldLink RX2 24 "SettlementFund$Sharing" "isFull" "[Z") (by decide +kernel)
  have hf15 := hts (.fieldLink RX2 15 "SettlementFund$Sharing" "points" "[I") (by decide +kernel)
  refine lv_aload_n hx hb dX2_shareOnce_0 rfl (lv_at hl 0 rfl) ?_
  refine lv_iload_n hx hb dX2_shareOnce_1 rfl (lv_at hl 1 rfl) ?_
  refine lv_i2l (v := lN M) hx hb dX2_shareOnce_2 (nI_l (by omega)) ?_
  refine uC_14_6 hx hb hts hiX2 hown hK hP hf47 hI (fun _ h => h) hS dX2_shareOnce_3 (fun H locs hP hS => ?_)
  refine lv_aload_n hx hb dX2_shareOnce_6 rfl (lv_at hl 0 rfl) ?_
  refine lv_lconst (v := lN 0) hx hb dX2_shareOnce_7 (by decide) ?_
  refine uC_14_7 hx hb hts hiX2 hown hK hP hf51 hI (fun _ h => h) hS dX2_shareOnce_8 (fun H locs hP hS => ?_)
  refine lv_iconst (v := nI 0) hx hb dX2_shareOnce_11 (by decide) ?_
  refine lv_istore_n (lv' := [(3, .int (nI 0)), (0, .ref (ad 14)), (1, .int (nI M)), (2, .int b)]) hx hb dX2_shareOnce_12 rfl hl (by decide) rfl (fun ls hl => ?_)
  have e_1 : lN 0 = lN (tot pf (L.take 0)) := rfl
  rw [e_1] at hP
  refine zl_rw (fun a9 : Nat × (Nat → Int32) => wC cI cZ ad sm fe ex dy gp gc op gr st dl wo n yc ya ys yd q zc zp zr zs a9.2 z (lN M) (lN (tot pf (L.take a9.1)))) (fun a9 : Nat × (Nat → Int32) => [(0, .ref (ad 14)), (1, .int (nI M)), (2, .int b), (3, .int (nI a9.1))]) (fun a9 : Nat × (Nat → Int32) => a9.1 ≤ z ∧ ∀ j, j < a9.1 → a9.2 j = nI 0) (fun a9 : Nat × (Nat → Int32) => z - a9.1) (0, zf) (⟨Nat.zero_le _, fun j h => absurd h (Nat.not_lt_zero j)⟩) hP hS (lv_sub hl [1, 2, 3, 0] rfl) ?_
  intro a9 hi_13 ih_13 H locs hP hS ls hl
  obtain ⟨i, zf2⟩ := a9
  have hi_13 : i ≤ z ∧ ∀ j, j < i → zf2 j = nI 0 := hi_13
  obtain ⟨hi, ho⟩ := hi_13
  have hl : lv_has ls 4 [(0, .ref (ad 14)), (1, .int (nI M)), (2, .int b), (3, .int (nI i))] := hl
  have hP : va_P (dC, dI) vwCl (wC cI cZ ad sm fe ex dy gp gc op gr st dl wo n yc ya ys yd q zc zp zr zs zf2 z (lN M) (lN (tot pf (L.take i)))) H := hP
  refine lv_iload_n hx hb dX2_shareOnce_13 rfl (lv_at hl 3 rfl) ?_
  refine lv_aload_n hx hb dX2_shareOnce_14 rfl (lv_at hl 0 rfl) ?_
  refine gC_14_5 hx hb hts hiX2 hown hK hP hf28 dX2_shareOnce_15 ?_
  refine zb_ge (tgt := 50) hx hb (by omega) (by omega) dX2_shareOnce_18 (by decide) (fun c_18 => ?_) (fun c_18 => ?_)
  · have e_2 : lN (tot pf (L.take i)) = lN (tot pf L) := by rw [take_all hzl (by omega)]
    rw [e_2] at hP
    refine lv_iload_n hx hb dX2_shareOnce_50 rfl (lv_at hl 2 rfl) ?_
    refine lv_if_eq (tgt := 61) hx hb dX2_shareOnce_51 (by decide) (fun c_51 => ?_) (fun c_51 => ?_)
    · refine lv_aload_n hx hb dX2_shareOnce_61 rfl (lv_at hl 0 rfl) ?_
      refine k_X2_fillInLooks l (L := L) (pf := pf) (rf := rf) (M := M) (hR := hR) (hB := hB) (hf0 := (fun j hj => ho j (by omega))) (hmm := hmm) (hm := rfl) (ht0 := rfl) hx hb hml hown hts hK hP gX2_shareOnce_X2_fillInLooks ⟨Nat.le_of_ble_eq_true rfl, Nat.le_of_ble_eq_true rfl⟩ ⟨Nat.le_of_ble_eq_true rfl, Nat.le_of_ble_eq_true rfl⟩ hl.1 (Nat.le_of_ble_eq_true rfl) dX2_shareOnce_62 hI (fun _ h => h) hS (fun u9 hu9 H locs hP hS _ => ?_)
      obtain ⟨zs5, zf5, zm5, zt5⟩ := u9
      have hP : va_P (dC, dI) vwCl (wC cI cZ ad sm fe ex dy gp gc op gr st dl wo n yc ya ys yd q zc zp zr zs5 zf5 z zm5 zt5) H := hP
      have hu_62 : endS pf rf L M zs5 zf5 z zm5 zt5 := hu9
      refine lv_aload_n hx hb dX2_shareOnce_65 rfl (lv_at hl 0 rfl) ?_
      refine k_X2_shareRestByPoints l (L := L) (pf := pf) (rf := rf) (A := (fin pf rf L M).1) (mm := (fin pf rf L M).2) (hR := hR) (hB := hB) (hF := hu_62.1) (hs := hu_62.2.1) (hmm := (Nat.le_trans (fin_le hB M) hmm)) (hm := hu_62.2.2.1) (ht0 := hu_62.2.2.2) hx hb hml hown hts hK hP gX2_shareOnce_X2_shareRestByPoints ⟨Nat.le_of_ble_eq_true rfl, Nat.le_of_ble_eq_true rfl⟩ ⟨Nat.le_of_ble_eq_true rfl, Nat.le_of_ble_eq_true rfl⟩ hl.1 (Nat.le_of_ble_eq_true rfl) dX2_shareOnce_66 hI (fun _ h => h) hS (fun u9 hu9 H locs hP hS _ => ?_)
      obtain ⟨zs6, rfl⟩ : ∃ z, z = u9 := ⟨_, rfl⟩
      have hP : va_P (dC, dI) vwCl (wC cI cZ ad sm fe ex dy gp gc op gr st dl wo n yc ya ys yd q zc zp zr zs6 zf5 z zm5 zt5) H := hP
      have hu_66 : ∀ i, i < z → zs6 i = nI (shA pf rf L ((fin pf rf L M).1) ((fin pf rf L M).2) (lg L i)) := hu9
      exact W.vret hx hb hr (fun t ht hW => ⟨⟨(zs6, zf5, zm5, zt5), rfl, hu_66, by (try dsimp only); rw [ht]; exact hP⟩, hS.F ht⟩) hS.2.2 dX2_shareOnce_69
    · refine lv_aload_n hx hb dX2_shareOnce_54 rfl (lv_at hl 0 rfl) ?_
      refine k_X2_fillFromFront l (L := L) (pf := pf) (rf := rf) (M := M) (hR := hR) (hB := hB) (hN := hN) (hso := (hso.resolve_left c_51)) (hf0 := (fun j hj => ho j (by omega))) (hmm := hmm) (hm := rfl) (ht0 := rfl) hx hb hml hown hts hK hP gX2_shareOnce_X2_fillFromFront ⟨Nat.le_of_ble_eq_true rfl, Nat.le_of_ble_eq_true rfl⟩ ⟨Nat.le_of_ble_eq_true rfl, Nat.le_of_ble_eq_true rfl⟩ hl.1 (Nat.le_of_ble_eq_true rfl) dX2_shareOnce_55 hI (fun _ h => h) hS (fun u9 hu9 H locs hP hS _ => ?_)
      obtain ⟨zs5, zf5, zm5, zt5⟩ := u9
      have hP : va_P (dC, dI) vwCl (wC cI cZ ad sm fe ex dy gp gc op gr st dl wo n yc ya ys yd q zc zp zr zs5 zf5 z zm5 zt5) H := hP
      have hu_55 : endS pf rf L M zs5 zf5 z zm5 zt5 := hu9
      refine lv_goto (tgt := 65) hx hb dX2_shareOnce_58 (by decide) ?_
      refine lv_aload_n hx hb dX2_shareOnce_65 rfl (lv_at hl 0 rfl) ?_
      refine k_X2_shareRestByPoints l (L := L) (pf := pf) (rf := rf) (A := (fin pf rf L M).1) (mm := (fin pf rf L M).2) (hR := hR) (hB := hB) (hF := hu_55.1) (hs := hu_55.2.1) (hmm := (Nat.le_trans (fin_le hB M) hmm)) (hm := hu_55.2.2.1) (ht0 := hu_55.2.2.2) hx hb hml hown hts hK hP gX2_shareOnce_X2_shareRestByPoints ⟨Nat.le_of_ble_eq_true rfl, Nat.le_of_ble_eq_true rfl⟩ ⟨Nat.le_of_ble_eq_true rfl, Nat.le_of_ble_eq_true rfl⟩ hl.1 (Nat.le_of_ble_eq_true rfl) dX2_shareOnce_66 hI (fun _ h => h) hS (fun u9 hu9 H locs hP hS _ => ?_)
      obtain ⟨zs6, rfl⟩ : ∃ z, z = u9 := ⟨_, rfl⟩
      have hP : va_P (dC, dI) vwCl (wC cI cZ ad sm fe ex dy gp gc op gr st dl wo n yc ya ys yd q zc zp zr zs6 zf5 z zm5 zt5) H := hP
      have hu_66 : ∀ i, i < z → zs6 i = nI (shA pf rf L ((fin pf rf L M).1) ((fin pf rf L M).2) (lg L i)) := hu9
      exact W.vret hx hb hr (fun t ht hW => ⟨⟨(zs6, zf5, zm5, zt5), rfl, hu_66, by (try dsimp only); rw [ht]; exact hP⟩, hS.F ht⟩) hS.2.2 dX2_shareOnce_69
  · refine lv_aload_n hx hb dX2_shareOnce_21 rfl (lv_at hl 0 rfl) ?_
    refine gC_14_4 hx hb hts hiX2 hown hK hP hf24 dX2_shareOnce_22 ?_
    refine lv_iload_n hx hb dX2_shareOnce_25 rfl (lv_at hl 3 rfl) ?_
    refine lv_iconst (v := nI 0) hx hb dX2_shareOnce_26 (by decide) ?_
    refine sC_19 hx hb hK hP hI (fun _ h => h) hS (by omega) (rfl) dX2_shareOnce_27 (fun H locs hP hS => ?_)
    have hbi := hR.b hB (i := i) (by omega)
    refine lv_aload_n hx hb dX2_shareOnce_28 rfl (lv_at hl 0 rfl) ?_
    refine lv_dup hx hb dX2_shareOnce_29 rfl ?_
    refine gC_14_7 hx hb hts hiX2 hown hK hP hf51 dX2_shareOnce_30 ?_
    refine lv_aload_n hx hb dX2_shareOnce_33 rfl (lv_at hl 0 rfl) ?_
    refine gC_14_1 hx hb hts hiX2 hown hK hP hf15 dX2_shareOnce_34 ?_
    refine lv_iload_n hx hb dX2_shareOnce_37 rfl (lv_at hl 3 rfl) ?_
    refine lC_16 hx hb hK hP (by omega) dX2_shareOnce_38 ?_
    refine zt_i (y := nI (pf (lg L i))) ((hR.2 i (by omega)).2.1) ?_
    refine lv_i2l (v := lN (pf (lg L i))) hx hb dX2_shareOnce_39 (nI_l (by omega)) ?_
    refine lv_ladd hx hb dX2_shareOnce_40 ?_
    refine zt_l (y := lN ((tot pf (L.take i)) + (pf (lg L i)))) (lN_add _ _) ?_
    refine uC_14_7 hx hb hts hiX2 hown hK hP hf51 hI (fun _ h => h) hS dX2_shareOnce_41 (fun H locs hP hS => ?_)
    refine lv_iinc (v := nI (i + 1)) (lv' := [(3, .int (nI (i + 1))), (0, .ref (ad 14)), (1, .int (nI M)), (2, .int b)]) hx hb dX2_shareOnce_44 hl (k := 3) rfl (zz_inc _) (by decide) rfl (fun ls hl => ?_)
    refine lv_goto (tgt := 13) hx hb dX2_shareOnce_47 (by decide) ?_
    have e_3 : lN ((tot pf (L.take i)) + (pf (lg L i))) = lN (tot pf (L.take (i + 1))) := by rw [tot_take (by omega)]
    rw [e_3] at hP
    exact ih_13 (i + 1, upd zf2 i (nI 0)) (⟨by omega, lt_s (fun j hj => (pk_un (f := zf2) (k := i) (x := nI 0) (by omega)).trans (ho j hj)) (upd_at _ _ _)⟩) (by omega) _ _ hP hS ls (lv_sub hl [1, 2, 3, 0] rfl)
section
variable {p : Program} {e : Env} {R : Room} {s : State} {m : MethodId} {args : Array Value} {below : List Frame} {meth : Method} {c : Code} {H : Heap} {locs : List Loc} {cells slots : Nat} {Q : State → Prop} {cc : ByteArray} {pc : Nat} {ls : Array Slot} {rest : List Value} {own : String} {index nL : Nat} {Ts : List Cond} {H0 : Heap} {A0 : Nat → Prop}
theorem k_X2_shareOnce (l : Launch) {dC : Nat → ClassId} {dI : Nat → Nat → Nat} {cI cZ : ClassId} {ad : Nat → Nat} {sm fe ex dy : Int32} {gp gc op gr st dl wo : Nat → Int32} {n : Nat} {yc ya ys yd : Nat → Int32} {q : Nat} {zc zp zr zs zf : Nat → Int32} {z : Nat} {zm zt : Int64} {L : List Nat} {pf : Nat → Nat} {rf : Nat → Nat} {M : Nat} {b : Int32} (hR : repL pf rf L zc zp zr z) (hB : bndL pf rf L) (hN : L.Nodup) (hso : b = 0 ∨ sortedL pf rf L) (hmm : M ≤ 10000000) (hx : p.tables.exec = Jvm.exec) (hb : c.code = cc) (hml : c.maxLocals = nL) (hown : s.vm.findClass own = some m.cls) (hts : ∀ w ∈ Ts, w.before args s = true) (hK : va_K (dC, dI) vwCl [(cI, .int), (cZ, .boolean)] s) (hP : va_P (dC, dI) vwCl (wC cI cZ ad sm fe ex dy gp gc op gr st dl wo n yc ya ys yd q zc zp zr zs zf z zm zt) H) (hg9 : GoodIn Ts (wsV own index RX2 yX2_shareOnce wsX2_shareOnce)) (hR9 : 2 + 1 ≤ R.frames ∧ 8 + (4 + 11) + 52 ≤ R.locals) (hc9 : cells ≤ R.cells ∧ slots ≤ R.slots) (hl9 : ls.size = nL) (hw9 : (rest.map fun v => v.category).sum ≤ 8) (hdg : decode cc pc = .ok (.invokevirtual index, 3)) (hI : iwC ad) (hA : ∀ x, awC ad x → A0 x) (hS : va_S A0 H0 H locs) (kk : ∀ (u9 : (Nat → Int32) × (Nat → Int32) × Int64 × Int64), (∀ i, i < z → u9.1 i = nI (shr pf rf L M (lg L i))) → ∀ (H1 : Heap) (locs1 : List Loc), va_P (dC, dI) vwCl (wC cI cZ ad sm fe ex dy gp gc op gr st dl wo n yc ya ys yd q zc zp zr u9.1 u9.2.1 z u9.2.2.1 u9.2.2.2) H1 → va_S A0 H0 H1 locs1 → (∀ q : Nat, q < H.size → ¬ awC ad q → H1[q]? = H[q]?) → W p l e R s m args below meth c H1 locs1 cells slots Q (F0 m (pc + 3) ls rest)) : W p l e R s m args below meth c H locs cells slots Q (F0 m pc ls (.int b :: .int (nI M) :: .ref (ad 14) :: rest)) := va_callv (va_runV (As := [.int (nI M), .int b]) (rest := rest) ⟨hx, hb, hml, hown, hts⟩ (c_X2_shareOnce (dC := dC) (dI := dI) (cI := cI) (cZ := cZ) (ad := ad) (sm := sm) (fe := fe) (ex := ex) (dy := dy) (gp := gp) (gc := gc) (op := op) (gr := gr) (st := st) (dl := dl) (wo := wo) (n := n) (yc := yc) (ya := ya) (ys := ys) (yd := yd) (q := q) (zc := zc) (zp := zp) (zr := zr) (zs := zs) (zf := zf) (z := z) (zm := zm) (zt := zt) (L := L) (pf := pf) (rf := rf) (M := M) (b := b) l hI hR hB hN hso hmm) (cwV 2 hts hg9 rfl rfl rfl (by decide +kernel) hR9) ⟨fun a U g mk q => ⟨q.1, q.2.1, va_K.moved (u := U) (U := U.calling g mk a) (Vm.Alike.refl U.vm) q.2.2⟩, rC_14 hK hP, fun U hU hW => ⟨rfl, by rw [hU]; exact hP, va_K.moved hW.alike hK⟩⟩ rfl rfl hl9 rfl (lv_room hw9) hdg hc9) hS (fun q _ h => hA q h) hA (fun u t H1 locs1 ht _ hu hB hz hk hS1 => kk u hu H1 locs1 (by rw [ht] at hB; exact hB) hS1 hk)
end
