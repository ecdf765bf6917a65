
set_option maxHeartbeats 4000000 in
set_option maxRecDepth 100000 in
theorem c_X2_shareOut (l : Launch) {dC : Nat → ClassId} {dI : Nat → Nat → Nat} {cI cZ : ClassId} {ad : Nat → Nat} {sm fe ex dy : Int32} {gp gc op gr st dl wo : Nat → Int32} {n : Nat} {yc ya ys yd : Nat → Int32} {q : Nat} {zc zp zr zs zf : Nat → Int32} {z : Nat} {zm zt : Int64} {L : List Nat} {pf : Nat → Nat} {rf : Nat → Nat} {M : Nat} {le : Nat} {b : Int32} (hI : iwC ad) (hR : repL pf rf L zc zp zr z) (hB : bndL pf rf L) (hN : L.Nodup) (hmm : M ≤ 10000000) (hle : le < 2 ^ 31) : Met l yX2_shareOut wsX2_shareOut { frames := 3, cells := 0, slots := 0, locals := 75 } (va_Pc [.ref (ad 14), .int (nI M), .int (nI le), .int b] (fun U => va_P (dC, dI) vwCl (wC cI cZ ad sm fe ex dy gp gc op gr st dl wo n yc ya ys yd q zc zp zr zs zf z zm zt) U.heap ∧ va_K (dC, dI) vwCl [(cI, .int), (cZ, .boolean)] U)) (va_Qv (fun u9 : (Nat → Int32) × (Nat → Int32) × (Nat → Int32) × (Nat → Int32) × (Nat → Int32) × Nat × Int64 × Int64 => ∃ L3 : List Nat, L3.Perm (rnd pf rf M le 25 L) ∧ bndL pf rf L3 ∧ L3.Nodup ∧ repL pf rf L3 u9.1 u9.2.1 u9.2.2.1 u9.2.2.2.2.2.1 ∧ ∀ i, i < u9.2.2.2.2.2.1 → u9.2.2.2.1 i = nI (shr pf rf L3 M (lg L3 i))) (fun u9 t => va_P (dC, dI) vwCl (wC cI cZ ad sm fe ex dy gp gc op gr st dl wo n yc ya ys yd q u9.1 u9.2.1 u9.2.2.1 u9.2.2.2.1 u9.2.2.2.2.1 u9.2.2.2.2.2.1 u9.2.2.2.2.2.2.1 u9.2.2.2.2.2.2.2) t.heap) (awC ad)) 0 0 (awC ad) := by
  refine Met.ofW (cc := cX2_shareOut) (maxL := 6) (ret := none) (by decide) rfl ?_
  intro p e s m args below meth c s₁ B hml hv
  obtain ⟨rfl, hP, hK⟩ := hv
  have hx := B.exec
  have hb := B.bytes
  have hr := B.returns
  have hts := atoms_spec (ws := wsX2_shareOut) B.pre
  have hown : s.vm.findClass RX2 = some m.cls := findClass_of_methodNamed B.named
  have hlocks := B.notSynchronized
  have hS : va_S (awC ad) s.heap s.heap [] := va_S.rf
  have hl := lv_entry ([.ref (ad 14), .int (nI M), .int (nI le), .int b]) (n := 6) (Nat.le_of_ble_eq_true rfl)
  rw [lg_entry_eq]
  generalize (lg_sl ([.ref (ad 14), .int (nI M), .int (nI le), .int b]) ++ List.replicate (6 - (lg_sl ([.ref (ad 14), .int (nI M), .int (nI le), .int b])).length) Slot.unset).toArray = ls at hl ⊢
  have hl : lv_has ls 6 [(0, .ref (ad 14)), (1, .int (nI M)), (2, .int (nI le)), (3, .int b)] := hl
  have hz := hR.z hB
  have hiX2 : ∀ w ∈ wsX20, w ∈ wsX2_shareOut := by decide +kernel
  have hf28 := hts (.fieldLink RX2 28 "SettlementFund$Sharing" "size" "I") (by decide +kernel)
  have hf21 := hts (.fieldLink RX2 21 "SettlementFund$Sharing" "share" "[I") (by decide +kernel)
  refine lv_iload_n hx hb dX2_shareOut_0 rfl (lv_at hl 3 rfl) ?_
  refine zj_rw (A0 := (awC ad)) (H0 := s.heap) (D := (dC, dI)) (cl := vwCl) (nL := 6) 8 (fun a9 : (List Nat) × (Nat → Int32) × (Nat → Int32) × (Nat → Int32) => wC cI cZ ad sm fe ex dy gp gc op gr st dl wo n yc ya ys yd q a9.2.1 a9.2.2.1 a9.2.2.2 zs zf z zm zt) (fun a9 : (List Nat) × (Nat → Int32) × (Nat → Int32) × (Nat → Int32) => []) (fun a9 : (List Nat) × (Nat → Int32) × (Nat → Int32) × (Nat → Int32) => [(0, .ref (ad 14)), (1, .int (nI M)), (2, .int (nI le)), (3, .int b)]) (fun a9 : (List Nat) × (Nat → Int32) × (Nat → Int32) × (Nat → Int32) => a9.1.Perm L ∧ repL pf rf a9.1 a9.2.1 a9.2.2.1 a9.2.2.2 z ∧ (b = 0 ∨ sortedL pf rf a9.1)) (fun a9 hj_8 H locs hP hS ls hl => ?_) (fun kj_8 => ?_)
  · obtain ⟨L1, zc1, zp1, zr1⟩ := a9
    have hj_8 : L1.Perm L ∧ repL pf rf L1 zc1 zp1 zr1 z ∧ (b = 0 ∨ sortedL pf rf L1) := hj_8
    have hl : lv_has ls 6 [(0, .ref (ad 14)), (1, .int (nI M)), (2, .int (nI le)), (3, .int b)] := hl
    have hP : va_P (dC, dI) vwCl (wC cI cZ ad sm fe ex dy gp gc op gr st dl wo n yc ya ys yd q zc1 zp1 zr1 zs zf z zm zt) H := hP
    refine lv_aload_n hx hb dX2_shareOut_8 rfl (lv_at hl 0 rfl) ?_
    refine gC_14_5 hx hb hts hiX2 hown hK hP hf28 dX2_shareOut_9 ?_
    refine lv_istore (lv' := [(4, .int (nI z)), (0, .ref (ad 14)), (1, .int (nI M)), (2, .int (nI le)), (3, .int b)]) hx hb dX2_shareOut_12 hl (by decide) rfl (fun ls hl => ?_)
    refine zl_rw (fun a9 : Nat × (List Nat) × (Nat → Int32) × (Nat → Int32) × (Nat → Int32) × (Nat → Int32) × (Nat → Int32) × Nat × Int64 × Int64 => wC cI cZ ad sm fe ex dy gp gc op gr st dl wo n yc ya ys yd q a9.2.2.1 a9.2.2.2.1 a9.2.2.2.2.1 a9.2.2.2.2.2.1 a9.2.2.2.2.2.2.1 a9.2.2.2.2.2.2.2.1 a9.2.2.2.2.2.2.2.2.1 a9.2.2.2.2.2.2.2.2.2) (fun a9 : Nat × (List Nat) × (Nat → Int32) × (Nat → Int32) × (Nat → Int32) × (Nat → Int32) × (Nat → Int32) × Nat × Int64 × Int64 => [(0, .ref (ad 14)), (1, .int (nI M)), (2, .int (nI le)), (3, .int b), (4, .int (nI a9.2.2.2.2.2.2.2.1))]) (fun a9 : Nat × (List Nat) × (Nat → Int32) × (Nat → Int32) × (Nat → Int32) × (Nat → Int32) × (Nat → Int32) × Nat × Int64 × Int64 => shoI pf rf L M le b a9.1 a9.2.1 a9.2.2.1 a9.2.2.2.1 a9.2.2.2.2.1 a9.2.2.2.2.2.2.2.1) (fun a9 : Nat × (List Nat) × (Nat → Int32) × (Nat → Int32) × (Nat → Int32) × (Nat → Int32) × (Nat → Int32) × Nat × Int64 × Int64 => a9.2.2.2.2.2.2.2.1) (25, L1, zc1, zp1, zr1, zs, zf, z, zm, zt) (sho_0 hB hN hj_8.1 hj_8.2.1 hj_8.2.2) hP hS (lv_sub hl [1, 2, 3, 4, 0] rfl) ?_
    intro a9 hi_14 ih_14 H locs hP hS ls hl
    obtain ⟨f, L2, zc2, zp2, zr2, zs2, zf2, z2, zm2, zt2⟩ := a9
    have hi_14 : shoI pf rf L M le b f L2 zc2 zp2 zr2 z2 := hi_14
    have hl : lv_has ls 6 [(0, .ref (ad 14)), (1, .int (nI M)), (2, .int (nI le)), (3, .int b), (4, .int (nI z2))] := hl
    have hP : va_P (dC, dI) vwCl (wC cI cZ ad sm fe ex dy gp gc op gr st dl wo n yc ya ys yd q zc2 zp2 zr2 zs2 zf2 z2 zm2 zt2) H := hP
    have hR2 := hi_14.1
    have hB2 := hi_14.2.1
    have hz2 := hR2.z hB2
    have hzl2 := hR2.1
    refine lv_iload hx hb dX2_shareOut_14 (lv_at hl 4 rfl) ?_
    refine zi_le (tgt := 61) hx hb (by omega) dX2_shareOut_16 (by decide) (fun c_16 => ?_) (fun c_16 => ?_)
    · exact W.vret hx hb hr (fun t ht hW => ⟨⟨(zc2, zp2, zr2, zs2, zf2, z2, zm2, zt2), rfl, ⟨L2, sho_e0 hi_14 (by omega), hB2, hi_14.2.2.1, hR2, fun i hi => absurd (show i < z2 from hi) (by omega)⟩, by (try dsimp only); rw [ht]; exact hP⟩, hS.F ht⟩) hS.2.2 dX2_shareOut_61
    · refine lv_aload_n hx hb dX2_shareOut_19 rfl (lv_at hl 0 rfl) ?_
      refine lv_iload_n hx hb dX2_shareOut_20 rfl (lv_at hl 1 rfl) ?_
      refine lv_iload_n hx hb dX2_shareOut_21 rfl (lv_at hl 3 rfl) ?_
      refine k_X2_shareOnce l (L := L2) (pf := pf) (rf := rf) (M := M) (b := b) (hR := hR2) (hB := hB2) (hN := hi_14.2.2.1) (hso := hi_14.2.2.2.1) (hmm := hmm) hx hb hml hown hts hK hP gX2_shareOut_X2_shareOnce ⟨Nat.le_of_ble_eq_true rfl, Nat.le_of_ble_eq_true rfl⟩ ⟨Nat.le_of_ble_eq_true rfl, Nat.le_of_ble_eq_true rfl⟩ hl.1 (Nat.le_of_ble_eq_true rfl) dX2_shareOut_22 hI (fun _ h => h) hS (fun u9 hu9 H locs hP hS _ => ?_)
      obtain ⟨zs4, zf4, zm4, zt4⟩ := u9
      have hP : va_P (dC, dI) vwCl (wC cI cZ ad sm fe ex dy gp gc op gr st dl wo n yc ya ys yd q zc2 zp2 zr2 zs4 zf4 z2 zm4 zt4) H := hP
      have hu_22 : ∀ i, i < z2 → zs4 i = nI (shr pf rf L2 M (lg L2 i)) := hu9
      refine lv_aload_n hx hb dX2_shareOut_25 rfl (lv_at hl 0 rfl) ?_
      refine k_X2_placeOfSmallest l (L := L2) (pf := pf) (rf := rf) (sf := shr pf rf L2 M) (hR := hR2) (hB := hB2) (hs := (fun i hi => ⟨hu_22 i hi, shr_lt hB2 hmm (lg_mem (by omega))⟩)) hx hb hml hown hts hK hP gX2_shareOut_X2_placeOfSmallest ⟨Nat.le_of_ble_eq_true rfl, Nat.le_of_ble_eq_true rfl⟩ ⟨Nat.le_of_ble_eq_true rfl, Nat.le_of_ble_eq_true rfl⟩ hl.1 (Nat.le_of_ble_eq_true rfl) dX2_shareOut_26 (fun r_26 hr_26 => ?_)
      obtain ⟨v, hv1, hv2, hv3⟩ := hr_26.resolve_left (fun h9 => by omega)
      subst hv2
      have hmin := sho_min hzl2 hv1 hv3
      refine lv_istore (lv' := [(5, .int (nI v)), (0, .ref (ad 14)), (1, .int (nI M)), (2, .int (nI le)), (3, .int b), (4, .int (nI z2))]) hx hb dX2_shareOut_29 hl (by decide) rfl (fun ls hl => ?_)
      refine lv_iload hx hb dX2_shareOut_31 (lv_at hl 0 rfl) ?_
      refine lv_iconst (v := (-1)) hx hb dX2_shareOut_33 (by decide) ?_
      refine lv_icmp_eq (tgt := 48) hx hb dX2_shareOut_34 (by decide) (fun c_34 => (show False by exact zz_nm1 (by omega) c_34).elim) (fun c_34 => ?_)
      refine lv_aload_n hx hb dX2_shareOut_37 rfl (lv_at hl 1 rfl) ?_
      refine gC_14_3 hx hb hts hiX2 hown hK hP hf21 dX2_shareOut_38 ?_
      refine lv_iload hx hb dX2_shareOut_41 (lv_at hl 0 rfl) ?_
      refine lC_18 hx hb hK hP (by omega) dX2_shareOut_43 ?_
      refine zt_i (y := nI (shr pf rf L2 M (lg L2 v))) (hu_22 v hv1) ?_
      refine lv_iload_n hx hb dX2_shareOut_44 rfl (lv_at hl 3 rfl) ?_
      refine zb_lt (tgt := 49) hx hb (shr_lt hB2 hmm (lg_mem (by omega))) (by omega) dX2_shareOut_45 (by decide) (fun c_45 => ?_) (fun c_45 => ?_)
      · refine lv_aload_n hx hb dX2_shareOut_49 rfl (lv_at hl 1 rfl) ?_
        refine lv_iload hx hb dX2_shareOut_50 (lv_at hl 0 rfl) ?_
        refine k_X2_takeOut l (v := v) (hz := (by omega)) (hv := hv1) hx hb hml hown hts hK hP gX2_shareOut_X2_takeOut ⟨Nat.le_of_ble_eq_true rfl, Nat.le_of_ble_eq_true rfl⟩ ⟨Nat.le_of_ble_eq_true rfl, Nat.le_of_ble_eq_true rfl⟩ hl.1 (Nat.le_of_ble_eq_true rfl) dX2_shareOut_52 hI (fun _ h => h) hS (fun H locs hP hS _ => ?_)
        refine lv_iinc (v := nI (z2 - 1)) (lv' := [(4, .int (nI (z2 - 1))), (5, .int (nI v)), (0, .ref (ad 14)), (1, .int (nI M)), (2, .int (nI le)), (3, .int b)]) hx hb dX2_shareOut_55 hl (k := 5) rfl (zz_dec (by omega)) (by decide) rfl (fun ls hl => ?_)
        refine lv_goto (tgt := 14) hx hb dX2_shareOut_58 (by decide) ?_
        exact ih_14 (f - 1, L2.eraseIdx v, shF zc2 v (z2 - 1), shF zp2 v (z2 - 1), shF zr2 v (z2 - 1), zs4, zf4, z2 - 1, zm4, zt4) (sho_s hi_14 hv1 hmin c_45) (show z2 - 1 < z2 by omega) _ _ hP hS ls (lv_sub hl [2, 3, 4, 5, 0] rfl)
      · exact W.vret hx hb hr (fun t ht hW => ⟨⟨(zc2, zp2, zr2, zs4, zf4, z2, zm4, zt4), rfl, ⟨L2, sho_e1 hi_14 hmin (by omega), hB2, hi_14.2.2.1, hR2, hu_22⟩, by (try dsimp only); rw [ht]; exact hP⟩, hS.F ht⟩) hS.2.2 dX2_shareOut_48
  · refine lv_if_eq (tgt := 8) hx hb dX2_shareOut_1 (by decide) (fun c_1 => ?_) (fun c_1 => ?_)
    · exact kj_8 (L, zc, zp, zr) (⟨List.Perm.refl _, hR, Or.inl c_1⟩) _ _ hP hS ls (lv_sub hl [0, 1, 2, 3] rfl)
    · refine lv_aload_n hx hb dX2_shareOut_4 rfl (lv_at hl 0 rfl) ?_
      refine k_X2_sort l (L := L) (pf := pf) (rf := rf) (hR := hR) (hB := hB) hx hb hml hown hts hK hP gX2_shareOut_X2_sortByRoomPerPoint ⟨Nat.le_of_ble_eq_true rfl, Nat.le_of_ble_eq_true rfl⟩ ⟨Nat.le_of_ble_eq_true rfl, Nat.le_of_ble_eq_true rfl⟩ hl.1 (Nat.le_of_ble_eq_true rfl) dX2_shareOut_5 hI (fun _ h => h) hS (fun u9 hu9 H locs hP hS _ => ?_)
      obtain ⟨zc9, zp9, zr9⟩ := u9
      have hP : va_P (dC, dI) vwCl (wC cI cZ ad sm fe ex dy gp gc op gr st dl wo n yc ya ys yd q zc9 zp9 zr9 zs zf z zm zt) H := hP
      have hu_5 : ∃ L3 : List Nat, L3.Perm L ∧ sortedL pf rf L3 ∧ repL pf rf L3 zc9 zp9 zr9 z := hu9
      obtain ⟨L9, hq1, hq2, hq3⟩ := hu_5
      exact kj_8 (L9, zc9, zp9, zr9) (⟨hq1, hq3, Or.inr hq2⟩) _ _ hP hS ls (lv_sub hl [0, 1, 2, 3] rfl)
section
variable {p : Program} {e : Env} {R : Room} {s : State} {m : MethodId} {args : Array Value} {below : List Frame} {meth : Method} {c : Code} {H : Heap} {locs : List Loc} {cells slots : Nat} {Q : State → Prop} {cc : ByteArray} {pc : Nat} {ls : Array Slot} {rest : List Value} {own : String} {index nL : Nat} {Ts : List Cond} {H0 : Heap} {A0 : Nat → Prop}
theorem k_X2_shareOut (l : Launch) {dC : Nat → ClassId} {dI : Nat → Nat → Nat} {cI cZ : ClassId} {ad : Nat → Nat} {sm fe ex dy : Int32} {gp gc op gr st dl wo : Nat → Int32} {n : Nat} {yc ya ys yd : Nat → Int32} {q : Nat} {zc zp zr zs zf : Nat → Int32} {z : Nat} {zm zt : Int64} {L : List Nat} {pf : Nat → Nat} {rf : Nat → Nat} {M : Nat} {le : Nat} {b : Int32} (hR : repL pf rf L zc zp zr z) (hB : bndL pf rf L) (hN : L.Nodup) (hmm : M ≤ 10000000) (hle : le < 2 ^ 31) (hx : p.tables.exec = Jvm.exec) (hb : c.code = cc) (hml : c.maxLocals = nL) (hown : s.vm.findClass own = some m.cls) (hts : ∀ w ∈ Ts, w.before args s = true) (hK : va_K (dC, dI) vwCl [(cI, .int), (cZ, .boolean)] s) (hP : va_P (dC, dI) vwCl (wC cI cZ ad sm fe ex dy gp gc op gr st dl wo n yc ya ys yd q zc zp zr zs zf z zm zt) H) (hg9 : GoodIn Ts (wsV own index RX2 yX2_shareOut wsX2_shareOut)) (hR9 : 3 + 1 ≤ R.frames ∧ 8 + (6 + 11) + 75 ≤ R.locals) (hc9 : cells ≤ R.cells ∧ slots ≤ R.slots) (hl9 : ls.size = nL) (hw9 : (rest.map fun v => v.category).sum ≤ 8) (hdg : decode cc pc = .ok (.invokevirtual index, 3)) (hI : iwC ad) (hA : ∀ x, awC ad x → A0 x) (hS : va_S A0 H0 H locs) (kk : ∀ (u9 : (Nat → Int32) × (Nat → Int32) × (Nat → Int32) × (Nat → Int32) × (Nat → Int32) × Nat × Int64 × Int64), (∃ L3 : List Nat, L3.Perm (rnd pf rf M le 25 L) ∧ bndL pf rf L3 ∧ L3.Nodup ∧ repL pf rf L3 u9.1 u9.2.1 u9.2.2.1 u9.2.2.2.2.2.1 ∧ ∀ i, i < u9.2.2.2.2.2.1 → u9.2.2.2.1 i = nI (shr pf rf L3 M (lg L3 i))) → ∀ (H1 : Heap) (locs1 : List Loc), va_P (dC, dI) vwCl (wC cI cZ ad sm fe ex dy gp gc op gr st dl wo n yc ya ys yd q u9.1 u9.2.1 u9.2.2.1 u9.2.2.2.1 u9.2.2.2.2.1 u9.2.2.2.2.2.1 u9.2.2.2.2.2.2.1 u9.2.2.2.2.2.2.2) H1 → va_S A0 H0 H1 locs1 → (∀ q : Nat, q < H.size → ¬ awC ad q → H1[q]? = H[q]?) → W p l e R s m args below meth c H1 locs1 cells slots Q (F0 m (pc + 3) ls rest)) : W p l e R s m args below meth c H locs cells slots Q (F0 m pc ls (.int b :: .int (nI le) :: .int (nI M) :: .ref (ad 14) :: rest)) := va_callv (va_runV (As := [.int (nI M), .int (nI le), .int b]) (rest := rest) ⟨hx, hb, hml, hown, hts⟩ (c_X2_shareOut (dC := dC) (dI := dI) (cI := cI) (cZ := cZ) (ad := ad) (sm := sm) (fe := fe) (ex := ex) (dy := dy) (gp := gp) (gc := gc) (op := op) (gr := gr) (st := st) (dl := dl) (wo := wo) (n := n) (yc := yc) (ya := ya) (ys := ys) (yd := yd) (q := q) (zc := zc) (zp := zp) (zr := zr) (zs := zs) (zf := zf) (z := z) (zm := zm) (zt := zt) (L := L) (pf := pf) (rf := rf) (M := M) (le := le) (b := b) l hI hR hB hN hmm hle) (cwV 3 hts hg9 rfl rfl rfl (by decide +kernel) hR9) ⟨fun a U g mk q => ⟨q.1, q.2.1, va_K.moved (u := U) (U := U.calling g mk a) (Vm.Alike.refl U.vm) q.2.2⟩, rC_14 hK hP, fun U hU hW => ⟨rfl, by rw [hU]; exact hP, va_K.moved hW.alike hK⟩⟩ rfl rfl hl9 rfl (lv_room hw9) hdg hc9) hS (fun q _ h => hA q h) hA (fun u t H1 locs1 ht _ hu hB hz hk hS1 => kk u hu H1 locs1 (by rw [ht] at hB; exact hB) hS1 hk)
end
