
set_option maxHeartbeats 4000000 in
set_option maxRecDepth 100000 in
theorem c_X2_sort (l : Launch) {dC : Nat → ClassId} {dI : Nat → Nat → Nat} {cI cZ : ClassId} {ad : Nat → Nat} {sm fe ex dy : Int32} {gp gc op gr st dl wo : Nat → Int32} {n : Nat} {yc ya ys yd : Nat → Int32} {q : Nat} {zc zp zr zs zf : Nat → Int32} {z : Nat} {zm zt : Int64} {L : List Nat} {pf : Nat → Nat} {rf : Nat → Nat} (hI : iwC ad) (hR : repL pf rf L zc zp zr z) (hB : bndL pf rf L) : Met l yX2_sortByRoomPerPoint wsX2_sortByRoomPerPoint { frames := 2, cells := 0, slots := 0, locals := 47 } (va_Pc [.ref (ad 14)] (fun U => va_P (dC, dI) vwCl (wC cI cZ ad sm fe ex dy gp gc op gr st dl wo n yc ya ys yd q zc zp zr zs zf z zm zt) U.heap ∧ va_K (dC, dI) vwCl [(cI, .int), (cZ, .boolean)] U)) (va_Qv (fun u9 : (Nat → Int32) × (Nat → Int32) × (Nat → Int32) => ∃ L3 : List Nat, L3.Perm L ∧ sortedL pf rf L3 ∧ repL pf rf L3 u9.1 u9.2.1 u9.2.2 z) (fun u9 t => va_P (dC, dI) vwCl (wC cI cZ ad sm fe ex dy gp gc op gr st dl wo n yc ya ys yd q u9.1 u9.2.1 u9.2.2 zs zf z zm zt) t.heap) (awC ad)) 0 0 (awC ad) := by
  refine Met.ofW (cc := cX2_sortByRoomPerPoint) (maxL := 3) (ret := none) (by decide) rfl ?_
  intro p e s m args below meth c s₁ B hml hv
  obtain ⟨rfl, hP, hK⟩ := hv
  have hx := B.exec
  have hb := B.bytes
  have hr := B.returns
  have hts := atoms_spec (ws := wsX2_sortByRoomPerPoint) B.pre
  have hown : s.vm.findClass RX2 = some m.cls := findClass_of_methodNamed B.named
  have hlocks := B.notSynchronized
  have hS : va_S (awC ad) s.heap s.heap [] := va_S.rf
  have hl := lv_entry ([.ref (ad 14)]) (n := 3) (Nat.le_of_ble_eq_true rfl)
  rw [lg_entry_eq]
  generalize (lg_sl ([.ref (ad 14)]) ++ List.replicate (3 - (lg_sl ([.ref (ad 14)])).length) Slot.unset).toArray = ls at hl ⊢
  have hl : lv_has ls 3 [(0, .ref (ad 14))] := hl
  have hz := hR.z hB
  have hiX2 : ∀ w ∈ wsX20, w ∈ wsX2_sortByRoomPerPoint := by decide +kernel
  have hf28 := hts (.fieldLink RX2 28 "SettlementFund$Sharing" "size" "I") (by decide +kernel)
  refine lv_iconst (v := nI 1) hx hb dX2_sortByRoomPerPoint_0 (by decide) ?_
  refine lv_istore_n (lv' := [(1, .int (nI 1)), (0, .ref (ad 14))]) hx hb dX2_sortByRoomPerPoint_1 rfl hl (by decide) rfl (fun ls hl => ?_)
  refine zl_rw (fun a9 : Nat × (List Nat) × (Nat → Int32) × (Nat → Int32) × (Nat → Int32) => wC cI cZ ad sm fe ex dy gp gc op gr st dl wo n yc ya ys yd q a9.2.2.1 a9.2.2.2.1 a9.2.2.2.2 zs zf z zm zt) (fun a9 : Nat × (List Nat) × (Nat → Int32) × (Nat → Int32) × (Nat → Int32) => [(0, .ref (ad 14)), (1, .int (nI a9.1))]) (fun a9 : Nat × (List Nat) × (Nat → Int32) × (Nat → Int32) × (Nat → Int32) => srtI pf rf L z a9.1 a9.2.1 a9.2.2.1 a9.2.2.2.1 a9.2.2.2.2) (fun a9 : Nat × (List Nat) × (Nat → Int32) × (Nat → Int32) × (Nat → Int32) => z - a9.1) (1, L, zc, zp, zr) (srt_0 hR) hP hS (lv_sub hl [1, 0] rfl) ?_
  intro a9 hi_2 ih_2 H locs hP hS ls hl
  obtain ⟨i, L2, zc2, zp2, zr2⟩ := a9
  have hi_2 : srtI pf rf L z i L2 zc2 zp2 zr2 := hi_2
  have hl : lv_has ls 3 [(0, .ref (ad 14)), (1, .int (nI i))] := hl
  have hP : va_P (dC, dI) vwCl (wC cI cZ ad sm fe ex dy gp gc op gr st dl wo n yc ya ys yd q zc2 zp2 zr2 zs zf z zm zt) H := hP
  have hij := hi_2.2.2.2.1
  have hij2 := hi_2.2.2.1
  refine lv_iload_n hx hb dX2_sortByRoomPerPoint_2 rfl (lv_at hl 1 rfl) ?_
  refine lv_aload_n hx hb dX2_sortByRoomPerPoint_3 rfl (lv_at hl 0 rfl) ?_
  refine gC_14_5 hx hb hts hiX2 hown hK hP hf28 dX2_sortByRoomPerPoint_4 ?_
  refine zb_ge (tgt := 47) hx hb (by omega) (by omega) dX2_sortByRoomPerPoint_7 (by decide) (fun c_7 => ?_) (fun c_7 => ?_)
  · exact W.vret hx hb hr (fun t ht hW => ⟨⟨(zc2, zp2, zr2), rfl, srt_end hi_2 (by omega), by (try dsimp only); rw [ht]; exact hP⟩, hS.F ht⟩) hS.2.2 dX2_sortByRoomPerPoint_47
  · refine lv_iload_n hx hb dX2_sortByRoomPerPoint_10 rfl (lv_at hl 1 rfl) ?_
    refine lv_istore_n (lv' := [(2, .int (nI i)), (0, .ref (ad 14)), (1, .int (nI i))]) hx hb dX2_sortByRoomPerPoint_11 rfl hl (by decide) rfl (fun ls hl => ?_)
    refine zl_rw (fun a9 : Nat × (List Nat) × (Nat → Int32) × (Nat → Int32) × (Nat → Int32) => wC cI cZ ad sm fe ex dy gp gc op gr st dl wo n yc ya ys yd q a9.2.2.1 a9.2.2.2.1 a9.2.2.2.2 zs zf z zm zt) (fun a9 : Nat × (List Nat) × (Nat → Int32) × (Nat → Int32) × (Nat → Int32) => [(0, .ref (ad 14)), (1, .int (nI i)), (2, .int (nI a9.1))]) (fun a9 : Nat × (List Nat) × (Nat → Int32) × (Nat → Int32) × (Nat → Int32) => srtK pf rf L z i a9.1 a9.2.1 a9.2.2.1 a9.2.2.2.1 a9.2.2.2.2) (fun a9 : Nat × (List Nat) × (Nat → Int32) × (Nat → Int32) × (Nat → Int32) => a9.1) (i, L2, zc2, zp2, zr2) (srt_k hi_2 (by omega)) hP hS (lv_sub hl [1, 2, 0] rfl) ?_
    intro a9 hi_12 ih_12 H locs hP hS ls hl
    obtain ⟨k, L3, zc3, zp3, zr3⟩ := a9
    have hi_12 : srtK pf rf L z i k L3 zc3 zp3 zr3 := hi_12
    have hl : lv_has ls 3 [(0, .ref (ad 14)), (1, .int (nI i)), (2, .int (nI k))] := hl
    have hP : va_P (dC, dI) vwCl (wC cI cZ ad sm fe ex dy gp gc op gr st dl wo n yc ya ys yd q zc3 zp3 zr3 zs zf z zm zt) H := hP
    have hki := hi_12.2.2.1
    have hiz2 := hi_12.2.2.2.1
    have hB3 := bnd_perm hB hi_12.1
    refine lv_iload_n hx hb dX2_sortByRoomPerPoint_12 rfl (lv_at hl 2 rfl) ?_
    refine zi_le (tgt := 41) hx hb (by omega) dX2_sortByRoomPerPoint_13 (by decide) (fun c_13 => ?_) (fun c_13 => ?_)
    · refine lv_iinc (v := nI (i + 1)) (lv' := [(1, .int (nI (i + 1))), (0, .ref (ad 14)), (2, .int (nI k))]) hx hb dX2_sortByRoomPerPoint_41 hl (k := 1) rfl (zz_inc _) (by decide) rfl (fun ls hl => ?_)
      refine lv_goto (tgt := 2) hx hb dX2_sortByRoomPerPoint_44 (by decide) ?_
      exact ih_2 (i + 1, L3, zc3, zp3, zr3) (srt_e hB hi_12 (Or.inl c_13)) (by omega) _ _ hP hS ls (lv_sub hl [1, 0] rfl)
    · have hr3 := hi_12.2.1
      have hbk := hr3.b hB3 (i := k) (by omega)
      have hbk1 := hr3.b hB3 (i := k - 1) (by omega)
      have hrk := hr3.2 k (by omega)
      have hrk1 := hr3.2 (k - 1) (by omega)
      refine lv_aload_n hx hb dX2_sortByRoomPerPoint_16 rfl (lv_at hl 0 rfl) ?_
      refine lv_iload_n hx hb dX2_sortByRoomPerPoint_17 rfl (lv_at hl 2 rfl) ?_
      refine lv_iload_n hx hb dX2_sortByRoomPerPoint_18 rfl (lv_at hl 2 rfl) ?_
      refine lv_iconst (v := nI 1) hx hb dX2_sortByRoomPerPoint_19 (by decide) ?_
      refine lv_isub hx hb dX2_sortByRoomPerPoint_20 ?_
      refine zt_i (y := nI (k - 1)) (pk_sub (by omega)) ?_
      refine k_X2_hasLess l (i1 := k) (i2 := k - 1) (r1 := rf (lg L3 k)) (p1 := pf (lg L3 k)) (r2 := rf (lg L3 (k - 1))) (p2 := pf (lg L3 (k - 1))) (hi1 := (by omega)) (hi2 := (by omega)) (hr1 := hrk.2.2) (hp1 := hrk.2.1) (hr2 := hrk1.2.2) (hp2 := hrk1.2.1) (hb1 := hbk.2.2.2) (hb2 := hbk.2.2.1) (hb3 := hbk1.2.2.2) (hb4 := hbk1.2.2.1) hx hb hml hown hts hK hP gX2_sortByRoomPerPoint_X2_hasLessRoomPerPoint ⟨Nat.le_of_ble_eq_true rfl, Nat.le_of_ble_eq_true rfl⟩ ⟨Nat.le_of_ble_eq_true rfl, Nat.le_of_ble_eq_true rfl⟩ hl.1 (Nat.le_of_ble_eq_true rfl) dX2_sortByRoomPerPoint_21 ?_
      refine zi_eq (tgt := 41) hx hb (by split <;> decide) dX2_sortByRoomPerPoint_24 (by decide) (fun c_24 => ?_) (fun c_24 => ?_)
      · refine lv_iinc (v := nI (i + 1)) (lv' := [(1, .int (nI (i + 1))), (0, .ref (ad 14)), (2, .int (nI k))]) hx hb dX2_sortByRoomPerPoint_41 hl (k := 1) rfl (zz_inc _) (by decide) rfl (fun ls hl => ?_)
        refine lv_goto (tgt := 2) hx hb dX2_sortByRoomPerPoint_44 (by decide) ?_
        exact ih_2 (i + 1, L3, zc3, zp3, zr3) (srt_e hB hi_12 (Or.inr (zz_ifq c_24))) (by omega) _ _ hP hS ls (lv_sub hl [1, 0] rfl)
      · refine lv_aload_n hx hb dX2_sortByRoomPerPoint_27 rfl (lv_at hl 0 rfl) ?_
        refine lv_iload_n hx hb dX2_sortByRoomPerPoint_28 rfl (lv_at hl 2 rfl) ?_
        refine lv_iload_n hx hb dX2_sortByRoomPerPoint_29 rfl (lv_at hl 2 rfl) ?_
        refine lv_iconst (v := nI 1) hx hb dX2_sortByRoomPerPoint_30 (by decide) ?_
        refine lv_isub hx hb dX2_sortByRoomPerPoint_31 ?_
        refine zt_i (y := nI (k - 1)) (pk_sub (by omega)) ?_
        refine k_X2_swapPlaces l (i1 := k) (i2 := k - 1) (hi1 := (by omega)) (hi2 := (by omega)) hx hb hml hown hts hK hP gX2_sortByRoomPerPoint_X2_swapPlaces ⟨Nat.le_of_ble_eq_true rfl, Nat.le_of_ble_eq_true rfl⟩ ⟨Nat.le_of_ble_eq_true rfl, Nat.le_of_ble_eq_true rfl⟩ hl.1 (Nat.le_of_ble_eq_true rfl) dX2_sortByRoomPerPoint_32 hI (fun _ h => h) hS (fun H locs hP hS _ => ?_)
        refine lv_iinc (v := nI (k - 1)) (lv' := [(2, .int (nI (k - 1))), (0, .ref (ad 14)), (1, .int (nI i))]) hx hb dX2_sortByRoomPerPoint_35 hl (k := 2) rfl (zz_dec (by omega)) (by decide) rfl (fun ls hl => ?_)
        refine lv_goto (tgt := 12) hx hb dX2_sortByRoomPerPoint_38 (by decide) ?_
        exact ih_12 (k - 1, swL L3 k (k - 1), upd (upd zc3 k (zc3 (k - 1))) (k - 1) (zc3 k), upd (upd zp3 k (zp3 (k - 1))) (k - 1) (zp3 k), upd (upd zr3 k (zr3 (k - 1))) (k - 1) (zr3 k)) (srt_s hi_12 (by omega) (zz_ifp c_24)) (by omega) _ _ hP hS ls (lv_sub hl [1, 2, 0] rfl)
section
variable {p : Program} {e : Env} {R : Room} {s : State} {m : MethodId} {args : Array Value} {below : List Frame} {meth : Method} {c : Code} {H : Heap} {locs : List Loc} {cells slots : Nat} {Q : State → Prop} {cc : ByteArray} {pc : Nat} {ls : Array Slot} {rest : List Value} {own : String} {index nL : Nat} {Ts : List Cond} {H0 : Heap} {A0 : Nat → Prop}
theorem k_X2_sort (l : Launch) {dC : Nat → ClassId} {dI : Nat → Nat → Nat} {cI cZ : ClassId} {ad : Nat → Nat} {sm fe ex dy : Int32} {gp gc op gr st dl wo : Nat → Int32} {n : Nat} {yc ya ys yd : Nat → Int32} {q : Nat} {zc zp zr zs zf : Nat → Int32} {z : Nat} {zm zt : Int64} {L : List Nat} {pf : Nat → Nat} {rf : Nat → Nat} (hR : repL pf rf L zc zp zr z) (hB : bndL pf rf L) (hx : p.tables.exec = Jvm.exec) (hb : c.code = cc) (hml : c.maxLocals = nL) (hown : s.vm.findClass own = some m.cls) (hts : ∀ w ∈ Ts, w.before args s = true) (hK : va_K (dC, dI) vwCl [(cI, .int), (cZ, .boolean)] s) (hP : va_P (dC, dI) vwCl (wC cI cZ ad sm fe ex dy gp gc op gr st dl wo n yc ya ys yd q zc zp zr zs zf z zm zt) H) (hg9 : GoodIn Ts (wsV own index RX2 yX2_sortByRoomPerPoint wsX2_sortByRoomPerPoint)) (hR9 : 2 + 1 ≤ R.frames ∧ 8 + (3 + 11) + 47 ≤ R.locals) (hc9 : cells ≤ R.cells ∧ slots ≤ R.slots) (hl9 : ls.size = nL) (hw9 : (rest.map fun v => v.category).sum ≤ 8) (hdg : decode cc pc = .ok (.invokevirtual index, 3)) (hI : iwC ad) (hA : ∀ x, awC ad x → A0 x) (hS : va_S A0 H0 H locs) (kk : ∀ (u9 : (Nat → Int32) × (Nat → Int32) × (Nat → Int32)), (∃ L3 : List Nat, L3.Perm L ∧ sortedL pf rf L3 ∧ repL pf rf L3 u9.1 u9.2.1 u9.2.2 z) → ∀ (H1 : Heap) (locs1 : List Loc), va_P (dC, dI) vwCl (wC cI cZ ad sm fe ex dy gp gc op gr st dl wo n yc ya ys yd q u9.1 u9.2.1 u9.2.2 zs zf z zm zt) H1 → va_S A0 H0 H1 locs1 → (∀ q : Nat, q < H.size → ¬ awC ad q → H1[q]? = H[q]?) → W p l e R s m args below meth c H1 locs1 cells slots Q (F0 m (pc + 3) ls rest)) : W p l e R s m args below meth c H locs cells slots Q (F0 m pc ls (.ref (ad 14) :: rest)) := va_callv (va_runV (As := []) (rest := rest) ⟨hx, hb, hml, hown, hts⟩ (c_X2_sort (dC := dC) (dI := dI) (cI := cI) (cZ := cZ) (ad := ad) (sm := sm) (fe := fe) (ex := ex) (dy := dy) (gp := gp) (gc := gc) (op := op) (gr := gr) (st := st) (dl := dl) (wo := wo) (n := n) (yc := yc) (ya := ya) (ys := ys) (yd := yd) (q := q) (zc := zc) (zp := zp) (zr := zr) (zs := zs) (zf := zf) (z := z) (zm := zm) (zt := zt) (L := L) (pf := pf) (rf := rf) l hI hR hB) (cwV 0 hts hg9 rfl rfl rfl (by decide +kernel) hR9) ⟨fun a U g mk q => ⟨q.1, q.2.1, va_K.moved (u := U) (U := U.calling g mk a) (Vm.Alike.refl U.vm) q.2.2⟩, rC_14 hK hP, fun U hU hW => ⟨rfl, by rw [hU]; exact hP, va_K.moved hW.alike hK⟩⟩ rfl rfl hl9 rfl (lv_room hw9) hdg hc9) hS (fun q _ h => hA q h) hA (fun u t H1 locs1 ht _ hu hB hz hk hS1 => kk u hu H1 locs1 (by rw [ht] at hB; exact hB) hS1 hk)
end
