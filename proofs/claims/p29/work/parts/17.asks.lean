/-! the law's methods that answer -/
def allZ (sm fe ex dy : Int32) (ya ys : Nat → Int32) : Int64 := dy.toInt64 + lN 31 * (leftF sm fe ex ya ys 0).toInt64 + lN 7 * (feeF sm fe).toInt64
theorem fee0 : feeF (nI 0) (nI 0) = nI 0 := by decide
theorem left0 (ya ys : Nat → Int32) : leftF (nI 0) (nI 0) (nI 0) ya ys 0 = nI 0 := by
  show nI 0 - feeF (nI 0) (nI 0) - nI 0 - nI 0 = nI 0
  rw [fee0]; decide

set_option maxHeartbeats 4000000 in
set_option maxRecDepth 100000 in
theorem c_L_all (l : Launch) {dC : Nat → ClassId} {dI : Nat → Nat → Nat} {cI cZ : ClassId} {ad : Nat → Nat} {sm fe ex dy : Int32} {gp gc op gr st dl wo yc ya ys yd zc zp zr zs zf : Nat → Int32} {z : Nat} {zm zt : Int64}   : Met l yL_all wsL_all { frames := 2, cells := 0, slots := 0, locals := 42 } (va_Pc [.ref (ad 0)] (fun U => va_P (dC, dI) vwCl (wC cI cZ ad sm fe ex dy gp gc op gr st dl wo 0 yc ya ys yd 0 zc zp zr zs zf z zm zt) U.heap ∧ va_K (dC, dI) vwCl [(cI, .int), (cZ, .boolean)] U)) (vp_Sl (fun r => r = allZ sm fe ex dy ya ys)) 0 0 (fun _ => False) := by
  refine Met.ofW (cc := cL_all) (maxL := 4) (ret := (some .long)) (by decide) rfl ?_
  intro p e s m args below meth c s₁ B hml hv
  obtain ⟨rfl, hP, hK⟩ := hv
  have hx := B.exec
  have hb := B.bytes
  have hr := B.returns
  have hts := atoms_spec (ws := wsL_all) B.pre
  have hown : s.vm.findClass RL = some m.cls := findClass_of_methodNamed B.named
  have hlocks := B.notSynchronized
  have hl := lv_entry ([.ref (ad 0)]) (n := 4) (Nat.le_of_ble_eq_true rfl)
  rw [lg_entry_eq]
  generalize (lg_sl ([.ref (ad 0)]) ++ List.replicate (4 - (lg_sl ([.ref (ad 0)])).length) Slot.unset).toArray = ls at hl ⊢
  have hl : lv_has ls 4 [(0, .ref (ad 0))] := hl
  have hk93 := hts (.constantLong RL 93 31) (by decide +kernel)
  have hk98 := hts (.constantLong RL 98 7) (by decide +kernel)
  refine lv_aload_n hx hb dL_all_0 rfl (lv_at hl 0 rfl) ?_
  refine k_X3_today l  hx hb hml hown hts hK hP gL_all_X3_today ⟨Nat.le_of_ble_eq_true rfl, Nat.le_of_ble_eq_true rfl⟩ ⟨Nat.le_of_ble_eq_true rfl, Nat.le_of_ble_eq_true rfl⟩ hl.1 (Nat.le_of_ble_eq_true rfl) dL_all_1 ?_
  refine lv_i2l (v := dy.toInt64) hx hb dL_all_4 rfl ?_
  refine lv_ldc2 hx hb hown hk93 dL_all_5 ?_
  refine zt_l (y := lN 31) rfl ?_
  refine lv_aload_n hx hb dL_all_8 rfl (lv_at hl 0 rfl) ?_
  refine k_X3_moneyLeft l (hq := (by omega)) hx hb hml hown hts hK hP gL_all_X3_moneyLeft ⟨Nat.le_of_ble_eq_true rfl, Nat.le_of_ble_eq_true rfl⟩ ⟨Nat.le_of_ble_eq_true rfl, Nat.le_of_ble_eq_true rfl⟩ hl.1 (Nat.le_of_ble_eq_true rfl) dL_all_9 ?_
  refine lv_i2l (v := (leftF sm fe ex ya ys 0).toInt64) hx hb dL_all_12 rfl ?_
  refine lv_lmul hx hb dL_all_13 ?_
  refine lv_ladd hx hb dL_all_14 ?_
  refine lv_ldc2 hx hb hown hk98 dL_all_15 ?_
  refine zt_l (y := lN 7) rfl ?_
  refine lv_aload_n hx hb dL_all_18 rfl (lv_at hl 0 rfl) ?_
  refine k_X3_fee l  hx hb hml hown hts hK hP gL_all_X3_fee ⟨Nat.le_of_ble_eq_true rfl, Nat.le_of_ble_eq_true rfl⟩ ⟨Nat.le_of_ble_eq_true rfl, Nat.le_of_ble_eq_true rfl⟩ hl.1 (Nat.le_of_ble_eq_true rfl) dL_all_19 ?_
  refine lv_i2l (v := (feeF sm fe).toInt64) hx hb dL_all_22 rfl ?_
  refine lv_lmul hx hb dL_all_23 ?_
  refine lv_ladd hx hb dL_all_24 ?_
  refine lv_lstore_n (lv' := [(1, .long ((dy.toInt64 + ((lN 31) * ((leftF sm fe ex ya ys 0).toInt64))) + ((lN 7) * ((feeF sm fe).toInt64)))), (0, .ref (ad 0))]) hx hb dL_all_25 rfl hl (by decide) rfl (fun ls hl => ?_)
  refine lv_iconst (v := nI 0) hx hb dL_all_26 (by decide) ?_
  refine lv_istore_n (lv' := [(3, .int (nI 0)), (1, .long ((dy.toInt64 + ((lN 31) * ((leftF sm fe ex ya ys 0).toInt64))) + ((lN 7) * ((feeF sm fe).toInt64)))), (0, .ref (ad 0))]) hx hb dL_all_27 rfl hl (by decide) rfl (fun ls hl => ?_)
  refine lv_iload_n hx hb dL_all_28 rfl (lv_at hl 0 rfl) ?_
  refine lv_aload_n hx hb dL_all_29 rfl (lv_at hl 2 rfl) ?_
  refine k_X3_claims l  hx hb hml hown hts hK hP gL_all_X3_claims ⟨Nat.le_of_ble_eq_true rfl, Nat.le_of_ble_eq_true rfl⟩ ⟨Nat.le_of_ble_eq_true rfl, Nat.le_of_ble_eq_true rfl⟩ hl.1 (Nat.le_of_ble_eq_true rfl) dL_all_30 ?_
  refine zb_ge (tgt := 77) hx hb (by decide) (by decide) dL_all_33 (by decide) (fun c_33 => ?_) (fun c_33 => (show False by omega).elim)
  refine lv_iconst (v := nI 0) hx hb dL_all_77 (by decide) ?_
  refine lv_istore_n (lv' := [(3, .int (nI 0)), (1, .long ((dy.toInt64 + ((lN 31) * ((leftF sm fe ex ya ys 0).toInt64))) + ((lN 7) * ((feeF sm fe).toInt64)))), (0, .ref (ad 0))]) hx hb dL_all_78 rfl hl (by decide) rfl (fun ls hl => ?_)
  refine lv_iload_n hx hb dL_all_79 rfl (lv_at hl 0 rfl) ?_
  refine lv_aload_n hx hb dL_all_80 rfl (lv_at hl 2 rfl) ?_
  refine k_X3_payments l  hx hb hml hown hts hK hP gL_all_X3_payments ⟨Nat.le_of_ble_eq_true rfl, Nat.le_of_ble_eq_true rfl⟩ ⟨Nat.le_of_ble_eq_true rfl, Nat.le_of_ble_eq_true rfl⟩ hl.1 (Nat.le_of_ble_eq_true rfl) dL_all_81 ?_
  refine zb_ge (tgt := 128) hx hb (by decide) (by decide) dL_all_84 (by decide) (fun c_84 => ?_) (fun c_84 => (show False by omega).elim)
  refine lv_lload_n hx hb dL_all_128 rfl (lv_at hl 1 rfl) ?_
  exact W.lret (v := (dy.toInt64 + ((lN 31) * ((leftF sm fe ex ya ys 0).toInt64))) + ((lN 7) * ((feeF sm fe).toInt64))) hx hb hr (fun t ht hW => ⟨(dy.toInt64 + ((lN 31) * ((leftF sm fe ex ya ys 0).toInt64))) + ((lN 7) * ((feeF sm fe).toInt64)), rfl, by first | rfl | (rw [if_pos (by omega)]; done) | (rw [if_neg (by omega)]; done) | (simp [c_33, c_84]; done), ht⟩) (fun _ h => nomatch h) dL_all_129
section
variable {p : Program} {e : Env} {R : Room} {s : State} {m : MethodId} {args : Array Value} {below : List Frame} {meth : Method} {c : Code} {H : Heap} {locs : List Loc} {cells slots : Nat} {Q : State → Prop} {cc : ByteArray} {pc : Nat} {ls : Array Slot} {rest : List Value} {own : String} {index nL : Nat} {Ts : List Cond} {H0 : Heap} {A0 : Nat → Prop}
theorem k_L_all (l : Launch) {dC : Nat → ClassId} {dI : Nat → Nat → Nat} {cI cZ : ClassId} {ad : Nat → Nat} {sm fe ex dy : Int32} {gp gc op gr st dl wo yc ya ys yd zc zp zr zs zf : Nat → Int32} {z : Nat} {zm zt : Int64}   (hx : p.tables.exec = Jvm.exec) (hb : c.code = cc) (hml : c.maxLocals = nL) (hown : s.vm.findClass own = some m.cls) (hts : ∀ w ∈ Ts, w.before args s = true) (hK : va_K (dC, dI) vwCl [(cI, .int), (cZ, .boolean)] s) (hP : va_P (dC, dI) vwCl (wC cI cZ ad sm fe ex dy gp gc op gr st dl wo 0 yc ya ys yd 0 zc zp zr zs zf z zm zt) H) (hg9 : GoodIn Ts (va_wsS own index yL_all wsL_all)) (hR9 : 2 + 1 ≤ R.frames ∧ 8 + (4 + 11) + 42 ≤ R.locals) (hc9 : cells ≤ R.cells ∧ slots ≤ R.slots) (hl9 : ls.size = nL) (hw9 : (rest.map fun v => v.category).sum ≤ 8) (hdg : decode cc pc = .ok (.invokestatic index, 3)) (kk : W p l e R s m args below meth c H locs cells slots Q (F0 m (pc + 3) ls (.long (allZ sm fe ex dy ya ys) :: rest))) : W p l e R s m args below meth c H locs cells slots Q (F0 m pc ls (.ref (ad 0) :: rest)) := vp_callSl (W.runS (As := [.ref (ad 0)]) (rest := rest) ⟨hx, hb, hml, hown, hts⟩ (c_L_all (dC := dC) (dI := dI) (cI := cI) (cZ := cZ) (ad := ad) (sm := sm) (fe := fe) (ex := ex) (dy := dy) (gp := gp) (gc := gc) (op := op) (gr := gr) (st := st) (dl := dl) (wo := wo) (yc := yc) (ya := ya) (ys := ys) (yd := yd) (zc := zc) (zp := zp) (zr := zr) (zs := zs) (zf := zf) (z := z) (zm := zm) (zt := zt) l ) (va_cwS 1 hts hg9 rfl rfl rfl (by decide +kernel) hR9) ⟨fun a U g mk q => ⟨q.1, q.2.1, va_K.moved (u := U) (U := U.calling g mk a) (Vm.Alike.refl U.vm) q.2.2⟩, fun U hU hW => ⟨rfl, by rw [hU]; exact hP, va_K.moved hW.alike hK⟩⟩ rfl rfl hl9 rfl (lv_room hw9) hdg hc9) (fun r h => by subst h; exact kk)
end
set_option maxHeartbeats 4000000 in
set_option maxRecDepth 100000 in
theorem c_L_areMoney (l : Launch) {dC : Nat → ClassId} {dI : Nat → Nat → Nat} {cI cZ : ClassId} {ad : Nat → Nat} {sm fe ex dy : Int32} {gp gc op gr st dl wo yc ya ys yd zc zp zr zs zf : Nat → Int32} {z : Nat} {zm zt : Int64} {m9 : Nat} {mf : Nat → Int32} (hL : leftF sm fe ex ya ys 0 = nI 0) (hm0 : mf 0 = nI 0) : Met l yL_areMoney wsL_areMoney { frames := 2, cells := 0, slots := 0, locals := 44 } (va_Pc [.ref (ad 0), .ref m9] (fun U => va_P (dC, dI) vwCl (wC cI cZ ad sm fe ex dy gp gc op gr st dl wo 0 yc ya ys yd 0 zc zp zr zs zf z zm zt) U.heap ∧ va_K (dC, dI) vwCl [(cI, .int), (cZ, .boolean)] U ∧ va_P (dC, dI) vwCl [(m9, .inl (cI, 11, .inl mf))] U.heap)) (vp_Si (fun r => r = nI 1)) 0 0 (fun _ => False) := by
  refine Met.ofW (cc := cL_areMoney) (maxL := 8) (ret := (some .boolean)) (by decide) rfl ?_
  intro p e s m args below meth c s₁ B hml hv
  obtain ⟨rfl, hP, hK, hPm⟩ := hv
  have hx := B.exec
  have hb := B.bytes
  have hr := B.returns
  have hts := atoms_spec (ws := wsL_areMoney) B.pre
  have hown : s.vm.findClass RL = some m.cls := findClass_of_methodNamed B.named
  have hlocks := B.notSynchronized
  have hl := lv_entry ([.ref (ad 0), .ref m9]) (n := 8) (Nat.le_of_ble_eq_true rfl)
  rw [lg_entry_eq]
  generalize (lg_sl ([.ref (ad 0), .ref m9]) ++ List.replicate (8 - (lg_sl ([.ref (ad 0), .ref m9])).length) Slot.unset).toArray = ls at hl ⊢
  have hl : lv_has ls 8 [(0, .ref (ad 0)), (1, .ref m9)] := hl
  refine lv_aload_n hx hb dL_areMoney_0 rfl (lv_at hl 1 rfl) ?_
  refine lv_iconst (v := nI 0) hx hb dL_areMoney_1 (by decide) ?_
  refine va_iald hx hb hK hPm 0 0 rfl rfl (vp_in_nI (n := 0) (by omega) (by decide)) dL_areMoney_2 ?_
  refine zt_i (y := nI 0) (by rw [nI_clamp (by decide)]; exact hm0) ?_
  refine lv_istore_n (lv' := [(2, .int (nI 0)), (0, .ref (ad 0)), (1, .ref m9)]) hx hb dL_areMoney_3 rfl hl (by decide) rfl (fun ls hl => ?_)
  refine lv_iconst (v := nI 0) hx hb dL_areMoney_4 (by decide) ?_
  refine lv_istore_n (lv' := [(3, .int (nI 0)), (2, .int (nI 0)), (0, .ref (ad 0)), (1, .ref m9)]) hx hb dL_areMoney_5 rfl hl (by decide) rfl (fun ls hl => ?_)
  refine lv_aload_n hx hb dL_areMoney_6 rfl (lv_at hl 2 rfl) ?_
  refine k_X3_claims l  hx hb hml hown hts hK hP gL_areMoney_X3_claims ⟨Nat.le_of_ble_eq_true rfl, Nat.le_of_ble_eq_true rfl⟩ ⟨Nat.le_of_ble_eq_true rfl, Nat.le_of_ble_eq_true rfl⟩ hl.1 (Nat.le_of_ble_eq_true rfl) dL_areMoney_7 ?_
  refine lv_bipush (v := nI 24) hx hb dL_areMoney_10 (by decide) ?_
  refine zb_gt (tgt := 28) hx hb (by decide) (by decide) dL_areMoney_12 (by decide) (fun c_12 => (show False by omega).elim) (fun c_12 => ?_)
  refine lv_aload_n hx hb dL_areMoney_15 rfl (lv_at hl 2 rfl) ?_
  refine k_X3_payments l  hx hb hml hown hts hK hP gL_areMoney_X3_payments ⟨Nat.le_of_ble_eq_true rfl, Nat.le_of_ble_eq_true rfl⟩ ⟨Nat.le_of_ble_eq_true rfl, Nat.le_of_ble_eq_true rfl⟩ hl.1 (Nat.le_of_ble_eq_true rfl) dL_areMoney_16 ?_
  refine lv_bipush (v := nI 100) hx hb dL_areMoney_19 (by decide) ?_
  refine zb_gt (tgt := 28) hx hb (by decide) (by decide) dL_areMoney_21 (by decide) (fun c_21 => (show False by omega).elim) (fun c_21 => ?_)
  refine lv_iconst (v := nI 1) hx hb dL_areMoney_24 (by decide) ?_
  refine lv_goto (tgt := 29) hx hb dL_areMoney_25 (by decide) ?_
  refine lv_istore (lv' := [(4, .int (nI 1)), (3, .int (nI 0)), (2, .int (nI 0)), (0, .ref (ad 0)), (1, .ref m9)]) hx hb dL_areMoney_29 hl (by decide) rfl (fun ls hl => ?_)
  refine lv_iconst (v := nI 0) hx hb dL_areMoney_31 (by decide) ?_
  refine lv_istore (lv' := [(5, .int (nI 0)), (4, .int (nI 1)), (3, .int (nI 0)), (2, .int (nI 0)), (0, .ref (ad 0)), (1, .ref m9)]) hx hb dL_areMoney_32 hl (by decide) rfl (fun ls hl => ?_)
  refine lv_iload hx hb dL_areMoney_34 (lv_at hl 0 rfl) ?_
  refine lv_aload_n hx hb dL_areMoney_36 rfl (lv_at hl 4 rfl) ?_
  refine k_X3_payments l  hx hb hml hown hts hK hP gL_areMoney_X3_payments ⟨Nat.le_of_ble_eq_true rfl, Nat.le_of_ble_eq_true rfl⟩ ⟨Nat.le_of_ble_eq_true rfl, Nat.le_of_ble_eq_true rfl⟩ hl.1 (Nat.le_of_ble_eq_true rfl) dL_areMoney_37 ?_
  refine zb_ge (tgt := 130) hx hb (by decide) (by decide) dL_areMoney_40 (by decide) (fun c_40 => ?_) (fun c_40 => (show False by omega).elim)
  refine lv_iconst (v := nI 0) hx hb dL_areMoney_130 (by decide) ?_
  refine lv_istore (lv' := [(5, .int (nI 0)), (4, .int (nI 1)), (3, .int (nI 0)), (2, .int (nI 0)), (0, .ref (ad 0)), (1, .ref m9)]) hx hb dL_areMoney_131 hl (by decide) rfl (fun ls hl => ?_)
  refine lv_iload hx hb dL_areMoney_133 (lv_at hl 0 rfl) ?_
  refine lv_aload_n hx hb dL_areMoney_135 rfl (lv_at hl 4 rfl) ?_
  refine k_X3_claims l  hx hb hml hown hts hK hP gL_areMoney_X3_claims ⟨Nat.le_of_ble_eq_true rfl, Nat.le_of_ble_eq_true rfl⟩ ⟨Nat.le_of_ble_eq_true rfl, Nat.le_of_ble_eq_true rfl⟩ hl.1 (Nat.le_of_ble_eq_true rfl) dL_areMoney_136 ?_
  refine zb_ge (tgt := 264) hx hb (by decide) (by decide) dL_areMoney_139 (by decide) (fun c_139 => ?_) (fun c_139 => (show False by omega).elim)
  refine lv_iconst (v := nI 0) hx hb dL_areMoney_264 (by decide) ?_
  refine lv_istore (lv' := [(5, .int (nI 0)), (4, .int (nI 1)), (3, .int (nI 0)), (2, .int (nI 0)), (0, .ref (ad 0)), (1, .ref m9)]) hx hb dL_areMoney_265 hl (by decide) rfl (fun ls hl => ?_)
  refine lv_iload hx hb dL_areMoney_267 (lv_at hl 0 rfl) ?_
  refine lv_iconst (v := nI 4) hx hb dL_areMoney_269 (by decide) ?_
  refine zb_ge (tgt := 288) hx hb (by decide) (by decide) dL_areMoney_270 (by decide) (fun c_270 => (show False by omega).elim) (fun c_270 => ?_)
  refine lv_iload_n hx hb dL_areMoney_273 rfl (lv_at hl 2 rfl) ?_
  refine lv_aload_n hx hb dL_areMoney_274 rfl (lv_at hl 4 rfl) ?_
  refine lv_iload hx hb dL_areMoney_275 (lv_at hl 0 rfl) ?_
  refine k_X3_count_ok l (x := nI 0) (hn := (by omega)) (h1 := (by decide)) hx hb hml hown hts hK hP gL_areMoney_X3_count ⟨Nat.le_of_ble_eq_true rfl, Nat.le_of_ble_eq_true rfl⟩ ⟨Nat.le_of_ble_eq_true rfl, Nat.le_of_ble_eq_true rfl⟩ hl.1 (Nat.le_of_ble_eq_true rfl) dL_areMoney_277 ?_
  refine zt_i (y := nI 0) (rfl) ?_
  refine lv_iadd hx hb dL_areMoney_280 ?_
  refine zt_i (y := nI 0) (by decide) ?_
  refine lv_istore_n (lv' := [(3, .int (nI 0)), (5, .int (nI 0)), (4, .int (nI 1)), (2, .int (nI 0)), (0, .ref (ad 0)), (1, .ref m9)]) hx hb dL_areMoney_281 rfl hl (by decide) rfl (fun ls hl => ?_)
  refine lv_iinc (v := nI 1) (lv' := [(5, .int (nI 1)), (3, .int (nI 0)), (4, .int (nI 1)), (2, .int (nI 0)), (0, .ref (ad 0)), (1, .ref m9)]) hx hb dL_areMoney_282 hl (k := 1) rfl (zz_inc _) (by decide) rfl (fun ls hl => ?_)
  refine lv_goto (tgt := 267) hx hb dL_areMoney_285 (by decide) ?_
  refine lv_iload hx hb dL_areMoney_267 (lv_at hl 0 rfl) ?_
  refine lv_iconst (v := nI 4) hx hb dL_areMoney_269 (by decide) ?_
  refine zb_ge (tgt := 288) hx hb (by decide) (by decide) dL_areMoney_270 (by decide) (fun c_270_1 => (show False by omega).elim) (fun c_270_1 => ?_)
  refine lv_iload_n hx hb dL_areMoney_273 rfl (lv_at hl 1 rfl) ?_
  refine lv_aload_n hx hb dL_areMoney_274 rfl (lv_at hl 4 rfl) ?_
  refine lv_iload hx hb dL_areMoney_275 (lv_at hl 0 rfl) ?_
  refine k_X3_count_ok l (x := nI 1) (hn := (by omega)) (h1 := (by decide)) hx hb hml hown hts hK hP gL_areMoney_X3_count ⟨Nat.le_of_ble_eq_true rfl, Nat.le_of_ble_eq_true rfl⟩ ⟨Nat.le_of_ble_eq_true rfl, Nat.le_of_ble_eq_true rfl⟩ hl.1 (Nat.le_of_ble_eq_true rfl) dL_areMoney_277 ?_
  refine zt_i (y := nI 0) (rfl) ?_
  refine lv_iadd hx hb dL_areMoney_280 ?_
  refine zt_i (y := nI 0) (by decide) ?_
  refine lv_istore_n (lv' := [(3, .int (nI 0)), (5, .int (nI 1)), (4, .int (nI 1)), (2, .int (nI 0)), (0, .ref (ad 0)), (1, .ref m9)]) hx hb dL_areMoney_281 rfl hl (by decide) rfl (fun ls hl => ?_)
  refine lv_iinc (v := nI 2) (lv' := [(5, .int (nI 2)), (3, .int (nI 0)), (4, .int (nI 1)), (2, .int (nI 0)), (0, .ref (ad 0)), (1, .ref m9)]) hx hb dL_areMoney_282 hl (k := 1) rfl (zz_inc _) (by decide) rfl (fun ls hl => ?_)
  refine lv_goto (tgt := 267) hx hb dL_areMoney_285 (by decide) ?_
  refine lv_iload hx hb dL_areMoney_267 (lv_at hl 0 rfl) ?_
  refine lv_iconst (v := nI 4) hx hb dL_areMoney_269 (by decide) ?_
  refine zb_ge (tgt := 288) hx hb (by decide) (by decide) dL_areMoney_270 (by decide) (fun c_270_2 => (show False by omega).elim) (fun c_270_2 => ?_)
  refine lv_iload_n hx hb dL_areMoney_273 rfl (lv_at hl 1 rfl) ?_
  refine lv_aload_n hx hb dL_areMoney_274 rfl (lv_at hl 4 rfl) ?_
  refine lv_iload hx hb dL_areMoney_275 (lv_at hl 0 rfl) ?_
  refine k_X3_count_ok l (x := nI 2) (hn := (by omega)) (h1 := (by decide)) hx hb hml hown hts hK hP gL_areMoney_X3_count ⟨Nat.le_of_ble_eq_true rfl, Nat.le_of_ble_eq_true rfl⟩ ⟨Nat.le_of_ble_eq_true rfl, Nat.le_of_ble_eq_true rfl⟩ hl.1 (Nat.le_of_ble_eq_true rfl) dL_areMoney_277 ?_
  refine zt_i (y := nI 0) (rfl) ?_
  refine lv_iadd hx hb dL_areMoney_280 ?_
  refine zt_i (y := nI 0) (by decide) ?_
  refine lv_istore_n (lv' := [(3, .int (nI 0)), (5, .int (nI 2)), (4, .int (nI 1)), (2, .int (nI 0)), (0, .ref (ad 0)), (1, .ref m9)]) hx hb dL_areMoney_281 rfl hl (by decide) rfl (fun ls hl => ?_)
  refine lv_iinc (v := nI 3) (lv' := [(5, .int (nI 3)), (3, .int (nI 0)), (4, .int (nI 1)), (2, .int (nI 0)), (0, .ref (ad 0)), (1, .ref m9)]) hx hb dL_areMoney_282 hl (k := 1) rfl (zz_inc _) (by decide) rfl (fun ls hl => ?_)
  refine lv_goto (tgt := 267) hx hb dL_areMoney_285 (by decide) ?_
  refine lv_iload hx hb dL_areMoney_267 (lv_at hl 0 rfl) ?_
  refine lv_iconst (v := nI 4) hx hb dL_areMoney_269 (by decide) ?_
  refine zb_ge (tgt := 288) hx hb (by decide) (by decide) dL_areMoney_270 (by decide) (fun c_270_3 => (show False by omega).elim) (fun c_270_3 => ?_)
  refine lv_iload_n hx hb dL_areMoney_273 rfl (lv_at hl 1 rfl) ?_
  refine lv_aload_n hx hb dL_areMoney_274 rfl (lv_at hl 4 rfl) ?_
  refine lv_iload hx hb dL_areMoney_275 (lv_at hl 0 rfl) ?_
  refine k_X3_count_ok l (x := nI 3) (hn := (by omega)) (h1 := (by decide)) hx hb hml hown hts hK hP gL_areMoney_X3_count ⟨Nat.le_of_ble_eq_true rfl, Nat.le_of_ble_eq_true rfl⟩ ⟨Nat.le_of_ble_eq_true rfl, Nat.le_of_ble_eq_true rfl⟩ hl.1 (Nat.le_of_ble_eq_true rfl) dL_areMoney_277 ?_
  refine zt_i (y := nI 0) (rfl) ?_
  refine lv_iadd hx hb dL_areMoney_280 ?_
  refine zt_i (y := nI 0) (by decide) ?_
  refine lv_istore_n (lv' := [(3, .int (nI 0)), (5, .int (nI 3)), (4, .int (nI 1)), (2, .int (nI 0)), (0, .ref (ad 0)), (1, .ref m9)]) hx hb dL_areMoney_281 rfl hl (by decide) rfl (fun ls hl => ?_)
  refine lv_iinc (v := nI 4) (lv' := [(5, .int (nI 4)), (3, .int (nI 0)), (4, .int (nI 1)), (2, .int (nI 0)), (0, .ref (ad 0)), (1, .ref m9)]) hx hb dL_areMoney_282 hl (k := 1) rfl (zz_inc _) (by decide) rfl (fun ls hl => ?_)
  refine lv_goto (tgt := 267) hx hb dL_areMoney_285 (by decide) ?_
  refine lv_iload hx hb dL_areMoney_267 (lv_at hl 0 rfl) ?_
  refine lv_iconst (v := nI 4) hx hb dL_areMoney_269 (by decide) ?_
  refine zb_ge (tgt := 288) hx hb (by decide) (by decide) dL_areMoney_270 (by decide) (fun c_270_4 => ?_) (fun c_270_4 => (show False by omega).elim)
  refine lv_iload hx hb dL_areMoney_288 (lv_at hl 2 rfl) ?_
  refine zi_eq (tgt := 313) hx hb (by decide) dL_areMoney_290 (by decide) (fun c_290 => (show False by omega).elim) (fun c_290 => ?_)
  refine lv_aload_n hx hb dL_areMoney_293 rfl (lv_at hl 4 rfl) ?_
  refine k_X3_moneyLeft l (hq := (by omega)) hx hb hml hown hts hK hP gL_areMoney_X3_moneyLeft ⟨Nat.le_of_ble_eq_true rfl, Nat.le_of_ble_eq_true rfl⟩ ⟨Nat.le_of_ble_eq_true rfl, Nat.le_of_ble_eq_true rfl⟩ hl.1 (Nat.le_of_ble_eq_true rfl) dL_areMoney_294 ?_
  refine zt_i (y := nI 0) (hL) ?_
  refine lv_iload_n hx hb dL_areMoney_297 rfl (lv_at hl 3 rfl) ?_
  refine zb_ne (tgt := 313) hx hb (by decide) (by decide) dL_areMoney_298 (by decide) (fun c_298 => (show False by omega).elim) (fun c_298 => ?_)
  refine lv_iload_n hx hb dL_areMoney_301 rfl (lv_at hl 1 rfl) ?_
  refine lv_aload_n hx hb dL_areMoney_302 rfl (lv_at hl 4 rfl) ?_
  refine k_X3_claims l  hx hb hml hown hts hK hP gL_areMoney_X3_claims ⟨Nat.le_of_ble_eq_true rfl, Nat.le_of_ble_eq_true rfl⟩ ⟨Nat.le_of_ble_eq_true rfl, Nat.le_of_ble_eq_true rfl⟩ hl.1 (Nat.le_of_ble_eq_true rfl) dL_areMoney_303 ?_
  refine zb_ne (tgt := 313) hx hb (by decide) (by decide) dL_areMoney_306 (by decide) (fun c_306 => (show False by omega).elim) (fun c_306 => ?_)
  refine lv_iconst (v := nI 1) hx hb dL_areMoney_309 (by decide) ?_
  refine lv_goto (tgt := 314) hx hb dL_areMoney_310 (by decide) ?_
  exact W.zret (v := nI 1) hx hb hr (rfl) (fun t ht hW => ⟨nI 1, rfl, rfl, ht⟩) (fun _ h => nomatch h) dL_areMoney_314
section
variable {p : Program} {e : Env} {R : Room} {s : State} {m : MethodId} {args : Array Value} {below : List Frame} {meth : Method} {c : Code} {H : Heap} {locs : List Loc} {cells slots : Nat} {Q : State → Prop} {cc : ByteArray} {pc : Nat} {ls : Array Slot} {rest : List Value} {own : String} {index nL : Nat} {Ts : List Cond} {H0 : Heap} {A0 : Nat → Prop}
theorem k_L_areMoney (l : Launch) {dC : Nat → ClassId} {dI : Nat → Nat → Nat} {cI cZ : ClassId} {ad : Nat → Nat} {sm fe ex dy : Int32} {gp gc op gr st dl wo yc ya ys yd zc zp zr zs zf : Nat → Int32} {z : Nat} {zm zt : Int64} {m9 : Nat} {mf : Nat → Int32} (hL : leftF sm fe ex ya ys 0 = nI 0) (hm0 : mf 0 = nI 0) (hx : p.tables.exec = Jvm.exec) (hb : c.code = cc) (hml : c.maxLocals = nL) (hown : s.vm.findClass own = some m.cls) (hts : ∀ w ∈ Ts, w.before args s = true) (hK : va_K (dC, dI) vwCl [(cI, .int), (cZ, .boolean)] s) (hP : va_P (dC, dI) vwCl (wC cI cZ ad sm fe ex dy gp gc op gr st dl wo 0 yc ya ys yd 0 zc zp zr zs zf z zm zt) H) (hPm : va_P (dC, dI) vwCl [(m9, .inl (cI, 11, .inl mf))] H) (hg9 : GoodIn Ts (va_wsS own index yL_areMoney wsL_areMoney)) (hR9 : 2 + 1 ≤ R.frames ∧ 8 + (8 + 11) + 44 ≤ R.locals) (hc9 : cells ≤ R.cells ∧ slots ≤ R.slots) (hl9 : ls.size = nL) (hw9 : (rest.map fun v => v.category).sum ≤ 8) (hdg : decode cc pc = .ok (.invokestatic index, 3)) (kk : W p l e R s m args below meth c H locs cells slots Q (F0 m (pc + 3) ls (.int (nI 1) :: rest))) : W p l e R s m args below meth c H locs cells slots Q (F0 m pc ls (.ref m9 :: .ref (ad 0) :: rest)) := zc_ro (W.runS (As := [.ref (ad 0), .ref m9]) (rest := rest) ⟨hx, hb, hml, hown, hts⟩ (c_L_areMoney (dC := dC) (dI := dI) (cI := cI) (cZ := cZ) (ad := ad) (sm := sm) (fe := fe) (ex := ex) (dy := dy) (gp := gp) (gc := gc) (op := op) (gr := gr) (st := st) (dl := dl) (wo := wo) (yc := yc) (ya := ya) (ys := ys) (yd := yd) (zc := zc) (zp := zp) (zr := zr) (zs := zs) (zf := zf) (z := z) (zm := zm) (zt := zt) (m9 := m9) (mf := mf) l hL hm0) (va_cwS 2 hts hg9 rfl rfl rfl (by decide +kernel) hR9) ⟨fun a U g mk q => ⟨q.1, q.2.1, va_K.moved (u := U) (U := U.calling g mk a) (Vm.Alike.refl U.vm) q.2.2.1, q.2.2.2⟩, fun U hU hW => ⟨rfl, by rw [hU]; exact hP, va_K.moved hW.alike hK, by rw [hU]; exact hPm⟩⟩ rfl rfl hl9 rfl (lv_room hw9) hdg hc9) (fun r h => by subst h; exact kk)
end
set_option maxHeartbeats 4000000 in
set_option maxRecDepth 100000 in
theorem c_L_areShares (l : Launch) {dC : Nat → ClassId} {dI : Nat → Nat → Nat} {cI cZ : ClassId} {ad : Nat → Nat} {sm fe ex dy : Int32} {gp gc op gr st dl wo yc ya ys yd zc zp zr zs zf : Nat → Int32} {z : Nat} {zm zt : Int64} {m9 : Nat} {w8 : Nat} {w9 : Nat} (hL : leftF sm fe ex ya ys 0 = nI 0) : Met l yL_areShares wsL_areShares { frames := 2, cells := 0, slots := 0, locals := 42 } (va_Pc [.ref (ad 0), .ref m9, .ref w8, .ref w9, .int (nI 0)] (fun U => va_P (dC, dI) vwCl (wC cI cZ ad sm fe ex dy gp gc op gr st dl wo 0 yc ya ys yd 0 zc zp zr zs zf z zm zt) U.heap ∧ va_K (dC, dI) vwCl [(cI, .int), (cZ, .boolean)] U)) (vp_Si (fun r => r = nI 1)) 0 0 (fun _ => False) := by
  refine Met.ofW (cc := cL_areShares) (maxL := 18) (ret := (some .boolean)) (by decide) rfl ?_
  intro p e s m args below meth c s₁ B hml hv
  obtain ⟨rfl, hP, hK⟩ := hv
  have hx := B.exec
  have hb := B.bytes
  have hr := B.returns
  have hts := atoms_spec (ws := wsL_areShares) B.pre
  have hown : s.vm.findClass RL = some m.cls := findClass_of_methodNamed B.named
  have hlocks := B.notSynchronized
  have hl := lv_entry ([.ref (ad 0), .ref m9, .ref w8, .ref w9, .int (nI 0)]) (n := 18) (Nat.le_of_ble_eq_true rfl)
  rw [lg_entry_eq]
  generalize (lg_sl ([.ref (ad 0), .ref m9, .ref w8, .ref w9, .int (nI 0)]) ++ List.replicate (18 - (lg_sl ([.ref (ad 0), .ref m9, .ref w8, .ref w9, .int (nI 0)])).length) Slot.unset).toArray = ls at hl ⊢
  have hl : lv_has ls 18 [(0, .ref (ad 0)), (1, .ref m9), (2, .ref w8), (3, .ref w9), (4, .int (nI 0))] := hl
  refine lv_lconst (v := lN 0) hx hb dL_areShares_0 (by decide) ?_
  refine lv_lstore (lv' := [(5, .long (lN 0)), (0, .ref (ad 0)), (1, .ref m9), (2, .ref w8), (3, .ref w9), (4, .int (nI 0))]) hx hb dL_areShares_1 hl (by decide) rfl (fun ls hl => ?_)
  refine lv_iconst (v := nI 0) hx hb dL_areShares_3 (by decide) ?_
  refine lv_istore (lv' := [(7, .int (nI 0)), (5, .long (lN 0)), (0, .ref (ad 0)), (1, .ref m9), (2, .ref w8), (3, .ref w9), (4, .int (nI 0))]) hx hb dL_areShares_4 hl (by decide) rfl (fun ls hl => ?_)
  refine lv_iconst (v := nI 1) hx hb dL_areShares_6 (by decide) ?_
  refine lv_istore (lv' := [(8, .int (nI 1)), (7, .int (nI 0)), (5, .long (lN 0)), (0, .ref (ad 0)), (1, .ref m9), (2, .ref w8), (3, .ref w9), (4, .int (nI 0))]) hx hb dL_areShares_7 hl (by decide) rfl (fun ls hl => ?_)
  refine lv_iconst (v := nI 0) hx hb dL_areShares_9 (by decide) ?_
  refine lv_istore (lv' := [(9, .int (nI 0)), (8, .int (nI 1)), (7, .int (nI 0)), (5, .long (lN 0)), (0, .ref (ad 0)), (1, .ref m9), (2, .ref w8), (3, .ref w9), (4, .int (nI 0))]) hx hb dL_areShares_10 hl (by decide) rfl (fun ls hl => ?_)
  refine lv_iload hx hb dL_areShares_12 (lv_at hl 0 rfl) ?_
  refine lv_aload_n hx hb dL_areShares_14 rfl (lv_at hl 4 rfl) ?_
  refine k_X3_claims l  hx hb hml hown hts hK hP gL_areShares_X3_claims ⟨Nat.le_of_ble_eq_true rfl, Nat.le_of_ble_eq_true rfl⟩ ⟨Nat.le_of_ble_eq_true rfl, Nat.le_of_ble_eq_true rfl⟩ hl.1 (Nat.le_of_ble_eq_true rfl) dL_areShares_15 ?_
  refine zb_ge (tgt := 321) hx hb (by decide) (by decide) dL_areShares_18 (by decide) (fun c_18 => ?_) (fun c_18 => (show False by omega).elim)
  refine lv_iload hx hb dL_areShares_321 (lv_at hl 1 rfl) ?_
  refine zi_eq (tgt := 411) hx hb (by decide) dL_areShares_323 (by decide) (fun c_323 => (show False by omega).elim) (fun c_323 => ?_)
  refine lv_aload_n hx hb dL_areShares_326 rfl (lv_at hl 4 rfl) ?_
  refine k_X3_claims l  hx hb hml hown hts hK hP gL_areShares_X3_claims ⟨Nat.le_of_ble_eq_true rfl, Nat.le_of_ble_eq_true rfl⟩ ⟨Nat.le_of_ble_eq_true rfl, Nat.le_of_ble_eq_true rfl⟩ hl.1 (Nat.le_of_ble_eq_true rfl) dL_areShares_327 ?_
  refine zi_le (tgt := 411) hx hb (by decide) dL_areShares_330 (by decide) (fun c_330 => ?_) (fun c_330 => (show False by omega).elim)
  refine lv_iload hx hb dL_areShares_411 (lv_at hl 1 rfl) ?_
  refine zi_eq (tgt := 465) hx hb (by decide) dL_areShares_413 (by decide) (fun c_413 => (show False by omega).elim) (fun c_413 => ?_)
  refine lv_aload_n hx hb dL_areShares_416 rfl (lv_at hl 4 rfl) ?_
  refine k_X3_moneyLeft l (hq := (by omega)) hx hb hml hown hts hK hP gL_areShares_X3_moneyLeft ⟨Nat.le_of_ble_eq_true rfl, Nat.le_of_ble_eq_true rfl⟩ ⟨Nat.le_of_ble_eq_true rfl, Nat.le_of_ble_eq_true rfl⟩ hl.1 (Nat.le_of_ble_eq_true rfl) dL_areShares_417 ?_
  refine zt_i (y := nI 0) (hL) ?_
  refine lv_iconst (v := nI 1) hx hb dL_areShares_420 (by decide) ?_
  refine zb_ge (tgt := 434) hx hb (by decide) (by decide) dL_areShares_421 (by decide) (fun c_421 => (show False by omega).elim) (fun c_421 => ?_)
  refine lv_lload hx hb dL_areShares_424 (lv_at hl 3 rfl) ?_
  refine lv_lconst (v := lN 0) hx hb dL_areShares_426 (by decide) ?_
  refine W.lcmp hx hb dL_areShares_427 ?_
  refine zg_ne (tgt := 465) hx hb dL_areShares_428 (by decide) (fun c_428 => (show False by exact absurd c_428 (by decide)).elim) (fun c_428 => ?_)
  refine lv_goto (tgt := 445) hx hb dL_areShares_431 (by decide) ?_
  refine lv_iload hx hb dL_areShares_445 (lv_at hl 2 rfl) ?_
  refine zi_eq (tgt := 461) hx hb (by decide) dL_areShares_447 (by decide) (fun c_447 => ?_) (fun c_447 => (show False by omega).elim)
  refine lv_iconst (v := nI 1) hx hb dL_areShares_461 (by decide) ?_
  refine lv_goto (tgt := 466) hx hb dL_areShares_462 (by decide) ?_
  exact W.zret (v := nI 1) hx hb hr (rfl) (fun t ht hW => ⟨nI 1, rfl, rfl, ht⟩) (fun _ h => nomatch h) dL_areShares_466
section
variable {p : Program} {e : Env} {R : Room} {s : State} {m : MethodId} {args : Array Value} {below : List Frame} {meth : Method} {c : Code} {H : Heap} {locs : List Loc} {cells slots : Nat} {Q : State → Prop} {cc : ByteArray} {pc : Nat} {ls : Array Slot} {rest : List Value} {own : String} {index nL : Nat} {Ts : List Cond} {H0 : Heap} {A0 : Nat → Prop}
theorem k_L_areShares (l : Launch) {dC : Nat → ClassId} {dI : Nat → Nat → Nat} {cI cZ : ClassId} {ad : Nat → Nat} {sm fe ex dy : Int32} {gp gc op gr st dl wo yc ya ys yd zc zp zr zs zf : Nat → Int32} {z : Nat} {zm zt : Int64} {m9 : Nat} {w8 : Nat} {w9 : Nat} (hL : leftF sm fe ex ya ys 0 = nI 0) (hx : p.tables.exec = Jvm.exec) (hb : c.code = cc) (hml : c.maxLocals = nL) (hown : s.vm.findClass own = some m.cls) (hts : ∀ w ∈ Ts, w.before args s = true) (hK : va_K (dC, dI) vwCl [(cI, .int), (cZ, .boolean)] s) (hP : va_P (dC, dI) vwCl (wC cI cZ ad sm fe ex dy gp gc op gr st dl wo 0 yc ya ys yd 0 zc zp zr zs zf z zm zt) H) (hg9 : GoodIn Ts (va_wsS own index yL_areShares wsL_areShares)) (hR9 : 2 + 1 ≤ R.frames ∧ 8 + (18 + 11) + 42 ≤ R.locals) (hc9 : cells ≤ R.cells ∧ slots ≤ R.slots) (hl9 : ls.size = nL) (hw9 : (rest.map fun v => v.category).sum ≤ 8) (hdg : decode cc pc = .ok (.invokestatic index, 3)) (kk : W p l e R s m args below meth c H locs cells slots Q (F0 m (pc + 3) ls (.int (nI 1) :: rest))) : W p l e R s m args below meth c H locs cells slots Q (F0 m pc ls (.int (nI 0) :: .ref w9 :: .ref w8 :: .ref m9 :: .ref (ad 0) :: rest)) := zc_ro (W.runS (As := [.ref (ad 0), .ref m9, .ref w8, .ref w9, .int (nI 0)]) (rest := rest) ⟨hx, hb, hml, hown, hts⟩ (c_L_areShares (dC := dC) (dI := dI) (cI := cI) (cZ := cZ) (ad := ad) (sm := sm) (fe := fe) (ex := ex) (dy := dy) (gp := gp) (gc := gc) (op := op) (gr := gr) (st := st) (dl := dl) (wo := wo) (yc := yc) (ya := ya) (ys := ys) (yd := yd) (zc := zc) (zp := zp) (zr := zr) (zs := zs) (zf := zf) (z := z) (zm := zm) (zt := zt) (m9 := m9) (w8 := w8) (w9 := w9) l hL) (va_cwS 5 hts hg9 rfl rfl rfl (by decide +kernel) hR9) ⟨fun a U g mk q => ⟨q.1, q.2.1, va_K.moved (u := U) (U := U.calling g mk a) (Vm.Alike.refl U.vm) q.2.2⟩, fun U hU hW => ⟨rfl, by rw [hU]; exact hP, va_K.moved hW.alike hK⟩⟩ rfl rfl hl9 rfl (lv_room hw9) hdg hc9) (fun r h => by subst h; exact kk)
end
set_option maxHeartbeats 4000000 in
set_option maxRecDepth 100000 in
theorem c_act_set0 (l : Launch) {dC : Nat → ClassId} {dI : Nat → Nat → Nat} {cI cZ : ClassId} {ad : Nat → Nat} {sm fe ex dy : Int32} {gp gc op gr st dl wo yc ya ys yd zc zp zr zs zf : Nat → Int32} {z : Nat} {zm zt : Int64} (hI : iwC ad) : Met l yL_act wsL_act { frames := 3, cells := 0, slots := 0, locals := 65 } (va_Pc [.ref (ad 0), .int (nI 0), .int (nI 0), .int (nI 0), .int (nI 0)] (fun U => va_P (dC, dI) vwCl (wC cI cZ ad sm fe ex dy gp gc op gr st dl wo 0 yc ya ys yd 0 zc zp zr zs zf z zm zt) U.heap ∧ va_K (dC, dI) vwCl [(cI, .int), (cZ, .boolean)] U)) (va_Qi (fun r (_ : Unit) => r = nI 0) (fun _ t => va_P (dC, dI) vwCl (wC cI cZ ad (nI 0) (nI 0) (nI 0) dy gp gc op gr st dl wo 0 yc ya ys yd 0 zc zp zr zs zf z zm zt) t.heap) (awC ad)) 0 0 (awC ad) := by
  refine va_MetW (cc := cL_act) (maxL := 6) (ret := (some .int)) (hh := [(0, 148, 149, 42), (0, 148, 154, 45), (0, 148, 159, 48)]) (by decide) rfl ?_
  intro p e s m args below meth c s₁ B hml hv
  obtain ⟨rfl, hP, hK⟩ := hv
  have hx := B.exec
  have hb := B.bytes
  have hr := B.returns
  have hts := atoms_spec (ws := wsL_act) B.pre
  have hown : s.vm.findClass RL = some m.cls := findClass_of_methodNamed B.named
  have hlocks := B.notSynchronized
  have hS : va_S (awC ad) s.heap s.heap [] := va_S.rf
  have hl := lv_entry ([.ref (ad 0), .int (nI 0), .int (nI 0), .int (nI 0), .int (nI 0)]) (n := 6) (Nat.le_of_ble_eq_true rfl)
  rw [lg_entry_eq]
  generalize (lg_sl ([.ref (ad 0), .int (nI 0), .int (nI 0), .int (nI 0), .int (nI 0)]) ++ List.replicate (6 - (lg_sl ([.ref (ad 0), .int (nI 0), .int (nI 0), .int (nI 0), .int (nI 0)])).length) Slot.unset).toArray = ls at hl ⊢
  have hl : lv_has ls 6 [(0, .ref (ad 0)), (1, .int (nI 0)), (2, .int (nI 0)), (3, .int (nI 0)), (4, .int (nI 0))] := hl
  refine lv_iload_n hx hb dL_act_0 rfl (lv_at hl 1 rfl) ?_
  refine zi_ne (tgt := 15) hx hb (by decide) dL_act_1 (by decide) (fun c_1 => (show False by omega).elim) (fun c_1 => ?_)
  refine lv_aload_n hx hb dL_act_4 rfl (lv_at hl 0 rfl) ?_
  refine lv_iload_n hx hb dL_act_5 rfl (lv_at hl 2 rfl) ?_
  refine lv_iload_n hx hb dL_act_6 rfl (lv_at hl 3 rfl) ?_
  refine lv_iload hx hb dL_act_7 (lv_at hl 4 rfl) ?_
  refine k_X3_setFund_ok l (x1 := nI 0) (x2 := nI 0) (x3 := nI 0) (h1 := (by decide)) (h2 := (by decide)) (h3 := (by decide)) (h0 := rfl) hx hb hml hown hts hK hP gL_act_X3_setFund ⟨Nat.le_of_ble_eq_true rfl, Nat.le_of_ble_eq_true rfl⟩ ⟨Nat.le_of_ble_eq_true rfl, Nat.le_of_ble_eq_true rfl⟩ hl.1 (Nat.le_of_ble_eq_true rfl) dL_act_9 hI (fun _ h => h) hS (fun H locs hP hS _ => ?_)
  refine lv_goto (tgt := 148) hx hb dL_act_12 (by decide) ?_
  refine zt_i (y := nI 0) (left0 _ _) ?_
  exact W.iret (v := nI 0) hx hb hr (fun t ht hW => ⟨⟨nI 0, (), rfl, rfl, by (try dsimp only); rw [ht]; exact hP⟩, hS.F ht⟩) hS.2.2 dL_act_148
section
variable {p : Program} {e : Env} {R : Room} {s : State} {m : MethodId} {args : Array Value} {below : List Frame} {meth : Method} {c : Code} {H : Heap} {locs : List Loc} {cells slots : Nat} {Q : State → Prop} {cc : ByteArray} {pc : Nat} {ls : Array Slot} {rest : List Value} {own : String} {index nL : Nat} {Ts : List Cond} {H0 : Heap} {A0 : Nat → Prop}
theorem k_act_set0 (l : Launch) {dC : Nat → ClassId} {dI : Nat → Nat → Nat} {cI cZ : ClassId} {ad : Nat → Nat} {sm fe ex dy : Int32} {gp gc op gr st dl wo yc ya ys yd zc zp zr zs zf : Nat → Int32} {z : Nat} {zm zt : Int64} (hI : iwC ad) (hx : p.tables.exec = Jvm.exec) (hb : c.code = cc) (hml : c.maxLocals = nL) (hown : s.vm.findClass own = some m.cls) (hts : ∀ w ∈ Ts, w.before args s = true) (hK : va_K (dC, dI) vwCl [(cI, .int), (cZ, .boolean)] s) (hP : va_P (dC, dI) vwCl (wC cI cZ ad sm fe ex dy gp gc op gr st dl wo 0 yc ya ys yd 0 zc zp zr zs zf z zm zt) H) (hg9 : GoodIn Ts (va_wsS own index yL_act wsL_act)) (hR9 : 3 + 1 ≤ R.frames ∧ 8 + (6 + 11) + 65 ≤ R.locals) (hc9 : cells + 0 ≤ R.cells ∧ slots + 0 ≤ R.slots) (hl9 : ls.size = nL) (hw9 : (rest.map fun v => v.category).sum ≤ 8) (hdg : decode cc pc = .ok (.invokestatic index, 3)) (hA : ∀ x, awC ad x → A0 x) (hS : va_S A0 H0 H locs) (kk : ∀ (H1 : Heap) (locs1 : List Loc), va_P (dC, dI) vwCl (wC cI cZ ad (nI 0) (nI 0) (nI 0) dy gp gc op gr st dl wo 0 yc ya ys yd 0 zc zp zr zs zf z zm zt) H1 → va_S A0 H0 H1 locs1 → H.size ≤ H1.size → (∀ q : Nat, q < H.size → ¬ awC ad q → H1[q]? = H[q]?) → W p l e R s m args below meth c H1 locs1 cells slots Q (F0 m (pc + 3) ls (.int (nI 0) :: rest))) : W p l e R s m args below meth c H locs cells slots Q (F0 m pc ls (.int (nI 0) :: .int (nI 0) :: .int (nI 0) :: .int (nI 0) :: .ref (ad 0) :: rest)) := va_calli (vx_runSW (As := [.ref (ad 0), .int (nI 0), .int (nI 0), .int (nI 0), .int (nI 0)]) (rest := rest) ⟨hx, hb, hml, hown, hts⟩ (c_act_set0 (dC := dC) (dI := dI) (cI := cI) (cZ := cZ) (ad := ad) (sm := sm) (fe := fe) (ex := ex) (dy := dy) (gp := gp) (gc := gc) (op := op) (gr := gr) (st := st) (dl := dl) (wo := wo) (yc := yc) (ya := ya) (ys := ys) (yd := yd) (zc := zc) (zp := zp) (zr := zr) (zs := zs) (zf := zf) (z := z) (zm := zm) (zt := zt) l hI) (vx_cwSW 5 hts hg9 rfl rfl rfl (by decide +kernel) hR9) ⟨fun a U g mk q => ⟨q.1, q.2.1, va_K.moved (u := U) (U := U.calling g mk a) (Vm.Alike.refl U.vm) q.2.2⟩, fun U hU hW => ⟨rfl, by rw [hU]; exact hP, va_K.moved hW.alike hK⟩⟩ rfl rfl hl9 rfl (lv_room hw9) hdg hc9) hS (fun q _ h => hA q h) hA (fun r u t H1 locs1 ht _ hu hB hz hk hS1 => by subst hu; rw [ht] at hB; exact kk H1 locs1 hB hS1 hz hk)
end
set_option maxHeartbeats 4000000 in
theorem c_L_dice (l : Launch) {b9 L9 i : Nat} (hL9 : L9 < 2 ^ 31) (hi9 : i < L9) : Met l yL_dice wsL_dice { frames := 0, cells := 0, slots := 0, locals := 0 } (va_Pc [.ref b9, .int (nI i)] (fun U => va_X b9 L9 (fun _ => nI 0) U U.heap ∧ b9 < U.heap.size)) (vp_Si (fun r => r = nI 0)) 0 0 (fun _ => False) := by
  refine Met.ofW (cc := cL_dice) (maxL := 2) (ret := (some .int)) (by decide) rfl ?_
  intro p e s m args below meth c s₁ B hml hv
  obtain ⟨rfl, hX, hbl⟩ := hv
  have hx := B.exec
  have hb := B.bytes
  have hr := B.returns
  have hts := atoms_spec (ws := wsL_dice) B.pre
  have hown : s.vm.findClass RL = some m.cls := findClass_of_methodNamed B.named
  have hS : va_S (fun _ => False) s.heap s.heap [] := va_S.rf
  have hl := lv_entry ([.ref b9, .int (nI i)]) (n := 2) (Nat.le_of_ble_eq_true rfl)
  rw [lg_entry_eq]
  generalize (lg_sl ([.ref b9, .int (nI i)]) ++ List.replicate (2 - (lg_sl ([.ref b9, .int (nI i)])).length) Slot.unset).toArray = ls at hl ⊢
  have hl : lv_has ls 2 [(0, .ref b9), (1, .int (nI i))] := hl
  refine lv_iload_n hx hb dL_dice_0 rfl (lv_at hl 1 rfl) ?_
  refine lv_aload_n hx hb dL_dice_1 rfl (lv_at hl 0 rfl) ?_
  refine va_slen hx hb hX hbl (fun h => h) hS dL_dice_2 ?_
  refine zb_ge (tgt := 12) hx hb (by omega) (by omega) dL_dice_3 (by decide) (fun c9 => (show False by omega).elim) (fun c9 => ?_)
  refine lv_aload_n hx hb dL_dice_6 rfl (lv_at hl 0 rfl) ?_
  refine lv_iload_n hx hb dL_dice_7 rfl (lv_at hl 1 rfl) ?_
  refine va_sld hx hb hX hbl (fun h => h) hS (vp_in_nI (n := i) (by omega) (by omega)) dL_dice_8 ?_
  refine zt_i (y := nI 0) rfl ?_
  refine lv_goto (tgt := 30) hx hb dL_dice_9 (by decide) ?_
  refine lv_ldc hx hb hown (hts (.constant RL 8 (2147483647)) (by decide +kernel)) dL_dice_30 ?_
  refine lv_iand hx hb dL_dice_32 ?_
  refine zt_i (y := nI 0) (by decide) ?_
  exact W.iret (v := nI 0) hx hb hr (fun t ht hW => ⟨nI 0, rfl, rfl, ht⟩) (fun _ h => nomatch h) dL_dice_33
section
variable {p : Program} {e : Env} {R : Room} {s : State} {m : MethodId} {args : Array Value} {below : List Frame} {meth : Method} {c : Code} {H : Heap} {locs : List Loc} {cells slots : Nat} {Q : State → Prop} {cc : ByteArray} {pc : Nat} {ls : Array Slot} {rest : List Value} {own : String} {index nL : Nat} {Ts : List Cond} {H0 : Heap} {A0 : Nat → Prop}
theorem k_L_dice (l : Launch) {b9 L9 i : Nat} (hL9 : L9 < 2 ^ 31) (hi9 : i < L9) (hx : p.tables.exec = Jvm.exec) (hb : c.code = cc) (hml : c.maxLocals = nL) (hown : s.vm.findClass own = some m.cls) (hts : ∀ w ∈ Ts, w.before args s = true) (hX : va_X b9 L9 (fun _ => nI 0) s H) (hbl : b9 < H.size) (hg9 : GoodIn Ts (va_wsS own index yL_dice wsL_dice)) (hR9 : 0 + 1 ≤ R.frames ∧ 8 + (2 + 11) + 0 ≤ R.locals) (hc9 : cells ≤ R.cells ∧ slots ≤ R.slots) (hl9 : ls.size = nL) (hw9 : (rest.map fun v => v.category).sum ≤ 8) (hdg : decode cc pc = .ok (.invokestatic index, 3)) (kk : W p l e R s m args below meth c H locs cells slots Q (F0 m (pc + 3) ls (.int (nI 0) :: rest))) : W p l e R s m args below meth c H locs cells slots Q (F0 m pc ls (.int (nI i) :: .ref b9 :: rest)) := zc_ro (W.runS (As := [.ref b9, .int (nI i)]) (rest := rest) ⟨hx, hb, hml, hown, hts⟩ (c_L_dice l hL9 hi9) (va_cwS 2 hts hg9 rfl rfl rfl (by decide +kernel) hR9) ⟨fun a U g mk q => ⟨q.1, va_X.moved (u := U) (U := U.calling g mk a) (Vm.Alike.refl U.vm) q.2.1, q.2.2⟩, fun U hU hW => ⟨rfl, by rw [hU]; exact va_X.moved hW.alike hX, by rw [hU]; exact hbl⟩⟩ rfl rfl hl9 rfl (lv_room hw9) hdg hc9) (fun r h => by subst h; exact kk)
end
