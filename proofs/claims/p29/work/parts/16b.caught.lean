set_option maxHeartbeats 4000000 in
set_option maxRecDepth 100000 in
theorem c_act_0_10000001_0_0 (l : Launch) {dC : Nat → ClassId} {dI : Nat → Nat → Nat} {cI cZ : ClassId} {ad : Nat → Nat} {sm fe ex dy : Int32} {gp gc op gr st dl wo yc ya ys yd zc zp zr zs zf : Nat → Int32} {z : Nat} {zm zt : Int64} (hfl : l.stackTraces = false) (sz : Nat) : Met l yL_act wsL_act { frames := 7, cells := 1, slots := 6, locals := 113 } (va_Pc [.ref (ad 0), .int (nI 0), .int (nI 10000001), .int (nI 0), .int (nI 0)] (fun U => va_P (dC, dI) vwCl (wC cI cZ ad sm fe ex dy gp gc op gr st dl wo 0 yc ya ys yd 0 zc zp zr zs zf z zm zt) U.heap ∧ va_K (dC, dI) vwCl [(cI, .int), (cZ, .boolean)] U ∧ tX (fun _ => False) U U.heap ∧ tN U ∧ U.heap.size = sz)) (va_Qi (fun r (_ : Unit) => r = (-200000002)) (fun _ t => sz + 1 ≤ t.heap.size) (fun _ => False)) 1 6 (fun _ => False) := by
  refine va_MetW (cc := cL_act) (maxL := 6) (ret := (some .int)) (hh := [(0, 148, 149, 42), (0, 148, 154, 45), (0, 148, 159, 48)]) (by decide) rfl ?_
  intro p e s m args below meth c s₁ B hml hv
  obtain ⟨rfl, hP, hK, hT, hN, hsz⟩ := hv
  have hx := B.exec
  have hb := B.bytes
  have hr := B.returns
  have hts := atoms_spec (ws := wsL_act) B.pre
  have hown : s.vm.findClass RL = some m.cls := findClass_of_methodNamed B.named
  have hlocks := B.notSynchronized
  have hl := lv_entry ([.ref (ad 0), .int (nI 0), .int (nI 10000001), .int (nI 0), .int (nI 0)]) (n := 6) (Nat.le_of_ble_eq_true rfl)
  rw [lg_entry_eq]
  generalize (lg_sl ([.ref (ad 0), .int (nI 0), .int (nI 10000001), .int (nI 0), .int (nI 0)]) ++ List.replicate (6 - (lg_sl ([.ref (ad 0), .int (nI 0), .int (nI 10000001), .int (nI 0), .int (nI 0)])).length) Slot.unset).toArray = ls at hl ⊢
  have hl : lv_has ls 6 [(0, .ref (ad 0)), (1, .int (nI 0)), (2, .int (nI 10000001)), (3, .int (nI 0)), (4, .int (nI 0))] := hl
  refine lv_iload_n hx hb dL_act_0 rfl (lv_at hl 1 rfl) ?_
  refine zi_ne (tgt := 15) hx hb (by decide) dL_act_1 (by decide) (fun c_1 => (show False by omega).elim) (fun c_1 => ?_)
  refine lv_aload_n hx hb dL_act_4 rfl (lv_at hl 0 rfl) ?_
  refine lv_iload_n hx hb dL_act_5 rfl (lv_at hl 2 rfl) ?_
  refine lv_iload_n hx hb dL_act_6 rfl (lv_at hl 3 rfl) ?_
  refine lv_iload hx hb dL_act_7 (lv_at hl 4 rfl) ?_
  have htab : c.exceptionTable.toList = ([⟨0, 148, 149, 42⟩] : List ExceptionTableEntry) ++ ⟨0, 148, 154, 45⟩ :: [⟨0, 148, 159, 48⟩] := (vx_table (x := yL_act) B (hts (.codeWith yL_act cL_act 6 (some .int) [(0, 148, 149, 42), (0, 148, 154, 45), (0, 148, 159, 48)]) List.mem_cons_self)).trans rfl
  refine zx_go (kr_X3_setFund_iae l hfl (x1 := nI 10000001) (x2 := nI 0) (x3 := nI 0) (h1 := (by decide)) hx hb hml hown hts hK hP gL_act_X3_setFund ⟨Nat.le_of_ble_eq_true rfl, Nat.le_of_ble_eq_true rfl⟩ ⟨Nat.le_of_ble_eq_true rfl, Nat.le_of_ble_eq_true rfl⟩ hl.1 (Nat.le_of_ble_eq_true rfl) dL_act_9 hT) (fun ce q9 H1 hz9 hk9 hce hcv hcl => ?_)
  refine vx_catch (own := RL) (name := "java/lang/IllegalArgumentException") (E := "java/lang/IllegalArgumentException") hown [⟨0, 148, 149, 42⟩] ⟨0, 148, 154, 45⟩ [⟨0, 148, 159, 48⟩] htab (fun z hz => by rcases List.mem_singleton.mp hz with rfl; exact Or.inr ⟨by decide, _, hts (.classLink RL 42 "java/lang/IndexOutOfBoundsException") (by decide +kernel), hN.1.2⟩) rfl (by decide) (hts (.classLink RL 45 "java/lang/IllegalArgumentException") (by decide +kernel)) (va_Nw.use rfl hT.2.1.1) hce hcv hcl ?_
  have hS : va_S (fun _ => False) s.heap H1 [] := ⟨Nat.le_of_succ_le hz9, fun q hq _ => hk9 q hq, fun _ h => nomatch h⟩
  refine lv_astore (lv' := [(5, .ref q9), (0, .ref (ad 0)), (1, .int (nI 0)), (2, .int (nI 10000001)), (3, .int (nI 0)), (4, .int (nI 0))]) hx hb dL_act_154 hl (by decide) rfl (fun ls hl => ?_)
  refine lv_ldc hx hb hown (hts (.constant RL 47 (-200000002)) (by decide +kernel)) dL_act_156 ?_
  exact W.iret (v := (-200000002)) hx hb hr (fun t ht hW => ⟨⟨(-200000002), (), rfl, rfl, by show sz + 1 ≤ t.heap.size; rw [ht, ← hsz]; exact hz9⟩, hS.F ht⟩) hS.2.2 dL_act_158
section
variable {p : Program} {e : Env} {R : Room} {s : State} {m : MethodId} {args : Array Value} {below : List Frame} {meth : Method} {c : Code} {H : Heap} {locs : List Loc} {cells slots : Nat} {Q : State → Prop} {cc : ByteArray} {pc : Nat} {ls : Array Slot} {rest : List Value} {own : String} {index nL : Nat} {Ts : List Cond} {H0 : Heap} {A0 : Nat → Prop}
theorem k_act_0_10000001_0_0 (l : Launch) {dC : Nat → ClassId} {dI : Nat → Nat → Nat} {cI cZ : ClassId} {ad : Nat → Nat} {sm fe ex dy : Int32} {gp gc op gr st dl wo yc ya ys yd zc zp zr zs zf : Nat → Int32} {z : Nat} {zm zt : Int64} (hfl : l.stackTraces = false) (hx : p.tables.exec = Jvm.exec) (hb : c.code = cc) (hml : c.maxLocals = nL) (hown : s.vm.findClass own = some m.cls) (hts : ∀ w ∈ Ts, w.before args s = true) (hK : va_K (dC, dI) vwCl [(cI, .int), (cZ, .boolean)] s) (hP : va_P (dC, dI) vwCl (wC cI cZ ad sm fe ex dy gp gc op gr st dl wo 0 yc ya ys yd 0 zc zp zr zs zf z zm zt) H) (hg9 : GoodIn Ts (va_wsS own index yL_act wsL_act)) (hR9 : 7 + 1 ≤ R.frames ∧ 8 + (6 + 11) + 113 ≤ R.locals) (hc9 : cells + 1 ≤ R.cells ∧ slots + 6 ≤ R.slots) (hl9 : ls.size = nL) (hw9 : (rest.map fun v => v.category).sum ≤ 8) (hdg : decode cc pc = .ok (.invokestatic index, 3)) (hT : tX (fun _ => False) s H) (hN : tN s) (hS : va_S A0 H0 H locs) (kk : ∀ (H1 : Heap) (locs1 : List Loc), va_S A0 H0 H1 locs1 → H.size + 1 ≤ H1.size → (∀ q : Nat, q < H.size → H1[q]? = H[q]?) → W p l e R s m args below meth c H1 locs1 (cells + 1) (slots + 6) Q (F0 m (pc + 3) ls (.int (-200000002) :: rest))) : W p l e R s m args below meth c H locs cells slots Q (F0 m pc ls (.int (nI 0) :: .int (nI 0) :: .int (nI 10000001) :: .int (nI 0) :: .ref (ad 0) :: rest)) := va_calli (vx_runSW (As := [.ref (ad 0), .int (nI 0), .int (nI 10000001), .int (nI 0), .int (nI 0)]) (rest := rest) ⟨hx, hb, hml, hown, hts⟩ (c_act_0_10000001_0_0 (dC := dC) (dI := dI) (cI := cI) (cZ := cZ) (ad := ad) (sm := sm) (fe := fe) (ex := ex) (dy := dy) (gp := gp) (gc := gc) (op := op) (gr := gr) (st := st) (dl := dl) (wo := wo) (yc := yc) (ya := ya) (ys := ys) (yd := yd) (zc := zc) (zp := zp) (zr := zr) (zs := zs) (zf := zf) (z := z) (zm := zm) (zt := zt) l hfl H.size) (vx_cwSW 5 hts hg9 rfl rfl rfl (by decide +kernel) hR9) ⟨fun a U g mk q => ⟨q.1, q.2.1, va_K.moved (u := U) (U := U.calling g mk a) (Vm.Alike.refl U.vm) q.2.2.1, tX.same (u := U) (U := U.calling g mk a) rfl q.2.2.2.1, tN.moved (u := U) (U := U.calling g mk a) (Vm.Alike.refl U.vm) q.2.2.2.2.1, q.2.2.2.2.2⟩, fun U hU hW => ⟨rfl, by rw [hU]; exact hP, va_K.moved hW.alike hK, by rw [hU]; exact tX.warm hW hT, tN.moved hW.alike hN, by rw [hU]⟩⟩ rfl rfl hl9 rfl (lv_room hw9) hdg hc9) hS (fun _ _ h => h.elim) (fun _ h => h.elim) (fun r u t H1 locs1 ht _ hu hB hz hk hS1 => by subst hu; rw [ht] at hB; exact kk H1 locs1 hS1 hB (fun q hq => hk q hq (fun h => h)))
end
set_option maxHeartbeats 4000000 in
set_option maxRecDepth 100000 in
theorem c_act_0_0_501_0 (l : Launch) {dC : Nat → ClassId} {dI : Nat → Nat → Nat} {cI cZ : ClassId} {ad : Nat → Nat} {sm fe ex dy : Int32} {gp gc op gr st dl wo yc ya ys yd zc zp zr zs zf : Nat → Int32} {z : Nat} {zm zt : Int64} (hfl : l.stackTraces = false) (sz : Nat) : Met l yL_act wsL_act { frames := 7, cells := 1, slots := 6, locals := 113 } (va_Pc [.ref (ad 0), .int (nI 0), .int (nI 0), .int (nI 501), .int (nI 0)] (fun U => va_P (dC, dI) vwCl (wC cI cZ ad sm fe ex dy gp gc op gr st dl wo 0 yc ya ys yd 0 zc zp zr zs zf z zm zt) U.heap ∧ va_K (dC, dI) vwCl [(cI, .int), (cZ, .boolean)] U ∧ tX (fun _ => False) U U.heap ∧ tN U ∧ U.heap.size = sz)) (va_Qi (fun r (_ : Unit) => r = (-200000002)) (fun _ t => sz + 1 ≤ t.heap.size) (fun _ => False)) 1 6 (fun _ => False) := by
  refine va_MetW (cc := cL_act) (maxL := 6) (ret := (some .int)) (hh := [(0, 148, 149, 42), (0, 148, 154, 45), (0, 148, 159, 48)]) (by decide) rfl ?_
  intro p e s m args below meth c s₁ B hml hv
  obtain ⟨rfl, hP, hK, hT, hN, hsz⟩ := hv
  have hx := B.exec
  have hb := B.bytes
  have hr := B.returns
  have hts := atoms_spec (ws := wsL_act) B.pre
  have hown : s.vm.findClass RL = some m.cls := findClass_of_methodNamed B.named
  have hlocks := B.notSynchronized
  have hl := lv_entry ([.ref (ad 0), .int (nI 0), .int (nI 0), .int (nI 501), .int (nI 0)]) (n := 6) (Nat.le_of_ble_eq_true rfl)
  rw [lg_entry_eq]
  generalize (lg_sl ([.ref (ad 0), .int (nI 0), .int (nI 0), .int (nI 501), .int (nI 0)]) ++ List.replicate (6 - (lg_sl ([.ref (ad 0), .int (nI 0), .int (nI 0), .int (nI 501), .int (nI 0)])).length) Slot.unset).toArray = ls at hl ⊢
  have hl : lv_has ls 6 [(0, .ref (ad 0)), (1, .int (nI 0)), (2, .int (nI 0)), (3, .int (nI 501)), (4, .int (nI 0))] := hl
  refine lv_iload_n hx hb dL_act_0 rfl (lv_at hl 1 rfl) ?_
  refine zi_ne (tgt := 15) hx hb (by decide) dL_act_1 (by decide) (fun c_1 => (show False by omega).elim) (fun c_1 => ?_)
  refine lv_aload_n hx hb dL_act_4 rfl (lv_at hl 0 rfl) ?_
  refine lv_iload_n hx hb dL_act_5 rfl (lv_at hl 2 rfl) ?_
  refine lv_iload_n hx hb dL_act_6 rfl (lv_at hl 3 rfl) ?_
  refine lv_iload hx hb dL_act_7 (lv_at hl 4 rfl) ?_
  have htab : c.exceptionTable.toList = ([⟨0, 148, 149, 42⟩] : List ExceptionTableEntry) ++ ⟨0, 148, 154, 45⟩ :: [⟨0, 148, 159, 48⟩] := (vx_table (x := yL_act) B (hts (.codeWith yL_act cL_act 6 (some .int) [(0, 148, 149, 42), (0, 148, 154, 45), (0, 148, 159, 48)]) List.mem_cons_self)).trans rfl
  refine zx_go (kr_X3_setFund_iae l hfl (x1 := nI 0) (x2 := nI 501) (x3 := nI 0) (h1 := (by decide)) hx hb hml hown hts hK hP gL_act_X3_setFund ⟨Nat.le_of_ble_eq_true rfl, Nat.le_of_ble_eq_true rfl⟩ ⟨Nat.le_of_ble_eq_true rfl, Nat.le_of_ble_eq_true rfl⟩ hl.1 (Nat.le_of_ble_eq_true rfl) dL_act_9 hT) (fun ce q9 H1 hz9 hk9 hce hcv hcl => ?_)
  refine vx_catch (own := RL) (name := "java/lang/IllegalArgumentException") (E := "java/lang/IllegalArgumentException") hown [⟨0, 148, 149, 42⟩] ⟨0, 148, 154, 45⟩ [⟨0, 148, 159, 48⟩] htab (fun z hz => by rcases List.mem_singleton.mp hz with rfl; exact Or.inr ⟨by decide, _, hts (.classLink RL 42 "java/lang/IndexOutOfBoundsException") (by decide +kernel), hN.1.2⟩) rfl (by decide) (hts (.classLink RL 45 "java/lang/IllegalArgumentException") (by decide +kernel)) (va_Nw.use rfl hT.2.1.1) hce hcv hcl ?_
  have hS : va_S (fun _ => False) s.heap H1 [] := ⟨Nat.le_of_succ_le hz9, fun q hq _ => hk9 q hq, fun _ h => nomatch h⟩
  refine lv_astore (lv' := [(5, .ref q9), (0, .ref (ad 0)), (1, .int (nI 0)), (2, .int (nI 0)), (3, .int (nI 501)), (4, .int (nI 0))]) hx hb dL_act_154 hl (by decide) rfl (fun ls hl => ?_)
  refine lv_ldc hx hb hown (hts (.constant RL 47 (-200000002)) (by decide +kernel)) dL_act_156 ?_
  exact W.iret (v := (-200000002)) hx hb hr (fun t ht hW => ⟨⟨(-200000002), (), rfl, rfl, by show sz + 1 ≤ t.heap.size; rw [ht, ← hsz]; exact hz9⟩, hS.F ht⟩) hS.2.2 dL_act_158
section
variable {p : Program} {e : Env} {R : Room} {s : State} {m : MethodId} {args : Array Value} {below : List Frame} {meth : Method} {c : Code} {H : Heap} {locs : List Loc} {cells slots : Nat} {Q : State → Prop} {cc : ByteArray} {pc : Nat} {ls : Array Slot} {rest : List Value} {own : String} {index nL : Nat} {Ts : List Cond} {H0 : Heap} {A0 : Nat → Prop}
theorem k_act_0_0_501_0 (l : Launch) {dC : Nat → ClassId} {dI : Nat → Nat → Nat} {cI cZ : ClassId} {ad : Nat → Nat} {sm fe ex dy : Int32} {gp gc op gr st dl wo yc ya ys yd zc zp zr zs zf : Nat → Int32} {z : Nat} {zm zt : Int64} (hfl : l.stackTraces = false) (hx : p.tables.exec = Jvm.exec) (hb : c.code = cc) (hml : c.maxLocals = nL) (hown : s.vm.findClass own = some m.cls) (hts : ∀ w ∈ Ts, w.before args s = true) (hK : va_K (dC, dI) vwCl [(cI, .int), (cZ, .boolean)] s) (hP : va_P (dC, dI) vwCl (wC cI cZ ad sm fe ex dy gp gc op gr st dl wo 0 yc ya ys yd 0 zc zp zr zs zf z zm zt) H) (hg9 : GoodIn Ts (va_wsS own index yL_act wsL_act)) (hR9 : 7 + 1 ≤ R.frames ∧ 8 + (6 + 11) + 113 ≤ R.locals) (hc9 : cells + 1 ≤ R.cells ∧ slots + 6 ≤ R.slots) (hl9 : ls.size = nL) (hw9 : (rest.map fun v => v.category).sum ≤ 8) (hdg : decode cc pc = .ok (.invokestatic index, 3)) (hT : tX (fun _ => False) s H) (hN : tN s) (hS : va_S A0 H0 H locs) (kk : ∀ (H1 : Heap) (locs1 : List Loc), va_S A0 H0 H1 locs1 → H.size + 1 ≤ H1.size → (∀ q : Nat, q < H.size → H1[q]? = H[q]?) → W p l e R s m args below meth c H1 locs1 (cells + 1) (slots + 6) Q (F0 m (pc + 3) ls (.int (-200000002) :: rest))) : W p l e R s m args below meth c H locs cells slots Q (F0 m pc ls (.int (nI 0) :: .int (nI 501) :: .int (nI 0) :: .int (nI 0) :: .ref (ad 0) :: rest)) := va_calli (vx_runSW (As := [.ref (ad 0), .int (nI 0), .int (nI 0), .int (nI 501), .int (nI 0)]) (rest := rest) ⟨hx, hb, hml, hown, hts⟩ (c_act_0_0_501_0 (dC := dC) (dI := dI) (cI := cI) (cZ := cZ) (ad := ad) (sm := sm) (fe := fe) (ex := ex) (dy := dy) (gp := gp) (gc := gc) (op := op) (gr := gr) (st := st) (dl := dl) (wo := wo) (yc := yc) (ya := ya) (ys := ys) (yd := yd) (zc := zc) (zp := zp) (zr := zr) (zs := zs) (zf := zf) (z := z) (zm := zm) (zt := zt) l hfl H.size) (vx_cwSW 5 hts hg9 rfl rfl rfl (by decide +kernel) hR9) ⟨fun a U g mk q => ⟨q.1, q.2.1, va_K.moved (u := U) (U := U.calling g mk a) (Vm.Alike.refl U.vm) q.2.2.1, tX.same (u := U) (U := U.calling g mk a) rfl q.2.2.2.1, tN.moved (u := U) (U := U.calling g mk a) (Vm.Alike.refl U.vm) q.2.2.2.2.1, q.2.2.2.2.2⟩, fun U hU hW => ⟨rfl, by rw [hU]; exact hP, va_K.moved hW.alike hK, by rw [hU]; exact tX.warm hW hT, tN.moved hW.alike hN, by rw [hU]⟩⟩ rfl rfl hl9 rfl (lv_room hw9) hdg hc9) hS (fun _ _ h => h.elim) (fun _ h => h.elim) (fun r u t H1 locs1 ht _ hu hB hz hk hS1 => by subst hu; rw [ht] at hB; exact kk H1 locs1 hS1 hB (fun q hq => hk q hq (fun h => h)))
end
set_option maxHeartbeats 4000000 in
set_option maxRecDepth 100000 in
theorem c_act_0_0_0_1000001 (l : Launch) {dC : Nat → ClassId} {dI : Nat → Nat → Nat} {cI cZ : ClassId} {ad : Nat → Nat} {sm fe ex dy : Int32} {gp gc op gr st dl wo yc ya ys yd zc zp zr zs zf : Nat → Int32} {z : Nat} {zm zt : Int64} (hfl : l.stackTraces = false) (sz : Nat) : Met l yL_act wsL_act { frames := 7, cells := 1, slots := 6, locals := 113 } (va_Pc [.ref (ad 0), .int (nI 0), .int (nI 0), .int (nI 0), .int (nI 1000001)] (fun U => va_P (dC, dI) vwCl (wC cI cZ ad sm fe ex dy gp gc op gr st dl wo 0 yc ya ys yd 0 zc zp zr zs zf z zm zt) U.heap ∧ va_K (dC, dI) vwCl [(cI, .int), (cZ, .boolean)] U ∧ tX (fun _ => False) U U.heap ∧ tN U ∧ U.heap.size = sz)) (va_Qi (fun r (_ : Unit) => r = (-200000002)) (fun _ t => sz + 1 ≤ t.heap.size) (fun _ => False)) 1 6 (fun _ => False) := by
  refine va_MetW (cc := cL_act) (maxL := 6) (ret := (some .int)) (hh := [(0, 148, 149, 42), (0, 148, 154, 45), (0, 148, 159, 48)]) (by decide) rfl ?_
  intro p e s m args below meth c s₁ B hml hv
  obtain ⟨rfl, hP, hK, hT, hN, hsz⟩ := hv
  have hx := B.exec
  have hb := B.bytes
  have hr := B.returns
  have hts := atoms_spec (ws := wsL_act) B.pre
  have hown : s.vm.findClass RL = some m.cls := findClass_of_methodNamed B.named
  have hlocks := B.notSynchronized
  have hl := lv_entry ([.ref (ad 0), .int (nI 0), .int (nI 0), .int (nI 0), .int (nI 1000001)]) (n := 6) (Nat.le_of_ble_eq_true rfl)
  rw [lg_entry_eq]
  generalize (lg_sl ([.ref (ad 0), .int (nI 0), .int (nI 0), .int (nI 0), .int (nI 1000001)]) ++ List.replicate (6 - (lg_sl ([.ref (ad 0), .int (nI 0), .int (nI 0), .int (nI 0), .int (nI 1000001)])).length) Slot.unset).toArray = ls at hl ⊢
  have hl : lv_has ls 6 [(0, .ref (ad 0)), (1, .int (nI 0)), (2, .int (nI 0)), (3, .int (nI 0)), (4, .int (nI 1000001))] := hl
  refine lv_iload_n hx hb dL_act_0 rfl (lv_at hl 1 rfl) ?_
  refine zi_ne (tgt := 15) hx hb (by decide) dL_act_1 (by decide) (fun c_1 => (show False by omega).elim) (fun c_1 => ?_)
  refine lv_aload_n hx hb dL_act_4 rfl (lv_at hl 0 rfl) ?_
  refine lv_iload_n hx hb dL_act_5 rfl (lv_at hl 2 rfl) ?_
  refine lv_iload_n hx hb dL_act_6 rfl (lv_at hl 3 rfl) ?_
  refine lv_iload hx hb dL_act_7 (lv_at hl 4 rfl) ?_
  have htab : c.exceptionTable.toList = ([⟨0, 148, 149, 42⟩] : List ExceptionTableEntry) ++ ⟨0, 148, 154, 45⟩ :: [⟨0, 148, 159, 48⟩] := (vx_table (x := yL_act) B (hts (.codeWith yL_act cL_act 6 (some .int) [(0, 148, 149, 42), (0, 148, 154, 45), (0, 148, 159, 48)]) List.mem_cons_self)).trans rfl
  refine zx_go (kr_X3_setFund_iae l hfl (x1 := nI 0) (x2 := nI 0) (x3 := nI 1000001) (h1 := (by decide)) hx hb hml hown hts hK hP gL_act_X3_setFund ⟨Nat.le_of_ble_eq_true rfl, Nat.le_of_ble_eq_true rfl⟩ ⟨Nat.le_of_ble_eq_true rfl, Nat.le_of_ble_eq_true rfl⟩ hl.1 (Nat.le_of_ble_eq_true rfl) dL_act_9 hT) (fun ce q9 H1 hz9 hk9 hce hcv hcl => ?_)
  refine vx_catch (own := RL) (name := "java/lang/IllegalArgumentException") (E := "java/lang/IllegalArgumentException") hown [⟨0, 148, 149, 42⟩] ⟨0, 148, 154, 45⟩ [⟨0, 148, 159, 48⟩] htab (fun z hz => by rcases List.mem_singleton.mp hz with rfl; exact Or.inr ⟨by decide, _, hts (.classLink RL 42 "java/lang/IndexOutOfBoundsException") (by decide +kernel), hN.1.2⟩) rfl (by decide) (hts (.classLink RL 45 "java/lang/IllegalArgumentException") (by decide +kernel)) (va_Nw.use rfl hT.2.1.1) hce hcv hcl ?_
  have hS : va_S (fun _ => False) s.heap H1 [] := ⟨Nat.le_of_succ_le hz9, fun q hq _ => hk9 q hq, fun _ h => nomatch h⟩
  refine lv_astore (lv' := [(5, .ref q9), (0, .ref (ad 0)), (1, .int (nI 0)), (2, .int (nI 0)), (3, .int (nI 0)), (4, .int (nI 1000001))]) hx hb dL_act_154 hl (by decide) rfl (fun ls hl => ?_)
  refine lv_ldc hx hb hown (hts (.constant RL 47 (-200000002)) (by decide +kernel)) dL_act_156 ?_
  exact W.iret (v := (-200000002)) hx hb hr (fun t ht hW => ⟨⟨(-200000002), (), rfl, rfl, by show sz + 1 ≤ t.heap.size; rw [ht, ← hsz]; exact hz9⟩, hS.F ht⟩) hS.2.2 dL_act_158
section
variable {p : Program} {e : Env} {R : Room} {s : State} {m : MethodId} {args : Array Value} {below : List Frame} {meth : Method} {c : Code} {H : Heap} {locs : List Loc} {cells slots : Nat} {Q : State → Prop} {cc : ByteArray} {pc : Nat} {ls : Array Slot} {rest : List Value} {own : String} {index nL : Nat} {Ts : List Cond} {H0 : Heap} {A0 : Nat → Prop}
theorem k_act_0_0_0_1000001 (l : Launch) {dC : Nat → ClassId} {dI : Nat → Nat → Nat} {cI cZ : ClassId} {ad : Nat → Nat} {sm fe ex dy : Int32} {gp gc op gr st dl wo yc ya ys yd zc zp zr zs zf : Nat → Int32} {z : Nat} {zm zt : Int64} (hfl : l.stackTraces = false) (hx : p.tables.exec = Jvm.exec) (hb : c.code = cc) (hml : c.maxLocals = nL) (hown : s.vm.findClass own = some m.cls) (hts : ∀ w ∈ Ts, w.before args s = true) (hK : va_K (dC, dI) vwCl [(cI, .int), (cZ, .boolean)] s) (hP : va_P (dC, dI) vwCl (wC cI cZ ad sm fe ex dy gp gc op gr st dl wo 0 yc ya ys yd 0 zc zp zr zs zf z zm zt) H) (hg9 : GoodIn Ts (va_wsS own index yL_act wsL_act)) (hR9 : 7 + 1 ≤ R.frames ∧ 8 + (6 + 11) + 113 ≤ R.locals) (hc9 : cells + 1 ≤ R.cells ∧ slots + 6 ≤ R.slots) (hl9 : ls.size = nL) (hw9 : (rest.map fun v => v.category).sum ≤ 8) (hdg : decode cc pc = .ok (.invokestatic index, 3)) (hT : tX (fun _ => False) s H) (hN : tN s) (hS : va_S A0 H0 H locs) (kk : ∀ (H1 : Heap) (locs1 : List Loc), va_S A0 H0 H1 locs1 → H.size + 1 ≤ H1.size → (∀ q : Nat, q < H.size → H1[q]? = H[q]?) → W p l e R s m args below meth c H1 locs1 (cells + 1) (slots + 6) Q (F0 m (pc + 3) ls (.int (-200000002) :: rest))) : W p l e R s m args below meth c H locs cells slots Q (F0 m pc ls (.int (nI 1000001) :: .int (nI 0) :: .int (nI 0) :: .int (nI 0) :: .ref (ad 0) :: rest)) := va_calli (vx_runSW (As := [.ref (ad 0), .int (nI 0), .int (nI 0), .int (nI 0), .int (nI 1000001)]) (rest := rest) ⟨hx, hb, hml, hown, hts⟩ (c_act_0_0_0_1000001 (dC := dC) (dI := dI) (cI := cI) (cZ := cZ) (ad := ad) (sm := sm) (fe := fe) (ex := ex) (dy := dy) (gp := gp) (gc := gc) (op := op) (gr := gr) (st := st) (dl := dl) (wo := wo) (yc := yc) (ya := ya) (ys := ys) (yd := yd) (zc := zc) (zp := zp) (zr := zr) (zs := zs) (zf := zf) (z := z) (zm := zm) (zt := zt) l hfl H.size) (vx_cwSW 5 hts hg9 rfl rfl rfl (by decide +kernel) hR9) ⟨fun a U g mk q => ⟨q.1, q.2.1, va_K.moved (u := U) (U := U.calling g mk a) (Vm.Alike.refl U.vm) q.2.2.1, tX.same (u := U) (U := U.calling g mk a) rfl q.2.2.2.1, tN.moved (u := U) (U := U.calling g mk a) (Vm.Alike.refl U.vm) q.2.2.2.2.1, q.2.2.2.2.2⟩, fun U hU hW => ⟨rfl, by rw [hU]; exact hP, va_K.moved hW.alike hK, by rw [hU]; exact tX.warm hW hT, tN.moved hW.alike hN, by rw [hU]⟩⟩ rfl rfl hl9 rfl (lv_room hw9) hdg hc9) hS (fun _ _ h => h.elim) (fun _ h => h.elim) (fun r u t H1 locs1 ht _ hu hB hz hk hS1 => by subst hu; rw [ht] at hB; exact kk H1 locs1 hS1 hB (fun q hq => hk q hq (fun h => h)))
end
set_option maxHeartbeats 4000000 in
set_option maxRecDepth 100000 in
theorem c_setGrade_6_0_0 (l : Launch) {dC : Nat → ClassId} {dI : Nat → Nat → Nat} {cI cZ : ClassId} {ad : Nat → Nat} {sm fe ex dy : Int32} {gp gc op gr st dl wo yc ya ys yd zc zp zr zs zf : Nat → Int32} {z : Nat} {zm zt : Int64} (hfl : l.stackTraces = false) (sz : Nat) : Met l yL_setGrade wsL_setGrade { frames := 7, cells := 1, slots := 6, locals := 113 } (va_Pc [.ref (ad 0), .int (nI 6), .int (nI 0), .int (nI 0)] (fun U => va_P (dC, dI) vwCl (wC cI cZ ad sm fe ex dy gp gc op gr st dl wo 0 yc ya ys yd 0 zc zp zr zs zf z zm zt) U.heap ∧ va_K (dC, dI) vwCl [(cI, .int), (cZ, .boolean)] U ∧ tX (fun _ => False) U U.heap ∧ tN U ∧ U.heap.size = sz)) (va_Qi (fun r (_ : Unit) => r = (-200000001)) (fun _ t => sz + 1 ≤ t.heap.size) (fun _ => False)) 1 6 (fun _ => False) := by
  refine va_MetW (cc := cL_setGrade) (maxL := 5) (ret := (some .int)) (hh := [(0, 8, 9, 42), (0, 8, 14, 45), (0, 8, 19, 48)]) (by decide) rfl ?_
  intro p e s m args below meth c s₁ B hml hv
  obtain ⟨rfl, hP, hK, hT, hN, hsz⟩ := hv
  have hx := B.exec
  have hb := B.bytes
  have hr := B.returns
  have hts := atoms_spec (ws := wsL_setGrade) B.pre
  have hown : s.vm.findClass RL = some m.cls := findClass_of_methodNamed B.named
  have hlocks := B.notSynchronized
  have hl := lv_entry ([.ref (ad 0), .int (nI 6), .int (nI 0), .int (nI 0)]) (n := 5) (Nat.le_of_ble_eq_true rfl)
  rw [lg_entry_eq]
  generalize (lg_sl ([.ref (ad 0), .int (nI 6), .int (nI 0), .int (nI 0)]) ++ List.replicate (5 - (lg_sl ([.ref (ad 0), .int (nI 6), .int (nI 0), .int (nI 0)])).length) Slot.unset).toArray = ls at hl ⊢
  have hl : lv_has ls 5 [(0, .ref (ad 0)), (1, .int (nI 6)), (2, .int (nI 0)), (3, .int (nI 0))] := hl
  refine lv_aload_n hx hb dL_setGrade_0 rfl (lv_at hl 0 rfl) ?_
  refine lv_iload_n hx hb dL_setGrade_1 rfl (lv_at hl 1 rfl) ?_
  refine lv_iload_n hx hb dL_setGrade_2 rfl (lv_at hl 2 rfl) ?_
  refine lv_iload_n hx hb dL_setGrade_3 rfl (lv_at hl 3 rfl) ?_
  have htab : c.exceptionTable.toList = ([] : List ExceptionTableEntry) ++ ⟨0, 8, 9, 42⟩ :: [⟨0, 8, 14, 45⟩, ⟨0, 8, 19, 48⟩] := (vx_table (x := yL_setGrade) B (hts (.codeWith yL_setGrade cL_setGrade 5 (some .int) [(0, 8, 9, 42), (0, 8, 14, 45), (0, 8, 19, 48)]) List.mem_cons_self)).trans rfl
  refine zx_go (kr_X3_setGrade_ioobe l hfl (x1 := nI 6) (x2 := nI 0) (x3 := nI 0) (h1 := (by decide)) hx hb hml hown hts hK hP gL_setGrade_X3_setGrade ⟨Nat.le_of_ble_eq_true rfl, Nat.le_of_ble_eq_true rfl⟩ ⟨Nat.le_of_ble_eq_true rfl, Nat.le_of_ble_eq_true rfl⟩ hl.1 (Nat.le_of_ble_eq_true rfl) dL_setGrade_4 hT) (fun ce q9 H1 hz9 hk9 hce hcv hcl => ?_)
  refine vx_catch (own := RL) (name := "java/lang/IndexOutOfBoundsException") (E := "java/lang/IndexOutOfBoundsException") hown [] ⟨0, 8, 9, 42⟩ [⟨0, 8, 14, 45⟩, ⟨0, 8, 19, 48⟩] htab (fun z hz => nomatch hz) rfl (by decide) (hts (.classLink RL 42 "java/lang/IndexOutOfBoundsException") (by decide +kernel)) (va_Nw.use rfl hT.2.1.2.2) hce hcv hcl ?_
  have hS : va_S (fun _ => False) s.heap H1 [] := ⟨Nat.le_of_succ_le hz9, fun q hq _ => hk9 q hq, fun _ h => nomatch h⟩
  refine lv_astore (lv' := [(4, .ref q9), (0, .ref (ad 0)), (1, .int (nI 6)), (2, .int (nI 0)), (3, .int (nI 0))]) hx hb dL_setGrade_9 hl (by decide) rfl (fun ls hl => ?_)
  refine lv_ldc hx hb hown (hts (.constant RL 44 (-200000001)) (by decide +kernel)) dL_setGrade_11 ?_
  exact W.iret (v := (-200000001)) hx hb hr (fun t ht hW => ⟨⟨(-200000001), (), rfl, rfl, by show sz + 1 ≤ t.heap.size; rw [ht, ← hsz]; exact hz9⟩, hS.F ht⟩) hS.2.2 dL_setGrade_13
section
variable {p : Program} {e : Env} {R : Room} {s : State} {m : MethodId} {args : Array Value} {below : List Frame} {meth : Method} {c : Code} {H : Heap} {locs : List Loc} {cells slots : Nat} {Q : State → Prop} {cc : ByteArray} {pc : Nat} {ls : Array Slot} {rest : List Value} {own : String} {index nL : Nat} {Ts : List Cond} {H0 : Heap} {A0 : Nat → Prop}
theorem k_setGrade_6_0_0 (l : Launch) {dC : Nat → ClassId} {dI : Nat → Nat → Nat} {cI cZ : ClassId} {ad : Nat → Nat} {sm fe ex dy : Int32} {gp gc op gr st dl wo yc ya ys yd zc zp zr zs zf : Nat → Int32} {z : Nat} {zm zt : Int64} (hfl : l.stackTraces = false) (hx : p.tables.exec = Jvm.exec) (hb : c.code = cc) (hml : c.maxLocals = nL) (hown : s.vm.findClass own = some m.cls) (hts : ∀ w ∈ Ts, w.before args s = true) (hK : va_K (dC, dI) vwCl [(cI, .int), (cZ, .boolean)] s) (hP : va_P (dC, dI) vwCl (wC cI cZ ad sm fe ex dy gp gc op gr st dl wo 0 yc ya ys yd 0 zc zp zr zs zf z zm zt) H) (hg9 : GoodIn Ts (va_wsS own index yL_setGrade wsL_setGrade)) (hR9 : 7 + 1 ≤ R.frames ∧ 8 + (5 + 11) + 113 ≤ R.locals) (hc9 : cells + 1 ≤ R.cells ∧ slots + 6 ≤ R.slots) (hl9 : ls.size = nL) (hw9 : (rest.map fun v => v.category).sum ≤ 8) (hdg : decode cc pc = .ok (.invokestatic index, 3)) (hT : tX (fun _ => False) s H) (hN : tN s) (hS : va_S A0 H0 H locs) (kk : ∀ (H1 : Heap) (locs1 : List Loc), va_S A0 H0 H1 locs1 → H.size + 1 ≤ H1.size → (∀ q : Nat, q < H.size → H1[q]? = H[q]?) → W p l e R s m args below meth c H1 locs1 (cells + 1) (slots + 6) Q (F0 m (pc + 3) ls (.int (-200000001) :: rest))) : W p l e R s m args below meth c H locs cells slots Q (F0 m pc ls (.int (nI 0) :: .int (nI 0) :: .int (nI 6) :: .ref (ad 0) :: rest)) := va_calli (vx_runSW (As := [.ref (ad 0), .int (nI 6), .int (nI 0), .int (nI 0)]) (rest := rest) ⟨hx, hb, hml, hown, hts⟩ (c_setGrade_6_0_0 (dC := dC) (dI := dI) (cI := cI) (cZ := cZ) (ad := ad) (sm := sm) (fe := fe) (ex := ex) (dy := dy) (gp := gp) (gc := gc) (op := op) (gr := gr) (st := st) (dl := dl) (wo := wo) (yc := yc) (ya := ya) (ys := ys) (yd := yd) (zc := zc) (zp := zp) (zr := zr) (zs := zs) (zf := zf) (z := z) (zm := zm) (zt := zt) l hfl H.size) (vx_cwSW 4 hts hg9 rfl rfl rfl (by decide +kernel) hR9) ⟨fun a U g mk q => ⟨q.1, q.2.1, va_K.moved (u := U) (U := U.calling g mk a) (Vm.Alike.refl U.vm) q.2.2.1, tX.same (u := U) (U := U.calling g mk a) rfl q.2.2.2.1, tN.moved (u := U) (U := U.calling g mk a) (Vm.Alike.refl U.vm) q.2.2.2.2.1, q.2.2.2.2.2⟩, fun U hU hW => ⟨rfl, by rw [hU]; exact hP, va_K.moved hW.alike hK, by rw [hU]; exact tX.warm hW hT, tN.moved hW.alike hN, by rw [hU]⟩⟩ rfl rfl hl9 rfl (lv_room hw9) hdg hc9) hS (fun _ _ h => h.elim) (fun _ h => h.elim) (fun r u t H1 locs1 ht _ hu hB hz hk hS1 => by subst hu; rw [ht] at hB; exact kk H1 locs1 hS1 hB (fun q hq => hk q hq (fun h => h)))
end
set_option maxHeartbeats 4000000 in
set_option maxRecDepth 100000 in
theorem c_setGrade_1_101_1 (l : Launch) {dC : Nat → ClassId} {dI : Nat → Nat → Nat} {cI cZ : ClassId} {ad : Nat → Nat} {sm fe ex dy : Int32} {gp gc op gr st dl wo yc ya ys yd zc zp zr zs zf : Nat → Int32} {z : Nat} {zm zt : Int64} (hfl : l.stackTraces = false) (sz : Nat) : Met l yL_setGrade wsL_setGrade { frames := 7, cells := 1, slots := 6, locals := 113 } (va_Pc [.ref (ad 0), .int (nI 1), .int (nI 101), .int (nI 1)] (fun U => va_P (dC, dI) vwCl (wC cI cZ ad sm fe ex dy gp gc op gr st dl wo 0 yc ya ys yd 0 zc zp zr zs zf z zm zt) U.heap ∧ va_K (dC, dI) vwCl [(cI, .int), (cZ, .boolean)] U ∧ tX (fun _ => False) U U.heap ∧ tN U ∧ U.heap.size = sz)) (va_Qi (fun r (_ : Unit) => r = (-200000002)) (fun _ t => sz + 1 ≤ t.heap.size) (fun _ => False)) 1 6 (fun _ => False) := by
  refine va_MetW (cc := cL_setGrade) (maxL := 5) (ret := (some .int)) (hh := [(0, 8, 9, 42), (0, 8, 14, 45), (0, 8, 19, 48)]) (by decide) rfl ?_
  intro p e s m args below meth c s₁ B hml hv
  obtain ⟨rfl, hP, hK, hT, hN, hsz⟩ := hv
  have hx := B.exec
  have hb := B.bytes
  have hr := B.returns
  have hts := atoms_spec (ws := wsL_setGrade) B.pre
  have hown : s.vm.findClass RL = some m.cls := findClass_of_methodNamed B.named
  have hlocks := B.notSynchronized
  have hl := lv_entry ([.ref (ad 0), .int (nI 1), .int (nI 101), .int (nI 1)]) (n := 5) (Nat.le_of_ble_eq_true rfl)
  rw [lg_entry_eq]
  generalize (lg_sl ([.ref (ad 0), .int (nI 1), .int (nI 101), .int (nI 1)]) ++ List.replicate (5 - (lg_sl ([.ref (ad 0), .int (nI 1), .int (nI 101), .int (nI 1)])).length) Slot.unset).toArray = ls at hl ⊢
  have hl : lv_has ls 5 [(0, .ref (ad 0)), (1, .int (nI 1)), (2, .int (nI 101)), (3, .int (nI 1))] := hl
  refine lv_aload_n hx hb dL_setGrade_0 rfl (lv_at hl 0 rfl) ?_
  refine lv_iload_n hx hb dL_setGrade_1 rfl (lv_at hl 1 rfl) ?_
  refine lv_iload_n hx hb dL_setGrade_2 rfl (lv_at hl 2 rfl) ?_
  refine lv_iload_n hx hb dL_setGrade_3 rfl (lv_at hl 3 rfl) ?_
  have htab : c.exceptionTable.toList = ([⟨0, 8, 9, 42⟩] : List ExceptionTableEntry) ++ ⟨0, 8, 14, 45⟩ :: [⟨0, 8, 19, 48⟩] := (vx_table (x := yL_setGrade) B (hts (.codeWith yL_setGrade cL_setGrade 5 (some .int) [(0, 8, 9, 42), (0, 8, 14, 45), (0, 8, 19, 48)]) List.mem_cons_self)).trans rfl
  refine zx_go (kr_X3_setGrade_iae l hfl (k := 1) (x2 := nI 101) (x3 := nI 1) (h1 := (by decide)) (h2 := (by decide)) hx hb hml hown hts hK hP gL_setGrade_X3_setGrade ⟨Nat.le_of_ble_eq_true rfl, Nat.le_of_ble_eq_true rfl⟩ ⟨Nat.le_of_ble_eq_true rfl, Nat.le_of_ble_eq_true rfl⟩ hl.1 (Nat.le_of_ble_eq_true rfl) dL_setGrade_4 hT) (fun ce q9 H1 hz9 hk9 hce hcv hcl => ?_)
  refine vx_catch (own := RL) (name := "java/lang/IllegalArgumentException") (E := "java/lang/IllegalArgumentException") hown [⟨0, 8, 9, 42⟩] ⟨0, 8, 14, 45⟩ [⟨0, 8, 19, 48⟩] htab (fun z hz => by rcases List.mem_singleton.mp hz with rfl; exact Or.inr ⟨by decide, _, hts (.classLink RL 42 "java/lang/IndexOutOfBoundsException") (by decide +kernel), hN.1.2⟩) rfl (by decide) (hts (.classLink RL 45 "java/lang/IllegalArgumentException") (by decide +kernel)) (va_Nw.use rfl hT.2.1.1) hce hcv hcl ?_
  have hS : va_S (fun _ => False) s.heap H1 [] := ⟨Nat.le_of_succ_le hz9, fun q hq _ => hk9 q hq, fun _ h => nomatch h⟩
  refine lv_astore (lv' := [(4, .ref q9), (0, .ref (ad 0)), (1, .int (nI 1)), (2, .int (nI 101)), (3, .int (nI 1))]) hx hb dL_setGrade_14 hl (by decide) rfl (fun ls hl => ?_)
  refine lv_ldc hx hb hown (hts (.constant RL 47 (-200000002)) (by decide +kernel)) dL_setGrade_16 ?_
  exact W.iret (v := (-200000002)) hx hb hr (fun t ht hW => ⟨⟨(-200000002), (), rfl, rfl, by show sz + 1 ≤ t.heap.size; rw [ht, ← hsz]; exact hz9⟩, hS.F ht⟩) hS.2.2 dL_setGrade_18
section
variable {p : Program} {e : Env} {R : Room} {s : State} {m : MethodId} {args : Array Value} {below : List Frame} {meth : Method} {c : Code} {H : Heap} {locs : List Loc} {cells slots : Nat} {Q : State → Prop} {cc : ByteArray} {pc : Nat} {ls : Array Slot} {rest : List Value} {own : String} {index nL : Nat} {Ts : List Cond} {H0 : Heap} {A0 : Nat → Prop}
theorem k_setGrade_1_101_1 (l : Launch) {dC : Nat → ClassId} {dI : Nat → Nat → Nat} {cI cZ : ClassId} {ad : Nat → Nat} {sm fe ex dy : Int32} {gp gc op gr st dl wo yc ya ys yd zc zp zr zs zf : Nat → Int32} {z : Nat} {zm zt : Int64} (hfl : l.stackTraces = false) (hx : p.tables.exec = Jvm.exec) (hb : c.code = cc) (hml : c.maxLocals = nL) (hown : s.vm.findClass own = some m.cls) (hts : ∀ w ∈ Ts, w.before args s = true) (hK : va_K (dC, dI) vwCl [(cI, .int), (cZ, .boolean)] s) (hP : va_P (dC, dI) vwCl (wC cI cZ ad sm fe ex dy gp gc op gr st dl wo 0 yc ya ys yd 0 zc zp zr zs zf z zm zt) H) (hg9 : GoodIn Ts (va_wsS own index yL_setGrade wsL_setGrade)) (hR9 : 7 + 1 ≤ R.frames ∧ 8 + (5 + 11) + 113 ≤ R.locals) (hc9 : cells + 1 ≤ R.cells ∧ slots + 6 ≤ R.slots) (hl9 : ls.size = nL) (hw9 : (rest.map fun v => v.category).sum ≤ 8) (hdg : decode cc pc = .ok (.invokestatic index, 3)) (hT : tX (fun _ => False) s H) (hN : tN s) (hS : va_S A0 H0 H locs) (kk : ∀ (H1 : Heap) (locs1 : List Loc), va_S A0 H0 H1 locs1 → H.size + 1 ≤ H1.size → (∀ q : Nat, q < H.size → H1[q]? = H[q]?) → W p l e R s m args below meth c H1 locs1 (cells + 1) (slots + 6) Q (F0 m (pc + 3) ls (.int (-200000002) :: rest))) : W p l e R s m args below meth c H locs cells slots Q (F0 m pc ls (.int (nI 1) :: .int (nI 101) :: .int (nI 1) :: .ref (ad 0) :: rest)) := va_calli (vx_runSW (As := [.ref (ad 0), .int (nI 1), .int (nI 101), .int (nI 1)]) (rest := rest) ⟨hx, hb, hml, hown, hts⟩ (c_setGrade_1_101_1 (dC := dC) (dI := dI) (cI := cI) (cZ := cZ) (ad := ad) (sm := sm) (fe := fe) (ex := ex) (dy := dy) (gp := gp) (gc := gc) (op := op) (gr := gr) (st := st) (dl := dl) (wo := wo) (yc := yc) (ya := ya) (ys := ys) (yd := yd) (zc := zc) (zp := zp) (zr := zr) (zs := zs) (zf := zf) (z := z) (zm := zm) (zt := zt) l hfl H.size) (vx_cwSW 4 hts hg9 rfl rfl rfl (by decide +kernel) hR9) ⟨fun a U g mk q => ⟨q.1, q.2.1, va_K.moved (u := U) (U := U.calling g mk a) (Vm.Alike.refl U.vm) q.2.2.1, tX.same (u := U) (U := U.calling g mk a) rfl q.2.2.2.1, tN.moved (u := U) (U := U.calling g mk a) (Vm.Alike.refl U.vm) q.2.2.2.2.1, q.2.2.2.2.2⟩, fun U hU hW => ⟨rfl, by rw [hU]; exact hP, va_K.moved hW.alike hK, by rw [hU]; exact tX.warm hW hT, tN.moved hW.alike hN, by rw [hU]⟩⟩ rfl rfl hl9 rfl (lv_room hw9) hdg hc9) hS (fun _ _ h => h.elim) (fun _ h => h.elim) (fun r u t H1 locs1 ht _ hu hB hz hk hS1 => by subst hu; rw [ht] at hB; exact kk H1 locs1 hS1 hB (fun q hq => hk q hq (fun h => h)))
end
set_option maxHeartbeats 4000000 in
set_option maxRecDepth 100000 in
theorem c_setGrade_1_1_1000001 (l : Launch) {dC : Nat → ClassId} {dI : Nat → Nat → Nat} {cI cZ : ClassId} {ad : Nat → Nat} {sm fe ex dy : Int32} {gp gc op gr st dl wo yc ya ys yd zc zp zr zs zf : Nat → Int32} {z : Nat} {zm zt : Int64} (hfl : l.stackTraces = false) (sz : Nat) : Met l yL_setGrade wsL_setGrade { frames := 7, cells := 1, slots := 6, locals := 113 } (va_Pc [.ref (ad 0), .int (nI 1), .int (nI 1), .int (nI 1000001)] (fun U => va_P (dC, dI) vwCl (wC cI cZ ad sm fe ex dy gp gc op gr st dl wo 0 yc ya ys yd 0 zc zp zr zs zf z zm zt) U.heap ∧ va_K (dC, dI) vwCl [(cI, .int), (cZ, .boolean)] U ∧ tX (fun _ => False) U U.heap ∧ tN U ∧ U.heap.size = sz)) (va_Qi (fun r (_ : Unit) => r = (-200000002)) (fun _ t => sz + 1 ≤ t.heap.size) (fun _ => False)) 1 6 (fun _ => False) := by
  refine va_MetW (cc := cL_setGrade) (maxL := 5) (ret := (some .int)) (hh := [(0, 8, 9, 42), (0, 8, 14, 45), (0, 8, 19, 48)]) (by decide) rfl ?_
  intro p e s m args below meth c s₁ B hml hv
  obtain ⟨rfl, hP, hK, hT, hN, hsz⟩ := hv
  have hx := B.exec
  have hb := B.bytes
  have hr := B.returns
  have hts := atoms_spec (ws := wsL_setGrade) B.pre
  have hown : s.vm.findClass RL = some m.cls := findClass_of_methodNamed B.named
  have hlocks := B.notSynchronized
  have hl := lv_entry ([.ref (ad 0), .int (nI 1), .int (nI 1), .int (nI 1000001)]) (n := 5) (Nat.le_of_ble_eq_true rfl)
  rw [lg_entry_eq]
  generalize (lg_sl ([.ref (ad 0), .int (nI 1), .int (nI 1), .int (nI 1000001)]) ++ List.replicate (5 - (lg_sl ([.ref (ad 0), .int (nI 1), .int (nI 1), .int (nI 1000001)])).length) Slot.unset).toArray = ls at hl ⊢
  have hl : lv_has ls 5 [(0, .ref (ad 0)), (1, .int (nI 1)), (2, .int (nI 1)), (3, .int (nI 1000001))] := hl
  refine lv_aload_n hx hb dL_setGrade_0 rfl (lv_at hl 0 rfl) ?_
  refine lv_iload_n hx hb dL_setGrade_1 rfl (lv_at hl 1 rfl) ?_
  refine lv_iload_n hx hb dL_setGrade_2 rfl (lv_at hl 2 rfl) ?_
  refine lv_iload_n hx hb dL_setGrade_3 rfl (lv_at hl 3 rfl) ?_
  have htab : c.exceptionTable.toList = ([⟨0, 8, 9, 42⟩] : List ExceptionTableEntry) ++ ⟨0, 8, 14, 45⟩ :: [⟨0, 8, 19, 48⟩] := (vx_table (x := yL_setGrade) B (hts (.codeWith yL_setGrade cL_setGrade 5 (some .int) [(0, 8, 9, 42), (0, 8, 14, 45), (0, 8, 19, 48)]) List.mem_cons_self)).trans rfl
  refine zx_go (kr_X3_setGrade_iae l hfl (k := 1) (x2 := nI 1) (x3 := nI 1000001) (h1 := (by decide)) (h2 := (by decide)) hx hb hml hown hts hK hP gL_setGrade_X3_setGrade ⟨Nat.le_of_ble_eq_true rfl, Nat.le_of_ble_eq_true rfl⟩ ⟨Nat.le_of_ble_eq_true rfl, Nat.le_of_ble_eq_true rfl⟩ hl.1 (Nat.le_of_ble_eq_true rfl) dL_setGrade_4 hT) (fun ce q9 H1 hz9 hk9 hce hcv hcl => ?_)
  refine vx_catch (own := RL) (name := "java/lang/IllegalArgumentException") (E := "java/lang/IllegalArgumentException") hown [⟨0, 8, 9, 42⟩] ⟨0, 8, 14, 45⟩ [⟨0, 8, 19, 48⟩] htab (fun z hz => by rcases List.mem_singleton.mp hz with rfl; exact Or.inr ⟨by decide, _, hts (.classLink RL 42 "java/lang/IndexOutOfBoundsException") (by decide +kernel), hN.1.2⟩) rfl (by decide) (hts (.classLink RL 45 "java/lang/IllegalArgumentException") (by decide +kernel)) (va_Nw.use rfl hT.2.1.1) hce hcv hcl ?_
  have hS : va_S (fun _ => False) s.heap H1 [] := ⟨Nat.le_of_succ_le hz9, fun q hq _ => hk9 q hq, fun _ h => nomatch h⟩
  refine lv_astore (lv' := [(4, .ref q9), (0, .ref (ad 0)), (1, .int (nI 1)), (2, .int (nI 1)), (3, .int (nI 1000001))]) hx hb dL_setGrade_14 hl (by decide) rfl (fun ls hl => ?_)
  refine lv_ldc hx hb hown (hts (.constant RL 47 (-200000002)) (by decide +kernel)) dL_setGrade_16 ?_
  exact W.iret (v := (-200000002)) hx hb hr (fun t ht hW => ⟨⟨(-200000002), (), rfl, rfl, by show sz + 1 ≤ t.heap.size; rw [ht, ← hsz]; exact hz9⟩, hS.F ht⟩) hS.2.2 dL_setGrade_18
section
variable {p : Program} {e : Env} {R : Room} {s : State} {m : MethodId} {args : Array Value} {below : List Frame} {meth : Method} {c : Code} {H : Heap} {locs : List Loc} {cells slots : Nat} {Q : State → Prop} {cc : ByteArray} {pc : Nat} {ls : Array Slot} {rest : List Value} {own : String} {index nL : Nat} {Ts : List Cond} {H0 : Heap} {A0 : Nat → Prop}
theorem k_setGrade_1_1_1000001 (l : Launch) {dC : Nat → ClassId} {dI : Nat → Nat → Nat} {cI cZ : ClassId} {ad : Nat → Nat} {sm fe ex dy : Int32} {gp gc op gr st dl wo yc ya ys yd zc zp zr zs zf : Nat → Int32} {z : Nat} {zm zt : Int64} (hfl : l.stackTraces = false) (hx : p.tables.exec = Jvm.exec) (hb : c.code = cc) (hml : c.maxLocals = nL) (hown : s.vm.findClass own = some m.cls) (hts : ∀ w ∈ Ts, w.before args s = true) (hK : va_K (dC, dI) vwCl [(cI, .int), (cZ, .boolean)] s) (hP : va_P (dC, dI) vwCl (wC cI cZ ad sm fe ex dy gp gc op gr st dl wo 0 yc ya ys yd 0 zc zp zr zs zf z zm zt) H) (hg9 : GoodIn Ts (va_wsS own index yL_setGrade wsL_setGrade)) (hR9 : 7 + 1 ≤ R.frames ∧ 8 + (5 + 11) + 113 ≤ R.locals) (hc9 : cells + 1 ≤ R.cells ∧ slots + 6 ≤ R.slots) (hl9 : ls.size = nL) (hw9 : (rest.map fun v => v.category).sum ≤ 8) (hdg : decode cc pc = .ok (.invokestatic index, 3)) (hT : tX (fun _ => False) s H) (hN : tN s) (hS : va_S A0 H0 H locs) (kk : ∀ (H1 : Heap) (locs1 : List Loc), va_S A0 H0 H1 locs1 → H.size + 1 ≤ H1.size → (∀ q : Nat, q < H.size → H1[q]? = H[q]?) → W p l e R s m args below meth c H1 locs1 (cells + 1) (slots + 6) Q (F0 m (pc + 3) ls (.int (-200000002) :: rest))) : W p l e R s m args below meth c H locs cells slots Q (F0 m pc ls (.int (nI 1000001) :: .int (nI 1) :: .int (nI 1) :: .ref (ad 0) :: rest)) := va_calli (vx_runSW (As := [.ref (ad 0), .int (nI 1), .int (nI 1), .int (nI 1000001)]) (rest := rest) ⟨hx, hb, hml, hown, hts⟩ (c_setGrade_1_1_1000001 (dC := dC) (dI := dI) (cI := cI) (cZ := cZ) (ad := ad) (sm := sm) (fe := fe) (ex := ex) (dy := dy) (gp := gp) (gc := gc) (op := op) (gr := gr) (st := st) (dl := dl) (wo := wo) (yc := yc) (ya := ya) (ys := ys) (yd := yd) (zc := zc) (zp := zp) (zr := zr) (zs := zs) (zf := zf) (z := z) (zm := zm) (zt := zt) l hfl H.size) (vx_cwSW 4 hts hg9 rfl rfl rfl (by decide +kernel) hR9) ⟨fun a U g mk q => ⟨q.1, q.2.1, va_K.moved (u := U) (U := U.calling g mk a) (Vm.Alike.refl U.vm) q.2.2.1, tX.same (u := U) (U := U.calling g mk a) rfl q.2.2.2.1, tN.moved (u := U) (U := U.calling g mk a) (Vm.Alike.refl U.vm) q.2.2.2.2.1, q.2.2.2.2.2⟩, fun U hU hW => ⟨rfl, by rw [hU]; exact hP, va_K.moved hW.alike hK, by rw [hU]; exact tX.warm hW hT, tN.moved hW.alike hN, by rw [hU]⟩⟩ rfl rfl hl9 rfl (lv_room hw9) hdg hc9) hS (fun _ _ h => h.elim) (fun _ h => h.elim) (fun r u t H1 locs1 ht _ hu hB hz hk hS1 => by subst hu; rw [ht] at hB; exact kk H1 locs1 hS1 hB (fun q hq => hk q hq (fun h => h)))
end
set_option maxHeartbeats 4000000 in
set_option maxRecDepth 100000 in
theorem c_act_1_202_0_0 (l : Launch) {dC : Nat → ClassId} {dI : Nat → Nat → Nat} {cI cZ : ClassId} {ad : Nat → Nat} {sm fe ex dy : Int32} {gp gc op gr st dl wo yc ya ys yd zc zp zr zs zf : Nat → Int32} {z : Nat} {zm zt : Int64} (hfl : l.stackTraces = false) (sz : Nat) : Met l yL_act wsL_act { frames := 7, cells := 1, slots := 6, locals := 111 } (va_Pc [.ref (ad 0), .int (nI 1), .int (nI 202), .int (nI 0), .int (nI 0)] (fun U => va_P (dC, dI) vwCl (wC cI cZ ad sm fe ex dy gp gc op gr st dl wo 0 yc ya ys yd 0 zc zp zr zs zf z zm zt) U.heap ∧ va_K (dC, dI) vwCl [(cI, .int), (cZ, .boolean)] U ∧ tX (fun _ => False) U U.heap ∧ tN U ∧ U.heap.size = sz)) (va_Qi (fun r (_ : Unit) => r = (-200000002)) (fun _ t => sz + 1 ≤ t.heap.size) (fun _ => False)) 1 6 (fun _ => False) := by
  refine va_MetW (cc := cL_act) (maxL := 6) (ret := (some .int)) (hh := [(0, 148, 149, 42), (0, 148, 154, 45), (0, 148, 159, 48)]) (by decide) rfl ?_
  intro p e s m args below meth c s₁ B hml hv
  obtain ⟨rfl, hP, hK, hT, hN, hsz⟩ := hv
  have hx := B.exec
  have hb := B.bytes
  have hr := B.returns
  have hts := atoms_spec (ws := wsL_act) B.pre
  have hown : s.vm.findClass RL = some m.cls := findClass_of_methodNamed B.named
  have hlocks := B.notSynchronized
  have hl := lv_entry ([.ref (ad 0), .int (nI 1), .int (nI 202), .int (nI 0), .int (nI 0)]) (n := 6) (Nat.le_of_ble_eq_true rfl)
  rw [lg_entry_eq]
  generalize (lg_sl ([.ref (ad 0), .int (nI 1), .int (nI 202), .int (nI 0), .int (nI 0)]) ++ List.replicate (6 - (lg_sl ([.ref (ad 0), .int (nI 1), .int (nI 202), .int (nI 0), .int (nI 0)])).length) Slot.unset).toArray = ls at hl ⊢
  have hl : lv_has ls 6 [(0, .ref (ad 0)), (1, .int (nI 1)), (2, .int (nI 202)), (3, .int (nI 0)), (4, .int (nI 0))] := hl
  refine lv_iload_n hx hb dL_act_0 rfl (lv_at hl 1 rfl) ?_
  refine zi_ne (tgt := 15) hx hb (by decide) dL_act_1 (by decide) (fun c_1 => ?_) (fun c_1 => (show False by omega).elim)
  refine lv_iload_n hx hb dL_act_15 rfl (lv_at hl 1 rfl) ?_
  refine lv_iconst (v := nI 1) hx hb dL_act_16 (by decide) ?_
  refine zb_ne (tgt := 28) hx hb (by decide) (by decide) dL_act_17 (by decide) (fun c_17 => (show False by omega).elim) (fun c_17 => ?_)
  refine lv_aload_n hx hb dL_act_20 rfl (lv_at hl 0 rfl) ?_
  refine lv_iload_n hx hb dL_act_21 rfl (lv_at hl 2 rfl) ?_
  have htab : c.exceptionTable.toList = ([⟨0, 148, 149, 42⟩] : List ExceptionTableEntry) ++ ⟨0, 148, 154, 45⟩ :: [⟨0, 148, 159, 48⟩] := (vx_table (x := yL_act) B (hts (.codeWith yL_act cL_act 6 (some .int) [(0, 148, 149, 42), (0, 148, 154, 45), (0, 148, 159, 48)]) List.mem_cons_self)).trans rfl
  refine zx_go (kr_X3_pass_no l hfl (x := nI 202) (h1 := (by decide)) hx hb hml hown hts hK hP gL_act_X3_pass ⟨Nat.le_of_ble_eq_true rfl, Nat.le_of_ble_eq_true rfl⟩ ⟨Nat.le_of_ble_eq_true rfl, Nat.le_of_ble_eq_true rfl⟩ hl.1 (Nat.le_of_ble_eq_true rfl) dL_act_22 hT) (fun ce q9 H1 hz9 hk9 hce hcv hcl => ?_)
  refine vx_catch (own := RL) (name := "java/lang/IllegalArgumentException") (E := "java/lang/IllegalArgumentException") hown [⟨0, 148, 149, 42⟩] ⟨0, 148, 154, 45⟩ [⟨0, 148, 159, 48⟩] htab (fun z hz => by rcases List.mem_singleton.mp hz with rfl; exact Or.inr ⟨by decide, _, hts (.classLink RL 42 "java/lang/IndexOutOfBoundsException") (by decide +kernel), hN.1.2⟩) rfl (by decide) (hts (.classLink RL 45 "java/lang/IllegalArgumentException") (by decide +kernel)) (va_Nw.use rfl hT.2.1.1) hce hcv hcl ?_
  have hS : va_S (fun _ => False) s.heap H1 [] := ⟨Nat.le_of_succ_le hz9, fun q hq _ => hk9 q hq, fun _ h => nomatch h⟩
  refine lv_astore (lv' := [(5, .ref q9), (0, .ref (ad 0)), (1, .int (nI 1)), (2, .int (nI 202)), (3, .int (nI 0)), (4, .int (nI 0))]) hx hb dL_act_154 hl (by decide) rfl (fun ls hl => ?_)
  refine lv_ldc hx hb hown (hts (.constant RL 47 (-200000002)) (by decide +kernel)) dL_act_156 ?_
  exact W.iret (v := (-200000002)) hx hb hr (fun t ht hW => ⟨⟨(-200000002), (), rfl, rfl, by show sz + 1 ≤ t.heap.size; rw [ht, ← hsz]; exact hz9⟩, hS.F ht⟩) hS.2.2 dL_act_158
section
variable {p : Program} {e : Env} {R : Room} {s : State} {m : MethodId} {args : Array Value} {below : List Frame} {meth : Method} {c : Code} {H : Heap} {locs : List Loc} {cells slots : Nat} {Q : State → Prop} {cc : ByteArray} {pc : Nat} {ls : Array Slot} {rest : List Value} {own : String} {index nL : Nat} {Ts : List Cond} {H0 : Heap} {A0 : Nat → Prop}
theorem k_act_1_202_0_0 (l : Launch) {dC : Nat → ClassId} {dI : Nat → Nat → Nat} {cI cZ : ClassId} {ad : Nat → Nat} {sm fe ex dy : Int32} {gp gc op gr st dl wo yc ya ys yd zc zp zr zs zf : Nat → Int32} {z : Nat} {zm zt : Int64} (hfl : l.stackTraces = false) (hx : p.tables.exec = Jvm.exec) (hb : c.code = cc) (hml : c.maxLocals = nL) (hown : s.vm.findClass own = some m.cls) (hts : ∀ w ∈ Ts, w.before args s = true) (hK : va_K (dC, dI) vwCl [(cI, .int), (cZ, .boolean)] s) (hP : va_P (dC, dI) vwCl (wC cI cZ ad sm fe ex dy gp gc op gr st dl wo 0 yc ya ys yd 0 zc zp zr zs zf z zm zt) H) (hg9 : GoodIn Ts (va_wsS own index yL_act wsL_act)) (hR9 : 7 + 1 ≤ R.frames ∧ 8 + (6 + 11) + 111 ≤ R.locals) (hc9 : cells + 1 ≤ R.cells ∧ slots + 6 ≤ R.slots) (hl9 : ls.size = nL) (hw9 : (rest.map fun v => v.category).sum ≤ 8) (hdg : decode cc pc = .ok (.invokestatic index, 3)) (hT : tX (fun _ => False) s H) (hN : tN s) (hS : va_S A0 H0 H locs) (kk : ∀ (H1 : Heap) (locs1 : List Loc), va_S A0 H0 H1 locs1 → H.size + 1 ≤ H1.size → (∀ q : Nat, q < H.size → H1[q]? = H[q]?) → W p l e R s m args below meth c H1 locs1 (cells + 1) (slots + 6) Q (F0 m (pc + 3) ls (.int (-200000002) :: rest))) : W p l e R s m args below meth c H locs cells slots Q (F0 m pc ls (.int (nI 0) :: .int (nI 0) :: .int (nI 202) :: .int (nI 1) :: .ref (ad 0) :: rest)) := va_calli (vx_runSW (As := [.ref (ad 0), .int (nI 1), .int (nI 202), .int (nI 0), .int (nI 0)]) (rest := rest) ⟨hx, hb, hml, hown, hts⟩ (c_act_1_202_0_0 (dC := dC) (dI := dI) (cI := cI) (cZ := cZ) (ad := ad) (sm := sm) (fe := fe) (ex := ex) (dy := dy) (gp := gp) (gc := gc) (op := op) (gr := gr) (st := st) (dl := dl) (wo := wo) (yc := yc) (ya := ya) (ys := ys) (yd := yd) (zc := zc) (zp := zp) (zr := zr) (zs := zs) (zf := zf) (z := z) (zm := zm) (zt := zt) l hfl H.size) (vx_cwSW 5 hts hg9 rfl rfl rfl (by decide +kernel) hR9) ⟨fun a U g mk q => ⟨q.1, q.2.1, va_K.moved (u := U) (U := U.calling g mk a) (Vm.Alike.refl U.vm) q.2.2.1, tX.same (u := U) (U := U.calling g mk a) rfl q.2.2.2.1, tN.moved (u := U) (U := U.calling g mk a) (Vm.Alike.refl U.vm) q.2.2.2.2.1, q.2.2.2.2.2⟩, fun U hU hW => ⟨rfl, by rw [hU]; exact hP, va_K.moved hW.alike hK, by rw [hU]; exact tX.warm hW hT, tN.moved hW.alike hN, by rw [hU]⟩⟩ rfl rfl hl9 rfl (lv_room hw9) hdg hc9) hS (fun _ _ h => h.elim) (fun _ h => h.elim) (fun r u t H1 locs1 ht _ hu hB hz hk hS1 => by subst hu; rw [ht] at hB; exact kk H1 locs1 hS1 hB (fun q hq => hk q hq (fun h => h)))
end
set_option maxHeartbeats 4000000 in
set_option maxRecDepth 100000 in
theorem c_act_2_100001_0_0 (l : Launch) {dC : Nat → ClassId} {dI : Nat → Nat → Nat} {cI cZ : ClassId} {ad : Nat → Nat} {sm fe ex dy : Int32} {gp gc op gr st dl wo yc ya ys yd zc zp zr zs zf : Nat → Int32} {z : Nat} {zm zt : Int64} (hfl : l.stackTraces = false) (sz : Nat) : Met l yL_act wsL_act { frames := 8, cells := 1, slots := 6, locals := 133 } (va_Pc [.ref (ad 0), .int (nI 2), .int (nI 100001), .int (nI 0), .int (nI 0)] (fun U => va_P (dC, dI) vwCl (wC cI cZ ad sm fe ex dy gp gc op gr st dl wo 0 yc ya ys yd 0 zc zp zr zs zf z zm zt) U.heap ∧ va_K (dC, dI) vwCl [(cI, .int), (cZ, .boolean)] U ∧ tX (fun _ => False) U U.heap ∧ tN U ∧ U.heap.size = sz)) (va_Qi (fun r (_ : Unit) => r = (-200000002)) (fun _ t => sz + 1 ≤ t.heap.size) (fun _ => False)) 1 6 (fun _ => False) := by
  refine va_MetW (cc := cL_act) (maxL := 6) (ret := (some .int)) (hh := [(0, 148, 149, 42), (0, 148, 154, 45), (0, 148, 159, 48)]) (by decide) rfl ?_
  intro p e s m args below meth c s₁ B hml hv
  obtain ⟨rfl, hP, hK, hT, hN, hsz⟩ := hv
  have hx := B.exec
  have hb := B.bytes
  have hr := B.returns
  have hts := atoms_spec (ws := wsL_act) B.pre
  have hown : s.vm.findClass RL = some m.cls := findClass_of_methodNamed B.named
  have hlocks := B.notSynchronized
  have hl := lv_entry ([.ref (ad 0), .int (nI 2), .int (nI 100001), .int (nI 0), .int (nI 0)]) (n := 6) (Nat.le_of_ble_eq_true rfl)
  rw [lg_entry_eq]
  generalize (lg_sl ([.ref (ad 0), .int (nI 2), .int (nI 100001), .int (nI 0), .int (nI 0)]) ++ List.replicate (6 - (lg_sl ([.ref (ad 0), .int (nI 2), .int (nI 100001), .int (nI 0), .int (nI 0)])).length) Slot.unset).toArray = ls at hl ⊢
  have hl : lv_has ls 6 [(0, .ref (ad 0)), (1, .int (nI 2)), (2, .int (nI 100001)), (3, .int (nI 0)), (4, .int (nI 0))] := hl
  refine lv_iload_n hx hb dL_act_0 rfl (lv_at hl 1 rfl) ?_
  refine zi_ne (tgt := 15) hx hb (by decide) dL_act_1 (by decide) (fun c_1 => ?_) (fun c_1 => (show False by omega).elim)
  refine lv_iload_n hx hb dL_act_15 rfl (lv_at hl 1 rfl) ?_
  refine lv_iconst (v := nI 1) hx hb dL_act_16 (by decide) ?_
  refine zb_ne (tgt := 28) hx hb (by decide) (by decide) dL_act_17 (by decide) (fun c_17 => ?_) (fun c_17 => (show False by omega).elim)
  refine lv_iload_n hx hb dL_act_28 rfl (lv_at hl 1 rfl) ?_
  refine lv_iconst (v := nI 2) hx hb dL_act_29 (by decide) ?_
  refine zb_ne (tgt := 41) hx hb (by decide) (by decide) dL_act_30 (by decide) (fun c_30 => (show False by omega).elim) (fun c_30 => ?_)
  refine lv_aload_n hx hb dL_act_33 rfl (lv_at hl 0 rfl) ?_
  refine lv_iload_n hx hb dL_act_34 rfl (lv_at hl 2 rfl) ?_
  have htab : c.exceptionTable.toList = ([⟨0, 148, 149, 42⟩] : List ExceptionTableEntry) ++ ⟨0, 148, 154, 45⟩ :: [⟨0, 148, 159, 48⟩] := (vx_table (x := yL_act) B (hts (.codeWith yL_act cL_act 6 (some .int) [(0, 148, 149, 42), (0, 148, 154, 45), (0, 148, 159, 48)]) List.mem_cons_self)).trans rfl
  refine zx_go (kr_X3_round_iae l hfl (le := nI 100001) (h1 := (by decide)) hx hb hml hown hts hK hP gL_act_X3_round ⟨Nat.le_of_ble_eq_true rfl, Nat.le_of_ble_eq_true rfl⟩ ⟨Nat.le_of_ble_eq_true rfl, Nat.le_of_ble_eq_true rfl⟩ hl.1 (Nat.le_of_ble_eq_true rfl) dL_act_35 hT) (fun ce q9 H1 hz9 hk9 hce hcv hcl => ?_)
  refine vx_catch (own := RL) (name := "java/lang/IllegalArgumentException") (E := "java/lang/IllegalArgumentException") hown [⟨0, 148, 149, 42⟩] ⟨0, 148, 154, 45⟩ [⟨0, 148, 159, 48⟩] htab (fun z hz => by rcases List.mem_singleton.mp hz with rfl; exact Or.inr ⟨by decide, _, hts (.classLink RL 42 "java/lang/IndexOutOfBoundsException") (by decide +kernel), hN.1.2⟩) rfl (by decide) (hts (.classLink RL 45 "java/lang/IllegalArgumentException") (by decide +kernel)) (va_Nw.use rfl hT.2.1.1) hce hcv hcl ?_
  have hS : va_S (fun _ => False) s.heap H1 [] := ⟨Nat.le_of_succ_le hz9, fun q hq _ => hk9 q hq, fun _ h => nomatch h⟩
  refine lv_astore (lv' := [(5, .ref q9), (0, .ref (ad 0)), (1, .int (nI 2)), (2, .int (nI 100001)), (3, .int (nI 0)), (4, .int (nI 0))]) hx hb dL_act_154 hl (by decide) rfl (fun ls hl => ?_)
  refine lv_ldc hx hb hown (hts (.constant RL 47 (-200000002)) (by decide +kernel)) dL_act_156 ?_
  exact W.iret (v := (-200000002)) hx hb hr (fun t ht hW => ⟨⟨(-200000002), (), rfl, rfl, by show sz + 1 ≤ t.heap.size; rw [ht, ← hsz]; exact hz9⟩, hS.F ht⟩) hS.2.2 dL_act_158
section
variable {p : Program} {e : Env} {R : Room} {s : State} {m : MethodId} {args : Array Value} {below : List Frame} {meth : Method} {c : Code} {H : Heap} {locs : List Loc} {cells slots : Nat} {Q : State → Prop} {cc : ByteArray} {pc : Nat} {ls : Array Slot} {rest : List Value} {own : String} {index nL : Nat} {Ts : List Cond} {H0 : Heap} {A0 : Nat → Prop}
theorem k_act_2_100001_0_0 (l : Launch) {dC : Nat → ClassId} {dI : Nat → Nat → Nat} {cI cZ : ClassId} {ad : Nat → Nat} {sm fe ex dy : Int32} {gp gc op gr st dl wo yc ya ys yd zc zp zr zs zf : Nat → Int32} {z : Nat} {zm zt : Int64} (hfl : l.stackTraces = false) (hx : p.tables.exec = Jvm.exec) (hb : c.code = cc) (hml : c.maxLocals = nL) (hown : s.vm.findClass own = some m.cls) (hts : ∀ w ∈ Ts, w.before args s = true) (hK : va_K (dC, dI) vwCl [(cI, .int), (cZ, .boolean)] s) (hP : va_P (dC, dI) vwCl (wC cI cZ ad sm fe ex dy gp gc op gr st dl wo 0 yc ya ys yd 0 zc zp zr zs zf z zm zt) H) (hg9 : GoodIn Ts (va_wsS own index yL_act wsL_act)) (hR9 : 8 + 1 ≤ R.frames ∧ 8 + (6 + 11) + 133 ≤ R.locals) (hc9 : cells + 1 ≤ R.cells ∧ slots + 6 ≤ R.slots) (hl9 : ls.size = nL) (hw9 : (rest.map fun v => v.category).sum ≤ 8) (hdg : decode cc pc = .ok (.invokestatic index, 3)) (hT : tX (fun _ => False) s H) (hN : tN s) (hS : va_S A0 H0 H locs) (kk : ∀ (H1 : Heap) (locs1 : List Loc), va_S A0 H0 H1 locs1 → H.size + 1 ≤ H1.size → (∀ q : Nat, q < H.size → H1[q]? = H[q]?) → W p l e R s m args below meth c H1 locs1 (cells + 1) (slots + 6) Q (F0 m (pc + 3) ls (.int (-200000002) :: rest))) : W p l e R s m args below meth c H locs cells slots Q (F0 m pc ls (.int (nI 0) :: .int (nI 0) :: .int (nI 100001) :: .int (nI 2) :: .ref (ad 0) :: rest)) := va_calli (vx_runSW (As := [.ref (ad 0), .int (nI 2), .int (nI 100001), .int (nI 0), .int (nI 0)]) (rest := rest) ⟨hx, hb, hml, hown, hts⟩ (c_act_2_100001_0_0 (dC := dC) (dI := dI) (cI := cI) (cZ := cZ) (ad := ad) (sm := sm) (fe := fe) (ex := ex) (dy := dy) (gp := gp) (gc := gc) (op := op) (gr := gr) (st := st) (dl := dl) (wo := wo) (yc := yc) (ya := ya) (ys := ys) (yd := yd) (zc := zc) (zp := zp) (zr := zr) (zs := zs) (zf := zf) (z := z) (zm := zm) (zt := zt) l hfl H.size) (vx_cwSW 5 hts hg9 rfl rfl rfl (by decide +kernel) hR9) ⟨fun a U g mk q => ⟨q.1, q.2.1, va_K.moved (u := U) (U := U.calling g mk a) (Vm.Alike.refl U.vm) q.2.2.1, tX.same (u := U) (U := U.calling g mk a) rfl q.2.2.2.1, tN.moved (u := U) (U := U.calling g mk a) (Vm.Alike.refl U.vm) q.2.2.2.2.1, q.2.2.2.2.2⟩, fun U hU hW => ⟨rfl, by rw [hU]; exact hP, va_K.moved hW.alike hK, by rw [hU]; exact tX.warm hW hT, tN.moved hW.alike hN, by rw [hU]⟩⟩ rfl rfl hl9 rfl (lv_room hw9) hdg hc9) hS (fun _ _ h => h.elim) (fun _ h => h.elim) (fun r u t H1 locs1 ht _ hu hB hz hk hS1 => by subst hu; rw [ht] at hB; exact kk H1 locs1 hS1 hB (fun q hq => hk q hq (fun h => h)))
end
set_option maxHeartbeats 4000000 in
set_option maxRecDepth 100000 in
theorem c_act_3_1_0_0 (l : Launch) {dC : Nat → ClassId} {dI : Nat → Nat → Nat} {cI cZ : ClassId} {ad : Nat → Nat} {sm fe ex dy : Int32} {gp gc op gr st dl wo yc ya ys yd zc zp zr zs zf : Nat → Int32} {z : Nat} {zm zt : Int64} (hfl : l.stackTraces = false) (sz : Nat) : Met l yL_act wsL_act { frames := 8, cells := 1, slots := 6, locals := 132 } (va_Pc [.ref (ad 0), .int (nI 3), .int (nI 1), .int (nI 0), .int (nI 0)] (fun U => va_P (dC, dI) vwCl (wC cI cZ ad sm fe ex dy gp gc op gr st dl wo 0 yc ya ys yd 0 zc zp zr zs zf z zm zt) U.heap ∧ va_K (dC, dI) vwCl [(cI, .int), (cZ, .boolean)] U ∧ tX (fun _ => False) U U.heap ∧ tN U ∧ U.heap.size = sz)) (va_Qi (fun r (_ : Unit) => r = (-200000001)) (fun _ t => sz + 1 ≤ t.heap.size) (fun _ => False)) 1 6 (fun _ => False) := by
  refine va_MetW (cc := cL_act) (maxL := 6) (ret := (some .int)) (hh := [(0, 148, 149, 42), (0, 148, 154, 45), (0, 148, 159, 48)]) (by decide) rfl ?_
  intro p e s m args below meth c s₁ B hml hv
  obtain ⟨rfl, hP, hK, hT, hN, hsz⟩ := hv
  have hx := B.exec
  have hb := B.bytes
  have hr := B.returns
  have hts := atoms_spec (ws := wsL_act) B.pre
  have hown : s.vm.findClass RL = some m.cls := findClass_of_methodNamed B.named
  have hlocks := B.notSynchronized
  have hl := lv_entry ([.ref (ad 0), .int (nI 3), .int (nI 1), .int (nI 0), .int (nI 0)]) (n := 6) (Nat.le_of_ble_eq_true rfl)
  rw [lg_entry_eq]
  generalize (lg_sl ([.ref (ad 0), .int (nI 3), .int (nI 1), .int (nI 0), .int (nI 0)]) ++ List.replicate (6 - (lg_sl ([.ref (ad 0), .int (nI 3), .int (nI 1), .int (nI 0), .int (nI 0)])).length) Slot.unset).toArray = ls at hl ⊢
  have hl : lv_has ls 6 [(0, .ref (ad 0)), (1, .int (nI 3)), (2, .int (nI 1)), (3, .int (nI 0)), (4, .int (nI 0))] := hl
  refine lv_iload_n hx hb dL_act_0 rfl (lv_at hl 1 rfl) ?_
  refine zi_ne (tgt := 15) hx hb (by decide) dL_act_1 (by decide) (fun c_1 => ?_) (fun c_1 => (show False by omega).elim)
  refine lv_iload_n hx hb dL_act_15 rfl (lv_at hl 1 rfl) ?_
  refine lv_iconst (v := nI 1) hx hb dL_act_16 (by decide) ?_
  refine zb_ne (tgt := 28) hx hb (by decide) (by decide) dL_act_17 (by decide) (fun c_17 => ?_) (fun c_17 => (show False by omega).elim)
  refine lv_iload_n hx hb dL_act_28 rfl (lv_at hl 1 rfl) ?_
  refine lv_iconst (v := nI 2) hx hb dL_act_29 (by decide) ?_
  refine zb_ne (tgt := 41) hx hb (by decide) (by decide) dL_act_30 (by decide) (fun c_30 => ?_) (fun c_30 => (show False by omega).elim)
  refine lv_iload_n hx hb dL_act_41 rfl (lv_at hl 1 rfl) ?_
  refine lv_iconst (v := nI 3) hx hb dL_act_42 (by decide) ?_
  refine zb_ne (tgt := 54) hx hb (by decide) (by decide) dL_act_43 (by decide) (fun c_43 => (show False by omega).elim) (fun c_43 => ?_)
  refine lv_aload_n hx hb dL_act_46 rfl (lv_at hl 0 rfl) ?_
  refine lv_iload_n hx hb dL_act_47 rfl (lv_at hl 2 rfl) ?_
  have htab : c.exceptionTable.toList = ([] : List ExceptionTableEntry) ++ ⟨0, 148, 149, 42⟩ :: [⟨0, 148, 154, 45⟩, ⟨0, 148, 159, 48⟩] := (vx_table (x := yL_act) B (hts (.codeWith yL_act cL_act 6 (some .int) [(0, 148, 149, 42), (0, 148, 154, 45), (0, 148, 159, 48)]) List.mem_cons_self)).trans rfl
  refine zx_go (kr_X3_cash_no l hfl (x := nI 1) (hq := (by omega)) (hk := (fun h => h (Or.inr (by decide)))) hx hb hml hown hts hK hP gL_act_X3_cash ⟨Nat.le_of_ble_eq_true rfl, Nat.le_of_ble_eq_true rfl⟩ ⟨Nat.le_of_ble_eq_true rfl, Nat.le_of_ble_eq_true rfl⟩ hl.1 (Nat.le_of_ble_eq_true rfl) dL_act_48 hT) (fun ce q9 H1 hz9 hk9 hce hcv hcl => ?_)
  refine vx_catch (own := RL) (name := "java/lang/IndexOutOfBoundsException") (E := "java/lang/IndexOutOfBoundsException") hown [] ⟨0, 148, 149, 42⟩ [⟨0, 148, 154, 45⟩, ⟨0, 148, 159, 48⟩] htab (fun z hz => nomatch hz) rfl (by decide) (hts (.classLink RL 42 "java/lang/IndexOutOfBoundsException") (by decide +kernel)) (va_Nw.use rfl hT.2.1.2.2) hce hcv hcl ?_
  have hS : va_S (fun _ => False) s.heap H1 [] := ⟨Nat.le_of_succ_le hz9, fun q hq _ => hk9 q hq, fun _ h => nomatch h⟩
  refine lv_astore (lv' := [(5, .ref q9), (0, .ref (ad 0)), (1, .int (nI 3)), (2, .int (nI 1)), (3, .int (nI 0)), (4, .int (nI 0))]) hx hb dL_act_149 hl (by decide) rfl (fun ls hl => ?_)
  refine lv_ldc hx hb hown (hts (.constant RL 44 (-200000001)) (by decide +kernel)) dL_act_151 ?_
  exact W.iret (v := (-200000001)) hx hb hr (fun t ht hW => ⟨⟨(-200000001), (), rfl, rfl, by show sz + 1 ≤ t.heap.size; rw [ht, ← hsz]; exact hz9⟩, hS.F ht⟩) hS.2.2 dL_act_153
section
variable {p : Program} {e : Env} {R : Room} {s : State} {m : MethodId} {args : Array Value} {below : List Frame} {meth : Method} {c : Code} {H : Heap} {locs : List Loc} {cells slots : Nat} {Q : State → Prop} {cc : ByteArray} {pc : Nat} {ls : Array Slot} {rest : List Value} {own : String} {index nL : Nat} {Ts : List Cond} {H0 : Heap} {A0 : Nat → Prop}
theorem k_act_3_1_0_0 (l : Launch) {dC : Nat → ClassId} {dI : Nat → Nat → Nat} {cI cZ : ClassId} {ad : Nat → Nat} {sm fe ex dy : Int32} {gp gc op gr st dl wo yc ya ys yd zc zp zr zs zf : Nat → Int32} {z : Nat} {zm zt : Int64} (hfl : l.stackTraces = false) (hx : p.tables.exec = Jvm.exec) (hb : c.code = cc) (hml : c.maxLocals = nL) (hown : s.vm.findClass own = some m.cls) (hts : ∀ w ∈ Ts, w.before args s = true) (hK : va_K (dC, dI) vwCl [(cI, .int), (cZ, .boolean)] s) (hP : va_P (dC, dI) vwCl (wC cI cZ ad sm fe ex dy gp gc op gr st dl wo 0 yc ya ys yd 0 zc zp zr zs zf z zm zt) H) (hg9 : GoodIn Ts (va_wsS own index yL_act wsL_act)) (hR9 : 8 + 1 ≤ R.frames ∧ 8 + (6 + 11) + 132 ≤ R.locals) (hc9 : cells + 1 ≤ R.cells ∧ slots + 6 ≤ R.slots) (hl9 : ls.size = nL) (hw9 : (rest.map fun v => v.category).sum ≤ 8) (hdg : decode cc pc = .ok (.invokestatic index, 3)) (hT : tX (fun _ => False) s H) (hN : tN s) (hS : va_S A0 H0 H locs) (kk : ∀ (H1 : Heap) (locs1 : List Loc), va_S A0 H0 H1 locs1 → H.size + 1 ≤ H1.size → (∀ q : Nat, q < H.size → H1[q]? = H[q]?) → W p l e R s m args below meth c H1 locs1 (cells + 1) (slots + 6) Q (F0 m (pc + 3) ls (.int (-200000001) :: rest))) : W p l e R s m args below meth c H locs cells slots Q (F0 m pc ls (.int (nI 0) :: .int (nI 0) :: .int (nI 1) :: .int (nI 3) :: .ref (ad 0) :: rest)) := va_calli (vx_runSW (As := [.ref (ad 0), .int (nI 3), .int (nI 1), .int (nI 0), .int (nI 0)]) (rest := rest) ⟨hx, hb, hml, hown, hts⟩ (c_act_3_1_0_0 (dC := dC) (dI := dI) (cI := cI) (cZ := cZ) (ad := ad) (sm := sm) (fe := fe) (ex := ex) (dy := dy) (gp := gp) (gc := gc) (op := op) (gr := gr) (st := st) (dl := dl) (wo := wo) (yc := yc) (ya := ya) (ys := ys) (yd := yd) (zc := zc) (zp := zp) (zr := zr) (zs := zs) (zf := zf) (z := z) (zm := zm) (zt := zt) l hfl H.size) (vx_cwSW 5 hts hg9 rfl rfl rfl (by decide +kernel) hR9) ⟨fun a U g mk q => ⟨q.1, q.2.1, va_K.moved (u := U) (U := U.calling g mk a) (Vm.Alike.refl U.vm) q.2.2.1, tX.same (u := U) (U := U.calling g mk a) rfl q.2.2.2.1, tN.moved (u := U) (U := U.calling g mk a) (Vm.Alike.refl U.vm) q.2.2.2.2.1, q.2.2.2.2.2⟩, fun U hU hW => ⟨rfl, by rw [hU]; exact hP, va_K.moved hW.alike hK, by rw [hU]; exact tX.warm hW hT, tN.moved hW.alike hN, by rw [hU]⟩⟩ rfl rfl hl9 rfl (lv_room hw9) hdg hc9) hS (fun _ _ h => h.elim) (fun _ h => h.elim) (fun r u t H1 locs1 ht _ hu hB hz hk hS1 => by subst hu; rw [ht] at hB; exact kk H1 locs1 hS1 hB (fun q hq => hk q hq (fun h => h)))
end
set_option maxHeartbeats 4000000 in
set_option maxRecDepth 100000 in
theorem c_act_8_30_0_300 (l : Launch) {dC : Nat → ClassId} {dI : Nat → Nat → Nat} {cI cZ : ClassId} {ad : Nat → Nat} {sm fe ex dy : Int32} {gp gc op gr st dl wo yc ya ys yd zc zp zr zs zf : Nat → Int32} {z : Nat} {zm zt : Int64} (hfl : l.stackTraces = false) (sz : Nat) : Met l yL_act wsL_act { frames := 7, cells := 1, slots := 6, locals := 115 } (va_Pc [.ref (ad 0), .int (nI 8), .int (nI 30), .int (nI 0), .int (nI 300)] (fun U => va_P (dC, dI) vwCl (wC cI cZ ad sm fe ex dy gp gc op gr st dl wo 0 yc ya ys yd 0 zc zp zr zs zf z zm zt) U.heap ∧ va_K (dC, dI) vwCl [(cI, .int), (cZ, .boolean)] U ∧ tX (fun _ => False) U U.heap ∧ tN U ∧ U.heap.size = sz)) (va_Qi (fun r (_ : Unit) => r = (-200000001)) (fun _ t => sz + 1 ≤ t.heap.size) (fun _ => False)) 1 6 (fun _ => False) := by
  refine va_MetW (cc := cL_act) (maxL := 6) (ret := (some .int)) (hh := [(0, 148, 149, 42), (0, 148, 154, 45), (0, 148, 159, 48)]) (by decide) rfl ?_
  intro p e s m args below meth c s₁ B hml hv
  obtain ⟨rfl, hP, hK, hT, hN, hsz⟩ := hv
  have hx := B.exec
  have hb := B.bytes
  have hr := B.returns
  have hts := atoms_spec (ws := wsL_act) B.pre
  have hown : s.vm.findClass RL = some m.cls := findClass_of_methodNamed B.named
  have hlocks := B.notSynchronized
  have hl := lv_entry ([.ref (ad 0), .int (nI 8), .int (nI 30), .int (nI 0), .int (nI 300)]) (n := 6) (Nat.le_of_ble_eq_true rfl)
  rw [lg_entry_eq]
  generalize (lg_sl ([.ref (ad 0), .int (nI 8), .int (nI 30), .int (nI 0), .int (nI 300)]) ++ List.replicate (6 - (lg_sl ([.ref (ad 0), .int (nI 8), .int (nI 30), .int (nI 0), .int (nI 300)])).length) Slot.unset).toArray = ls at hl ⊢
  have hl : lv_has ls 6 [(0, .ref (ad 0)), (1, .int (nI 8)), (2, .int (nI 30)), (3, .int (nI 0)), (4, .int (nI 300))] := hl
  refine lv_iload_n hx hb dL_act_0 rfl (lv_at hl 1 rfl) ?_
  refine zi_ne (tgt := 15) hx hb (by decide) dL_act_1 (by decide) (fun c_1 => ?_) (fun c_1 => (show False by omega).elim)
  refine lv_iload_n hx hb dL_act_15 rfl (lv_at hl 1 rfl) ?_
  refine lv_iconst (v := nI 1) hx hb dL_act_16 (by decide) ?_
  refine zb_ne (tgt := 28) hx hb (by decide) (by decide) dL_act_17 (by decide) (fun c_17 => ?_) (fun c_17 => (show False by omega).elim)
  refine lv_iload_n hx hb dL_act_28 rfl (lv_at hl 1 rfl) ?_
  refine lv_iconst (v := nI 2) hx hb dL_act_29 (by decide) ?_
  refine zb_ne (tgt := 41) hx hb (by decide) (by decide) dL_act_30 (by decide) (fun c_30 => ?_) (fun c_30 => (show False by omega).elim)
  refine lv_iload_n hx hb dL_act_41 rfl (lv_at hl 1 rfl) ?_
  refine lv_iconst (v := nI 3) hx hb dL_act_42 (by decide) ?_
  refine zb_ne (tgt := 54) hx hb (by decide) (by decide) dL_act_43 (by decide) (fun c_43 => ?_) (fun c_43 => (show False by omega).elim)
  refine lv_iload_n hx hb dL_act_54 rfl (lv_at hl 1 rfl) ?_
  refine lv_iconst (v := nI 4) hx hb dL_act_55 (by decide) ?_
  refine zb_ne (tgt := 67) hx hb (by decide) (by decide) dL_act_56 (by decide) (fun c_56 => ?_) (fun c_56 => (show False by omega).elim)
  refine lv_iload_n hx hb dL_act_67 rfl (lv_at hl 1 rfl) ?_
  refine lv_iconst (v := nI 5) hx hb dL_act_68 (by decide) ?_
  refine zb_ne (tgt := 80) hx hb (by decide) (by decide) dL_act_69 (by decide) (fun c_69 => ?_) (fun c_69 => (show False by omega).elim)
  refine lv_iload_n hx hb dL_act_80 rfl (lv_at hl 1 rfl) ?_
  refine lv_bipush (v := nI 6) hx hb dL_act_81 (by decide) ?_
  refine zb_ne (tgt := 94) hx hb (by decide) (by decide) dL_act_83 (by decide) (fun c_83 => ?_) (fun c_83 => (show False by omega).elim)
  refine lv_iload_n hx hb dL_act_94 rfl (lv_at hl 1 rfl) ?_
  refine lv_bipush (v := nI 7) hx hb dL_act_95 (by decide) ?_
  refine zb_ne (tgt := 118) hx hb (by decide) (by decide) dL_act_97 (by decide) (fun c_97 => ?_) (fun c_97 => (show False by omega).elim)
  refine lv_aload_n hx hb dL_act_118 rfl (lv_at hl 0 rfl) ?_
  refine lv_iload_n hx hb dL_act_119 rfl (lv_at hl 2 rfl) ?_
  refine lv_iload_n hx hb dL_act_120 rfl (lv_at hl 3 rfl) ?_
  refine lv_iload hx hb dL_act_121 (lv_at hl 4 rfl) ?_
  refine zi_ge (tgt := 130) hx hb (by decide) dL_act_123 (by decide) (fun c_123 => ?_) (fun c_123 => (show False by exact c_123).elim)
  refine lv_iconst (v := nI 0) hx hb dL_act_130 (by decide) ?_
  refine lv_iload hx hb dL_act_131 (lv_at hl 4 rfl) ?_
  refine zi_ge (tgt := 143) hx hb (by decide) dL_act_133 (by decide) (fun c_133 => ?_) (fun c_133 => (show False by exact c_133).elim)
  refine lv_iload hx hb dL_act_143 (lv_at hl 4 rfl) ?_
  have htab : c.exceptionTable.toList = ([] : List ExceptionTableEntry) ++ ⟨0, 148, 149, 42⟩ :: [⟨0, 148, 154, 45⟩, ⟨0, 148, 159, 48⟩] := (vx_table (x := yL_act) B (hts (.codeWith yL_act cL_act 6 (some .int) [(0, 148, 149, 42), (0, 148, 154, 45), (0, 148, 159, 48)]) List.mem_cons_self)).trans rfl
  refine zx_go (kr_X3_claim_ioobe l hfl (x1 := nI 30) (g := nI 0) (b := nI 0) (d := nI 300) (h1 := (by decide)) hx hb hml hown hts hK hP gL_act_X3_claim ⟨Nat.le_of_ble_eq_true rfl, Nat.le_of_ble_eq_true rfl⟩ ⟨Nat.le_of_ble_eq_true rfl, Nat.le_of_ble_eq_true rfl⟩ hl.1 (Nat.le_of_ble_eq_true rfl) dL_act_145 hT) (fun ce q9 H1 hz9 hk9 hce hcv hcl => ?_)
  refine vx_catch (own := RL) (name := "java/lang/IndexOutOfBoundsException") (E := "java/lang/IndexOutOfBoundsException") hown [] ⟨0, 148, 149, 42⟩ [⟨0, 148, 154, 45⟩, ⟨0, 148, 159, 48⟩] htab (fun z hz => nomatch hz) rfl (by decide) (hts (.classLink RL 42 "java/lang/IndexOutOfBoundsException") (by decide +kernel)) (va_Nw.use rfl hT.2.1.2.2) hce hcv hcl ?_
  have hS : va_S (fun _ => False) s.heap H1 [] := ⟨Nat.le_of_succ_le hz9, fun q hq _ => hk9 q hq, fun _ h => nomatch h⟩
  refine lv_astore (lv' := [(5, .ref q9), (0, .ref (ad 0)), (1, .int (nI 8)), (2, .int (nI 30)), (3, .int (nI 0)), (4, .int (nI 300))]) hx hb dL_act_149 hl (by decide) rfl (fun ls hl => ?_)
  refine lv_ldc hx hb hown (hts (.constant RL 44 (-200000001)) (by decide +kernel)) dL_act_151 ?_
  exact W.iret (v := (-200000001)) hx hb hr (fun t ht hW => ⟨⟨(-200000001), (), rfl, rfl, by show sz + 1 ≤ t.heap.size; rw [ht, ← hsz]; exact hz9⟩, hS.F ht⟩) hS.2.2 dL_act_153
section
variable {p : Program} {e : Env} {R : Room} {s : State} {m : MethodId} {args : Array Value} {below : List Frame} {meth : Method} {c : Code} {H : Heap} {locs : List Loc} {cells slots : Nat} {Q : State → Prop} {cc : ByteArray} {pc : Nat} {ls : Array Slot} {rest : List Value} {own : String} {index nL : Nat} {Ts : List Cond} {H0 : Heap} {A0 : Nat → Prop}
theorem k_act_8_30_0_300 (l : Launch) {dC : Nat → ClassId} {dI : Nat → Nat → Nat} {cI cZ : ClassId} {ad : Nat → Nat} {sm fe ex dy : Int32} {gp gc op gr st dl wo yc ya ys yd zc zp zr zs zf : Nat → Int32} {z : Nat} {zm zt : Int64} (hfl : l.stackTraces = false) (hx : p.tables.exec = Jvm.exec) (hb : c.code = cc) (hml : c.maxLocals = nL) (hown : s.vm.findClass own = some m.cls) (hts : ∀ w ∈ Ts, w.before args s = true) (hK : va_K (dC, dI) vwCl [(cI, .int), (cZ, .boolean)] s) (hP : va_P (dC, dI) vwCl (wC cI cZ ad sm fe ex dy gp gc op gr st dl wo 0 yc ya ys yd 0 zc zp zr zs zf z zm zt) H) (hg9 : GoodIn Ts (va_wsS own index yL_act wsL_act)) (hR9 : 7 + 1 ≤ R.frames ∧ 8 + (6 + 11) + 115 ≤ R.locals) (hc9 : cells + 1 ≤ R.cells ∧ slots + 6 ≤ R.slots) (hl9 : ls.size = nL) (hw9 : (rest.map fun v => v.category).sum ≤ 8) (hdg : decode cc pc = .ok (.invokestatic index, 3)) (hT : tX (fun _ => False) s H) (hN : tN s) (hS : va_S A0 H0 H locs) (kk : ∀ (H1 : Heap) (locs1 : List Loc), va_S A0 H0 H1 locs1 → H.size + 1 ≤ H1.size → (∀ q : Nat, q < H.size → H1[q]? = H[q]?) → W p l e R s m args below meth c H1 locs1 (cells + 1) (slots + 6) Q (F0 m (pc + 3) ls (.int (-200000001) :: rest))) : W p l e R s m args below meth c H locs cells slots Q (F0 m pc ls (.int (nI 300) :: .int (nI 0) :: .int (nI 30) :: .int (nI 8) :: .ref (ad 0) :: rest)) := va_calli (vx_runSW (As := [.ref (ad 0), .int (nI 8), .int (nI 30), .int (nI 0), .int (nI 300)]) (rest := rest) ⟨hx, hb, hml, hown, hts⟩ (c_act_8_30_0_300 (dC := dC) (dI := dI) (cI := cI) (cZ := cZ) (ad := ad) (sm := sm) (fe := fe) (ex := ex) (dy := dy) (gp := gp) (gc := gc) (op := op) (gr := gr) (st := st) (dl := dl) (wo := wo) (yc := yc) (ya := ya) (ys := ys) (yd := yd) (zc := zc) (zp := zp) (zr := zr) (zs := zs) (zf := zf) (z := z) (zm := zm) (zt := zt) l hfl H.size) (vx_cwSW 5 hts hg9 rfl rfl rfl (by decide +kernel) hR9) ⟨fun a U g mk q => ⟨q.1, q.2.1, va_K.moved (u := U) (U := U.calling g mk a) (Vm.Alike.refl U.vm) q.2.2.1, tX.same (u := U) (U := U.calling g mk a) rfl q.2.2.2.1, tN.moved (u := U) (U := U.calling g mk a) (Vm.Alike.refl U.vm) q.2.2.2.2.1, q.2.2.2.2.2⟩, fun U hU hW => ⟨rfl, by rw [hU]; exact hP, va_K.moved hW.alike hK, by rw [hU]; exact tX.warm hW hT, tN.moved hW.alike hN, by rw [hU]⟩⟩ rfl rfl hl9 rfl (lv_room hw9) hdg hc9) hS (fun _ _ h => h.elim) (fun _ h => h.elim) (fun r u t H1 locs1 ht _ hu hB hz hk hS1 => by subst hu; rw [ht] at hB; exact kk H1 locs1 hS1 hB (fun q hq => hk q hq (fun h => h)))
end
set_option maxHeartbeats 4000000 in
set_option maxRecDepth 100000 in
theorem c_act_8_0_5_300 (l : Launch) {dC : Nat → ClassId} {dI : Nat → Nat → Nat} {cI cZ : ClassId} {ad : Nat → Nat} {sm fe ex dy : Int32} {gp gc op gr st dl wo yc ya ys yd zc zp zr zs zf : Nat → Int32} {z : Nat} {zm zt : Int64} (hfl : l.stackTraces = false) (sz : Nat) : Met l yL_act wsL_act { frames := 7, cells := 1, slots := 6, locals := 115 } (va_Pc [.ref (ad 0), .int (nI 8), .int (nI 0), .int (nI 5), .int (nI 300)] (fun U => va_P (dC, dI) vwCl (wC cI cZ ad sm fe ex dy gp gc op gr st dl wo 0 yc ya ys yd 0 zc zp zr zs zf z zm zt) U.heap ∧ va_K (dC, dI) vwCl [(cI, .int), (cZ, .boolean)] U ∧ tX (fun _ => False) U U.heap ∧ tN U ∧ U.heap.size = sz)) (va_Qi (fun r (_ : Unit) => r = (-200000001)) (fun _ t => sz + 1 ≤ t.heap.size) (fun _ => False)) 1 6 (fun _ => False) := by
  refine va_MetW (cc := cL_act) (maxL := 6) (ret := (some .int)) (hh := [(0, 148, 149, 42), (0, 148, 154, 45), (0, 148, 159, 48)]) (by decide) rfl ?_
  intro p e s m args below meth c s₁ B hml hv
  obtain ⟨rfl, hP, hK, hT, hN, hsz⟩ := hv
  have hx := B.exec
  have hb := B.bytes
  have hr := B.returns
  have hts := atoms_spec (ws := wsL_act) B.pre
  have hown : s.vm.findClass RL = some m.cls := findClass_of_methodNamed B.named
  have hlocks := B.notSynchronized
  have hl := lv_entry ([.ref (ad 0), .int (nI 8), .int (nI 0), .int (nI 5), .int (nI 300)]) (n := 6) (Nat.le_of_ble_eq_true rfl)
  rw [lg_entry_eq]
  generalize (lg_sl ([.ref (ad 0), .int (nI 8), .int (nI 0), .int (nI 5), .int (nI 300)]) ++ List.replicate (6 - (lg_sl ([.ref (ad 0), .int (nI 8), .int (nI 0), .int (nI 5), .int (nI 300)])).length) Slot.unset).toArray = ls at hl ⊢
  have hl : lv_has ls 6 [(0, .ref (ad 0)), (1, .int (nI 8)), (2, .int (nI 0)), (3, .int (nI 5)), (4, .int (nI 300))] := hl
  refine lv_iload_n hx hb dL_act_0 rfl (lv_at hl 1 rfl) ?_
  refine zi_ne (tgt := 15) hx hb (by decide) dL_act_1 (by decide) (fun c_1 => ?_) (fun c_1 => (show False by omega).elim)
  refine lv_iload_n hx hb dL_act_15 rfl (lv_at hl 1 rfl) ?_
  refine lv_iconst (v := nI 1) hx hb dL_act_16 (by decide) ?_
  refine zb_ne (tgt := 28) hx hb (by decide) (by decide) dL_act_17 (by decide) (fun c_17 => ?_) (fun c_17 => (show False by omega).elim)
  refine lv_iload_n hx hb dL_act_28 rfl (lv_at hl 1 rfl) ?_
  refine lv_iconst (v := nI 2) hx hb dL_act_29 (by decide) ?_
  refine zb_ne (tgt := 41) hx hb (by decide) (by decide) dL_act_30 (by decide) (fun c_30 => ?_) (fun c_30 => (show False by omega).elim)
  refine lv_iload_n hx hb dL_act_41 rfl (lv_at hl 1 rfl) ?_
  refine lv_iconst (v := nI 3) hx hb dL_act_42 (by decide) ?_
  refine zb_ne (tgt := 54) hx hb (by decide) (by decide) dL_act_43 (by decide) (fun c_43 => ?_) (fun c_43 => (show False by omega).elim)
  refine lv_iload_n hx hb dL_act_54 rfl (lv_at hl 1 rfl) ?_
  refine lv_iconst (v := nI 4) hx hb dL_act_55 (by decide) ?_
  refine zb_ne (tgt := 67) hx hb (by decide) (by decide) dL_act_56 (by decide) (fun c_56 => ?_) (fun c_56 => (show False by omega).elim)
  refine lv_iload_n hx hb dL_act_67 rfl (lv_at hl 1 rfl) ?_
  refine lv_iconst (v := nI 5) hx hb dL_act_68 (by decide) ?_
  refine zb_ne (tgt := 80) hx hb (by decide) (by decide) dL_act_69 (by decide) (fun c_69 => ?_) (fun c_69 => (show False by omega).elim)
  refine lv_iload_n hx hb dL_act_80 rfl (lv_at hl 1 rfl) ?_
  refine lv_bipush (v := nI 6) hx hb dL_act_81 (by decide) ?_
  refine zb_ne (tgt := 94) hx hb (by decide) (by decide) dL_act_83 (by decide) (fun c_83 => ?_) (fun c_83 => (show False by omega).elim)
  refine lv_iload_n hx hb dL_act_94 rfl (lv_at hl 1 rfl) ?_
  refine lv_bipush (v := nI 7) hx hb dL_act_95 (by decide) ?_
  refine zb_ne (tgt := 118) hx hb (by decide) (by decide) dL_act_97 (by decide) (fun c_97 => ?_) (fun c_97 => (show False by omega).elim)
  refine lv_aload_n hx hb dL_act_118 rfl (lv_at hl 0 rfl) ?_
  refine lv_iload_n hx hb dL_act_119 rfl (lv_at hl 2 rfl) ?_
  refine lv_iload_n hx hb dL_act_120 rfl (lv_at hl 3 rfl) ?_
  refine lv_iload hx hb dL_act_121 (lv_at hl 4 rfl) ?_
  refine zi_ge (tgt := 130) hx hb (by decide) dL_act_123 (by decide) (fun c_123 => ?_) (fun c_123 => (show False by exact c_123).elim)
  refine lv_iconst (v := nI 0) hx hb dL_act_130 (by decide) ?_
  refine lv_iload hx hb dL_act_131 (lv_at hl 4 rfl) ?_
  refine zi_ge (tgt := 143) hx hb (by decide) dL_act_133 (by decide) (fun c_133 => ?_) (fun c_133 => (show False by exact c_133).elim)
  refine lv_iload hx hb dL_act_143 (lv_at hl 4 rfl) ?_
  have htab : c.exceptionTable.toList = ([] : List ExceptionTableEntry) ++ ⟨0, 148, 149, 42⟩ :: [⟨0, 148, 154, 45⟩, ⟨0, 148, 159, 48⟩] := (vx_table (x := yL_act) B (hts (.codeWith yL_act cL_act 6 (some .int) [(0, 148, 149, 42), (0, 148, 154, 45), (0, 148, 159, 48)]) List.mem_cons_self)).trans rfl
  refine zx_go (kr_X3_claim_ioobe l hfl (x1 := nI 0) (g := nI 5) (b := nI 0) (d := nI 300) (h1 := (by decide)) hx hb hml hown hts hK hP gL_act_X3_claim ⟨Nat.le_of_ble_eq_true rfl, Nat.le_of_ble_eq_true rfl⟩ ⟨Nat.le_of_ble_eq_true rfl, Nat.le_of_ble_eq_true rfl⟩ hl.1 (Nat.le_of_ble_eq_true rfl) dL_act_145 hT) (fun ce q9 H1 hz9 hk9 hce hcv hcl => ?_)
  refine vx_catch (own := RL) (name := "java/lang/IndexOutOfBoundsException") (E := "java/lang/IndexOutOfBoundsException") hown [] ⟨0, 148, 149, 42⟩ [⟨0, 148, 154, 45⟩, ⟨0, 148, 159, 48⟩] htab (fun z hz => nomatch hz) rfl (by decide) (hts (.classLink RL 42 "java/lang/IndexOutOfBoundsException") (by decide +kernel)) (va_Nw.use rfl hT.2.1.2.2) hce hcv hcl ?_
  have hS : va_S (fun _ => False) s.heap H1 [] := ⟨Nat.le_of_succ_le hz9, fun q hq _ => hk9 q hq, fun _ h => nomatch h⟩
  refine lv_astore (lv' := [(5, .ref q9), (0, .ref (ad 0)), (1, .int (nI 8)), (2, .int (nI 0)), (3, .int (nI 5)), (4, .int (nI 300))]) hx hb dL_act_149 hl (by decide) rfl (fun ls hl => ?_)
  refine lv_ldc hx hb hown (hts (.constant RL 44 (-200000001)) (by decide +kernel)) dL_act_151 ?_
  exact W.iret (v := (-200000001)) hx hb hr (fun t ht hW => ⟨⟨(-200000001), (), rfl, rfl, by show sz + 1 ≤ t.heap.size; rw [ht, ← hsz]; exact hz9⟩, hS.F ht⟩) hS.2.2 dL_act_153
section
variable {p : Program} {e : Env} {R : Room} {s : State} {m : MethodId} {args : Array Value} {below : List Frame} {meth : Method} {c : Code} {H : Heap} {locs : List Loc} {cells slots : Nat} {Q : State → Prop} {cc : ByteArray} {pc : Nat} {ls : Array Slot} {rest : List Value} {own : String} {index nL : Nat} {Ts : List Cond} {H0 : Heap} {A0 : Nat → Prop}
theorem k_act_8_0_5_300 (l : Launch) {dC : Nat → ClassId} {dI : Nat → Nat → Nat} {cI cZ : ClassId} {ad : Nat → Nat} {sm fe ex dy : Int32} {gp gc op gr st dl wo yc ya ys yd zc zp zr zs zf : Nat → Int32} {z : Nat} {zm zt : Int64} (hfl : l.stackTraces = false) (hx : p.tables.exec = Jvm.exec) (hb : c.code = cc) (hml : c.maxLocals = nL) (hown : s.vm.findClass own = some m.cls) (hts : ∀ w ∈ Ts, w.before args s = true) (hK : va_K (dC, dI) vwCl [(cI, .int), (cZ, .boolean)] s) (hP : va_P (dC, dI) vwCl (wC cI cZ ad sm fe ex dy gp gc op gr st dl wo 0 yc ya ys yd 0 zc zp zr zs zf z zm zt) H) (hg9 : GoodIn Ts (va_wsS own index yL_act wsL_act)) (hR9 : 7 + 1 ≤ R.frames ∧ 8 + (6 + 11) + 115 ≤ R.locals) (hc9 : cells + 1 ≤ R.cells ∧ slots + 6 ≤ R.slots) (hl9 : ls.size = nL) (hw9 : (rest.map fun v => v.category).sum ≤ 8) (hdg : decode cc pc = .ok (.invokestatic index, 3)) (hT : tX (fun _ => False) s H) (hN : tN s) (hS : va_S A0 H0 H locs) (kk : ∀ (H1 : Heap) (locs1 : List Loc), va_S A0 H0 H1 locs1 → H.size + 1 ≤ H1.size → (∀ q : Nat, q < H.size → H1[q]? = H[q]?) → W p l e R s m args below meth c H1 locs1 (cells + 1) (slots + 6) Q (F0 m (pc + 3) ls (.int (-200000001) :: rest))) : W p l e R s m args below meth c H locs cells slots Q (F0 m pc ls (.int (nI 300) :: .int (nI 5) :: .int (nI 0) :: .int (nI 8) :: .ref (ad 0) :: rest)) := va_calli (vx_runSW (As := [.ref (ad 0), .int (nI 8), .int (nI 0), .int (nI 5), .int (nI 300)]) (rest := rest) ⟨hx, hb, hml, hown, hts⟩ (c_act_8_0_5_300 (dC := dC) (dI := dI) (cI := cI) (cZ := cZ) (ad := ad) (sm := sm) (fe := fe) (ex := ex) (dy := dy) (gp := gp) (gc := gc) (op := op) (gr := gr) (st := st) (dl := dl) (wo := wo) (yc := yc) (ya := ya) (ys := ys) (yd := yd) (zc := zc) (zp := zp) (zr := zr) (zs := zs) (zf := zf) (z := z) (zm := zm) (zt := zt) l hfl H.size) (vx_cwSW 5 hts hg9 rfl rfl rfl (by decide +kernel) hR9) ⟨fun a U g mk q => ⟨q.1, q.2.1, va_K.moved (u := U) (U := U.calling g mk a) (Vm.Alike.refl U.vm) q.2.2.1, tX.same (u := U) (U := U.calling g mk a) rfl q.2.2.2.1, tN.moved (u := U) (U := U.calling g mk a) (Vm.Alike.refl U.vm) q.2.2.2.2.1, q.2.2.2.2.2⟩, fun U hU hW => ⟨rfl, by rw [hU]; exact hP, va_K.moved hW.alike hK, by rw [hU]; exact tX.warm hW hT, tN.moved hW.alike hN, by rw [hU]⟩⟩ rfl rfl hl9 rfl (lv_room hw9) hdg hc9) hS (fun _ _ h => h.elim) (fun _ h => h.elim) (fun r u t H1 locs1 ht _ hu hB hz hk hS1 => by subst hu; rw [ht] at hB; exact kk H1 locs1 hS1 hB (fun q hq => hk q hq (fun h => h)))
end
set_option maxHeartbeats 4000000 in
set_option maxRecDepth 100000 in
theorem c_act_8_0_0_102 (l : Launch) {dC : Nat → ClassId} {dI : Nat → Nat → Nat} {cI cZ : ClassId} {ad : Nat → Nat} {sm fe ex dy : Int32} {gp gc op gr st dl wo yc ya ys yd zc zp zr zs zf : Nat → Int32} {z : Nat} {zm zt : Int64} (hfl : l.stackTraces = false) (sz : Nat) : Met l yL_act wsL_act { frames := 7, cells := 1, slots := 6, locals := 115 } (va_Pc [.ref (ad 0), .int (nI 8), .int (nI 0), .int (nI 0), .int (nI 102)] (fun U => va_P (dC, dI) vwCl (wC cI cZ ad sm fe ex dy gp gc op gr st dl wo 0 yc ya ys yd 0 zc zp zr zs zf z zm zt) U.heap ∧ va_K (dC, dI) vwCl [(cI, .int), (cZ, .boolean)] U ∧ tX (fun _ => False) U U.heap ∧ tN U ∧ U.heap.size = sz)) (va_Qi (fun r (_ : Unit) => r = (-200000002)) (fun _ t => sz + 1 ≤ t.heap.size) (fun _ => False)) 1 6 (fun _ => False) := by
  refine va_MetW (cc := cL_act) (maxL := 6) (ret := (some .int)) (hh := [(0, 148, 149, 42), (0, 148, 154, 45), (0, 148, 159, 48)]) (by decide) rfl ?_
  intro p e s m args below meth c s₁ B hml hv
  obtain ⟨rfl, hP, hK, hT, hN, hsz⟩ := hv
  have hx := B.exec
  have hb := B.bytes
  have hr := B.returns
  have hts := atoms_spec (ws := wsL_act) B.pre
  have hown : s.vm.findClass RL = some m.cls := findClass_of_methodNamed B.named
  have hlocks := B.notSynchronized
  have hl := lv_entry ([.ref (ad 0), .int (nI 8), .int (nI 0), .int (nI 0), .int (nI 102)]) (n := 6) (Nat.le_of_ble_eq_true rfl)
  rw [lg_entry_eq]
  generalize (lg_sl ([.ref (ad 0), .int (nI 8), .int (nI 0), .int (nI 0), .int (nI 102)]) ++ List.replicate (6 - (lg_sl ([.ref (ad 0), .int (nI 8), .int (nI 0), .int (nI 0), .int (nI 102)])).length) Slot.unset).toArray = ls at hl ⊢
  have hl : lv_has ls 6 [(0, .ref (ad 0)), (1, .int (nI 8)), (2, .int (nI 0)), (3, .int (nI 0)), (4, .int (nI 102))] := hl
  refine lv_iload_n hx hb dL_act_0 rfl (lv_at hl 1 rfl) ?_
  refine zi_ne (tgt := 15) hx hb (by decide) dL_act_1 (by decide) (fun c_1 => ?_) (fun c_1 => (show False by omega).elim)
  refine lv_iload_n hx hb dL_act_15 rfl (lv_at hl 1 rfl) ?_
  refine lv_iconst (v := nI 1) hx hb dL_act_16 (by decide) ?_
  refine zb_ne (tgt := 28) hx hb (by decide) (by decide) dL_act_17 (by decide) (fun c_17 => ?_) (fun c_17 => (show False by omega).elim)
  refine lv_iload_n hx hb dL_act_28 rfl (lv_at hl 1 rfl) ?_
  refine lv_iconst (v := nI 2) hx hb dL_act_29 (by decide) ?_
  refine zb_ne (tgt := 41) hx hb (by decide) (by decide) dL_act_30 (by decide) (fun c_30 => ?_) (fun c_30 => (show False by omega).elim)
  refine lv_iload_n hx hb dL_act_41 rfl (lv_at hl 1 rfl) ?_
  refine lv_iconst (v := nI 3) hx hb dL_act_42 (by decide) ?_
  refine zb_ne (tgt := 54) hx hb (by decide) (by decide) dL_act_43 (by decide) (fun c_43 => ?_) (fun c_43 => (show False by omega).elim)
  refine lv_iload_n hx hb dL_act_54 rfl (lv_at hl 1 rfl) ?_
  refine lv_iconst (v := nI 4) hx hb dL_act_55 (by decide) ?_
  refine zb_ne (tgt := 67) hx hb (by decide) (by decide) dL_act_56 (by decide) (fun c_56 => ?_) (fun c_56 => (show False by omega).elim)
  refine lv_iload_n hx hb dL_act_67 rfl (lv_at hl 1 rfl) ?_
  refine lv_iconst (v := nI 5) hx hb dL_act_68 (by decide) ?_
  refine zb_ne (tgt := 80) hx hb (by decide) (by decide) dL_act_69 (by decide) (fun c_69 => ?_) (fun c_69 => (show False by omega).elim)
  refine lv_iload_n hx hb dL_act_80 rfl (lv_at hl 1 rfl) ?_
  refine lv_bipush (v := nI 6) hx hb dL_act_81 (by decide) ?_
  refine zb_ne (tgt := 94) hx hb (by decide) (by decide) dL_act_83 (by decide) (fun c_83 => ?_) (fun c_83 => (show False by omega).elim)
  refine lv_iload_n hx hb dL_act_94 rfl (lv_at hl 1 rfl) ?_
  refine lv_bipush (v := nI 7) hx hb dL_act_95 (by decide) ?_
  refine zb_ne (tgt := 118) hx hb (by decide) (by decide) dL_act_97 (by decide) (fun c_97 => ?_) (fun c_97 => (show False by omega).elim)
  refine lv_aload_n hx hb dL_act_118 rfl (lv_at hl 0 rfl) ?_
  refine lv_iload_n hx hb dL_act_119 rfl (lv_at hl 2 rfl) ?_
  refine lv_iload_n hx hb dL_act_120 rfl (lv_at hl 3 rfl) ?_
  refine lv_iload hx hb dL_act_121 (lv_at hl 4 rfl) ?_
  refine zi_ge (tgt := 130) hx hb (by decide) dL_act_123 (by decide) (fun c_123 => ?_) (fun c_123 => (show False by exact c_123).elim)
  refine lv_iconst (v := nI 0) hx hb dL_act_130 (by decide) ?_
  refine lv_iload hx hb dL_act_131 (lv_at hl 4 rfl) ?_
  refine zi_ge (tgt := 143) hx hb (by decide) dL_act_133 (by decide) (fun c_133 => ?_) (fun c_133 => (show False by exact c_133).elim)
  refine lv_iload hx hb dL_act_143 (lv_at hl 4 rfl) ?_
  have htab : c.exceptionTable.toList = ([⟨0, 148, 149, 42⟩] : List ExceptionTableEntry) ++ ⟨0, 148, 154, 45⟩ :: [⟨0, 148, 159, 48⟩] := (vx_table (x := yL_act) B (hts (.codeWith yL_act cL_act 6 (some .int) [(0, 148, 149, 42), (0, 148, 154, 45), (0, 148, 159, 48)]) List.mem_cons_self)).trans rfl
  refine zx_go (kr_X3_claim_iae l hfl (x1 := nI 0) (g := nI 0) (b := nI 0) (d := nI 102) (h1 := (by decide)) (h2 := (by decide)) (h3 := (by decide)) hx hb hml hown hts hK hP gL_act_X3_claim ⟨Nat.le_of_ble_eq_true rfl, Nat.le_of_ble_eq_true rfl⟩ ⟨Nat.le_of_ble_eq_true rfl, Nat.le_of_ble_eq_true rfl⟩ hl.1 (Nat.le_of_ble_eq_true rfl) dL_act_145 hT) (fun ce q9 H1 hz9 hk9 hce hcv hcl => ?_)
  refine vx_catch (own := RL) (name := "java/lang/IllegalArgumentException") (E := "java/lang/IllegalArgumentException") hown [⟨0, 148, 149, 42⟩] ⟨0, 148, 154, 45⟩ [⟨0, 148, 159, 48⟩] htab (fun z hz => by rcases List.mem_singleton.mp hz with rfl; exact Or.inr ⟨by decide, _, hts (.classLink RL 42 "java/lang/IndexOutOfBoundsException") (by decide +kernel), hN.1.2⟩) rfl (by decide) (hts (.classLink RL 45 "java/lang/IllegalArgumentException") (by decide +kernel)) (va_Nw.use rfl hT.2.1.1) hce hcv hcl ?_
  have hS : va_S (fun _ => False) s.heap H1 [] := ⟨Nat.le_of_succ_le hz9, fun q hq _ => hk9 q hq, fun _ h => nomatch h⟩
  refine lv_astore (lv' := [(5, .ref q9), (0, .ref (ad 0)), (1, .int (nI 8)), (2, .int (nI 0)), (3, .int (nI 0)), (4, .int (nI 102))]) hx hb dL_act_154 hl (by decide) rfl (fun ls hl => ?_)
  refine lv_ldc hx hb hown (hts (.constant RL 47 (-200000002)) (by decide +kernel)) dL_act_156 ?_
  exact W.iret (v := (-200000002)) hx hb hr (fun t ht hW => ⟨⟨(-200000002), (), rfl, rfl, by show sz + 1 ≤ t.heap.size; rw [ht, ← hsz]; exact hz9⟩, hS.F ht⟩) hS.2.2 dL_act_158
section
variable {p : Program} {e : Env} {R : Room} {s : State} {m : MethodId} {args : Array Value} {below : List Frame} {meth : Method} {c : Code} {H : Heap} {locs : List Loc} {cells slots : Nat} {Q : State → Prop} {cc : ByteArray} {pc : Nat} {ls : Array Slot} {rest : List Value} {own : String} {index nL : Nat} {Ts : List Cond} {H0 : Heap} {A0 : Nat → Prop}
theorem k_act_8_0_0_102 (l : Launch) {dC : Nat → ClassId} {dI : Nat → Nat → Nat} {cI cZ : ClassId} {ad : Nat → Nat} {sm fe ex dy : Int32} {gp gc op gr st dl wo yc ya ys yd zc zp zr zs zf : Nat → Int32} {z : Nat} {zm zt : Int64} (hfl : l.stackTraces = false) (hx : p.tables.exec = Jvm.exec) (hb : c.code = cc) (hml : c.maxLocals = nL) (hown : s.vm.findClass own = some m.cls) (hts : ∀ w ∈ Ts, w.before args s = true) (hK : va_K (dC, dI) vwCl [(cI, .int), (cZ, .boolean)] s) (hP : va_P (dC, dI) vwCl (wC cI cZ ad sm fe ex dy gp gc op gr st dl wo 0 yc ya ys yd 0 zc zp zr zs zf z zm zt) H) (hg9 : GoodIn Ts (va_wsS own index yL_act wsL_act)) (hR9 : 7 + 1 ≤ R.frames ∧ 8 + (6 + 11) + 115 ≤ R.locals) (hc9 : cells + 1 ≤ R.cells ∧ slots + 6 ≤ R.slots) (hl9 : ls.size = nL) (hw9 : (rest.map fun v => v.category).sum ≤ 8) (hdg : decode cc pc = .ok (.invokestatic index, 3)) (hT : tX (fun _ => False) s H) (hN : tN s) (hS : va_S A0 H0 H locs) (kk : ∀ (H1 : Heap) (locs1 : List Loc), va_S A0 H0 H1 locs1 → H.size + 1 ≤ H1.size → (∀ q : Nat, q < H.size → H1[q]? = H[q]?) → W p l e R s m args below meth c H1 locs1 (cells + 1) (slots + 6) Q (F0 m (pc + 3) ls (.int (-200000002) :: rest))) : W p l e R s m args below meth c H locs cells slots Q (F0 m pc ls (.int (nI 102) :: .int (nI 0) :: .int (nI 0) :: .int (nI 8) :: .ref (ad 0) :: rest)) := va_calli (vx_runSW (As := [.ref (ad 0), .int (nI 8), .int (nI 0), .int (nI 0), .int (nI 102)]) (rest := rest) ⟨hx, hb, hml, hown, hts⟩ (c_act_8_0_0_102 (dC := dC) (dI := dI) (cI := cI) (cZ := cZ) (ad := ad) (sm := sm) (fe := fe) (ex := ex) (dy := dy) (gp := gp) (gc := gc) (op := op) (gr := gr) (st := st) (dl := dl) (wo := wo) (yc := yc) (ya := ya) (ys := ys) (yd := yd) (zc := zc) (zp := zp) (zr := zr) (zs := zs) (zf := zf) (z := z) (zm := zm) (zt := zt) l hfl H.size) (vx_cwSW 5 hts hg9 rfl rfl rfl (by decide +kernel) hR9) ⟨fun a U g mk q => ⟨q.1, q.2.1, va_K.moved (u := U) (U := U.calling g mk a) (Vm.Alike.refl U.vm) q.2.2.1, tX.same (u := U) (U := U.calling g mk a) rfl q.2.2.2.1, tN.moved (u := U) (U := U.calling g mk a) (Vm.Alike.refl U.vm) q.2.2.2.2.1, q.2.2.2.2.2⟩, fun U hU hW => ⟨rfl, by rw [hU]; exact hP, va_K.moved hW.alike hK, by rw [hU]; exact tX.warm hW hT, tN.moved hW.alike hN, by rw [hU]⟩⟩ rfl rfl hl9 rfl (lv_room hw9) hdg hc9) hS (fun _ _ h => h.elim) (fun _ h => h.elim) (fun r u t H1 locs1 ht _ hu hB hz hk hS1 => by subst hu; rw [ht] at hB; exact kk H1 locs1 hS1 hB (fun q hq => hk q hq (fun h => h)))
end
set_option maxHeartbeats 4000000 in
set_option maxRecDepth 100000 in
theorem c_act_8_0_0_m103 (l : Launch) {dC : Nat → ClassId} {dI : Nat → Nat → Nat} {cI cZ : ClassId} {ad : Nat → Nat} {sm fe ex dy : Int32} {gp gc op gr st dl wo yc ya ys yd zc zp zr zs zf : Nat → Int32} {z : Nat} {zm zt : Int64} (hfl : l.stackTraces = false) (sz : Nat) : Met l yL_act wsL_act { frames := 7, cells := 1, slots := 6, locals := 115 } (va_Pc [.ref (ad 0), .int (nI 8), .int (nI 0), .int (nI 0), .int (-103)] (fun U => va_P (dC, dI) vwCl (wC cI cZ ad sm fe ex dy gp gc op gr st dl wo 0 yc ya ys yd 0 zc zp zr zs zf z zm zt) U.heap ∧ va_K (dC, dI) vwCl [(cI, .int), (cZ, .boolean)] U ∧ tX (fun _ => False) U U.heap ∧ tN U ∧ U.heap.size = sz)) (va_Qi (fun r (_ : Unit) => r = (-200000002)) (fun _ t => sz + 1 ≤ t.heap.size) (fun _ => False)) 1 6 (fun _ => False) := by
  refine va_MetW (cc := cL_act) (maxL := 6) (ret := (some .int)) (hh := [(0, 148, 149, 42), (0, 148, 154, 45), (0, 148, 159, 48)]) (by decide) rfl ?_
  intro p e s m args below meth c s₁ B hml hv
  obtain ⟨rfl, hP, hK, hT, hN, hsz⟩ := hv
  have hx := B.exec
  have hb := B.bytes
  have hr := B.returns
  have hts := atoms_spec (ws := wsL_act) B.pre
  have hown : s.vm.findClass RL = some m.cls := findClass_of_methodNamed B.named
  have hlocks := B.notSynchronized
  have hl := lv_entry ([.ref (ad 0), .int (nI 8), .int (nI 0), .int (nI 0), .int (-103)]) (n := 6) (Nat.le_of_ble_eq_true rfl)
  rw [lg_entry_eq]
  generalize (lg_sl ([.ref (ad 0), .int (nI 8), .int (nI 0), .int (nI 0), .int (-103)]) ++ List.replicate (6 - (lg_sl ([.ref (ad 0), .int (nI 8), .int (nI 0), .int (nI 0), .int (-103)])).length) Slot.unset).toArray = ls at hl ⊢
  have hl : lv_has ls 6 [(0, .ref (ad 0)), (1, .int (nI 8)), (2, .int (nI 0)), (3, .int (nI 0)), (4, .int (-103))] := hl
  refine lv_iload_n hx hb dL_act_0 rfl (lv_at hl 1 rfl) ?_
  refine zi_ne (tgt := 15) hx hb (by decide) dL_act_1 (by decide) (fun c_1 => ?_) (fun c_1 => (show False by omega).elim)
  refine lv_iload_n hx hb dL_act_15 rfl (lv_at hl 1 rfl) ?_
  refine lv_iconst (v := nI 1) hx hb dL_act_16 (by decide) ?_
  refine zb_ne (tgt := 28) hx hb (by decide) (by decide) dL_act_17 (by decide) (fun c_17 => ?_) (fun c_17 => (show False by omega).elim)
  refine lv_iload_n hx hb dL_act_28 rfl (lv_at hl 1 rfl) ?_
  refine lv_iconst (v := nI 2) hx hb dL_act_29 (by decide) ?_
  refine zb_ne (tgt := 41) hx hb (by decide) (by decide) dL_act_30 (by decide) (fun c_30 => ?_) (fun c_30 => (show False by omega).elim)
  refine lv_iload_n hx hb dL_act_41 rfl (lv_at hl 1 rfl) ?_
  refine lv_iconst (v := nI 3) hx hb dL_act_42 (by decide) ?_
  refine zb_ne (tgt := 54) hx hb (by decide) (by decide) dL_act_43 (by decide) (fun c_43 => ?_) (fun c_43 => (show False by omega).elim)
  refine lv_iload_n hx hb dL_act_54 rfl (lv_at hl 1 rfl) ?_
  refine lv_iconst (v := nI 4) hx hb dL_act_55 (by decide) ?_
  refine zb_ne (tgt := 67) hx hb (by decide) (by decide) dL_act_56 (by decide) (fun c_56 => ?_) (fun c_56 => (show False by omega).elim)
  refine lv_iload_n hx hb dL_act_67 rfl (lv_at hl 1 rfl) ?_
  refine lv_iconst (v := nI 5) hx hb dL_act_68 (by decide) ?_
  refine zb_ne (tgt := 80) hx hb (by decide) (by decide) dL_act_69 (by decide) (fun c_69 => ?_) (fun c_69 => (show False by omega).elim)
  refine lv_iload_n hx hb dL_act_80 rfl (lv_at hl 1 rfl) ?_
  refine lv_bipush (v := nI 6) hx hb dL_act_81 (by decide) ?_
  refine zb_ne (tgt := 94) hx hb (by decide) (by decide) dL_act_83 (by decide) (fun c_83 => ?_) (fun c_83 => (show False by omega).elim)
  refine lv_iload_n hx hb dL_act_94 rfl (lv_at hl 1 rfl) ?_
  refine lv_bipush (v := nI 7) hx hb dL_act_95 (by decide) ?_
  refine zb_ne (tgt := 118) hx hb (by decide) (by decide) dL_act_97 (by decide) (fun c_97 => ?_) (fun c_97 => (show False by omega).elim)
  refine lv_aload_n hx hb dL_act_118 rfl (lv_at hl 0 rfl) ?_
  refine lv_iload_n hx hb dL_act_119 rfl (lv_at hl 2 rfl) ?_
  refine lv_iload_n hx hb dL_act_120 rfl (lv_at hl 3 rfl) ?_
  refine lv_iload hx hb dL_act_121 (lv_at hl 4 rfl) ?_
  refine lv_if_ge (tgt := 130) hx hb dL_act_123 (by decide) (fun c_123 => (show False by exact absurd c_123 (by decide)).elim) (fun c_123 => ?_)
  refine lv_iconst (v := nI 1) hx hb dL_act_126 (by decide) ?_
  refine lv_goto (tgt := 131) hx hb dL_act_127 (by decide) ?_
  refine lv_iload hx hb dL_act_131 (lv_at hl 4 rfl) ?_
  refine lv_if_ge (tgt := 143) hx hb dL_act_133 (by decide) (fun c_133 => (show False by exact absurd c_133 (by decide)).elim) (fun c_133 => ?_)
  refine lv_iconst (v := (-1)) hx hb dL_act_136 (by decide) ?_
  refine lv_iload hx hb dL_act_137 (lv_at hl 4 rfl) ?_
  refine lv_isub hx hb dL_act_139 ?_
  refine zt_i (y := nI 102) (by decide) ?_
  refine lv_goto (tgt := 145) hx hb dL_act_140 (by decide) ?_
  have htab : c.exceptionTable.toList = ([⟨0, 148, 149, 42⟩] : List ExceptionTableEntry) ++ ⟨0, 148, 154, 45⟩ :: [⟨0, 148, 159, 48⟩] := (vx_table (x := yL_act) B (hts (.codeWith yL_act cL_act 6 (some .int) [(0, 148, 149, 42), (0, 148, 154, 45), (0, 148, 159, 48)]) List.mem_cons_self)).trans rfl
  refine zx_go (kr_X3_claim_iae l hfl (x1 := nI 0) (g := nI 0) (b := nI 1) (d := nI 102) (h1 := (by decide)) (h2 := (by decide)) (h3 := (by decide)) hx hb hml hown hts hK hP gL_act_X3_claim ⟨Nat.le_of_ble_eq_true rfl, Nat.le_of_ble_eq_true rfl⟩ ⟨Nat.le_of_ble_eq_true rfl, Nat.le_of_ble_eq_true rfl⟩ hl.1 (Nat.le_of_ble_eq_true rfl) dL_act_145 hT) (fun ce q9 H1 hz9 hk9 hce hcv hcl => ?_)
  refine vx_catch (own := RL) (name := "java/lang/IllegalArgumentException") (E := "java/lang/IllegalArgumentException") hown [⟨0, 148, 149, 42⟩] ⟨0, 148, 154, 45⟩ [⟨0, 148, 159, 48⟩] htab (fun z hz => by rcases List.mem_singleton.mp hz with rfl; exact Or.inr ⟨by decide, _, hts (.classLink RL 42 "java/lang/IndexOutOfBoundsException") (by decide +kernel), hN.1.2⟩) rfl (by decide) (hts (.classLink RL 45 "java/lang/IllegalArgumentException") (by decide +kernel)) (va_Nw.use rfl hT.2.1.1) hce hcv hcl ?_
  have hS : va_S (fun _ => False) s.heap H1 [] := ⟨Nat.le_of_succ_le hz9, fun q hq _ => hk9 q hq, fun _ h => nomatch h⟩
  refine lv_astore (lv' := [(5, .ref q9), (0, .ref (ad 0)), (1, .int (nI 8)), (2, .int (nI 0)), (3, .int (nI 0)), (4, .int (-103))]) hx hb dL_act_154 hl (by decide) rfl (fun ls hl => ?_)
  refine lv_ldc hx hb hown (hts (.constant RL 47 (-200000002)) (by decide +kernel)) dL_act_156 ?_
  exact W.iret (v := (-200000002)) hx hb hr (fun t ht hW => ⟨⟨(-200000002), (), rfl, rfl, by show sz + 1 ≤ t.heap.size; rw [ht, ← hsz]; exact hz9⟩, hS.F ht⟩) hS.2.2 dL_act_158
section
variable {p : Program} {e : Env} {R : Room} {s : State} {m : MethodId} {args : Array Value} {below : List Frame} {meth : Method} {c : Code} {H : Heap} {locs : List Loc} {cells slots : Nat} {Q : State → Prop} {cc : ByteArray} {pc : Nat} {ls : Array Slot} {rest : List Value} {own : String} {index nL : Nat} {Ts : List Cond} {H0 : Heap} {A0 : Nat → Prop}
theorem k_act_8_0_0_m103 (l : Launch) {dC : Nat → ClassId} {dI : Nat → Nat → Nat} {cI cZ : ClassId} {ad : Nat → Nat} {sm fe ex dy : Int32} {gp gc op gr st dl wo yc ya ys yd zc zp zr zs zf : Nat → Int32} {z : Nat} {zm zt : Int64} (hfl : l.stackTraces = false) (hx : p.tables.exec = Jvm.exec) (hb : c.code = cc) (hml : c.maxLocals = nL) (hown : s.vm.findClass own = some m.cls) (hts : ∀ w ∈ Ts, w.before args s = true) (hK : va_K (dC, dI) vwCl [(cI, .int), (cZ, .boolean)] s) (hP : va_P (dC, dI) vwCl (wC cI cZ ad sm fe ex dy gp gc op gr st dl wo 0 yc ya ys yd 0 zc zp zr zs zf z zm zt) H) (hg9 : GoodIn Ts (va_wsS own index yL_act wsL_act)) (hR9 : 7 + 1 ≤ R.frames ∧ 8 + (6 + 11) + 115 ≤ R.locals) (hc9 : cells + 1 ≤ R.cells ∧ slots + 6 ≤ R.slots) (hl9 : ls.size = nL) (hw9 : (rest.map fun v => v.category).sum ≤ 8) (hdg : decode cc pc = .ok (.invokestatic index, 3)) (hT : tX (fun _ => False) s H) (hN : tN s) (hS : va_S A0 H0 H locs) (kk : ∀ (H1 : Heap) (locs1 : List Loc), va_S A0 H0 H1 locs1 → H.size + 1 ≤ H1.size → (∀ q : Nat, q < H.size → H1[q]? = H[q]?) → W p l e R s m args below meth c H1 locs1 (cells + 1) (slots + 6) Q (F0 m (pc + 3) ls (.int (-200000002) :: rest))) : W p l e R s m args below meth c H locs cells slots Q (F0 m pc ls (.int (-103) :: .int (nI 0) :: .int (nI 0) :: .int (nI 8) :: .ref (ad 0) :: rest)) := va_calli (vx_runSW (As := [.ref (ad 0), .int (nI 8), .int (nI 0), .int (nI 0), .int (-103)]) (rest := rest) ⟨hx, hb, hml, hown, hts⟩ (c_act_8_0_0_m103 (dC := dC) (dI := dI) (cI := cI) (cZ := cZ) (ad := ad) (sm := sm) (fe := fe) (ex := ex) (dy := dy) (gp := gp) (gc := gc) (op := op) (gr := gr) (st := st) (dl := dl) (wo := wo) (yc := yc) (ya := ya) (ys := ys) (yd := yd) (zc := zc) (zp := zp) (zr := zr) (zs := zs) (zf := zf) (z := z) (zm := zm) (zt := zt) l hfl H.size) (vx_cwSW 5 hts hg9 rfl rfl rfl (by decide +kernel) hR9) ⟨fun a U g mk q => ⟨q.1, q.2.1, va_K.moved (u := U) (U := U.calling g mk a) (Vm.Alike.refl U.vm) q.2.2.1, tX.same (u := U) (U := U.calling g mk a) rfl q.2.2.2.1, tN.moved (u := U) (U := U.calling g mk a) (Vm.Alike.refl U.vm) q.2.2.2.2.1, q.2.2.2.2.2⟩, fun U hU hW => ⟨rfl, by rw [hU]; exact hP, va_K.moved hW.alike hK, by rw [hU]; exact tX.warm hW hT, tN.moved hW.alike hN, by rw [hU]⟩⟩ rfl rfl hl9 rfl (lv_room hw9) hdg hc9) hS (fun _ _ h => h.elim) (fun _ h => h.elim) (fun r u t H1 locs1 ht _ hu hB hz hk hS1 => by subst hu; rw [ht] at hB; exact kk H1 locs1 hS1 hB (fun q hq => hk q hq (fun h => h)))
end
set_option maxHeartbeats 4000000 in
set_option maxRecDepth 100000 in
theorem c_act_4_1_1_0 (l : Launch) {dC : Nat → ClassId} {dI : Nat → Nat → Nat} {cI cZ : ClassId} {ad : Nat → Nat} {sm fe ex dy : Int32} {gp gc op gr st dl wo yc ya ys yd zc zp zr zs zf : Nat → Int32} {z : Nat} {zm zt : Int64} (hfl : l.stackTraces = false) (sz : Nat) : Met l yL_act wsL_act { frames := 8, cells := 1, slots := 6, locals := 132 } (va_Pc [.ref (ad 0), .int (nI 4), .int (nI 1), .int (nI 1), .int (nI 0)] (fun U => va_P (dC, dI) vwCl (wC cI cZ ad sm fe ex dy gp gc op gr st dl wo 0 yc ya ys yd 0 zc zp zr zs zf z zm zt) U.heap ∧ va_K (dC, dI) vwCl [(cI, .int), (cZ, .boolean)] U ∧ tX (fun _ => False) U U.heap ∧ tN U ∧ U.heap.size = sz)) (va_Qi (fun r (_ : Unit) => r = (-200000001)) (fun _ t => sz + 1 ≤ t.heap.size) (fun _ => False)) 1 6 (fun _ => False) := by
  refine va_MetW (cc := cL_act) (maxL := 6) (ret := (some .int)) (hh := [(0, 148, 149, 42), (0, 148, 154, 45), (0, 148, 159, 48)]) (by decide) rfl ?_
  intro p e s m args below meth c s₁ B hml hv
  obtain ⟨rfl, hP, hK, hT, hN, hsz⟩ := hv
  have hx := B.exec
  have hb := B.bytes
  have hr := B.returns
  have hts := atoms_spec (ws := wsL_act) B.pre
  have hown : s.vm.findClass RL = some m.cls := findClass_of_methodNamed B.named
  have hlocks := B.notSynchronized
  have hl := lv_entry ([.ref (ad 0), .int (nI 4), .int (nI 1), .int (nI 1), .int (nI 0)]) (n := 6) (Nat.le_of_ble_eq_true rfl)
  rw [lg_entry_eq]
  generalize (lg_sl ([.ref (ad 0), .int (nI 4), .int (nI 1), .int (nI 1), .int (nI 0)]) ++ List.replicate (6 - (lg_sl ([.ref (ad 0), .int (nI 4), .int (nI 1), .int (nI 1), .int (nI 0)])).length) Slot.unset).toArray = ls at hl ⊢
  have hl : lv_has ls 6 [(0, .ref (ad 0)), (1, .int (nI 4)), (2, .int (nI 1)), (3, .int (nI 1)), (4, .int (nI 0))] := hl
  refine lv_iload_n hx hb dL_act_0 rfl (lv_at hl 1 rfl) ?_
  refine zi_ne (tgt := 15) hx hb (by decide) dL_act_1 (by decide) (fun c_1 => ?_) (fun c_1 => (show False by omega).elim)
  refine lv_iload_n hx hb dL_act_15 rfl (lv_at hl 1 rfl) ?_
  refine lv_iconst (v := nI 1) hx hb dL_act_16 (by decide) ?_
  refine zb_ne (tgt := 28) hx hb (by decide) (by decide) dL_act_17 (by decide) (fun c_17 => ?_) (fun c_17 => (show False by omega).elim)
  refine lv_iload_n hx hb dL_act_28 rfl (lv_at hl 1 rfl) ?_
  refine lv_iconst (v := nI 2) hx hb dL_act_29 (by decide) ?_
  refine zb_ne (tgt := 41) hx hb (by decide) (by decide) dL_act_30 (by decide) (fun c_30 => ?_) (fun c_30 => (show False by omega).elim)
  refine lv_iload_n hx hb dL_act_41 rfl (lv_at hl 1 rfl) ?_
  refine lv_iconst (v := nI 3) hx hb dL_act_42 (by decide) ?_
  refine zb_ne (tgt := 54) hx hb (by decide) (by decide) dL_act_43 (by decide) (fun c_43 => ?_) (fun c_43 => (show False by omega).elim)
  refine lv_iload_n hx hb dL_act_54 rfl (lv_at hl 1 rfl) ?_
  refine lv_iconst (v := nI 4) hx hb dL_act_55 (by decide) ?_
  refine zb_ne (tgt := 67) hx hb (by decide) (by decide) dL_act_56 (by decide) (fun c_56 => (show False by omega).elim) (fun c_56 => ?_)
  refine lv_aload_n hx hb dL_act_59 rfl (lv_at hl 0 rfl) ?_
  refine lv_iload_n hx hb dL_act_60 rfl (lv_at hl 2 rfl) ?_
  have htab : c.exceptionTable.toList = ([] : List ExceptionTableEntry) ++ ⟨0, 148, 149, 42⟩ :: [⟨0, 148, 154, 45⟩, ⟨0, 148, 159, 48⟩] := (vx_table (x := yL_act) B (hts (.codeWith yL_act cL_act 6 (some .int) [(0, 148, 149, 42), (0, 148, 154, 45), (0, 148, 159, 48)]) List.mem_cons_self)).trans rfl
  refine zx_go (kr_X3_cure_no l hfl (x := nI 1) (hn := (by omega)) (hk := (fun h => h (Or.inr (by decide)))) hx hb hml hown hts hK hP gL_act_X3_cure ⟨Nat.le_of_ble_eq_true rfl, Nat.le_of_ble_eq_true rfl⟩ ⟨Nat.le_of_ble_eq_true rfl, Nat.le_of_ble_eq_true rfl⟩ hl.1 (Nat.le_of_ble_eq_true rfl) dL_act_61 hT) (fun ce q9 H1 hz9 hk9 hce hcv hcl => ?_)
  refine vx_catch (own := RL) (name := "java/lang/IndexOutOfBoundsException") (E := "java/lang/IndexOutOfBoundsException") hown [] ⟨0, 148, 149, 42⟩ [⟨0, 148, 154, 45⟩, ⟨0, 148, 159, 48⟩] htab (fun z hz => nomatch hz) rfl (by decide) (hts (.classLink RL 42 "java/lang/IndexOutOfBoundsException") (by decide +kernel)) (va_Nw.use rfl hT.2.1.2.2) hce hcv hcl ?_
  have hS : va_S (fun _ => False) s.heap H1 [] := ⟨Nat.le_of_succ_le hz9, fun q hq _ => hk9 q hq, fun _ h => nomatch h⟩
  refine lv_astore (lv' := [(5, .ref q9), (0, .ref (ad 0)), (1, .int (nI 4)), (2, .int (nI 1)), (3, .int (nI 1)), (4, .int (nI 0))]) hx hb dL_act_149 hl (by decide) rfl (fun ls hl => ?_)
  refine lv_ldc hx hb hown (hts (.constant RL 44 (-200000001)) (by decide +kernel)) dL_act_151 ?_
  exact W.iret (v := (-200000001)) hx hb hr (fun t ht hW => ⟨⟨(-200000001), (), rfl, rfl, by show sz + 1 ≤ t.heap.size; rw [ht, ← hsz]; exact hz9⟩, hS.F ht⟩) hS.2.2 dL_act_153
section
variable {p : Program} {e : Env} {R : Room} {s : State} {m : MethodId} {args : Array Value} {below : List Frame} {meth : Method} {c : Code} {H : Heap} {locs : List Loc} {cells slots : Nat} {Q : State → Prop} {cc : ByteArray} {pc : Nat} {ls : Array Slot} {rest : List Value} {own : String} {index nL : Nat} {Ts : List Cond} {H0 : Heap} {A0 : Nat → Prop}
theorem k_act_4_1_1_0 (l : Launch) {dC : Nat → ClassId} {dI : Nat → Nat → Nat} {cI cZ : ClassId} {ad : Nat → Nat} {sm fe ex dy : Int32} {gp gc op gr st dl wo yc ya ys yd zc zp zr zs zf : Nat → Int32} {z : Nat} {zm zt : Int64} (hfl : l.stackTraces = false) (hx : p.tables.exec = Jvm.exec) (hb : c.code = cc) (hml : c.maxLocals = nL) (hown : s.vm.findClass own = some m.cls) (hts : ∀ w ∈ Ts, w.before args s = true) (hK : va_K (dC, dI) vwCl [(cI, .int), (cZ, .boolean)] s) (hP : va_P (dC, dI) vwCl (wC cI cZ ad sm fe ex dy gp gc op gr st dl wo 0 yc ya ys yd 0 zc zp zr zs zf z zm zt) H) (hg9 : GoodIn Ts (va_wsS own index yL_act wsL_act)) (hR9 : 8 + 1 ≤ R.frames ∧ 8 + (6 + 11) + 132 ≤ R.locals) (hc9 : cells + 1 ≤ R.cells ∧ slots + 6 ≤ R.slots) (hl9 : ls.size = nL) (hw9 : (rest.map fun v => v.category).sum ≤ 8) (hdg : decode cc pc = .ok (.invokestatic index, 3)) (hT : tX (fun _ => False) s H) (hN : tN s) (hS : va_S A0 H0 H locs) (kk : ∀ (H1 : Heap) (locs1 : List Loc), va_S A0 H0 H1 locs1 → H.size + 1 ≤ H1.size → (∀ q : Nat, q < H.size → H1[q]? = H[q]?) → W p l e R s m args below meth c H1 locs1 (cells + 1) (slots + 6) Q (F0 m (pc + 3) ls (.int (-200000001) :: rest))) : W p l e R s m args below meth c H locs cells slots Q (F0 m pc ls (.int (nI 0) :: .int (nI 1) :: .int (nI 1) :: .int (nI 4) :: .ref (ad 0) :: rest)) := va_calli (vx_runSW (As := [.ref (ad 0), .int (nI 4), .int (nI 1), .int (nI 1), .int (nI 0)]) (rest := rest) ⟨hx, hb, hml, hown, hts⟩ (c_act_4_1_1_0 (dC := dC) (dI := dI) (cI := cI) (cZ := cZ) (ad := ad) (sm := sm) (fe := fe) (ex := ex) (dy := dy) (gp := gp) (gc := gc) (op := op) (gr := gr) (st := st) (dl := dl) (wo := wo) (yc := yc) (ya := ya) (ys := ys) (yd := yd) (zc := zc) (zp := zp) (zr := zr) (zs := zs) (zf := zf) (z := z) (zm := zm) (zt := zt) l hfl H.size) (vx_cwSW 5 hts hg9 rfl rfl rfl (by decide +kernel) hR9) ⟨fun a U g mk q => ⟨q.1, q.2.1, va_K.moved (u := U) (U := U.calling g mk a) (Vm.Alike.refl U.vm) q.2.2.1, tX.same (u := U) (U := U.calling g mk a) rfl q.2.2.2.1, tN.moved (u := U) (U := U.calling g mk a) (Vm.Alike.refl U.vm) q.2.2.2.2.1, q.2.2.2.2.2⟩, fun U hU hW => ⟨rfl, by rw [hU]; exact hP, va_K.moved hW.alike hK, by rw [hU]; exact tX.warm hW hT, tN.moved hW.alike hN, by rw [hU]⟩⟩ rfl rfl hl9 rfl (lv_room hw9) hdg hc9) hS (fun _ _ h => h.elim) (fun _ h => h.elim) (fun r u t H1 locs1 ht _ hu hB hz hk hS1 => by subst hu; rw [ht] at hB; exact kk H1 locs1 hS1 hB (fun q hq => hk q hq (fun h => h)))
end
set_option maxHeartbeats 4000000 in
set_option maxRecDepth 100000 in
theorem c_act_5_1_1_0 (l : Launch) {dC : Nat → ClassId} {dI : Nat → Nat → Nat} {cI cZ : ClassId} {ad : Nat → Nat} {sm fe ex dy : Int32} {gp gc op gr st dl wo yc ya ys yd zc zp zr zs zf : Nat → Int32} {z : Nat} {zm zt : Int64} (hfl : l.stackTraces = false) (sz : Nat) : Met l yL_act wsL_act { frames := 8, cells := 1, slots := 6, locals := 133 } (va_Pc [.ref (ad 0), .int (nI 5), .int (nI 1), .int (nI 1), .int (nI 0)] (fun U => va_P (dC, dI) vwCl (wC cI cZ ad sm fe ex dy gp gc op gr st dl wo 0 yc ya ys yd 0 zc zp zr zs zf z zm zt) U.heap ∧ va_K (dC, dI) vwCl [(cI, .int), (cZ, .boolean)] U ∧ tX (fun _ => False) U U.heap ∧ tN U ∧ U.heap.size = sz)) (va_Qi (fun r (_ : Unit) => r = (-200000001)) (fun _ t => sz + 1 ≤ t.heap.size) (fun _ => False)) 1 6 (fun _ => False) := by
  refine va_MetW (cc := cL_act) (maxL := 6) (ret := (some .int)) (hh := [(0, 148, 149, 42), (0, 148, 154, 45), (0, 148, 159, 48)]) (by decide) rfl ?_
  intro p e s m args below meth c s₁ B hml hv
  obtain ⟨rfl, hP, hK, hT, hN, hsz⟩ := hv
  have hx := B.exec
  have hb := B.bytes
  have hr := B.returns
  have hts := atoms_spec (ws := wsL_act) B.pre
  have hown : s.vm.findClass RL = some m.cls := findClass_of_methodNamed B.named
  have hlocks := B.notSynchronized
  have hl := lv_entry ([.ref (ad 0), .int (nI 5), .int (nI 1), .int (nI 1), .int (nI 0)]) (n := 6) (Nat.le_of_ble_eq_true rfl)
  rw [lg_entry_eq]
  generalize (lg_sl ([.ref (ad 0), .int (nI 5), .int (nI 1), .int (nI 1), .int (nI 0)]) ++ List.replicate (6 - (lg_sl ([.ref (ad 0), .int (nI 5), .int (nI 1), .int (nI 1), .int (nI 0)])).length) Slot.unset).toArray = ls at hl ⊢
  have hl : lv_has ls 6 [(0, .ref (ad 0)), (1, .int (nI 5)), (2, .int (nI 1)), (3, .int (nI 1)), (4, .int (nI 0))] := hl
  refine lv_iload_n hx hb dL_act_0 rfl (lv_at hl 1 rfl) ?_
  refine zi_ne (tgt := 15) hx hb (by decide) dL_act_1 (by decide) (fun c_1 => ?_) (fun c_1 => (show False by omega).elim)
  refine lv_iload_n hx hb dL_act_15 rfl (lv_at hl 1 rfl) ?_
  refine lv_iconst (v := nI 1) hx hb dL_act_16 (by decide) ?_
  refine zb_ne (tgt := 28) hx hb (by decide) (by decide) dL_act_17 (by decide) (fun c_17 => ?_) (fun c_17 => (show False by omega).elim)
  refine lv_iload_n hx hb dL_act_28 rfl (lv_at hl 1 rfl) ?_
  refine lv_iconst (v := nI 2) hx hb dL_act_29 (by decide) ?_
  refine zb_ne (tgt := 41) hx hb (by decide) (by decide) dL_act_30 (by decide) (fun c_30 => ?_) (fun c_30 => (show False by omega).elim)
  refine lv_iload_n hx hb dL_act_41 rfl (lv_at hl 1 rfl) ?_
  refine lv_iconst (v := nI 3) hx hb dL_act_42 (by decide) ?_
  refine zb_ne (tgt := 54) hx hb (by decide) (by decide) dL_act_43 (by decide) (fun c_43 => ?_) (fun c_43 => (show False by omega).elim)
  refine lv_iload_n hx hb dL_act_54 rfl (lv_at hl 1 rfl) ?_
  refine lv_iconst (v := nI 4) hx hb dL_act_55 (by decide) ?_
  refine zb_ne (tgt := 67) hx hb (by decide) (by decide) dL_act_56 (by decide) (fun c_56 => ?_) (fun c_56 => (show False by omega).elim)
  refine lv_iload_n hx hb dL_act_67 rfl (lv_at hl 1 rfl) ?_
  refine lv_iconst (v := nI 5) hx hb dL_act_68 (by decide) ?_
  refine zb_ne (tgt := 80) hx hb (by decide) (by decide) dL_act_69 (by decide) (fun c_69 => (show False by omega).elim) (fun c_69 => ?_)
  refine lv_aload_n hx hb dL_act_72 rfl (lv_at hl 0 rfl) ?_
  refine lv_iload_n hx hb dL_act_73 rfl (lv_at hl 2 rfl) ?_
  have htab : c.exceptionTable.toList = ([] : List ExceptionTableEntry) ++ ⟨0, 148, 149, 42⟩ :: [⟨0, 148, 154, 45⟩, ⟨0, 148, 159, 48⟩] := (vx_table (x := yL_act) B (hts (.codeWith yL_act cL_act 6 (some .int) [(0, 148, 149, 42), (0, 148, 154, 45), (0, 148, 159, 48)]) List.mem_cons_self)).trans rfl
  refine zx_go (kr_X3_deny_no l hfl (x := nI 1) (hn := (by omega)) (hk := (fun h => h (Or.inr (by decide)))) hx hb hml hown hts hK hP gL_act_X3_deny ⟨Nat.le_of_ble_eq_true rfl, Nat.le_of_ble_eq_true rfl⟩ ⟨Nat.le_of_ble_eq_true rfl, Nat.le_of_ble_eq_true rfl⟩ hl.1 (Nat.le_of_ble_eq_true rfl) dL_act_74 hT) (fun ce q9 H1 hz9 hk9 hce hcv hcl => ?_)
  refine vx_catch (own := RL) (name := "java/lang/IndexOutOfBoundsException") (E := "java/lang/IndexOutOfBoundsException") hown [] ⟨0, 148, 149, 42⟩ [⟨0, 148, 154, 45⟩, ⟨0, 148, 159, 48⟩] htab (fun z hz => nomatch hz) rfl (by decide) (hts (.classLink RL 42 "java/lang/IndexOutOfBoundsException") (by decide +kernel)) (va_Nw.use rfl hT.2.1.2.2) hce hcv hcl ?_
  have hS : va_S (fun _ => False) s.heap H1 [] := ⟨Nat.le_of_succ_le hz9, fun q hq _ => hk9 q hq, fun _ h => nomatch h⟩
  refine lv_astore (lv' := [(5, .ref q9), (0, .ref (ad 0)), (1, .int (nI 5)), (2, .int (nI 1)), (3, .int (nI 1)), (4, .int (nI 0))]) hx hb dL_act_149 hl (by decide) rfl (fun ls hl => ?_)
  refine lv_ldc hx hb hown (hts (.constant RL 44 (-200000001)) (by decide +kernel)) dL_act_151 ?_
  exact W.iret (v := (-200000001)) hx hb hr (fun t ht hW => ⟨⟨(-200000001), (), rfl, rfl, by show sz + 1 ≤ t.heap.size; rw [ht, ← hsz]; exact hz9⟩, hS.F ht⟩) hS.2.2 dL_act_153
section
variable {p : Program} {e : Env} {R : Room} {s : State} {m : MethodId} {args : Array Value} {below : List Frame} {meth : Method} {c : Code} {H : Heap} {locs : List Loc} {cells slots : Nat} {Q : State → Prop} {cc : ByteArray} {pc : Nat} {ls : Array Slot} {rest : List Value} {own : String} {index nL : Nat} {Ts : List Cond} {H0 : Heap} {A0 : Nat → Prop}
theorem k_act_5_1_1_0 (l : Launch) {dC : Nat → ClassId} {dI : Nat → Nat → Nat} {cI cZ : ClassId} {ad : Nat → Nat} {sm fe ex dy : Int32} {gp gc op gr st dl wo yc ya ys yd zc zp zr zs zf : Nat → Int32} {z : Nat} {zm zt : Int64} (hfl : l.stackTraces = false) (hx : p.tables.exec = Jvm.exec) (hb : c.code = cc) (hml : c.maxLocals = nL) (hown : s.vm.findClass own = some m.cls) (hts : ∀ w ∈ Ts, w.before args s = true) (hK : va_K (dC, dI) vwCl [(cI, .int), (cZ, .boolean)] s) (hP : va_P (dC, dI) vwCl (wC cI cZ ad sm fe ex dy gp gc op gr st dl wo 0 yc ya ys yd 0 zc zp zr zs zf z zm zt) H) (hg9 : GoodIn Ts (va_wsS own index yL_act wsL_act)) (hR9 : 8 + 1 ≤ R.frames ∧ 8 + (6 + 11) + 133 ≤ R.locals) (hc9 : cells + 1 ≤ R.cells ∧ slots + 6 ≤ R.slots) (hl9 : ls.size = nL) (hw9 : (rest.map fun v => v.category).sum ≤ 8) (hdg : decode cc pc = .ok (.invokestatic index, 3)) (hT : tX (fun _ => False) s H) (hN : tN s) (hS : va_S A0 H0 H locs) (kk : ∀ (H1 : Heap) (locs1 : List Loc), va_S A0 H0 H1 locs1 → H.size + 1 ≤ H1.size → (∀ q : Nat, q < H.size → H1[q]? = H[q]?) → W p l e R s m args below meth c H1 locs1 (cells + 1) (slots + 6) Q (F0 m (pc + 3) ls (.int (-200000001) :: rest))) : W p l e R s m args below meth c H locs cells slots Q (F0 m pc ls (.int (nI 0) :: .int (nI 1) :: .int (nI 1) :: .int (nI 5) :: .ref (ad 0) :: rest)) := va_calli (vx_runSW (As := [.ref (ad 0), .int (nI 5), .int (nI 1), .int (nI 1), .int (nI 0)]) (rest := rest) ⟨hx, hb, hml, hown, hts⟩ (c_act_5_1_1_0 (dC := dC) (dI := dI) (cI := cI) (cZ := cZ) (ad := ad) (sm := sm) (fe := fe) (ex := ex) (dy := dy) (gp := gp) (gc := gc) (op := op) (gr := gr) (st := st) (dl := dl) (wo := wo) (yc := yc) (ya := ya) (ys := ys) (yd := yd) (zc := zc) (zp := zp) (zr := zr) (zs := zs) (zf := zf) (z := z) (zm := zm) (zt := zt) l hfl H.size) (vx_cwSW 5 hts hg9 rfl rfl rfl (by decide +kernel) hR9) ⟨fun a U g mk q => ⟨q.1, q.2.1, va_K.moved (u := U) (U := U.calling g mk a) (Vm.Alike.refl U.vm) q.2.2.1, tX.same (u := U) (U := U.calling g mk a) rfl q.2.2.2.1, tN.moved (u := U) (U := U.calling g mk a) (Vm.Alike.refl U.vm) q.2.2.2.2.1, q.2.2.2.2.2⟩, fun U hU hW => ⟨rfl, by rw [hU]; exact hP, va_K.moved hW.alike hK, by rw [hU]; exact tX.warm hW hT, tN.moved hW.alike hN, by rw [hU]⟩⟩ rfl rfl hl9 rfl (lv_room hw9) hdg hc9) hS (fun _ _ h => h.elim) (fun _ h => h.elim) (fun r u t H1 locs1 ht _ hu hB hz hk hS1 => by subst hu; rw [ht] at hB; exact kk H1 locs1 hS1 hB (fun q hq => hk q hq (fun h => h)))
end
set_option maxHeartbeats 4000000 in
set_option maxRecDepth 100000 in
theorem c_act_6_1_1_0 (l : Launch) {dC : Nat → ClassId} {dI : Nat → Nat → Nat} {cI cZ : ClassId} {ad : Nat → Nat} {sm fe ex dy : Int32} {gp gc op gr st dl wo yc ya ys yd zc zp zr zs zf : Nat → Int32} {z : Nat} {zm zt : Int64} (hfl : l.stackTraces = false) (sz : Nat) : Met l yL_act wsL_act { frames := 8, cells := 1, slots := 6, locals := 132 } (va_Pc [.ref (ad 0), .int (nI 6), .int (nI 1), .int (nI 1), .int (nI 0)] (fun U => va_P (dC, dI) vwCl (wC cI cZ ad sm fe ex dy gp gc op gr st dl wo 0 yc ya ys yd 0 zc zp zr zs zf z zm zt) U.heap ∧ va_K (dC, dI) vwCl [(cI, .int), (cZ, .boolean)] U ∧ tX (fun _ => False) U U.heap ∧ tN U ∧ U.heap.size = sz)) (va_Qi (fun r (_ : Unit) => r = (-200000001)) (fun _ t => sz + 1 ≤ t.heap.size) (fun _ => False)) 1 6 (fun _ => False) := by
  refine va_MetW (cc := cL_act) (maxL := 6) (ret := (some .int)) (hh := [(0, 148, 149, 42), (0, 148, 154, 45), (0, 148, 159, 48)]) (by decide) rfl ?_
  intro p e s m args below meth c s₁ B hml hv
  obtain ⟨rfl, hP, hK, hT, hN, hsz⟩ := hv
  have hx := B.exec
  have hb := B.bytes
  have hr := B.returns
  have hts := atoms_spec (ws := wsL_act) B.pre
  have hown : s.vm.findClass RL = some m.cls := findClass_of_methodNamed B.named
  have hlocks := B.notSynchronized
  have hl := lv_entry ([.ref (ad 0), .int (nI 6), .int (nI 1), .int (nI 1), .int (nI 0)]) (n := 6) (Nat.le_of_ble_eq_true rfl)
  rw [lg_entry_eq]
  generalize (lg_sl ([.ref (ad 0), .int (nI 6), .int (nI 1), .int (nI 1), .int (nI 0)]) ++ List.replicate (6 - (lg_sl ([.ref (ad 0), .int (nI 6), .int (nI 1), .int (nI 1), .int (nI 0)])).length) Slot.unset).toArray = ls at hl ⊢
  have hl : lv_has ls 6 [(0, .ref (ad 0)), (1, .int (nI 6)), (2, .int (nI 1)), (3, .int (nI 1)), (4, .int (nI 0))] := hl
  refine lv_iload_n hx hb dL_act_0 rfl (lv_at hl 1 rfl) ?_
  refine zi_ne (tgt := 15) hx hb (by decide) dL_act_1 (by decide) (fun c_1 => ?_) (fun c_1 => (show False by omega).elim)
  refine lv_iload_n hx hb dL_act_15 rfl (lv_at hl 1 rfl) ?_
  refine lv_iconst (v := nI 1) hx hb dL_act_16 (by decide) ?_
  refine zb_ne (tgt := 28) hx hb (by decide) (by decide) dL_act_17 (by decide) (fun c_17 => ?_) (fun c_17 => (show False by omega).elim)
  refine lv_iload_n hx hb dL_act_28 rfl (lv_at hl 1 rfl) ?_
  refine lv_iconst (v := nI 2) hx hb dL_act_29 (by decide) ?_
  refine zb_ne (tgt := 41) hx hb (by decide) (by decide) dL_act_30 (by decide) (fun c_30 => ?_) (fun c_30 => (show False by omega).elim)
  refine lv_iload_n hx hb dL_act_41 rfl (lv_at hl 1 rfl) ?_
  refine lv_iconst (v := nI 3) hx hb dL_act_42 (by decide) ?_
  refine zb_ne (tgt := 54) hx hb (by decide) (by decide) dL_act_43 (by decide) (fun c_43 => ?_) (fun c_43 => (show False by omega).elim)
  refine lv_iload_n hx hb dL_act_54 rfl (lv_at hl 1 rfl) ?_
  refine lv_iconst (v := nI 4) hx hb dL_act_55 (by decide) ?_
  refine zb_ne (tgt := 67) hx hb (by decide) (by decide) dL_act_56 (by decide) (fun c_56 => ?_) (fun c_56 => (show False by omega).elim)
  refine lv_iload_n hx hb dL_act_67 rfl (lv_at hl 1 rfl) ?_
  refine lv_iconst (v := nI 5) hx hb dL_act_68 (by decide) ?_
  refine zb_ne (tgt := 80) hx hb (by decide) (by decide) dL_act_69 (by decide) (fun c_69 => ?_) (fun c_69 => (show False by omega).elim)
  refine lv_iload_n hx hb dL_act_80 rfl (lv_at hl 1 rfl) ?_
  refine lv_bipush (v := nI 6) hx hb dL_act_81 (by decide) ?_
  refine zb_ne (tgt := 94) hx hb (by decide) (by decide) dL_act_83 (by decide) (fun c_83 => (show False by omega).elim) (fun c_83 => ?_)
  refine lv_aload_n hx hb dL_act_86 rfl (lv_at hl 0 rfl) ?_
  refine lv_iload_n hx hb dL_act_87 rfl (lv_at hl 2 rfl) ?_
  have htab : c.exceptionTable.toList = ([] : List ExceptionTableEntry) ++ ⟨0, 148, 149, 42⟩ :: [⟨0, 148, 154, 45⟩, ⟨0, 148, 159, 48⟩] := (vx_table (x := yL_act) B (hts (.codeWith yL_act cL_act 6 (some .int) [(0, 148, 149, 42), (0, 148, 154, 45), (0, 148, 159, 48)]) List.mem_cons_self)).trans rfl
  refine zx_go (kr_X3_object_no l hfl (x := nI 1) (hn := (by omega)) (hk := (fun h => h (Or.inr (by decide)))) hx hb hml hown hts hK hP gL_act_X3_object ⟨Nat.le_of_ble_eq_true rfl, Nat.le_of_ble_eq_true rfl⟩ ⟨Nat.le_of_ble_eq_true rfl, Nat.le_of_ble_eq_true rfl⟩ hl.1 (Nat.le_of_ble_eq_true rfl) dL_act_88 hT) (fun ce q9 H1 hz9 hk9 hce hcv hcl => ?_)
  refine vx_catch (own := RL) (name := "java/lang/IndexOutOfBoundsException") (E := "java/lang/IndexOutOfBoundsException") hown [] ⟨0, 148, 149, 42⟩ [⟨0, 148, 154, 45⟩, ⟨0, 148, 159, 48⟩] htab (fun z hz => nomatch hz) rfl (by decide) (hts (.classLink RL 42 "java/lang/IndexOutOfBoundsException") (by decide +kernel)) (va_Nw.use rfl hT.2.1.2.2) hce hcv hcl ?_
  have hS : va_S (fun _ => False) s.heap H1 [] := ⟨Nat.le_of_succ_le hz9, fun q hq _ => hk9 q hq, fun _ h => nomatch h⟩
  refine lv_astore (lv' := [(5, .ref q9), (0, .ref (ad 0)), (1, .int (nI 6)), (2, .int (nI 1)), (3, .int (nI 1)), (4, .int (nI 0))]) hx hb dL_act_149 hl (by decide) rfl (fun ls hl => ?_)
  refine lv_ldc hx hb hown (hts (.constant RL 44 (-200000001)) (by decide +kernel)) dL_act_151 ?_
  exact W.iret (v := (-200000001)) hx hb hr (fun t ht hW => ⟨⟨(-200000001), (), rfl, rfl, by show sz + 1 ≤ t.heap.size; rw [ht, ← hsz]; exact hz9⟩, hS.F ht⟩) hS.2.2 dL_act_153
section
variable {p : Program} {e : Env} {R : Room} {s : State} {m : MethodId} {args : Array Value} {below : List Frame} {meth : Method} {c : Code} {H : Heap} {locs : List Loc} {cells slots : Nat} {Q : State → Prop} {cc : ByteArray} {pc : Nat} {ls : Array Slot} {rest : List Value} {own : String} {index nL : Nat} {Ts : List Cond} {H0 : Heap} {A0 : Nat → Prop}
theorem k_act_6_1_1_0 (l : Launch) {dC : Nat → ClassId} {dI : Nat → Nat → Nat} {cI cZ : ClassId} {ad : Nat → Nat} {sm fe ex dy : Int32} {gp gc op gr st dl wo yc ya ys yd zc zp zr zs zf : Nat → Int32} {z : Nat} {zm zt : Int64} (hfl : l.stackTraces = false) (hx : p.tables.exec = Jvm.exec) (hb : c.code = cc) (hml : c.maxLocals = nL) (hown : s.vm.findClass own = some m.cls) (hts : ∀ w ∈ Ts, w.before args s = true) (hK : va_K (dC, dI) vwCl [(cI, .int), (cZ, .boolean)] s) (hP : va_P (dC, dI) vwCl (wC cI cZ ad sm fe ex dy gp gc op gr st dl wo 0 yc ya ys yd 0 zc zp zr zs zf z zm zt) H) (hg9 : GoodIn Ts (va_wsS own index yL_act wsL_act)) (hR9 : 8 + 1 ≤ R.frames ∧ 8 + (6 + 11) + 132 ≤ R.locals) (hc9 : cells + 1 ≤ R.cells ∧ slots + 6 ≤ R.slots) (hl9 : ls.size = nL) (hw9 : (rest.map fun v => v.category).sum ≤ 8) (hdg : decode cc pc = .ok (.invokestatic index, 3)) (hT : tX (fun _ => False) s H) (hN : tN s) (hS : va_S A0 H0 H locs) (kk : ∀ (H1 : Heap) (locs1 : List Loc), va_S A0 H0 H1 locs1 → H.size + 1 ≤ H1.size → (∀ q : Nat, q < H.size → H1[q]? = H[q]?) → W p l e R s m args below meth c H1 locs1 (cells + 1) (slots + 6) Q (F0 m (pc + 3) ls (.int (-200000001) :: rest))) : W p l e R s m args below meth c H locs cells slots Q (F0 m pc ls (.int (nI 0) :: .int (nI 1) :: .int (nI 1) :: .int (nI 6) :: .ref (ad 0) :: rest)) := va_calli (vx_runSW (As := [.ref (ad 0), .int (nI 6), .int (nI 1), .int (nI 1), .int (nI 0)]) (rest := rest) ⟨hx, hb, hml, hown, hts⟩ (c_act_6_1_1_0 (dC := dC) (dI := dI) (cI := cI) (cZ := cZ) (ad := ad) (sm := sm) (fe := fe) (ex := ex) (dy := dy) (gp := gp) (gc := gc) (op := op) (gr := gr) (st := st) (dl := dl) (wo := wo) (yc := yc) (ya := ya) (ys := ys) (yd := yd) (zc := zc) (zp := zp) (zr := zr) (zs := zs) (zf := zf) (z := z) (zm := zm) (zt := zt) l hfl H.size) (vx_cwSW 5 hts hg9 rfl rfl rfl (by decide +kernel) hR9) ⟨fun a U g mk q => ⟨q.1, q.2.1, va_K.moved (u := U) (U := U.calling g mk a) (Vm.Alike.refl U.vm) q.2.2.1, tX.same (u := U) (U := U.calling g mk a) rfl q.2.2.2.1, tN.moved (u := U) (U := U.calling g mk a) (Vm.Alike.refl U.vm) q.2.2.2.2.1, q.2.2.2.2.2⟩, fun U hU hW => ⟨rfl, by rw [hU]; exact hP, va_K.moved hW.alike hK, by rw [hU]; exact tX.warm hW hT, tN.moved hW.alike hN, by rw [hU]⟩⟩ rfl rfl hl9 rfl (lv_room hw9) hdg hc9) hS (fun _ _ h => h.elim) (fun _ h => h.elim) (fun r u t H1 locs1 ht _ hu hB hz hk hS1 => by subst hu; rw [ht] at hB; exact kk H1 locs1 hS1 hB (fun q hq => hk q hq (fun h => h)))
end
set_option maxHeartbeats 4000000 in
set_option maxRecDepth 100000 in
theorem c_act_7_1_1_0 (l : Launch) {dC : Nat → ClassId} {dI : Nat → Nat → Nat} {cI cZ : ClassId} {ad : Nat → Nat} {sm fe ex dy : Int32} {gp gc op gr st dl wo yc ya ys yd zc zp zr zs zf : Nat → Int32} {z : Nat} {zm zt : Int64} (hfl : l.stackTraces = false) (sz : Nat) : Met l yL_act wsL_act { frames := 8, cells := 1, slots := 6, locals := 133 } (va_Pc [.ref (ad 0), .int (nI 7), .int (nI 1), .int (nI 1), .int (nI 0)] (fun U => va_P (dC, dI) vwCl (wC cI cZ ad sm fe ex dy gp gc op gr st dl wo 0 yc ya ys yd 0 zc zp zr zs zf z zm zt) U.heap ∧ va_K (dC, dI) vwCl [(cI, .int), (cZ, .boolean)] U ∧ tX (fun _ => False) U U.heap ∧ tN U ∧ U.heap.size = sz)) (va_Qi (fun r (_ : Unit) => r = (-200000001)) (fun _ t => sz + 1 ≤ t.heap.size) (fun _ => False)) 1 6 (fun _ => False) := by
  refine va_MetW (cc := cL_act) (maxL := 6) (ret := (some .int)) (hh := [(0, 148, 149, 42), (0, 148, 154, 45), (0, 148, 159, 48)]) (by decide) rfl ?_
  intro p e s m args below meth c s₁ B hml hv
  obtain ⟨rfl, hP, hK, hT, hN, hsz⟩ := hv
  have hx := B.exec
  have hb := B.bytes
  have hr := B.returns
  have hts := atoms_spec (ws := wsL_act) B.pre
  have hown : s.vm.findClass RL = some m.cls := findClass_of_methodNamed B.named
  have hlocks := B.notSynchronized
  have hl := lv_entry ([.ref (ad 0), .int (nI 7), .int (nI 1), .int (nI 1), .int (nI 0)]) (n := 6) (Nat.le_of_ble_eq_true rfl)
  rw [lg_entry_eq]
  generalize (lg_sl ([.ref (ad 0), .int (nI 7), .int (nI 1), .int (nI 1), .int (nI 0)]) ++ List.replicate (6 - (lg_sl ([.ref (ad 0), .int (nI 7), .int (nI 1), .int (nI 1), .int (nI 0)])).length) Slot.unset).toArray = ls at hl ⊢
  have hl : lv_has ls 6 [(0, .ref (ad 0)), (1, .int (nI 7)), (2, .int (nI 1)), (3, .int (nI 1)), (4, .int (nI 0))] := hl
  refine lv_iload_n hx hb dL_act_0 rfl (lv_at hl 1 rfl) ?_
  refine zi_ne (tgt := 15) hx hb (by decide) dL_act_1 (by decide) (fun c_1 => ?_) (fun c_1 => (show False by omega).elim)
  refine lv_iload_n hx hb dL_act_15 rfl (lv_at hl 1 rfl) ?_
  refine lv_iconst (v := nI 1) hx hb dL_act_16 (by decide) ?_
  refine zb_ne (tgt := 28) hx hb (by decide) (by decide) dL_act_17 (by decide) (fun c_17 => ?_) (fun c_17 => (show False by omega).elim)
  refine lv_iload_n hx hb dL_act_28 rfl (lv_at hl 1 rfl) ?_
  refine lv_iconst (v := nI 2) hx hb dL_act_29 (by decide) ?_
  refine zb_ne (tgt := 41) hx hb (by decide) (by decide) dL_act_30 (by decide) (fun c_30 => ?_) (fun c_30 => (show False by omega).elim)
  refine lv_iload_n hx hb dL_act_41 rfl (lv_at hl 1 rfl) ?_
  refine lv_iconst (v := nI 3) hx hb dL_act_42 (by decide) ?_
  refine zb_ne (tgt := 54) hx hb (by decide) (by decide) dL_act_43 (by decide) (fun c_43 => ?_) (fun c_43 => (show False by omega).elim)
  refine lv_iload_n hx hb dL_act_54 rfl (lv_at hl 1 rfl) ?_
  refine lv_iconst (v := nI 4) hx hb dL_act_55 (by decide) ?_
  refine zb_ne (tgt := 67) hx hb (by decide) (by decide) dL_act_56 (by decide) (fun c_56 => ?_) (fun c_56 => (show False by omega).elim)
  refine lv_iload_n hx hb dL_act_67 rfl (lv_at hl 1 rfl) ?_
  refine lv_iconst (v := nI 5) hx hb dL_act_68 (by decide) ?_
  refine zb_ne (tgt := 80) hx hb (by decide) (by decide) dL_act_69 (by decide) (fun c_69 => ?_) (fun c_69 => (show False by omega).elim)
  refine lv_iload_n hx hb dL_act_80 rfl (lv_at hl 1 rfl) ?_
  refine lv_bipush (v := nI 6) hx hb dL_act_81 (by decide) ?_
  refine zb_ne (tgt := 94) hx hb (by decide) (by decide) dL_act_83 (by decide) (fun c_83 => ?_) (fun c_83 => (show False by omega).elim)
  refine lv_iload_n hx hb dL_act_94 rfl (lv_at hl 1 rfl) ?_
  refine lv_bipush (v := nI 7) hx hb dL_act_95 (by decide) ?_
  refine zb_ne (tgt := 118) hx hb (by decide) (by decide) dL_act_97 (by decide) (fun c_97 => (show False by omega).elim) (fun c_97 => ?_)
  refine lv_aload_n hx hb dL_act_100 rfl (lv_at hl 0 rfl) ?_
  refine lv_iload_n hx hb dL_act_101 rfl (lv_at hl 2 rfl) ?_
  refine lv_iload_n hx hb dL_act_102 rfl (lv_at hl 3 rfl) ?_
  refine lv_iconst (v := nI 1) hx hb dL_act_103 (by decide) ?_
  refine zb_ne (tgt := 111) hx hb (by decide) (by decide) dL_act_104 (by decide) (fun c_104 => (show False by omega).elim) (fun c_104 => ?_)
  refine lv_iconst (v := nI 1) hx hb dL_act_107 (by decide) ?_
  refine lv_goto (tgt := 112) hx hb dL_act_108 (by decide) ?_
  have htab : c.exceptionTable.toList = ([] : List ExceptionTableEntry) ++ ⟨0, 148, 149, 42⟩ :: [⟨0, 148, 154, 45⟩, ⟨0, 148, 159, 48⟩] := (vx_table (x := yL_act) B (hts (.codeWith yL_act cL_act 6 (some .int) [(0, 148, 149, 42), (0, 148, 154, 45), (0, 148, 159, 48)]) List.mem_cons_self)).trans rfl
  refine zx_go (kr_X3_decide_no l hfl (x := nI 1) (hn := (by omega)) (hk := (fun h => h (Or.inr (by decide)))) (b1 := nI 1) hx hb hml hown hts hK hP gL_act_X3_decide ⟨Nat.le_of_ble_eq_true rfl, Nat.le_of_ble_eq_true rfl⟩ ⟨Nat.le_of_ble_eq_true rfl, Nat.le_of_ble_eq_true rfl⟩ hl.1 (Nat.le_of_ble_eq_true rfl) dL_act_112 hT) (fun ce q9 H1 hz9 hk9 hce hcv hcl => ?_)
  refine vx_catch (own := RL) (name := "java/lang/IndexOutOfBoundsException") (E := "java/lang/IndexOutOfBoundsException") hown [] ⟨0, 148, 149, 42⟩ [⟨0, 148, 154, 45⟩, ⟨0, 148, 159, 48⟩] htab (fun z hz => nomatch hz) rfl (by decide) (hts (.classLink RL 42 "java/lang/IndexOutOfBoundsException") (by decide +kernel)) (va_Nw.use rfl hT.2.1.2.2) hce hcv hcl ?_
  have hS : va_S (fun _ => False) s.heap H1 [] := ⟨Nat.le_of_succ_le hz9, fun q hq _ => hk9 q hq, fun _ h => nomatch h⟩
  refine lv_astore (lv' := [(5, .ref q9), (0, .ref (ad 0)), (1, .int (nI 7)), (2, .int (nI 1)), (3, .int (nI 1)), (4, .int (nI 0))]) hx hb dL_act_149 hl (by decide) rfl (fun ls hl => ?_)
  refine lv_ldc hx hb hown (hts (.constant RL 44 (-200000001)) (by decide +kernel)) dL_act_151 ?_
  exact W.iret (v := (-200000001)) hx hb hr (fun t ht hW => ⟨⟨(-200000001), (), rfl, rfl, by show sz + 1 ≤ t.heap.size; rw [ht, ← hsz]; exact hz9⟩, hS.F ht⟩) hS.2.2 dL_act_153
section
variable {p : Program} {e : Env} {R : Room} {s : State} {m : MethodId} {args : Array Value} {below : List Frame} {meth : Method} {c : Code} {H : Heap} {locs : List Loc} {cells slots : Nat} {Q : State → Prop} {cc : ByteArray} {pc : Nat} {ls : Array Slot} {rest : List Value} {own : String} {index nL : Nat} {Ts : List Cond} {H0 : Heap} {A0 : Nat → Prop}
theorem k_act_7_1_1_0 (l : Launch) {dC : Nat → ClassId} {dI : Nat → Nat → Nat} {cI cZ : ClassId} {ad : Nat → Nat} {sm fe ex dy : Int32} {gp gc op gr st dl wo yc ya ys yd zc zp zr zs zf : Nat → Int32} {z : Nat} {zm zt : Int64} (hfl : l.stackTraces = false) (hx : p.tables.exec = Jvm.exec) (hb : c.code = cc) (hml : c.maxLocals = nL) (hown : s.vm.findClass own = some m.cls) (hts : ∀ w ∈ Ts, w.before args s = true) (hK : va_K (dC, dI) vwCl [(cI, .int), (cZ, .boolean)] s) (hP : va_P (dC, dI) vwCl (wC cI cZ ad sm fe ex dy gp gc op gr st dl wo 0 yc ya ys yd 0 zc zp zr zs zf z zm zt) H) (hg9 : GoodIn Ts (va_wsS own index yL_act wsL_act)) (hR9 : 8 + 1 ≤ R.frames ∧ 8 + (6 + 11) + 133 ≤ R.locals) (hc9 : cells + 1 ≤ R.cells ∧ slots + 6 ≤ R.slots) (hl9 : ls.size = nL) (hw9 : (rest.map fun v => v.category).sum ≤ 8) (hdg : decode cc pc = .ok (.invokestatic index, 3)) (hT : tX (fun _ => False) s H) (hN : tN s) (hS : va_S A0 H0 H locs) (kk : ∀ (H1 : Heap) (locs1 : List Loc), va_S A0 H0 H1 locs1 → H.size + 1 ≤ H1.size → (∀ q : Nat, q < H.size → H1[q]? = H[q]?) → W p l e R s m args below meth c H1 locs1 (cells + 1) (slots + 6) Q (F0 m (pc + 3) ls (.int (-200000001) :: rest))) : W p l e R s m args below meth c H locs cells slots Q (F0 m pc ls (.int (nI 0) :: .int (nI 1) :: .int (nI 1) :: .int (nI 7) :: .ref (ad 0) :: rest)) := va_calli (vx_runSW (As := [.ref (ad 0), .int (nI 7), .int (nI 1), .int (nI 1), .int (nI 0)]) (rest := rest) ⟨hx, hb, hml, hown, hts⟩ (c_act_7_1_1_0 (dC := dC) (dI := dI) (cI := cI) (cZ := cZ) (ad := ad) (sm := sm) (fe := fe) (ex := ex) (dy := dy) (gp := gp) (gc := gc) (op := op) (gr := gr) (st := st) (dl := dl) (wo := wo) (yc := yc) (ya := ya) (ys := ys) (yd := yd) (zc := zc) (zp := zp) (zr := zr) (zs := zs) (zf := zf) (z := z) (zm := zm) (zt := zt) l hfl H.size) (vx_cwSW 5 hts hg9 rfl rfl rfl (by decide +kernel) hR9) ⟨fun a U g mk q => ⟨q.1, q.2.1, va_K.moved (u := U) (U := U.calling g mk a) (Vm.Alike.refl U.vm) q.2.2.1, tX.same (u := U) (U := U.calling g mk a) rfl q.2.2.2.1, tN.moved (u := U) (U := U.calling g mk a) (Vm.Alike.refl U.vm) q.2.2.2.2.1, q.2.2.2.2.2⟩, fun U hU hW => ⟨rfl, by rw [hU]; exact hP, va_K.moved hW.alike hK, by rw [hU]; exact tX.warm hW hT, tN.moved hW.alike hN, by rw [hU]⟩⟩ rfl rfl hl9 rfl (lv_room hw9) hdg hc9) hS (fun _ _ h => h.elim) (fun _ h => h.elim) (fun r u t H1 locs1 ht _ hu hB hz hk hS1 => by subst hu; rw [ht] at hB; exact kk H1 locs1 hS1 hB (fun q hq => hk q hq (fun h => h)))
end
set_option maxHeartbeats 4000000 in
set_option maxRecDepth 100000 in
theorem c_of_0_31_m1 (l : Launch) {dC : Nat → ClassId} {dI : Nat → Nat → Nat} {cI cZ : ClassId} {ad : Nat → Nat} {sm fe ex dy : Int32} {gp gc op gr st dl wo yc ya ys yd zc zp zr zs zf : Nat → Int32} {z : Nat} {zm zt : Int64} (hfl : l.stackTraces = false) (sz : Nat) : Met l yL_of wsL_of { frames := 7, cells := 1, slots := 6, locals := 111 } (va_Pc [.ref (ad 0), .int (nI 0), .int (nI 31), .int (-1)] (fun U => va_P (dC, dI) vwCl (wC cI cZ ad sm fe ex dy gp gc op gr st dl wo 0 yc ya ys yd 0 zc zp zr zs zf z zm zt) U.heap ∧ va_K (dC, dI) vwCl [(cI, .int), (cZ, .boolean)] U ∧ tX (fun _ => False) U U.heap ∧ tN U ∧ U.heap.size = sz)) (va_Qi (fun r (_ : Unit) => r = (-200000001)) (fun _ t => sz + 1 ≤ t.heap.size) (fun _ => False)) 1 6 (fun _ => False) := by
  refine va_MetW (cc := cL_of) (maxL := 5) (ret := (some .int)) (hh := [(0, 140, 141, 42), (0, 140, 146, 45)]) (by decide) rfl ?_
  intro p e s m args below meth c s₁ B hml hv
  obtain ⟨rfl, hP, hK, hT, hN, hsz⟩ := hv
  have hx := B.exec
  have hb := B.bytes
  have hr := B.returns
  have hts := atoms_spec (ws := wsL_of) B.pre
  have hown : s.vm.findClass RL = some m.cls := findClass_of_methodNamed B.named
  have hlocks := B.notSynchronized
  have hl := lv_entry ([.ref (ad 0), .int (nI 0), .int (nI 31), .int (-1)]) (n := 5) (Nat.le_of_ble_eq_true rfl)
  rw [lg_entry_eq]
  generalize (lg_sl ([.ref (ad 0), .int (nI 0), .int (nI 31), .int (-1)]) ++ List.replicate (5 - (lg_sl ([.ref (ad 0), .int (nI 0), .int (nI 31), .int (-1)])).length) Slot.unset).toArray = ls at hl ⊢
  have hl : lv_has ls 5 [(0, .ref (ad 0)), (1, .int (nI 0)), (2, .int (nI 31)), (3, .int (-1))] := hl
  refine lv_iload_n hx hb dL_of_0 rfl (lv_at hl 1 rfl) ?_
  refine zi_ne (tgt := 12) hx hb (by decide) dL_of_1 (by decide) (fun c_1 => (show False by omega).elim) (fun c_1 => ?_)
  refine lv_aload_n hx hb dL_of_4 rfl (lv_at hl 0 rfl) ?_
  refine lv_iload_n hx hb dL_of_5 rfl (lv_at hl 2 rfl) ?_
  have htab : c.exceptionTable.toList = ([] : List ExceptionTableEntry) ++ ⟨0, 140, 141, 42⟩ :: [⟨0, 140, 146, 45⟩] := (vx_table (x := yL_of) B (hts (.codeWith yL_of cL_of 5 (some .int) [(0, 140, 141, 42), (0, 140, 146, 45)]) List.mem_cons_self)).trans rfl
  refine zx_go (kr_X3_claimOf_no l hfl (x := nI 31) (h1 := (by decide)) hx hb hml hown hts hK hP gL_of_X3_claimOf ⟨Nat.le_of_ble_eq_true rfl, Nat.le_of_ble_eq_true rfl⟩ ⟨Nat.le_of_ble_eq_true rfl, Nat.le_of_ble_eq_true rfl⟩ hl.1 (Nat.le_of_ble_eq_true rfl) dL_of_6 hT) (fun ce q9 H1 hz9 hk9 hce hcv hcl => ?_)
  refine vx_catch (own := RL) (name := "java/lang/IndexOutOfBoundsException") (E := "java/lang/IndexOutOfBoundsException") hown [] ⟨0, 140, 141, 42⟩ [⟨0, 140, 146, 45⟩] htab (fun z hz => nomatch hz) rfl (by decide) (hts (.classLink RL 42 "java/lang/IndexOutOfBoundsException") (by decide +kernel)) (va_Nw.use rfl hT.2.1.2.2) hce hcv hcl ?_
  have hS : va_S (fun _ => False) s.heap H1 [] := ⟨Nat.le_of_succ_le hz9, fun q hq _ => hk9 q hq, fun _ h => nomatch h⟩
  refine lv_astore (lv' := [(4, .ref q9), (0, .ref (ad 0)), (1, .int (nI 0)), (2, .int (nI 31)), (3, .int (-1))]) hx hb dL_of_141 hl (by decide) rfl (fun ls hl => ?_)
  refine lv_ldc hx hb hown (hts (.constant RL 44 (-200000001)) (by decide +kernel)) dL_of_143 ?_
  exact W.iret (v := (-200000001)) hx hb hr (fun t ht hW => ⟨⟨(-200000001), (), rfl, rfl, by show sz + 1 ≤ t.heap.size; rw [ht, ← hsz]; exact hz9⟩, hS.F ht⟩) hS.2.2 dL_of_145
section
variable {p : Program} {e : Env} {R : Room} {s : State} {m : MethodId} {args : Array Value} {below : List Frame} {meth : Method} {c : Code} {H : Heap} {locs : List Loc} {cells slots : Nat} {Q : State → Prop} {cc : ByteArray} {pc : Nat} {ls : Array Slot} {rest : List Value} {own : String} {index nL : Nat} {Ts : List Cond} {H0 : Heap} {A0 : Nat → Prop}
theorem k_of_0_31_m1 (l : Launch) {dC : Nat → ClassId} {dI : Nat → Nat → Nat} {cI cZ : ClassId} {ad : Nat → Nat} {sm fe ex dy : Int32} {gp gc op gr st dl wo yc ya ys yd zc zp zr zs zf : Nat → Int32} {z : Nat} {zm zt : Int64} (hfl : l.stackTraces = false) (hx : p.tables.exec = Jvm.exec) (hb : c.code = cc) (hml : c.maxLocals = nL) (hown : s.vm.findClass own = some m.cls) (hts : ∀ w ∈ Ts, w.before args s = true) (hK : va_K (dC, dI) vwCl [(cI, .int), (cZ, .boolean)] s) (hP : va_P (dC, dI) vwCl (wC cI cZ ad sm fe ex dy gp gc op gr st dl wo 0 yc ya ys yd 0 zc zp zr zs zf z zm zt) H) (hg9 : GoodIn Ts (va_wsS own index yL_of wsL_of)) (hR9 : 7 + 1 ≤ R.frames ∧ 8 + (5 + 11) + 111 ≤ R.locals) (hc9 : cells + 1 ≤ R.cells ∧ slots + 6 ≤ R.slots) (hl9 : ls.size = nL) (hw9 : (rest.map fun v => v.category).sum ≤ 8) (hdg : decode cc pc = .ok (.invokestatic index, 3)) (hT : tX (fun _ => False) s H) (hN : tN s) (hS : va_S A0 H0 H locs) (kk : ∀ (H1 : Heap) (locs1 : List Loc), va_S A0 H0 H1 locs1 → H.size + 1 ≤ H1.size → (∀ q : Nat, q < H.size → H1[q]? = H[q]?) → W p l e R s m args below meth c H1 locs1 (cells + 1) (slots + 6) Q (F0 m (pc + 3) ls (.int (-200000001) :: rest))) : W p l e R s m args below meth c H locs cells slots Q (F0 m pc ls (.int (-1) :: .int (nI 31) :: .int (nI 0) :: .ref (ad 0) :: rest)) := va_calli (vx_runSW (As := [.ref (ad 0), .int (nI 0), .int (nI 31), .int (-1)]) (rest := rest) ⟨hx, hb, hml, hown, hts⟩ (c_of_0_31_m1 (dC := dC) (dI := dI) (cI := cI) (cZ := cZ) (ad := ad) (sm := sm) (fe := fe) (ex := ex) (dy := dy) (gp := gp) (gc := gc) (op := op) (gr := gr) (st := st) (dl := dl) (wo := wo) (yc := yc) (ya := ya) (ys := ys) (yd := yd) (zc := zc) (zp := zp) (zr := zr) (zs := zs) (zf := zf) (z := z) (zm := zm) (zt := zt) l hfl H.size) (vx_cwSW 4 hts hg9 rfl rfl rfl (by decide +kernel) hR9) ⟨fun a U g mk q => ⟨q.1, q.2.1, va_K.moved (u := U) (U := U.calling g mk a) (Vm.Alike.refl U.vm) q.2.2.1, tX.same (u := U) (U := U.calling g mk a) rfl q.2.2.2.1, tN.moved (u := U) (U := U.calling g mk a) (Vm.Alike.refl U.vm) q.2.2.2.2.1, q.2.2.2.2.2⟩, fun U hU hW => ⟨rfl, by rw [hU]; exact hP, va_K.moved hW.alike hK, by rw [hU]; exact tX.warm hW hT, tN.moved hW.alike hN, by rw [hU]⟩⟩ rfl rfl hl9 rfl (lv_room hw9) hdg hc9) hS (fun _ _ h => h.elim) (fun _ h => h.elim) (fun r u t H1 locs1 ht _ hu hB hz hk hS1 => by subst hu; rw [ht] at hB; exact kk H1 locs1 hS1 hB (fun q hq => hk q hq (fun h => h)))
end
set_option maxHeartbeats 4000000 in
set_option maxRecDepth 100000 in
theorem c_of_1_1_m1 (l : Launch) {dC : Nat → ClassId} {dI : Nat → Nat → Nat} {cI cZ : ClassId} {ad : Nat → Nat} {sm fe ex dy : Int32} {gp gc op gr st dl wo yc ya ys yd zc zp zr zs zf : Nat → Int32} {z : Nat} {zm zt : Int64} (hfl : l.stackTraces = false) (sz : Nat) : Met l yL_of wsL_of { frames := 8, cells := 1, slots := 6, locals := 132 } (va_Pc [.ref (ad 0), .int (nI 1), .int (nI 1), .int (-1)] (fun U => va_P (dC, dI) vwCl (wC cI cZ ad sm fe ex dy gp gc op gr st dl wo 0 yc ya ys yd 0 zc zp zr zs zf z zm zt) U.heap ∧ va_K (dC, dI) vwCl [(cI, .int), (cZ, .boolean)] U ∧ tX (fun _ => False) U U.heap ∧ tN U ∧ U.heap.size = sz)) (va_Qi (fun r (_ : Unit) => r = (-200000001)) (fun _ t => sz + 1 ≤ t.heap.size) (fun _ => False)) 1 6 (fun _ => False) := by
  refine va_MetW (cc := cL_of) (maxL := 5) (ret := (some .int)) (hh := [(0, 140, 141, 42), (0, 140, 146, 45)]) (by decide) rfl ?_
  intro p e s m args below meth c s₁ B hml hv
  obtain ⟨rfl, hP, hK, hT, hN, hsz⟩ := hv
  have hx := B.exec
  have hb := B.bytes
  have hr := B.returns
  have hts := atoms_spec (ws := wsL_of) B.pre
  have hown : s.vm.findClass RL = some m.cls := findClass_of_methodNamed B.named
  have hlocks := B.notSynchronized
  have hl := lv_entry ([.ref (ad 0), .int (nI 1), .int (nI 1), .int (-1)]) (n := 5) (Nat.le_of_ble_eq_true rfl)
  rw [lg_entry_eq]
  generalize (lg_sl ([.ref (ad 0), .int (nI 1), .int (nI 1), .int (-1)]) ++ List.replicate (5 - (lg_sl ([.ref (ad 0), .int (nI 1), .int (nI 1), .int (-1)])).length) Slot.unset).toArray = ls at hl ⊢
  have hl : lv_has ls 5 [(0, .ref (ad 0)), (1, .int (nI 1)), (2, .int (nI 1)), (3, .int (-1))] := hl
  refine lv_iload_n hx hb dL_of_0 rfl (lv_at hl 1 rfl) ?_
  refine zi_ne (tgt := 12) hx hb (by decide) dL_of_1 (by decide) (fun c_1 => ?_) (fun c_1 => (show False by omega).elim)
  refine lv_iload_n hx hb dL_of_12 rfl (lv_at hl 1 rfl) ?_
  refine lv_iconst (v := nI 1) hx hb dL_of_13 (by decide) ?_
  refine zb_ne (tgt := 25) hx hb (by decide) (by decide) dL_of_14 (by decide) (fun c_14 => (show False by omega).elim) (fun c_14 => ?_)
  refine lv_aload_n hx hb dL_of_17 rfl (lv_at hl 0 rfl) ?_
  refine lv_iload_n hx hb dL_of_18 rfl (lv_at hl 2 rfl) ?_
  have htab : c.exceptionTable.toList = ([] : List ExceptionTableEntry) ++ ⟨0, 140, 141, 42⟩ :: [⟨0, 140, 146, 45⟩] := (vx_table (x := yL_of) B (hts (.codeWith yL_of cL_of 5 (some .int) [(0, 140, 141, 42), (0, 140, 146, 45)]) List.mem_cons_self)).trans rfl
  refine zx_go (kr_X3_stateOf_no l hfl (x := nI 1) (hn := (by omega)) (hk := (fun h => h (Or.inr (by decide)))) hx hb hml hown hts hK hP gL_of_X3_stateOf ⟨Nat.le_of_ble_eq_true rfl, Nat.le_of_ble_eq_true rfl⟩ ⟨Nat.le_of_ble_eq_true rfl, Nat.le_of_ble_eq_true rfl⟩ hl.1 (Nat.le_of_ble_eq_true rfl) dL_of_19 hT) (fun ce q9 H1 hz9 hk9 hce hcv hcl => ?_)
  refine vx_catch (own := RL) (name := "java/lang/IndexOutOfBoundsException") (E := "java/lang/IndexOutOfBoundsException") hown [] ⟨0, 140, 141, 42⟩ [⟨0, 140, 146, 45⟩] htab (fun z hz => nomatch hz) rfl (by decide) (hts (.classLink RL 42 "java/lang/IndexOutOfBoundsException") (by decide +kernel)) (va_Nw.use rfl hT.2.1.2.2) hce hcv hcl ?_
  have hS : va_S (fun _ => False) s.heap H1 [] := ⟨Nat.le_of_succ_le hz9, fun q hq _ => hk9 q hq, fun _ h => nomatch h⟩
  refine lv_astore (lv' := [(4, .ref q9), (0, .ref (ad 0)), (1, .int (nI 1)), (2, .int (nI 1)), (3, .int (-1))]) hx hb dL_of_141 hl (by decide) rfl (fun ls hl => ?_)
  refine lv_ldc hx hb hown (hts (.constant RL 44 (-200000001)) (by decide +kernel)) dL_of_143 ?_
  exact W.iret (v := (-200000001)) hx hb hr (fun t ht hW => ⟨⟨(-200000001), (), rfl, rfl, by show sz + 1 ≤ t.heap.size; rw [ht, ← hsz]; exact hz9⟩, hS.F ht⟩) hS.2.2 dL_of_145
section
variable {p : Program} {e : Env} {R : Room} {s : State} {m : MethodId} {args : Array Value} {below : List Frame} {meth : Method} {c : Code} {H : Heap} {locs : List Loc} {cells slots : Nat} {Q : State → Prop} {cc : ByteArray} {pc : Nat} {ls : Array Slot} {rest : List Value} {own : String} {index nL : Nat} {Ts : List Cond} {H0 : Heap} {A0 : Nat → Prop}
theorem k_of_1_1_m1 (l : Launch) {dC : Nat → ClassId} {dI : Nat → Nat → Nat} {cI cZ : ClassId} {ad : Nat → Nat} {sm fe ex dy : Int32} {gp gc op gr st dl wo yc ya ys yd zc zp zr zs zf : Nat → Int32} {z : Nat} {zm zt : Int64} (hfl : l.stackTraces = false) (hx : p.tables.exec = Jvm.exec) (hb : c.code = cc) (hml : c.maxLocals = nL) (hown : s.vm.findClass own = some m.cls) (hts : ∀ w ∈ Ts, w.before args s = true) (hK : va_K (dC, dI) vwCl [(cI, .int), (cZ, .boolean)] s) (hP : va_P (dC, dI) vwCl (wC cI cZ ad sm fe ex dy gp gc op gr st dl wo 0 yc ya ys yd 0 zc zp zr zs zf z zm zt) H) (hg9 : GoodIn Ts (va_wsS own index yL_of wsL_of)) (hR9 : 8 + 1 ≤ R.frames ∧ 8 + (5 + 11) + 132 ≤ R.locals) (hc9 : cells + 1 ≤ R.cells ∧ slots + 6 ≤ R.slots) (hl9 : ls.size = nL) (hw9 : (rest.map fun v => v.category).sum ≤ 8) (hdg : decode cc pc = .ok (.invokestatic index, 3)) (hT : tX (fun _ => False) s H) (hN : tN s) (hS : va_S A0 H0 H locs) (kk : ∀ (H1 : Heap) (locs1 : List Loc), va_S A0 H0 H1 locs1 → H.size + 1 ≤ H1.size → (∀ q : Nat, q < H.size → H1[q]? = H[q]?) → W p l e R s m args below meth c H1 locs1 (cells + 1) (slots + 6) Q (F0 m (pc + 3) ls (.int (-200000001) :: rest))) : W p l e R s m args below meth c H locs cells slots Q (F0 m pc ls (.int (-1) :: .int (nI 1) :: .int (nI 1) :: .ref (ad 0) :: rest)) := va_calli (vx_runSW (As := [.ref (ad 0), .int (nI 1), .int (nI 1), .int (-1)]) (rest := rest) ⟨hx, hb, hml, hown, hts⟩ (c_of_1_1_m1 (dC := dC) (dI := dI) (cI := cI) (cZ := cZ) (ad := ad) (sm := sm) (fe := fe) (ex := ex) (dy := dy) (gp := gp) (gc := gc) (op := op) (gr := gr) (st := st) (dl := dl) (wo := wo) (yc := yc) (ya := ya) (ys := ys) (yd := yd) (zc := zc) (zp := zp) (zr := zr) (zs := zs) (zf := zf) (z := z) (zm := zm) (zt := zt) l hfl H.size) (vx_cwSW 4 hts hg9 rfl rfl rfl (by decide +kernel) hR9) ⟨fun a U g mk q => ⟨q.1, q.2.1, va_K.moved (u := U) (U := U.calling g mk a) (Vm.Alike.refl U.vm) q.2.2.1, tX.same (u := U) (U := U.calling g mk a) rfl q.2.2.2.1, tN.moved (u := U) (U := U.calling g mk a) (Vm.Alike.refl U.vm) q.2.2.2.2.1, q.2.2.2.2.2⟩, fun U hU hW => ⟨rfl, by rw [hU]; exact hP, va_K.moved hW.alike hK, by rw [hU]; exact tX.warm hW hT, tN.moved hW.alike hN, by rw [hU]⟩⟩ rfl rfl hl9 rfl (lv_room hw9) hdg hc9) hS (fun _ _ h => h.elim) (fun _ h => h.elim) (fun r u t H1 locs1 ht _ hu hB hz hk hS1 => by subst hu; rw [ht] at hB; exact kk H1 locs1 hS1 hB (fun q hq => hk q hq (fun h => h)))
end
set_option maxHeartbeats 4000000 in
set_option maxRecDepth 100000 in
theorem c_of_2_1_m1 (l : Launch) {dC : Nat → ClassId} {dI : Nat → Nat → Nat} {cI cZ : ClassId} {ad : Nat → Nat} {sm fe ex dy : Int32} {gp gc op gr st dl wo yc ya ys yd zc zp zr zs zf : Nat → Int32} {z : Nat} {zm zt : Int64} (hfl : l.stackTraces = false) (sz : Nat) : Met l yL_of wsL_of { frames := 8, cells := 1, slots := 6, locals := 132 } (va_Pc [.ref (ad 0), .int (nI 2), .int (nI 1), .int (-1)] (fun U => va_P (dC, dI) vwCl (wC cI cZ ad sm fe ex dy gp gc op gr st dl wo 0 yc ya ys yd 0 zc zp zr zs zf z zm zt) U.heap ∧ va_K (dC, dI) vwCl [(cI, .int), (cZ, .boolean)] U ∧ tX (fun _ => False) U U.heap ∧ tN U ∧ U.heap.size = sz)) (va_Qi (fun r (_ : Unit) => r = (-200000001)) (fun _ t => sz + 1 ≤ t.heap.size) (fun _ => False)) 1 6 (fun _ => False) := by
  refine va_MetW (cc := cL_of) (maxL := 5) (ret := (some .int)) (hh := [(0, 140, 141, 42), (0, 140, 146, 45)]) (by decide) rfl ?_
  intro p e s m args below meth c s₁ B hml hv
  obtain ⟨rfl, hP, hK, hT, hN, hsz⟩ := hv
  have hx := B.exec
  have hb := B.bytes
  have hr := B.returns
  have hts := atoms_spec (ws := wsL_of) B.pre
  have hown : s.vm.findClass RL = some m.cls := findClass_of_methodNamed B.named
  have hlocks := B.notSynchronized
  have hl := lv_entry ([.ref (ad 0), .int (nI 2), .int (nI 1), .int (-1)]) (n := 5) (Nat.le_of_ble_eq_true rfl)
  rw [lg_entry_eq]
  generalize (lg_sl ([.ref (ad 0), .int (nI 2), .int (nI 1), .int (-1)]) ++ List.replicate (5 - (lg_sl ([.ref (ad 0), .int (nI 2), .int (nI 1), .int (-1)])).length) Slot.unset).toArray = ls at hl ⊢
  have hl : lv_has ls 5 [(0, .ref (ad 0)), (1, .int (nI 2)), (2, .int (nI 1)), (3, .int (-1))] := hl
  refine lv_iload_n hx hb dL_of_0 rfl (lv_at hl 1 rfl) ?_
  refine zi_ne (tgt := 12) hx hb (by decide) dL_of_1 (by decide) (fun c_1 => ?_) (fun c_1 => (show False by omega).elim)
  refine lv_iload_n hx hb dL_of_12 rfl (lv_at hl 1 rfl) ?_
  refine lv_iconst (v := nI 1) hx hb dL_of_13 (by decide) ?_
  refine zb_ne (tgt := 25) hx hb (by decide) (by decide) dL_of_14 (by decide) (fun c_14 => ?_) (fun c_14 => (show False by omega).elim)
  refine lv_iload_n hx hb dL_of_25 rfl (lv_at hl 1 rfl) ?_
  refine lv_iconst (v := nI 2) hx hb dL_of_26 (by decide) ?_
  refine zb_ne (tgt := 38) hx hb (by decide) (by decide) dL_of_27 (by decide) (fun c_27 => (show False by omega).elim) (fun c_27 => ?_)
  refine lv_aload_n hx hb dL_of_30 rfl (lv_at hl 0 rfl) ?_
  refine lv_iload_n hx hb dL_of_31 rfl (lv_at hl 2 rfl) ?_
  have htab : c.exceptionTable.toList = ([] : List ExceptionTableEntry) ++ ⟨0, 140, 141, 42⟩ :: [⟨0, 140, 146, 45⟩] := (vx_table (x := yL_of) B (hts (.codeWith yL_of cL_of 5 (some .int) [(0, 140, 141, 42), (0, 140, 146, 45)]) List.mem_cons_self)).trans rfl
  refine zx_go (kr_X3_gradeOf_no l hfl (x := nI 1) (hn := (by omega)) (hk := (fun h => h (Or.inr (by decide)))) hx hb hml hown hts hK hP gL_of_X3_gradeOf ⟨Nat.le_of_ble_eq_true rfl, Nat.le_of_ble_eq_true rfl⟩ ⟨Nat.le_of_ble_eq_true rfl, Nat.le_of_ble_eq_true rfl⟩ hl.1 (Nat.le_of_ble_eq_true rfl) dL_of_32 hT) (fun ce q9 H1 hz9 hk9 hce hcv hcl => ?_)
  refine vx_catch (own := RL) (name := "java/lang/IndexOutOfBoundsException") (E := "java/lang/IndexOutOfBoundsException") hown [] ⟨0, 140, 141, 42⟩ [⟨0, 140, 146, 45⟩] htab (fun z hz => nomatch hz) rfl (by decide) (hts (.classLink RL 42 "java/lang/IndexOutOfBoundsException") (by decide +kernel)) (va_Nw.use rfl hT.2.1.2.2) hce hcv hcl ?_
  have hS : va_S (fun _ => False) s.heap H1 [] := ⟨Nat.le_of_succ_le hz9, fun q hq _ => hk9 q hq, fun _ h => nomatch h⟩
  refine lv_astore (lv' := [(4, .ref q9), (0, .ref (ad 0)), (1, .int (nI 2)), (2, .int (nI 1)), (3, .int (-1))]) hx hb dL_of_141 hl (by decide) rfl (fun ls hl => ?_)
  refine lv_ldc hx hb hown (hts (.constant RL 44 (-200000001)) (by decide +kernel)) dL_of_143 ?_
  exact W.iret (v := (-200000001)) hx hb hr (fun t ht hW => ⟨⟨(-200000001), (), rfl, rfl, by show sz + 1 ≤ t.heap.size; rw [ht, ← hsz]; exact hz9⟩, hS.F ht⟩) hS.2.2 dL_of_145
section
variable {p : Program} {e : Env} {R : Room} {s : State} {m : MethodId} {args : Array Value} {below : List Frame} {meth : Method} {c : Code} {H : Heap} {locs : List Loc} {cells slots : Nat} {Q : State → Prop} {cc : ByteArray} {pc : Nat} {ls : Array Slot} {rest : List Value} {own : String} {index nL : Nat} {Ts : List Cond} {H0 : Heap} {A0 : Nat → Prop}
theorem k_of_2_1_m1 (l : Launch) {dC : Nat → ClassId} {dI : Nat → Nat → Nat} {cI cZ : ClassId} {ad : Nat → Nat} {sm fe ex dy : Int32} {gp gc op gr st dl wo yc ya ys yd zc zp zr zs zf : Nat → Int32} {z : Nat} {zm zt : Int64} (hfl : l.stackTraces = false) (hx : p.tables.exec = Jvm.exec) (hb : c.code = cc) (hml : c.maxLocals = nL) (hown : s.vm.findClass own = some m.cls) (hts : ∀ w ∈ Ts, w.before args s = true) (hK : va_K (dC, dI) vwCl [(cI, .int), (cZ, .boolean)] s) (hP : va_P (dC, dI) vwCl (wC cI cZ ad sm fe ex dy gp gc op gr st dl wo 0 yc ya ys yd 0 zc zp zr zs zf z zm zt) H) (hg9 : GoodIn Ts (va_wsS own index yL_of wsL_of)) (hR9 : 8 + 1 ≤ R.frames ∧ 8 + (5 + 11) + 132 ≤ R.locals) (hc9 : cells + 1 ≤ R.cells ∧ slots + 6 ≤ R.slots) (hl9 : ls.size = nL) (hw9 : (rest.map fun v => v.category).sum ≤ 8) (hdg : decode cc pc = .ok (.invokestatic index, 3)) (hT : tX (fun _ => False) s H) (hN : tN s) (hS : va_S A0 H0 H locs) (kk : ∀ (H1 : Heap) (locs1 : List Loc), va_S A0 H0 H1 locs1 → H.size + 1 ≤ H1.size → (∀ q : Nat, q < H.size → H1[q]? = H[q]?) → W p l e R s m args below meth c H1 locs1 (cells + 1) (slots + 6) Q (F0 m (pc + 3) ls (.int (-200000001) :: rest))) : W p l e R s m args below meth c H locs cells slots Q (F0 m pc ls (.int (-1) :: .int (nI 1) :: .int (nI 2) :: .ref (ad 0) :: rest)) := va_calli (vx_runSW (As := [.ref (ad 0), .int (nI 2), .int (nI 1), .int (-1)]) (rest := rest) ⟨hx, hb, hml, hown, hts⟩ (c_of_2_1_m1 (dC := dC) (dI := dI) (cI := cI) (cZ := cZ) (ad := ad) (sm := sm) (fe := fe) (ex := ex) (dy := dy) (gp := gp) (gc := gc) (op := op) (gr := gr) (st := st) (dl := dl) (wo := wo) (yc := yc) (ya := ya) (ys := ys) (yd := yd) (zc := zc) (zp := zp) (zr := zr) (zs := zs) (zf := zf) (z := z) (zm := zm) (zt := zt) l hfl H.size) (vx_cwSW 4 hts hg9 rfl rfl rfl (by decide +kernel) hR9) ⟨fun a U g mk q => ⟨q.1, q.2.1, va_K.moved (u := U) (U := U.calling g mk a) (Vm.Alike.refl U.vm) q.2.2.1, tX.same (u := U) (U := U.calling g mk a) rfl q.2.2.2.1, tN.moved (u := U) (U := U.calling g mk a) (Vm.Alike.refl U.vm) q.2.2.2.2.1, q.2.2.2.2.2⟩, fun U hU hW => ⟨rfl, by rw [hU]; exact hP, va_K.moved hW.alike hK, by rw [hU]; exact tX.warm hW hT, tN.moved hW.alike hN, by rw [hU]⟩⟩ rfl rfl hl9 rfl (lv_room hw9) hdg hc9) hS (fun _ _ h => h.elim) (fun _ h => h.elim) (fun r u t H1 locs1 ht _ hu hB hz hk hS1 => by subst hu; rw [ht] at hB; exact kk H1 locs1 hS1 hB (fun q hq => hk q hq (fun h => h)))
end
set_option maxHeartbeats 4000000 in
set_option maxRecDepth 100000 in
theorem c_of_3_1_m1 (l : Launch) {dC : Nat → ClassId} {dI : Nat → Nat → Nat} {cI cZ : ClassId} {ad : Nat → Nat} {sm fe ex dy : Int32} {gp gc op gr st dl wo yc ya ys yd zc zp zr zs zf : Nat → Int32} {z : Nat} {zm zt : Int64} (hfl : l.stackTraces = false) (sz : Nat) : Met l yL_of wsL_of { frames := 8, cells := 1, slots := 6, locals := 133 } (va_Pc [.ref (ad 0), .int (nI 3), .int (nI 1), .int (-1)] (fun U => va_P (dC, dI) vwCl (wC cI cZ ad sm fe ex dy gp gc op gr st dl wo 0 yc ya ys yd 0 zc zp zr zs zf z zm zt) U.heap ∧ va_K (dC, dI) vwCl [(cI, .int), (cZ, .boolean)] U ∧ tX (fun _ => False) U U.heap ∧ tN U ∧ U.heap.size = sz)) (va_Qi (fun r (_ : Unit) => r = (-200000001)) (fun _ t => sz + 1 ≤ t.heap.size) (fun _ => False)) 1 6 (fun _ => False) := by
  refine va_MetW (cc := cL_of) (maxL := 5) (ret := (some .int)) (hh := [(0, 140, 141, 42), (0, 140, 146, 45)]) (by decide) rfl ?_
  intro p e s m args below meth c s₁ B hml hv
  obtain ⟨rfl, hP, hK, hT, hN, hsz⟩ := hv
  have hx := B.exec
  have hb := B.bytes
  have hr := B.returns
  have hts := atoms_spec (ws := wsL_of) B.pre
  have hown : s.vm.findClass RL = some m.cls := findClass_of_methodNamed B.named
  have hlocks := B.notSynchronized
  have hl := lv_entry ([.ref (ad 0), .int (nI 3), .int (nI 1), .int (-1)]) (n := 5) (Nat.le_of_ble_eq_true rfl)
  rw [lg_entry_eq]
  generalize (lg_sl ([.ref (ad 0), .int (nI 3), .int (nI 1), .int (-1)]) ++ List.replicate (5 - (lg_sl ([.ref (ad 0), .int (nI 3), .int (nI 1), .int (-1)])).length) Slot.unset).toArray = ls at hl ⊢
  have hl : lv_has ls 5 [(0, .ref (ad 0)), (1, .int (nI 3)), (2, .int (nI 1)), (3, .int (-1))] := hl
  refine lv_iload_n hx hb dL_of_0 rfl (lv_at hl 1 rfl) ?_
  refine zi_ne (tgt := 12) hx hb (by decide) dL_of_1 (by decide) (fun c_1 => ?_) (fun c_1 => (show False by omega).elim)
  refine lv_iload_n hx hb dL_of_12 rfl (lv_at hl 1 rfl) ?_
  refine lv_iconst (v := nI 1) hx hb dL_of_13 (by decide) ?_
  refine zb_ne (tgt := 25) hx hb (by decide) (by decide) dL_of_14 (by decide) (fun c_14 => ?_) (fun c_14 => (show False by omega).elim)
  refine lv_iload_n hx hb dL_of_25 rfl (lv_at hl 1 rfl) ?_
  refine lv_iconst (v := nI 2) hx hb dL_of_26 (by decide) ?_
  refine zb_ne (tgt := 38) hx hb (by decide) (by decide) dL_of_27 (by decide) (fun c_27 => ?_) (fun c_27 => (show False by omega).elim)
  refine lv_iload_n hx hb dL_of_38 rfl (lv_at hl 1 rfl) ?_
  refine lv_iconst (v := nI 3) hx hb dL_of_39 (by decide) ?_
  refine zb_ne (tgt := 51) hx hb (by decide) (by decide) dL_of_40 (by decide) (fun c_40 => (show False by omega).elim) (fun c_40 => ?_)
  refine lv_aload_n hx hb dL_of_43 rfl (lv_at hl 0 rfl) ?_
  refine lv_iload_n hx hb dL_of_44 rfl (lv_at hl 2 rfl) ?_
  have htab : c.exceptionTable.toList = ([] : List ExceptionTableEntry) ++ ⟨0, 140, 141, 42⟩ :: [⟨0, 140, 146, 45⟩] := (vx_table (x := yL_of) B (hts (.codeWith yL_of cL_of 5 (some .int) [(0, 140, 141, 42), (0, 140, 146, 45)]) List.mem_cons_self)).trans rfl
  refine zx_go (kr_X3_room_no l hfl (x := nI 1) (hn := (by omega)) (hk := (fun h => h (Or.inr (by decide)))) hx hb hml hown hts hK hP gL_of_X3_room ⟨Nat.le_of_ble_eq_true rfl, Nat.le_of_ble_eq_true rfl⟩ ⟨Nat.le_of_ble_eq_true rfl, Nat.le_of_ble_eq_true rfl⟩ hl.1 (Nat.le_of_ble_eq_true rfl) dL_of_45 hT) (fun ce q9 H1 hz9 hk9 hce hcv hcl => ?_)
  refine vx_catch (own := RL) (name := "java/lang/IndexOutOfBoundsException") (E := "java/lang/IndexOutOfBoundsException") hown [] ⟨0, 140, 141, 42⟩ [⟨0, 140, 146, 45⟩] htab (fun z hz => nomatch hz) rfl (by decide) (hts (.classLink RL 42 "java/lang/IndexOutOfBoundsException") (by decide +kernel)) (va_Nw.use rfl hT.2.1.2.2) hce hcv hcl ?_
  have hS : va_S (fun _ => False) s.heap H1 [] := ⟨Nat.le_of_succ_le hz9, fun q hq _ => hk9 q hq, fun _ h => nomatch h⟩
  refine lv_astore (lv' := [(4, .ref q9), (0, .ref (ad 0)), (1, .int (nI 3)), (2, .int (nI 1)), (3, .int (-1))]) hx hb dL_of_141 hl (by decide) rfl (fun ls hl => ?_)
  refine lv_ldc hx hb hown (hts (.constant RL 44 (-200000001)) (by decide +kernel)) dL_of_143 ?_
  exact W.iret (v := (-200000001)) hx hb hr (fun t ht hW => ⟨⟨(-200000001), (), rfl, rfl, by show sz + 1 ≤ t.heap.size; rw [ht, ← hsz]; exact hz9⟩, hS.F ht⟩) hS.2.2 dL_of_145
section
variable {p : Program} {e : Env} {R : Room} {s : State} {m : MethodId} {args : Array Value} {below : List Frame} {meth : Method} {c : Code} {H : Heap} {locs : List Loc} {cells slots : Nat} {Q : State → Prop} {cc : ByteArray} {pc : Nat} {ls : Array Slot} {rest : List Value} {own : String} {index nL : Nat} {Ts : List Cond} {H0 : Heap} {A0 : Nat → Prop}
theorem k_of_3_1_m1 (l : Launch) {dC : Nat → ClassId} {dI : Nat → Nat → Nat} {cI cZ : ClassId} {ad : Nat → Nat} {sm fe ex dy : Int32} {gp gc op gr st dl wo yc ya ys yd zc zp zr zs zf : Nat → Int32} {z : Nat} {zm zt : Int64} (hfl : l.stackTraces = false) (hx : p.tables.exec = Jvm.exec) (hb : c.code = cc) (hml : c.maxLocals = nL) (hown : s.vm.findClass own = some m.cls) (hts : ∀ w ∈ Ts, w.before args s = true) (hK : va_K (dC, dI) vwCl [(cI, .int), (cZ, .boolean)] s) (hP : va_P (dC, dI) vwCl (wC cI cZ ad sm fe ex dy gp gc op gr st dl wo 0 yc ya ys yd 0 zc zp zr zs zf z zm zt) H) (hg9 : GoodIn Ts (va_wsS own index yL_of wsL_of)) (hR9 : 8 + 1 ≤ R.frames ∧ 8 + (5 + 11) + 133 ≤ R.locals) (hc9 : cells + 1 ≤ R.cells ∧ slots + 6 ≤ R.slots) (hl9 : ls.size = nL) (hw9 : (rest.map fun v => v.category).sum ≤ 8) (hdg : decode cc pc = .ok (.invokestatic index, 3)) (hT : tX (fun _ => False) s H) (hN : tN s) (hS : va_S A0 H0 H locs) (kk : ∀ (H1 : Heap) (locs1 : List Loc), va_S A0 H0 H1 locs1 → H.size + 1 ≤ H1.size → (∀ q : Nat, q < H.size → H1[q]? = H[q]?) → W p l e R s m args below meth c H1 locs1 (cells + 1) (slots + 6) Q (F0 m (pc + 3) ls (.int (-200000001) :: rest))) : W p l e R s m args below meth c H locs cells slots Q (F0 m pc ls (.int (-1) :: .int (nI 1) :: .int (nI 3) :: .ref (ad 0) :: rest)) := va_calli (vx_runSW (As := [.ref (ad 0), .int (nI 3), .int (nI 1), .int (-1)]) (rest := rest) ⟨hx, hb, hml, hown, hts⟩ (c_of_3_1_m1 (dC := dC) (dI := dI) (cI := cI) (cZ := cZ) (ad := ad) (sm := sm) (fe := fe) (ex := ex) (dy := dy) (gp := gp) (gc := gc) (op := op) (gr := gr) (st := st) (dl := dl) (wo := wo) (yc := yc) (ya := ya) (ys := ys) (yd := yd) (zc := zc) (zp := zp) (zr := zr) (zs := zs) (zf := zf) (z := z) (zm := zm) (zt := zt) l hfl H.size) (vx_cwSW 4 hts hg9 rfl rfl rfl (by decide +kernel) hR9) ⟨fun a U g mk q => ⟨q.1, q.2.1, va_K.moved (u := U) (U := U.calling g mk a) (Vm.Alike.refl U.vm) q.2.2.1, tX.same (u := U) (U := U.calling g mk a) rfl q.2.2.2.1, tN.moved (u := U) (U := U.calling g mk a) (Vm.Alike.refl U.vm) q.2.2.2.2.1, q.2.2.2.2.2⟩, fun U hU hW => ⟨rfl, by rw [hU]; exact hP, va_K.moved hW.alike hK, by rw [hU]; exact tX.warm hW hT, tN.moved hW.alike hN, by rw [hU]⟩⟩ rfl rfl hl9 rfl (lv_room hw9) hdg hc9) hS (fun _ _ h => h.elim) (fun _ h => h.elim) (fun r u t H1 locs1 ht _ hu hB hz hk hS1 => by subst hu; rw [ht] at hB; exact kk H1 locs1 hS1 hB (fun q hq => hk q hq (fun h => h)))
end
set_option maxHeartbeats 4000000 in
set_option maxRecDepth 100000 in
theorem c_of_4_1_m1 (l : Launch) {dC : Nat → ClassId} {dI : Nat → Nat → Nat} {cI cZ : ClassId} {ad : Nat → Nat} {sm fe ex dy : Int32} {gp gc op gr st dl wo yc ya ys yd zc zp zr zs zf : Nat → Int32} {z : Nat} {zm zt : Int64} (hfl : l.stackTraces = false) (sz : Nat) : Met l yL_of wsL_of { frames := 8, cells := 1, slots := 6, locals := 132 } (va_Pc [.ref (ad 0), .int (nI 4), .int (nI 1), .int (-1)] (fun U => va_P (dC, dI) vwCl (wC cI cZ ad sm fe ex dy gp gc op gr st dl wo 0 yc ya ys yd 0 zc zp zr zs zf z zm zt) U.heap ∧ va_K (dC, dI) vwCl [(cI, .int), (cZ, .boolean)] U ∧ tX (fun _ => False) U U.heap ∧ tN U ∧ U.heap.size = sz)) (va_Qi (fun r (_ : Unit) => r = (-200000001)) (fun _ t => sz + 1 ≤ t.heap.size) (fun _ => False)) 1 6 (fun _ => False) := by
  refine va_MetW (cc := cL_of) (maxL := 5) (ret := (some .int)) (hh := [(0, 140, 141, 42), (0, 140, 146, 45)]) (by decide) rfl ?_
  intro p e s m args below meth c s₁ B hml hv
  obtain ⟨rfl, hP, hK, hT, hN, hsz⟩ := hv
  have hx := B.exec
  have hb := B.bytes
  have hr := B.returns
  have hts := atoms_spec (ws := wsL_of) B.pre
  have hown : s.vm.findClass RL = some m.cls := findClass_of_methodNamed B.named
  have hlocks := B.notSynchronized
  have hl := lv_entry ([.ref (ad 0), .int (nI 4), .int (nI 1), .int (-1)]) (n := 5) (Nat.le_of_ble_eq_true rfl)
  rw [lg_entry_eq]
  generalize (lg_sl ([.ref (ad 0), .int (nI 4), .int (nI 1), .int (-1)]) ++ List.replicate (5 - (lg_sl ([.ref (ad 0), .int (nI 4), .int (nI 1), .int (-1)])).length) Slot.unset).toArray = ls at hl ⊢
  have hl : lv_has ls 5 [(0, .ref (ad 0)), (1, .int (nI 4)), (2, .int (nI 1)), (3, .int (-1))] := hl
  refine lv_iload_n hx hb dL_of_0 rfl (lv_at hl 1 rfl) ?_
  refine zi_ne (tgt := 12) hx hb (by decide) dL_of_1 (by decide) (fun c_1 => ?_) (fun c_1 => (show False by omega).elim)
  refine lv_iload_n hx hb dL_of_12 rfl (lv_at hl 1 rfl) ?_
  refine lv_iconst (v := nI 1) hx hb dL_of_13 (by decide) ?_
  refine zb_ne (tgt := 25) hx hb (by decide) (by decide) dL_of_14 (by decide) (fun c_14 => ?_) (fun c_14 => (show False by omega).elim)
  refine lv_iload_n hx hb dL_of_25 rfl (lv_at hl 1 rfl) ?_
  refine lv_iconst (v := nI 2) hx hb dL_of_26 (by decide) ?_
  refine zb_ne (tgt := 38) hx hb (by decide) (by decide) dL_of_27 (by decide) (fun c_27 => ?_) (fun c_27 => (show False by omega).elim)
  refine lv_iload_n hx hb dL_of_38 rfl (lv_at hl 1 rfl) ?_
  refine lv_iconst (v := nI 3) hx hb dL_of_39 (by decide) ?_
  refine zb_ne (tgt := 51) hx hb (by decide) (by decide) dL_of_40 (by decide) (fun c_40 => ?_) (fun c_40 => (show False by omega).elim)
  refine lv_iload_n hx hb dL_of_51 rfl (lv_at hl 1 rfl) ?_
  refine lv_iconst (v := nI 4) hx hb dL_of_52 (by decide) ?_
  refine zb_ne (tgt := 64) hx hb (by decide) (by decide) dL_of_53 (by decide) (fun c_53 => (show False by omega).elim) (fun c_53 => ?_)
  refine lv_aload_n hx hb dL_of_56 rfl (lv_at hl 0 rfl) ?_
  refine lv_iload_n hx hb dL_of_57 rfl (lv_at hl 2 rfl) ?_
  have htab : c.exceptionTable.toList = ([] : List ExceptionTableEntry) ++ ⟨0, 140, 141, 42⟩ :: [⟨0, 140, 146, 45⟩] := (vx_table (x := yL_of) B (hts (.codeWith yL_of cL_of 5 (some .int) [(0, 140, 141, 42), (0, 140, 146, 45)]) List.mem_cons_self)).trans rfl
  refine zx_go (kr_X3_paidTo_no l hfl (x := nI 1) (hn := (by omega)) (hk := (fun h => h (Or.inr (by decide)))) hx hb hml hown hts hK hP gL_of_X3_paidTo ⟨Nat.le_of_ble_eq_true rfl, Nat.le_of_ble_eq_true rfl⟩ ⟨Nat.le_of_ble_eq_true rfl, Nat.le_of_ble_eq_true rfl⟩ hl.1 (Nat.le_of_ble_eq_true rfl) dL_of_58 hT) (fun ce q9 H1 hz9 hk9 hce hcv hcl => ?_)
  refine vx_catch (own := RL) (name := "java/lang/IndexOutOfBoundsException") (E := "java/lang/IndexOutOfBoundsException") hown [] ⟨0, 140, 141, 42⟩ [⟨0, 140, 146, 45⟩] htab (fun z hz => nomatch hz) rfl (by decide) (hts (.classLink RL 42 "java/lang/IndexOutOfBoundsException") (by decide +kernel)) (va_Nw.use rfl hT.2.1.2.2) hce hcv hcl ?_
  have hS : va_S (fun _ => False) s.heap H1 [] := ⟨Nat.le_of_succ_le hz9, fun q hq _ => hk9 q hq, fun _ h => nomatch h⟩
  refine lv_astore (lv' := [(4, .ref q9), (0, .ref (ad 0)), (1, .int (nI 4)), (2, .int (nI 1)), (3, .int (-1))]) hx hb dL_of_141 hl (by decide) rfl (fun ls hl => ?_)
  refine lv_ldc hx hb hown (hts (.constant RL 44 (-200000001)) (by decide +kernel)) dL_of_143 ?_
  exact W.iret (v := (-200000001)) hx hb hr (fun t ht hW => ⟨⟨(-200000001), (), rfl, rfl, by show sz + 1 ≤ t.heap.size; rw [ht, ← hsz]; exact hz9⟩, hS.F ht⟩) hS.2.2 dL_of_145
section
variable {p : Program} {e : Env} {R : Room} {s : State} {m : MethodId} {args : Array Value} {below : List Frame} {meth : Method} {c : Code} {H : Heap} {locs : List Loc} {cells slots : Nat} {Q : State → Prop} {cc : ByteArray} {pc : Nat} {ls : Array Slot} {rest : List Value} {own : String} {index nL : Nat} {Ts : List Cond} {H0 : Heap} {A0 : Nat → Prop}
theorem k_of_4_1_m1 (l : Launch) {dC : Nat → ClassId} {dI : Nat → Nat → Nat} {cI cZ : ClassId} {ad : Nat → Nat} {sm fe ex dy : Int32} {gp gc op gr st dl wo yc ya ys yd zc zp zr zs zf : Nat → Int32} {z : Nat} {zm zt : Int64} (hfl : l.stackTraces = false) (hx : p.tables.exec = Jvm.exec) (hb : c.code = cc) (hml : c.maxLocals = nL) (hown : s.vm.findClass own = some m.cls) (hts : ∀ w ∈ Ts, w.before args s = true) (hK : va_K (dC, dI) vwCl [(cI, .int), (cZ, .boolean)] s) (hP : va_P (dC, dI) vwCl (wC cI cZ ad sm fe ex dy gp gc op gr st dl wo 0 yc ya ys yd 0 zc zp zr zs zf z zm zt) H) (hg9 : GoodIn Ts (va_wsS own index yL_of wsL_of)) (hR9 : 8 + 1 ≤ R.frames ∧ 8 + (5 + 11) + 132 ≤ R.locals) (hc9 : cells + 1 ≤ R.cells ∧ slots + 6 ≤ R.slots) (hl9 : ls.size = nL) (hw9 : (rest.map fun v => v.category).sum ≤ 8) (hdg : decode cc pc = .ok (.invokestatic index, 3)) (hT : tX (fun _ => False) s H) (hN : tN s) (hS : va_S A0 H0 H locs) (kk : ∀ (H1 : Heap) (locs1 : List Loc), va_S A0 H0 H1 locs1 → H.size + 1 ≤ H1.size → (∀ q : Nat, q < H.size → H1[q]? = H[q]?) → W p l e R s m args below meth c H1 locs1 (cells + 1) (slots + 6) Q (F0 m (pc + 3) ls (.int (-200000001) :: rest))) : W p l e R s m args below meth c H locs cells slots Q (F0 m pc ls (.int (-1) :: .int (nI 1) :: .int (nI 4) :: .ref (ad 0) :: rest)) := va_calli (vx_runSW (As := [.ref (ad 0), .int (nI 4), .int (nI 1), .int (-1)]) (rest := rest) ⟨hx, hb, hml, hown, hts⟩ (c_of_4_1_m1 (dC := dC) (dI := dI) (cI := cI) (cZ := cZ) (ad := ad) (sm := sm) (fe := fe) (ex := ex) (dy := dy) (gp := gp) (gc := gc) (op := op) (gr := gr) (st := st) (dl := dl) (wo := wo) (yc := yc) (ya := ya) (ys := ys) (yd := yd) (zc := zc) (zp := zp) (zr := zr) (zs := zs) (zf := zf) (z := z) (zm := zm) (zt := zt) l hfl H.size) (vx_cwSW 4 hts hg9 rfl rfl rfl (by decide +kernel) hR9) ⟨fun a U g mk q => ⟨q.1, q.2.1, va_K.moved (u := U) (U := U.calling g mk a) (Vm.Alike.refl U.vm) q.2.2.1, tX.same (u := U) (U := U.calling g mk a) rfl q.2.2.2.1, tN.moved (u := U) (U := U.calling g mk a) (Vm.Alike.refl U.vm) q.2.2.2.2.1, q.2.2.2.2.2⟩, fun U hU hW => ⟨rfl, by rw [hU]; exact hP, va_K.moved hW.alike hK, by rw [hU]; exact tX.warm hW hT, tN.moved hW.alike hN, by rw [hU]⟩⟩ rfl rfl hl9 rfl (lv_room hw9) hdg hc9) hS (fun _ _ h => h.elim) (fun _ h => h.elim) (fun r u t H1 locs1 ht _ hu hB hz hk hS1 => by subst hu; rw [ht] at hB; exact kk H1 locs1 hS1 hB (fun q hq => hk q hq (fun h => h)))
end
set_option maxHeartbeats 4000000 in
set_option maxRecDepth 100000 in
theorem c_of_5_1_m1 (l : Launch) {dC : Nat → ClassId} {dI : Nat → Nat → Nat} {cI cZ : ClassId} {ad : Nat → Nat} {sm fe ex dy : Int32} {gp gc op gr st dl wo yc ya ys yd zc zp zr zs zf : Nat → Int32} {z : Nat} {zm zt : Int64} (hfl : l.stackTraces = false) (sz : Nat) : Met l yL_of wsL_of { frames := 8, cells := 1, slots := 6, locals := 132 } (va_Pc [.ref (ad 0), .int (nI 5), .int (nI 1), .int (-1)] (fun U => va_P (dC, dI) vwCl (wC cI cZ ad sm fe ex dy gp gc op gr st dl wo 0 yc ya ys yd 0 zc zp zr zs zf z zm zt) U.heap ∧ va_K (dC, dI) vwCl [(cI, .int), (cZ, .boolean)] U ∧ tX (fun _ => False) U U.heap ∧ tN U ∧ U.heap.size = sz)) (va_Qi (fun r (_ : Unit) => r = (-200000001)) (fun _ t => sz + 1 ≤ t.heap.size) (fun _ => False)) 1 6 (fun _ => False) := by
  refine va_MetW (cc := cL_of) (maxL := 5) (ret := (some .int)) (hh := [(0, 140, 141, 42), (0, 140, 146, 45)]) (by decide) rfl ?_
  intro p e s m args below meth c s₁ B hml hv
  obtain ⟨rfl, hP, hK, hT, hN, hsz⟩ := hv
  have hx := B.exec
  have hb := B.bytes
  have hr := B.returns
  have hts := atoms_spec (ws := wsL_of) B.pre
  have hown : s.vm.findClass RL = some m.cls := findClass_of_methodNamed B.named
  have hlocks := B.notSynchronized
  have hl := lv_entry ([.ref (ad 0), .int (nI 5), .int (nI 1), .int (-1)]) (n := 5) (Nat.le_of_ble_eq_true rfl)
  rw [lg_entry_eq]
  generalize (lg_sl ([.ref (ad 0), .int (nI 5), .int (nI 1), .int (-1)]) ++ List.replicate (5 - (lg_sl ([.ref (ad 0), .int (nI 5), .int (nI 1), .int (-1)])).length) Slot.unset).toArray = ls at hl ⊢
  have hl : lv_has ls 5 [(0, .ref (ad 0)), (1, .int (nI 5)), (2, .int (nI 1)), (3, .int (-1))] := hl
  refine lv_iload_n hx hb dL_of_0 rfl (lv_at hl 1 rfl) ?_
  refine zi_ne (tgt := 12) hx hb (by decide) dL_of_1 (by decide) (fun c_1 => ?_) (fun c_1 => (show False by omega).elim)
  refine lv_iload_n hx hb dL_of_12 rfl (lv_at hl 1 rfl) ?_
  refine lv_iconst (v := nI 1) hx hb dL_of_13 (by decide) ?_
  refine zb_ne (tgt := 25) hx hb (by decide) (by decide) dL_of_14 (by decide) (fun c_14 => ?_) (fun c_14 => (show False by omega).elim)
  refine lv_iload_n hx hb dL_of_25 rfl (lv_at hl 1 rfl) ?_
  refine lv_iconst (v := nI 2) hx hb dL_of_26 (by decide) ?_
  refine zb_ne (tgt := 38) hx hb (by decide) (by decide) dL_of_27 (by decide) (fun c_27 => ?_) (fun c_27 => (show False by omega).elim)
  refine lv_iload_n hx hb dL_of_38 rfl (lv_at hl 1 rfl) ?_
  refine lv_iconst (v := nI 3) hx hb dL_of_39 (by decide) ?_
  refine zb_ne (tgt := 51) hx hb (by decide) (by decide) dL_of_40 (by decide) (fun c_40 => ?_) (fun c_40 => (show False by omega).elim)
  refine lv_iload_n hx hb dL_of_51 rfl (lv_at hl 1 rfl) ?_
  refine lv_iconst (v := nI 4) hx hb dL_of_52 (by decide) ?_
  refine zb_ne (tgt := 64) hx hb (by decide) (by decide) dL_of_53 (by decide) (fun c_53 => ?_) (fun c_53 => (show False by omega).elim)
  refine lv_iload_n hx hb dL_of_64 rfl (lv_at hl 1 rfl) ?_
  refine lv_iconst (v := nI 5) hx hb dL_of_65 (by decide) ?_
  refine zb_ne (tgt := 77) hx hb (by decide) (by decide) dL_of_66 (by decide) (fun c_66 => (show False by omega).elim) (fun c_66 => ?_)
  refine lv_aload_n hx hb dL_of_69 rfl (lv_at hl 0 rfl) ?_
  refine lv_iload_n hx hb dL_of_70 rfl (lv_at hl 2 rfl) ?_
  have htab : c.exceptionTable.toList = ([] : List ExceptionTableEntry) ++ ⟨0, 140, 141, 42⟩ :: [⟨0, 140, 146, 45⟩] := (vx_table (x := yL_of) B (hts (.codeWith yL_of cL_of 5 (some .int) [(0, 140, 141, 42), (0, 140, 146, 45)]) List.mem_cons_self)).trans rfl
  refine zx_go (kr_X3_paymentTo_no l hfl (x := nI 1) (hq := (by omega)) (hk := (fun h => h (Or.inr (by decide)))) hx hb hml hown hts hK hP gL_of_X3_paymentTo ⟨Nat.le_of_ble_eq_true rfl, Nat.le_of_ble_eq_true rfl⟩ ⟨Nat.le_of_ble_eq_true rfl, Nat.le_of_ble_eq_true rfl⟩ hl.1 (Nat.le_of_ble_eq_true rfl) dL_of_71 hT) (fun ce q9 H1 hz9 hk9 hce hcv hcl => ?_)
  refine vx_catch (own := RL) (name := "java/lang/IndexOutOfBoundsException") (E := "java/lang/IndexOutOfBoundsException") hown [] ⟨0, 140, 141, 42⟩ [⟨0, 140, 146, 45⟩] htab (fun z hz => nomatch hz) rfl (by decide) (hts (.classLink RL 42 "java/lang/IndexOutOfBoundsException") (by decide +kernel)) (va_Nw.use rfl hT.2.1.2.2) hce hcv hcl ?_
  have hS : va_S (fun _ => False) s.heap H1 [] := ⟨Nat.le_of_succ_le hz9, fun q hq _ => hk9 q hq, fun _ h => nomatch h⟩
  refine lv_astore (lv' := [(4, .ref q9), (0, .ref (ad 0)), (1, .int (nI 5)), (2, .int (nI 1)), (3, .int (-1))]) hx hb dL_of_141 hl (by decide) rfl (fun ls hl => ?_)
  refine lv_ldc hx hb hown (hts (.constant RL 44 (-200000001)) (by decide +kernel)) dL_of_143 ?_
  exact W.iret (v := (-200000001)) hx hb hr (fun t ht hW => ⟨⟨(-200000001), (), rfl, rfl, by show sz + 1 ≤ t.heap.size; rw [ht, ← hsz]; exact hz9⟩, hS.F ht⟩) hS.2.2 dL_of_145
section
variable {p : Program} {e : Env} {R : Room} {s : State} {m : MethodId} {args : Array Value} {below : List Frame} {meth : Method} {c : Code} {H : Heap} {locs : List Loc} {cells slots : Nat} {Q : State → Prop} {cc : ByteArray} {pc : Nat} {ls : Array Slot} {rest : List Value} {own : String} {index nL : Nat} {Ts : List Cond} {H0 : Heap} {A0 : Nat → Prop}
theorem k_of_5_1_m1 (l : Launch) {dC : Nat → ClassId} {dI : Nat → Nat → Nat} {cI cZ : ClassId} {ad : Nat → Nat} {sm fe ex dy : Int32} {gp gc op gr st dl wo yc ya ys yd zc zp zr zs zf : Nat → Int32} {z : Nat} {zm zt : Int64} (hfl : l.stackTraces = false) (hx : p.tables.exec = Jvm.exec) (hb : c.code = cc) (hml : c.maxLocals = nL) (hown : s.vm.findClass own = some m.cls) (hts : ∀ w ∈ Ts, w.before args s = true) (hK : va_K (dC, dI) vwCl [(cI, .int), (cZ, .boolean)] s) (hP : va_P (dC, dI) vwCl (wC cI cZ ad sm fe ex dy gp gc op gr st dl wo 0 yc ya ys yd 0 zc zp zr zs zf z zm zt) H) (hg9 : GoodIn Ts (va_wsS own index yL_of wsL_of)) (hR9 : 8 + 1 ≤ R.frames ∧ 8 + (5 + 11) + 132 ≤ R.locals) (hc9 : cells + 1 ≤ R.cells ∧ slots + 6 ≤ R.slots) (hl9 : ls.size = nL) (hw9 : (rest.map fun v => v.category).sum ≤ 8) (hdg : decode cc pc = .ok (.invokestatic index, 3)) (hT : tX (fun _ => False) s H) (hN : tN s) (hS : va_S A0 H0 H locs) (kk : ∀ (H1 : Heap) (locs1 : List Loc), va_S A0 H0 H1 locs1 → H.size + 1 ≤ H1.size → (∀ q : Nat, q < H.size → H1[q]? = H[q]?) → W p l e R s m args below meth c H1 locs1 (cells + 1) (slots + 6) Q (F0 m (pc + 3) ls (.int (-200000001) :: rest))) : W p l e R s m args below meth c H locs cells slots Q (F0 m pc ls (.int (-1) :: .int (nI 1) :: .int (nI 5) :: .ref (ad 0) :: rest)) := va_calli (vx_runSW (As := [.ref (ad 0), .int (nI 5), .int (nI 1), .int (-1)]) (rest := rest) ⟨hx, hb, hml, hown, hts⟩ (c_of_5_1_m1 (dC := dC) (dI := dI) (cI := cI) (cZ := cZ) (ad := ad) (sm := sm) (fe := fe) (ex := ex) (dy := dy) (gp := gp) (gc := gc) (op := op) (gr := gr) (st := st) (dl := dl) (wo := wo) (yc := yc) (ya := ya) (ys := ys) (yd := yd) (zc := zc) (zp := zp) (zr := zr) (zs := zs) (zf := zf) (z := z) (zm := zm) (zt := zt) l hfl H.size) (vx_cwSW 4 hts hg9 rfl rfl rfl (by decide +kernel) hR9) ⟨fun a U g mk q => ⟨q.1, q.2.1, va_K.moved (u := U) (U := U.calling g mk a) (Vm.Alike.refl U.vm) q.2.2.1, tX.same (u := U) (U := U.calling g mk a) rfl q.2.2.2.1, tN.moved (u := U) (U := U.calling g mk a) (Vm.Alike.refl U.vm) q.2.2.2.2.1, q.2.2.2.2.2⟩, fun U hU hW => ⟨rfl, by rw [hU]; exact hP, va_K.moved hW.alike hK, by rw [hU]; exact tX.warm hW hT, tN.moved hW.alike hN, by rw [hU]⟩⟩ rfl rfl hl9 rfl (lv_room hw9) hdg hc9) hS (fun _ _ h => h.elim) (fun _ h => h.elim) (fun r u t H1 locs1 ht _ hu hB hz hk hS1 => by subst hu; rw [ht] at hB; exact kk H1 locs1 hS1 hB (fun q hq => hk q hq (fun h => h)))
end
set_option maxHeartbeats 4000000 in
set_option maxRecDepth 100000 in
theorem c_of_6_1_m1 (l : Launch) {dC : Nat → ClassId} {dI : Nat → Nat → Nat} {cI cZ : ClassId} {ad : Nat → Nat} {sm fe ex dy : Int32} {gp gc op gr st dl wo yc ya ys yd zc zp zr zs zf : Nat → Int32} {z : Nat} {zm zt : Int64} (hfl : l.stackTraces = false) (sz : Nat) : Met l yL_of wsL_of { frames := 8, cells := 1, slots := 6, locals := 132 } (va_Pc [.ref (ad 0), .int (nI 6), .int (nI 1), .int (-1)] (fun U => va_P (dC, dI) vwCl (wC cI cZ ad sm fe ex dy gp gc op gr st dl wo 0 yc ya ys yd 0 zc zp zr zs zf z zm zt) U.heap ∧ va_K (dC, dI) vwCl [(cI, .int), (cZ, .boolean)] U ∧ tX (fun _ => False) U U.heap ∧ tN U ∧ U.heap.size = sz)) (va_Qi (fun r (_ : Unit) => r = (-200000001)) (fun _ t => sz + 1 ≤ t.heap.size) (fun _ => False)) 1 6 (fun _ => False) := by
  refine va_MetW (cc := cL_of) (maxL := 5) (ret := (some .int)) (hh := [(0, 140, 141, 42), (0, 140, 146, 45)]) (by decide) rfl ?_
  intro p e s m args below meth c s₁ B hml hv
  obtain ⟨rfl, hP, hK, hT, hN, hsz⟩ := hv
  have hx := B.exec
  have hb := B.bytes
  have hr := B.returns
  have hts := atoms_spec (ws := wsL_of) B.pre
  have hown : s.vm.findClass RL = some m.cls := findClass_of_methodNamed B.named
  have hlocks := B.notSynchronized
  have hl := lv_entry ([.ref (ad 0), .int (nI 6), .int (nI 1), .int (-1)]) (n := 5) (Nat.le_of_ble_eq_true rfl)
  rw [lg_entry_eq]
  generalize (lg_sl ([.ref (ad 0), .int (nI 6), .int (nI 1), .int (-1)]) ++ List.replicate (5 - (lg_sl ([.ref (ad 0), .int (nI 6), .int (nI 1), .int (-1)])).length) Slot.unset).toArray = ls at hl ⊢
  have hl : lv_has ls 5 [(0, .ref (ad 0)), (1, .int (nI 6)), (2, .int (nI 1)), (3, .int (-1))] := hl
  refine lv_iload_n hx hb dL_of_0 rfl (lv_at hl 1 rfl) ?_
  refine zi_ne (tgt := 12) hx hb (by decide) dL_of_1 (by decide) (fun c_1 => ?_) (fun c_1 => (show False by omega).elim)
  refine lv_iload_n hx hb dL_of_12 rfl (lv_at hl 1 rfl) ?_
  refine lv_iconst (v := nI 1) hx hb dL_of_13 (by decide) ?_
  refine zb_ne (tgt := 25) hx hb (by decide) (by decide) dL_of_14 (by decide) (fun c_14 => ?_) (fun c_14 => (show False by omega).elim)
  refine lv_iload_n hx hb dL_of_25 rfl (lv_at hl 1 rfl) ?_
  refine lv_iconst (v := nI 2) hx hb dL_of_26 (by decide) ?_
  refine zb_ne (tgt := 38) hx hb (by decide) (by decide) dL_of_27 (by decide) (fun c_27 => ?_) (fun c_27 => (show False by omega).elim)
  refine lv_iload_n hx hb dL_of_38 rfl (lv_at hl 1 rfl) ?_
  refine lv_iconst (v := nI 3) hx hb dL_of_39 (by decide) ?_
  refine zb_ne (tgt := 51) hx hb (by decide) (by decide) dL_of_40 (by decide) (fun c_40 => ?_) (fun c_40 => (show False by omega).elim)
  refine lv_iload_n hx hb dL_of_51 rfl (lv_at hl 1 rfl) ?_
  refine lv_iconst (v := nI 4) hx hb dL_of_52 (by decide) ?_
  refine zb_ne (tgt := 64) hx hb (by decide) (by decide) dL_of_53 (by decide) (fun c_53 => ?_) (fun c_53 => (show False by omega).elim)
  refine lv_iload_n hx hb dL_of_64 rfl (lv_at hl 1 rfl) ?_
  refine lv_iconst (v := nI 5) hx hb dL_of_65 (by decide) ?_
  refine zb_ne (tgt := 77) hx hb (by decide) (by decide) dL_of_66 (by decide) (fun c_66 => ?_) (fun c_66 => (show False by omega).elim)
  refine lv_iload_n hx hb dL_of_77 rfl (lv_at hl 1 rfl) ?_
  refine lv_bipush (v := nI 6) hx hb dL_of_78 (by decide) ?_
  refine zb_ne (tgt := 91) hx hb (by decide) (by decide) dL_of_80 (by decide) (fun c_80 => (show False by omega).elim) (fun c_80 => ?_)
  refine lv_aload_n hx hb dL_of_83 rfl (lv_at hl 0 rfl) ?_
  refine lv_iload_n hx hb dL_of_84 rfl (lv_at hl 2 rfl) ?_
  have htab : c.exceptionTable.toList = ([] : List ExceptionTableEntry) ++ ⟨0, 140, 141, 42⟩ :: [⟨0, 140, 146, 45⟩] := (vx_table (x := yL_of) B (hts (.codeWith yL_of cL_of 5 (some .int) [(0, 140, 141, 42), (0, 140, 146, 45)]) List.mem_cons_self)).trans rfl
  refine zx_go (kr_X3_amountOf_no l hfl (x := nI 1) (hq := (by omega)) (hk := (fun h => h (Or.inr (by decide)))) hx hb hml hown hts hK hP gL_of_X3_amountOf ⟨Nat.le_of_ble_eq_true rfl, Nat.le_of_ble_eq_true rfl⟩ ⟨Nat.le_of_ble_eq_true rfl, Nat.le_of_ble_eq_true rfl⟩ hl.1 (Nat.le_of_ble_eq_true rfl) dL_of_85 hT) (fun ce q9 H1 hz9 hk9 hce hcv hcl => ?_)
  refine vx_catch (own := RL) (name := "java/lang/IndexOutOfBoundsException") (E := "java/lang/IndexOutOfBoundsException") hown [] ⟨0, 140, 141, 42⟩ [⟨0, 140, 146, 45⟩] htab (fun z hz => nomatch hz) rfl (by decide) (hts (.classLink RL 42 "java/lang/IndexOutOfBoundsException") (by decide +kernel)) (va_Nw.use rfl hT.2.1.2.2) hce hcv hcl ?_
  have hS : va_S (fun _ => False) s.heap H1 [] := ⟨Nat.le_of_succ_le hz9, fun q hq _ => hk9 q hq, fun _ h => nomatch h⟩
  refine lv_astore (lv' := [(4, .ref q9), (0, .ref (ad 0)), (1, .int (nI 6)), (2, .int (nI 1)), (3, .int (-1))]) hx hb dL_of_141 hl (by decide) rfl (fun ls hl => ?_)
  refine lv_ldc hx hb hown (hts (.constant RL 44 (-200000001)) (by decide +kernel)) dL_of_143 ?_
  exact W.iret (v := (-200000001)) hx hb hr (fun t ht hW => ⟨⟨(-200000001), (), rfl, rfl, by show sz + 1 ≤ t.heap.size; rw [ht, ← hsz]; exact hz9⟩, hS.F ht⟩) hS.2.2 dL_of_145
section
variable {p : Program} {e : Env} {R : Room} {s : State} {m : MethodId} {args : Array Value} {below : List Frame} {meth : Method} {c : Code} {H : Heap} {locs : List Loc} {cells slots : Nat} {Q : State → Prop} {cc : ByteArray} {pc : Nat} {ls : Array Slot} {rest : List Value} {own : String} {index nL : Nat} {Ts : List Cond} {H0 : Heap} {A0 : Nat → Prop}
theorem k_of_6_1_m1 (l : Launch) {dC : Nat → ClassId} {dI : Nat → Nat → Nat} {cI cZ : ClassId} {ad : Nat → Nat} {sm fe ex dy : Int32} {gp gc op gr st dl wo yc ya ys yd zc zp zr zs zf : Nat → Int32} {z : Nat} {zm zt : Int64} (hfl : l.stackTraces = false) (hx : p.tables.exec = Jvm.exec) (hb : c.code = cc) (hml : c.maxLocals = nL) (hown : s.vm.findClass own = some m.cls) (hts : ∀ w ∈ Ts, w.before args s = true) (hK : va_K (dC, dI) vwCl [(cI, .int), (cZ, .boolean)] s) (hP : va_P (dC, dI) vwCl (wC cI cZ ad sm fe ex dy gp gc op gr st dl wo 0 yc ya ys yd 0 zc zp zr zs zf z zm zt) H) (hg9 : GoodIn Ts (va_wsS own index yL_of wsL_of)) (hR9 : 8 + 1 ≤ R.frames ∧ 8 + (5 + 11) + 132 ≤ R.locals) (hc9 : cells + 1 ≤ R.cells ∧ slots + 6 ≤ R.slots) (hl9 : ls.size = nL) (hw9 : (rest.map fun v => v.category).sum ≤ 8) (hdg : decode cc pc = .ok (.invokestatic index, 3)) (hT : tX (fun _ => False) s H) (hN : tN s) (hS : va_S A0 H0 H locs) (kk : ∀ (H1 : Heap) (locs1 : List Loc), va_S A0 H0 H1 locs1 → H.size + 1 ≤ H1.size → (∀ q : Nat, q < H.size → H1[q]? = H[q]?) → W p l e R s m args below meth c H1 locs1 (cells + 1) (slots + 6) Q (F0 m (pc + 3) ls (.int (-200000001) :: rest))) : W p l e R s m args below meth c H locs cells slots Q (F0 m pc ls (.int (-1) :: .int (nI 1) :: .int (nI 6) :: .ref (ad 0) :: rest)) := va_calli (vx_runSW (As := [.ref (ad 0), .int (nI 6), .int (nI 1), .int (-1)]) (rest := rest) ⟨hx, hb, hml, hown, hts⟩ (c_of_6_1_m1 (dC := dC) (dI := dI) (cI := cI) (cZ := cZ) (ad := ad) (sm := sm) (fe := fe) (ex := ex) (dy := dy) (gp := gp) (gc := gc) (op := op) (gr := gr) (st := st) (dl := dl) (wo := wo) (yc := yc) (ya := ya) (ys := ys) (yd := yd) (zc := zc) (zp := zp) (zr := zr) (zs := zs) (zf := zf) (z := z) (zm := zm) (zt := zt) l hfl H.size) (vx_cwSW 4 hts hg9 rfl rfl rfl (by decide +kernel) hR9) ⟨fun a U g mk q => ⟨q.1, q.2.1, va_K.moved (u := U) (U := U.calling g mk a) (Vm.Alike.refl U.vm) q.2.2.1, tX.same (u := U) (U := U.calling g mk a) rfl q.2.2.2.1, tN.moved (u := U) (U := U.calling g mk a) (Vm.Alike.refl U.vm) q.2.2.2.2.1, q.2.2.2.2.2⟩, fun U hU hW => ⟨rfl, by rw [hU]; exact hP, va_K.moved hW.alike hK, by rw [hU]; exact tX.warm hW hT, tN.moved hW.alike hN, by rw [hU]⟩⟩ rfl rfl hl9 rfl (lv_room hw9) hdg hc9) hS (fun _ _ h => h.elim) (fun _ h => h.elim) (fun r u t H1 locs1 ht _ hu hB hz hk hS1 => by subst hu; rw [ht] at hB; exact kk H1 locs1 hS1 hB (fun q hq => hk q hq (fun h => h)))
end
set_option maxHeartbeats 4000000 in
set_option maxRecDepth 100000 in
theorem c_of_7_1_m1 (l : Launch) {dC : Nat → ClassId} {dI : Nat → Nat → Nat} {cI cZ : ClassId} {ad : Nat → Nat} {sm fe ex dy : Int32} {gp gc op gr st dl wo yc ya ys yd zc zp zr zs zf : Nat → Int32} {z : Nat} {zm zt : Int64} (hfl : l.stackTraces = false) (sz : Nat) : Met l yL_of wsL_of { frames := 8, cells := 1, slots := 6, locals := 132 } (va_Pc [.ref (ad 0), .int (nI 7), .int (nI 1), .int (-1)] (fun U => va_P (dC, dI) vwCl (wC cI cZ ad sm fe ex dy gp gc op gr st dl wo 0 yc ya ys yd 0 zc zp zr zs zf z zm zt) U.heap ∧ va_K (dC, dI) vwCl [(cI, .int), (cZ, .boolean)] U ∧ tX (fun _ => False) U U.heap ∧ tN U ∧ U.heap.size = sz)) (va_Qi (fun r (_ : Unit) => r = (-200000001)) (fun _ t => sz + 1 ≤ t.heap.size) (fun _ => False)) 1 6 (fun _ => False) := by
  refine va_MetW (cc := cL_of) (maxL := 5) (ret := (some .int)) (hh := [(0, 140, 141, 42), (0, 140, 146, 45)]) (by decide) rfl ?_
  intro p e s m args below meth c s₁ B hml hv
  obtain ⟨rfl, hP, hK, hT, hN, hsz⟩ := hv
  have hx := B.exec
  have hb := B.bytes
  have hr := B.returns
  have hts := atoms_spec (ws := wsL_of) B.pre
  have hown : s.vm.findClass RL = some m.cls := findClass_of_methodNamed B.named
  have hlocks := B.notSynchronized
  have hl := lv_entry ([.ref (ad 0), .int (nI 7), .int (nI 1), .int (-1)]) (n := 5) (Nat.le_of_ble_eq_true rfl)
  rw [lg_entry_eq]
  generalize (lg_sl ([.ref (ad 0), .int (nI 7), .int (nI 1), .int (-1)]) ++ List.replicate (5 - (lg_sl ([.ref (ad 0), .int (nI 7), .int (nI 1), .int (-1)])).length) Slot.unset).toArray = ls at hl ⊢
  have hl : lv_has ls 5 [(0, .ref (ad 0)), (1, .int (nI 7)), (2, .int (nI 1)), (3, .int (-1))] := hl
  refine lv_iload_n hx hb dL_of_0 rfl (lv_at hl 1 rfl) ?_
  refine zi_ne (tgt := 12) hx hb (by decide) dL_of_1 (by decide) (fun c_1 => ?_) (fun c_1 => (show False by omega).elim)
  refine lv_iload_n hx hb dL_of_12 rfl (lv_at hl 1 rfl) ?_
  refine lv_iconst (v := nI 1) hx hb dL_of_13 (by decide) ?_
  refine zb_ne (tgt := 25) hx hb (by decide) (by decide) dL_of_14 (by decide) (fun c_14 => ?_) (fun c_14 => (show False by omega).elim)
  refine lv_iload_n hx hb dL_of_25 rfl (lv_at hl 1 rfl) ?_
  refine lv_iconst (v := nI 2) hx hb dL_of_26 (by decide) ?_
  refine zb_ne (tgt := 38) hx hb (by decide) (by decide) dL_of_27 (by decide) (fun c_27 => ?_) (fun c_27 => (show False by omega).elim)
  refine lv_iload_n hx hb dL_of_38 rfl (lv_at hl 1 rfl) ?_
  refine lv_iconst (v := nI 3) hx hb dL_of_39 (by decide) ?_
  refine zb_ne (tgt := 51) hx hb (by decide) (by decide) dL_of_40 (by decide) (fun c_40 => ?_) (fun c_40 => (show False by omega).elim)
  refine lv_iload_n hx hb dL_of_51 rfl (lv_at hl 1 rfl) ?_
  refine lv_iconst (v := nI 4) hx hb dL_of_52 (by decide) ?_
  refine zb_ne (tgt := 64) hx hb (by decide) (by decide) dL_of_53 (by decide) (fun c_53 => ?_) (fun c_53 => (show False by omega).elim)
  refine lv_iload_n hx hb dL_of_64 rfl (lv_at hl 1 rfl) ?_
  refine lv_iconst (v := nI 5) hx hb dL_of_65 (by decide) ?_
  refine zb_ne (tgt := 77) hx hb (by decide) (by decide) dL_of_66 (by decide) (fun c_66 => ?_) (fun c_66 => (show False by omega).elim)
  refine lv_iload_n hx hb dL_of_77 rfl (lv_at hl 1 rfl) ?_
  refine lv_bipush (v := nI 6) hx hb dL_of_78 (by decide) ?_
  refine zb_ne (tgt := 91) hx hb (by decide) (by decide) dL_of_80 (by decide) (fun c_80 => ?_) (fun c_80 => (show False by omega).elim)
  refine lv_iload_n hx hb dL_of_91 rfl (lv_at hl 1 rfl) ?_
  refine lv_bipush (v := nI 7) hx hb dL_of_92 (by decide) ?_
  refine zb_ne (tgt := 105) hx hb (by decide) (by decide) dL_of_94 (by decide) (fun c_94 => (show False by omega).elim) (fun c_94 => ?_)
  refine lv_aload_n hx hb dL_of_97 rfl (lv_at hl 0 rfl) ?_
  refine lv_iload_n hx hb dL_of_98 rfl (lv_at hl 2 rfl) ?_
  have htab : c.exceptionTable.toList = ([] : List ExceptionTableEntry) ++ ⟨0, 140, 141, 42⟩ :: [⟨0, 140, 146, 45⟩] := (vx_table (x := yL_of) B (hts (.codeWith yL_of cL_of 5 (some .int) [(0, 140, 141, 42), (0, 140, 146, 45)]) List.mem_cons_self)).trans rfl
  refine zx_go (kr_X3_paymentState_no l hfl (x := nI 1) (hq := (by omega)) (hk := (fun h => h (Or.inr (by decide)))) hx hb hml hown hts hK hP gL_of_X3_paymentState ⟨Nat.le_of_ble_eq_true rfl, Nat.le_of_ble_eq_true rfl⟩ ⟨Nat.le_of_ble_eq_true rfl, Nat.le_of_ble_eq_true rfl⟩ hl.1 (Nat.le_of_ble_eq_true rfl) dL_of_99 hT) (fun ce q9 H1 hz9 hk9 hce hcv hcl => ?_)
  refine vx_catch (own := RL) (name := "java/lang/IndexOutOfBoundsException") (E := "java/lang/IndexOutOfBoundsException") hown [] ⟨0, 140, 141, 42⟩ [⟨0, 140, 146, 45⟩] htab (fun z hz => nomatch hz) rfl (by decide) (hts (.classLink RL 42 "java/lang/IndexOutOfBoundsException") (by decide +kernel)) (va_Nw.use rfl hT.2.1.2.2) hce hcv hcl ?_
  have hS : va_S (fun _ => False) s.heap H1 [] := ⟨Nat.le_of_succ_le hz9, fun q hq _ => hk9 q hq, fun _ h => nomatch h⟩
  refine lv_astore (lv' := [(4, .ref q9), (0, .ref (ad 0)), (1, .int (nI 7)), (2, .int (nI 1)), (3, .int (-1))]) hx hb dL_of_141 hl (by decide) rfl (fun ls hl => ?_)
  refine lv_ldc hx hb hown (hts (.constant RL 44 (-200000001)) (by decide +kernel)) dL_of_143 ?_
  exact W.iret (v := (-200000001)) hx hb hr (fun t ht hW => ⟨⟨(-200000001), (), rfl, rfl, by show sz + 1 ≤ t.heap.size; rw [ht, ← hsz]; exact hz9⟩, hS.F ht⟩) hS.2.2 dL_of_145
section
variable {p : Program} {e : Env} {R : Room} {s : State} {m : MethodId} {args : Array Value} {below : List Frame} {meth : Method} {c : Code} {H : Heap} {locs : List Loc} {cells slots : Nat} {Q : State → Prop} {cc : ByteArray} {pc : Nat} {ls : Array Slot} {rest : List Value} {own : String} {index nL : Nat} {Ts : List Cond} {H0 : Heap} {A0 : Nat → Prop}
theorem k_of_7_1_m1 (l : Launch) {dC : Nat → ClassId} {dI : Nat → Nat → Nat} {cI cZ : ClassId} {ad : Nat → Nat} {sm fe ex dy : Int32} {gp gc op gr st dl wo yc ya ys yd zc zp zr zs zf : Nat → Int32} {z : Nat} {zm zt : Int64} (hfl : l.stackTraces = false) (hx : p.tables.exec = Jvm.exec) (hb : c.code = cc) (hml : c.maxLocals = nL) (hown : s.vm.findClass own = some m.cls) (hts : ∀ w ∈ Ts, w.before args s = true) (hK : va_K (dC, dI) vwCl [(cI, .int), (cZ, .boolean)] s) (hP : va_P (dC, dI) vwCl (wC cI cZ ad sm fe ex dy gp gc op gr st dl wo 0 yc ya ys yd 0 zc zp zr zs zf z zm zt) H) (hg9 : GoodIn Ts (va_wsS own index yL_of wsL_of)) (hR9 : 8 + 1 ≤ R.frames ∧ 8 + (5 + 11) + 132 ≤ R.locals) (hc9 : cells + 1 ≤ R.cells ∧ slots + 6 ≤ R.slots) (hl9 : ls.size = nL) (hw9 : (rest.map fun v => v.category).sum ≤ 8) (hdg : decode cc pc = .ok (.invokestatic index, 3)) (hT : tX (fun _ => False) s H) (hN : tN s) (hS : va_S A0 H0 H locs) (kk : ∀ (H1 : Heap) (locs1 : List Loc), va_S A0 H0 H1 locs1 → H.size + 1 ≤ H1.size → (∀ q : Nat, q < H.size → H1[q]? = H[q]?) → W p l e R s m args below meth c H1 locs1 (cells + 1) (slots + 6) Q (F0 m (pc + 3) ls (.int (-200000001) :: rest))) : W p l e R s m args below meth c H locs cells slots Q (F0 m pc ls (.int (-1) :: .int (nI 1) :: .int (nI 7) :: .ref (ad 0) :: rest)) := va_calli (vx_runSW (As := [.ref (ad 0), .int (nI 7), .int (nI 1), .int (-1)]) (rest := rest) ⟨hx, hb, hml, hown, hts⟩ (c_of_7_1_m1 (dC := dC) (dI := dI) (cI := cI) (cZ := cZ) (ad := ad) (sm := sm) (fe := fe) (ex := ex) (dy := dy) (gp := gp) (gc := gc) (op := op) (gr := gr) (st := st) (dl := dl) (wo := wo) (yc := yc) (ya := ya) (ys := ys) (yd := yd) (zc := zc) (zp := zp) (zr := zr) (zs := zs) (zf := zf) (z := z) (zm := zm) (zt := zt) l hfl H.size) (vx_cwSW 4 hts hg9 rfl rfl rfl (by decide +kernel) hR9) ⟨fun a U g mk q => ⟨q.1, q.2.1, va_K.moved (u := U) (U := U.calling g mk a) (Vm.Alike.refl U.vm) q.2.2.1, tX.same (u := U) (U := U.calling g mk a) rfl q.2.2.2.1, tN.moved (u := U) (U := U.calling g mk a) (Vm.Alike.refl U.vm) q.2.2.2.2.1, q.2.2.2.2.2⟩, fun U hU hW => ⟨rfl, by rw [hU]; exact hP, va_K.moved hW.alike hK, by rw [hU]; exact tX.warm hW hT, tN.moved hW.alike hN, by rw [hU]⟩⟩ rfl rfl hl9 rfl (lv_room hw9) hdg hc9) hS (fun _ _ h => h.elim) (fun _ h => h.elim) (fun r u t H1 locs1 ht _ hu hB hz hk hS1 => by subst hu; rw [ht] at hB; exact kk H1 locs1 hS1 hB (fun q hq => hk q hq (fun h => h)))
end
set_option maxHeartbeats 4000000 in
set_option maxRecDepth 100000 in
theorem c_of_8_1_m1 (l : Launch) {dC : Nat → ClassId} {dI : Nat → Nat → Nat} {cI cZ : ClassId} {ad : Nat → Nat} {sm fe ex dy : Int32} {gp gc op gr st dl wo yc ya ys yd zc zp zr zs zf : Nat → Int32} {z : Nat} {zm zt : Int64} (hfl : l.stackTraces = false) (sz : Nat) : Met l yL_of wsL_of { frames := 9, cells := 1, slots := 6, locals := 156 } (va_Pc [.ref (ad 0), .int (nI 8), .int (nI 1), .int (-1)] (fun U => va_P (dC, dI) vwCl (wC cI cZ ad sm fe ex dy gp gc op gr st dl wo 0 yc ya ys yd 0 zc zp zr zs zf z zm zt) U.heap ∧ va_K (dC, dI) vwCl [(cI, .int), (cZ, .boolean)] U ∧ tX (fun _ => False) U U.heap ∧ tN U ∧ U.heap.size = sz)) (va_Qi (fun r (_ : Unit) => r = (-200000001)) (fun _ t => sz + 1 ≤ t.heap.size) (fun _ => False)) 1 6 (fun _ => False) := by
  refine va_MetW (cc := cL_of) (maxL := 5) (ret := (some .int)) (hh := [(0, 140, 141, 42), (0, 140, 146, 45)]) (by decide) rfl ?_
  intro p e s m args below meth c s₁ B hml hv
  obtain ⟨rfl, hP, hK, hT, hN, hsz⟩ := hv
  have hx := B.exec
  have hb := B.bytes
  have hr := B.returns
  have hts := atoms_spec (ws := wsL_of) B.pre
  have hown : s.vm.findClass RL = some m.cls := findClass_of_methodNamed B.named
  have hlocks := B.notSynchronized
  have hl := lv_entry ([.ref (ad 0), .int (nI 8), .int (nI 1), .int (-1)]) (n := 5) (Nat.le_of_ble_eq_true rfl)
  rw [lg_entry_eq]
  generalize (lg_sl ([.ref (ad 0), .int (nI 8), .int (nI 1), .int (-1)]) ++ List.replicate (5 - (lg_sl ([.ref (ad 0), .int (nI 8), .int (nI 1), .int (-1)])).length) Slot.unset).toArray = ls at hl ⊢
  have hl : lv_has ls 5 [(0, .ref (ad 0)), (1, .int (nI 8)), (2, .int (nI 1)), (3, .int (-1))] := hl
  refine lv_iload_n hx hb dL_of_0 rfl (lv_at hl 1 rfl) ?_
  refine zi_ne (tgt := 12) hx hb (by decide) dL_of_1 (by decide) (fun c_1 => ?_) (fun c_1 => (show False by omega).elim)
  refine lv_iload_n hx hb dL_of_12 rfl (lv_at hl 1 rfl) ?_
  refine lv_iconst (v := nI 1) hx hb dL_of_13 (by decide) ?_
  refine zb_ne (tgt := 25) hx hb (by decide) (by decide) dL_of_14 (by decide) (fun c_14 => ?_) (fun c_14 => (show False by omega).elim)
  refine lv_iload_n hx hb dL_of_25 rfl (lv_at hl 1 rfl) ?_
  refine lv_iconst (v := nI 2) hx hb dL_of_26 (by decide) ?_
  refine zb_ne (tgt := 38) hx hb (by decide) (by decide) dL_of_27 (by decide) (fun c_27 => ?_) (fun c_27 => (show False by omega).elim)
  refine lv_iload_n hx hb dL_of_38 rfl (lv_at hl 1 rfl) ?_
  refine lv_iconst (v := nI 3) hx hb dL_of_39 (by decide) ?_
  refine zb_ne (tgt := 51) hx hb (by decide) (by decide) dL_of_40 (by decide) (fun c_40 => ?_) (fun c_40 => (show False by omega).elim)
  refine lv_iload_n hx hb dL_of_51 rfl (lv_at hl 1 rfl) ?_
  refine lv_iconst (v := nI 4) hx hb dL_of_52 (by decide) ?_
  refine zb_ne (tgt := 64) hx hb (by decide) (by decide) dL_of_53 (by decide) (fun c_53 => ?_) (fun c_53 => (show False by omega).elim)
  refine lv_iload_n hx hb dL_of_64 rfl (lv_at hl 1 rfl) ?_
  refine lv_iconst (v := nI 5) hx hb dL_of_65 (by decide) ?_
  refine zb_ne (tgt := 77) hx hb (by decide) (by decide) dL_of_66 (by decide) (fun c_66 => ?_) (fun c_66 => (show False by omega).elim)
  refine lv_iload_n hx hb dL_of_77 rfl (lv_at hl 1 rfl) ?_
  refine lv_bipush (v := nI 6) hx hb dL_of_78 (by decide) ?_
  refine zb_ne (tgt := 91) hx hb (by decide) (by decide) dL_of_80 (by decide) (fun c_80 => ?_) (fun c_80 => (show False by omega).elim)
  refine lv_iload_n hx hb dL_of_91 rfl (lv_at hl 1 rfl) ?_
  refine lv_bipush (v := nI 7) hx hb dL_of_92 (by decide) ?_
  refine zb_ne (tgt := 105) hx hb (by decide) (by decide) dL_of_94 (by decide) (fun c_94 => ?_) (fun c_94 => (show False by omega).elim)
  refine lv_iload_n hx hb dL_of_105 rfl (lv_at hl 1 rfl) ?_
  refine lv_bipush (v := nI 8) hx hb dL_of_106 (by decide) ?_
  refine zb_ne (tgt := 120) hx hb (by decide) (by decide) dL_of_108 (by decide) (fun c_108 => (show False by omega).elim) (fun c_108 => ?_)
  refine lv_aload_n hx hb dL_of_111 rfl (lv_at hl 0 rfl) ?_
  refine lv_iload_n hx hb dL_of_112 rfl (lv_at hl 2 rfl) ?_
  refine lv_iload_n hx hb dL_of_113 rfl (lv_at hl 3 rfl) ?_
  have htab : c.exceptionTable.toList = ([] : List ExceptionTableEntry) ++ ⟨0, 140, 141, 42⟩ :: [⟨0, 140, 146, 45⟩] := (vx_table (x := yL_of) B (hts (.codeWith yL_of cL_of 5 (some .int) [(0, 140, 141, 42), (0, 140, 146, 45)]) List.mem_cons_self)).trans rfl
  refine zx_go (kr_X3_shareOf_no l hfl (x := nI 1) (hn := (by omega)) (hk := (fun h => h (Or.inr (by decide)))) (le := (-1)) hx hb hml hown hts hK hP gL_of_X3_shareOf ⟨Nat.le_of_ble_eq_true rfl, Nat.le_of_ble_eq_true rfl⟩ ⟨Nat.le_of_ble_eq_true rfl, Nat.le_of_ble_eq_true rfl⟩ hl.1 (Nat.le_of_ble_eq_true rfl) dL_of_114 hT) (fun ce q9 H1 hz9 hk9 hce hcv hcl => ?_)
  refine vx_catch (own := RL) (name := "java/lang/IndexOutOfBoundsException") (E := "java/lang/IndexOutOfBoundsException") hown [] ⟨0, 140, 141, 42⟩ [⟨0, 140, 146, 45⟩] htab (fun z hz => nomatch hz) rfl (by decide) (hts (.classLink RL 42 "java/lang/IndexOutOfBoundsException") (by decide +kernel)) (va_Nw.use rfl hT.2.1.2.2) hce hcv hcl ?_
  have hS : va_S (fun _ => False) s.heap H1 [] := ⟨Nat.le_of_succ_le hz9, fun q hq _ => hk9 q hq, fun _ h => nomatch h⟩
  refine lv_astore (lv' := [(4, .ref q9), (0, .ref (ad 0)), (1, .int (nI 8)), (2, .int (nI 1)), (3, .int (-1))]) hx hb dL_of_141 hl (by decide) rfl (fun ls hl => ?_)
  refine lv_ldc hx hb hown (hts (.constant RL 44 (-200000001)) (by decide +kernel)) dL_of_143 ?_
  exact W.iret (v := (-200000001)) hx hb hr (fun t ht hW => ⟨⟨(-200000001), (), rfl, rfl, by show sz + 1 ≤ t.heap.size; rw [ht, ← hsz]; exact hz9⟩, hS.F ht⟩) hS.2.2 dL_of_145
section
variable {p : Program} {e : Env} {R : Room} {s : State} {m : MethodId} {args : Array Value} {below : List Frame} {meth : Method} {c : Code} {H : Heap} {locs : List Loc} {cells slots : Nat} {Q : State → Prop} {cc : ByteArray} {pc : Nat} {ls : Array Slot} {rest : List Value} {own : String} {index nL : Nat} {Ts : List Cond} {H0 : Heap} {A0 : Nat → Prop}
theorem k_of_8_1_m1 (l : Launch) {dC : Nat → ClassId} {dI : Nat → Nat → Nat} {cI cZ : ClassId} {ad : Nat → Nat} {sm fe ex dy : Int32} {gp gc op gr st dl wo yc ya ys yd zc zp zr zs zf : Nat → Int32} {z : Nat} {zm zt : Int64} (hfl : l.stackTraces = false) (hx : p.tables.exec = Jvm.exec) (hb : c.code = cc) (hml : c.maxLocals = nL) (hown : s.vm.findClass own = some m.cls) (hts : ∀ w ∈ Ts, w.before args s = true) (hK : va_K (dC, dI) vwCl [(cI, .int), (cZ, .boolean)] s) (hP : va_P (dC, dI) vwCl (wC cI cZ ad sm fe ex dy gp gc op gr st dl wo 0 yc ya ys yd 0 zc zp zr zs zf z zm zt) H) (hg9 : GoodIn Ts (va_wsS own index yL_of wsL_of)) (hR9 : 9 + 1 ≤ R.frames ∧ 8 + (5 + 11) + 156 ≤ R.locals) (hc9 : cells + 1 ≤ R.cells ∧ slots + 6 ≤ R.slots) (hl9 : ls.size = nL) (hw9 : (rest.map fun v => v.category).sum ≤ 8) (hdg : decode cc pc = .ok (.invokestatic index, 3)) (hT : tX (fun _ => False) s H) (hN : tN s) (hS : va_S A0 H0 H locs) (kk : ∀ (H1 : Heap) (locs1 : List Loc), va_S A0 H0 H1 locs1 → H.size + 1 ≤ H1.size → (∀ q : Nat, q < H.size → H1[q]? = H[q]?) → W p l e R s m args below meth c H1 locs1 (cells + 1) (slots + 6) Q (F0 m (pc + 3) ls (.int (-200000001) :: rest))) : W p l e R s m args below meth c H locs cells slots Q (F0 m pc ls (.int (-1) :: .int (nI 1) :: .int (nI 8) :: .ref (ad 0) :: rest)) := va_calli (vx_runSW (As := [.ref (ad 0), .int (nI 8), .int (nI 1), .int (-1)]) (rest := rest) ⟨hx, hb, hml, hown, hts⟩ (c_of_8_1_m1 (dC := dC) (dI := dI) (cI := cI) (cZ := cZ) (ad := ad) (sm := sm) (fe := fe) (ex := ex) (dy := dy) (gp := gp) (gc := gc) (op := op) (gr := gr) (st := st) (dl := dl) (wo := wo) (yc := yc) (ya := ya) (ys := ys) (yd := yd) (zc := zc) (zp := zp) (zr := zr) (zs := zs) (zf := zf) (z := z) (zm := zm) (zt := zt) l hfl H.size) (vx_cwSW 4 hts hg9 rfl rfl rfl (by decide +kernel) hR9) ⟨fun a U g mk q => ⟨q.1, q.2.1, va_K.moved (u := U) (U := U.calling g mk a) (Vm.Alike.refl U.vm) q.2.2.1, tX.same (u := U) (U := U.calling g mk a) rfl q.2.2.2.1, tN.moved (u := U) (U := U.calling g mk a) (Vm.Alike.refl U.vm) q.2.2.2.2.1, q.2.2.2.2.2⟩, fun U hU hW => ⟨rfl, by rw [hU]; exact hP, va_K.moved hW.alike hK, by rw [hU]; exact tX.warm hW hT, tN.moved hW.alike hN, by rw [hU]⟩⟩ rfl rfl hl9 rfl (lv_room hw9) hdg hc9) hS (fun _ _ h => h.elim) (fun _ h => h.elim) (fun r u t H1 locs1 ht _ hu hB hz hk hS1 => by subst hu; rw [ht] at hB; exact kk H1 locs1 hS1 hB (fun q hq => hk q hq (fun h => h)))
end
set_option maxHeartbeats 4000000 in
set_option maxRecDepth 100000 in
theorem c_of_9_1_m1 (l : Launch) {dC : Nat → ClassId} {dI : Nat → Nat → Nat} {cI cZ : ClassId} {ad : Nat → Nat} {sm fe ex dy : Int32} {gp gc op gr st dl wo yc ya ys yd zc zp zr zs zf : Nat → Int32} {z : Nat} {zm zt : Int64} (hfl : l.stackTraces = false) (sz : Nat) : Met l yL_of wsL_of { frames := 9, cells := 1, slots := 6, locals := 156 } (va_Pc [.ref (ad 0), .int (nI 9), .int (nI 1), .int (-1)] (fun U => va_P (dC, dI) vwCl (wC cI cZ ad sm fe ex dy gp gc op gr st dl wo 0 yc ya ys yd 0 zc zp zr zs zf z zm zt) U.heap ∧ va_K (dC, dI) vwCl [(cI, .int), (cZ, .boolean)] U ∧ tX (fun _ => False) U U.heap ∧ tN U ∧ U.heap.size = sz)) (va_Qi (fun r (_ : Unit) => r = (-200000001)) (fun _ t => sz + 1 ≤ t.heap.size) (fun _ => False)) 1 6 (fun _ => False) := by
  refine va_MetW (cc := cL_of) (maxL := 5) (ret := (some .int)) (hh := [(0, 140, 141, 42), (0, 140, 146, 45)]) (by decide) rfl ?_
  intro p e s m args below meth c s₁ B hml hv
  obtain ⟨rfl, hP, hK, hT, hN, hsz⟩ := hv
  have hx := B.exec
  have hb := B.bytes
  have hr := B.returns
  have hts := atoms_spec (ws := wsL_of) B.pre
  have hown : s.vm.findClass RL = some m.cls := findClass_of_methodNamed B.named
  have hlocks := B.notSynchronized
  have hl := lv_entry ([.ref (ad 0), .int (nI 9), .int (nI 1), .int (-1)]) (n := 5) (Nat.le_of_ble_eq_true rfl)
  rw [lg_entry_eq]
  generalize (lg_sl ([.ref (ad 0), .int (nI 9), .int (nI 1), .int (-1)]) ++ List.replicate (5 - (lg_sl ([.ref (ad 0), .int (nI 9), .int (nI 1), .int (-1)])).length) Slot.unset).toArray = ls at hl ⊢
  have hl : lv_has ls 5 [(0, .ref (ad 0)), (1, .int (nI 9)), (2, .int (nI 1)), (3, .int (-1))] := hl
  refine lv_iload_n hx hb dL_of_0 rfl (lv_at hl 1 rfl) ?_
  refine zi_ne (tgt := 12) hx hb (by decide) dL_of_1 (by decide) (fun c_1 => ?_) (fun c_1 => (show False by omega).elim)
  refine lv_iload_n hx hb dL_of_12 rfl (lv_at hl 1 rfl) ?_
  refine lv_iconst (v := nI 1) hx hb dL_of_13 (by decide) ?_
  refine zb_ne (tgt := 25) hx hb (by decide) (by decide) dL_of_14 (by decide) (fun c_14 => ?_) (fun c_14 => (show False by omega).elim)
  refine lv_iload_n hx hb dL_of_25 rfl (lv_at hl 1 rfl) ?_
  refine lv_iconst (v := nI 2) hx hb dL_of_26 (by decide) ?_
  refine zb_ne (tgt := 38) hx hb (by decide) (by decide) dL_of_27 (by decide) (fun c_27 => ?_) (fun c_27 => (show False by omega).elim)
  refine lv_iload_n hx hb dL_of_38 rfl (lv_at hl 1 rfl) ?_
  refine lv_iconst (v := nI 3) hx hb dL_of_39 (by decide) ?_
  refine zb_ne (tgt := 51) hx hb (by decide) (by decide) dL_of_40 (by decide) (fun c_40 => ?_) (fun c_40 => (show False by omega).elim)
  refine lv_iload_n hx hb dL_of_51 rfl (lv_at hl 1 rfl) ?_
  refine lv_iconst (v := nI 4) hx hb dL_of_52 (by decide) ?_
  refine zb_ne (tgt := 64) hx hb (by decide) (by decide) dL_of_53 (by decide) (fun c_53 => ?_) (fun c_53 => (show False by omega).elim)
  refine lv_iload_n hx hb dL_of_64 rfl (lv_at hl 1 rfl) ?_
  refine lv_iconst (v := nI 5) hx hb dL_of_65 (by decide) ?_
  refine zb_ne (tgt := 77) hx hb (by decide) (by decide) dL_of_66 (by decide) (fun c_66 => ?_) (fun c_66 => (show False by omega).elim)
  refine lv_iload_n hx hb dL_of_77 rfl (lv_at hl 1 rfl) ?_
  refine lv_bipush (v := nI 6) hx hb dL_of_78 (by decide) ?_
  refine zb_ne (tgt := 91) hx hb (by decide) (by decide) dL_of_80 (by decide) (fun c_80 => ?_) (fun c_80 => (show False by omega).elim)
  refine lv_iload_n hx hb dL_of_91 rfl (lv_at hl 1 rfl) ?_
  refine lv_bipush (v := nI 7) hx hb dL_of_92 (by decide) ?_
  refine zb_ne (tgt := 105) hx hb (by decide) (by decide) dL_of_94 (by decide) (fun c_94 => ?_) (fun c_94 => (show False by omega).elim)
  refine lv_iload_n hx hb dL_of_105 rfl (lv_at hl 1 rfl) ?_
  refine lv_bipush (v := nI 8) hx hb dL_of_106 (by decide) ?_
  refine zb_ne (tgt := 120) hx hb (by decide) (by decide) dL_of_108 (by decide) (fun c_108 => ?_) (fun c_108 => (show False by omega).elim)
  refine lv_iload_n hx hb dL_of_120 rfl (lv_at hl 1 rfl) ?_
  refine lv_bipush (v := nI 9) hx hb dL_of_121 (by decide) ?_
  refine zb_ne (tgt := 135) hx hb (by decide) (by decide) dL_of_123 (by decide) (fun c_123 => (show False by omega).elim) (fun c_123 => ?_)
  refine lv_aload_n hx hb dL_of_126 rfl (lv_at hl 0 rfl) ?_
  refine lv_iload_n hx hb dL_of_127 rfl (lv_at hl 2 rfl) ?_
  refine lv_iload_n hx hb dL_of_128 rfl (lv_at hl 3 rfl) ?_
  have htab : c.exceptionTable.toList = ([] : List ExceptionTableEntry) ++ ⟨0, 140, 141, 42⟩ :: [⟨0, 140, 146, 45⟩] := (vx_table (x := yL_of) B (hts (.codeWith yL_of cL_of 5 (some .int) [(0, 140, 141, 42), (0, 140, 146, 45)]) List.mem_cons_self)).trans rfl
  refine zx_go (kr_X3_shareBySorting_no l hfl (x := nI 1) (hn := (by omega)) (hk := (fun h => h (Or.inr (by decide)))) (le := (-1)) hx hb hml hown hts hK hP gL_of_X3_shareBySorting ⟨Nat.le_of_ble_eq_true rfl, Nat.le_of_ble_eq_true rfl⟩ ⟨Nat.le_of_ble_eq_true rfl, Nat.le_of_ble_eq_true rfl⟩ hl.1 (Nat.le_of_ble_eq_true rfl) dL_of_129 hT) (fun ce q9 H1 hz9 hk9 hce hcv hcl => ?_)
  refine vx_catch (own := RL) (name := "java/lang/IndexOutOfBoundsException") (E := "java/lang/IndexOutOfBoundsException") hown [] ⟨0, 140, 141, 42⟩ [⟨0, 140, 146, 45⟩] htab (fun z hz => nomatch hz) rfl (by decide) (hts (.classLink RL 42 "java/lang/IndexOutOfBoundsException") (by decide +kernel)) (va_Nw.use rfl hT.2.1.2.2) hce hcv hcl ?_
  have hS : va_S (fun _ => False) s.heap H1 [] := ⟨Nat.le_of_succ_le hz9, fun q hq _ => hk9 q hq, fun _ h => nomatch h⟩
  refine lv_astore (lv' := [(4, .ref q9), (0, .ref (ad 0)), (1, .int (nI 9)), (2, .int (nI 1)), (3, .int (-1))]) hx hb dL_of_141 hl (by decide) rfl (fun ls hl => ?_)
  refine lv_ldc hx hb hown (hts (.constant RL 44 (-200000001)) (by decide +kernel)) dL_of_143 ?_
  exact W.iret (v := (-200000001)) hx hb hr (fun t ht hW => ⟨⟨(-200000001), (), rfl, rfl, by show sz + 1 ≤ t.heap.size; rw [ht, ← hsz]; exact hz9⟩, hS.F ht⟩) hS.2.2 dL_of_145
section
variable {p : Program} {e : Env} {R : Room} {s : State} {m : MethodId} {args : Array Value} {below : List Frame} {meth : Method} {c : Code} {H : Heap} {locs : List Loc} {cells slots : Nat} {Q : State → Prop} {cc : ByteArray} {pc : Nat} {ls : Array Slot} {rest : List Value} {own : String} {index nL : Nat} {Ts : List Cond} {H0 : Heap} {A0 : Nat → Prop}
theorem k_of_9_1_m1 (l : Launch) {dC : Nat → ClassId} {dI : Nat → Nat → Nat} {cI cZ : ClassId} {ad : Nat → Nat} {sm fe ex dy : Int32} {gp gc op gr st dl wo yc ya ys yd zc zp zr zs zf : Nat → Int32} {z : Nat} {zm zt : Int64} (hfl : l.stackTraces = false) (hx : p.tables.exec = Jvm.exec) (hb : c.code = cc) (hml : c.maxLocals = nL) (hown : s.vm.findClass own = some m.cls) (hts : ∀ w ∈ Ts, w.before args s = true) (hK : va_K (dC, dI) vwCl [(cI, .int), (cZ, .boolean)] s) (hP : va_P (dC, dI) vwCl (wC cI cZ ad sm fe ex dy gp gc op gr st dl wo 0 yc ya ys yd 0 zc zp zr zs zf z zm zt) H) (hg9 : GoodIn Ts (va_wsS own index yL_of wsL_of)) (hR9 : 9 + 1 ≤ R.frames ∧ 8 + (5 + 11) + 156 ≤ R.locals) (hc9 : cells + 1 ≤ R.cells ∧ slots + 6 ≤ R.slots) (hl9 : ls.size = nL) (hw9 : (rest.map fun v => v.category).sum ≤ 8) (hdg : decode cc pc = .ok (.invokestatic index, 3)) (hT : tX (fun _ => False) s H) (hN : tN s) (hS : va_S A0 H0 H locs) (kk : ∀ (H1 : Heap) (locs1 : List Loc), va_S A0 H0 H1 locs1 → H.size + 1 ≤ H1.size → (∀ q : Nat, q < H.size → H1[q]? = H[q]?) → W p l e R s m args below meth c H1 locs1 (cells + 1) (slots + 6) Q (F0 m (pc + 3) ls (.int (-200000001) :: rest))) : W p l e R s m args below meth c H locs cells slots Q (F0 m pc ls (.int (-1) :: .int (nI 1) :: .int (nI 9) :: .ref (ad 0) :: rest)) := va_calli (vx_runSW (As := [.ref (ad 0), .int (nI 9), .int (nI 1), .int (-1)]) (rest := rest) ⟨hx, hb, hml, hown, hts⟩ (c_of_9_1_m1 (dC := dC) (dI := dI) (cI := cI) (cZ := cZ) (ad := ad) (sm := sm) (fe := fe) (ex := ex) (dy := dy) (gp := gp) (gc := gc) (op := op) (gr := gr) (st := st) (dl := dl) (wo := wo) (yc := yc) (ya := ya) (ys := ys) (yd := yd) (zc := zc) (zp := zp) (zr := zr) (zs := zs) (zf := zf) (z := z) (zm := zm) (zt := zt) l hfl H.size) (vx_cwSW 4 hts hg9 rfl rfl rfl (by decide +kernel) hR9) ⟨fun a U g mk q => ⟨q.1, q.2.1, va_K.moved (u := U) (U := U.calling g mk a) (Vm.Alike.refl U.vm) q.2.2.1, tX.same (u := U) (U := U.calling g mk a) rfl q.2.2.2.1, tN.moved (u := U) (U := U.calling g mk a) (Vm.Alike.refl U.vm) q.2.2.2.2.1, q.2.2.2.2.2⟩, fun U hU hW => ⟨rfl, by rw [hU]; exact hP, va_K.moved hW.alike hK, by rw [hU]; exact tX.warm hW hT, tN.moved hW.alike hN, by rw [hU]⟩⟩ rfl rfl hl9 rfl (lv_room hw9) hdg hc9) hS (fun _ _ h => h.elim) (fun _ h => h.elim) (fun r u t H1 locs1 ht _ hu hB hz hk hS1 => by subst hu; rw [ht] at hB; exact kk H1 locs1 hS1 hB (fun q hq => hk q hq (fun h => h)))
end
set_option maxHeartbeats 4000000 in
set_option maxRecDepth 100000 in
theorem c_of_10_4_m1 (l : Launch) {dC : Nat → ClassId} {dI : Nat → Nat → Nat} {cI cZ : ClassId} {ad : Nat → Nat} {sm fe ex dy : Int32} {gp gc op gr st dl wo yc ya ys yd zc zp zr zs zf : Nat → Int32} {z : Nat} {zm zt : Int64} (hfl : l.stackTraces = false) (sz : Nat) : Met l yL_of wsL_of { frames := 7, cells := 1, slots := 6, locals := 111 } (va_Pc [.ref (ad 0), .int (nI 10), .int (nI 4), .int (-1)] (fun U => va_P (dC, dI) vwCl (wC cI cZ ad sm fe ex dy gp gc op gr st dl wo 0 yc ya ys yd 0 zc zp zr zs zf z zm zt) U.heap ∧ va_K (dC, dI) vwCl [(cI, .int), (cZ, .boolean)] U ∧ tX (fun _ => False) U U.heap ∧ tN U ∧ U.heap.size = sz)) (va_Qi (fun r (_ : Unit) => r = (-200000002)) (fun _ t => sz + 1 ≤ t.heap.size) (fun _ => False)) 1 6 (fun _ => False) := by
  refine va_MetW (cc := cL_of) (maxL := 5) (ret := (some .int)) (hh := [(0, 140, 141, 42), (0, 140, 146, 45)]) (by decide) rfl ?_
  intro p e s m args below meth c s₁ B hml hv
  obtain ⟨rfl, hP, hK, hT, hN, hsz⟩ := hv
  have hx := B.exec
  have hb := B.bytes
  have hr := B.returns
  have hts := atoms_spec (ws := wsL_of) B.pre
  have hown : s.vm.findClass RL = some m.cls := findClass_of_methodNamed B.named
  have hlocks := B.notSynchronized
  have hl := lv_entry ([.ref (ad 0), .int (nI 10), .int (nI 4), .int (-1)]) (n := 5) (Nat.le_of_ble_eq_true rfl)
  rw [lg_entry_eq]
  generalize (lg_sl ([.ref (ad 0), .int (nI 10), .int (nI 4), .int (-1)]) ++ List.replicate (5 - (lg_sl ([.ref (ad 0), .int (nI 10), .int (nI 4), .int (-1)])).length) Slot.unset).toArray = ls at hl ⊢
  have hl : lv_has ls 5 [(0, .ref (ad 0)), (1, .int (nI 10)), (2, .int (nI 4)), (3, .int (-1))] := hl
  refine lv_iload_n hx hb dL_of_0 rfl (lv_at hl 1 rfl) ?_
  refine zi_ne (tgt := 12) hx hb (by decide) dL_of_1 (by decide) (fun c_1 => ?_) (fun c_1 => (show False by omega).elim)
  refine lv_iload_n hx hb dL_of_12 rfl (lv_at hl 1 rfl) ?_
  refine lv_iconst (v := nI 1) hx hb dL_of_13 (by decide) ?_
  refine zb_ne (tgt := 25) hx hb (by decide) (by decide) dL_of_14 (by decide) (fun c_14 => ?_) (fun c_14 => (show False by omega).elim)
  refine lv_iload_n hx hb dL_of_25 rfl (lv_at hl 1 rfl) ?_
  refine lv_iconst (v := nI 2) hx hb dL_of_26 (by decide) ?_
  refine zb_ne (tgt := 38) hx hb (by decide) (by decide) dL_of_27 (by decide) (fun c_27 => ?_) (fun c_27 => (show False by omega).elim)
  refine lv_iload_n hx hb dL_of_38 rfl (lv_at hl 1 rfl) ?_
  refine lv_iconst (v := nI 3) hx hb dL_of_39 (by decide) ?_
  refine zb_ne (tgt := 51) hx hb (by decide) (by decide) dL_of_40 (by decide) (fun c_40 => ?_) (fun c_40 => (show False by omega).elim)
  refine lv_iload_n hx hb dL_of_51 rfl (lv_at hl 1 rfl) ?_
  refine lv_iconst (v := nI 4) hx hb dL_of_52 (by decide) ?_
  refine zb_ne (tgt := 64) hx hb (by decide) (by decide) dL_of_53 (by decide) (fun c_53 => ?_) (fun c_53 => (show False by omega).elim)
  refine lv_iload_n hx hb dL_of_64 rfl (lv_at hl 1 rfl) ?_
  refine lv_iconst (v := nI 5) hx hb dL_of_65 (by decide) ?_
  refine zb_ne (tgt := 77) hx hb (by decide) (by decide) dL_of_66 (by decide) (fun c_66 => ?_) (fun c_66 => (show False by omega).elim)
  refine lv_iload_n hx hb dL_of_77 rfl (lv_at hl 1 rfl) ?_
  refine lv_bipush (v := nI 6) hx hb dL_of_78 (by decide) ?_
  refine zb_ne (tgt := 91) hx hb (by decide) (by decide) dL_of_80 (by decide) (fun c_80 => ?_) (fun c_80 => (show False by omega).elim)
  refine lv_iload_n hx hb dL_of_91 rfl (lv_at hl 1 rfl) ?_
  refine lv_bipush (v := nI 7) hx hb dL_of_92 (by decide) ?_
  refine zb_ne (tgt := 105) hx hb (by decide) (by decide) dL_of_94 (by decide) (fun c_94 => ?_) (fun c_94 => (show False by omega).elim)
  refine lv_iload_n hx hb dL_of_105 rfl (lv_at hl 1 rfl) ?_
  refine lv_bipush (v := nI 8) hx hb dL_of_106 (by decide) ?_
  refine zb_ne (tgt := 120) hx hb (by decide) (by decide) dL_of_108 (by decide) (fun c_108 => ?_) (fun c_108 => (show False by omega).elim)
  refine lv_iload_n hx hb dL_of_120 rfl (lv_at hl 1 rfl) ?_
  refine lv_bipush (v := nI 9) hx hb dL_of_121 (by decide) ?_
  refine zb_ne (tgt := 135) hx hb (by decide) (by decide) dL_of_123 (by decide) (fun c_123 => ?_) (fun c_123 => (show False by omega).elim)
  refine lv_aload_n hx hb dL_of_135 rfl (lv_at hl 0 rfl) ?_
  refine lv_iload_n hx hb dL_of_136 rfl (lv_at hl 2 rfl) ?_
  have htab : c.exceptionTable.toList = ([⟨0, 140, 141, 42⟩] : List ExceptionTableEntry) ++ ⟨0, 140, 146, 45⟩ :: [] := (vx_table (x := yL_of) B (hts (.codeWith yL_of cL_of 5 (some .int) [(0, 140, 141, 42), (0, 140, 146, 45)]) List.mem_cons_self)).trans rfl
  refine zx_go (kr_X3_count_no l hfl (x := nI 4) (h1 := (by decide)) hx hb hml hown hts hK hP gL_of_X3_count ⟨Nat.le_of_ble_eq_true rfl, Nat.le_of_ble_eq_true rfl⟩ ⟨Nat.le_of_ble_eq_true rfl, Nat.le_of_ble_eq_true rfl⟩ hl.1 (Nat.le_of_ble_eq_true rfl) dL_of_137 hT) (fun ce q9 H1 hz9 hk9 hce hcv hcl => ?_)
  refine vx_catch (own := RL) (name := "java/lang/IllegalArgumentException") (E := "java/lang/IllegalArgumentException") hown [⟨0, 140, 141, 42⟩] ⟨0, 140, 146, 45⟩ [] htab (fun z hz => by rcases List.mem_singleton.mp hz with rfl; exact Or.inr ⟨by decide, _, hts (.classLink RL 42 "java/lang/IndexOutOfBoundsException") (by decide +kernel), hN.1.2⟩) rfl (by decide) (hts (.classLink RL 45 "java/lang/IllegalArgumentException") (by decide +kernel)) (va_Nw.use rfl hT.2.1.1) hce hcv hcl ?_
  have hS : va_S (fun _ => False) s.heap H1 [] := ⟨Nat.le_of_succ_le hz9, fun q hq _ => hk9 q hq, fun _ h => nomatch h⟩
  refine lv_astore (lv' := [(4, .ref q9), (0, .ref (ad 0)), (1, .int (nI 10)), (2, .int (nI 4)), (3, .int (-1))]) hx hb dL_of_146 hl (by decide) rfl (fun ls hl => ?_)
  refine lv_ldc hx hb hown (hts (.constant RL 47 (-200000002)) (by decide +kernel)) dL_of_148 ?_
  exact W.iret (v := (-200000002)) hx hb hr (fun t ht hW => ⟨⟨(-200000002), (), rfl, rfl, by show sz + 1 ≤ t.heap.size; rw [ht, ← hsz]; exact hz9⟩, hS.F ht⟩) hS.2.2 dL_of_150
section
variable {p : Program} {e : Env} {R : Room} {s : State} {m : MethodId} {args : Array Value} {below : List Frame} {meth : Method} {c : Code} {H : Heap} {locs : List Loc} {cells slots : Nat} {Q : State → Prop} {cc : ByteArray} {pc : Nat} {ls : Array Slot} {rest : List Value} {own : String} {index nL : Nat} {Ts : List Cond} {H0 : Heap} {A0 : Nat → Prop}
theorem k_of_10_4_m1 (l : Launch) {dC : Nat → ClassId} {dI : Nat → Nat → Nat} {cI cZ : ClassId} {ad : Nat → Nat} {sm fe ex dy : Int32} {gp gc op gr st dl wo yc ya ys yd zc zp zr zs zf : Nat → Int32} {z : Nat} {zm zt : Int64} (hfl : l.stackTraces = false) (hx : p.tables.exec = Jvm.exec) (hb : c.code = cc) (hml : c.maxLocals = nL) (hown : s.vm.findClass own = some m.cls) (hts : ∀ w ∈ Ts, w.before args s = true) (hK : va_K (dC, dI) vwCl [(cI, .int), (cZ, .boolean)] s) (hP : va_P (dC, dI) vwCl (wC cI cZ ad sm fe ex dy gp gc op gr st dl wo 0 yc ya ys yd 0 zc zp zr zs zf z zm zt) H) (hg9 : GoodIn Ts (va_wsS own index yL_of wsL_of)) (hR9 : 7 + 1 ≤ R.frames ∧ 8 + (5 + 11) + 111 ≤ R.locals) (hc9 : cells + 1 ≤ R.cells ∧ slots + 6 ≤ R.slots) (hl9 : ls.size = nL) (hw9 : (rest.map fun v => v.category).sum ≤ 8) (hdg : decode cc pc = .ok (.invokestatic index, 3)) (hT : tX (fun _ => False) s H) (hN : tN s) (hS : va_S A0 H0 H locs) (kk : ∀ (H1 : Heap) (locs1 : List Loc), va_S A0 H0 H1 locs1 → H.size + 1 ≤ H1.size → (∀ q : Nat, q < H.size → H1[q]? = H[q]?) → W p l e R s m args below meth c H1 locs1 (cells + 1) (slots + 6) Q (F0 m (pc + 3) ls (.int (-200000002) :: rest))) : W p l e R s m args below meth c H locs cells slots Q (F0 m pc ls (.int (-1) :: .int (nI 4) :: .int (nI 10) :: .ref (ad 0) :: rest)) := va_calli (vx_runSW (As := [.ref (ad 0), .int (nI 10), .int (nI 4), .int (-1)]) (rest := rest) ⟨hx, hb, hml, hown, hts⟩ (c_of_10_4_m1 (dC := dC) (dI := dI) (cI := cI) (cZ := cZ) (ad := ad) (sm := sm) (fe := fe) (ex := ex) (dy := dy) (gp := gp) (gc := gc) (op := op) (gr := gr) (st := st) (dl := dl) (wo := wo) (yc := yc) (ya := ya) (ys := ys) (yd := yd) (zc := zc) (zp := zp) (zr := zr) (zs := zs) (zf := zf) (z := z) (zm := zm) (zt := zt) l hfl H.size) (vx_cwSW 4 hts hg9 rfl rfl rfl (by decide +kernel) hR9) ⟨fun a U g mk q => ⟨q.1, q.2.1, va_K.moved (u := U) (U := U.calling g mk a) (Vm.Alike.refl U.vm) q.2.2.1, tX.same (u := U) (U := U.calling g mk a) rfl q.2.2.2.1, tN.moved (u := U) (U := U.calling g mk a) (Vm.Alike.refl U.vm) q.2.2.2.2.1, q.2.2.2.2.2⟩, fun U hU hW => ⟨rfl, by rw [hU]; exact hP, va_K.moved hW.alike hK, by rw [hU]; exact tX.warm hW hT, tN.moved hW.alike hN, by rw [hU]⟩⟩ rfl rfl hl9 rfl (lv_room hw9) hdg hc9) hS (fun _ _ h => h.elim) (fun _ h => h.elim) (fun r u t H1 locs1 ht _ hu hB hz hk hS1 => by subst hu; rw [ht] at hB; exact kk H1 locs1 hS1 hB (fun q hq => hk q hq (fun h => h)))
end
