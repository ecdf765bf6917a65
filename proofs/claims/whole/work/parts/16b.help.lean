set_option maxHeartbeats 4000000 in
set_option maxRecDepth 100000 in
theorem h_claimOf_ok (l : Launch) {dC : Nat → ClassId} {dI : Nat → Nat → Nat} {cI cZ cJ : ClassId} {ad : Nat → Nat} {o9 : Nat} {sm fe ex dy : Int32} {gp gc op gr st dl wo : Nat → Int32} {n : Nat} {yc ya ys yd : Nat → Int32} {q : Nat} {zc zp zr zs zf : Nat → Int32} {z : Nat} {zm zt : Int64} {fo : Nat → Int64} {k : Nat} (hI : iwC ad) (ho : ¬ awC ad o9) (hk : k < 30) (h1 : outN (nI k) (nI 0) (nI 29) = 0) : Met l yL_claimOf wsL_claimOf { frames := 2, cells := 0, slots := 0, locals := 43 } (va_Pc [.ref (ad 0), .int (nI k), .ref o9] (fun U => va_P (dC, dI) vwCl (wC cI cZ ad sm fe ex dy gp gc op gr st dl wo n yc ya ys yd q zc zp zr zs zf z zm zt) U.heap ∧ va_K (dC, dI) vwCl [(cI, .int), (cZ, .boolean)] U ∧ va_P (dC, dI) vwCl [(o9, .inl (cJ, 1, .inr (.inl fo)))] U.heap ∧ va_K (dC, dI) vwCl [(cJ, .long)] U)) (va_Qi (fun r (_ : Unit) => r = nI 0) (fun (u9 : Unit) t => va_P (dC, dI) vwCl (wC cI cZ ad sm fe ex dy gp gc op gr st dl wo n yc ya ys yd q zc zp zr zs zf z zm zt) t.heap ∧ ∃ f9 : Nat → Int64, f9 0 = (op k).toInt64 ∧ va_P (dC, dI) vwCl [(o9, .inl (cJ, 1, .inr (.inl f9)))] t.heap) (fun x => awC ad x ∨ x = o9)) 0 0 (fun x => awC ad x ∨ x = o9) := by
  refine va_MetW (cc := cL_claimOf) (maxL := 4) (ret := (some .int)) (hh := [(0, 9, 12, 21)]) (by decide) rfl ?_
  intro p e s m args below meth c s₁ B hml hv
  obtain ⟨rfl, hP, hK, hPo, hKJ⟩ := hv
  have hx := B.exec
  have hb := B.bytes
  have hr := B.returns
  have hts := atoms_spec (ws := wsL_claimOf) B.pre
  have hown : s.vm.findClass RL = some m.cls := findClass_of_methodNamed B.named
  have hlocks := B.notSynchronized
  have hA : ∀ x, awC ad x → (fun x => awC ad x ∨ x = o9) x := fun x h => Or.inl h
  have hS : va_S (fun x => awC ad x ∨ x = o9) s.heap s.heap [] := va_S.rf
  have hl := lv_entry ([.ref (ad 0), .int (nI k), .ref o9]) (n := 4) (Nat.le_of_ble_eq_true rfl)
  rw [lg_entry_eq]
  generalize (lg_sl ([.ref (ad 0), .int (nI k), .ref o9]) ++ List.replicate (4 - (lg_sl ([.ref (ad 0), .int (nI k), .ref o9])).length) Slot.unset).toArray = ls at hl ⊢
  have hl : lv_has ls 4 [(0, .ref (ad 0)), (1, .int (nI k)), (2, .ref o9)] := hl
  refine lv_aload_n hx hb dL_claimOf_0 rfl (lv_at hl 2 rfl) ?_
  refine lv_iconst (v := nI 0) hx hb dL_claimOf_1 (by decide) ?_
  refine lv_aload_n hx hb dL_claimOf_2 rfl (lv_at hl 0 rfl) ?_
  refine lv_iload_n hx hb dL_claimOf_3 rfl (lv_at hl 1 rfl) ?_
  refine k_X3_claimOf_ok l (k := k) (hk := hk) (h1 := h1) hx hb hml hown hts hK hP gL_claimOf_X3_claimOf ⟨Nat.le_of_ble_eq_true rfl, Nat.le_of_ble_eq_true rfl⟩ ⟨Nat.le_of_ble_eq_true rfl, Nat.le_of_ble_eq_true rfl⟩ hl.1 (Nat.le_of_ble_eq_true rfl) dL_claimOf_4 ?_
  refine lv_i2l (v := (op k).toInt64) hx hb dL_claimOf_7 rfl ?_
  have hPL := hP.app hPo
  refine va_last hx hb hKJ hPL (dwL hI ho ..) hS 20 0 rfl rfl (vp_in_nI (n := 0) (by decide) (by decide)) dL_claimOf_8 (fun H locs hPL _ hS => ?_)
  have hP : va_P (dC, dI) vwCl (wC cI cZ ad sm fe ex dy gp gc op gr st dl wo n yc ya ys yd q zc zp zr zs zf z zm zt) H := hPL.sub [0, 1, 2, 3, 4, 5, 6, 7, 8, 9, 10, 11, 12, 13, 14, 15, 16, 17, 18, 19] rfl
  have hPo : va_P (dC, dI) vwCl [(o9, .inl (cJ, 1, .inr (.inl (vp_updL fo (nI 0).toNatClampNeg (op k).toInt64))))] H := hPL.sub [20] rfl
  refine lv_goto (tgt := 15) hx hb dL_claimOf_9 (by decide) ?_
  refine lv_iconst (v := nI 0) hx hb dL_claimOf_15 (by decide) ?_
  exact W.iret (v := nI 0) hx hb hr (fun t ht hW => ⟨⟨nI 0, (), rfl, rfl, ⟨by (try dsimp only); rw [ht]; exact hP, _, by unfold vp_updL; exact if_pos (by decide), by rw [ht]; exact hPo⟩⟩, hS.F ht⟩) hS.2.2 dL_claimOf_16
section
variable {p : Program} {e : Env} {R : Room} {s : State} {m : MethodId} {args : Array Value} {below : List Frame} {meth : Method} {c : Code} {H : Heap} {locs : List Loc} {cells slots : Nat} {Q : State → Prop} {cc : ByteArray} {pc : Nat} {ls : Array Slot} {rest : List Value} {own : String} {index nL : Nat} {Ts : List Cond} {H0 : Heap} {A0 : Nat → Prop}
theorem kh_claimOf_ok (l : Launch) {dC : Nat → ClassId} {dI : Nat → Nat → Nat} {cI cZ cJ : ClassId} {ad : Nat → Nat} {o9 : Nat} {sm fe ex dy : Int32} {gp gc op gr st dl wo : Nat → Int32} {n : Nat} {yc ya ys yd : Nat → Int32} {q : Nat} {zc zp zr zs zf : Nat → Int32} {z : Nat} {zm zt : Int64} {fo : Nat → Int64} {k : Nat} (hk : k < 30) (h1 : outN (nI k) (nI 0) (nI 29) = 0) (hx : p.tables.exec = Jvm.exec) (hb : c.code = cc) (hml : c.maxLocals = nL) (hown : s.vm.findClass own = some m.cls) (hts : ∀ w ∈ Ts, w.before args s = true) (hK : va_K (dC, dI) vwCl [(cI, .int), (cZ, .boolean)] s) (hP : va_P (dC, dI) vwCl (wC cI cZ ad sm fe ex dy gp gc op gr st dl wo n yc ya ys yd q zc zp zr zs zf z zm zt) H) (hg9 : GoodIn Ts (va_wsS own index yL_claimOf wsL_claimOf)) (hR9 : 2 + 1 ≤ R.frames ∧ 8 + (4 + 11) + 43 ≤ R.locals) (hc9 : cells + 0 ≤ R.cells ∧ slots + 0 ≤ R.slots) (hl9 : ls.size = nL) (hw9 : (rest.map fun v => v.category).sum ≤ 8) (hdg : decode cc pc = .ok (.invokestatic index, 3)) (hI : iwC ad) (ho : ¬ awC ad o9) (hPo : va_P (dC, dI) vwCl [(o9, .inl (cJ, 1, .inr (.inl fo)))] H) (hKJ : va_K (dC, dI) vwCl [(cJ, .long)] s) (hA : ∀ x, awC ad x ∨ x = o9 → A0 x) (hS : va_S A0 H0 H locs) (kk : ∀ (u9 : Unit) (H1 : Heap) (locs1 : List Loc), va_P (dC, dI) vwCl (wC cI cZ ad sm fe ex dy gp gc op gr st dl wo n yc ya ys yd q zc zp zr zs zf z zm zt) H1 → ∀ f9 : Nat → Int64, f9 0 = (op k).toInt64 → va_P (dC, dI) vwCl [(o9, .inl (cJ, 1, .inr (.inl f9)))] H1 → va_S A0 H0 H1 locs1 → H.size ≤ H1.size → (∀ q : Nat, q < H.size → ¬ (awC ad q ∨ q = o9) → H1[q]? = H[q]?) → W p l e R s m args below meth c H1 locs1 cells slots Q (F0 m (pc + 3) ls (.int (nI 0) :: rest))) : W p l e R s m args below meth c H locs cells slots Q (F0 m pc ls (.ref o9 :: .int (nI k) :: .ref (ad 0) :: rest)) := va_calli (vx_runSW (As := [.ref (ad 0), .int (nI k), .ref o9]) (rest := rest) ⟨hx, hb, hml, hown, hts⟩ (h_claimOf_ok (cJ := cJ) (o9 := o9) (fo := fo) (dC := dC) (dI := dI) (cI := cI) (cZ := cZ) (ad := ad) (sm := sm) (fe := fe) (ex := ex) (dy := dy) (gp := gp) (gc := gc) (op := op) (gr := gr) (st := st) (dl := dl) (wo := wo) (n := n) (yc := yc) (ya := ya) (ys := ys) (yd := yd) (q := q) (zc := zc) (zp := zp) (zr := zr) (zs := zs) (zf := zf) (z := z) (zm := zm) (zt := zt) (k := k) l hI ho hk h1) (vx_cwSW 3 hts hg9 rfl rfl rfl (by decide +kernel) hR9) ⟨fun a U g mk q => ⟨q.1, q.2.1, va_K.moved (u := U) (U := U.calling g mk a) (Vm.Alike.refl U.vm) q.2.2.1, q.2.2.2.1, va_K.moved (u := U) (U := U.calling g mk a) (Vm.Alike.refl U.vm) q.2.2.2.2⟩, fun U hU hW => ⟨rfl, by rw [hU]; exact hP, va_K.moved hW.alike hK, by rw [hU]; exact hPo, va_K.moved hW.alike hKJ⟩⟩ rfl rfl hl9 rfl (lv_room hw9) hdg hc9) hS (fun q _ h => hA q h) hA (fun r u t H1 locs1 ht _ hu hB hz hk hS1 => by subst hu; obtain ⟨hB1, f9, hf9, hB2⟩ := hB; rw [ht] at hB1 hB2; exact kk u H1 locs1 hB1 f9 hf9 hB2 hS1 hz hk)
end
set_option maxHeartbeats 4000000 in
set_option maxRecDepth 100000 in
theorem h_claimOf_no (l : Launch) {dC : Nat → ClassId} {dI : Nat → Nat → Nat} {cI cZ cJ : ClassId} {ad : Nat → Nat} {o9 : Nat} {sm fe ex dy : Int32} {gp gc op gr st dl wo : Nat → Int32} {n : Nat} {yc ya ys yd : Nat → Int32} {q : Nat} {zc zp zr zs zf : Nat → Int32} {z : Nat} {zm zt : Int64} {fo : Nat → Int64} {x : Int32} (hfl : l.stackTraces = false) (h1 : ¬ outN x (nI 0) (nI 29) = 0) : Met l yL_claimOf wsL_claimOf { frames := 7, cells := 1, slots := 6, locals := 111 } (va_Pc [.ref (ad 0), .int x, .ref o9] (fun U => va_P (dC, dI) vwCl (wC cI cZ ad sm fe ex dy gp gc op gr st dl wo n yc ya ys yd q zc zp zr zs zf z zm zt) U.heap ∧ va_K (dC, dI) vwCl [(cI, .int), (cZ, .boolean)] U ∧ tX (fun _ => False) U U.heap ∧ tN U)) (va_Qi (fun r (_ : Unit) => r = nI 1) (fun _ _ => True) (fun _ => False)) 1 6 (fun _ => False) := by
  refine va_MetW (cc := cL_claimOf) (maxL := 4) (ret := (some .int)) (hh := [(0, 9, 12, 21)]) (by decide) rfl ?_
  intro p e s m args below meth c s₁ B hml hv
  obtain ⟨rfl, hP, hK, hT, hN⟩ := hv
  have hx := B.exec
  have hb := B.bytes
  have hr := B.returns
  have hts := atoms_spec (ws := wsL_claimOf) B.pre
  have hown : s.vm.findClass RL = some m.cls := findClass_of_methodNamed B.named
  have hlocks := B.notSynchronized
  have hl := lv_entry ([.ref (ad 0), .int x, .ref o9]) (n := 4) (Nat.le_of_ble_eq_true rfl)
  rw [lg_entry_eq]
  generalize (lg_sl ([.ref (ad 0), .int x, .ref o9]) ++ List.replicate (4 - (lg_sl ([.ref (ad 0), .int x, .ref o9])).length) Slot.unset).toArray = ls at hl ⊢
  have hl : lv_has ls 4 [(0, .ref (ad 0)), (1, .int x), (2, .ref o9)] := hl
  refine lv_aload_n hx hb dL_claimOf_0 rfl (lv_at hl 2 rfl) ?_
  refine lv_iconst (v := nI 0) hx hb dL_claimOf_1 (by decide) ?_
  refine lv_aload_n hx hb dL_claimOf_2 rfl (lv_at hl 0 rfl) ?_
  refine lv_iload_n hx hb dL_claimOf_3 rfl (lv_at hl 1 rfl) ?_
  have htab : c.exceptionTable.toList = ([] : List ExceptionTableEntry) ++ ⟨0, 9, 12, 21⟩ :: [] := (vx_table B (hts _ List.mem_cons_self)).trans rfl
  refine zx_go (kr_X3_claimOf_no l hfl (x := x) (h1 := h1) hx hb hml hown hts hK hP gL_claimOf_X3_claimOf ⟨Nat.le_of_ble_eq_true rfl, Nat.le_of_ble_eq_true rfl⟩ ⟨Nat.le_of_ble_eq_true rfl, Nat.le_of_ble_eq_true rfl⟩ hl.1 (Nat.le_of_ble_eq_true rfl) dL_claimOf_4 hT) (fun ce q9 H1 hz9 hk9 hce hcv hcl => ?_)
  refine vx_catch (own := RL) (name := "java/lang/IndexOutOfBoundsException") (E := "java/lang/IndexOutOfBoundsException") hown [] ⟨0, 9, 12, 21⟩ [] htab (fun z hz => nomatch hz) rfl (by decide) (hts (.classLink RL 21 "java/lang/IndexOutOfBoundsException") (by decide +kernel)) (va_Nw.use rfl hT.2.1.2.2) hce hcv hcl ?_
  have hS : va_S (fun _ => False) s.heap H1 [] := ⟨hz9, fun q hq _ => hk9 q hq, fun _ h => nomatch h⟩
  refine lv_astore_n (lv' := [(3, .ref q9), (0, .ref (ad 0)), (1, .int x), (2, .ref o9)]) hx hb dL_claimOf_12 rfl hl (by decide) rfl (fun ls hl => ?_)
  refine lv_iconst (v := nI 1) hx hb dL_claimOf_13 (by decide) ?_
  exact W.iret (v := nI 1) hx hb hr (fun t ht hW => ⟨⟨nI 1, (), rfl, rfl, trivial⟩, hS.F ht⟩) hS.2.2 dL_claimOf_14
section
variable {p : Program} {e : Env} {R : Room} {s : State} {m : MethodId} {args : Array Value} {below : List Frame} {meth : Method} {c : Code} {H : Heap} {locs : List Loc} {cells slots : Nat} {Q : State → Prop} {cc : ByteArray} {pc : Nat} {ls : Array Slot} {rest : List Value} {own : String} {index nL : Nat} {Ts : List Cond} {H0 : Heap} {A0 : Nat → Prop}
theorem kh_claimOf_no (l : Launch) {dC : Nat → ClassId} {dI : Nat → Nat → Nat} {cI cZ cJ : ClassId} {ad : Nat → Nat} {o9 : Nat} {sm fe ex dy : Int32} {gp gc op gr st dl wo : Nat → Int32} {n : Nat} {yc ya ys yd : Nat → Int32} {q : Nat} {zc zp zr zs zf : Nat → Int32} {z : Nat} {zm zt : Int64} {fo : Nat → Int64} {x : Int32}(hfl : l.stackTraces = false)  (h1 : ¬ outN x (nI 0) (nI 29) = 0) (hx : p.tables.exec = Jvm.exec) (hb : c.code = cc) (hml : c.maxLocals = nL) (hown : s.vm.findClass own = some m.cls) (hts : ∀ w ∈ Ts, w.before args s = true) (hK : va_K (dC, dI) vwCl [(cI, .int), (cZ, .boolean)] s) (hP : va_P (dC, dI) vwCl (wC cI cZ ad sm fe ex dy gp gc op gr st dl wo n yc ya ys yd q zc zp zr zs zf z zm zt) H) (hg9 : GoodIn Ts (va_wsS own index yL_claimOf wsL_claimOf)) (hR9 : 7 + 1 ≤ R.frames ∧ 8 + (4 + 11) + 111 ≤ R.locals) (hc9 : cells + 1 ≤ R.cells ∧ slots + 6 ≤ R.slots) (hl9 : ls.size = nL) (hw9 : (rest.map fun v => v.category).sum ≤ 8) (hdg : decode cc pc = .ok (.invokestatic index, 3)) (hT : tX (fun _ => False) s H) (hN : tN s) (hS : va_S A0 H0 H locs) (kk : ∀ (H1 : Heap) (locs1 : List Loc), va_S A0 H0 H1 locs1 → H.size ≤ H1.size → (∀ q : Nat, q < H.size → H1[q]? = H[q]?) → W p l e R s m args below meth c H1 locs1 (cells + 1) (slots + 6) Q (F0 m (pc + 3) ls (.int (nI 1) :: rest))) : W p l e R s m args below meth c H locs cells slots Q (F0 m pc ls (.ref o9 :: .int x :: .ref (ad 0) :: rest)) := va_calli (vx_runSW (As := [.ref (ad 0), .int x, .ref o9]) (rest := rest) ⟨hx, hb, hml, hown, hts⟩ (h_claimOf_no (cJ := 0) (o9 := o9) (fo := fun _ => 0) (dC := dC) (dI := dI) (cI := cI) (cZ := cZ) (ad := ad) (sm := sm) (fe := fe) (ex := ex) (dy := dy) (gp := gp) (gc := gc) (op := op) (gr := gr) (st := st) (dl := dl) (wo := wo) (n := n) (yc := yc) (ya := ya) (ys := ys) (yd := yd) (q := q) (zc := zc) (zp := zp) (zr := zr) (zs := zs) (zf := zf) (z := z) (zm := zm) (zt := zt) (x := x) l hfl h1) (vx_cwSW 3 hts hg9 rfl rfl rfl (by decide +kernel) hR9) ⟨fun a U g mk q => ⟨q.1, q.2.1, va_K.moved (u := U) (U := U.calling g mk a) (Vm.Alike.refl U.vm) q.2.2.1, tX.same (u := U) (U := U.calling g mk a) rfl q.2.2.2.1, tN.moved (u := U) (U := U.calling g mk a) (Vm.Alike.refl U.vm) q.2.2.2.2⟩, fun U hU hW => ⟨rfl, by rw [hU]; exact hP, va_K.moved hW.alike hK, by rw [hU]; exact tX.warm hW hT, tN.moved hW.alike hN⟩⟩ rfl rfl hl9 rfl (lv_room hw9) hdg hc9) hS (fun _ _ h => h.elim) (fun _ h => h.elim) (fun r u t H1 locs1 ht _ hu _ hz hk hS1 => by subst hu; exact kk H1 locs1 hS1 hz (fun q hq => hk q hq (fun h => h)))
end
set_option maxHeartbeats 4000000 in
set_option maxRecDepth 100000 in
theorem h_count_ok (l : Launch) {dC : Nat → ClassId} {dI : Nat → Nat → Nat} {cI cZ cJ : ClassId} {ad : Nat → Nat} {o9 : Nat} {sm fe ex dy : Int32} {gp gc op gr st dl wo : Nat → Int32} {n : Nat} {yc ya ys yd : Nat → Int32} {q : Nat} {zc zp zr zs zf : Nat → Int32} {z : Nat} {zm zt : Int64} {fo : Nat → Int64} {x : Int32} (hI : iwC ad) (ho : ¬ awC ad o9) (hn : n ≤ 24) (h1 : outN x (nI 0) (nI 3) = 0) : Met l yL_count wsL_count { frames := 2, cells := 0, slots := 0, locals := 44 } (va_Pc [.ref (ad 0), .int x, .ref o9] (fun U => va_P (dC, dI) vwCl (wC cI cZ ad sm fe ex dy gp gc op gr st dl wo n yc ya ys yd q zc zp zr zs zf z zm zt) U.heap ∧ va_K (dC, dI) vwCl [(cI, .int), (cZ, .boolean)] U ∧ va_P (dC, dI) vwCl [(o9, .inl (cJ, 1, .inr (.inl fo)))] U.heap ∧ va_K (dC, dI) vwCl [(cJ, .long)] U)) (va_Qi (fun r (_ : Unit) => r = nI 0) (fun (u9 : Unit) t => va_P (dC, dI) vwCl (wC cI cZ ad sm fe ex dy gp gc op gr st dl wo n yc ya ys yd q zc zp zr zs zf z zm zt) t.heap ∧ ∃ f9 : Nat → Int64, f9 0 = (nI (tallyN st x n)).toInt64 ∧ va_P (dC, dI) vwCl [(o9, .inl (cJ, 1, .inr (.inl f9)))] t.heap) (fun x => awC ad x ∨ x = o9)) 0 0 (fun x => awC ad x ∨ x = o9) := by
  refine va_MetW (cc := cL_count) (maxL := 4) (ret := (some .int)) (hh := [(0, 9, 12, 13)]) (by decide) rfl ?_
  intro p e s m args below meth c s₁ B hml hv
  obtain ⟨rfl, hP, hK, hPo, hKJ⟩ := hv
  have hx := B.exec
  have hb := B.bytes
  have hr := B.returns
  have hts := atoms_spec (ws := wsL_count) B.pre
  have hown : s.vm.findClass RL = some m.cls := findClass_of_methodNamed B.named
  have hlocks := B.notSynchronized
  have hA : ∀ x, awC ad x → (fun x => awC ad x ∨ x = o9) x := fun x h => Or.inl h
  have hS : va_S (fun x => awC ad x ∨ x = o9) s.heap s.heap [] := va_S.rf
  have hl := lv_entry ([.ref (ad 0), .int x, .ref o9]) (n := 4) (Nat.le_of_ble_eq_true rfl)
  rw [lg_entry_eq]
  generalize (lg_sl ([.ref (ad 0), .int x, .ref o9]) ++ List.replicate (4 - (lg_sl ([.ref (ad 0), .int x, .ref o9])).length) Slot.unset).toArray = ls at hl ⊢
  have hl : lv_has ls 4 [(0, .ref (ad 0)), (1, .int x), (2, .ref o9)] := hl
  refine lv_aload_n hx hb dL_count_0 rfl (lv_at hl 2 rfl) ?_
  refine lv_iconst (v := nI 0) hx hb dL_count_1 (by decide) ?_
  refine lv_aload_n hx hb dL_count_2 rfl (lv_at hl 0 rfl) ?_
  refine lv_iload_n hx hb dL_count_3 rfl (lv_at hl 1 rfl) ?_
  refine k_X3_count_ok l (x := x) (hn := hn) (h1 := h1) hx hb hml hown hts hK hP gL_count_X3_count ⟨Nat.le_of_ble_eq_true rfl, Nat.le_of_ble_eq_true rfl⟩ ⟨Nat.le_of_ble_eq_true rfl, Nat.le_of_ble_eq_true rfl⟩ hl.1 (Nat.le_of_ble_eq_true rfl) dL_count_4 ?_
  refine lv_i2l (v := (nI (tallyN st x n)).toInt64) hx hb dL_count_7 rfl ?_
  have hPL := hP.app hPo
  refine va_last hx hb hKJ hPL (dwL hI ho ..) hS 20 0 rfl rfl (vp_in_nI (n := 0) (by decide) (by decide)) dL_count_8 (fun H locs hPL _ hS => ?_)
  have hP : va_P (dC, dI) vwCl (wC cI cZ ad sm fe ex dy gp gc op gr st dl wo n yc ya ys yd q zc zp zr zs zf z zm zt) H := hPL.sub [0, 1, 2, 3, 4, 5, 6, 7, 8, 9, 10, 11, 12, 13, 14, 15, 16, 17, 18, 19] rfl
  have hPo : va_P (dC, dI) vwCl [(o9, .inl (cJ, 1, .inr (.inl (vp_updL fo (nI 0).toNatClampNeg (nI (tallyN st x n)).toInt64))))] H := hPL.sub [20] rfl
  refine lv_goto (tgt := 15) hx hb dL_count_9 (by decide) ?_
  refine lv_iconst (v := nI 0) hx hb dL_count_15 (by decide) ?_
  exact W.iret (v := nI 0) hx hb hr (fun t ht hW => ⟨⟨nI 0, (), rfl, rfl, ⟨by (try dsimp only); rw [ht]; exact hP, _, by unfold vp_updL; exact if_pos (by decide), by rw [ht]; exact hPo⟩⟩, hS.F ht⟩) hS.2.2 dL_count_16
section
variable {p : Program} {e : Env} {R : Room} {s : State} {m : MethodId} {args : Array Value} {below : List Frame} {meth : Method} {c : Code} {H : Heap} {locs : List Loc} {cells slots : Nat} {Q : State → Prop} {cc : ByteArray} {pc : Nat} {ls : Array Slot} {rest : List Value} {own : String} {index nL : Nat} {Ts : List Cond} {H0 : Heap} {A0 : Nat → Prop}
theorem kh_count_ok (l : Launch) {dC : Nat → ClassId} {dI : Nat → Nat → Nat} {cI cZ cJ : ClassId} {ad : Nat → Nat} {o9 : Nat} {sm fe ex dy : Int32} {gp gc op gr st dl wo : Nat → Int32} {n : Nat} {yc ya ys yd : Nat → Int32} {q : Nat} {zc zp zr zs zf : Nat → Int32} {z : Nat} {zm zt : Int64} {fo : Nat → Int64} {x : Int32} (hn : n ≤ 24) (h1 : outN x (nI 0) (nI 3) = 0) (hx : p.tables.exec = Jvm.exec) (hb : c.code = cc) (hml : c.maxLocals = nL) (hown : s.vm.findClass own = some m.cls) (hts : ∀ w ∈ Ts, w.before args s = true) (hK : va_K (dC, dI) vwCl [(cI, .int), (cZ, .boolean)] s) (hP : va_P (dC, dI) vwCl (wC cI cZ ad sm fe ex dy gp gc op gr st dl wo n yc ya ys yd q zc zp zr zs zf z zm zt) H) (hg9 : GoodIn Ts (va_wsS own index yL_count wsL_count)) (hR9 : 2 + 1 ≤ R.frames ∧ 8 + (4 + 11) + 44 ≤ R.locals) (hc9 : cells + 0 ≤ R.cells ∧ slots + 0 ≤ R.slots) (hl9 : ls.size = nL) (hw9 : (rest.map fun v => v.category).sum ≤ 8) (hdg : decode cc pc = .ok (.invokestatic index, 3)) (hI : iwC ad) (ho : ¬ awC ad o9) (hPo : va_P (dC, dI) vwCl [(o9, .inl (cJ, 1, .inr (.inl fo)))] H) (hKJ : va_K (dC, dI) vwCl [(cJ, .long)] s) (hA : ∀ x, awC ad x ∨ x = o9 → A0 x) (hS : va_S A0 H0 H locs) (kk : ∀ (u9 : Unit) (H1 : Heap) (locs1 : List Loc), va_P (dC, dI) vwCl (wC cI cZ ad sm fe ex dy gp gc op gr st dl wo n yc ya ys yd q zc zp zr zs zf z zm zt) H1 → ∀ f9 : Nat → Int64, f9 0 = (nI (tallyN st x n)).toInt64 → va_P (dC, dI) vwCl [(o9, .inl (cJ, 1, .inr (.inl f9)))] H1 → va_S A0 H0 H1 locs1 → H.size ≤ H1.size → (∀ q : Nat, q < H.size → ¬ (awC ad q ∨ q = o9) → H1[q]? = H[q]?) → W p l e R s m args below meth c H1 locs1 cells slots Q (F0 m (pc + 3) ls (.int (nI 0) :: rest))) : W p l e R s m args below meth c H locs cells slots Q (F0 m pc ls (.ref o9 :: .int x :: .ref (ad 0) :: rest)) := va_calli (vx_runSW (As := [.ref (ad 0), .int x, .ref o9]) (rest := rest) ⟨hx, hb, hml, hown, hts⟩ (h_count_ok (cJ := cJ) (o9 := o9) (fo := fo) (dC := dC) (dI := dI) (cI := cI) (cZ := cZ) (ad := ad) (sm := sm) (fe := fe) (ex := ex) (dy := dy) (gp := gp) (gc := gc) (op := op) (gr := gr) (st := st) (dl := dl) (wo := wo) (n := n) (yc := yc) (ya := ya) (ys := ys) (yd := yd) (q := q) (zc := zc) (zp := zp) (zr := zr) (zs := zs) (zf := zf) (z := z) (zm := zm) (zt := zt) (x := x) l hI ho hn h1) (vx_cwSW 3 hts hg9 rfl rfl rfl (by decide +kernel) hR9) ⟨fun a U g mk q => ⟨q.1, q.2.1, va_K.moved (u := U) (U := U.calling g mk a) (Vm.Alike.refl U.vm) q.2.2.1, q.2.2.2.1, va_K.moved (u := U) (U := U.calling g mk a) (Vm.Alike.refl U.vm) q.2.2.2.2⟩, fun U hU hW => ⟨rfl, by rw [hU]; exact hP, va_K.moved hW.alike hK, by rw [hU]; exact hPo, va_K.moved hW.alike hKJ⟩⟩ rfl rfl hl9 rfl (lv_room hw9) hdg hc9) hS (fun q _ h => hA q h) hA (fun r u t H1 locs1 ht _ hu hB hz hk hS1 => by subst hu; obtain ⟨hB1, f9, hf9, hB2⟩ := hB; rw [ht] at hB1 hB2; exact kk u H1 locs1 hB1 f9 hf9 hB2 hS1 hz hk)
end
set_option maxHeartbeats 4000000 in
set_option maxRecDepth 100000 in
theorem h_count_no (l : Launch) {dC : Nat → ClassId} {dI : Nat → Nat → Nat} {cI cZ cJ : ClassId} {ad : Nat → Nat} {o9 : Nat} {sm fe ex dy : Int32} {gp gc op gr st dl wo : Nat → Int32} {n : Nat} {yc ya ys yd : Nat → Int32} {q : Nat} {zc zp zr zs zf : Nat → Int32} {z : Nat} {zm zt : Int64} {fo : Nat → Int64} {x : Int32} (hfl : l.stackTraces = false) (h1 : ¬ outN x (nI 0) (nI 3) = 0) : Met l yL_count wsL_count { frames := 7, cells := 1, slots := 6, locals := 111 } (va_Pc [.ref (ad 0), .int x, .ref o9] (fun U => va_P (dC, dI) vwCl (wC cI cZ ad sm fe ex dy gp gc op gr st dl wo n yc ya ys yd q zc zp zr zs zf z zm zt) U.heap ∧ va_K (dC, dI) vwCl [(cI, .int), (cZ, .boolean)] U ∧ tX (fun _ => False) U U.heap ∧ tN U)) (va_Qi (fun r (_ : Unit) => r = nI 1) (fun _ _ => True) (fun _ => False)) 1 6 (fun _ => False) := by
  refine va_MetW (cc := cL_count) (maxL := 4) (ret := (some .int)) (hh := [(0, 9, 12, 13)]) (by decide) rfl ?_
  intro p e s m args below meth c s₁ B hml hv
  obtain ⟨rfl, hP, hK, hT, hN⟩ := hv
  have hx := B.exec
  have hb := B.bytes
  have hr := B.returns
  have hts := atoms_spec (ws := wsL_count) B.pre
  have hown : s.vm.findClass RL = some m.cls := findClass_of_methodNamed B.named
  have hlocks := B.notSynchronized
  have hl := lv_entry ([.ref (ad 0), .int x, .ref o9]) (n := 4) (Nat.le_of_ble_eq_true rfl)
  rw [lg_entry_eq]
  generalize (lg_sl ([.ref (ad 0), .int x, .ref o9]) ++ List.replicate (4 - (lg_sl ([.ref (ad 0), .int x, .ref o9])).length) Slot.unset).toArray = ls at hl ⊢
  have hl : lv_has ls 4 [(0, .ref (ad 0)), (1, .int x), (2, .ref o9)] := hl
  refine lv_aload_n hx hb dL_count_0 rfl (lv_at hl 2 rfl) ?_
  refine lv_iconst (v := nI 0) hx hb dL_count_1 (by decide) ?_
  refine lv_aload_n hx hb dL_count_2 rfl (lv_at hl 0 rfl) ?_
  refine lv_iload_n hx hb dL_count_3 rfl (lv_at hl 1 rfl) ?_
  have htab : c.exceptionTable.toList = ([] : List ExceptionTableEntry) ++ ⟨0, 9, 12, 13⟩ :: [] := (vx_table B (hts _ List.mem_cons_self)).trans rfl
  refine zx_go (kr_X3_count_no l hfl (x := x) (h1 := h1) hx hb hml hown hts hK hP gL_count_X3_count ⟨Nat.le_of_ble_eq_true rfl, Nat.le_of_ble_eq_true rfl⟩ ⟨Nat.le_of_ble_eq_true rfl, Nat.le_of_ble_eq_true rfl⟩ hl.1 (Nat.le_of_ble_eq_true rfl) dL_count_4 hT) (fun ce q9 H1 hz9 hk9 hce hcv hcl => ?_)
  refine vx_catch (own := RL) (name := "java/lang/IllegalArgumentException") (E := "java/lang/IllegalArgumentException") hown [] ⟨0, 9, 12, 13⟩ [] htab (fun z hz => nomatch hz) rfl (by decide) (hts (.classLink RL 13 "java/lang/IllegalArgumentException") (by decide +kernel)) (va_Nw.use rfl hT.2.1.1) hce hcv hcl ?_
  have hS : va_S (fun _ => False) s.heap H1 [] := ⟨hz9, fun q hq _ => hk9 q hq, fun _ h => nomatch h⟩
  refine lv_astore_n (lv' := [(3, .ref q9), (0, .ref (ad 0)), (1, .int x), (2, .ref o9)]) hx hb dL_count_12 rfl hl (by decide) rfl (fun ls hl => ?_)
  refine lv_iconst (v := nI 1) hx hb dL_count_13 (by decide) ?_
  exact W.iret (v := nI 1) hx hb hr (fun t ht hW => ⟨⟨nI 1, (), rfl, rfl, trivial⟩, hS.F ht⟩) hS.2.2 dL_count_14
section
variable {p : Program} {e : Env} {R : Room} {s : State} {m : MethodId} {args : Array Value} {below : List Frame} {meth : Method} {c : Code} {H : Heap} {locs : List Loc} {cells slots : Nat} {Q : State → Prop} {cc : ByteArray} {pc : Nat} {ls : Array Slot} {rest : List Value} {own : String} {index nL : Nat} {Ts : List Cond} {H0 : Heap} {A0 : Nat → Prop}
theorem kh_count_no (l : Launch) {dC : Nat → ClassId} {dI : Nat → Nat → Nat} {cI cZ cJ : ClassId} {ad : Nat → Nat} {o9 : Nat} {sm fe ex dy : Int32} {gp gc op gr st dl wo : Nat → Int32} {n : Nat} {yc ya ys yd : Nat → Int32} {q : Nat} {zc zp zr zs zf : Nat → Int32} {z : Nat} {zm zt : Int64} {fo : Nat → Int64} {x : Int32}(hfl : l.stackTraces = false)  (h1 : ¬ outN x (nI 0) (nI 3) = 0) (hx : p.tables.exec = Jvm.exec) (hb : c.code = cc) (hml : c.maxLocals = nL) (hown : s.vm.findClass own = some m.cls) (hts : ∀ w ∈ Ts, w.before args s = true) (hK : va_K (dC, dI) vwCl [(cI, .int), (cZ, .boolean)] s) (hP : va_P (dC, dI) vwCl (wC cI cZ ad sm fe ex dy gp gc op gr st dl wo n yc ya ys yd q zc zp zr zs zf z zm zt) H) (hg9 : GoodIn Ts (va_wsS own index yL_count wsL_count)) (hR9 : 7 + 1 ≤ R.frames ∧ 8 + (4 + 11) + 111 ≤ R.locals) (hc9 : cells + 1 ≤ R.cells ∧ slots + 6 ≤ R.slots) (hl9 : ls.size = nL) (hw9 : (rest.map fun v => v.category).sum ≤ 8) (hdg : decode cc pc = .ok (.invokestatic index, 3)) (hT : tX (fun _ => False) s H) (hN : tN s) (hS : va_S A0 H0 H locs) (kk : ∀ (H1 : Heap) (locs1 : List Loc), va_S A0 H0 H1 locs1 → H.size ≤ H1.size → (∀ q : Nat, q < H.size → H1[q]? = H[q]?) → W p l e R s m args below meth c H1 locs1 (cells + 1) (slots + 6) Q (F0 m (pc + 3) ls (.int (nI 1) :: rest))) : W p l e R s m args below meth c H locs cells slots Q (F0 m pc ls (.ref o9 :: .int x :: .ref (ad 0) :: rest)) := va_calli (vx_runSW (As := [.ref (ad 0), .int x, .ref o9]) (rest := rest) ⟨hx, hb, hml, hown, hts⟩ (h_count_no (cJ := 0) (o9 := o9) (fo := fun _ => 0) (dC := dC) (dI := dI) (cI := cI) (cZ := cZ) (ad := ad) (sm := sm) (fe := fe) (ex := ex) (dy := dy) (gp := gp) (gc := gc) (op := op) (gr := gr) (st := st) (dl := dl) (wo := wo) (n := n) (yc := yc) (ya := ya) (ys := ys) (yd := yd) (q := q) (zc := zc) (zp := zp) (zr := zr) (zs := zs) (zf := zf) (z := z) (zm := zm) (zt := zt) (x := x) l hfl h1) (vx_cwSW 3 hts hg9 rfl rfl rfl (by decide +kernel) hR9) ⟨fun a U g mk q => ⟨q.1, q.2.1, va_K.moved (u := U) (U := U.calling g mk a) (Vm.Alike.refl U.vm) q.2.2.1, tX.same (u := U) (U := U.calling g mk a) rfl q.2.2.2.1, tN.moved (u := U) (U := U.calling g mk a) (Vm.Alike.refl U.vm) q.2.2.2.2⟩, fun U hU hW => ⟨rfl, by rw [hU]; exact hP, va_K.moved hW.alike hK, by rw [hU]; exact tX.warm hW hT, tN.moved hW.alike hN⟩⟩ rfl rfl hl9 rfl (lv_room hw9) hdg hc9) hS (fun _ _ h => h.elim) (fun _ h => h.elim) (fun r u t H1 locs1 ht _ hu _ hz hk hS1 => by subst hu; exact kk H1 locs1 hS1 hz (fun q hq => hk q hq (fun h => h)))
end
set_option maxHeartbeats 4000000 in
set_option maxRecDepth 100000 in
theorem h_cure_ok (l : Launch) {dC : Nat → ClassId} {dI : Nat → Nat → Nat} {cI cZ cJ : ClassId} {ad : Nat → Nat} {o9 : Nat} {sm fe ex dy : Int32} {gp gc op gr st dl wo : Nat → Int32} {n : Nat} {yc ya ys yd : Nat → Int32} {q : Nat} {zc zp zr zs zf : Nat → Int32} {z : Nat} {zm zt : Int64} {fo : Nat → Int64} {k : Nat} (hI : iwC ad) (ho : ¬ awC ad o9) (hn : n ≤ 24) (hk : k < n) (h1 : st k = nI 1) : Met l yL_cure wsL_cure { frames := 3, cells := 0, slots := 0, locals := 63 } (va_Pc [.ref (ad 0), .int (nI k), .ref o9] (fun U => va_P (dC, dI) vwCl (wC cI cZ ad sm fe ex dy gp gc op gr st dl wo n yc ya ys yd q zc zp zr zs zf z zm zt) U.heap ∧ va_K (dC, dI) vwCl [(cI, .int), (cZ, .boolean)] U ∧ va_P (dC, dI) vwCl [(o9, .inl (cJ, 1, .inr (.inl fo)))] U.heap ∧ va_K (dC, dI) vwCl [(cJ, .long)] U)) (va_Qi (fun r (_ : Unit) => r = nI 0) (fun (u9 : Unit) t => va_P (dC, dI) vwCl (wC cI cZ ad sm fe ex dy gp gc op gr (upd st k (nI 0)) dl wo n yc ya ys yd q zc zp zr zs zf z zm zt) t.heap ∧ ∃ f9 : Nat → Int64, f9 0 = (dl k - dy).toInt64 ∧ va_P (dC, dI) vwCl [(o9, .inl (cJ, 1, .inr (.inl f9)))] t.heap) (fun x => awC ad x ∨ x = o9)) 0 0 (fun x => awC ad x ∨ x = o9) := by
  refine va_MetW (cc := cL_cure) (maxL := 4) (ret := (some .int)) (hh := [(0, 9, 12, 21), (0, 9, 15, 15)]) (by decide) rfl ?_
  intro p e s m args below meth c s₁ B hml hv
  obtain ⟨rfl, hP, hK, hPo, hKJ⟩ := hv
  have hx := B.exec
  have hb := B.bytes
  have hr := B.returns
  have hts := atoms_spec (ws := wsL_cure) B.pre
  have hown : s.vm.findClass RL = some m.cls := findClass_of_methodNamed B.named
  have hlocks := B.notSynchronized
  have hA : ∀ x, awC ad x → (fun x => awC ad x ∨ x = o9) x := fun x h => Or.inl h
  have hS : va_S (fun x => awC ad x ∨ x = o9) s.heap s.heap [] := va_S.rf
  have hl := lv_entry ([.ref (ad 0), .int (nI k), .ref o9]) (n := 4) (Nat.le_of_ble_eq_true rfl)
  rw [lg_entry_eq]
  generalize (lg_sl ([.ref (ad 0), .int (nI k), .ref o9]) ++ List.replicate (4 - (lg_sl ([.ref (ad 0), .int (nI k), .ref o9])).length) Slot.unset).toArray = ls at hl ⊢
  have hl : lv_has ls 4 [(0, .ref (ad 0)), (1, .int (nI k)), (2, .ref o9)] := hl
  refine lv_aload_n hx hb dL_cure_0 rfl (lv_at hl 2 rfl) ?_
  refine lv_iconst (v := nI 0) hx hb dL_cure_1 (by decide) ?_
  refine lv_aload_n hx hb dL_cure_2 rfl (lv_at hl 0 rfl) ?_
  refine lv_iload_n hx hb dL_cure_3 rfl (lv_at hl 1 rfl) ?_
  refine k_X3_cure_ok l (k := k) (hn := hn) (hk := hk) (h1 := h1) hx hb hml hown hts hK hP gL_cure_X3_cure ⟨Nat.le_of_ble_eq_true rfl, Nat.le_of_ble_eq_true rfl⟩ ⟨Nat.le_of_ble_eq_true rfl, Nat.le_of_ble_eq_true rfl⟩ hl.1 (Nat.le_of_ble_eq_true rfl) dL_cure_4 hI hA hS (fun H locs hP hS hfr => ?_)
  have hPo := zz_ko hPo (hfr _ (zz_lt hPo) ho)
  refine lv_i2l (v := (dl k - dy).toInt64) hx hb dL_cure_7 rfl ?_
  have hPL := hP.app hPo
  refine va_last hx hb hKJ hPL (dwL hI ho ..) hS 20 0 rfl rfl (vp_in_nI (n := 0) (by decide) (by decide)) dL_cure_8 (fun H locs hPL _ hS => ?_)
  have hP : va_P (dC, dI) vwCl (wC cI cZ ad sm fe ex dy gp gc op gr (upd st k (nI 0)) dl wo n yc ya ys yd q zc zp zr zs zf z zm zt) H := hPL.sub [0, 1, 2, 3, 4, 5, 6, 7, 8, 9, 10, 11, 12, 13, 14, 15, 16, 17, 18, 19] rfl
  have hPo : va_P (dC, dI) vwCl [(o9, .inl (cJ, 1, .inr (.inl (vp_updL fo (nI 0).toNatClampNeg (dl k - dy).toInt64))))] H := hPL.sub [20] rfl
  refine lv_goto (tgt := 18) hx hb dL_cure_9 (by decide) ?_
  refine lv_iconst (v := nI 0) hx hb dL_cure_18 (by decide) ?_
  exact W.iret (v := nI 0) hx hb hr (fun t ht hW => ⟨⟨nI 0, (), rfl, rfl, ⟨by (try dsimp only); rw [ht]; exact hP, _, by unfold vp_updL; exact if_pos (by decide), by rw [ht]; exact hPo⟩⟩, hS.F ht⟩) hS.2.2 dL_cure_19
section
variable {p : Program} {e : Env} {R : Room} {s : State} {m : MethodId} {args : Array Value} {below : List Frame} {meth : Method} {c : Code} {H : Heap} {locs : List Loc} {cells slots : Nat} {Q : State → Prop} {cc : ByteArray} {pc : Nat} {ls : Array Slot} {rest : List Value} {own : String} {index nL : Nat} {Ts : List Cond} {H0 : Heap} {A0 : Nat → Prop}
theorem kh_cure_ok (l : Launch) {dC : Nat → ClassId} {dI : Nat → Nat → Nat} {cI cZ cJ : ClassId} {ad : Nat → Nat} {o9 : Nat} {sm fe ex dy : Int32} {gp gc op gr st dl wo : Nat → Int32} {n : Nat} {yc ya ys yd : Nat → Int32} {q : Nat} {zc zp zr zs zf : Nat → Int32} {z : Nat} {zm zt : Int64} {fo : Nat → Int64} {k : Nat} (hn : n ≤ 24) (hk : k < n) (h1 : st k = nI 1) (hx : p.tables.exec = Jvm.exec) (hb : c.code = cc) (hml : c.maxLocals = nL) (hown : s.vm.findClass own = some m.cls) (hts : ∀ w ∈ Ts, w.before args s = true) (hK : va_K (dC, dI) vwCl [(cI, .int), (cZ, .boolean)] s) (hP : va_P (dC, dI) vwCl (wC cI cZ ad sm fe ex dy gp gc op gr st dl wo n yc ya ys yd q zc zp zr zs zf z zm zt) H) (hg9 : GoodIn Ts (va_wsS own index yL_cure wsL_cure)) (hR9 : 3 + 1 ≤ R.frames ∧ 8 + (4 + 11) + 63 ≤ R.locals) (hc9 : cells + 0 ≤ R.cells ∧ slots + 0 ≤ R.slots) (hl9 : ls.size = nL) (hw9 : (rest.map fun v => v.category).sum ≤ 8) (hdg : decode cc pc = .ok (.invokestatic index, 3)) (hI : iwC ad) (ho : ¬ awC ad o9) (hPo : va_P (dC, dI) vwCl [(o9, .inl (cJ, 1, .inr (.inl fo)))] H) (hKJ : va_K (dC, dI) vwCl [(cJ, .long)] s) (hA : ∀ x, awC ad x ∨ x = o9 → A0 x) (hS : va_S A0 H0 H locs) (kk : ∀ (u9 : Unit) (H1 : Heap) (locs1 : List Loc), va_P (dC, dI) vwCl (wC cI cZ ad sm fe ex dy gp gc op gr (upd st k (nI 0)) dl wo n yc ya ys yd q zc zp zr zs zf z zm zt) H1 → ∀ f9 : Nat → Int64, f9 0 = (dl k - dy).toInt64 → va_P (dC, dI) vwCl [(o9, .inl (cJ, 1, .inr (.inl f9)))] H1 → va_S A0 H0 H1 locs1 → H.size ≤ H1.size → (∀ q : Nat, q < H.size → ¬ (awC ad q ∨ q = o9) → H1[q]? = H[q]?) → W p l e R s m args below meth c H1 locs1 cells slots Q (F0 m (pc + 3) ls (.int (nI 0) :: rest))) : W p l e R s m args below meth c H locs cells slots Q (F0 m pc ls (.ref o9 :: .int (nI k) :: .ref (ad 0) :: rest)) := va_calli (vx_runSW (As := [.ref (ad 0), .int (nI k), .ref o9]) (rest := rest) ⟨hx, hb, hml, hown, hts⟩ (h_cure_ok (cJ := cJ) (o9 := o9) (fo := fo) (dC := dC) (dI := dI) (cI := cI) (cZ := cZ) (ad := ad) (sm := sm) (fe := fe) (ex := ex) (dy := dy) (gp := gp) (gc := gc) (op := op) (gr := gr) (st := st) (dl := dl) (wo := wo) (n := n) (yc := yc) (ya := ya) (ys := ys) (yd := yd) (q := q) (zc := zc) (zp := zp) (zr := zr) (zs := zs) (zf := zf) (z := z) (zm := zm) (zt := zt) (k := k) l hI ho hn hk h1) (vx_cwSW 3 hts hg9 rfl rfl rfl (by decide +kernel) hR9) ⟨fun a U g mk q => ⟨q.1, q.2.1, va_K.moved (u := U) (U := U.calling g mk a) (Vm.Alike.refl U.vm) q.2.2.1, q.2.2.2.1, va_K.moved (u := U) (U := U.calling g mk a) (Vm.Alike.refl U.vm) q.2.2.2.2⟩, fun U hU hW => ⟨rfl, by rw [hU]; exact hP, va_K.moved hW.alike hK, by rw [hU]; exact hPo, va_K.moved hW.alike hKJ⟩⟩ rfl rfl hl9 rfl (lv_room hw9) hdg hc9) hS (fun q _ h => hA q h) hA (fun r u t H1 locs1 ht _ hu hB hz hk hS1 => by subst hu; obtain ⟨hB1, f9, hf9, hB2⟩ := hB; rw [ht] at hB1 hB2; exact kk u H1 locs1 hB1 f9 hf9 hB2 hS1 hz hk)
end
set_option maxHeartbeats 4000000 in
set_option maxRecDepth 100000 in
theorem h_cure_ise (l : Launch) {dC : Nat → ClassId} {dI : Nat → Nat → Nat} {cI cZ cJ : ClassId} {ad : Nat → Nat} {o9 : Nat} {sm fe ex dy : Int32} {gp gc op gr st dl wo : Nat → Int32} {n : Nat} {yc ya ys yd : Nat → Int32} {q : Nat} {zc zp zr zs zf : Nat → Int32} {z : Nat} {zm zt : Int64} {fo : Nat → Int64} {k : Nat} (hfl : l.stackTraces = false) (hn : n ≤ 24) (hk : k < n) (h1 : ¬ st k = nI 1) : Met l yL_cure wsL_cure { frames := 7, cells := 1, slots := 6, locals := 111 } (va_Pc [.ref (ad 0), .int (nI k), .ref o9] (fun U => va_P (dC, dI) vwCl (wC cI cZ ad sm fe ex dy gp gc op gr st dl wo n yc ya ys yd q zc zp zr zs zf z zm zt) U.heap ∧ va_K (dC, dI) vwCl [(cI, .int), (cZ, .boolean)] U ∧ tX (fun _ => False) U U.heap ∧ tN U)) (va_Qi (fun r (_ : Unit) => r = nI 2) (fun _ _ => True) (fun _ => False)) 1 6 (fun _ => False) := by
  refine va_MetW (cc := cL_cure) (maxL := 4) (ret := (some .int)) (hh := [(0, 9, 12, 21), (0, 9, 15, 15)]) (by decide) rfl ?_
  intro p e s m args below meth c s₁ B hml hv
  obtain ⟨rfl, hP, hK, hT, hN⟩ := hv
  have hx := B.exec
  have hb := B.bytes
  have hr := B.returns
  have hts := atoms_spec (ws := wsL_cure) B.pre
  have hown : s.vm.findClass RL = some m.cls := findClass_of_methodNamed B.named
  have hlocks := B.notSynchronized
  have hl := lv_entry ([.ref (ad 0), .int (nI k), .ref o9]) (n := 4) (Nat.le_of_ble_eq_true rfl)
  rw [lg_entry_eq]
  generalize (lg_sl ([.ref (ad 0), .int (nI k), .ref o9]) ++ List.replicate (4 - (lg_sl ([.ref (ad 0), .int (nI k), .ref o9])).length) Slot.unset).toArray = ls at hl ⊢
  have hl : lv_has ls 4 [(0, .ref (ad 0)), (1, .int (nI k)), (2, .ref o9)] := hl
  refine lv_aload_n hx hb dL_cure_0 rfl (lv_at hl 2 rfl) ?_
  refine lv_iconst (v := nI 0) hx hb dL_cure_1 (by decide) ?_
  refine lv_aload_n hx hb dL_cure_2 rfl (lv_at hl 0 rfl) ?_
  refine lv_iload_n hx hb dL_cure_3 rfl (lv_at hl 1 rfl) ?_
  have htab : c.exceptionTable.toList = ([⟨0, 9, 12, 21⟩] : List ExceptionTableEntry) ++ ⟨0, 9, 15, 15⟩ :: [] := (vx_table B (hts _ List.mem_cons_self)).trans rfl
  refine zx_go (kr_X3_cure_ise l hfl (k := k) (hn := hn) (hk := hk) (h1 := h1) hx hb hml hown hts hK hP gL_cure_X3_cure ⟨Nat.le_of_ble_eq_true rfl, Nat.le_of_ble_eq_true rfl⟩ ⟨Nat.le_of_ble_eq_true rfl, Nat.le_of_ble_eq_true rfl⟩ hl.1 (Nat.le_of_ble_eq_true rfl) dL_cure_4 hT) (fun ce q9 H1 hz9 hk9 hce hcv hcl => ?_)
  refine vx_catch (own := RL) (name := "java/lang/IllegalStateException") (E := "java/lang/IllegalStateException") hown [⟨0, 9, 12, 21⟩] ⟨0, 9, 15, 15⟩ [] htab (fun z hz => by rcases List.mem_singleton.mp hz with rfl; exact Or.inr ⟨by decide, _, hts (.classLink RL 21 "java/lang/IndexOutOfBoundsException") (by decide +kernel), hN.2.1.2⟩) rfl (by decide) (hts (.classLink RL 15 "java/lang/IllegalStateException") (by decide +kernel)) (va_Nw.use rfl hT.2.1.2.1) hce hcv hcl ?_
  have hS : va_S (fun _ => False) s.heap H1 [] := ⟨hz9, fun q hq _ => hk9 q hq, fun _ h => nomatch h⟩
  refine lv_astore_n (lv' := [(3, .ref q9), (0, .ref (ad 0)), (1, .int (nI k)), (2, .ref o9)]) hx hb dL_cure_15 rfl hl (by decide) rfl (fun ls hl => ?_)
  refine lv_iconst (v := nI 2) hx hb dL_cure_16 (by decide) ?_
  exact W.iret (v := nI 2) hx hb hr (fun t ht hW => ⟨⟨nI 2, (), rfl, rfl, trivial⟩, hS.F ht⟩) hS.2.2 dL_cure_17
section
variable {p : Program} {e : Env} {R : Room} {s : State} {m : MethodId} {args : Array Value} {below : List Frame} {meth : Method} {c : Code} {H : Heap} {locs : List Loc} {cells slots : Nat} {Q : State → Prop} {cc : ByteArray} {pc : Nat} {ls : Array Slot} {rest : List Value} {own : String} {index nL : Nat} {Ts : List Cond} {H0 : Heap} {A0 : Nat → Prop}
theorem kh_cure_ise (l : Launch) {dC : Nat → ClassId} {dI : Nat → Nat → Nat} {cI cZ cJ : ClassId} {ad : Nat → Nat} {o9 : Nat} {sm fe ex dy : Int32} {gp gc op gr st dl wo : Nat → Int32} {n : Nat} {yc ya ys yd : Nat → Int32} {q : Nat} {zc zp zr zs zf : Nat → Int32} {z : Nat} {zm zt : Int64} {fo : Nat → Int64} {k : Nat}(hfl : l.stackTraces = false)  (hn : n ≤ 24) (hk : k < n) (h1 : ¬ st k = nI 1) (hx : p.tables.exec = Jvm.exec) (hb : c.code = cc) (hml : c.maxLocals = nL) (hown : s.vm.findClass own = some m.cls) (hts : ∀ w ∈ Ts, w.before args s = true) (hK : va_K (dC, dI) vwCl [(cI, .int), (cZ, .boolean)] s) (hP : va_P (dC, dI) vwCl (wC cI cZ ad sm fe ex dy gp gc op gr st dl wo n yc ya ys yd q zc zp zr zs zf z zm zt) H) (hg9 : GoodIn Ts (va_wsS own index yL_cure wsL_cure)) (hR9 : 7 + 1 ≤ R.frames ∧ 8 + (4 + 11) + 111 ≤ R.locals) (hc9 : cells + 1 ≤ R.cells ∧ slots + 6 ≤ R.slots) (hl9 : ls.size = nL) (hw9 : (rest.map fun v => v.category).sum ≤ 8) (hdg : decode cc pc = .ok (.invokestatic index, 3)) (hT : tX (fun _ => False) s H) (hN : tN s) (hS : va_S A0 H0 H locs) (kk : ∀ (H1 : Heap) (locs1 : List Loc), va_S A0 H0 H1 locs1 → H.size ≤ H1.size → (∀ q : Nat, q < H.size → H1[q]? = H[q]?) → W p l e R s m args below meth c H1 locs1 (cells + 1) (slots + 6) Q (F0 m (pc + 3) ls (.int (nI 2) :: rest))) : W p l e R s m args below meth c H locs cells slots Q (F0 m pc ls (.ref o9 :: .int (nI k) :: .ref (ad 0) :: rest)) := va_calli (vx_runSW (As := [.ref (ad 0), .int (nI k), .ref o9]) (rest := rest) ⟨hx, hb, hml, hown, hts⟩ (h_cure_ise (cJ := 0) (o9 := o9) (fo := fun _ => 0) (dC := dC) (dI := dI) (cI := cI) (cZ := cZ) (ad := ad) (sm := sm) (fe := fe) (ex := ex) (dy := dy) (gp := gp) (gc := gc) (op := op) (gr := gr) (st := st) (dl := dl) (wo := wo) (n := n) (yc := yc) (ya := ya) (ys := ys) (yd := yd) (q := q) (zc := zc) (zp := zp) (zr := zr) (zs := zs) (zf := zf) (z := z) (zm := zm) (zt := zt) (k := k) l hfl hn hk h1) (vx_cwSW 3 hts hg9 rfl rfl rfl (by decide +kernel) hR9) ⟨fun a U g mk q => ⟨q.1, q.2.1, va_K.moved (u := U) (U := U.calling g mk a) (Vm.Alike.refl U.vm) q.2.2.1, tX.same (u := U) (U := U.calling g mk a) rfl q.2.2.2.1, tN.moved (u := U) (U := U.calling g mk a) (Vm.Alike.refl U.vm) q.2.2.2.2⟩, fun U hU hW => ⟨rfl, by rw [hU]; exact hP, va_K.moved hW.alike hK, by rw [hU]; exact tX.warm hW hT, tN.moved hW.alike hN⟩⟩ rfl rfl hl9 rfl (lv_room hw9) hdg hc9) hS (fun _ _ h => h.elim) (fun _ h => h.elim) (fun r u t H1 locs1 ht _ hu _ hz hk hS1 => by subst hu; exact kk H1 locs1 hS1 hz (fun q hq => hk q hq (fun h => h)))
end
set_option maxHeartbeats 4000000 in
set_option maxRecDepth 100000 in
theorem h_deny_ok (l : Launch) {dC : Nat → ClassId} {dI : Nat → Nat → Nat} {cI cZ cJ : ClassId} {ad : Nat → Nat} {o9 : Nat} {sm fe ex dy : Int32} {gp gc op gr st dl wo : Nat → Int32} {n : Nat} {yc ya ys yd : Nat → Int32} {q : Nat} {zc zp zr zs zf : Nat → Int32} {z : Nat} {zm zt : Int64} {fo : Nat → Int64} {k : Nat} (hI : iwC ad) (ho : ¬ awC ad o9) (hn : n ≤ 24) (hk : k < n) (h1 : st k = 0 ∨ st k = nI 1) : Met l yL_deny wsL_deny { frames := 3, cells := 0, slots := 0, locals := 64 } (va_Pc [.ref (ad 0), .int (nI k), .ref o9] (fun U => va_P (dC, dI) vwCl (wC cI cZ ad sm fe ex dy gp gc op gr st dl wo n yc ya ys yd q zc zp zr zs zf z zm zt) U.heap ∧ va_K (dC, dI) vwCl [(cI, .int), (cZ, .boolean)] U ∧ va_P (dC, dI) vwCl [(o9, .inl (cJ, 1, .inr (.inl fo)))] U.heap ∧ va_K (dC, dI) vwCl [(cJ, .long)] U)) (va_Qi (fun r (_ : Unit) => r = nI 0) (fun (u9 : Unit) t => va_P (dC, dI) vwCl (wC cI cZ ad sm fe ex dy gp gc op gr (upd st k (nI 2)) dl wo n yc ya ys yd q zc zp zr zs zf z zm zt) t.heap ∧ ∃ f9 : Nat → Int64, f9 0 = (st k).toInt64 ∧ va_P (dC, dI) vwCl [(o9, .inl (cJ, 1, .inr (.inl f9)))] t.heap) (fun x => awC ad x ∨ x = o9)) 0 0 (fun x => awC ad x ∨ x = o9) := by
  refine va_MetW (cc := cL_deny) (maxL := 4) (ret := (some .int)) (hh := [(0, 9, 12, 21), (0, 9, 15, 15)]) (by decide) rfl ?_
  intro p e s m args below meth c s₁ B hml hv
  obtain ⟨rfl, hP, hK, hPo, hKJ⟩ := hv
  have hx := B.exec
  have hb := B.bytes
  have hr := B.returns
  have hts := atoms_spec (ws := wsL_deny) B.pre
  have hown : s.vm.findClass RL = some m.cls := findClass_of_methodNamed B.named
  have hlocks := B.notSynchronized
  have hA : ∀ x, awC ad x → (fun x => awC ad x ∨ x = o9) x := fun x h => Or.inl h
  have hS : va_S (fun x => awC ad x ∨ x = o9) s.heap s.heap [] := va_S.rf
  have hl := lv_entry ([.ref (ad 0), .int (nI k), .ref o9]) (n := 4) (Nat.le_of_ble_eq_true rfl)
  rw [lg_entry_eq]
  generalize (lg_sl ([.ref (ad 0), .int (nI k), .ref o9]) ++ List.replicate (4 - (lg_sl ([.ref (ad 0), .int (nI k), .ref o9])).length) Slot.unset).toArray = ls at hl ⊢
  have hl : lv_has ls 4 [(0, .ref (ad 0)), (1, .int (nI k)), (2, .ref o9)] := hl
  refine lv_aload_n hx hb dL_deny_0 rfl (lv_at hl 2 rfl) ?_
  refine lv_iconst (v := nI 0) hx hb dL_deny_1 (by decide) ?_
  refine lv_aload_n hx hb dL_deny_2 rfl (lv_at hl 0 rfl) ?_
  refine lv_iload_n hx hb dL_deny_3 rfl (lv_at hl 1 rfl) ?_
  refine k_X3_deny_ok l (k := k) (hn := hn) (hk := hk) (h1 := h1) hx hb hml hown hts hK hP gL_deny_X3_deny ⟨Nat.le_of_ble_eq_true rfl, Nat.le_of_ble_eq_true rfl⟩ ⟨Nat.le_of_ble_eq_true rfl, Nat.le_of_ble_eq_true rfl⟩ hl.1 (Nat.le_of_ble_eq_true rfl) dL_deny_4 hI hA hS (fun H locs hP hS hfr => ?_)
  have hPo := zz_ko hPo (hfr _ (zz_lt hPo) ho)
  refine lv_i2l (v := (st k).toInt64) hx hb dL_deny_7 rfl ?_
  have hPL := hP.app hPo
  refine va_last hx hb hKJ hPL (dwL hI ho ..) hS 20 0 rfl rfl (vp_in_nI (n := 0) (by decide) (by decide)) dL_deny_8 (fun H locs hPL _ hS => ?_)
  have hP : va_P (dC, dI) vwCl (wC cI cZ ad sm fe ex dy gp gc op gr (upd st k (nI 2)) dl wo n yc ya ys yd q zc zp zr zs zf z zm zt) H := hPL.sub [0, 1, 2, 3, 4, 5, 6, 7, 8, 9, 10, 11, 12, 13, 14, 15, 16, 17, 18, 19] rfl
  have hPo : va_P (dC, dI) vwCl [(o9, .inl (cJ, 1, .inr (.inl (vp_updL fo (nI 0).toNatClampNeg (st k).toInt64))))] H := hPL.sub [20] rfl
  refine lv_goto (tgt := 18) hx hb dL_deny_9 (by decide) ?_
  refine lv_iconst (v := nI 0) hx hb dL_deny_18 (by decide) ?_
  exact W.iret (v := nI 0) hx hb hr (fun t ht hW => ⟨⟨nI 0, (), rfl, rfl, ⟨by (try dsimp only); rw [ht]; exact hP, _, by unfold vp_updL; exact if_pos (by decide), by rw [ht]; exact hPo⟩⟩, hS.F ht⟩) hS.2.2 dL_deny_19
section
variable {p : Program} {e : Env} {R : Room} {s : State} {m : MethodId} {args : Array Value} {below : List Frame} {meth : Method} {c : Code} {H : Heap} {locs : List Loc} {cells slots : Nat} {Q : State → Prop} {cc : ByteArray} {pc : Nat} {ls : Array Slot} {rest : List Value} {own : String} {index nL : Nat} {Ts : List Cond} {H0 : Heap} {A0 : Nat → Prop}
theorem kh_deny_ok (l : Launch) {dC : Nat → ClassId} {dI : Nat → Nat → Nat} {cI cZ cJ : ClassId} {ad : Nat → Nat} {o9 : Nat} {sm fe ex dy : Int32} {gp gc op gr st dl wo : Nat → Int32} {n : Nat} {yc ya ys yd : Nat → Int32} {q : Nat} {zc zp zr zs zf : Nat → Int32} {z : Nat} {zm zt : Int64} {fo : Nat → Int64} {k : Nat} (hn : n ≤ 24) (hk : k < n) (h1 : st k = 0 ∨ st k = nI 1) (hx : p.tables.exec = Jvm.exec) (hb : c.code = cc) (hml : c.maxLocals = nL) (hown : s.vm.findClass own = some m.cls) (hts : ∀ w ∈ Ts, w.before args s = true) (hK : va_K (dC, dI) vwCl [(cI, .int), (cZ, .boolean)] s) (hP : va_P (dC, dI) vwCl (wC cI cZ ad sm fe ex dy gp gc op gr st dl wo n yc ya ys yd q zc zp zr zs zf z zm zt) H) (hg9 : GoodIn Ts (va_wsS own index yL_deny wsL_deny)) (hR9 : 3 + 1 ≤ R.frames ∧ 8 + (4 + 11) + 64 ≤ R.locals) (hc9 : cells + 0 ≤ R.cells ∧ slots + 0 ≤ R.slots) (hl9 : ls.size = nL) (hw9 : (rest.map fun v => v.category).sum ≤ 8) (hdg : decode cc pc = .ok (.invokestatic index, 3)) (hI : iwC ad) (ho : ¬ awC ad o9) (hPo : va_P (dC, dI) vwCl [(o9, .inl (cJ, 1, .inr (.inl fo)))] H) (hKJ : va_K (dC, dI) vwCl [(cJ, .long)] s) (hA : ∀ x, awC ad x ∨ x = o9 → A0 x) (hS : va_S A0 H0 H locs) (kk : ∀ (u9 : Unit) (H1 : Heap) (locs1 : List Loc), va_P (dC, dI) vwCl (wC cI cZ ad sm fe ex dy gp gc op gr (upd st k (nI 2)) dl wo n yc ya ys yd q zc zp zr zs zf z zm zt) H1 → ∀ f9 : Nat → Int64, f9 0 = (st k).toInt64 → va_P (dC, dI) vwCl [(o9, .inl (cJ, 1, .inr (.inl f9)))] H1 → va_S A0 H0 H1 locs1 → H.size ≤ H1.size → (∀ q : Nat, q < H.size → ¬ (awC ad q ∨ q = o9) → H1[q]? = H[q]?) → W p l e R s m args below meth c H1 locs1 cells slots Q (F0 m (pc + 3) ls (.int (nI 0) :: rest))) : W p l e R s m args below meth c H locs cells slots Q (F0 m pc ls (.ref o9 :: .int (nI k) :: .ref (ad 0) :: rest)) := va_calli (vx_runSW (As := [.ref (ad 0), .int (nI k), .ref o9]) (rest := rest) ⟨hx, hb, hml, hown, hts⟩ (h_deny_ok (cJ := cJ) (o9 := o9) (fo := fo) (dC := dC) (dI := dI) (cI := cI) (cZ := cZ) (ad := ad) (sm := sm) (fe := fe) (ex := ex) (dy := dy) (gp := gp) (gc := gc) (op := op) (gr := gr) (st := st) (dl := dl) (wo := wo) (n := n) (yc := yc) (ya := ya) (ys := ys) (yd := yd) (q := q) (zc := zc) (zp := zp) (zr := zr) (zs := zs) (zf := zf) (z := z) (zm := zm) (zt := zt) (k := k) l hI ho hn hk h1) (vx_cwSW 3 hts hg9 rfl rfl rfl (by decide +kernel) hR9) ⟨fun a U g mk q => ⟨q.1, q.2.1, va_K.moved (u := U) (U := U.calling g mk a) (Vm.Alike.refl U.vm) q.2.2.1, q.2.2.2.1, va_K.moved (u := U) (U := U.calling g mk a) (Vm.Alike.refl U.vm) q.2.2.2.2⟩, fun U hU hW => ⟨rfl, by rw [hU]; exact hP, va_K.moved hW.alike hK, by rw [hU]; exact hPo, va_K.moved hW.alike hKJ⟩⟩ rfl rfl hl9 rfl (lv_room hw9) hdg hc9) hS (fun q _ h => hA q h) hA (fun r u t H1 locs1 ht _ hu hB hz hk hS1 => by subst hu; obtain ⟨hB1, f9, hf9, hB2⟩ := hB; rw [ht] at hB1 hB2; exact kk u H1 locs1 hB1 f9 hf9 hB2 hS1 hz hk)
end
set_option maxHeartbeats 4000000 in
set_option maxRecDepth 100000 in
theorem h_deny_ise (l : Launch) {dC : Nat → ClassId} {dI : Nat → Nat → Nat} {cI cZ cJ : ClassId} {ad : Nat → Nat} {o9 : Nat} {sm fe ex dy : Int32} {gp gc op gr st dl wo : Nat → Int32} {n : Nat} {yc ya ys yd : Nat → Int32} {q : Nat} {zc zp zr zs zf : Nat → Int32} {z : Nat} {zm zt : Int64} {fo : Nat → Int64} {k : Nat} (hfl : l.stackTraces = false) (hn : n ≤ 24) (hk : k < n) (h1 : ¬ (st k = 0 ∨ st k = nI 1)) : Met l yL_deny wsL_deny { frames := 7, cells := 1, slots := 6, locals := 112 } (va_Pc [.ref (ad 0), .int (nI k), .ref o9] (fun U => va_P (dC, dI) vwCl (wC cI cZ ad sm fe ex dy gp gc op gr st dl wo n yc ya ys yd q zc zp zr zs zf z zm zt) U.heap ∧ va_K (dC, dI) vwCl [(cI, .int), (cZ, .boolean)] U ∧ tX (fun _ => False) U U.heap ∧ tN U)) (va_Qi (fun r (_ : Unit) => r = nI 2) (fun _ _ => True) (fun _ => False)) 1 6 (fun _ => False) := by
  refine va_MetW (cc := cL_deny) (maxL := 4) (ret := (some .int)) (hh := [(0, 9, 12, 21), (0, 9, 15, 15)]) (by decide) rfl ?_
  intro p e s m args below meth c s₁ B hml hv
  obtain ⟨rfl, hP, hK, hT, hN⟩ := hv
  have hx := B.exec
  have hb := B.bytes
  have hr := B.returns
  have hts := atoms_spec (ws := wsL_deny) B.pre
  have hown : s.vm.findClass RL = some m.cls := findClass_of_methodNamed B.named
  have hlocks := B.notSynchronized
  have hl := lv_entry ([.ref (ad 0), .int (nI k), .ref o9]) (n := 4) (Nat.le_of_ble_eq_true rfl)
  rw [lg_entry_eq]
  generalize (lg_sl ([.ref (ad 0), .int (nI k), .ref o9]) ++ List.replicate (4 - (lg_sl ([.ref (ad 0), .int (nI k), .ref o9])).length) Slot.unset).toArray = ls at hl ⊢
  have hl : lv_has ls 4 [(0, .ref (ad 0)), (1, .int (nI k)), (2, .ref o9)] := hl
  refine lv_aload_n hx hb dL_deny_0 rfl (lv_at hl 2 rfl) ?_
  refine lv_iconst (v := nI 0) hx hb dL_deny_1 (by decide) ?_
  refine lv_aload_n hx hb dL_deny_2 rfl (lv_at hl 0 rfl) ?_
  refine lv_iload_n hx hb dL_deny_3 rfl (lv_at hl 1 rfl) ?_
  have htab : c.exceptionTable.toList = ([⟨0, 9, 12, 21⟩] : List ExceptionTableEntry) ++ ⟨0, 9, 15, 15⟩ :: [] := (vx_table B (hts _ List.mem_cons_self)).trans rfl
  refine zx_go (kr_X3_deny_ise l hfl (k := k) (hn := hn) (hk := hk) (h1 := h1) hx hb hml hown hts hK hP gL_deny_X3_deny ⟨Nat.le_of_ble_eq_true rfl, Nat.le_of_ble_eq_true rfl⟩ ⟨Nat.le_of_ble_eq_true rfl, Nat.le_of_ble_eq_true rfl⟩ hl.1 (Nat.le_of_ble_eq_true rfl) dL_deny_4 hT) (fun ce q9 H1 hz9 hk9 hce hcv hcl => ?_)
  refine vx_catch (own := RL) (name := "java/lang/IllegalStateException") (E := "java/lang/IllegalStateException") hown [⟨0, 9, 12, 21⟩] ⟨0, 9, 15, 15⟩ [] htab (fun z hz => by rcases List.mem_singleton.mp hz with rfl; exact Or.inr ⟨by decide, _, hts (.classLink RL 21 "java/lang/IndexOutOfBoundsException") (by decide +kernel), hN.2.1.2⟩) rfl (by decide) (hts (.classLink RL 15 "java/lang/IllegalStateException") (by decide +kernel)) (va_Nw.use rfl hT.2.1.2.1) hce hcv hcl ?_
  have hS : va_S (fun _ => False) s.heap H1 [] := ⟨hz9, fun q hq _ => hk9 q hq, fun _ h => nomatch h⟩
  refine lv_astore_n (lv' := [(3, .ref q9), (0, .ref (ad 0)), (1, .int (nI k)), (2, .ref o9)]) hx hb dL_deny_15 rfl hl (by decide) rfl (fun ls hl => ?_)
  refine lv_iconst (v := nI 2) hx hb dL_deny_16 (by decide) ?_
  exact W.iret (v := nI 2) hx hb hr (fun t ht hW => ⟨⟨nI 2, (), rfl, rfl, trivial⟩, hS.F ht⟩) hS.2.2 dL_deny_17
section
variable {p : Program} {e : Env} {R : Room} {s : State} {m : MethodId} {args : Array Value} {below : List Frame} {meth : Method} {c : Code} {H : Heap} {locs : List Loc} {cells slots : Nat} {Q : State → Prop} {cc : ByteArray} {pc : Nat} {ls : Array Slot} {rest : List Value} {own : String} {index nL : Nat} {Ts : List Cond} {H0 : Heap} {A0 : Nat → Prop}
theorem kh_deny_ise (l : Launch) {dC : Nat → ClassId} {dI : Nat → Nat → Nat} {cI cZ cJ : ClassId} {ad : Nat → Nat} {o9 : Nat} {sm fe ex dy : Int32} {gp gc op gr st dl wo : Nat → Int32} {n : Nat} {yc ya ys yd : Nat → Int32} {q : Nat} {zc zp zr zs zf : Nat → Int32} {z : Nat} {zm zt : Int64} {fo : Nat → Int64} {k : Nat}(hfl : l.stackTraces = false)  (hn : n ≤ 24) (hk : k < n) (h1 : ¬ (st k = 0 ∨ st k = nI 1)) (hx : p.tables.exec = Jvm.exec) (hb : c.code = cc) (hml : c.maxLocals = nL) (hown : s.vm.findClass own = some m.cls) (hts : ∀ w ∈ Ts, w.before args s = true) (hK : va_K (dC, dI) vwCl [(cI, .int), (cZ, .boolean)] s) (hP : va_P (dC, dI) vwCl (wC cI cZ ad sm fe ex dy gp gc op gr st dl wo n yc ya ys yd q zc zp zr zs zf z zm zt) H) (hg9 : GoodIn Ts (va_wsS own index yL_deny wsL_deny)) (hR9 : 7 + 1 ≤ R.frames ∧ 8 + (4 + 11) + 112 ≤ R.locals) (hc9 : cells + 1 ≤ R.cells ∧ slots + 6 ≤ R.slots) (hl9 : ls.size = nL) (hw9 : (rest.map fun v => v.category).sum ≤ 8) (hdg : decode cc pc = .ok (.invokestatic index, 3)) (hT : tX (fun _ => False) s H) (hN : tN s) (hS : va_S A0 H0 H locs) (kk : ∀ (H1 : Heap) (locs1 : List Loc), va_S A0 H0 H1 locs1 → H.size ≤ H1.size → (∀ q : Nat, q < H.size → H1[q]? = H[q]?) → W p l e R s m args below meth c H1 locs1 (cells + 1) (slots + 6) Q (F0 m (pc + 3) ls (.int (nI 2) :: rest))) : W p l e R s m args below meth c H locs cells slots Q (F0 m pc ls (.ref o9 :: .int (nI k) :: .ref (ad 0) :: rest)) := va_calli (vx_runSW (As := [.ref (ad 0), .int (nI k), .ref o9]) (rest := rest) ⟨hx, hb, hml, hown, hts⟩ (h_deny_ise (cJ := 0) (o9 := o9) (fo := fun _ => 0) (dC := dC) (dI := dI) (cI := cI) (cZ := cZ) (ad := ad) (sm := sm) (fe := fe) (ex := ex) (dy := dy) (gp := gp) (gc := gc) (op := op) (gr := gr) (st := st) (dl := dl) (wo := wo) (n := n) (yc := yc) (ya := ya) (ys := ys) (yd := yd) (q := q) (zc := zc) (zp := zp) (zr := zr) (zs := zs) (zf := zf) (z := z) (zm := zm) (zt := zt) (k := k) l hfl hn hk h1) (vx_cwSW 3 hts hg9 rfl rfl rfl (by decide +kernel) hR9) ⟨fun a U g mk q => ⟨q.1, q.2.1, va_K.moved (u := U) (U := U.calling g mk a) (Vm.Alike.refl U.vm) q.2.2.1, tX.same (u := U) (U := U.calling g mk a) rfl q.2.2.2.1, tN.moved (u := U) (U := U.calling g mk a) (Vm.Alike.refl U.vm) q.2.2.2.2⟩, fun U hU hW => ⟨rfl, by rw [hU]; exact hP, va_K.moved hW.alike hK, by rw [hU]; exact tX.warm hW hT, tN.moved hW.alike hN⟩⟩ rfl rfl hl9 rfl (lv_room hw9) hdg hc9) hS (fun _ _ h => h.elim) (fun _ h => h.elim) (fun r u t H1 locs1 ht _ hu _ hz hk hS1 => by subst hu; exact kk H1 locs1 hS1 hz (fun q hq => hk q hq (fun h => h)))
end
set_option maxHeartbeats 4000000 in
set_option maxRecDepth 100000 in
theorem h_object_ok (l : Launch) {dC : Nat → ClassId} {dI : Nat → Nat → Nat} {cI cZ cJ : ClassId} {ad : Nat → Nat} {o9 : Nat} {sm fe ex dy : Int32} {gp gc op gr st dl wo : Nat → Int32} {n : Nat} {yc ya ys yd : Nat → Int32} {q : Nat} {zc zp zr zs zf : Nat → Int32} {z : Nat} {zm zt : Int64} {fo : Nat → Int64} {k : Nat} (hI : iwC ad) (ho : ¬ awC ad o9) (hn : n ≤ 24) (hk : k < n) (h1 : st k = nI 2) (h2 : wo k = 0) : Met l yL_object wsL_object { frames := 3, cells := 0, slots := 0, locals := 63 } (va_Pc [.ref (ad 0), .int (nI k), .ref o9] (fun U => va_P (dC, dI) vwCl (wC cI cZ ad sm fe ex dy gp gc op gr st dl wo n yc ya ys yd q zc zp zr zs zf z zm zt) U.heap ∧ va_K (dC, dI) vwCl [(cI, .int), (cZ, .boolean)] U ∧ va_P (dC, dI) vwCl [(o9, .inl (cJ, 1, .inr (.inl fo)))] U.heap ∧ va_K (dC, dI) vwCl [(cJ, .long)] U)) (va_Qi (fun r (_ : Unit) => r = nI 0) (fun (u9 : Unit) t => va_P (dC, dI) vwCl (wC cI cZ ad sm fe ex dy gp gc op gr (upd st k (nI 3)) dl (upd wo k (nI 1)) n yc ya ys yd q zc zp zr zs zf z zm zt) t.heap ∧ ∃ f9 : Nat → Int64, f9 0 = (nI (tallyN (upd st k (nI 3)) (nI 3) n)).toInt64 ∧ va_P (dC, dI) vwCl [(o9, .inl (cJ, 1, .inr (.inl f9)))] t.heap) (fun x => awC ad x ∨ x = o9)) 0 0 (fun x => awC ad x ∨ x = o9) := by
  refine va_MetW (cc := cL_object) (maxL := 4) (ret := (some .int)) (hh := [(0, 9, 12, 21), (0, 9, 15, 15)]) (by decide) rfl ?_
  intro p e s m args below meth c s₁ B hml hv
  obtain ⟨rfl, hP, hK, hPo, hKJ⟩ := hv
  have hx := B.exec
  have hb := B.bytes
  have hr := B.returns
  have hts := atoms_spec (ws := wsL_object) B.pre
  have hown : s.vm.findClass RL = some m.cls := findClass_of_methodNamed B.named
  have hlocks := B.notSynchronized
  have hA : ∀ x, awC ad x → (fun x => awC ad x ∨ x = o9) x := fun x h => Or.inl h
  have hS : va_S (fun x => awC ad x ∨ x = o9) s.heap s.heap [] := va_S.rf
  have hl := lv_entry ([.ref (ad 0), .int (nI k), .ref o9]) (n := 4) (Nat.le_of_ble_eq_true rfl)
  rw [lg_entry_eq]
  generalize (lg_sl ([.ref (ad 0), .int (nI k), .ref o9]) ++ List.replicate (4 - (lg_sl ([.ref (ad 0), .int (nI k), .ref o9])).length) Slot.unset).toArray = ls at hl ⊢
  have hl : lv_has ls 4 [(0, .ref (ad 0)), (1, .int (nI k)), (2, .ref o9)] := hl
  refine lv_aload_n hx hb dL_object_0 rfl (lv_at hl 2 rfl) ?_
  refine lv_iconst (v := nI 0) hx hb dL_object_1 (by decide) ?_
  refine lv_aload_n hx hb dL_object_2 rfl (lv_at hl 0 rfl) ?_
  refine lv_iload_n hx hb dL_object_3 rfl (lv_at hl 1 rfl) ?_
  refine k_X3_object_ok l (k := k) (hn := hn) (hk := hk) (h1 := h1) (h2 := h2) hx hb hml hown hts hK hP gL_object_X3_object ⟨Nat.le_of_ble_eq_true rfl, Nat.le_of_ble_eq_true rfl⟩ ⟨Nat.le_of_ble_eq_true rfl, Nat.le_of_ble_eq_true rfl⟩ hl.1 (Nat.le_of_ble_eq_true rfl) dL_object_4 hI hA hS (fun H locs hP hS hfr => ?_)
  have hPo := zz_ko hPo (hfr _ (zz_lt hPo) ho)
  refine lv_i2l (v := (nI (tallyN (upd st k (nI 3)) (nI 3) n)).toInt64) hx hb dL_object_7 rfl ?_
  have hPL := hP.app hPo
  refine va_last hx hb hKJ hPL (dwL hI ho ..) hS 20 0 rfl rfl (vp_in_nI (n := 0) (by decide) (by decide)) dL_object_8 (fun H locs hPL _ hS => ?_)
  have hP : va_P (dC, dI) vwCl (wC cI cZ ad sm fe ex dy gp gc op gr (upd st k (nI 3)) dl (upd wo k (nI 1)) n yc ya ys yd q zc zp zr zs zf z zm zt) H := hPL.sub [0, 1, 2, 3, 4, 5, 6, 7, 8, 9, 10, 11, 12, 13, 14, 15, 16, 17, 18, 19] rfl
  have hPo : va_P (dC, dI) vwCl [(o9, .inl (cJ, 1, .inr (.inl (vp_updL fo (nI 0).toNatClampNeg (nI (tallyN (upd st k (nI 3)) (nI 3) n)).toInt64))))] H := hPL.sub [20] rfl
  refine lv_goto (tgt := 18) hx hb dL_object_9 (by decide) ?_
  refine lv_iconst (v := nI 0) hx hb dL_object_18 (by decide) ?_
  exact W.iret (v := nI 0) hx hb hr (fun t ht hW => ⟨⟨nI 0, (), rfl, rfl, ⟨by (try dsimp only); rw [ht]; exact hP, _, by unfold vp_updL; exact if_pos (by decide), by rw [ht]; exact hPo⟩⟩, hS.F ht⟩) hS.2.2 dL_object_19
section
variable {p : Program} {e : Env} {R : Room} {s : State} {m : MethodId} {args : Array Value} {below : List Frame} {meth : Method} {c : Code} {H : Heap} {locs : List Loc} {cells slots : Nat} {Q : State → Prop} {cc : ByteArray} {pc : Nat} {ls : Array Slot} {rest : List Value} {own : String} {index nL : Nat} {Ts : List Cond} {H0 : Heap} {A0 : Nat → Prop}
theorem kh_object_ok (l : Launch) {dC : Nat → ClassId} {dI : Nat → Nat → Nat} {cI cZ cJ : ClassId} {ad : Nat → Nat} {o9 : Nat} {sm fe ex dy : Int32} {gp gc op gr st dl wo : Nat → Int32} {n : Nat} {yc ya ys yd : Nat → Int32} {q : Nat} {zc zp zr zs zf : Nat → Int32} {z : Nat} {zm zt : Int64} {fo : Nat → Int64} {k : Nat} (hn : n ≤ 24) (hk : k < n) (h1 : st k = nI 2) (h2 : wo k = 0) (hx : p.tables.exec = Jvm.exec) (hb : c.code = cc) (hml : c.maxLocals = nL) (hown : s.vm.findClass own = some m.cls) (hts : ∀ w ∈ Ts, w.before args s = true) (hK : va_K (dC, dI) vwCl [(cI, .int), (cZ, .boolean)] s) (hP : va_P (dC, dI) vwCl (wC cI cZ ad sm fe ex dy gp gc op gr st dl wo n yc ya ys yd q zc zp zr zs zf z zm zt) H) (hg9 : GoodIn Ts (va_wsS own index yL_object wsL_object)) (hR9 : 3 + 1 ≤ R.frames ∧ 8 + (4 + 11) + 63 ≤ R.locals) (hc9 : cells + 0 ≤ R.cells ∧ slots + 0 ≤ R.slots) (hl9 : ls.size = nL) (hw9 : (rest.map fun v => v.category).sum ≤ 8) (hdg : decode cc pc = .ok (.invokestatic index, 3)) (hI : iwC ad) (ho : ¬ awC ad o9) (hPo : va_P (dC, dI) vwCl [(o9, .inl (cJ, 1, .inr (.inl fo)))] H) (hKJ : va_K (dC, dI) vwCl [(cJ, .long)] s) (hA : ∀ x, awC ad x ∨ x = o9 → A0 x) (hS : va_S A0 H0 H locs) (kk : ∀ (u9 : Unit) (H1 : Heap) (locs1 : List Loc), va_P (dC, dI) vwCl (wC cI cZ ad sm fe ex dy gp gc op gr (upd st k (nI 3)) dl (upd wo k (nI 1)) n yc ya ys yd q zc zp zr zs zf z zm zt) H1 → ∀ f9 : Nat → Int64, f9 0 = (nI (tallyN (upd st k (nI 3)) (nI 3) n)).toInt64 → va_P (dC, dI) vwCl [(o9, .inl (cJ, 1, .inr (.inl f9)))] H1 → va_S A0 H0 H1 locs1 → H.size ≤ H1.size → (∀ q : Nat, q < H.size → ¬ (awC ad q ∨ q = o9) → H1[q]? = H[q]?) → W p l e R s m args below meth c H1 locs1 cells slots Q (F0 m (pc + 3) ls (.int (nI 0) :: rest))) : W p l e R s m args below meth c H locs cells slots Q (F0 m pc ls (.ref o9 :: .int (nI k) :: .ref (ad 0) :: rest)) := va_calli (vx_runSW (As := [.ref (ad 0), .int (nI k), .ref o9]) (rest := rest) ⟨hx, hb, hml, hown, hts⟩ (h_object_ok (cJ := cJ) (o9 := o9) (fo := fo) (dC := dC) (dI := dI) (cI := cI) (cZ := cZ) (ad := ad) (sm := sm) (fe := fe) (ex := ex) (dy := dy) (gp := gp) (gc := gc) (op := op) (gr := gr) (st := st) (dl := dl) (wo := wo) (n := n) (yc := yc) (ya := ya) (ys := ys) (yd := yd) (q := q) (zc := zc) (zp := zp) (zr := zr) (zs := zs) (zf := zf) (z := z) (zm := zm) (zt := zt) (k := k) l hI ho hn hk h1 h2) (vx_cwSW 3 hts hg9 rfl rfl rfl (by decide +kernel) hR9) ⟨fun a U g mk q => ⟨q.1, q.2.1, va_K.moved (u := U) (U := U.calling g mk a) (Vm.Alike.refl U.vm) q.2.2.1, q.2.2.2.1, va_K.moved (u := U) (U := U.calling g mk a) (Vm.Alike.refl U.vm) q.2.2.2.2⟩, fun U hU hW => ⟨rfl, by rw [hU]; exact hP, va_K.moved hW.alike hK, by rw [hU]; exact hPo, va_K.moved hW.alike hKJ⟩⟩ rfl rfl hl9 rfl (lv_room hw9) hdg hc9) hS (fun q _ h => hA q h) hA (fun r u t H1 locs1 ht _ hu hB hz hk hS1 => by subst hu; obtain ⟨hB1, f9, hf9, hB2⟩ := hB; rw [ht] at hB1 hB2; exact kk u H1 locs1 hB1 f9 hf9 hB2 hS1 hz hk)
end
set_option maxHeartbeats 4000000 in
set_option maxRecDepth 100000 in
theorem h_object_ise (l : Launch) {dC : Nat → ClassId} {dI : Nat → Nat → Nat} {cI cZ cJ : ClassId} {ad : Nat → Nat} {o9 : Nat} {sm fe ex dy : Int32} {gp gc op gr st dl wo : Nat → Int32} {n : Nat} {yc ya ys yd : Nat → Int32} {q : Nat} {zc zp zr zs zf : Nat → Int32} {z : Nat} {zm zt : Int64} {fo : Nat → Int64} {k : Nat} (hfl : l.stackTraces = false) (hn : n ≤ 24) (hk : k < n) (h1 : ¬ (st k = nI 2 ∧ wo k = 0)) : Met l yL_object wsL_object { frames := 7, cells := 1, slots := 6, locals := 111 } (va_Pc [.ref (ad 0), .int (nI k), .ref o9] (fun U => va_P (dC, dI) vwCl (wC cI cZ ad sm fe ex dy gp gc op gr st dl wo n yc ya ys yd q zc zp zr zs zf z zm zt) U.heap ∧ va_K (dC, dI) vwCl [(cI, .int), (cZ, .boolean)] U ∧ tX (fun _ => False) U U.heap ∧ tN U)) (va_Qi (fun r (_ : Unit) => r = nI 2) (fun _ _ => True) (fun _ => False)) 1 6 (fun _ => False) := by
  refine va_MetW (cc := cL_object) (maxL := 4) (ret := (some .int)) (hh := [(0, 9, 12, 21), (0, 9, 15, 15)]) (by decide) rfl ?_
  intro p e s m args below meth c s₁ B hml hv
  obtain ⟨rfl, hP, hK, hT, hN⟩ := hv
  have hx := B.exec
  have hb := B.bytes
  have hr := B.returns
  have hts := atoms_spec (ws := wsL_object) B.pre
  have hown : s.vm.findClass RL = some m.cls := findClass_of_methodNamed B.named
  have hlocks := B.notSynchronized
  have hl := lv_entry ([.ref (ad 0), .int (nI k), .ref o9]) (n := 4) (Nat.le_of_ble_eq_true rfl)
  rw [lg_entry_eq]
  generalize (lg_sl ([.ref (ad 0), .int (nI k), .ref o9]) ++ List.replicate (4 - (lg_sl ([.ref (ad 0), .int (nI k), .ref o9])).length) Slot.unset).toArray = ls at hl ⊢
  have hl : lv_has ls 4 [(0, .ref (ad 0)), (1, .int (nI k)), (2, .ref o9)] := hl
  refine lv_aload_n hx hb dL_object_0 rfl (lv_at hl 2 rfl) ?_
  refine lv_iconst (v := nI 0) hx hb dL_object_1 (by decide) ?_
  refine lv_aload_n hx hb dL_object_2 rfl (lv_at hl 0 rfl) ?_
  refine lv_iload_n hx hb dL_object_3 rfl (lv_at hl 1 rfl) ?_
  have htab : c.exceptionTable.toList = ([⟨0, 9, 12, 21⟩] : List ExceptionTableEntry) ++ ⟨0, 9, 15, 15⟩ :: [] := (vx_table B (hts _ List.mem_cons_self)).trans rfl
  refine zx_go (kr_X3_object_ise l hfl (k := k) (hn := hn) (hk := hk) (h1 := h1) hx hb hml hown hts hK hP gL_object_X3_object ⟨Nat.le_of_ble_eq_true rfl, Nat.le_of_ble_eq_true rfl⟩ ⟨Nat.le_of_ble_eq_true rfl, Nat.le_of_ble_eq_true rfl⟩ hl.1 (Nat.le_of_ble_eq_true rfl) dL_object_4 hT) (fun ce q9 H1 hz9 hk9 hce hcv hcl => ?_)
  refine vx_catch (own := RL) (name := "java/lang/IllegalStateException") (E := "java/lang/IllegalStateException") hown [⟨0, 9, 12, 21⟩] ⟨0, 9, 15, 15⟩ [] htab (fun z hz => by rcases List.mem_singleton.mp hz with rfl; exact Or.inr ⟨by decide, _, hts (.classLink RL 21 "java/lang/IndexOutOfBoundsException") (by decide +kernel), hN.2.1.2⟩) rfl (by decide) (hts (.classLink RL 15 "java/lang/IllegalStateException") (by decide +kernel)) (va_Nw.use rfl hT.2.1.2.1) hce hcv hcl ?_
  have hS : va_S (fun _ => False) s.heap H1 [] := ⟨hz9, fun q hq _ => hk9 q hq, fun _ h => nomatch h⟩
  refine lv_astore_n (lv' := [(3, .ref q9), (0, .ref (ad 0)), (1, .int (nI k)), (2, .ref o9)]) hx hb dL_object_15 rfl hl (by decide) rfl (fun ls hl => ?_)
  refine lv_iconst (v := nI 2) hx hb dL_object_16 (by decide) ?_
  exact W.iret (v := nI 2) hx hb hr (fun t ht hW => ⟨⟨nI 2, (), rfl, rfl, trivial⟩, hS.F ht⟩) hS.2.2 dL_object_17
section
variable {p : Program} {e : Env} {R : Room} {s : State} {m : MethodId} {args : Array Value} {below : List Frame} {meth : Method} {c : Code} {H : Heap} {locs : List Loc} {cells slots : Nat} {Q : State → Prop} {cc : ByteArray} {pc : Nat} {ls : Array Slot} {rest : List Value} {own : String} {index nL : Nat} {Ts : List Cond} {H0 : Heap} {A0 : Nat → Prop}
theorem kh_object_ise (l : Launch) {dC : Nat → ClassId} {dI : Nat → Nat → Nat} {cI cZ cJ : ClassId} {ad : Nat → Nat} {o9 : Nat} {sm fe ex dy : Int32} {gp gc op gr st dl wo : Nat → Int32} {n : Nat} {yc ya ys yd : Nat → Int32} {q : Nat} {zc zp zr zs zf : Nat → Int32} {z : Nat} {zm zt : Int64} {fo : Nat → Int64} {k : Nat}(hfl : l.stackTraces = false)  (hn : n ≤ 24) (hk : k < n) (h1 : ¬ (st k = nI 2 ∧ wo k = 0)) (hx : p.tables.exec = Jvm.exec) (hb : c.code = cc) (hml : c.maxLocals = nL) (hown : s.vm.findClass own = some m.cls) (hts : ∀ w ∈ Ts, w.before args s = true) (hK : va_K (dC, dI) vwCl [(cI, .int), (cZ, .boolean)] s) (hP : va_P (dC, dI) vwCl (wC cI cZ ad sm fe ex dy gp gc op gr st dl wo n yc ya ys yd q zc zp zr zs zf z zm zt) H) (hg9 : GoodIn Ts (va_wsS own index yL_object wsL_object)) (hR9 : 7 + 1 ≤ R.frames ∧ 8 + (4 + 11) + 111 ≤ R.locals) (hc9 : cells + 1 ≤ R.cells ∧ slots + 6 ≤ R.slots) (hl9 : ls.size = nL) (hw9 : (rest.map fun v => v.category).sum ≤ 8) (hdg : decode cc pc = .ok (.invokestatic index, 3)) (hT : tX (fun _ => False) s H) (hN : tN s) (hS : va_S A0 H0 H locs) (kk : ∀ (H1 : Heap) (locs1 : List Loc), va_S A0 H0 H1 locs1 → H.size ≤ H1.size → (∀ q : Nat, q < H.size → H1[q]? = H[q]?) → W p l e R s m args below meth c H1 locs1 (cells + 1) (slots + 6) Q (F0 m (pc + 3) ls (.int (nI 2) :: rest))) : W p l e R s m args below meth c H locs cells slots Q (F0 m pc ls (.ref o9 :: .int (nI k) :: .ref (ad 0) :: rest)) := va_calli (vx_runSW (As := [.ref (ad 0), .int (nI k), .ref o9]) (rest := rest) ⟨hx, hb, hml, hown, hts⟩ (h_object_ise (cJ := 0) (o9 := o9) (fo := fun _ => 0) (dC := dC) (dI := dI) (cI := cI) (cZ := cZ) (ad := ad) (sm := sm) (fe := fe) (ex := ex) (dy := dy) (gp := gp) (gc := gc) (op := op) (gr := gr) (st := st) (dl := dl) (wo := wo) (n := n) (yc := yc) (ya := ya) (ys := ys) (yd := yd) (q := q) (zc := zc) (zp := zp) (zr := zr) (zs := zs) (zf := zf) (z := z) (zm := zm) (zt := zt) (k := k) l hfl hn hk h1) (vx_cwSW 3 hts hg9 rfl rfl rfl (by decide +kernel) hR9) ⟨fun a U g mk q => ⟨q.1, q.2.1, va_K.moved (u := U) (U := U.calling g mk a) (Vm.Alike.refl U.vm) q.2.2.1, tX.same (u := U) (U := U.calling g mk a) rfl q.2.2.2.1, tN.moved (u := U) (U := U.calling g mk a) (Vm.Alike.refl U.vm) q.2.2.2.2⟩, fun U hU hW => ⟨rfl, by rw [hU]; exact hP, va_K.moved hW.alike hK, by rw [hU]; exact tX.warm hW hT, tN.moved hW.alike hN⟩⟩ rfl rfl hl9 rfl (lv_room hw9) hdg hc9) hS (fun _ _ h => h.elim) (fun _ h => h.elim) (fun r u t H1 locs1 ht _ hu _ hz hk hS1 => by subst hu; exact kk H1 locs1 hS1 hz (fun q hq => hk q hq (fun h => h)))
end
set_option maxHeartbeats 4000000 in
set_option maxRecDepth 100000 in
theorem h_decide_ok (l : Launch) {dC : Nat → ClassId} {dI : Nat → Nat → Nat} {cI cZ cJ : ClassId} {ad : Nat → Nat} {o9 : Nat} {sm fe ex dy : Int32} {gp gc op gr st dl wo : Nat → Int32} {n : Nat} {yc ya ys yd : Nat → Int32} {q : Nat} {zc zp zr zs zf : Nat → Int32} {z : Nat} {zm zt : Int64} {fo : Nat → Int64} {k : Nat} {b : Int32} (hI : iwC ad) (ho : ¬ awC ad o9) (hn : n ≤ 24) (hk : k < n) (h1 : st k = nI 3) : Met l yL_decide wsL_decide { frames := 3, cells := 0, slots := 0, locals := 64 } (va_Pc [.ref (ad 0), .int (nI k), .int b, .ref o9] (fun U => va_P (dC, dI) vwCl (wC cI cZ ad sm fe ex dy gp gc op gr st dl wo n yc ya ys yd q zc zp zr zs zf z zm zt) U.heap ∧ va_K (dC, dI) vwCl [(cI, .int), (cZ, .boolean)] U ∧ va_P (dC, dI) vwCl [(o9, .inl (cJ, 1, .inr (.inl fo)))] U.heap ∧ va_K (dC, dI) vwCl [(cJ, .long)] U)) (va_Qi (fun r (_ : Unit) => r = nI 0) (fun (u9 : Unit) t => va_P (dC, dI) vwCl (wC cI cZ ad sm fe ex dy gp gc op gr (upd st k (goodS b)) dl wo n yc ya ys yd q zc zp zr zs zf z zm zt) t.heap ∧ ∃ f9 : Nat → Int64, f9 0 = (nI (tallyN (upd st k (goodS b)) (nI 3) n)).toInt64 ∧ va_P (dC, dI) vwCl [(o9, .inl (cJ, 1, .inr (.inl f9)))] t.heap) (fun x => awC ad x ∨ x = o9)) 0 0 (fun x => awC ad x ∨ x = o9) := by
  refine va_MetW (cc := cL_decide) (maxL := 5) (ret := (some .int)) (hh := [(0, 10, 13, 21), (0, 10, 17, 15)]) (by decide) rfl ?_
  intro p e s m args below meth c s₁ B hml hv
  obtain ⟨rfl, hP, hK, hPo, hKJ⟩ := hv
  have hx := B.exec
  have hb := B.bytes
  have hr := B.returns
  have hts := atoms_spec (ws := wsL_decide) B.pre
  have hown : s.vm.findClass RL = some m.cls := findClass_of_methodNamed B.named
  have hlocks := B.notSynchronized
  have hA : ∀ x, awC ad x → (fun x => awC ad x ∨ x = o9) x := fun x h => Or.inl h
  have hS : va_S (fun x => awC ad x ∨ x = o9) s.heap s.heap [] := va_S.rf
  have hl := lv_entry ([.ref (ad 0), .int (nI k), .int b, .ref o9]) (n := 5) (Nat.le_of_ble_eq_true rfl)
  rw [lg_entry_eq]
  generalize (lg_sl ([.ref (ad 0), .int (nI k), .int b, .ref o9]) ++ List.replicate (5 - (lg_sl ([.ref (ad 0), .int (nI k), .int b, .ref o9])).length) Slot.unset).toArray = ls at hl ⊢
  have hl : lv_has ls 5 [(0, .ref (ad 0)), (1, .int (nI k)), (2, .int b), (3, .ref o9)] := hl
  refine lv_aload_n hx hb dL_decide_0 rfl (lv_at hl 3 rfl) ?_
  refine lv_iconst (v := nI 0) hx hb dL_decide_1 (by decide) ?_
  refine lv_aload_n hx hb dL_decide_2 rfl (lv_at hl 0 rfl) ?_
  refine lv_iload_n hx hb dL_decide_3 rfl (lv_at hl 1 rfl) ?_
  refine lv_iload_n hx hb dL_decide_4 rfl (lv_at hl 2 rfl) ?_
  refine k_X3_decide_ok l (k := k) (b := b) (hn := hn) (hk := hk) (h1 := h1) hx hb hml hown hts hK hP gL_decide_X3_decide ⟨Nat.le_of_ble_eq_true rfl, Nat.le_of_ble_eq_true rfl⟩ ⟨Nat.le_of_ble_eq_true rfl, Nat.le_of_ble_eq_true rfl⟩ hl.1 (Nat.le_of_ble_eq_true rfl) dL_decide_5 hI hA hS (fun H locs hP hS hfr => ?_)
  have hPo := zz_ko hPo (hfr _ (zz_lt hPo) ho)
  refine lv_i2l (v := (nI (tallyN (upd st k (goodS b)) (nI 3) n)).toInt64) hx hb dL_decide_8 rfl ?_
  have hPL := hP.app hPo
  refine va_last hx hb hKJ hPL (dwL hI ho ..) hS 20 0 rfl rfl (vp_in_nI (n := 0) (by decide) (by decide)) dL_decide_9 (fun H locs hPL _ hS => ?_)
  have hP : va_P (dC, dI) vwCl (wC cI cZ ad sm fe ex dy gp gc op gr (upd st k (goodS b)) dl wo n yc ya ys yd q zc zp zr zs zf z zm zt) H := hPL.sub [0, 1, 2, 3, 4, 5, 6, 7, 8, 9, 10, 11, 12, 13, 14, 15, 16, 17, 18, 19] rfl
  have hPo : va_P (dC, dI) vwCl [(o9, .inl (cJ, 1, .inr (.inl (vp_updL fo (nI 0).toNatClampNeg (nI (tallyN (upd st k (goodS b)) (nI 3) n)).toInt64))))] H := hPL.sub [20] rfl
  refine lv_goto (tgt := 21) hx hb dL_decide_10 (by decide) ?_
  refine lv_iconst (v := nI 0) hx hb dL_decide_21 (by decide) ?_
  exact W.iret (v := nI 0) hx hb hr (fun t ht hW => ⟨⟨nI 0, (), rfl, rfl, ⟨by (try dsimp only); rw [ht]; exact hP, _, by unfold vp_updL; exact if_pos (by decide), by rw [ht]; exact hPo⟩⟩, hS.F ht⟩) hS.2.2 dL_decide_22
section
variable {p : Program} {e : Env} {R : Room} {s : State} {m : MethodId} {args : Array Value} {below : List Frame} {meth : Method} {c : Code} {H : Heap} {locs : List Loc} {cells slots : Nat} {Q : State → Prop} {cc : ByteArray} {pc : Nat} {ls : Array Slot} {rest : List Value} {own : String} {index nL : Nat} {Ts : List Cond} {H0 : Heap} {A0 : Nat → Prop}
theorem kh_decide_ok (l : Launch) {dC : Nat → ClassId} {dI : Nat → Nat → Nat} {cI cZ cJ : ClassId} {ad : Nat → Nat} {o9 : Nat} {sm fe ex dy : Int32} {gp gc op gr st dl wo : Nat → Int32} {n : Nat} {yc ya ys yd : Nat → Int32} {q : Nat} {zc zp zr zs zf : Nat → Int32} {z : Nat} {zm zt : Int64} {fo : Nat → Int64} {k : Nat} {b : Int32} (hn : n ≤ 24) (hk : k < n) (h1 : st k = nI 3) (hx : p.tables.exec = Jvm.exec) (hb : c.code = cc) (hml : c.maxLocals = nL) (hown : s.vm.findClass own = some m.cls) (hts : ∀ w ∈ Ts, w.before args s = true) (hK : va_K (dC, dI) vwCl [(cI, .int), (cZ, .boolean)] s) (hP : va_P (dC, dI) vwCl (wC cI cZ ad sm fe ex dy gp gc op gr st dl wo n yc ya ys yd q zc zp zr zs zf z zm zt) H) (hg9 : GoodIn Ts (va_wsS own index yL_decide wsL_decide)) (hR9 : 3 + 1 ≤ R.frames ∧ 8 + (5 + 11) + 64 ≤ R.locals) (hc9 : cells + 0 ≤ R.cells ∧ slots + 0 ≤ R.slots) (hl9 : ls.size = nL) (hw9 : (rest.map fun v => v.category).sum ≤ 8) (hdg : decode cc pc = .ok (.invokestatic index, 3)) (hI : iwC ad) (ho : ¬ awC ad o9) (hPo : va_P (dC, dI) vwCl [(o9, .inl (cJ, 1, .inr (.inl fo)))] H) (hKJ : va_K (dC, dI) vwCl [(cJ, .long)] s) (hA : ∀ x, awC ad x ∨ x = o9 → A0 x) (hS : va_S A0 H0 H locs) (kk : ∀ (u9 : Unit) (H1 : Heap) (locs1 : List Loc), va_P (dC, dI) vwCl (wC cI cZ ad sm fe ex dy gp gc op gr (upd st k (goodS b)) dl wo n yc ya ys yd q zc zp zr zs zf z zm zt) H1 → ∀ f9 : Nat → Int64, f9 0 = (nI (tallyN (upd st k (goodS b)) (nI 3) n)).toInt64 → va_P (dC, dI) vwCl [(o9, .inl (cJ, 1, .inr (.inl f9)))] H1 → va_S A0 H0 H1 locs1 → H.size ≤ H1.size → (∀ q : Nat, q < H.size → ¬ (awC ad q ∨ q = o9) → H1[q]? = H[q]?) → W p l e R s m args below meth c H1 locs1 cells slots Q (F0 m (pc + 3) ls (.int (nI 0) :: rest))) : W p l e R s m args below meth c H locs cells slots Q (F0 m pc ls (.ref o9 :: .int b :: .int (nI k) :: .ref (ad 0) :: rest)) := va_calli (vx_runSW (As := [.ref (ad 0), .int (nI k), .int b, .ref o9]) (rest := rest) ⟨hx, hb, hml, hown, hts⟩ (h_decide_ok (cJ := cJ) (o9 := o9) (fo := fo) (dC := dC) (dI := dI) (cI := cI) (cZ := cZ) (ad := ad) (sm := sm) (fe := fe) (ex := ex) (dy := dy) (gp := gp) (gc := gc) (op := op) (gr := gr) (st := st) (dl := dl) (wo := wo) (n := n) (yc := yc) (ya := ya) (ys := ys) (yd := yd) (q := q) (zc := zc) (zp := zp) (zr := zr) (zs := zs) (zf := zf) (z := z) (zm := zm) (zt := zt) (k := k) (b := b) l hI ho hn hk h1) (vx_cwSW 4 hts hg9 rfl rfl rfl (by decide +kernel) hR9) ⟨fun a U g mk q => ⟨q.1, q.2.1, va_K.moved (u := U) (U := U.calling g mk a) (Vm.Alike.refl U.vm) q.2.2.1, q.2.2.2.1, va_K.moved (u := U) (U := U.calling g mk a) (Vm.Alike.refl U.vm) q.2.2.2.2⟩, fun U hU hW => ⟨rfl, by rw [hU]; exact hP, va_K.moved hW.alike hK, by rw [hU]; exact hPo, va_K.moved hW.alike hKJ⟩⟩ rfl rfl hl9 rfl (lv_room hw9) hdg hc9) hS (fun q _ h => hA q h) hA (fun r u t H1 locs1 ht _ hu hB hz hk hS1 => by subst hu; obtain ⟨hB1, f9, hf9, hB2⟩ := hB; rw [ht] at hB1 hB2; exact kk u H1 locs1 hB1 f9 hf9 hB2 hS1 hz hk)
end
set_option maxHeartbeats 4000000 in
set_option maxRecDepth 100000 in
theorem h_decide_ise (l : Launch) {dC : Nat → ClassId} {dI : Nat → Nat → Nat} {cI cZ cJ : ClassId} {ad : Nat → Nat} {o9 : Nat} {sm fe ex dy : Int32} {gp gc op gr st dl wo : Nat → Int32} {n : Nat} {yc ya ys yd : Nat → Int32} {q : Nat} {zc zp zr zs zf : Nat → Int32} {z : Nat} {zm zt : Int64} {fo : Nat → Int64} {k : Nat} {b : Int32} (hfl : l.stackTraces = false) (hn : n ≤ 24) (hk : k < n) (h1 : ¬ st k = nI 3) : Met l yL_decide wsL_decide { frames := 7, cells := 1, slots := 6, locals := 112 } (va_Pc [.ref (ad 0), .int (nI k), .int b, .ref o9] (fun U => va_P (dC, dI) vwCl (wC cI cZ ad sm fe ex dy gp gc op gr st dl wo n yc ya ys yd q zc zp zr zs zf z zm zt) U.heap ∧ va_K (dC, dI) vwCl [(cI, .int), (cZ, .boolean)] U ∧ tX (fun _ => False) U U.heap ∧ tN U)) (va_Qi (fun r (_ : Unit) => r = nI 2) (fun _ _ => True) (fun _ => False)) 1 6 (fun _ => False) := by
  refine va_MetW (cc := cL_decide) (maxL := 5) (ret := (some .int)) (hh := [(0, 10, 13, 21), (0, 10, 17, 15)]) (by decide) rfl ?_
  intro p e s m args below meth c s₁ B hml hv
  obtain ⟨rfl, hP, hK, hT, hN⟩ := hv
  have hx := B.exec
  have hb := B.bytes
  have hr := B.returns
  have hts := atoms_spec (ws := wsL_decide) B.pre
  have hown : s.vm.findClass RL = some m.cls := findClass_of_methodNamed B.named
  have hlocks := B.notSynchronized
  have hl := lv_entry ([.ref (ad 0), .int (nI k), .int b, .ref o9]) (n := 5) (Nat.le_of_ble_eq_true rfl)
  rw [lg_entry_eq]
  generalize (lg_sl ([.ref (ad 0), .int (nI k), .int b, .ref o9]) ++ List.replicate (5 - (lg_sl ([.ref (ad 0), .int (nI k), .int b, .ref o9])).length) Slot.unset).toArray = ls at hl ⊢
  have hl : lv_has ls 5 [(0, .ref (ad 0)), (1, .int (nI k)), (2, .int b), (3, .ref o9)] := hl
  refine lv_aload_n hx hb dL_decide_0 rfl (lv_at hl 3 rfl) ?_
  refine lv_iconst (v := nI 0) hx hb dL_decide_1 (by decide) ?_
  refine lv_aload_n hx hb dL_decide_2 rfl (lv_at hl 0 rfl) ?_
  refine lv_iload_n hx hb dL_decide_3 rfl (lv_at hl 1 rfl) ?_
  refine lv_iload_n hx hb dL_decide_4 rfl (lv_at hl 2 rfl) ?_
  have htab : c.exceptionTable.toList = ([⟨0, 10, 13, 21⟩] : List ExceptionTableEntry) ++ ⟨0, 10, 17, 15⟩ :: [] := (vx_table B (hts _ List.mem_cons_self)).trans rfl
  refine zx_go (kr_X3_decide_ise l hfl (k := k) (b := b) (hn := hn) (hk := hk) (h1 := h1) hx hb hml hown hts hK hP gL_decide_X3_decide ⟨Nat.le_of_ble_eq_true rfl, Nat.le_of_ble_eq_true rfl⟩ ⟨Nat.le_of_ble_eq_true rfl, Nat.le_of_ble_eq_true rfl⟩ hl.1 (Nat.le_of_ble_eq_true rfl) dL_decide_5 hT) (fun ce q9 H1 hz9 hk9 hce hcv hcl => ?_)
  refine vx_catch (own := RL) (name := "java/lang/IllegalStateException") (E := "java/lang/IllegalStateException") hown [⟨0, 10, 13, 21⟩] ⟨0, 10, 17, 15⟩ [] htab (fun z hz => by rcases List.mem_singleton.mp hz with rfl; exact Or.inr ⟨by decide, _, hts (.classLink RL 21 "java/lang/IndexOutOfBoundsException") (by decide +kernel), hN.2.1.2⟩) rfl (by decide) (hts (.classLink RL 15 "java/lang/IllegalStateException") (by decide +kernel)) (va_Nw.use rfl hT.2.1.2.1) hce hcv hcl ?_
  have hS : va_S (fun _ => False) s.heap H1 [] := ⟨hz9, fun q hq _ => hk9 q hq, fun _ h => nomatch h⟩
  refine lv_astore (lv' := [(4, .ref q9), (0, .ref (ad 0)), (1, .int (nI k)), (2, .int b), (3, .ref o9)]) hx hb dL_decide_17 hl (by decide) rfl (fun ls hl => ?_)
  refine lv_iconst (v := nI 2) hx hb dL_decide_19 (by decide) ?_
  exact W.iret (v := nI 2) hx hb hr (fun t ht hW => ⟨⟨nI 2, (), rfl, rfl, trivial⟩, hS.F ht⟩) hS.2.2 dL_decide_20
section
variable {p : Program} {e : Env} {R : Room} {s : State} {m : MethodId} {args : Array Value} {below : List Frame} {meth : Method} {c : Code} {H : Heap} {locs : List Loc} {cells slots : Nat} {Q : State → Prop} {cc : ByteArray} {pc : Nat} {ls : Array Slot} {rest : List Value} {own : String} {index nL : Nat} {Ts : List Cond} {H0 : Heap} {A0 : Nat → Prop}
theorem kh_decide_ise (l : Launch) {dC : Nat → ClassId} {dI : Nat → Nat → Nat} {cI cZ cJ : ClassId} {ad : Nat → Nat} {o9 : Nat} {sm fe ex dy : Int32} {gp gc op gr st dl wo : Nat → Int32} {n : Nat} {yc ya ys yd : Nat → Int32} {q : Nat} {zc zp zr zs zf : Nat → Int32} {z : Nat} {zm zt : Int64} {fo : Nat → Int64} {k : Nat} {b : Int32}(hfl : l.stackTraces = false)  (hn : n ≤ 24) (hk : k < n) (h1 : ¬ st k = nI 3) (hx : p.tables.exec = Jvm.exec) (hb : c.code = cc) (hml : c.maxLocals = nL) (hown : s.vm.findClass own = some m.cls) (hts : ∀ w ∈ Ts, w.before args s = true) (hK : va_K (dC, dI) vwCl [(cI, .int), (cZ, .boolean)] s) (hP : va_P (dC, dI) vwCl (wC cI cZ ad sm fe ex dy gp gc op gr st dl wo n yc ya ys yd q zc zp zr zs zf z zm zt) H) (hg9 : GoodIn Ts (va_wsS own index yL_decide wsL_decide)) (hR9 : 7 + 1 ≤ R.frames ∧ 8 + (5 + 11) + 112 ≤ R.locals) (hc9 : cells + 1 ≤ R.cells ∧ slots + 6 ≤ R.slots) (hl9 : ls.size = nL) (hw9 : (rest.map fun v => v.category).sum ≤ 8) (hdg : decode cc pc = .ok (.invokestatic index, 3)) (hT : tX (fun _ => False) s H) (hN : tN s) (hS : va_S A0 H0 H locs) (kk : ∀ (H1 : Heap) (locs1 : List Loc), va_S A0 H0 H1 locs1 → H.size ≤ H1.size → (∀ q : Nat, q < H.size → H1[q]? = H[q]?) → W p l e R s m args below meth c H1 locs1 (cells + 1) (slots + 6) Q (F0 m (pc + 3) ls (.int (nI 2) :: rest))) : W p l e R s m args below meth c H locs cells slots Q (F0 m pc ls (.ref o9 :: .int b :: .int (nI k) :: .ref (ad 0) :: rest)) := va_calli (vx_runSW (As := [.ref (ad 0), .int (nI k), .int b, .ref o9]) (rest := rest) ⟨hx, hb, hml, hown, hts⟩ (h_decide_ise (cJ := 0) (o9 := o9) (fo := fun _ => 0) (dC := dC) (dI := dI) (cI := cI) (cZ := cZ) (ad := ad) (sm := sm) (fe := fe) (ex := ex) (dy := dy) (gp := gp) (gc := gc) (op := op) (gr := gr) (st := st) (dl := dl) (wo := wo) (n := n) (yc := yc) (ya := ya) (ys := ys) (yd := yd) (q := q) (zc := zc) (zp := zp) (zr := zr) (zs := zs) (zf := zf) (z := z) (zm := zm) (zt := zt) (k := k) (b := b) l hfl hn hk h1) (vx_cwSW 4 hts hg9 rfl rfl rfl (by decide +kernel) hR9) ⟨fun a U g mk q => ⟨q.1, q.2.1, va_K.moved (u := U) (U := U.calling g mk a) (Vm.Alike.refl U.vm) q.2.2.1, tX.same (u := U) (U := U.calling g mk a) rfl q.2.2.2.1, tN.moved (u := U) (U := U.calling g mk a) (Vm.Alike.refl U.vm) q.2.2.2.2⟩, fun U hU hW => ⟨rfl, by rw [hU]; exact hP, va_K.moved hW.alike hK, by rw [hU]; exact tX.warm hW hT, tN.moved hW.alike hN⟩⟩ rfl rfl hl9 rfl (lv_room hw9) hdg hc9) hS (fun _ _ h => h.elim) (fun _ h => h.elim) (fun r u t H1 locs1 ht _ hu _ hz hk hS1 => by subst hu; exact kk H1 locs1 hS1 hz (fun q hq => hk q hq (fun h => h)))
end
set_option maxHeartbeats 4000000 in
set_option maxRecDepth 100000 in
theorem h_cash_ok (l : Launch) {dC : Nat → ClassId} {dI : Nat → Nat → Nat} {cI cZ cJ : ClassId} {ad : Nat → Nat} {o9 : Nat} {sm fe ex dy : Int32} {gp gc op gr st dl wo : Nat → Int32} {n : Nat} {yc ya ys yd : Nat → Int32} {q : Nat} {zc zp zr zs zf : Nat → Int32} {z : Nat} {zm zt : Int64} {fo : Nat → Int64} {k : Nat} (hI : iwC ad) (ho : ¬ awC ad o9) (hq : q ≤ 100) (hk : k < q) (h1 : ys k = 0) : Met l yL_cash wsL_cash { frames := 3, cells := 0, slots := 0, locals := 63 } (va_Pc [.ref (ad 0), .int (nI k), .ref o9] (fun U => va_P (dC, dI) vwCl (wC cI cZ ad sm fe ex dy gp gc op gr st dl wo n yc ya ys yd q zc zp zr zs zf z zm zt) U.heap ∧ va_K (dC, dI) vwCl [(cI, .int), (cZ, .boolean)] U ∧ va_P (dC, dI) vwCl [(o9, .inl (cJ, 1, .inr (.inl fo)))] U.heap ∧ va_K (dC, dI) vwCl [(cJ, .long)] U)) (va_Qi (fun r (_ : Unit) => r = nI 0) (fun (u9 : Unit) t => va_P (dC, dI) vwCl (wC cI cZ ad sm fe ex dy gp gc op gr st dl wo n yc ya (upd ys k (nI 1)) yd q zc zp zr zs zf z zm zt) t.heap ∧ ∃ f9 : Nat → Int64, f9 0 = (ya k).toInt64 ∧ va_P (dC, dI) vwCl [(o9, .inl (cJ, 1, .inr (.inl f9)))] t.heap) (fun x => awC ad x ∨ x = o9)) 0 0 (fun x => awC ad x ∨ x = o9) := by
  refine va_MetW (cc := cL_cash) (maxL := 4) (ret := (some .int)) (hh := [(0, 9, 12, 21), (0, 9, 15, 15)]) (by decide) rfl ?_
  intro p e s m args below meth c s₁ B hml hv
  obtain ⟨rfl, hP, hK, hPo, hKJ⟩ := hv
  have hx := B.exec
  have hb := B.bytes
  have hr := B.returns
  have hts := atoms_spec (ws := wsL_cash) B.pre
  have hown : s.vm.findClass RL = some m.cls := findClass_of_methodNamed B.named
  have hlocks := B.notSynchronized
  have hA : ∀ x, awC ad x → (fun x => awC ad x ∨ x = o9) x := fun x h => Or.inl h
  have hS : va_S (fun x => awC ad x ∨ x = o9) s.heap s.heap [] := va_S.rf
  have hl := lv_entry ([.ref (ad 0), .int (nI k), .ref o9]) (n := 4) (Nat.le_of_ble_eq_true rfl)
  rw [lg_entry_eq]
  generalize (lg_sl ([.ref (ad 0), .int (nI k), .ref o9]) ++ List.replicate (4 - (lg_sl ([.ref (ad 0), .int (nI k), .ref o9])).length) Slot.unset).toArray = ls at hl ⊢
  have hl : lv_has ls 4 [(0, .ref (ad 0)), (1, .int (nI k)), (2, .ref o9)] := hl
  refine lv_aload_n hx hb dL_cash_0 rfl (lv_at hl 2 rfl) ?_
  refine lv_iconst (v := nI 0) hx hb dL_cash_1 (by decide) ?_
  refine lv_aload_n hx hb dL_cash_2 rfl (lv_at hl 0 rfl) ?_
  refine lv_iload_n hx hb dL_cash_3 rfl (lv_at hl 1 rfl) ?_
  refine k_X3_cash_ok l (k := k) (hq := hq) (hk := hk) (h1 := h1) hx hb hml hown hts hK hP gL_cash_X3_cash ⟨Nat.le_of_ble_eq_true rfl, Nat.le_of_ble_eq_true rfl⟩ ⟨Nat.le_of_ble_eq_true rfl, Nat.le_of_ble_eq_true rfl⟩ hl.1 (Nat.le_of_ble_eq_true rfl) dL_cash_4 hI hA hS (fun H locs hP hS hfr => ?_)
  have hPo := zz_ko hPo (hfr _ (zz_lt hPo) ho)
  refine lv_i2l (v := (ya k).toInt64) hx hb dL_cash_7 rfl ?_
  have hPL := hP.app hPo
  refine va_last hx hb hKJ hPL (dwL hI ho ..) hS 20 0 rfl rfl (vp_in_nI (n := 0) (by decide) (by decide)) dL_cash_8 (fun H locs hPL _ hS => ?_)
  have hP : va_P (dC, dI) vwCl (wC cI cZ ad sm fe ex dy gp gc op gr st dl wo n yc ya (upd ys k (nI 1)) yd q zc zp zr zs zf z zm zt) H := hPL.sub [0, 1, 2, 3, 4, 5, 6, 7, 8, 9, 10, 11, 12, 13, 14, 15, 16, 17, 18, 19] rfl
  have hPo : va_P (dC, dI) vwCl [(o9, .inl (cJ, 1, .inr (.inl (vp_updL fo (nI 0).toNatClampNeg (ya k).toInt64))))] H := hPL.sub [20] rfl
  refine lv_goto (tgt := 18) hx hb dL_cash_9 (by decide) ?_
  refine lv_iconst (v := nI 0) hx hb dL_cash_18 (by decide) ?_
  exact W.iret (v := nI 0) hx hb hr (fun t ht hW => ⟨⟨nI 0, (), rfl, rfl, ⟨by (try dsimp only); rw [ht]; exact hP, _, by unfold vp_updL; exact if_pos (by decide), by rw [ht]; exact hPo⟩⟩, hS.F ht⟩) hS.2.2 dL_cash_19
section
variable {p : Program} {e : Env} {R : Room} {s : State} {m : MethodId} {args : Array Value} {below : List Frame} {meth : Method} {c : Code} {H : Heap} {locs : List Loc} {cells slots : Nat} {Q : State → Prop} {cc : ByteArray} {pc : Nat} {ls : Array Slot} {rest : List Value} {own : String} {index nL : Nat} {Ts : List Cond} {H0 : Heap} {A0 : Nat → Prop}
theorem kh_cash_ok (l : Launch) {dC : Nat → ClassId} {dI : Nat → Nat → Nat} {cI cZ cJ : ClassId} {ad : Nat → Nat} {o9 : Nat} {sm fe ex dy : Int32} {gp gc op gr st dl wo : Nat → Int32} {n : Nat} {yc ya ys yd : Nat → Int32} {q : Nat} {zc zp zr zs zf : Nat → Int32} {z : Nat} {zm zt : Int64} {fo : Nat → Int64} {k : Nat} (hq : q ≤ 100) (hk : k < q) (h1 : ys k = 0) (hx : p.tables.exec = Jvm.exec) (hb : c.code = cc) (hml : c.maxLocals = nL) (hown : s.vm.findClass own = some m.cls) (hts : ∀ w ∈ Ts, w.before args s = true) (hK : va_K (dC, dI) vwCl [(cI, .int), (cZ, .boolean)] s) (hP : va_P (dC, dI) vwCl (wC cI cZ ad sm fe ex dy gp gc op gr st dl wo n yc ya ys yd q zc zp zr zs zf z zm zt) H) (hg9 : GoodIn Ts (va_wsS own index yL_cash wsL_cash)) (hR9 : 3 + 1 ≤ R.frames ∧ 8 + (4 + 11) + 63 ≤ R.locals) (hc9 : cells + 0 ≤ R.cells ∧ slots + 0 ≤ R.slots) (hl9 : ls.size = nL) (hw9 : (rest.map fun v => v.category).sum ≤ 8) (hdg : decode cc pc = .ok (.invokestatic index, 3)) (hI : iwC ad) (ho : ¬ awC ad o9) (hPo : va_P (dC, dI) vwCl [(o9, .inl (cJ, 1, .inr (.inl fo)))] H) (hKJ : va_K (dC, dI) vwCl [(cJ, .long)] s) (hA : ∀ x, awC ad x ∨ x = o9 → A0 x) (hS : va_S A0 H0 H locs) (kk : ∀ (u9 : Unit) (H1 : Heap) (locs1 : List Loc), va_P (dC, dI) vwCl (wC cI cZ ad sm fe ex dy gp gc op gr st dl wo n yc ya (upd ys k (nI 1)) yd q zc zp zr zs zf z zm zt) H1 → ∀ f9 : Nat → Int64, f9 0 = (ya k).toInt64 → va_P (dC, dI) vwCl [(o9, .inl (cJ, 1, .inr (.inl f9)))] H1 → va_S A0 H0 H1 locs1 → H.size ≤ H1.size → (∀ q : Nat, q < H.size → ¬ (awC ad q ∨ q = o9) → H1[q]? = H[q]?) → W p l e R s m args below meth c H1 locs1 cells slots Q (F0 m (pc + 3) ls (.int (nI 0) :: rest))) : W p l e R s m args below meth c H locs cells slots Q (F0 m pc ls (.ref o9 :: .int (nI k) :: .ref (ad 0) :: rest)) := va_calli (vx_runSW (As := [.ref (ad 0), .int (nI k), .ref o9]) (rest := rest) ⟨hx, hb, hml, hown, hts⟩ (h_cash_ok (cJ := cJ) (o9 := o9) (fo := fo) (dC := dC) (dI := dI) (cI := cI) (cZ := cZ) (ad := ad) (sm := sm) (fe := fe) (ex := ex) (dy := dy) (gp := gp) (gc := gc) (op := op) (gr := gr) (st := st) (dl := dl) (wo := wo) (n := n) (yc := yc) (ya := ya) (ys := ys) (yd := yd) (q := q) (zc := zc) (zp := zp) (zr := zr) (zs := zs) (zf := zf) (z := z) (zm := zm) (zt := zt) (k := k) l hI ho hq hk h1) (vx_cwSW 3 hts hg9 rfl rfl rfl (by decide +kernel) hR9) ⟨fun a U g mk q => ⟨q.1, q.2.1, va_K.moved (u := U) (U := U.calling g mk a) (Vm.Alike.refl U.vm) q.2.2.1, q.2.2.2.1, va_K.moved (u := U) (U := U.calling g mk a) (Vm.Alike.refl U.vm) q.2.2.2.2⟩, fun U hU hW => ⟨rfl, by rw [hU]; exact hP, va_K.moved hW.alike hK, by rw [hU]; exact hPo, va_K.moved hW.alike hKJ⟩⟩ rfl rfl hl9 rfl (lv_room hw9) hdg hc9) hS (fun q _ h => hA q h) hA (fun r u t H1 locs1 ht _ hu hB hz hk hS1 => by subst hu; obtain ⟨hB1, f9, hf9, hB2⟩ := hB; rw [ht] at hB1 hB2; exact kk u H1 locs1 hB1 f9 hf9 hB2 hS1 hz hk)
end
set_option maxHeartbeats 4000000 in
set_option maxRecDepth 100000 in
theorem h_cash_ise (l : Launch) {dC : Nat → ClassId} {dI : Nat → Nat → Nat} {cI cZ cJ : ClassId} {ad : Nat → Nat} {o9 : Nat} {sm fe ex dy : Int32} {gp gc op gr st dl wo : Nat → Int32} {n : Nat} {yc ya ys yd : Nat → Int32} {q : Nat} {zc zp zr zs zf : Nat → Int32} {z : Nat} {zm zt : Int64} {fo : Nat → Int64} {k : Nat} (hfl : l.stackTraces = false) (hq : q ≤ 100) (hk : k < q) (h1 : ¬ ys k = 0) : Met l yL_cash wsL_cash { frames := 7, cells := 1, slots := 6, locals := 111 } (va_Pc [.ref (ad 0), .int (nI k), .ref o9] (fun U => va_P (dC, dI) vwCl (wC cI cZ ad sm fe ex dy gp gc op gr st dl wo n yc ya ys yd q zc zp zr zs zf z zm zt) U.heap ∧ va_K (dC, dI) vwCl [(cI, .int), (cZ, .boolean)] U ∧ tX (fun _ => False) U U.heap ∧ tN U)) (va_Qi (fun r (_ : Unit) => r = nI 2) (fun _ _ => True) (fun _ => False)) 1 6 (fun _ => False) := by
  refine va_MetW (cc := cL_cash) (maxL := 4) (ret := (some .int)) (hh := [(0, 9, 12, 21), (0, 9, 15, 15)]) (by decide) rfl ?_
  intro p e s m args below meth c s₁ B hml hv
  obtain ⟨rfl, hP, hK, hT, hN⟩ := hv
  have hx := B.exec
  have hb := B.bytes
  have hr := B.returns
  have hts := atoms_spec (ws := wsL_cash) B.pre
  have hown : s.vm.findClass RL = some m.cls := findClass_of_methodNamed B.named
  have hlocks := B.notSynchronized
  have hl := lv_entry ([.ref (ad 0), .int (nI k), .ref o9]) (n := 4) (Nat.le_of_ble_eq_true rfl)
  rw [lg_entry_eq]
  generalize (lg_sl ([.ref (ad 0), .int (nI k), .ref o9]) ++ List.replicate (4 - (lg_sl ([.ref (ad 0), .int (nI k), .ref o9])).length) Slot.unset).toArray = ls at hl ⊢
  have hl : lv_has ls 4 [(0, .ref (ad 0)), (1, .int (nI k)), (2, .ref o9)] := hl
  refine lv_aload_n hx hb dL_cash_0 rfl (lv_at hl 2 rfl) ?_
  refine lv_iconst (v := nI 0) hx hb dL_cash_1 (by decide) ?_
  refine lv_aload_n hx hb dL_cash_2 rfl (lv_at hl 0 rfl) ?_
  refine lv_iload_n hx hb dL_cash_3 rfl (lv_at hl 1 rfl) ?_
  have htab : c.exceptionTable.toList = ([⟨0, 9, 12, 21⟩] : List ExceptionTableEntry) ++ ⟨0, 9, 15, 15⟩ :: [] := (vx_table B (hts _ List.mem_cons_self)).trans rfl
  refine zx_go (kr_X3_cash_ise l hfl (k := k) (hq := hq) (hk := hk) (h1 := h1) hx hb hml hown hts hK hP gL_cash_X3_cash ⟨Nat.le_of_ble_eq_true rfl, Nat.le_of_ble_eq_true rfl⟩ ⟨Nat.le_of_ble_eq_true rfl, Nat.le_of_ble_eq_true rfl⟩ hl.1 (Nat.le_of_ble_eq_true rfl) dL_cash_4 hT) (fun ce q9 H1 hz9 hk9 hce hcv hcl => ?_)
  refine vx_catch (own := RL) (name := "java/lang/IllegalStateException") (E := "java/lang/IllegalStateException") hown [⟨0, 9, 12, 21⟩] ⟨0, 9, 15, 15⟩ [] htab (fun z hz => by rcases List.mem_singleton.mp hz with rfl; exact Or.inr ⟨by decide, _, hts (.classLink RL 21 "java/lang/IndexOutOfBoundsException") (by decide +kernel), hN.2.1.2⟩) rfl (by decide) (hts (.classLink RL 15 "java/lang/IllegalStateException") (by decide +kernel)) (va_Nw.use rfl hT.2.1.2.1) hce hcv hcl ?_
  have hS : va_S (fun _ => False) s.heap H1 [] := ⟨hz9, fun q hq _ => hk9 q hq, fun _ h => nomatch h⟩
  refine lv_astore_n (lv' := [(3, .ref q9), (0, .ref (ad 0)), (1, .int (nI k)), (2, .ref o9)]) hx hb dL_cash_15 rfl hl (by decide) rfl (fun ls hl => ?_)
  refine lv_iconst (v := nI 2) hx hb dL_cash_16 (by decide) ?_
  exact W.iret (v := nI 2) hx hb hr (fun t ht hW => ⟨⟨nI 2, (), rfl, rfl, trivial⟩, hS.F ht⟩) hS.2.2 dL_cash_17
section
variable {p : Program} {e : Env} {R : Room} {s : State} {m : MethodId} {args : Array Value} {below : List Frame} {meth : Method} {c : Code} {H : Heap} {locs : List Loc} {cells slots : Nat} {Q : State → Prop} {cc : ByteArray} {pc : Nat} {ls : Array Slot} {rest : List Value} {own : String} {index nL : Nat} {Ts : List Cond} {H0 : Heap} {A0 : Nat → Prop}
theorem kh_cash_ise (l : Launch) {dC : Nat → ClassId} {dI : Nat → Nat → Nat} {cI cZ cJ : ClassId} {ad : Nat → Nat} {o9 : Nat} {sm fe ex dy : Int32} {gp gc op gr st dl wo : Nat → Int32} {n : Nat} {yc ya ys yd : Nat → Int32} {q : Nat} {zc zp zr zs zf : Nat → Int32} {z : Nat} {zm zt : Int64} {fo : Nat → Int64} {k : Nat}(hfl : l.stackTraces = false)  (hq : q ≤ 100) (hk : k < q) (h1 : ¬ ys k = 0) (hx : p.tables.exec = Jvm.exec) (hb : c.code = cc) (hml : c.maxLocals = nL) (hown : s.vm.findClass own = some m.cls) (hts : ∀ w ∈ Ts, w.before args s = true) (hK : va_K (dC, dI) vwCl [(cI, .int), (cZ, .boolean)] s) (hP : va_P (dC, dI) vwCl (wC cI cZ ad sm fe ex dy gp gc op gr st dl wo n yc ya ys yd q zc zp zr zs zf z zm zt) H) (hg9 : GoodIn Ts (va_wsS own index yL_cash wsL_cash)) (hR9 : 7 + 1 ≤ R.frames ∧ 8 + (4 + 11) + 111 ≤ R.locals) (hc9 : cells + 1 ≤ R.cells ∧ slots + 6 ≤ R.slots) (hl9 : ls.size = nL) (hw9 : (rest.map fun v => v.category).sum ≤ 8) (hdg : decode cc pc = .ok (.invokestatic index, 3)) (hT : tX (fun _ => False) s H) (hN : tN s) (hS : va_S A0 H0 H locs) (kk : ∀ (H1 : Heap) (locs1 : List Loc), va_S A0 H0 H1 locs1 → H.size ≤ H1.size → (∀ q : Nat, q < H.size → H1[q]? = H[q]?) → W p l e R s m args below meth c H1 locs1 (cells + 1) (slots + 6) Q (F0 m (pc + 3) ls (.int (nI 2) :: rest))) : W p l e R s m args below meth c H locs cells slots Q (F0 m pc ls (.ref o9 :: .int (nI k) :: .ref (ad 0) :: rest)) := va_calli (vx_runSW (As := [.ref (ad 0), .int (nI k), .ref o9]) (rest := rest) ⟨hx, hb, hml, hown, hts⟩ (h_cash_ise (cJ := 0) (o9 := o9) (fo := fun _ => 0) (dC := dC) (dI := dI) (cI := cI) (cZ := cZ) (ad := ad) (sm := sm) (fe := fe) (ex := ex) (dy := dy) (gp := gp) (gc := gc) (op := op) (gr := gr) (st := st) (dl := dl) (wo := wo) (n := n) (yc := yc) (ya := ya) (ys := ys) (yd := yd) (q := q) (zc := zc) (zp := zp) (zr := zr) (zs := zs) (zf := zf) (z := z) (zm := zm) (zt := zt) (k := k) l hfl hq hk h1) (vx_cwSW 3 hts hg9 rfl rfl rfl (by decide +kernel) hR9) ⟨fun a U g mk q => ⟨q.1, q.2.1, va_K.moved (u := U) (U := U.calling g mk a) (Vm.Alike.refl U.vm) q.2.2.1, tX.same (u := U) (U := U.calling g mk a) rfl q.2.2.2.1, tN.moved (u := U) (U := U.calling g mk a) (Vm.Alike.refl U.vm) q.2.2.2.2⟩, fun U hU hW => ⟨rfl, by rw [hU]; exact hP, va_K.moved hW.alike hK, by rw [hU]; exact tX.warm hW hT, tN.moved hW.alike hN⟩⟩ rfl rfl hl9 rfl (lv_room hw9) hdg hc9) hS (fun _ _ h => h.elim) (fun _ h => h.elim) (fun r u t H1 locs1 ht _ hu _ hz hk hS1 => by subst hu; exact kk H1 locs1 hS1 hz (fun q hq => hk q hq (fun h => h)))
end
set_option maxHeartbeats 4000000 in
set_option maxRecDepth 100000 in
theorem h_setFund_ok (l : Launch) {dC : Nat → ClassId} {dI : Nat → Nat → Nat} {cI cZ cJ : ClassId} {ad : Nat → Nat} {o9 : Nat} {sm fe ex dy : Int32} {gp gc op gr st dl wo : Nat → Int32} {n : Nat} {yc ya ys yd : Nat → Int32} {q : Nat} {zc zp zr zs zf : Nat → Int32} {z : Nat} {zm zt : Int64} {fo : Nat → Int64} {x1 : Int32} {x2 : Int32} {x3 : Int32} (hI : iwC ad) (ho : ¬ awC ad o9) (h1 : outN x1 (nI 0) (nI 10000000) = 0) (h2 : outN x2 (nI 0) (nI 500) = 0) (h3 : outN x3 (nI 0) (nI 1000000) = 0) (h0 : q = 0) : Met l yL_setFund wsL_setFund { frames := 3, cells := 0, slots := 0, locals := 65 } (va_Pc [.ref (ad 0), .int x1, .int x2, .int x3, .ref o9] (fun U => va_P (dC, dI) vwCl (wC cI cZ ad sm fe ex dy gp gc op gr st dl wo n yc ya ys yd q zc zp zr zs zf z zm zt) U.heap ∧ va_K (dC, dI) vwCl [(cI, .int), (cZ, .boolean)] U ∧ va_P (dC, dI) vwCl [(o9, .inl (cJ, 1, .inr (.inl fo)))] U.heap ∧ va_K (dC, dI) vwCl [(cJ, .long)] U)) (va_Qi (fun r (_ : Unit) => r = nI 0) (fun (u9 : Unit) t => va_P (dC, dI) vwCl (wC cI cZ ad x1 x2 x3 dy gp gc op gr st dl wo n yc ya ys yd q zc zp zr zs zf z zm zt) t.heap ∧ ∃ f9 : Nat → Int64, f9 0 = (leftF x1 x2 x3 ya ys q).toInt64 ∧ va_P (dC, dI) vwCl [(o9, .inl (cJ, 1, .inr (.inl f9)))] t.heap) (fun x => awC ad x ∨ x = o9)) 0 0 (fun x => awC ad x ∨ x = o9) := by
  refine va_MetW (cc := cL_setFund) (maxL := 6) (ret := (some .int)) (hh := [(0, 12, 15, 13), (0, 12, 19, 15)]) (by decide) rfl ?_
  intro p e s m args below meth c s₁ B hml hv
  obtain ⟨rfl, hP, hK, hPo, hKJ⟩ := hv
  have hx := B.exec
  have hb := B.bytes
  have hr := B.returns
  have hts := atoms_spec (ws := wsL_setFund) B.pre
  have hown : s.vm.findClass RL = some m.cls := findClass_of_methodNamed B.named
  have hlocks := B.notSynchronized
  have hA : ∀ x, awC ad x → (fun x => awC ad x ∨ x = o9) x := fun x h => Or.inl h
  have hS : va_S (fun x => awC ad x ∨ x = o9) s.heap s.heap [] := va_S.rf
  have hl := lv_entry ([.ref (ad 0), .int x1, .int x2, .int x3, .ref o9]) (n := 6) (Nat.le_of_ble_eq_true rfl)
  rw [lg_entry_eq]
  generalize (lg_sl ([.ref (ad 0), .int x1, .int x2, .int x3, .ref o9]) ++ List.replicate (6 - (lg_sl ([.ref (ad 0), .int x1, .int x2, .int x3, .ref o9])).length) Slot.unset).toArray = ls at hl ⊢
  have hl : lv_has ls 6 [(0, .ref (ad 0)), (1, .int x1), (2, .int x2), (3, .int x3), (4, .ref o9)] := hl
  refine lv_aload hx hb dL_setFund_0 (lv_at hl 4 rfl) ?_
  refine lv_iconst (v := nI 0) hx hb dL_setFund_2 (by decide) ?_
  refine lv_aload_n hx hb dL_setFund_3 rfl (lv_at hl 0 rfl) ?_
  refine lv_iload_n hx hb dL_setFund_4 rfl (lv_at hl 1 rfl) ?_
  refine lv_iload_n hx hb dL_setFund_5 rfl (lv_at hl 2 rfl) ?_
  refine lv_iload_n hx hb dL_setFund_6 rfl (lv_at hl 3 rfl) ?_
  refine k_X3_setFund_ok l (x1 := x1) (x2 := x2) (x3 := x3) (h1 := h1) (h2 := h2) (h3 := h3) (h0 := h0) hx hb hml hown hts hK hP gL_setFund_X3_setFund ⟨Nat.le_of_ble_eq_true rfl, Nat.le_of_ble_eq_true rfl⟩ ⟨Nat.le_of_ble_eq_true rfl, Nat.le_of_ble_eq_true rfl⟩ hl.1 (Nat.le_of_ble_eq_true rfl) dL_setFund_7 hI hA hS (fun H locs hP hS hfr => ?_)
  have hPo := zz_ko hPo (hfr _ (zz_lt hPo) ho)
  refine lv_i2l (v := (leftF x1 x2 x3 ya ys q).toInt64) hx hb dL_setFund_10 rfl ?_
  have hPL := hP.app hPo
  refine va_last hx hb hKJ hPL (dwL hI ho ..) hS 20 0 rfl rfl (vp_in_nI (n := 0) (by decide) (by decide)) dL_setFund_11 (fun H locs hPL _ hS => ?_)
  have hP : va_P (dC, dI) vwCl (wC cI cZ ad x1 x2 x3 dy gp gc op gr st dl wo n yc ya ys yd q zc zp zr zs zf z zm zt) H := hPL.sub [0, 1, 2, 3, 4, 5, 6, 7, 8, 9, 10, 11, 12, 13, 14, 15, 16, 17, 18, 19] rfl
  have hPo : va_P (dC, dI) vwCl [(o9, .inl (cJ, 1, .inr (.inl (vp_updL fo (nI 0).toNatClampNeg (leftF x1 x2 x3 ya ys q).toInt64))))] H := hPL.sub [20] rfl
  refine lv_goto (tgt := 23) hx hb dL_setFund_12 (by decide) ?_
  refine lv_iconst (v := nI 0) hx hb dL_setFund_23 (by decide) ?_
  exact W.iret (v := nI 0) hx hb hr (fun t ht hW => ⟨⟨nI 0, (), rfl, rfl, ⟨by (try dsimp only); rw [ht]; exact hP, _, by unfold vp_updL; exact if_pos (by decide), by rw [ht]; exact hPo⟩⟩, hS.F ht⟩) hS.2.2 dL_setFund_24
section
variable {p : Program} {e : Env} {R : Room} {s : State} {m : MethodId} {args : Array Value} {below : List Frame} {meth : Method} {c : Code} {H : Heap} {locs : List Loc} {cells slots : Nat} {Q : State → Prop} {cc : ByteArray} {pc : Nat} {ls : Array Slot} {rest : List Value} {own : String} {index nL : Nat} {Ts : List Cond} {H0 : Heap} {A0 : Nat → Prop}
theorem kh_setFund_ok (l : Launch) {dC : Nat → ClassId} {dI : Nat → Nat → Nat} {cI cZ cJ : ClassId} {ad : Nat → Nat} {o9 : Nat} {sm fe ex dy : Int32} {gp gc op gr st dl wo : Nat → Int32} {n : Nat} {yc ya ys yd : Nat → Int32} {q : Nat} {zc zp zr zs zf : Nat → Int32} {z : Nat} {zm zt : Int64} {fo : Nat → Int64} {x1 : Int32} {x2 : Int32} {x3 : Int32} (h1 : outN x1 (nI 0) (nI 10000000) = 0) (h2 : outN x2 (nI 0) (nI 500) = 0) (h3 : outN x3 (nI 0) (nI 1000000) = 0) (h0 : q = 0) (hx : p.tables.exec = Jvm.exec) (hb : c.code = cc) (hml : c.maxLocals = nL) (hown : s.vm.findClass own = some m.cls) (hts : ∀ w ∈ Ts, w.before args s = true) (hK : va_K (dC, dI) vwCl [(cI, .int), (cZ, .boolean)] s) (hP : va_P (dC, dI) vwCl (wC cI cZ ad sm fe ex dy gp gc op gr st dl wo n yc ya ys yd q zc zp zr zs zf z zm zt) H) (hg9 : GoodIn Ts (va_wsS own index yL_setFund wsL_setFund)) (hR9 : 3 + 1 ≤ R.frames ∧ 8 + (6 + 11) + 65 ≤ R.locals) (hc9 : cells + 0 ≤ R.cells ∧ slots + 0 ≤ R.slots) (hl9 : ls.size = nL) (hw9 : (rest.map fun v => v.category).sum ≤ 8) (hdg : decode cc pc = .ok (.invokestatic index, 3)) (hI : iwC ad) (ho : ¬ awC ad o9) (hPo : va_P (dC, dI) vwCl [(o9, .inl (cJ, 1, .inr (.inl fo)))] H) (hKJ : va_K (dC, dI) vwCl [(cJ, .long)] s) (hA : ∀ x, awC ad x ∨ x = o9 → A0 x) (hS : va_S A0 H0 H locs) (kk : ∀ (u9 : Unit) (H1 : Heap) (locs1 : List Loc), va_P (dC, dI) vwCl (wC cI cZ ad x1 x2 x3 dy gp gc op gr st dl wo n yc ya ys yd q zc zp zr zs zf z zm zt) H1 → ∀ f9 : Nat → Int64, f9 0 = (leftF x1 x2 x3 ya ys q).toInt64 → va_P (dC, dI) vwCl [(o9, .inl (cJ, 1, .inr (.inl f9)))] H1 → va_S A0 H0 H1 locs1 → H.size ≤ H1.size → (∀ q : Nat, q < H.size → ¬ (awC ad q ∨ q = o9) → H1[q]? = H[q]?) → W p l e R s m args below meth c H1 locs1 cells slots Q (F0 m (pc + 3) ls (.int (nI 0) :: rest))) : W p l e R s m args below meth c H locs cells slots Q (F0 m pc ls (.ref o9 :: .int x3 :: .int x2 :: .int x1 :: .ref (ad 0) :: rest)) := va_calli (vx_runSW (As := [.ref (ad 0), .int x1, .int x2, .int x3, .ref o9]) (rest := rest) ⟨hx, hb, hml, hown, hts⟩ (h_setFund_ok (cJ := cJ) (o9 := o9) (fo := fo) (dC := dC) (dI := dI) (cI := cI) (cZ := cZ) (ad := ad) (sm := sm) (fe := fe) (ex := ex) (dy := dy) (gp := gp) (gc := gc) (op := op) (gr := gr) (st := st) (dl := dl) (wo := wo) (n := n) (yc := yc) (ya := ya) (ys := ys) (yd := yd) (q := q) (zc := zc) (zp := zp) (zr := zr) (zs := zs) (zf := zf) (z := z) (zm := zm) (zt := zt) (x1 := x1) (x2 := x2) (x3 := x3) l hI ho h1 h2 h3 h0) (vx_cwSW 5 hts hg9 rfl rfl rfl (by decide +kernel) hR9) ⟨fun a U g mk q => ⟨q.1, q.2.1, va_K.moved (u := U) (U := U.calling g mk a) (Vm.Alike.refl U.vm) q.2.2.1, q.2.2.2.1, va_K.moved (u := U) (U := U.calling g mk a) (Vm.Alike.refl U.vm) q.2.2.2.2⟩, fun U hU hW => ⟨rfl, by rw [hU]; exact hP, va_K.moved hW.alike hK, by rw [hU]; exact hPo, va_K.moved hW.alike hKJ⟩⟩ rfl rfl hl9 rfl (lv_room hw9) hdg hc9) hS (fun q _ h => hA q h) hA (fun r u t H1 locs1 ht _ hu hB hz hk hS1 => by subst hu; obtain ⟨hB1, f9, hf9, hB2⟩ := hB; rw [ht] at hB1 hB2; exact kk u H1 locs1 hB1 f9 hf9 hB2 hS1 hz hk)
end
set_option maxHeartbeats 4000000 in
set_option maxRecDepth 100000 in
theorem h_setFund_iae (l : Launch) {dC : Nat → ClassId} {dI : Nat → Nat → Nat} {cI cZ cJ : ClassId} {ad : Nat → Nat} {o9 : Nat} {sm fe ex dy : Int32} {gp gc op gr st dl wo : Nat → Int32} {n : Nat} {yc ya ys yd : Nat → Int32} {q : Nat} {zc zp zr zs zf : Nat → Int32} {z : Nat} {zm zt : Int64} {fo : Nat → Int64} {x1 : Int32} {x2 : Int32} {x3 : Int32} (hfl : l.stackTraces = false) (h1 : ¬ (outN x1 (nI 0) (nI 10000000) = 0 ∧ outN x2 (nI 0) (nI 500) = 0 ∧ outN x3 (nI 0) (nI 1000000) = 0)) : Met l yL_setFund wsL_setFund { frames := 7, cells := 1, slots := 6, locals := 113 } (va_Pc [.ref (ad 0), .int x1, .int x2, .int x3, .ref o9] (fun U => va_P (dC, dI) vwCl (wC cI cZ ad sm fe ex dy gp gc op gr st dl wo n yc ya ys yd q zc zp zr zs zf z zm zt) U.heap ∧ va_K (dC, dI) vwCl [(cI, .int), (cZ, .boolean)] U ∧ tX (fun _ => False) U U.heap ∧ tN U)) (va_Qi (fun r (_ : Unit) => r = nI 1) (fun _ _ => True) (fun _ => False)) 1 6 (fun _ => False) := by
  refine va_MetW (cc := cL_setFund) (maxL := 6) (ret := (some .int)) (hh := [(0, 12, 15, 13), (0, 12, 19, 15)]) (by decide) rfl ?_
  intro p e s m args below meth c s₁ B hml hv
  obtain ⟨rfl, hP, hK, hT, hN⟩ := hv
  have hx := B.exec
  have hb := B.bytes
  have hr := B.returns
  have hts := atoms_spec (ws := wsL_setFund) B.pre
  have hown : s.vm.findClass RL = some m.cls := findClass_of_methodNamed B.named
  have hlocks := B.notSynchronized
  have hl := lv_entry ([.ref (ad 0), .int x1, .int x2, .int x3, .ref o9]) (n := 6) (Nat.le_of_ble_eq_true rfl)
  rw [lg_entry_eq]
  generalize (lg_sl ([.ref (ad 0), .int x1, .int x2, .int x3, .ref o9]) ++ List.replicate (6 - (lg_sl ([.ref (ad 0), .int x1, .int x2, .int x3, .ref o9])).length) Slot.unset).toArray = ls at hl ⊢
  have hl : lv_has ls 6 [(0, .ref (ad 0)), (1, .int x1), (2, .int x2), (3, .int x3), (4, .ref o9)] := hl
  refine lv_aload hx hb dL_setFund_0 (lv_at hl 4 rfl) ?_
  refine lv_iconst (v := nI 0) hx hb dL_setFund_2 (by decide) ?_
  refine lv_aload_n hx hb dL_setFund_3 rfl (lv_at hl 0 rfl) ?_
  refine lv_iload_n hx hb dL_setFund_4 rfl (lv_at hl 1 rfl) ?_
  refine lv_iload_n hx hb dL_setFund_5 rfl (lv_at hl 2 rfl) ?_
  refine lv_iload_n hx hb dL_setFund_6 rfl (lv_at hl 3 rfl) ?_
  have htab : c.exceptionTable.toList = ([] : List ExceptionTableEntry) ++ ⟨0, 12, 15, 13⟩ :: [⟨0, 12, 19, 15⟩] := (vx_table B (hts _ List.mem_cons_self)).trans rfl
  refine zx_go (kr_X3_setFund_iae l hfl (x1 := x1) (x2 := x2) (x3 := x3) (h1 := h1) hx hb hml hown hts hK hP gL_setFund_X3_setFund ⟨Nat.le_of_ble_eq_true rfl, Nat.le_of_ble_eq_true rfl⟩ ⟨Nat.le_of_ble_eq_true rfl, Nat.le_of_ble_eq_true rfl⟩ hl.1 (Nat.le_of_ble_eq_true rfl) dL_setFund_7 hT) (fun ce q9 H1 hz9 hk9 hce hcv hcl => ?_)
  refine vx_catch (own := RL) (name := "java/lang/IllegalArgumentException") (E := "java/lang/IllegalArgumentException") hown [] ⟨0, 12, 15, 13⟩ [⟨0, 12, 19, 15⟩] htab (fun z hz => nomatch hz) rfl (by decide) (hts (.classLink RL 13 "java/lang/IllegalArgumentException") (by decide +kernel)) (va_Nw.use rfl hT.2.1.1) hce hcv hcl ?_
  have hS : va_S (fun _ => False) s.heap H1 [] := ⟨hz9, fun q hq _ => hk9 q hq, fun _ h => nomatch h⟩
  refine lv_astore (lv' := [(5, .ref q9), (0, .ref (ad 0)), (1, .int x1), (2, .int x2), (3, .int x3), (4, .ref o9)]) hx hb dL_setFund_15 hl (by decide) rfl (fun ls hl => ?_)
  refine lv_iconst (v := nI 1) hx hb dL_setFund_17 (by decide) ?_
  exact W.iret (v := nI 1) hx hb hr (fun t ht hW => ⟨⟨nI 1, (), rfl, rfl, trivial⟩, hS.F ht⟩) hS.2.2 dL_setFund_18
section
variable {p : Program} {e : Env} {R : Room} {s : State} {m : MethodId} {args : Array Value} {below : List Frame} {meth : Method} {c : Code} {H : Heap} {locs : List Loc} {cells slots : Nat} {Q : State → Prop} {cc : ByteArray} {pc : Nat} {ls : Array Slot} {rest : List Value} {own : String} {index nL : Nat} {Ts : List Cond} {H0 : Heap} {A0 : Nat → Prop}
theorem kh_setFund_iae (l : Launch) {dC : Nat → ClassId} {dI : Nat → Nat → Nat} {cI cZ cJ : ClassId} {ad : Nat → Nat} {o9 : Nat} {sm fe ex dy : Int32} {gp gc op gr st dl wo : Nat → Int32} {n : Nat} {yc ya ys yd : Nat → Int32} {q : Nat} {zc zp zr zs zf : Nat → Int32} {z : Nat} {zm zt : Int64} {fo : Nat → Int64} {x1 : Int32} {x2 : Int32} {x3 : Int32}(hfl : l.stackTraces = false)  (h1 : ¬ (outN x1 (nI 0) (nI 10000000) = 0 ∧ outN x2 (nI 0) (nI 500) = 0 ∧ outN x3 (nI 0) (nI 1000000) = 0)) (hx : p.tables.exec = Jvm.exec) (hb : c.code = cc) (hml : c.maxLocals = nL) (hown : s.vm.findClass own = some m.cls) (hts : ∀ w ∈ Ts, w.before args s = true) (hK : va_K (dC, dI) vwCl [(cI, .int), (cZ, .boolean)] s) (hP : va_P (dC, dI) vwCl (wC cI cZ ad sm fe ex dy gp gc op gr st dl wo n yc ya ys yd q zc zp zr zs zf z zm zt) H) (hg9 : GoodIn Ts (va_wsS own index yL_setFund wsL_setFund)) (hR9 : 7 + 1 ≤ R.frames ∧ 8 + (6 + 11) + 113 ≤ R.locals) (hc9 : cells + 1 ≤ R.cells ∧ slots + 6 ≤ R.slots) (hl9 : ls.size = nL) (hw9 : (rest.map fun v => v.category).sum ≤ 8) (hdg : decode cc pc = .ok (.invokestatic index, 3)) (hT : tX (fun _ => False) s H) (hN : tN s) (hS : va_S A0 H0 H locs) (kk : ∀ (H1 : Heap) (locs1 : List Loc), va_S A0 H0 H1 locs1 → H.size ≤ H1.size → (∀ q : Nat, q < H.size → H1[q]? = H[q]?) → W p l e R s m args below meth c H1 locs1 (cells + 1) (slots + 6) Q (F0 m (pc + 3) ls (.int (nI 1) :: rest))) : W p l e R s m args below meth c H locs cells slots Q (F0 m pc ls (.ref o9 :: .int x3 :: .int x2 :: .int x1 :: .ref (ad 0) :: rest)) := va_calli (vx_runSW (As := [.ref (ad 0), .int x1, .int x2, .int x3, .ref o9]) (rest := rest) ⟨hx, hb, hml, hown, hts⟩ (h_setFund_iae (cJ := 0) (o9 := o9) (fo := fun _ => 0) (dC := dC) (dI := dI) (cI := cI) (cZ := cZ) (ad := ad) (sm := sm) (fe := fe) (ex := ex) (dy := dy) (gp := gp) (gc := gc) (op := op) (gr := gr) (st := st) (dl := dl) (wo := wo) (n := n) (yc := yc) (ya := ya) (ys := ys) (yd := yd) (q := q) (zc := zc) (zp := zp) (zr := zr) (zs := zs) (zf := zf) (z := z) (zm := zm) (zt := zt) (x1 := x1) (x2 := x2) (x3 := x3) l hfl h1) (vx_cwSW 5 hts hg9 rfl rfl rfl (by decide +kernel) hR9) ⟨fun a U g mk q => ⟨q.1, q.2.1, va_K.moved (u := U) (U := U.calling g mk a) (Vm.Alike.refl U.vm) q.2.2.1, tX.same (u := U) (U := U.calling g mk a) rfl q.2.2.2.1, tN.moved (u := U) (U := U.calling g mk a) (Vm.Alike.refl U.vm) q.2.2.2.2⟩, fun U hU hW => ⟨rfl, by rw [hU]; exact hP, va_K.moved hW.alike hK, by rw [hU]; exact tX.warm hW hT, tN.moved hW.alike hN⟩⟩ rfl rfl hl9 rfl (lv_room hw9) hdg hc9) hS (fun _ _ h => h.elim) (fun _ h => h.elim) (fun r u t H1 locs1 ht _ hu _ hz hk hS1 => by subst hu; exact kk H1 locs1 hS1 hz (fun q hq => hk q hq (fun h => h)))
end
set_option maxHeartbeats 4000000 in
set_option maxRecDepth 100000 in
theorem h_setFund_ise (l : Launch) {dC : Nat → ClassId} {dI : Nat → Nat → Nat} {cI cZ cJ : ClassId} {ad : Nat → Nat} {o9 : Nat} {sm fe ex dy : Int32} {gp gc op gr st dl wo : Nat → Int32} {n : Nat} {yc ya ys yd : Nat → Int32} {q : Nat} {zc zp zr zs zf : Nat → Int32} {z : Nat} {zm zt : Int64} {fo : Nat → Int64} {x1 : Int32} {x2 : Int32} {x3 : Int32} (hfl : l.stackTraces = false) (h1 : outN x1 (nI 0) (nI 10000000) = 0) (h2 : outN x2 (nI 0) (nI 500) = 0) (h3 : outN x3 (nI 0) (nI 1000000) = 0) (hq : q ≤ 100) (h0 : ¬ q = 0) : Met l yL_setFund wsL_setFund { frames := 8, cells := 1, slots := 6, locals := 133 } (va_Pc [.ref (ad 0), .int x1, .int x2, .int x3, .ref o9] (fun U => va_P (dC, dI) vwCl (wC cI cZ ad sm fe ex dy gp gc op gr st dl wo n yc ya ys yd q zc zp zr zs zf z zm zt) U.heap ∧ va_K (dC, dI) vwCl [(cI, .int), (cZ, .boolean)] U ∧ tX (fun _ => False) U U.heap ∧ tN U)) (va_Qi (fun r (_ : Unit) => r = nI 2) (fun _ _ => True) (fun _ => False)) 1 6 (fun _ => False) := by
  refine va_MetW (cc := cL_setFund) (maxL := 6) (ret := (some .int)) (hh := [(0, 12, 15, 13), (0, 12, 19, 15)]) (by decide) rfl ?_
  intro p e s m args below meth c s₁ B hml hv
  obtain ⟨rfl, hP, hK, hT, hN⟩ := hv
  have hx := B.exec
  have hb := B.bytes
  have hr := B.returns
  have hts := atoms_spec (ws := wsL_setFund) B.pre
  have hown : s.vm.findClass RL = some m.cls := findClass_of_methodNamed B.named
  have hlocks := B.notSynchronized
  have hl := lv_entry ([.ref (ad 0), .int x1, .int x2, .int x3, .ref o9]) (n := 6) (Nat.le_of_ble_eq_true rfl)
  rw [lg_entry_eq]
  generalize (lg_sl ([.ref (ad 0), .int x1, .int x2, .int x3, .ref o9]) ++ List.replicate (6 - (lg_sl ([.ref (ad 0), .int x1, .int x2, .int x3, .ref o9])).length) Slot.unset).toArray = ls at hl ⊢
  have hl : lv_has ls 6 [(0, .ref (ad 0)), (1, .int x1), (2, .int x2), (3, .int x3), (4, .ref o9)] := hl
  refine lv_aload hx hb dL_setFund_0 (lv_at hl 4 rfl) ?_
  refine lv_iconst (v := nI 0) hx hb dL_setFund_2 (by decide) ?_
  refine lv_aload_n hx hb dL_setFund_3 rfl (lv_at hl 0 rfl) ?_
  refine lv_iload_n hx hb dL_setFund_4 rfl (lv_at hl 1 rfl) ?_
  refine lv_iload_n hx hb dL_setFund_5 rfl (lv_at hl 2 rfl) ?_
  refine lv_iload_n hx hb dL_setFund_6 rfl (lv_at hl 3 rfl) ?_
  have htab : c.exceptionTable.toList = ([⟨0, 12, 15, 13⟩] : List ExceptionTableEntry) ++ ⟨0, 12, 19, 15⟩ :: [] := (vx_table B (hts _ List.mem_cons_self)).trans rfl
  refine zx_go (kr_X3_setFund_ise l hfl (x1 := x1) (x2 := x2) (x3 := x3) (h1 := h1) (h2 := h2) (h3 := h3) (hq := hq) (h0 := h0) hx hb hml hown hts hK hP gL_setFund_X3_setFund ⟨Nat.le_of_ble_eq_true rfl, Nat.le_of_ble_eq_true rfl⟩ ⟨Nat.le_of_ble_eq_true rfl, Nat.le_of_ble_eq_true rfl⟩ hl.1 (Nat.le_of_ble_eq_true rfl) dL_setFund_7 hT) (fun ce q9 H1 hz9 hk9 hce hcv hcl => ?_)
  refine vx_catch (own := RL) (name := "java/lang/IllegalStateException") (E := "java/lang/IllegalStateException") hown [⟨0, 12, 15, 13⟩] ⟨0, 12, 19, 15⟩ [] htab (fun z hz => by rcases List.mem_singleton.mp hz with rfl; exact Or.inr ⟨by decide, _, hts (.classLink RL 13 "java/lang/IllegalArgumentException") (by decide +kernel), hN.2.1.1⟩) rfl (by decide) (hts (.classLink RL 15 "java/lang/IllegalStateException") (by decide +kernel)) (va_Nw.use rfl hT.2.1.2.1) hce hcv hcl ?_
  have hS : va_S (fun _ => False) s.heap H1 [] := ⟨hz9, fun q hq _ => hk9 q hq, fun _ h => nomatch h⟩
  refine lv_astore (lv' := [(5, .ref q9), (0, .ref (ad 0)), (1, .int x1), (2, .int x2), (3, .int x3), (4, .ref o9)]) hx hb dL_setFund_19 hl (by decide) rfl (fun ls hl => ?_)
  refine lv_iconst (v := nI 2) hx hb dL_setFund_21 (by decide) ?_
  exact W.iret (v := nI 2) hx hb hr (fun t ht hW => ⟨⟨nI 2, (), rfl, rfl, trivial⟩, hS.F ht⟩) hS.2.2 dL_setFund_22
section
variable {p : Program} {e : Env} {R : Room} {s : State} {m : MethodId} {args : Array Value} {below : List Frame} {meth : Method} {c : Code} {H : Heap} {locs : List Loc} {cells slots : Nat} {Q : State → Prop} {cc : ByteArray} {pc : Nat} {ls : Array Slot} {rest : List Value} {own : String} {index nL : Nat} {Ts : List Cond} {H0 : Heap} {A0 : Nat → Prop}
theorem kh_setFund_ise (l : Launch) {dC : Nat → ClassId} {dI : Nat → Nat → Nat} {cI cZ cJ : ClassId} {ad : Nat → Nat} {o9 : Nat} {sm fe ex dy : Int32} {gp gc op gr st dl wo : Nat → Int32} {n : Nat} {yc ya ys yd : Nat → Int32} {q : Nat} {zc zp zr zs zf : Nat → Int32} {z : Nat} {zm zt : Int64} {fo : Nat → Int64} {x1 : Int32} {x2 : Int32} {x3 : Int32}(hfl : l.stackTraces = false)  (h1 : outN x1 (nI 0) (nI 10000000) = 0) (h2 : outN x2 (nI 0) (nI 500) = 0) (h3 : outN x3 (nI 0) (nI 1000000) = 0) (hq : q ≤ 100) (h0 : ¬ q = 0) (hx : p.tables.exec = Jvm.exec) (hb : c.code = cc) (hml : c.maxLocals = nL) (hown : s.vm.findClass own = some m.cls) (hts : ∀ w ∈ Ts, w.before args s = true) (hK : va_K (dC, dI) vwCl [(cI, .int), (cZ, .boolean)] s) (hP : va_P (dC, dI) vwCl (wC cI cZ ad sm fe ex dy gp gc op gr st dl wo n yc ya ys yd q zc zp zr zs zf z zm zt) H) (hg9 : GoodIn Ts (va_wsS own index yL_setFund wsL_setFund)) (hR9 : 8 + 1 ≤ R.frames ∧ 8 + (6 + 11) + 133 ≤ R.locals) (hc9 : cells + 1 ≤ R.cells ∧ slots + 6 ≤ R.slots) (hl9 : ls.size = nL) (hw9 : (rest.map fun v => v.category).sum ≤ 8) (hdg : decode cc pc = .ok (.invokestatic index, 3)) (hT : tX (fun _ => False) s H) (hN : tN s) (hS : va_S A0 H0 H locs) (kk : ∀ (H1 : Heap) (locs1 : List Loc), va_S A0 H0 H1 locs1 → H.size ≤ H1.size → (∀ q : Nat, q < H.size → H1[q]? = H[q]?) → W p l e R s m args below meth c H1 locs1 (cells + 1) (slots + 6) Q (F0 m (pc + 3) ls (.int (nI 2) :: rest))) : W p l e R s m args below meth c H locs cells slots Q (F0 m pc ls (.ref o9 :: .int x3 :: .int x2 :: .int x1 :: .ref (ad 0) :: rest)) := va_calli (vx_runSW (As := [.ref (ad 0), .int x1, .int x2, .int x3, .ref o9]) (rest := rest) ⟨hx, hb, hml, hown, hts⟩ (h_setFund_ise (cJ := 0) (o9 := o9) (fo := fun _ => 0) (dC := dC) (dI := dI) (cI := cI) (cZ := cZ) (ad := ad) (sm := sm) (fe := fe) (ex := ex) (dy := dy) (gp := gp) (gc := gc) (op := op) (gr := gr) (st := st) (dl := dl) (wo := wo) (n := n) (yc := yc) (ya := ya) (ys := ys) (yd := yd) (q := q) (zc := zc) (zp := zp) (zr := zr) (zs := zs) (zf := zf) (z := z) (zm := zm) (zt := zt) (x1 := x1) (x2 := x2) (x3 := x3) l hfl h1 h2 h3 hq h0) (vx_cwSW 5 hts hg9 rfl rfl rfl (by decide +kernel) hR9) ⟨fun a U g mk q => ⟨q.1, q.2.1, va_K.moved (u := U) (U := U.calling g mk a) (Vm.Alike.refl U.vm) q.2.2.1, tX.same (u := U) (U := U.calling g mk a) rfl q.2.2.2.1, tN.moved (u := U) (U := U.calling g mk a) (Vm.Alike.refl U.vm) q.2.2.2.2⟩, fun U hU hW => ⟨rfl, by rw [hU]; exact hP, va_K.moved hW.alike hK, by rw [hU]; exact tX.warm hW hT, tN.moved hW.alike hN⟩⟩ rfl rfl hl9 rfl (lv_room hw9) hdg hc9) hS (fun _ _ h => h.elim) (fun _ h => h.elim) (fun r u t H1 locs1 ht _ hu _ hz hk hS1 => by subst hu; exact kk H1 locs1 hS1 hz (fun q hq => hk q hq (fun h => h)))
end
set_option maxHeartbeats 4000000 in
set_option maxRecDepth 100000 in
theorem h_setGrade_ok (l : Launch) {dC : Nat → ClassId} {dI : Nat → Nat → Nat} {cI cZ cJ : ClassId} {ad : Nat → Nat} {o9 : Nat} {sm fe ex dy : Int32} {gp gc op gr st dl wo : Nat → Int32} {n : Nat} {yc ya ys yd : Nat → Int32} {q : Nat} {zc zp zr zs zf : Nat → Int32} {z : Nat} {zm zt : Int64} {fo : Nat → Int64} {k : Nat} {x2 : Int32} {x3 : Int32} (hI : iwC ad) (hk : k < 5) (h1 : outN (nI k) (nI 0) (nI 4) = 0) (h2 : outN x2 (nI 1) (nI 100) = 0) (h3 : outN x3 (nI 1) (nI 1000000) = 0) (h0 : q = 0) : Met l yL_setGrade wsL_setGrade { frames := 2, cells := 0, slots := 0, locals := 45 } (va_Pc [.ref (ad 0), .int (nI k), .int x2, .int x3] (fun U => va_P (dC, dI) vwCl (wC cI cZ ad sm fe ex dy gp gc op gr st dl wo n yc ya ys yd q zc zp zr zs zf z zm zt) U.heap ∧ va_K (dC, dI) vwCl [(cI, .int), (cZ, .boolean)] U)) (va_Qi (fun r (_ : Unit) => r = nI 0) (fun (u9 : Unit) t => va_P (dC, dI) vwCl (wC cI cZ ad sm fe ex dy (upd gp k x2) (upd gc k x3) op gr st dl wo n yc ya ys yd q zc zp zr zs zf z zm zt) t.heap) (awC ad)) 0 0 (awC ad) := by
  refine va_MetW (cc := cL_setGrade) (maxL := 5) (ret := (some .int)) (hh := [(0, 7, 10, 21), (0, 7, 14, 13), (0, 7, 18, 15)]) (by decide) rfl ?_
  intro p e s m args below meth c s₁ B hml hv
  obtain ⟨rfl, hP, hK⟩ := hv
  have hx := B.exec
  have hb := B.bytes
  have hr := B.returns
  have hts := atoms_spec (ws := wsL_setGrade) B.pre
  have hown : s.vm.findClass RL = some m.cls := findClass_of_methodNamed B.named
  have hlocks := B.notSynchronized
  have hA : ∀ x, awC ad x → (awC ad) x := fun x h => h
  have hS : va_S (awC ad) s.heap s.heap [] := va_S.rf
  have hl := lv_entry ([.ref (ad 0), .int (nI k), .int x2, .int x3]) (n := 5) (Nat.le_of_ble_eq_true rfl)
  rw [lg_entry_eq]
  generalize (lg_sl ([.ref (ad 0), .int (nI k), .int x2, .int x3]) ++ List.replicate (5 - (lg_sl ([.ref (ad 0), .int (nI k), .int x2, .int x3])).length) Slot.unset).toArray = ls at hl ⊢
  have hl : lv_has ls 5 [(0, .ref (ad 0)), (1, .int (nI k)), (2, .int x2), (3, .int x3)] := hl
  refine lv_aload_n hx hb dL_setGrade_0 rfl (lv_at hl 0 rfl) ?_
  refine lv_iload_n hx hb dL_setGrade_1 rfl (lv_at hl 1 rfl) ?_
  refine lv_iload_n hx hb dL_setGrade_2 rfl (lv_at hl 2 rfl) ?_
  refine lv_iload_n hx hb dL_setGrade_3 rfl (lv_at hl 3 rfl) ?_
  refine k_X3_setGrade_ok l (k := k) (x2 := x2) (x3 := x3) (hk := hk) (h1 := h1) (h2 := h2) (h3 := h3) (h0 := h0) hx hb hml hown hts hK hP gL_setGrade_X3_setGrade ⟨Nat.le_of_ble_eq_true rfl, Nat.le_of_ble_eq_true rfl⟩ ⟨Nat.le_of_ble_eq_true rfl, Nat.le_of_ble_eq_true rfl⟩ hl.1 (Nat.le_of_ble_eq_true rfl) dL_setGrade_4 hI hA hS (fun H locs hP hS hfr => ?_)
  refine lv_goto (tgt := 22) hx hb dL_setGrade_7 (by decide) ?_
  refine lv_iconst (v := nI 0) hx hb dL_setGrade_22 (by decide) ?_
  exact W.iret (v := nI 0) hx hb hr (fun t ht hW => ⟨⟨nI 0, (), rfl, rfl, by (try dsimp only); rw [ht]; exact hP⟩, hS.F ht⟩) hS.2.2 dL_setGrade_23
section
variable {p : Program} {e : Env} {R : Room} {s : State} {m : MethodId} {args : Array Value} {below : List Frame} {meth : Method} {c : Code} {H : Heap} {locs : List Loc} {cells slots : Nat} {Q : State → Prop} {cc : ByteArray} {pc : Nat} {ls : Array Slot} {rest : List Value} {own : String} {index nL : Nat} {Ts : List Cond} {H0 : Heap} {A0 : Nat → Prop}
theorem kh_setGrade_ok (l : Launch) {dC : Nat → ClassId} {dI : Nat → Nat → Nat} {cI cZ cJ : ClassId} {ad : Nat → Nat} {o9 : Nat} {sm fe ex dy : Int32} {gp gc op gr st dl wo : Nat → Int32} {n : Nat} {yc ya ys yd : Nat → Int32} {q : Nat} {zc zp zr zs zf : Nat → Int32} {z : Nat} {zm zt : Int64} {fo : Nat → Int64} {k : Nat} {x2 : Int32} {x3 : Int32} (hk : k < 5) (h1 : outN (nI k) (nI 0) (nI 4) = 0) (h2 : outN x2 (nI 1) (nI 100) = 0) (h3 : outN x3 (nI 1) (nI 1000000) = 0) (h0 : q = 0) (hx : p.tables.exec = Jvm.exec) (hb : c.code = cc) (hml : c.maxLocals = nL) (hown : s.vm.findClass own = some m.cls) (hts : ∀ w ∈ Ts, w.before args s = true) (hK : va_K (dC, dI) vwCl [(cI, .int), (cZ, .boolean)] s) (hP : va_P (dC, dI) vwCl (wC cI cZ ad sm fe ex dy gp gc op gr st dl wo n yc ya ys yd q zc zp zr zs zf z zm zt) H) (hg9 : GoodIn Ts (va_wsS own index yL_setGrade wsL_setGrade)) (hR9 : 2 + 1 ≤ R.frames ∧ 8 + (5 + 11) + 45 ≤ R.locals) (hc9 : cells + 0 ≤ R.cells ∧ slots + 0 ≤ R.slots) (hl9 : ls.size = nL) (hw9 : (rest.map fun v => v.category).sum ≤ 8) (hdg : decode cc pc = .ok (.invokestatic index, 3)) (hI : iwC ad) (hA : ∀ x, awC ad x → A0 x) (hS : va_S A0 H0 H locs) (kk : ∀ (u9 : Unit) (H1 : Heap) (locs1 : List Loc), va_P (dC, dI) vwCl (wC cI cZ ad sm fe ex dy (upd gp k x2) (upd gc k x3) op gr st dl wo n yc ya ys yd q zc zp zr zs zf z zm zt) H1 → va_S A0 H0 H1 locs1 → H.size ≤ H1.size → (∀ q : Nat, q < H.size → ¬ (awC ad q) → H1[q]? = H[q]?) → W p l e R s m args below meth c H1 locs1 cells slots Q (F0 m (pc + 3) ls (.int (nI 0) :: rest))) : W p l e R s m args below meth c H locs cells slots Q (F0 m pc ls (.int x3 :: .int x2 :: .int (nI k) :: .ref (ad 0) :: rest)) := va_calli (vx_runSW (As := [.ref (ad 0), .int (nI k), .int x2, .int x3]) (rest := rest) ⟨hx, hb, hml, hown, hts⟩ (h_setGrade_ok (cJ := 0) (o9 := 0) (fo := fun _ => 0) (dC := dC) (dI := dI) (cI := cI) (cZ := cZ) (ad := ad) (sm := sm) (fe := fe) (ex := ex) (dy := dy) (gp := gp) (gc := gc) (op := op) (gr := gr) (st := st) (dl := dl) (wo := wo) (n := n) (yc := yc) (ya := ya) (ys := ys) (yd := yd) (q := q) (zc := zc) (zp := zp) (zr := zr) (zs := zs) (zf := zf) (z := z) (zm := zm) (zt := zt) (k := k) (x2 := x2) (x3 := x3) l hI hk h1 h2 h3 h0) (vx_cwSW 4 hts hg9 rfl rfl rfl (by decide +kernel) hR9) ⟨fun a U g mk q => ⟨q.1, q.2.1, va_K.moved (u := U) (U := U.calling g mk a) (Vm.Alike.refl U.vm) q.2.2⟩, fun U hU hW => ⟨rfl, by rw [hU]; exact hP, va_K.moved hW.alike hK⟩⟩ rfl rfl hl9 rfl (lv_room hw9) hdg hc9) hS (fun q _ h => hA q h) hA (fun r u t H1 locs1 ht _ hu hB hz hk hS1 => by subst hu; rw [ht] at hB; exact kk u H1 locs1 hB hS1 hz hk)
end
set_option maxHeartbeats 4000000 in
set_option maxRecDepth 100000 in
theorem h_setGrade_ioobe (l : Launch) {dC : Nat → ClassId} {dI : Nat → Nat → Nat} {cI cZ cJ : ClassId} {ad : Nat → Nat} {o9 : Nat} {sm fe ex dy : Int32} {gp gc op gr st dl wo : Nat → Int32} {n : Nat} {yc ya ys yd : Nat → Int32} {q : Nat} {zc zp zr zs zf : Nat → Int32} {z : Nat} {zm zt : Int64} {fo : Nat → Int64} {x1 : Int32} {x2 : Int32} {x3 : Int32} (hfl : l.stackTraces = false) (h1 : ¬ outN x1 (nI 0) (nI 4) = 0) : Met l yL_setGrade wsL_setGrade { frames := 7, cells := 1, slots := 6, locals := 113 } (va_Pc [.ref (ad 0), .int x1, .int x2, .int x3] (fun U => va_P (dC, dI) vwCl (wC cI cZ ad sm fe ex dy gp gc op gr st dl wo n yc ya ys yd q zc zp zr zs zf z zm zt) U.heap ∧ va_K (dC, dI) vwCl [(cI, .int), (cZ, .boolean)] U ∧ tX (fun _ => False) U U.heap ∧ tN U)) (va_Qi (fun r (_ : Unit) => r = nI 1) (fun _ _ => True) (fun _ => False)) 1 6 (fun _ => False) := by
  refine va_MetW (cc := cL_setGrade) (maxL := 5) (ret := (some .int)) (hh := [(0, 7, 10, 21), (0, 7, 14, 13), (0, 7, 18, 15)]) (by decide) rfl ?_
  intro p e s m args below meth c s₁ B hml hv
  obtain ⟨rfl, hP, hK, hT, hN⟩ := hv
  have hx := B.exec
  have hb := B.bytes
  have hr := B.returns
  have hts := atoms_spec (ws := wsL_setGrade) B.pre
  have hown : s.vm.findClass RL = some m.cls := findClass_of_methodNamed B.named
  have hlocks := B.notSynchronized
  have hl := lv_entry ([.ref (ad 0), .int x1, .int x2, .int x3]) (n := 5) (Nat.le_of_ble_eq_true rfl)
  rw [lg_entry_eq]
  generalize (lg_sl ([.ref (ad 0), .int x1, .int x2, .int x3]) ++ List.replicate (5 - (lg_sl ([.ref (ad 0), .int x1, .int x2, .int x3])).length) Slot.unset).toArray = ls at hl ⊢
  have hl : lv_has ls 5 [(0, .ref (ad 0)), (1, .int x1), (2, .int x2), (3, .int x3)] := hl
  refine lv_aload_n hx hb dL_setGrade_0 rfl (lv_at hl 0 rfl) ?_
  refine lv_iload_n hx hb dL_setGrade_1 rfl (lv_at hl 1 rfl) ?_
  refine lv_iload_n hx hb dL_setGrade_2 rfl (lv_at hl 2 rfl) ?_
  refine lv_iload_n hx hb dL_setGrade_3 rfl (lv_at hl 3 rfl) ?_
  have htab : c.exceptionTable.toList = ([] : List ExceptionTableEntry) ++ ⟨0, 7, 10, 21⟩ :: [⟨0, 7, 14, 13⟩, ⟨0, 7, 18, 15⟩] := (vx_table B (hts _ List.mem_cons_self)).trans rfl
  refine zx_go (kr_X3_setGrade_ioobe l hfl (x1 := x1) (x2 := x2) (x3 := x3) (h1 := h1) hx hb hml hown hts hK hP gL_setGrade_X3_setGrade ⟨Nat.le_of_ble_eq_true rfl, Nat.le_of_ble_eq_true rfl⟩ ⟨Nat.le_of_ble_eq_true rfl, Nat.le_of_ble_eq_true rfl⟩ hl.1 (Nat.le_of_ble_eq_true rfl) dL_setGrade_4 hT) (fun ce q9 H1 hz9 hk9 hce hcv hcl => ?_)
  refine vx_catch (own := RL) (name := "java/lang/IndexOutOfBoundsException") (E := "java/lang/IndexOutOfBoundsException") hown [] ⟨0, 7, 10, 21⟩ [⟨0, 7, 14, 13⟩, ⟨0, 7, 18, 15⟩] htab (fun z hz => nomatch hz) rfl (by decide) (hts (.classLink RL 21 "java/lang/IndexOutOfBoundsException") (by decide +kernel)) (va_Nw.use rfl hT.2.1.2.2) hce hcv hcl ?_
  have hS : va_S (fun _ => False) s.heap H1 [] := ⟨hz9, fun q hq _ => hk9 q hq, fun _ h => nomatch h⟩
  refine lv_astore (lv' := [(4, .ref q9), (0, .ref (ad 0)), (1, .int x1), (2, .int x2), (3, .int x3)]) hx hb dL_setGrade_10 hl (by decide) rfl (fun ls hl => ?_)
  refine lv_iconst (v := nI 1) hx hb dL_setGrade_12 (by decide) ?_
  exact W.iret (v := nI 1) hx hb hr (fun t ht hW => ⟨⟨nI 1, (), rfl, rfl, trivial⟩, hS.F ht⟩) hS.2.2 dL_setGrade_13
section
variable {p : Program} {e : Env} {R : Room} {s : State} {m : MethodId} {args : Array Value} {below : List Frame} {meth : Method} {c : Code} {H : Heap} {locs : List Loc} {cells slots : Nat} {Q : State → Prop} {cc : ByteArray} {pc : Nat} {ls : Array Slot} {rest : List Value} {own : String} {index nL : Nat} {Ts : List Cond} {H0 : Heap} {A0 : Nat → Prop}
theorem kh_setGrade_ioobe (l : Launch) {dC : Nat → ClassId} {dI : Nat → Nat → Nat} {cI cZ cJ : ClassId} {ad : Nat → Nat} {o9 : Nat} {sm fe ex dy : Int32} {gp gc op gr st dl wo : Nat → Int32} {n : Nat} {yc ya ys yd : Nat → Int32} {q : Nat} {zc zp zr zs zf : Nat → Int32} {z : Nat} {zm zt : Int64} {fo : Nat → Int64} {x1 : Int32} {x2 : Int32} {x3 : Int32}(hfl : l.stackTraces = false)  (h1 : ¬ outN x1 (nI 0) (nI 4) = 0) (hx : p.tables.exec = Jvm.exec) (hb : c.code = cc) (hml : c.maxLocals = nL) (hown : s.vm.findClass own = some m.cls) (hts : ∀ w ∈ Ts, w.before args s = true) (hK : va_K (dC, dI) vwCl [(cI, .int), (cZ, .boolean)] s) (hP : va_P (dC, dI) vwCl (wC cI cZ ad sm fe ex dy gp gc op gr st dl wo n yc ya ys yd q zc zp zr zs zf z zm zt) H) (hg9 : GoodIn Ts (va_wsS own index yL_setGrade wsL_setGrade)) (hR9 : 7 + 1 ≤ R.frames ∧ 8 + (5 + 11) + 113 ≤ R.locals) (hc9 : cells + 1 ≤ R.cells ∧ slots + 6 ≤ R.slots) (hl9 : ls.size = nL) (hw9 : (rest.map fun v => v.category).sum ≤ 8) (hdg : decode cc pc = .ok (.invokestatic index, 3)) (hT : tX (fun _ => False) s H) (hN : tN s) (hS : va_S A0 H0 H locs) (kk : ∀ (H1 : Heap) (locs1 : List Loc), va_S A0 H0 H1 locs1 → H.size ≤ H1.size → (∀ q : Nat, q < H.size → H1[q]? = H[q]?) → W p l e R s m args below meth c H1 locs1 (cells + 1) (slots + 6) Q (F0 m (pc + 3) ls (.int (nI 1) :: rest))) : W p l e R s m args below meth c H locs cells slots Q (F0 m pc ls (.int x3 :: .int x2 :: .int x1 :: .ref (ad 0) :: rest)) := va_calli (vx_runSW (As := [.ref (ad 0), .int x1, .int x2, .int x3]) (rest := rest) ⟨hx, hb, hml, hown, hts⟩ (h_setGrade_ioobe (cJ := 0) (o9 := 0) (fo := fun _ => 0) (dC := dC) (dI := dI) (cI := cI) (cZ := cZ) (ad := ad) (sm := sm) (fe := fe) (ex := ex) (dy := dy) (gp := gp) (gc := gc) (op := op) (gr := gr) (st := st) (dl := dl) (wo := wo) (n := n) (yc := yc) (ya := ya) (ys := ys) (yd := yd) (q := q) (zc := zc) (zp := zp) (zr := zr) (zs := zs) (zf := zf) (z := z) (zm := zm) (zt := zt) (x1 := x1) (x2 := x2) (x3 := x3) l hfl h1) (vx_cwSW 4 hts hg9 rfl rfl rfl (by decide +kernel) hR9) ⟨fun a U g mk q => ⟨q.1, q.2.1, va_K.moved (u := U) (U := U.calling g mk a) (Vm.Alike.refl U.vm) q.2.2.1, tX.same (u := U) (U := U.calling g mk a) rfl q.2.2.2.1, tN.moved (u := U) (U := U.calling g mk a) (Vm.Alike.refl U.vm) q.2.2.2.2⟩, fun U hU hW => ⟨rfl, by rw [hU]; exact hP, va_K.moved hW.alike hK, by rw [hU]; exact tX.warm hW hT, tN.moved hW.alike hN⟩⟩ rfl rfl hl9 rfl (lv_room hw9) hdg hc9) hS (fun _ _ h => h.elim) (fun _ h => h.elim) (fun r u t H1 locs1 ht _ hu _ hz hk hS1 => by subst hu; exact kk H1 locs1 hS1 hz (fun q hq => hk q hq (fun h => h)))
end
