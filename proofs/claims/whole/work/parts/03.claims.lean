/-! plain functions: the claims' book -/
def tallyN (st : Nat → Int32) (w : Int32) : Nat → Nat
  | 0 => 0
  | i + 1 => tallyN st w i + (if st i = w then 1 else 0)
theorem tallyN_le (st : Nat → Int32) (w : Int32) : ∀ i, tallyN st w i ≤ i
  | 0 => Nat.le_refl _
  | i + 1 => by
    have h := tallyN_le st w i
    show tallyN st w i + _ ≤ i + 1
    split <;> omega
def denyF (st dl : Nat → Int32) (d : Int32) : Nat → (Nat → Int32)
  | 0 => st
  | i + 1 => if denyF st dl d i i = nI 1 ∧ ¬ d ≤ dl i then upd (denyF st dl d i) i (nI 2) else denyF st dl d i
def maxI (a b : Int32) : Int32 := if a < b then b else a
def joinS (st : Nat → Int32) (k : Nat) (b : Int32) : Nat → Int32 := if b = 0 ∧ (st k = nI 1 ∨ st k = nI 2) then upd st k (nI 0) else st
theorem zz_out {x : Int32} {n : Nat} (hn : n < 2 ^ 31) (h : ¬ vp_in x n) (h1 : ¬ x < 0) (h2 : ¬ nI n ≤ x) : False := by
  rcases pk_ix x hn with q | q | ⟨j, q1, q2⟩
  · exact h1 q
  · exact h2 q
  · exact h (by rw [q2]; exact vp_in_nI q1 hn)

set_option maxHeartbeats 4000000 in
set_option maxRecDepth 100000 in
theorem c_X0_has_ok (l : Launch) {dC : Nat → ClassId} {dI : Nat → Nat → Nat} {cI cZ : ClassId} {ad : Nat → Nat} {sm fe ex dy : Int32} {gp gc op gr st dl wo : Nat → Int32} {n : Nat} {yc ya ys yd : Nat → Int32} {q : Nat} {zc zp zr zs zf : Nat → Int32} {z : Nat} {zm zt : Int64} {k : Nat} (hn : n ≤ 24) (hk : k < n) : Met l yX0_has wsX0_has { frames := 0, cells := 0, slots := 0, locals := 0 } (va_Pc [.ref (ad 3), .int (nI k)] (fun U => va_P (dC, dI) vwCl (wC cI cZ ad sm fe ex dy gp gc op gr st dl wo n yc ya ys yd q zc zp zr zs zf z zm zt) U.heap ∧ va_K (dC, dI) vwCl [(cI, .int), (cZ, .boolean)] U)) (vp_Si (fun r => r = nI 1)) 0 0 (fun _ => False) := by
  refine Met.ofW (cc := cX0_has) (maxL := 2) (ret := (some .boolean)) (by decide) rfl ?_
  intro p e s m args below meth c s₁ B hml hv
  obtain ⟨rfl, hP, hK⟩ := hv
  have hx := B.exec
  have hb := B.bytes
  have hr := B.returns
  have hts := atoms_spec (ws := wsX0_has) B.pre
  have hown : s.vm.findClass RX0 = some m.cls := findClass_of_methodNamed B.named
  have hlocks := B.notSynchronized
  have hl := lv_entry ([.ref (ad 3), .int (nI k)]) (n := 2) (Nat.le_of_ble_eq_true rfl)
  rw [lg_entry_eq]
  generalize (lg_sl ([.ref (ad 3), .int (nI k)]) ++ List.replicate (2 - (lg_sl ([.ref (ad 3), .int (nI k)])).length) Slot.unset).toArray = ls at hl ⊢
  have hl : lv_has ls 2 [(0, .ref (ad 3)), (1, .int (nI k))] := hl
  have hiX0 : ∀ w ∈ wsX00, w ∈ wsX0_has := by decide +kernel
  have hf28 := hts (.fieldLink RX0 28 "SettlementFund$ClaimBook" "size" "I") (by decide +kernel)
  refine lv_iload_n hx hb dX0_has_0 rfl (lv_at hl 1 rfl) ?_
  refine zi_lt (tgt := 16) hx hb (by omega) dX0_has_1 (by decide) (fun c_1 => (show False by exact c_1).elim) (fun c_1 => ?_)
  refine lv_iload_n hx hb dX0_has_4 rfl (lv_at hl 1 rfl) ?_
  refine lv_aload_n hx hb dX0_has_5 rfl (lv_at hl 0 rfl) ?_
  refine gC_3_5 hx hb hts hiX0 hown hK hP hf28 dX0_has_6 ?_
  refine zb_ge (tgt := 16) hx hb (by omega) (by omega) dX0_has_9 (by decide) (fun c_9 => (show False by omega).elim) (fun c_9 => ?_)
  refine lv_iconst (v := nI 1) hx hb dX0_has_12 (by decide) ?_
  refine lv_goto (tgt := 17) hx hb dX0_has_13 (by decide) ?_
  exact W.zret (v := nI 1) hx hb hr (rfl) (fun t ht hW => ⟨nI 1, rfl, rfl, ht⟩) (fun _ h => nomatch h) dX0_has_17
section
variable {p : Program} {e : Env} {R : Room} {s : State} {m : MethodId} {args : Array Value} {below : List Frame} {meth : Method} {c : Code} {H : Heap} {locs : List Loc} {cells slots : Nat} {Q : State → Prop} {cc : ByteArray} {pc : Nat} {ls : Array Slot} {rest : List Value} {own : String} {index nL : Nat} {Ts : List Cond} {H0 : Heap} {A0 : Nat → Prop}
theorem k_X0_has_ok (l : Launch) {dC : Nat → ClassId} {dI : Nat → Nat → Nat} {cI cZ : ClassId} {ad : Nat → Nat} {sm fe ex dy : Int32} {gp gc op gr st dl wo : Nat → Int32} {n : Nat} {yc ya ys yd : Nat → Int32} {q : Nat} {zc zp zr zs zf : Nat → Int32} {z : Nat} {zm zt : Int64} {k : Nat} (hn : n ≤ 24) (hk : k < n) (hx : p.tables.exec = Jvm.exec) (hb : c.code = cc) (hml : c.maxLocals = nL) (hown : s.vm.findClass own = some m.cls) (hts : ∀ w ∈ Ts, w.before args s = true) (hK : va_K (dC, dI) vwCl [(cI, .int), (cZ, .boolean)] s) (hP : va_P (dC, dI) vwCl (wC cI cZ ad sm fe ex dy gp gc op gr st dl wo n yc ya ys yd q zc zp zr zs zf z zm zt) H) (hg9 : GoodIn Ts (wsV own index RX0 yX0_has wsX0_has)) (hR9 : 0 + 1 ≤ R.frames ∧ 8 + (2 + 11) + 0 ≤ R.locals) (hc9 : cells ≤ R.cells ∧ slots ≤ R.slots) (hl9 : ls.size = nL) (hw9 : (rest.map fun v => v.category).sum ≤ 8) (hdg : decode cc pc = .ok (.invokevirtual index, 3)) (kk : W p l e R s m args below meth c H locs cells slots Q (F0 m (pc + 3) ls (.int (nI 1) :: rest))) : W p l e R s m args below meth c H locs cells slots Q (F0 m pc ls (.int (nI k) :: .ref (ad 3) :: rest)) := zc_ro (W.runV (As := [.int (nI k)]) (rest := rest) ⟨hx, hb, hml, hown, hts⟩ (c_X0_has_ok (dC := dC) (dI := dI) (cI := cI) (cZ := cZ) (ad := ad) (sm := sm) (fe := fe) (ex := ex) (dy := dy) (gp := gp) (gc := gc) (op := op) (gr := gr) (st := st) (dl := dl) (wo := wo) (n := n) (yc := yc) (ya := ya) (ys := ys) (yd := yd) (q := q) (zc := zc) (zp := zp) (zr := zr) (zs := zs) (zf := zf) (z := z) (zm := zm) (zt := zt) (k := k) l hn hk) (cwV 1 hts hg9 rfl rfl rfl (by decide +kernel) hR9) ⟨fun a U g mk q => ⟨q.1, q.2.1, va_K.moved (u := U) (U := U.calling g mk a) (Vm.Alike.refl U.vm) q.2.2⟩, rC_3 hK hP, fun U hU hW => ⟨rfl, by rw [hU]; exact hP, va_K.moved hW.alike hK⟩⟩ rfl rfl hl9 rfl (lv_room hw9) hdg hc9) (fun r h => by subst h; exact kk)
end
set_option maxHeartbeats 4000000 in
set_option maxRecDepth 100000 in
theorem c_X0_has_no (l : Launch) {dC : Nat → ClassId} {dI : Nat → Nat → Nat} {cI cZ : ClassId} {ad : Nat → Nat} {sm fe ex dy : Int32} {gp gc op gr st dl wo : Nat → Int32} {n : Nat} {yc ya ys yd : Nat → Int32} {q : Nat} {zc zp zr zs zf : Nat → Int32} {z : Nat} {zm zt : Int64} {x : Int32} (hn : n ≤ 24) (hk : ¬ vp_in x n) : Met l yX0_has wsX0_has { frames := 0, cells := 0, slots := 0, locals := 0 } (va_Pc [.ref (ad 3), .int x] (fun U => va_P (dC, dI) vwCl (wC cI cZ ad sm fe ex dy gp gc op gr st dl wo n yc ya ys yd q zc zp zr zs zf z zm zt) U.heap ∧ va_K (dC, dI) vwCl [(cI, .int), (cZ, .boolean)] U)) (vp_Si (fun r => r = nI 0)) 0 0 (fun _ => False) := by
  refine Met.ofW (cc := cX0_has) (maxL := 2) (ret := (some .boolean)) (by decide) rfl ?_
  intro p e s m args below meth c s₁ B hml hv
  obtain ⟨rfl, hP, hK⟩ := hv
  have hx := B.exec
  have hb := B.bytes
  have hr := B.returns
  have hts := atoms_spec (ws := wsX0_has) B.pre
  have hown : s.vm.findClass RX0 = some m.cls := findClass_of_methodNamed B.named
  have hlocks := B.notSynchronized
  have hl := lv_entry ([.ref (ad 3), .int x]) (n := 2) (Nat.le_of_ble_eq_true rfl)
  rw [lg_entry_eq]
  generalize (lg_sl ([.ref (ad 3), .int x]) ++ List.replicate (2 - (lg_sl ([.ref (ad 3), .int x])).length) Slot.unset).toArray = ls at hl ⊢
  have hl : lv_has ls 2 [(0, .ref (ad 3)), (1, .int x)] := hl
  have hiX0 : ∀ w ∈ wsX00, w ∈ wsX0_has := by decide +kernel
  have hf28 := hts (.fieldLink RX0 28 "SettlementFund$ClaimBook" "size" "I") (by decide +kernel)
  refine lv_iload_n hx hb dX0_has_0 rfl (lv_at hl 1 rfl) ?_
  refine lv_if_lt (tgt := 16) hx hb dX0_has_1 (by decide) (fun c_1 => ?_) (fun c_1 => ?_)
  · refine lv_iconst (v := nI 0) hx hb dX0_has_16 (by decide) ?_
    exact W.zret (v := nI 0) hx hb hr (rfl) (fun t ht hW => ⟨nI 0, rfl, rfl, ht⟩) (fun _ h => nomatch h) dX0_has_17
  · refine lv_iload_n hx hb dX0_has_4 rfl (lv_at hl 1 rfl) ?_
    refine lv_aload_n hx hb dX0_has_5 rfl (lv_at hl 0 rfl) ?_
    refine gC_3_5 hx hb hts hiX0 hown hK hP hf28 dX0_has_6 ?_
    refine lv_icmp_ge (tgt := 16) hx hb dX0_has_9 (by decide) (fun c_9 => ?_) (fun c_9 => (show False by exact zz_out (by omega) hk c_1 c_9).elim)
    refine lv_iconst (v := nI 0) hx hb dX0_has_16 (by decide) ?_
    exact W.zret (v := nI 0) hx hb hr (rfl) (fun t ht hW => ⟨nI 0, rfl, rfl, ht⟩) (fun _ h => nomatch h) dX0_has_17
section
variable {p : Program} {e : Env} {R : Room} {s : State} {m : MethodId} {args : Array Value} {below : List Frame} {meth : Method} {c : Code} {H : Heap} {locs : List Loc} {cells slots : Nat} {Q : State → Prop} {cc : ByteArray} {pc : Nat} {ls : Array Slot} {rest : List Value} {own : String} {index nL : Nat} {Ts : List Cond} {H0 : Heap} {A0 : Nat → Prop}
theorem k_X0_has_no (l : Launch) {dC : Nat → ClassId} {dI : Nat → Nat → Nat} {cI cZ : ClassId} {ad : Nat → Nat} {sm fe ex dy : Int32} {gp gc op gr st dl wo : Nat → Int32} {n : Nat} {yc ya ys yd : Nat → Int32} {q : Nat} {zc zp zr zs zf : Nat → Int32} {z : Nat} {zm zt : Int64} {x : Int32} (hn : n ≤ 24) (hk : ¬ vp_in x n) (hx : p.tables.exec = Jvm.exec) (hb : c.code = cc) (hml : c.maxLocals = nL) (hown : s.vm.findClass own = some m.cls) (hts : ∀ w ∈ Ts, w.before args s = true) (hK : va_K (dC, dI) vwCl [(cI, .int), (cZ, .boolean)] s) (hP : va_P (dC, dI) vwCl (wC cI cZ ad sm fe ex dy gp gc op gr st dl wo n yc ya ys yd q zc zp zr zs zf z zm zt) H) (hg9 : GoodIn Ts (wsV own index RX0 yX0_has wsX0_has)) (hR9 : 0 + 1 ≤ R.frames ∧ 8 + (2 + 11) + 0 ≤ R.locals) (hc9 : cells ≤ R.cells ∧ slots ≤ R.slots) (hl9 : ls.size = nL) (hw9 : (rest.map fun v => v.category).sum ≤ 8) (hdg : decode cc pc = .ok (.invokevirtual index, 3)) (kk : W p l e R s m args below meth c H locs cells slots Q (F0 m (pc + 3) ls (.int (nI 0) :: rest))) : W p l e R s m args below meth c H locs cells slots Q (F0 m pc ls (.int x :: .ref (ad 3) :: rest)) := zc_ro (W.runV (As := [.int x]) (rest := rest) ⟨hx, hb, hml, hown, hts⟩ (c_X0_has_no (dC := dC) (dI := dI) (cI := cI) (cZ := cZ) (ad := ad) (sm := sm) (fe := fe) (ex := ex) (dy := dy) (gp := gp) (gc := gc) (op := op) (gr := gr) (st := st) (dl := dl) (wo := wo) (n := n) (yc := yc) (ya := ya) (ys := ys) (yd := yd) (q := q) (zc := zc) (zp := zp) (zr := zr) (zs := zs) (zf := zf) (z := z) (zm := zm) (zt := zt) (x := x) l hn hk) (cwV 1 hts hg9 rfl rfl rfl (by decide +kernel) hR9) ⟨fun a U g mk q => ⟨q.1, q.2.1, va_K.moved (u := U) (U := U.calling g mk a) (Vm.Alike.refl U.vm) q.2.2⟩, rC_3 hK hP, fun U hU hW => ⟨rfl, by rw [hU]; exact hP, va_K.moved hW.alike hK⟩⟩ rfl rfl hl9 rfl (lv_room hw9) hdg hc9) (fun r h => by subst h; exact kk)
end
set_option maxHeartbeats 4000000 in
set_option maxRecDepth 100000 in
theorem c_X0_hasPlace (l : Launch) {dC : Nat → ClassId} {dI : Nat → Nat → Nat} {cI cZ : ClassId} {ad : Nat → Nat} {sm fe ex dy : Int32} {gp gc op gr st dl wo : Nat → Int32} {n : Nat} {yc ya ys yd : Nat → Int32} {q : Nat} {zc zp zr zs zf : Nat → Int32} {z : Nat} {zm zt : Int64}  (hn : n ≤ 24) : Met l yX0_hasPlace wsX0_hasPlace { frames := 0, cells := 0, slots := 0, locals := 0 } (va_Pc [.ref (ad 3)] (fun U => va_P (dC, dI) vwCl (wC cI cZ ad sm fe ex dy gp gc op gr st dl wo n yc ya ys yd q zc zp zr zs zf z zm zt) U.heap ∧ va_K (dC, dI) vwCl [(cI, .int), (cZ, .boolean)] U)) (vp_Si (fun r => r = nI (if n < 24 then 1 else 0))) 0 0 (fun _ => False) := by
  refine Met.ofW (cc := cX0_hasPlace) (maxL := 1) (ret := (some .boolean)) (by decide) rfl ?_
  intro p e s m args below meth c s₁ B hml hv
  obtain ⟨rfl, hP, hK⟩ := hv
  have hx := B.exec
  have hb := B.bytes
  have hr := B.returns
  have hts := atoms_spec (ws := wsX0_hasPlace) B.pre
  have hown : s.vm.findClass RX0 = some m.cls := findClass_of_methodNamed B.named
  have hlocks := B.notSynchronized
  have hl := lv_entry ([.ref (ad 3)]) (n := 1) (Nat.le_of_ble_eq_true rfl)
  rw [lg_entry_eq]
  generalize (lg_sl ([.ref (ad 3)]) ++ List.replicate (1 - (lg_sl ([.ref (ad 3)])).length) Slot.unset).toArray = ls at hl ⊢
  have hl : lv_has ls 1 [(0, .ref (ad 3))] := hl
  have hiX0 : ∀ w ∈ wsX00, w ∈ wsX0_hasPlace := by decide +kernel
  have hf28 := hts (.fieldLink RX0 28 "SettlementFund$ClaimBook" "size" "I") (by decide +kernel)
  refine lv_aload_n hx hb dX0_hasPlace_0 rfl (lv_at hl 0 rfl) ?_
  refine gC_3_5 hx hb hts hiX0 hown hK hP hf28 dX0_hasPlace_1 ?_
  refine lv_bipush (v := nI 24) hx hb dX0_hasPlace_4 (by decide) ?_
  refine zb_ge (tgt := 13) hx hb (by omega) (by decide) dX0_hasPlace_6 (by decide) (fun c_6 => ?_) (fun c_6 => ?_)
  · refine lv_iconst (v := nI 0) hx hb dX0_hasPlace_13 (by decide) ?_
    exact W.zret (v := nI 0) hx hb hr (rfl) (fun t ht hW => ⟨nI 0, rfl, by first | rfl | (rw [if_pos (by omega)]; done) | (rw [if_neg (by omega)]; done) | (simp [c_6]; done), ht⟩) (fun _ h => nomatch h) dX0_hasPlace_14
  · refine lv_iconst (v := nI 1) hx hb dX0_hasPlace_9 (by decide) ?_
    refine lv_goto (tgt := 14) hx hb dX0_hasPlace_10 (by decide) ?_
    exact W.zret (v := nI 1) hx hb hr (rfl) (fun t ht hW => ⟨nI 1, rfl, by first | rfl | (rw [if_pos (by omega)]; done) | (rw [if_neg (by omega)]; done) | (simp [c_6]; done), ht⟩) (fun _ h => nomatch h) dX0_hasPlace_14
section
variable {p : Program} {e : Env} {R : Room} {s : State} {m : MethodId} {args : Array Value} {below : List Frame} {meth : Method} {c : Code} {H : Heap} {locs : List Loc} {cells slots : Nat} {Q : State → Prop} {cc : ByteArray} {pc : Nat} {ls : Array Slot} {rest : List Value} {own : String} {index nL : Nat} {Ts : List Cond} {H0 : Heap} {A0 : Nat → Prop}
theorem k_X0_hasPlace (l : Launch) {dC : Nat → ClassId} {dI : Nat → Nat → Nat} {cI cZ : ClassId} {ad : Nat → Nat} {sm fe ex dy : Int32} {gp gc op gr st dl wo : Nat → Int32} {n : Nat} {yc ya ys yd : Nat → Int32} {q : Nat} {zc zp zr zs zf : Nat → Int32} {z : Nat} {zm zt : Int64}  (hn : n ≤ 24) (hx : p.tables.exec = Jvm.exec) (hb : c.code = cc) (hml : c.maxLocals = nL) (hown : s.vm.findClass own = some m.cls) (hts : ∀ w ∈ Ts, w.before args s = true) (hK : va_K (dC, dI) vwCl [(cI, .int), (cZ, .boolean)] s) (hP : va_P (dC, dI) vwCl (wC cI cZ ad sm fe ex dy gp gc op gr st dl wo n yc ya ys yd q zc zp zr zs zf z zm zt) H) (hg9 : GoodIn Ts (wsV own index RX0 yX0_hasPlace wsX0_hasPlace)) (hR9 : 0 + 1 ≤ R.frames ∧ 8 + (1 + 11) + 0 ≤ R.locals) (hc9 : cells ≤ R.cells ∧ slots ≤ R.slots) (hl9 : ls.size = nL) (hw9 : (rest.map fun v => v.category).sum ≤ 8) (hdg : decode cc pc = .ok (.invokevirtual index, 3)) (kk : W p l e R s m args below meth c H locs cells slots Q (F0 m (pc + 3) ls (.int (nI (if n < 24 then 1 else 0)) :: rest))) : W p l e R s m args below meth c H locs cells slots Q (F0 m pc ls (.ref (ad 3) :: rest)) := zc_ro (W.runV (As := []) (rest := rest) ⟨hx, hb, hml, hown, hts⟩ (c_X0_hasPlace (dC := dC) (dI := dI) (cI := cI) (cZ := cZ) (ad := ad) (sm := sm) (fe := fe) (ex := ex) (dy := dy) (gp := gp) (gc := gc) (op := op) (gr := gr) (st := st) (dl := dl) (wo := wo) (n := n) (yc := yc) (ya := ya) (ys := ys) (yd := yd) (q := q) (zc := zc) (zp := zp) (zr := zr) (zs := zs) (zf := zf) (z := z) (zm := zm) (zt := zt) l hn) (cwV 0 hts hg9 rfl rfl rfl (by decide +kernel) hR9) ⟨fun a U g mk q => ⟨q.1, q.2.1, va_K.moved (u := U) (U := U.calling g mk a) (Vm.Alike.refl U.vm) q.2.2⟩, rC_3 hK hP, fun U hU hW => ⟨rfl, by rw [hU]; exact hP, va_K.moved hW.alike hK⟩⟩ rfl rfl hl9 rfl (lv_room hw9) hdg hc9) (fun r h => by subst h; exact kk)
end
set_option maxHeartbeats 4000000 in
set_option maxRecDepth 100000 in
theorem c_X0_enter (l : Launch) {dC : Nat → ClassId} {dI : Nat → Nat → Nat} {cI cZ : ClassId} {ad : Nat → Nat} {sm fe ex dy : Int32} {gp gc op gr st dl wo : Nat → Int32} {n : Nat} {yc ya ys yd : Nat → Int32} {q : Nat} {zc zp zr zs zf : Nat → Int32} {z : Nat} {zm zt : Int64} {k : Nat} {g : Int32} {x : Int32} {d : Int32} (hI : iwC ad) (hn : n < 24) (hk : k < 30) : Met l yX0_enter wsX0_enter { frames := 0, cells := 0, slots := 0, locals := 0 } (va_Pc [.ref (ad 3), .int (nI k), .int g, .int x, .int d] (fun U => va_P (dC, dI) vwCl (wC cI cZ ad sm fe ex dy gp gc op gr st dl wo n yc ya ys yd q zc zp zr zs zf z zm zt) U.heap ∧ va_K (dC, dI) vwCl [(cI, .int), (cZ, .boolean)] U)) (va_Qi (fun r (_ : Unit) => r = nI n) (fun _ t => va_P (dC, dI) vwCl (wC cI cZ ad sm fe ex dy gp gc (upd op k (nI n)) (upd gr n g) (upd st n x) (upd dl n d) wo (n + 1) yc ya ys yd q zc zp zr zs zf z zm zt) t.heap) (awC ad)) 0 0 (awC ad) := by
  refine Met.ofW (cc := cX0_enter) (maxL := 6) (ret := (some .int)) (by decide) rfl ?_
  intro p e s m args below meth c s₁ B hml hv
  obtain ⟨rfl, hP, hK⟩ := hv
  have hx := B.exec
  have hb := B.bytes
  have hr := B.returns
  have hts := atoms_spec (ws := wsX0_enter) B.pre
  have hown : s.vm.findClass RX0 = some m.cls := findClass_of_methodNamed B.named
  have hlocks := B.notSynchronized
  have hS : va_S (awC ad) s.heap s.heap [] := va_S.rf
  have hl := lv_entry ([.ref (ad 3), .int (nI k), .int g, .int x, .int d]) (n := 6) (Nat.le_of_ble_eq_true rfl)
  rw [lg_entry_eq]
  generalize (lg_sl ([.ref (ad 3), .int (nI k), .int g, .int x, .int d]) ++ List.replicate (6 - (lg_sl ([.ref (ad 3), .int (nI k), .int g, .int x, .int d])).length) Slot.unset).toArray = ls at hl ⊢
  have hl : lv_has ls 6 [(0, .ref (ad 3)), (1, .int (nI k)), (2, .int g), (3, .int x), (4, .int d)] := hl
  have hiX0 : ∀ w ∈ wsX00, w ∈ wsX0_enter := by decide +kernel
  have hf28 := hts (.fieldLink RX0 28 "SettlementFund$ClaimBook" "size" "I") (by decide +kernel)
  have hf9 := hts (.fieldLink RX0 9 "SettlementFund$ClaimBook" "ofPerson" "[I") (by decide +kernel)
  have hf15 := hts (.fieldLink RX0 15 "SettlementFund$ClaimBook" "grade" "[I") (by decide +kernel)
  have hf18 := hts (.fieldLink RX0 18 "SettlementFund$ClaimBook" "state" "[I") (by decide +kernel)
  have hf21 := hts (.fieldLink RX0 21 "SettlementFund$ClaimBook" "deadline" "[I") (by decide +kernel)
  refine lv_aload_n hx hb dX0_enter_0 rfl (lv_at hl 0 rfl) ?_
  refine gC_3_5 hx hb hts hiX0 hown hK hP hf28 dX0_enter_1 ?_
  refine lv_istore (lv' := [(5, .int (nI n)), (0, .ref (ad 3)), (1, .int (nI k)), (2, .int g), (3, .int x), (4, .int d)]) hx hb dX0_enter_4 hl (by decide) rfl (fun ls hl => ?_)
  refine lv_aload_n hx hb dX0_enter_6 rfl (lv_at hl 1 rfl) ?_
  refine gC_3_0 hx hb hts hiX0 hown hK hP hf9 dX0_enter_7 ?_
  refine lv_iload_n hx hb dX0_enter_10 rfl (lv_at hl 2 rfl) ?_
  refine lv_iload hx hb dX0_enter_11 (lv_at hl 0 rfl) ?_
  refine sC_4 hx hb hK hP hI (fun _ h => h) hS (by omega) dX0_enter_13 (fun H locs hP hS => ?_)
  refine lv_aload_n hx hb dX0_enter_14 rfl (lv_at hl 1 rfl) ?_
  refine gC_3_1 hx hb hts hiX0 hown hK hP hf15 dX0_enter_15 ?_
  refine lv_iload hx hb dX0_enter_18 (lv_at hl 0 rfl) ?_
  refine lv_iload_n hx hb dX0_enter_20 rfl (lv_at hl 3 rfl) ?_
  refine sC_5 hx hb hK hP hI (fun _ h => h) hS (by omega) dX0_enter_21 (fun H locs hP hS => ?_)
  refine lv_aload_n hx hb dX0_enter_22 rfl (lv_at hl 1 rfl) ?_
  refine gC_3_2 hx hb hts hiX0 hown hK hP hf18 dX0_enter_23 ?_
  refine lv_iload hx hb dX0_enter_26 (lv_at hl 0 rfl) ?_
  refine lv_iload_n hx hb dX0_enter_28 rfl (lv_at hl 4 rfl) ?_
  refine sC_6 hx hb hK hP hI (fun _ h => h) hS (by omega) dX0_enter_29 (fun H locs hP hS => ?_)
  refine lv_aload_n hx hb dX0_enter_30 rfl (lv_at hl 1 rfl) ?_
  refine gC_3_3 hx hb hts hiX0 hown hK hP hf21 dX0_enter_31 ?_
  refine lv_iload hx hb dX0_enter_34 (lv_at hl 0 rfl) ?_
  refine lv_iload hx hb dX0_enter_36 (lv_at hl 5 rfl) ?_
  refine sC_7 hx hb hK hP hI (fun _ h => h) hS (by omega) dX0_enter_38 (fun H locs hP hS => ?_)
  refine lv_aload_n hx hb dX0_enter_39 rfl (lv_at hl 1 rfl) ?_
  refine lv_dup hx hb dX0_enter_40 rfl ?_
  refine gC_3_5 hx hb hts hiX0 hown hK hP hf28 dX0_enter_41 ?_
  refine lv_iconst (v := nI 1) hx hb dX0_enter_44 (by decide) ?_
  refine lv_iadd hx hb dX0_enter_45 ?_
  refine zt_i (y := nI (n + 1)) (nI_add _ _) ?_
  refine uC_3_5 hx hb hts hiX0 hown hK hP hf28 hI (fun _ h => h) hS dX0_enter_46 (fun H locs hP hS => ?_)
  refine lv_iload hx hb dX0_enter_49 (lv_at hl 0 rfl) ?_
  exact W.iret (v := nI n) hx hb hr (fun t ht hW => ⟨⟨nI n, (), rfl, rfl, by (try dsimp only); rw [ht]; exact hP⟩, hS.F ht⟩) hS.2.2 dX0_enter_51
section
variable {p : Program} {e : Env} {R : Room} {s : State} {m : MethodId} {args : Array Value} {below : List Frame} {meth : Method} {c : Code} {H : Heap} {locs : List Loc} {cells slots : Nat} {Q : State → Prop} {cc : ByteArray} {pc : Nat} {ls : Array Slot} {rest : List Value} {own : String} {index nL : Nat} {Ts : List Cond} {H0 : Heap} {A0 : Nat → Prop}
theorem k_X0_enter (l : Launch) {dC : Nat → ClassId} {dI : Nat → Nat → Nat} {cI cZ : ClassId} {ad : Nat → Nat} {sm fe ex dy : Int32} {gp gc op gr st dl wo : Nat → Int32} {n : Nat} {yc ya ys yd : Nat → Int32} {q : Nat} {zc zp zr zs zf : Nat → Int32} {z : Nat} {zm zt : Int64} {k : Nat} {g : Int32} {x : Int32} {d : Int32} (hn : n < 24) (hk : k < 30) (hx : p.tables.exec = Jvm.exec) (hb : c.code = cc) (hml : c.maxLocals = nL) (hown : s.vm.findClass own = some m.cls) (hts : ∀ w ∈ Ts, w.before args s = true) (hK : va_K (dC, dI) vwCl [(cI, .int), (cZ, .boolean)] s) (hP : va_P (dC, dI) vwCl (wC cI cZ ad sm fe ex dy gp gc op gr st dl wo n yc ya ys yd q zc zp zr zs zf z zm zt) H) (hg9 : GoodIn Ts (wsV own index RX0 yX0_enter wsX0_enter)) (hR9 : 0 + 1 ≤ R.frames ∧ 8 + (6 + 11) + 0 ≤ R.locals) (hc9 : cells ≤ R.cells ∧ slots ≤ R.slots) (hl9 : ls.size = nL) (hw9 : (rest.map fun v => v.category).sum ≤ 8) (hdg : decode cc pc = .ok (.invokevirtual index, 3)) (hI : iwC ad) (hA : ∀ x, awC ad x → A0 x) (hS : va_S A0 H0 H locs) (kk : ∀ (H1 : Heap) (locs1 : List Loc), va_P (dC, dI) vwCl (wC cI cZ ad sm fe ex dy gp gc (upd op k (nI n)) (upd gr n g) (upd st n x) (upd dl n d) wo (n + 1) yc ya ys yd q zc zp zr zs zf z zm zt) H1 → va_S A0 H0 H1 locs1 → (∀ q : Nat, q < H.size → ¬ awC ad q → H1[q]? = H[q]?) → W p l e R s m args below meth c H1 locs1 cells slots Q (F0 m (pc + 3) ls (.int (nI n) :: rest))) : W p l e R s m args below meth c H locs cells slots Q (F0 m pc ls (.int d :: .int x :: .int g :: .int (nI k) :: .ref (ad 3) :: rest)) := va_calli (va_runV (As := [.int (nI k), .int g, .int x, .int d]) (rest := rest) ⟨hx, hb, hml, hown, hts⟩ (c_X0_enter (dC := dC) (dI := dI) (cI := cI) (cZ := cZ) (ad := ad) (sm := sm) (fe := fe) (ex := ex) (dy := dy) (gp := gp) (gc := gc) (op := op) (gr := gr) (st := st) (dl := dl) (wo := wo) (n := n) (yc := yc) (ya := ya) (ys := ys) (yd := yd) (q := q) (zc := zc) (zp := zp) (zr := zr) (zs := zs) (zf := zf) (z := z) (zm := zm) (zt := zt) (k := k) (g := g) (x := x) (d := d) l hI hn hk) (cwV 4 hts hg9 rfl rfl rfl (by decide +kernel) hR9) ⟨fun a U g mk q => ⟨q.1, q.2.1, va_K.moved (u := U) (U := U.calling g mk a) (Vm.Alike.refl U.vm) q.2.2⟩, rC_3 hK hP, fun U hU hW => ⟨rfl, by rw [hU]; exact hP, va_K.moved hW.alike hK⟩⟩ rfl rfl hl9 rfl (lv_room hw9) hdg hc9) hS (fun q _ h => hA q h) hA (fun r u t H1 locs1 ht _ hu hB hz hk hS1 => by subst hu; exact kk H1 locs1 (by rw [ht] at hB; exact hB) hS1 hk)
end
set_option maxHeartbeats 4000000 in
set_option maxRecDepth 100000 in
theorem c_X0_join (l : Launch) {dC : Nat → ClassId} {dI : Nat → Nat → Nat} {cI cZ : ClassId} {ad : Nat → Nat} {sm fe ex dy : Int32} {gp gc op gr st dl wo : Nat → Int32} {n : Nat} {yc ya ys yd : Nat → Int32} {q : Nat} {zc zp zr zs zf : Nat → Int32} {z : Nat} {zm zt : Int64} {k : Nat} {g : Int32} {b : Int32} (hI : iwC ad) (hn : n ≤ 24) (hk : k < n) : Met l yX0_join wsX0_join { frames := 1, cells := 0, slots := 0, locals := 21 } (va_Pc [.ref (ad 3), .int (nI k), .int g, .int b] (fun U => va_P (dC, dI) vwCl (wC cI cZ ad sm fe ex dy gp gc op gr st dl wo n yc ya ys yd q zc zp zr zs zf z zm zt) U.heap ∧ va_K (dC, dI) vwCl [(cI, .int), (cZ, .boolean)] U)) (va_Qv (fun _ : Unit => True) (fun _ t => va_P (dC, dI) vwCl (wC cI cZ ad sm fe ex dy gp gc op (upd gr k (maxI (gr k) g)) (joinS st k b) dl wo n yc ya ys yd q zc zp zr zs zf z zm zt) t.heap) (awC ad)) 0 0 (awC ad) := by
  refine Met.ofW (cc := cX0_join) (maxL := 4) (ret := none) (by decide) rfl ?_
  intro p e s m args below meth c s₁ B hml hv
  obtain ⟨rfl, hP, hK⟩ := hv
  have hx := B.exec
  have hb := B.bytes
  have hr := B.returns
  have hts := atoms_spec (ws := wsX0_join) B.pre
  have hown : s.vm.findClass RX0 = some m.cls := findClass_of_methodNamed B.named
  have hlocks := B.notSynchronized
  have hS : va_S (awC ad) s.heap s.heap [] := va_S.rf
  have hl := lv_entry ([.ref (ad 3), .int (nI k), .int g, .int b]) (n := 4) (Nat.le_of_ble_eq_true rfl)
  rw [lg_entry_eq]
  generalize (lg_sl ([.ref (ad 3), .int (nI k), .int g, .int b]) ++ List.replicate (4 - (lg_sl ([.ref (ad 3), .int (nI k), .int g, .int b])).length) Slot.unset).toArray = ls at hl ⊢
  have hl : lv_has ls 4 [(0, .ref (ad 3)), (1, .int (nI k)), (2, .int g), (3, .int b)] := hl
  have hiX0 : ∀ w ∈ wsX00, w ∈ wsX0_join := by decide +kernel
  have hf15 := hts (.fieldLink RX0 15 "SettlementFund$ClaimBook" "grade" "[I") (by decide +kernel)
  have hmxs := hts (.static Lib.Math.max.name) (by decide +kernel)
  have hmxi := hts (.initialized "java/lang/Math") (by decide +kernel)
  have hmxc := hts (.code Lib.Math.max.name Lib.Math.max.code 2 (some .int)) (by decide +kernel)
  have hmxl := hts (.methodLink RX0 32 Lib.Math.max.name) (by decide +kernel)
  have hf18 := hts (.fieldLink RX0 18 "SettlementFund$ClaimBook" "state" "[I") (by decide +kernel)
  refine lv_aload_n hx hb dX0_join_0 rfl (lv_at hl 0 rfl) ?_
  refine gC_3_1 hx hb hts hiX0 hown hK hP hf15 dX0_join_1 ?_
  refine lv_iload_n hx hb dX0_join_4 rfl (lv_at hl 1 rfl) ?_
  refine lv_aload_n hx hb dX0_join_5 rfl (lv_at hl 0 rfl) ?_
  refine gC_3_1 hx hb hts hiX0 hown hK hP hf15 dX0_join_6 ?_
  refine lv_iload_n hx hb dX0_join_9 rfl (lv_at hl 1 rfl) ?_
  refine lC_5 hx hb hK hP (by omega) dX0_join_10 ?_
  refine lv_iload_n hx hb dX0_join_11 rfl (lv_at hl 2 rfl) ?_
  refine va_mmax hx hb (hml.trans hl.1.symm) hown hmxl hmxs hmxi hmxc (Nat.le_of_ble_eq_true rfl) (Nat.le_of_ble_eq_true rfl) (Nat.zero_le _) (Nat.zero_le _) dX0_join_12 ?_
  refine sC_5 hx hb hK hP hI (fun _ h => h) hS (by omega) dX0_join_15 (fun H locs hP hS => ?_)
  refine lv_iload_n hx hb dX0_join_16 rfl (lv_at hl 3 rfl) ?_
  refine lv_if_ne (tgt := 47) hx hb dX0_join_17 (by decide) (fun c_17 => ?_) (fun c_17 => ?_)
  · have e_1 : st = joinS st k b := by first | rfl | (simp [joinS, c_17]; done)
    rw [e_1] at hP
    have e_2 : upd gr k (if gr k < g then g else gr k) = upd gr k (maxI (gr k) g) := by first | rfl | (simp [joinS, c_17]; done)
    rw [e_2] at hP
    exact W.vret hx hb hr (fun t ht hW => ⟨⟨(), rfl, trivial, by (try dsimp only); rw [ht]; exact hP⟩, hS.F ht⟩) hS.2.2 dX0_join_47
  · refine lv_aload_n hx hb dX0_join_20 rfl (lv_at hl 0 rfl) ?_
    refine gC_3_2 hx hb hts hiX0 hown hK hP hf18 dX0_join_21 ?_
    refine lv_iload_n hx hb dX0_join_24 rfl (lv_at hl 1 rfl) ?_
    refine lC_6 hx hb hK hP (by omega) dX0_join_25 ?_
    refine lv_iconst (v := nI 1) hx hb dX0_join_26 (by decide) ?_
    refine lv_icmp_eq (tgt := 40) hx hb dX0_join_27 (by decide) (fun c_27 => ?_) (fun c_27 => ?_)
    · refine lv_aload_n hx hb dX0_join_40 rfl (lv_at hl 0 rfl) ?_
      refine gC_3_2 hx hb hts hiX0 hown hK hP hf18 dX0_join_41 ?_
      refine lv_iload_n hx hb dX0_join_44 rfl (lv_at hl 1 rfl) ?_
      refine lv_iconst (v := nI 0) hx hb dX0_join_45 (by decide) ?_
      refine sC_6 hx hb hK hP hI (fun _ h => h) hS (by omega) dX0_join_46 (fun H locs hP hS => ?_)
      have e_3 : upd st k (nI 0) = joinS st k b := by first | rfl | (simp [joinS, c_17, c_27]; done)
      rw [e_3] at hP
      have e_4 : upd gr k (if gr k < g then g else gr k) = upd gr k (maxI (gr k) g) := by first | rfl | (simp [joinS, c_17, c_27]; done)
      rw [e_4] at hP
      exact W.vret hx hb hr (fun t ht hW => ⟨⟨(), rfl, trivial, by (try dsimp only); rw [ht]; exact hP⟩, hS.F ht⟩) hS.2.2 dX0_join_47
    · refine lv_aload_n hx hb dX0_join_30 rfl (lv_at hl 0 rfl) ?_
      refine gC_3_2 hx hb hts hiX0 hown hK hP hf18 dX0_join_31 ?_
      refine lv_iload_n hx hb dX0_join_34 rfl (lv_at hl 1 rfl) ?_
      refine lC_6 hx hb hK hP (by omega) dX0_join_35 ?_
      refine lv_iconst (v := nI 2) hx hb dX0_join_36 (by decide) ?_
      refine lv_icmp_ne (tgt := 47) hx hb dX0_join_37 (by decide) (fun c_37 => ?_) (fun c_37 => ?_)
      · have e_5 : st = joinS st k b := by first | rfl | (simp [joinS, c_17, c_27, c_37]; done)
        rw [e_5] at hP
        have e_6 : upd gr k (if gr k < g then g else gr k) = upd gr k (maxI (gr k) g) := by first | rfl | (simp [joinS, c_17, c_27, c_37]; done)
        rw [e_6] at hP
        exact W.vret hx hb hr (fun t ht hW => ⟨⟨(), rfl, trivial, by (try dsimp only); rw [ht]; exact hP⟩, hS.F ht⟩) hS.2.2 dX0_join_47
      · refine lv_aload_n hx hb dX0_join_40 rfl (lv_at hl 0 rfl) ?_
        refine gC_3_2 hx hb hts hiX0 hown hK hP hf18 dX0_join_41 ?_
        refine lv_iload_n hx hb dX0_join_44 rfl (lv_at hl 1 rfl) ?_
        refine lv_iconst (v := nI 0) hx hb dX0_join_45 (by decide) ?_
        refine sC_6 hx hb hK hP hI (fun _ h => h) hS (by omega) dX0_join_46 (fun H locs hP hS => ?_)
        have e_7 : upd st k (nI 0) = joinS st k b := by first | rfl | (simp [joinS, c_17, c_27, c_37]; done)
        rw [e_7] at hP
        have e_8 : upd gr k (if gr k < g then g else gr k) = upd gr k (maxI (gr k) g) := by first | rfl | (simp [joinS, c_17, c_27, c_37]; done)
        rw [e_8] at hP
        exact W.vret hx hb hr (fun t ht hW => ⟨⟨(), rfl, trivial, by (try dsimp only); rw [ht]; exact hP⟩, hS.F ht⟩) hS.2.2 dX0_join_47
section
variable {p : Program} {e : Env} {R : Room} {s : State} {m : MethodId} {args : Array Value} {below : List Frame} {meth : Method} {c : Code} {H : Heap} {locs : List Loc} {cells slots : Nat} {Q : State → Prop} {cc : ByteArray} {pc : Nat} {ls : Array Slot} {rest : List Value} {own : String} {index nL : Nat} {Ts : List Cond} {H0 : Heap} {A0 : Nat → Prop}
theorem k_X0_join (l : Launch) {dC : Nat → ClassId} {dI : Nat → Nat → Nat} {cI cZ : ClassId} {ad : Nat → Nat} {sm fe ex dy : Int32} {gp gc op gr st dl wo : Nat → Int32} {n : Nat} {yc ya ys yd : Nat → Int32} {q : Nat} {zc zp zr zs zf : Nat → Int32} {z : Nat} {zm zt : Int64} {k : Nat} {g : Int32} {b : Int32} (hn : n ≤ 24) (hk : k < n) (hx : p.tables.exec = Jvm.exec) (hb : c.code = cc) (hml : c.maxLocals = nL) (hown : s.vm.findClass own = some m.cls) (hts : ∀ w ∈ Ts, w.before args s = true) (hK : va_K (dC, dI) vwCl [(cI, .int), (cZ, .boolean)] s) (hP : va_P (dC, dI) vwCl (wC cI cZ ad sm fe ex dy gp gc op gr st dl wo n yc ya ys yd q zc zp zr zs zf z zm zt) H) (hg9 : GoodIn Ts (wsV own index RX0 yX0_join wsX0_join)) (hR9 : 1 + 1 ≤ R.frames ∧ 8 + (4 + 11) + 21 ≤ R.locals) (hc9 : cells ≤ R.cells ∧ slots ≤ R.slots) (hl9 : ls.size = nL) (hw9 : (rest.map fun v => v.category).sum ≤ 8) (hdg : decode cc pc = .ok (.invokevirtual index, 3)) (hI : iwC ad) (hA : ∀ x, awC ad x → A0 x) (hS : va_S A0 H0 H locs) (kk : ∀ (H1 : Heap) (locs1 : List Loc), va_P (dC, dI) vwCl (wC cI cZ ad sm fe ex dy gp gc op (upd gr k (maxI (gr k) g)) (joinS st k b) dl wo n yc ya ys yd q zc zp zr zs zf z zm zt) H1 → va_S A0 H0 H1 locs1 → (∀ q : Nat, q < H.size → ¬ awC ad q → H1[q]? = H[q]?) → W p l e R s m args below meth c H1 locs1 cells slots Q (F0 m (pc + 3) ls (rest))) : W p l e R s m args below meth c H locs cells slots Q (F0 m pc ls (.int b :: .int g :: .int (nI k) :: .ref (ad 3) :: rest)) := va_callv (va_runV (As := [.int (nI k), .int g, .int b]) (rest := rest) ⟨hx, hb, hml, hown, hts⟩ (c_X0_join (dC := dC) (dI := dI) (cI := cI) (cZ := cZ) (ad := ad) (sm := sm) (fe := fe) (ex := ex) (dy := dy) (gp := gp) (gc := gc) (op := op) (gr := gr) (st := st) (dl := dl) (wo := wo) (n := n) (yc := yc) (ya := ya) (ys := ys) (yd := yd) (q := q) (zc := zc) (zp := zp) (zr := zr) (zs := zs) (zf := zf) (z := z) (zm := zm) (zt := zt) (k := k) (g := g) (b := b) l hI hn hk) (cwV 3 hts hg9 rfl rfl rfl (by decide +kernel) hR9) ⟨fun a U g mk q => ⟨q.1, q.2.1, va_K.moved (u := U) (U := U.calling g mk a) (Vm.Alike.refl U.vm) q.2.2⟩, rC_3 hK hP, fun U hU hW => ⟨rfl, by rw [hU]; exact hP, va_K.moved hW.alike hK⟩⟩ rfl rfl hl9 rfl (lv_room hw9) hdg hc9) hS (fun q _ h => hA q h) hA (fun u t H1 locs1 ht _ hu hB hz hk hS1 => kk H1 locs1 (by rw [ht] at hB; exact hB) hS1 hk)
end
set_option maxHeartbeats 4000000 in
set_option maxRecDepth 100000 in
theorem c_X0_denyLate (l : Launch) {dC : Nat → ClassId} {dI : Nat → Nat → Nat} {cI cZ : ClassId} {ad : Nat → Nat} {sm fe ex dy : Int32} {gp gc op gr st dl wo : Nat → Int32} {n : Nat} {yc ya ys yd : Nat → Int32} {q : Nat} {zc zp zr zs zf : Nat → Int32} {z : Nat} {zm zt : Int64} {d : Int32} (hI : iwC ad) (hn : n ≤ 24) : Met l yX0_denyLate wsX0_denyLate { frames := 0, cells := 0, slots := 0, locals := 0 } (va_Pc [.ref (ad 3), .int d] (fun U => va_P (dC, dI) vwCl (wC cI cZ ad sm fe ex dy gp gc op gr st dl wo n yc ya ys yd q zc zp zr zs zf z zm zt) U.heap ∧ va_K (dC, dI) vwCl [(cI, .int), (cZ, .boolean)] U)) (va_Qv (fun _ : Unit => True) (fun _ t => va_P (dC, dI) vwCl (wC cI cZ ad sm fe ex dy gp gc op gr (denyF st dl d n) dl wo n yc ya ys yd q zc zp zr zs zf z zm zt) t.heap) (awC ad)) 0 0 (awC ad) := by
  refine Met.ofW (cc := cX0_denyLate) (maxL := 3) (ret := none) (by decide) rfl ?_
  intro p e s m args below meth c s₁ B hml hv
  obtain ⟨rfl, hP, hK⟩ := hv
  have hx := B.exec
  have hb := B.bytes
  have hr := B.returns
  have hts := atoms_spec (ws := wsX0_denyLate) B.pre
  have hown : s.vm.findClass RX0 = some m.cls := findClass_of_methodNamed B.named
  have hlocks := B.notSynchronized
  have hS : va_S (awC ad) s.heap s.heap [] := va_S.rf
  have hl := lv_entry ([.ref (ad 3), .int d]) (n := 3) (Nat.le_of_ble_eq_true rfl)
  rw [lg_entry_eq]
  generalize (lg_sl ([.ref (ad 3), .int d]) ++ List.replicate (3 - (lg_sl ([.ref (ad 3), .int d])).length) Slot.unset).toArray = ls at hl ⊢
  have hl : lv_has ls 3 [(0, .ref (ad 3)), (1, .int d)] := hl
  have hiX0 : ∀ w ∈ wsX00, w ∈ wsX0_denyLate := by decide +kernel
  have hf28 := hts (.fieldLink RX0 28 "SettlementFund$ClaimBook" "size" "I") (by decide +kernel)
  have hf18 := hts (.fieldLink RX0 18 "SettlementFund$ClaimBook" "state" "[I") (by decide +kernel)
  have hf21 := hts (.fieldLink RX0 21 "SettlementFund$ClaimBook" "deadline" "[I") (by decide +kernel)
  refine lv_iconst (v := nI 0) hx hb dX0_denyLate_0 (by decide) ?_
  refine lv_istore_n (lv' := [(2, .int (nI 0)), (0, .ref (ad 3)), (1, .int d)]) hx hb dX0_denyLate_1 rfl hl (by decide) rfl (fun ls hl => ?_)
  have e_1 : st = denyF st dl d 0 := by first | rfl | (simp [denyF]; done) | rw [show n = i by omega]
  rw [e_1] at hP
  refine zl_rw (fun a9 : Nat => wC cI cZ ad sm fe ex dy gp gc op gr (denyF st dl d a9) dl wo n yc ya ys yd q zc zp zr zs zf z zm zt) (fun a9 : Nat => [(0, .ref (ad 3)), (1, .int d), (2, .int (nI a9))]) (fun a9 : Nat => a9 ≤ n) (fun a9 : Nat => n - a9) 0 (Nat.zero_le _) hP hS (lv_sub hl [1, 2, 0] rfl) ?_
  intro a9 hi_2 ih_2 H locs hP hS ls hl
  obtain ⟨i, rfl⟩ : ∃ z, z = a9 := ⟨_, rfl⟩
  have hi_2 : i ≤ n := hi_2
  have hl : lv_has ls 3 [(0, .ref (ad 3)), (1, .int d), (2, .int (nI i))] := hl
  have hP : va_P (dC, dI) vwCl (wC cI cZ ad sm fe ex dy gp gc op gr (denyF st dl d i) dl wo n yc ya ys yd q zc zp zr zs zf z zm zt) H := hP
  refine lv_iload_n hx hb dX0_denyLate_2 rfl (lv_at hl 2 rfl) ?_
  refine lv_aload_n hx hb dX0_denyLate_3 rfl (lv_at hl 0 rfl) ?_
  refine gC_3_5 hx hb hts hiX0 hown hK hP hf28 dX0_denyLate_4 ?_
  refine zb_ge (tgt := 43) hx hb (by omega) (by omega) dX0_denyLate_7 (by decide) (fun c_7 => ?_) (fun c_7 => ?_)
  · have e_2 : denyF st dl d i = denyF st dl d n := by first | rfl | (simp [denyF, c_7]; done) | rw [show n = i by omega]
    rw [e_2] at hP
    exact W.vret hx hb hr (fun t ht hW => ⟨⟨(), rfl, trivial, by (try dsimp only); rw [ht]; exact hP⟩, hS.F ht⟩) hS.2.2 dX0_denyLate_43
  · refine lv_aload_n hx hb dX0_denyLate_10 rfl (lv_at hl 0 rfl) ?_
    refine gC_3_2 hx hb hts hiX0 hown hK hP hf18 dX0_denyLate_11 ?_
    refine lv_iload_n hx hb dX0_denyLate_14 rfl (lv_at hl 2 rfl) ?_
    refine lC_6 hx hb hK hP (by omega) dX0_denyLate_15 ?_
    refine lv_iconst (v := nI 1) hx hb dX0_denyLate_16 (by decide) ?_
    refine lv_icmp_ne (tgt := 37) hx hb dX0_denyLate_17 (by decide) (fun c_17 => ?_) (fun c_17 => ?_)
    · refine lv_iinc (v := nI (i + 1)) (lv' := [(2, .int (nI (i + 1))), (0, .ref (ad 3)), (1, .int d)]) hx hb dX0_denyLate_37 hl (k := 2) rfl (zz_inc _) (by decide) rfl (fun ls hl => ?_)
      refine lv_goto (tgt := 2) hx hb dX0_denyLate_40 (by decide) ?_
      have e_3 : denyF st dl d i = denyF st dl d (i + 1) := by first | rfl | (simp [denyF, c_7, c_17]; done) | rw [show n = i by omega]
      rw [e_3] at hP
      exact ih_2 (i + 1) (by omega) (by omega) H locs hP hS ls (lv_sub hl [1, 2, 0] rfl)
    · refine lv_aload_n hx hb dX0_denyLate_20 rfl (lv_at hl 0 rfl) ?_
      refine gC_3_3 hx hb hts hiX0 hown hK hP hf21 dX0_denyLate_21 ?_
      refine lv_iload_n hx hb dX0_denyLate_24 rfl (lv_at hl 2 rfl) ?_
      refine lC_7 hx hb hK hP (by omega) dX0_denyLate_25 ?_
      refine lv_iload_n hx hb dX0_denyLate_26 rfl (lv_at hl 1 rfl) ?_
      refine lv_icmp_ge (tgt := 37) hx hb dX0_denyLate_27 (by decide) (fun c_27 => ?_) (fun c_27 => ?_)
      · refine lv_iinc (v := nI (i + 1)) (lv' := [(2, .int (nI (i + 1))), (0, .ref (ad 3)), (1, .int d)]) hx hb dX0_denyLate_37 hl (k := 2) rfl (zz_inc _) (by decide) rfl (fun ls hl => ?_)
        refine lv_goto (tgt := 2) hx hb dX0_denyLate_40 (by decide) ?_
        have e_4 : denyF st dl d i = denyF st dl d (i + 1) := by first | rfl | (simp [denyF, c_7, c_17, c_27]; done) | rw [show n = i by omega]
        rw [e_4] at hP
        exact ih_2 (i + 1) (by omega) (by omega) H locs hP hS ls (lv_sub hl [1, 2, 0] rfl)
      · refine lv_aload_n hx hb dX0_denyLate_30 rfl (lv_at hl 0 rfl) ?_
        refine gC_3_2 hx hb hts hiX0 hown hK hP hf18 dX0_denyLate_31 ?_
        refine lv_iload_n hx hb dX0_denyLate_34 rfl (lv_at hl 2 rfl) ?_
        refine lv_iconst (v := nI 2) hx hb dX0_denyLate_35 (by decide) ?_
        refine sC_6 hx hb hK hP hI (fun _ h => h) hS (by omega) dX0_denyLate_36 (fun H locs hP hS => ?_)
        refine lv_iinc (v := nI (i + 1)) (lv' := [(2, .int (nI (i + 1))), (0, .ref (ad 3)), (1, .int d)]) hx hb dX0_denyLate_37 hl (k := 2) rfl (zz_inc _) (by decide) rfl (fun ls hl => ?_)
        refine lv_goto (tgt := 2) hx hb dX0_denyLate_40 (by decide) ?_
        have e_5 : upd (denyF st dl d i) i (nI 2) = denyF st dl d (i + 1) := by first | rfl | (simp [denyF, c_7, c_17, c_27]; done) | rw [show n = i by omega]
        rw [e_5] at hP
        exact ih_2 (i + 1) (by omega) (by omega) H locs hP hS ls (lv_sub hl [1, 2, 0] rfl)
section
variable {p : Program} {e : Env} {R : Room} {s : State} {m : MethodId} {args : Array Value} {below : List Frame} {meth : Method} {c : Code} {H : Heap} {locs : List Loc} {cells slots : Nat} {Q : State → Prop} {cc : ByteArray} {pc : Nat} {ls : Array Slot} {rest : List Value} {own : String} {index nL : Nat} {Ts : List Cond} {H0 : Heap} {A0 : Nat → Prop}
theorem k_X0_denyLate (l : Launch) {dC : Nat → ClassId} {dI : Nat → Nat → Nat} {cI cZ : ClassId} {ad : Nat → Nat} {sm fe ex dy : Int32} {gp gc op gr st dl wo : Nat → Int32} {n : Nat} {yc ya ys yd : Nat → Int32} {q : Nat} {zc zp zr zs zf : Nat → Int32} {z : Nat} {zm zt : Int64} {d : Int32} (hn : n ≤ 24) (hx : p.tables.exec = Jvm.exec) (hb : c.code = cc) (hml : c.maxLocals = nL) (hown : s.vm.findClass own = some m.cls) (hts : ∀ w ∈ Ts, w.before args s = true) (hK : va_K (dC, dI) vwCl [(cI, .int), (cZ, .boolean)] s) (hP : va_P (dC, dI) vwCl (wC cI cZ ad sm fe ex dy gp gc op gr st dl wo n yc ya ys yd q zc zp zr zs zf z zm zt) H) (hg9 : GoodIn Ts (wsV own index RX0 yX0_denyLate wsX0_denyLate)) (hR9 : 0 + 1 ≤ R.frames ∧ 8 + (3 + 11) + 0 ≤ R.locals) (hc9 : cells ≤ R.cells ∧ slots ≤ R.slots) (hl9 : ls.size = nL) (hw9 : (rest.map fun v => v.category).sum ≤ 8) (hdg : decode cc pc = .ok (.invokevirtual index, 3)) (hI : iwC ad) (hA : ∀ x, awC ad x → A0 x) (hS : va_S A0 H0 H locs) (kk : ∀ (H1 : Heap) (locs1 : List Loc), va_P (dC, dI) vwCl (wC cI cZ ad sm fe ex dy gp gc op gr (denyF st dl d n) dl wo n yc ya ys yd q zc zp zr zs zf z zm zt) H1 → va_S A0 H0 H1 locs1 → (∀ q : Nat, q < H.size → ¬ awC ad q → H1[q]? = H[q]?) → W p l e R s m args below meth c H1 locs1 cells slots Q (F0 m (pc + 3) ls (rest))) : W p l e R s m args below meth c H locs cells slots Q (F0 m pc ls (.int d :: .ref (ad 3) :: rest)) := va_callv (va_runV (As := [.int d]) (rest := rest) ⟨hx, hb, hml, hown, hts⟩ (c_X0_denyLate (dC := dC) (dI := dI) (cI := cI) (cZ := cZ) (ad := ad) (sm := sm) (fe := fe) (ex := ex) (dy := dy) (gp := gp) (gc := gc) (op := op) (gr := gr) (st := st) (dl := dl) (wo := wo) (n := n) (yc := yc) (ya := ya) (ys := ys) (yd := yd) (q := q) (zc := zc) (zp := zp) (zr := zr) (zs := zs) (zf := zf) (z := z) (zm := zm) (zt := zt) (d := d) l hI hn) (cwV 1 hts hg9 rfl rfl rfl (by decide +kernel) hR9) ⟨fun a U g mk q => ⟨q.1, q.2.1, va_K.moved (u := U) (U := U.calling g mk a) (Vm.Alike.refl U.vm) q.2.2⟩, rC_3 hK hP, fun U hU hW => ⟨rfl, by rw [hU]; exact hP, va_K.moved hW.alike hK⟩⟩ rfl rfl hl9 rfl (lv_room hw9) hdg hc9) hS (fun q _ h => hA q h) hA (fun u t H1 locs1 ht _ hu hB hz hk hS1 => kk H1 locs1 (by rw [ht] at hB; exact hB) hS1 hk)
end
set_option maxHeartbeats 4000000 in
set_option maxRecDepth 100000 in
theorem c_X0_tally (l : Launch) {dC : Nat → ClassId} {dI : Nat → Nat → Nat} {cI cZ : ClassId} {ad : Nat → Nat} {sm fe ex dy : Int32} {gp gc op gr st dl wo : Nat → Int32} {n : Nat} {yc ya ys yd : Nat → Int32} {q : Nat} {zc zp zr zs zf : Nat → Int32} {z : Nat} {zm zt : Int64} {w : Int32} (hn : n ≤ 24) : Met l yX0_tally wsX0_tally { frames := 0, cells := 0, slots := 0, locals := 0 } (va_Pc [.ref (ad 3), .int w] (fun U => va_P (dC, dI) vwCl (wC cI cZ ad sm fe ex dy gp gc op gr st dl wo n yc ya ys yd q zc zp zr zs zf z zm zt) U.heap ∧ va_K (dC, dI) vwCl [(cI, .int), (cZ, .boolean)] U)) (vp_Si (fun r => r = nI (tallyN st w n))) 0 0 (fun _ => False) := by
  refine Met.ofW (cc := cX0_tally) (maxL := 4) (ret := (some .int)) (by decide) rfl ?_
  intro p e s m args below meth c s₁ B hml hv
  obtain ⟨rfl, hP, hK⟩ := hv
  have hx := B.exec
  have hb := B.bytes
  have hr := B.returns
  have hts := atoms_spec (ws := wsX0_tally) B.pre
  have hown : s.vm.findClass RX0 = some m.cls := findClass_of_methodNamed B.named
  have hlocks := B.notSynchronized
  have hl := lv_entry ([.ref (ad 3), .int w]) (n := 4) (Nat.le_of_ble_eq_true rfl)
  rw [lg_entry_eq]
  generalize (lg_sl ([.ref (ad 3), .int w]) ++ List.replicate (4 - (lg_sl ([.ref (ad 3), .int w])).length) Slot.unset).toArray = ls at hl ⊢
  have hl : lv_has ls 4 [(0, .ref (ad 3)), (1, .int w)] := hl
  have hiX0 : ∀ w ∈ wsX00, w ∈ wsX0_tally := by decide +kernel
  have hf28 := hts (.fieldLink RX0 28 "SettlementFund$ClaimBook" "size" "I") (by decide +kernel)
  have hf18 := hts (.fieldLink RX0 18 "SettlementFund$ClaimBook" "state" "[I") (by decide +kernel)
  refine lv_iconst (v := nI 0) hx hb dX0_tally_0 (by decide) ?_
  refine lv_istore_n (lv' := [(2, .int (nI 0)), (0, .ref (ad 3)), (1, .int w)]) hx hb dX0_tally_1 rfl hl (by decide) rfl (fun ls hl => ?_)
  refine lv_iconst (v := nI 0) hx hb dX0_tally_2 (by decide) ?_
  refine lv_istore_n (lv' := [(3, .int (nI 0)), (2, .int (nI 0)), (0, .ref (ad 3)), (1, .int w)]) hx hb dX0_tally_3 rfl hl (by decide) rfl (fun ls hl => ?_)
  have e_1 : nI 0 = nI (tallyN st w 0) := by first | rfl | (simp [tallyN]; done)
  rw [e_1] at hl
  refine zl_ro (fun a9 : Nat => [(0, .ref (ad 3)), (1, .int w), (2, .int (nI (tallyN st w a9))), (3, .int (nI a9))]) (fun a9 : Nat => a9 ≤ n) (fun a9 : Nat => n - a9) 0 (Nat.zero_le _) (lv_sub hl [2, 3, 1, 0] rfl) ?_
  intro a9 hi_4 ih_4 ls hl
  obtain ⟨i, rfl⟩ : ∃ z, z = a9 := ⟨_, rfl⟩
  have hi_4 : i ≤ n := hi_4
  have hl : lv_has ls 4 [(0, .ref (ad 3)), (1, .int w), (2, .int (nI (tallyN st w i))), (3, .int (nI i))] := hl
  refine lv_iload_n hx hb dX0_tally_4 rfl (lv_at hl 3 rfl) ?_
  refine lv_aload_n hx hb dX0_tally_5 rfl (lv_at hl 0 rfl) ?_
  refine gC_3_5 hx hb hts hiX0 hown hK hP hf28 dX0_tally_6 ?_
  refine zb_ge (tgt := 31) hx hb (by omega) (by omega) dX0_tally_9 (by decide) (fun c_9 => ?_) (fun c_9 => ?_)
  · refine lv_iload_n hx hb dX0_tally_31 rfl (lv_at hl 2 rfl) ?_
    exact W.iret (v := nI (tallyN st w i)) hx hb hr (fun t ht hW => ⟨nI (tallyN st w i), rfl, by rw [show n = i by omega], ht⟩) (fun _ h => nomatch h) dX0_tally_32
  · refine lv_aload_n hx hb dX0_tally_12 rfl (lv_at hl 0 rfl) ?_
    refine gC_3_2 hx hb hts hiX0 hown hK hP hf18 dX0_tally_13 ?_
    refine lv_iload_n hx hb dX0_tally_16 rfl (lv_at hl 3 rfl) ?_
    refine lC_6 hx hb hK hP (by omega) dX0_tally_17 ?_
    refine lv_iload_n hx hb dX0_tally_18 rfl (lv_at hl 1 rfl) ?_
    refine lv_icmp_ne (tgt := 25) hx hb dX0_tally_19 (by decide) (fun c_19 => ?_) (fun c_19 => ?_)
    · refine lv_iinc (v := nI (i + 1)) (lv' := [(3, .int (nI (i + 1))), (0, .ref (ad 3)), (1, .int w), (2, .int (nI (tallyN st w i)))]) hx hb dX0_tally_25 hl (k := 3) rfl (zz_inc _) (by decide) rfl (fun ls hl => ?_)
      refine lv_goto (tgt := 4) hx hb dX0_tally_28 (by decide) ?_
      have e_2 : nI (tallyN st w i) = nI (tallyN st w (i + 1)) := by first | rfl | (simp [tallyN, c_9, c_19]; done)
      rw [e_2] at hl
      exact ih_4 (i + 1) (by omega) (by omega) ls (lv_sub hl [1, 2, 3, 0] rfl)
    · refine lv_iinc (v := nI (tallyN st w i + 1)) (lv' := [(2, .int (nI (tallyN st w i + 1))), (0, .ref (ad 3)), (1, .int w), (3, .int (nI i))]) hx hb dX0_tally_22 hl (k := 2) rfl (zz_inc _) (by decide) rfl (fun ls hl => ?_)
      refine lv_iinc (v := nI (i + 1)) (lv' := [(3, .int (nI (i + 1))), (2, .int (nI (tallyN st w i + 1))), (0, .ref (ad 3)), (1, .int w)]) hx hb dX0_tally_25 hl (k := 3) rfl (zz_inc _) (by decide) rfl (fun ls hl => ?_)
      refine lv_goto (tgt := 4) hx hb dX0_tally_28 (by decide) ?_
      have e_3 : nI (tallyN st w i + 1) = nI (tallyN st w (i + 1)) := by first | rfl | (simp [tallyN, c_9, c_19]; done)
      rw [e_3] at hl
      exact ih_4 (i + 1) (by omega) (by omega) ls (lv_sub hl [2, 3, 1, 0] rfl)
section
variable {p : Program} {e : Env} {R : Room} {s : State} {m : MethodId} {args : Array Value} {below : List Frame} {meth : Method} {c : Code} {H : Heap} {locs : List Loc} {cells slots : Nat} {Q : State → Prop} {cc : ByteArray} {pc : Nat} {ls : Array Slot} {rest : List Value} {own : String} {index nL : Nat} {Ts : List Cond} {H0 : Heap} {A0 : Nat → Prop}
theorem k_X0_tally (l : Launch) {dC : Nat → ClassId} {dI : Nat → Nat → Nat} {cI cZ : ClassId} {ad : Nat → Nat} {sm fe ex dy : Int32} {gp gc op gr st dl wo : Nat → Int32} {n : Nat} {yc ya ys yd : Nat → Int32} {q : Nat} {zc zp zr zs zf : Nat → Int32} {z : Nat} {zm zt : Int64} {w : Int32} (hn : n ≤ 24) (hx : p.tables.exec = Jvm.exec) (hb : c.code = cc) (hml : c.maxLocals = nL) (hown : s.vm.findClass own = some m.cls) (hts : ∀ w ∈ Ts, w.before args s = true) (hK : va_K (dC, dI) vwCl [(cI, .int), (cZ, .boolean)] s) (hP : va_P (dC, dI) vwCl (wC cI cZ ad sm fe ex dy gp gc op gr st dl wo n yc ya ys yd q zc zp zr zs zf z zm zt) H) (hg9 : GoodIn Ts (wsV own index RX0 yX0_tally wsX0_tally)) (hR9 : 0 + 1 ≤ R.frames ∧ 8 + (4 + 11) + 0 ≤ R.locals) (hc9 : cells ≤ R.cells ∧ slots ≤ R.slots) (hl9 : ls.size = nL) (hw9 : (rest.map fun v => v.category).sum ≤ 8) (hdg : decode cc pc = .ok (.invokevirtual index, 3)) (kk : W p l e R s m args below meth c H locs cells slots Q (F0 m (pc + 3) ls (.int (nI (tallyN st w n)) :: rest))) : W p l e R s m args below meth c H locs cells slots Q (F0 m pc ls (.int w :: .ref (ad 3) :: rest)) := zc_ro (W.runV (As := [.int w]) (rest := rest) ⟨hx, hb, hml, hown, hts⟩ (c_X0_tally (dC := dC) (dI := dI) (cI := cI) (cZ := cZ) (ad := ad) (sm := sm) (fe := fe) (ex := ex) (dy := dy) (gp := gp) (gc := gc) (op := op) (gr := gr) (st := st) (dl := dl) (wo := wo) (n := n) (yc := yc) (ya := ya) (ys := ys) (yd := yd) (q := q) (zc := zc) (zp := zp) (zr := zr) (zs := zs) (zf := zf) (z := z) (zm := zm) (zt := zt) (w := w) l hn) (cwV 1 hts hg9 rfl rfl rfl (by decide +kernel) hR9) ⟨fun a U g mk q => ⟨q.1, q.2.1, va_K.moved (u := U) (U := U.calling g mk a) (Vm.Alike.refl U.vm) q.2.2⟩, rC_3 hK hP, fun U hU hW => ⟨rfl, by rw [hU]; exact hP, va_K.moved hW.alike hK⟩⟩ rfl rfl hl9 rfl (lv_room hw9) hdg hc9) (fun r h => by subst h; exact kk)
end
