/-! plain functions: the fund -/
theorem zz_if_f {b : Bool} (h : (if b = true then 1 else 0) = 0) : b = false := by cases b <;> simp_all
theorem zz_if_t {b : Bool} (h : (if b = true then 1 else 0) ≠ 0) : b = true := by cases b <;> simp_all
def outN (x a b : Int32) : Nat := if x < a then 1 else if x ≤ b then 0 else 1
theorem outN_lt (x a b : Int32) : outN x a b < 2 ^ 31 := by unfold outN; split <;> (try split) <;> decide
def gN (gr : Nat → Int32) (k : Nat) : Nat := (gr k).toNatClampNeg
def feeF (sm fe : Int32) : Int32 := (sm.toInt64 * fe.toInt64 / lN 1000).toInt32
def leftF (sm fe ex : Int32) (ya ys : Nat → Int32) (q : Nat) : Int32 := sm - feeF sm fe - ex - sumAllI ya ys q
def roomF (gc gr yc ya ys : Nat → Int32) (q k : Nat) : Int32 := if 0 ≤ gc (gN gr k) - sumForI yc ya ys (nI k) q then gc (gN gr k) - sumForI yc ya ys (nI k) q else nI 0
def takeB (gc gr st yc ya ys : Nat → Int32) (q k : Nat) : Bool := decide (st k = 0) && (decide (¬ roomF gc gr yc ya ys q k ≤ 0) && !vdB yc ys (nI k) q)
def faultS (b : Int32) : Int32 := if b = 0 then nI 0 else nI 1
def goodS (b : Int32) : Int32 := if b = 0 then nI 2 else nI 0

set_option maxHeartbeats 4000000 in
set_option maxRecDepth 100000 in
theorem c_X3_isOutside (l : Launch) {x : Int32} {a : Int32} {b : Int32}  : Met l yX3_isOutside wsX3_isOutside { frames := 0, cells := 0, slots := 0, locals := 0 } (va_Pc [.int x, .int a, .int b] (fun _ => True)) (vp_Si (fun r => r = nI (outN x a b))) 0 0 (fun _ => False) := by
  refine Met.ofW (cc := cX3_isOutside) (maxL := 3) (ret := (some .boolean)) (by decide) rfl ?_
  intro p e s m args below meth c s₁ B hml hv
  obtain ⟨rfl, -⟩ := hv
  have hx := B.exec
  have hb := B.bytes
  have hr := B.returns
  have hts := atoms_spec (ws := wsX3_isOutside) B.pre
  have hown : s.vm.findClass RX3 = some m.cls := findClass_of_methodNamed B.named
  have hlocks := B.notSynchronized
  have hl := lv_entry ([.int x, .int a, .int b]) (n := 3) (Nat.le_of_ble_eq_true rfl)
  rw [lg_entry_eq]
  generalize (lg_sl ([.int x, .int a, .int b]) ++ List.replicate (3 - (lg_sl ([.int x, .int a, .int b])).length) Slot.unset).toArray = ls at hl ⊢
  have hl : lv_has ls 3 [(0, .int x), (1, .int a), (2, .int b)] := hl
  refine lv_iload_n hx hb dX3_isOutside_0 rfl (lv_at hl 0 rfl) ?_
  refine lv_iload_n hx hb dX3_isOutside_1 rfl (lv_at hl 1 rfl) ?_
  refine lv_icmp_lt (tgt := 10) hx hb dX3_isOutside_2 (by decide) (fun c_2 => ?_) (fun c_2 => ?_)
  · refine lv_iconst (v := nI 1) hx hb dX3_isOutside_10 (by decide) ?_
    refine lv_goto (tgt := 15) hx hb dX3_isOutside_11 (by decide) ?_
    exact W.zret (v := nI 1) hx hb hr (rfl) (fun t ht hW => ⟨nI 1, rfl, by first | rfl | (rw [if_pos (by omega)]; done) | (rw [if_neg (by omega)]; done) | (simp [outN, c_2]; done), ht⟩) (fun _ h => nomatch h) dX3_isOutside_15
  · refine lv_iload_n hx hb dX3_isOutside_5 rfl (lv_at hl 0 rfl) ?_
    refine lv_iload_n hx hb dX3_isOutside_6 rfl (lv_at hl 2 rfl) ?_
    refine lv_icmp_le (tgt := 14) hx hb dX3_isOutside_7 (by decide) (fun c_7 => ?_) (fun c_7 => ?_)
    · refine lv_iconst (v := nI 0) hx hb dX3_isOutside_14 (by decide) ?_
      exact W.zret (v := nI 0) hx hb hr (rfl) (fun t ht hW => ⟨nI 0, rfl, by first | rfl | (rw [if_pos (by omega)]; done) | (rw [if_neg (by omega)]; done) | (simp [outN, c_2, c_7]; done), ht⟩) (fun _ h => nomatch h) dX3_isOutside_15
    · refine lv_iconst (v := nI 1) hx hb dX3_isOutside_10 (by decide) ?_
      refine lv_goto (tgt := 15) hx hb dX3_isOutside_11 (by decide) ?_
      exact W.zret (v := nI 1) hx hb hr (rfl) (fun t ht hW => ⟨nI 1, rfl, by first | rfl | (rw [if_pos (by omega)]; done) | (rw [if_neg (by omega)]; done) | (simp [outN, c_2, c_7]; done), ht⟩) (fun _ h => nomatch h) dX3_isOutside_15
section
variable {p : Program} {e : Env} {R : Room} {s : State} {m : MethodId} {args : Array Value} {below : List Frame} {meth : Method} {c : Code} {H : Heap} {locs : List Loc} {cells slots : Nat} {Q : State → Prop} {cc : ByteArray} {pc : Nat} {ls : Array Slot} {rest : List Value} {own : String} {index nL : Nat} {Ts : List Cond} {H0 : Heap} {A0 : Nat → Prop}
theorem k_X3_isOutside (l : Launch) {x : Int32} {a : Int32} {b : Int32}  (hx : p.tables.exec = Jvm.exec) (hb : c.code = cc) (hml : c.maxLocals = nL) (hown : s.vm.findClass own = some m.cls) (hts : ∀ w ∈ Ts, w.before args s = true) (hg9 : GoodIn Ts (va_wsS own index yX3_isOutside wsX3_isOutside)) (hR9 : 0 + 1 ≤ R.frames ∧ 8 + (3 + 11) + 0 ≤ R.locals) (hc9 : cells ≤ R.cells ∧ slots ≤ R.slots) (hl9 : ls.size = nL) (hw9 : (rest.map fun v => v.category).sum ≤ 8) (hdg : decode cc pc = .ok (.invokestatic index, 3)) (kk : W p l e R s m args below meth c H locs cells slots Q (F0 m (pc + 3) ls (.int (nI (outN x a b)) :: rest))) : W p l e R s m args below meth c H locs cells slots Q (F0 m pc ls (.int b :: .int a :: .int x :: rest)) := zc_ro (W.runS (As := [.int x, .int a, .int b]) (rest := rest) ⟨hx, hb, hml, hown, hts⟩ (c_X3_isOutside (x := x) (a := a) (b := b) l ) (va_cwS 3 hts hg9 rfl rfl rfl (by decide +kernel) hR9) ⟨fun a U g mk q => q, fun U hU hW => ⟨rfl, trivial⟩⟩ rfl rfl hl9 rfl (lv_room hw9) hdg hc9) (fun r h => by subst h; exact kk)
end
set_option maxHeartbeats 4000000 in
set_option maxRecDepth 100000 in
theorem c_X3_valueAt_gp (l : Launch) {dC : Nat → ClassId} {dI : Nat → Nat → Nat} {cI cZ : ClassId} {ad : Nat → Nat} {sm fe ex dy : Int32} {gp gc op gr st dl wo : Nat → Int32} {n : Nat} {yc ya ys yd : Nat → Int32} {q : Nat} {zc zp zr zs zf : Nat → Int32} {z : Nat} {zm zt : Int64} {j : Nat} (hj : j < 5) : Met l yX3_valueAt wsX3_valueAt { frames := 0, cells := 0, slots := 0, locals := 0 } (va_Pc [.ref (ad 1), .int (nI j)] (fun U => va_P (dC, dI) vwCl (wC cI cZ ad sm fe ex dy gp gc op gr st dl wo n yc ya ys yd q zc zp zr zs zf z zm zt) U.heap ∧ va_K (dC, dI) vwCl [(cI, .int), (cZ, .boolean)] U)) (vp_Si (fun r => r = gp j)) 0 0 (fun _ => False) := by
  refine Met.ofW (cc := cX3_valueAt) (maxL := 2) (ret := (some .int)) (by decide) rfl ?_
  intro p e s m args below meth c s₁ B hml hv
  obtain ⟨rfl, hP, hK⟩ := hv
  have hx := B.exec
  have hb := B.bytes
  have hr := B.returns
  have hts := atoms_spec (ws := wsX3_valueAt) B.pre
  have hown : s.vm.findClass RX3 = some m.cls := findClass_of_methodNamed B.named
  have hlocks := B.notSynchronized
  have hl := lv_entry ([.ref (ad 1), .int (nI j)]) (n := 2) (Nat.le_of_ble_eq_true rfl)
  rw [lg_entry_eq]
  generalize (lg_sl ([.ref (ad 1), .int (nI j)]) ++ List.replicate (2 - (lg_sl ([.ref (ad 1), .int (nI j)])).length) Slot.unset).toArray = ls at hl ⊢
  have hl : lv_has ls 2 [(0, .ref (ad 1)), (1, .int (nI j))] := hl
  refine lv_iload_n hx hb dX3_valueAt_0 rfl (lv_at hl 1 rfl) ?_
  refine zi_lt (tgt := 16) hx hb (by omega) dX3_valueAt_1 (by decide) (fun c_1 => (show False by exact c_1).elim) (fun c_1 => ?_)
  refine lv_iload_n hx hb dX3_valueAt_4 rfl (lv_at hl 1 rfl) ?_
  refine lv_aload_n hx hb dX3_valueAt_5 rfl (lv_at hl 0 rfl) ?_
  refine va_alen (v := nI 5) hx hb hK hP 1 0 rfl rfl rfl dX3_valueAt_6 ?_
  refine zb_ge (tgt := 16) hx hb (by omega) (by decide) dX3_valueAt_7 (by decide) (fun c_7 => (show False by omega).elim) (fun c_7 => ?_)
  refine lv_aload_n hx hb dX3_valueAt_10 rfl (lv_at hl 0 rfl) ?_
  refine lv_iload_n hx hb dX3_valueAt_11 rfl (lv_at hl 1 rfl) ?_
  refine lC_1 hx hb hK hP (by omega) dX3_valueAt_12 ?_
  refine lv_goto (tgt := 17) hx hb dX3_valueAt_13 (by decide) ?_
  exact W.iret (v := gp j) hx hb hr (fun t ht hW => ⟨gp j, rfl, rfl, ht⟩) (fun _ h => nomatch h) dX3_valueAt_17
section
variable {p : Program} {e : Env} {R : Room} {s : State} {m : MethodId} {args : Array Value} {below : List Frame} {meth : Method} {c : Code} {H : Heap} {locs : List Loc} {cells slots : Nat} {Q : State → Prop} {cc : ByteArray} {pc : Nat} {ls : Array Slot} {rest : List Value} {own : String} {index nL : Nat} {Ts : List Cond} {H0 : Heap} {A0 : Nat → Prop}
theorem k_X3_valueAt_gp (l : Launch) {dC : Nat → ClassId} {dI : Nat → Nat → Nat} {cI cZ : ClassId} {ad : Nat → Nat} {sm fe ex dy : Int32} {gp gc op gr st dl wo : Nat → Int32} {n : Nat} {yc ya ys yd : Nat → Int32} {q : Nat} {zc zp zr zs zf : Nat → Int32} {z : Nat} {zm zt : Int64} {j : Nat} (hj : j < 5) (hx : p.tables.exec = Jvm.exec) (hb : c.code = cc) (hml : c.maxLocals = nL) (hown : s.vm.findClass own = some m.cls) (hts : ∀ w ∈ Ts, w.before args s = true) (hK : va_K (dC, dI) vwCl [(cI, .int), (cZ, .boolean)] s) (hP : va_P (dC, dI) vwCl (wC cI cZ ad sm fe ex dy gp gc op gr st dl wo n yc ya ys yd q zc zp zr zs zf z zm zt) H) (hg9 : GoodIn Ts (va_wsS own index yX3_valueAt wsX3_valueAt)) (hR9 : 0 + 1 ≤ R.frames ∧ 8 + (2 + 11) + 0 ≤ R.locals) (hc9 : cells ≤ R.cells ∧ slots ≤ R.slots) (hl9 : ls.size = nL) (hw9 : (rest.map fun v => v.category).sum ≤ 8) (hdg : decode cc pc = .ok (.invokestatic index, 3)) (kk : W p l e R s m args below meth c H locs cells slots Q (F0 m (pc + 3) ls (.int (gp j) :: rest))) : W p l e R s m args below meth c H locs cells slots Q (F0 m pc ls (.int (nI j) :: .ref (ad 1) :: rest)) := zc_ro (W.runS (As := [.ref (ad 1), .int (nI j)]) (rest := rest) ⟨hx, hb, hml, hown, hts⟩ (c_X3_valueAt_gp (dC := dC) (dI := dI) (cI := cI) (cZ := cZ) (ad := ad) (sm := sm) (fe := fe) (ex := ex) (dy := dy) (gp := gp) (gc := gc) (op := op) (gr := gr) (st := st) (dl := dl) (wo := wo) (n := n) (yc := yc) (ya := ya) (ys := ys) (yd := yd) (q := q) (zc := zc) (zp := zp) (zr := zr) (zs := zs) (zf := zf) (z := z) (zm := zm) (zt := zt) (j := j) l hj) (va_cwS 2 hts hg9 rfl rfl rfl (by decide +kernel) hR9) ⟨fun a U g mk q => ⟨q.1, q.2.1, va_K.moved (u := U) (U := U.calling g mk a) (Vm.Alike.refl U.vm) q.2.2⟩, fun U hU hW => ⟨rfl, by rw [hU]; exact hP, va_K.moved hW.alike hK⟩⟩ rfl rfl hl9 rfl (lv_room hw9) hdg hc9) (fun r h => by subst h; exact kk)
end
set_option maxHeartbeats 4000000 in
set_option maxRecDepth 100000 in
theorem c_X3_valueAt_gc (l : Launch) {dC : Nat → ClassId} {dI : Nat → Nat → Nat} {cI cZ : ClassId} {ad : Nat → Nat} {sm fe ex dy : Int32} {gp gc op gr st dl wo : Nat → Int32} {n : Nat} {yc ya ys yd : Nat → Int32} {q : Nat} {zc zp zr zs zf : Nat → Int32} {z : Nat} {zm zt : Int64} {j : Nat} (hj : j < 5) : Met l yX3_valueAt wsX3_valueAt { frames := 0, cells := 0, slots := 0, locals := 0 } (va_Pc [.ref (ad 2), .int (nI j)] (fun U => va_P (dC, dI) vwCl (wC cI cZ ad sm fe ex dy gp gc op gr st dl wo n yc ya ys yd q zc zp zr zs zf z zm zt) U.heap ∧ va_K (dC, dI) vwCl [(cI, .int), (cZ, .boolean)] U)) (vp_Si (fun r => r = gc j)) 0 0 (fun _ => False) := by
  refine Met.ofW (cc := cX3_valueAt) (maxL := 2) (ret := (some .int)) (by decide) rfl ?_
  intro p e s m args below meth c s₁ B hml hv
  obtain ⟨rfl, hP, hK⟩ := hv
  have hx := B.exec
  have hb := B.bytes
  have hr := B.returns
  have hts := atoms_spec (ws := wsX3_valueAt) B.pre
  have hown : s.vm.findClass RX3 = some m.cls := findClass_of_methodNamed B.named
  have hlocks := B.notSynchronized
  have hl := lv_entry ([.ref (ad 2), .int (nI j)]) (n := 2) (Nat.le_of_ble_eq_true rfl)
  rw [lg_entry_eq]
  generalize (lg_sl ([.ref (ad 2), .int (nI j)]) ++ List.replicate (2 - (lg_sl ([.ref (ad 2), .int (nI j)])).length) Slot.unset).toArray = ls at hl ⊢
  have hl : lv_has ls 2 [(0, .ref (ad 2)), (1, .int (nI j))] := hl
  refine lv_iload_n hx hb dX3_valueAt_0 rfl (lv_at hl 1 rfl) ?_
  refine zi_lt (tgt := 16) hx hb (by omega) dX3_valueAt_1 (by decide) (fun c_1 => (show False by exact c_1).elim) (fun c_1 => ?_)
  refine lv_iload_n hx hb dX3_valueAt_4 rfl (lv_at hl 1 rfl) ?_
  refine lv_aload_n hx hb dX3_valueAt_5 rfl (lv_at hl 0 rfl) ?_
  refine va_alen (v := nI 5) hx hb hK hP 2 0 rfl rfl rfl dX3_valueAt_6 ?_
  refine zb_ge (tgt := 16) hx hb (by omega) (by decide) dX3_valueAt_7 (by decide) (fun c_7 => (show False by omega).elim) (fun c_7 => ?_)
  refine lv_aload_n hx hb dX3_valueAt_10 rfl (lv_at hl 0 rfl) ?_
  refine lv_iload_n hx hb dX3_valueAt_11 rfl (lv_at hl 1 rfl) ?_
  refine lC_2 hx hb hK hP (by omega) dX3_valueAt_12 ?_
  refine lv_goto (tgt := 17) hx hb dX3_valueAt_13 (by decide) ?_
  exact W.iret (v := gc j) hx hb hr (fun t ht hW => ⟨gc j, rfl, rfl, ht⟩) (fun _ h => nomatch h) dX3_valueAt_17
section
variable {p : Program} {e : Env} {R : Room} {s : State} {m : MethodId} {args : Array Value} {below : List Frame} {meth : Method} {c : Code} {H : Heap} {locs : List Loc} {cells slots : Nat} {Q : State → Prop} {cc : ByteArray} {pc : Nat} {ls : Array Slot} {rest : List Value} {own : String} {index nL : Nat} {Ts : List Cond} {H0 : Heap} {A0 : Nat → Prop}
theorem k_X3_valueAt_gc (l : Launch) {dC : Nat → ClassId} {dI : Nat → Nat → Nat} {cI cZ : ClassId} {ad : Nat → Nat} {sm fe ex dy : Int32} {gp gc op gr st dl wo : Nat → Int32} {n : Nat} {yc ya ys yd : Nat → Int32} {q : Nat} {zc zp zr zs zf : Nat → Int32} {z : Nat} {zm zt : Int64} {j : Nat} (hj : j < 5) (hx : p.tables.exec = Jvm.exec) (hb : c.code = cc) (hml : c.maxLocals = nL) (hown : s.vm.findClass own = some m.cls) (hts : ∀ w ∈ Ts, w.before args s = true) (hK : va_K (dC, dI) vwCl [(cI, .int), (cZ, .boolean)] s) (hP : va_P (dC, dI) vwCl (wC cI cZ ad sm fe ex dy gp gc op gr st dl wo n yc ya ys yd q zc zp zr zs zf z zm zt) H) (hg9 : GoodIn Ts (va_wsS own index yX3_valueAt wsX3_valueAt)) (hR9 : 0 + 1 ≤ R.frames ∧ 8 + (2 + 11) + 0 ≤ R.locals) (hc9 : cells ≤ R.cells ∧ slots ≤ R.slots) (hl9 : ls.size = nL) (hw9 : (rest.map fun v => v.category).sum ≤ 8) (hdg : decode cc pc = .ok (.invokestatic index, 3)) (kk : W p l e R s m args below meth c H locs cells slots Q (F0 m (pc + 3) ls (.int (gc j) :: rest))) : W p l e R s m args below meth c H locs cells slots Q (F0 m pc ls (.int (nI j) :: .ref (ad 2) :: rest)) := zc_ro (W.runS (As := [.ref (ad 2), .int (nI j)]) (rest := rest) ⟨hx, hb, hml, hown, hts⟩ (c_X3_valueAt_gc (dC := dC) (dI := dI) (cI := cI) (cZ := cZ) (ad := ad) (sm := sm) (fe := fe) (ex := ex) (dy := dy) (gp := gp) (gc := gc) (op := op) (gr := gr) (st := st) (dl := dl) (wo := wo) (n := n) (yc := yc) (ya := ya) (ys := ys) (yd := yd) (q := q) (zc := zc) (zp := zp) (zr := zr) (zs := zs) (zf := zf) (z := z) (zm := zm) (zt := zt) (j := j) l hj) (va_cwS 2 hts hg9 rfl rfl rfl (by decide +kernel) hR9) ⟨fun a U g mk q => ⟨q.1, q.2.1, va_K.moved (u := U) (U := U.calling g mk a) (Vm.Alike.refl U.vm) q.2.2⟩, fun U hU hW => ⟨rfl, by rw [hU]; exact hP, va_K.moved hW.alike hK⟩⟩ rfl rfl hl9 rfl (lv_room hw9) hdg hc9) (fun r h => by subst h; exact kk)
end
set_option maxHeartbeats 4000000 in
set_option maxRecDepth 100000 in
theorem c_X3_fee (l : Launch) {dC : Nat → ClassId} {dI : Nat → Nat → Nat} {cI cZ : ClassId} {ad : Nat → Nat} {sm fe ex dy : Int32} {gp gc op gr st dl wo : Nat → Int32} {n : Nat} {yc ya ys yd : Nat → Int32} {q : Nat} {zc zp zr zs zf : Nat → Int32} {z : Nat} {zm zt : Int64}   : Met l yX3_fee wsX3_fee { frames := 0, cells := 0, slots := 0, locals := 0 } (va_Pc [.ref (ad 0)] (fun U => va_P (dC, dI) vwCl (wC cI cZ ad sm fe ex dy gp gc op gr st dl wo n yc ya ys yd q zc zp zr zs zf z zm zt) U.heap ∧ va_K (dC, dI) vwCl [(cI, .int), (cZ, .boolean)] U)) (vp_Si (fun r => r = feeF sm fe)) 0 0 (fun _ => False) := by
  refine Met.ofW (cc := cX3_fee) (maxL := 1) (ret := (some .int)) (by decide) rfl ?_
  intro p e s m args below meth c s₁ B hml hv
  obtain ⟨rfl, hP, hK⟩ := hv
  have hx := B.exec
  have hb := B.bytes
  have hr := B.returns
  have hts := atoms_spec (ws := wsX3_fee) B.pre
  have hown : s.vm.findClass RX3 = some m.cls := findClass_of_methodNamed B.named
  have hlocks := B.notSynchronized
  have hl := lv_entry ([.ref (ad 0)]) (n := 1) (Nat.le_of_ble_eq_true rfl)
  rw [lg_entry_eq]
  generalize (lg_sl ([.ref (ad 0)]) ++ List.replicate (1 - (lg_sl ([.ref (ad 0)])).length) Slot.unset).toArray = ls at hl ⊢
  have hl : lv_has ls 1 [(0, .ref (ad 0))] := hl
  have hiX3 : ∀ w ∈ wsX30, w ∈ wsX3_fee := by decide +kernel
  have hf53 := hts (.fieldLink RX3 53 "SettlementFund" "sum" "I") (by decide +kernel)
  have hf57 := hts (.fieldLink RX3 57 "SettlementFund" "feeInThousandths" "I") (by decide +kernel)
  have hk196 := hts (.constantLong RX3 196 1000) (by decide +kernel)
  refine lv_aload_n hx hb dX3_fee_0 rfl (lv_at hl 0 rfl) ?_
  refine gC_0_0 hx hb hts hiX3 hown hK hP hf53 dX3_fee_1 ?_
  refine lv_i2l (v := sm.toInt64) hx hb dX3_fee_4 rfl ?_
  refine lv_aload_n hx hb dX3_fee_5 rfl (lv_at hl 0 rfl) ?_
  refine gC_0_1 hx hb hts hiX3 hown hK hP hf57 dX3_fee_6 ?_
  refine lv_i2l (v := fe.toInt64) hx hb dX3_fee_9 rfl ?_
  refine lv_lmul hx hb dX3_fee_10 ?_
  refine lv_ldc2 hx hb hown hk196 dX3_fee_11 ?_
  refine zt_l (y := lN 1000) rfl ?_
  refine lv_ldiv hx hb dX3_fee_14 (by decide) ?_
  refine lv_l2i (v := ((sm.toInt64 * fe.toInt64) / (lN 1000)).toInt32) hx hb dX3_fee_15 rfl ?_
  exact W.iret (v := ((sm.toInt64 * fe.toInt64) / (lN 1000)).toInt32) hx hb hr (fun t ht hW => ⟨((sm.toInt64 * fe.toInt64) / (lN 1000)).toInt32, rfl, by first | rfl | (rw [if_pos (by omega)]; done) | (rw [if_neg (by omega)]; done) | (simp []; done), ht⟩) (fun _ h => nomatch h) dX3_fee_16
section
variable {p : Program} {e : Env} {R : Room} {s : State} {m : MethodId} {args : Array Value} {below : List Frame} {meth : Method} {c : Code} {H : Heap} {locs : List Loc} {cells slots : Nat} {Q : State → Prop} {cc : ByteArray} {pc : Nat} {ls : Array Slot} {rest : List Value} {own : String} {index nL : Nat} {Ts : List Cond} {H0 : Heap} {A0 : Nat → Prop}
theorem k_X3_fee (l : Launch) {dC : Nat → ClassId} {dI : Nat → Nat → Nat} {cI cZ : ClassId} {ad : Nat → Nat} {sm fe ex dy : Int32} {gp gc op gr st dl wo : Nat → Int32} {n : Nat} {yc ya ys yd : Nat → Int32} {q : Nat} {zc zp zr zs zf : Nat → Int32} {z : Nat} {zm zt : Int64}   (hx : p.tables.exec = Jvm.exec) (hb : c.code = cc) (hml : c.maxLocals = nL) (hown : s.vm.findClass own = some m.cls) (hts : ∀ w ∈ Ts, w.before args s = true) (hK : va_K (dC, dI) vwCl [(cI, .int), (cZ, .boolean)] s) (hP : va_P (dC, dI) vwCl (wC cI cZ ad sm fe ex dy gp gc op gr st dl wo n yc ya ys yd q zc zp zr zs zf z zm zt) H) (hg9 : GoodIn Ts (wsV own index RX3 yX3_fee wsX3_fee)) (hR9 : 0 + 1 ≤ R.frames ∧ 8 + (1 + 11) + 0 ≤ R.locals) (hc9 : cells ≤ R.cells ∧ slots ≤ R.slots) (hl9 : ls.size = nL) (hw9 : (rest.map fun v => v.category).sum ≤ 8) (hdg : decode cc pc = .ok (.invokevirtual index, 3)) (kk : W p l e R s m args below meth c H locs cells slots Q (F0 m (pc + 3) ls (.int (feeF sm fe) :: rest))) : W p l e R s m args below meth c H locs cells slots Q (F0 m pc ls (.ref (ad 0) :: rest)) := zc_ro (W.runV (As := []) (rest := rest) ⟨hx, hb, hml, hown, hts⟩ (c_X3_fee (dC := dC) (dI := dI) (cI := cI) (cZ := cZ) (ad := ad) (sm := sm) (fe := fe) (ex := ex) (dy := dy) (gp := gp) (gc := gc) (op := op) (gr := gr) (st := st) (dl := dl) (wo := wo) (n := n) (yc := yc) (ya := ya) (ys := ys) (yd := yd) (q := q) (zc := zc) (zp := zp) (zr := zr) (zs := zs) (zf := zf) (z := z) (zm := zm) (zt := zt) l ) (cwV 0 hts hg9 rfl rfl rfl (by decide +kernel) hR9) ⟨fun a U g mk q => ⟨q.1, q.2.1, va_K.moved (u := U) (U := U.calling g mk a) (Vm.Alike.refl U.vm) q.2.2⟩, rC_0 hK hP, fun U hU hW => ⟨rfl, by rw [hU]; exact hP, va_K.moved hW.alike hK⟩⟩ rfl rfl hl9 rfl (lv_room hw9) hdg hc9) (fun r h => by subst h; exact kk)
end
set_option maxHeartbeats 4000000 in
set_option maxRecDepth 100000 in
theorem c_X3_moneyLeft (l : Launch) {dC : Nat → ClassId} {dI : Nat → Nat → Nat} {cI cZ : ClassId} {ad : Nat → Nat} {sm fe ex dy : Int32} {gp gc op gr st dl wo : Nat → Int32} {n : Nat} {yc ya ys yd : Nat → Int32} {q : Nat} {zc zp zr zs zf : Nat → Int32} {z : Nat} {zm zt : Int64}  (hq : q ≤ 100) : Met l yX3_moneyLeft wsX3_moneyLeft { frames := 1, cells := 0, slots := 0, locals := 22 } (va_Pc [.ref (ad 0)] (fun U => va_P (dC, dI) vwCl (wC cI cZ ad sm fe ex dy gp gc op gr st dl wo n yc ya ys yd q zc zp zr zs zf z zm zt) U.heap ∧ va_K (dC, dI) vwCl [(cI, .int), (cZ, .boolean)] U)) (vp_Si (fun r => r = leftF sm fe ex ya ys q)) 0 0 (fun _ => False) := by
  refine Met.ofW (cc := cX3_moneyLeft) (maxL := 1) (ret := (some .int)) (by decide) rfl ?_
  intro p e s m args below meth c s₁ B hml hv
  obtain ⟨rfl, hP, hK⟩ := hv
  have hx := B.exec
  have hb := B.bytes
  have hr := B.returns
  have hts := atoms_spec (ws := wsX3_moneyLeft) B.pre
  have hown : s.vm.findClass RX3 = some m.cls := findClass_of_methodNamed B.named
  have hlocks := B.notSynchronized
  have hl := lv_entry ([.ref (ad 0)]) (n := 1) (Nat.le_of_ble_eq_true rfl)
  rw [lg_entry_eq]
  generalize (lg_sl ([.ref (ad 0)]) ++ List.replicate (1 - (lg_sl ([.ref (ad 0)])).length) Slot.unset).toArray = ls at hl ⊢
  have hl : lv_has ls 1 [(0, .ref (ad 0))] := hl
  have hiX3 : ∀ w ∈ wsX30, w ∈ wsX3_moneyLeft := by decide +kernel
  have hf53 := hts (.fieldLink RX3 53 "SettlementFund" "sum" "I") (by decide +kernel)
  have hf60 := hts (.fieldLink RX3 60 "SettlementFund" "expenses" "I") (by decide +kernel)
  have hf26 := hts (.fieldLink RX3 26 "SettlementFund" "paymentBook" "LSettlementFund$PaymentBook;") (by decide +kernel)
  refine lv_aload_n hx hb dX3_moneyLeft_0 rfl (lv_at hl 0 rfl) ?_
  refine gC_0_0 hx hb hts hiX3 hown hK hP hf53 dX3_moneyLeft_1 ?_
  refine lv_aload_n hx hb dX3_moneyLeft_4 rfl (lv_at hl 0 rfl) ?_
  refine k_X3_fee l  hx hb hml hown hts hK hP gX3_moneyLeft_X3_fee ⟨Nat.le_of_ble_eq_true rfl, Nat.le_of_ble_eq_true rfl⟩ ⟨Nat.le_of_ble_eq_true rfl, Nat.le_of_ble_eq_true rfl⟩ hl.1 (Nat.le_of_ble_eq_true rfl) dX3_moneyLeft_5 ?_
  refine lv_isub hx hb dX3_moneyLeft_8 ?_
  refine lv_aload_n hx hb dX3_moneyLeft_9 rfl (lv_at hl 0 rfl) ?_
  refine gC_0_2 hx hb hts hiX3 hown hK hP hf60 dX3_moneyLeft_10 ?_
  refine lv_isub hx hb dX3_moneyLeft_13 ?_
  refine lv_aload_n hx hb dX3_moneyLeft_14 rfl (lv_at hl 0 rfl) ?_
  refine gC_0_7 hx hb hts hiX3 hown hK hP hf26 dX3_moneyLeft_15 ?_
  refine k_X1_sumOfAll l (hq := hq) hx hb hml hown hts hK hP gX3_moneyLeft_X1_sumOfAll ⟨Nat.le_of_ble_eq_true rfl, Nat.le_of_ble_eq_true rfl⟩ ⟨Nat.le_of_ble_eq_true rfl, Nat.le_of_ble_eq_true rfl⟩ hl.1 (Nat.le_of_ble_eq_true rfl) dX3_moneyLeft_18 ?_
  refine lv_isub hx hb dX3_moneyLeft_21 ?_
  exact W.iret (v := ((sm - (feeF sm fe)) - ex) - (sumAllI ya ys q)) hx hb hr (fun t ht hW => ⟨((sm - (feeF sm fe)) - ex) - (sumAllI ya ys q), rfl, by first | rfl | (rw [if_pos (by omega)]; done) | (rw [if_neg (by omega)]; done) | (simp []; done), ht⟩) (fun _ h => nomatch h) dX3_moneyLeft_22
section
variable {p : Program} {e : Env} {R : Room} {s : State} {m : MethodId} {args : Array Value} {below : List Frame} {meth : Method} {c : Code} {H : Heap} {locs : List Loc} {cells slots : Nat} {Q : State → Prop} {cc : ByteArray} {pc : Nat} {ls : Array Slot} {rest : List Value} {own : String} {index nL : Nat} {Ts : List Cond} {H0 : Heap} {A0 : Nat → Prop}
theorem k_X3_moneyLeft (l : Launch) {dC : Nat → ClassId} {dI : Nat → Nat → Nat} {cI cZ : ClassId} {ad : Nat → Nat} {sm fe ex dy : Int32} {gp gc op gr st dl wo : Nat → Int32} {n : Nat} {yc ya ys yd : Nat → Int32} {q : Nat} {zc zp zr zs zf : Nat → Int32} {z : Nat} {zm zt : Int64}  (hq : q ≤ 100) (hx : p.tables.exec = Jvm.exec) (hb : c.code = cc) (hml : c.maxLocals = nL) (hown : s.vm.findClass own = some m.cls) (hts : ∀ w ∈ Ts, w.before args s = true) (hK : va_K (dC, dI) vwCl [(cI, .int), (cZ, .boolean)] s) (hP : va_P (dC, dI) vwCl (wC cI cZ ad sm fe ex dy gp gc op gr st dl wo n yc ya ys yd q zc zp zr zs zf z zm zt) H) (hg9 : GoodIn Ts (wsV own index RX3 yX3_moneyLeft wsX3_moneyLeft)) (hR9 : 1 + 1 ≤ R.frames ∧ 8 + (1 + 11) + 22 ≤ R.locals) (hc9 : cells ≤ R.cells ∧ slots ≤ R.slots) (hl9 : ls.size = nL) (hw9 : (rest.map fun v => v.category).sum ≤ 8) (hdg : decode cc pc = .ok (.invokevirtual index, 3)) (kk : W p l e R s m args below meth c H locs cells slots Q (F0 m (pc + 3) ls (.int (leftF sm fe ex ya ys q) :: rest))) : W p l e R s m args below meth c H locs cells slots Q (F0 m pc ls (.ref (ad 0) :: rest)) := zc_ro (W.runV (As := []) (rest := rest) ⟨hx, hb, hml, hown, hts⟩ (c_X3_moneyLeft (dC := dC) (dI := dI) (cI := cI) (cZ := cZ) (ad := ad) (sm := sm) (fe := fe) (ex := ex) (dy := dy) (gp := gp) (gc := gc) (op := op) (gr := gr) (st := st) (dl := dl) (wo := wo) (n := n) (yc := yc) (ya := ya) (ys := ys) (yd := yd) (q := q) (zc := zc) (zp := zp) (zr := zr) (zs := zs) (zf := zf) (z := z) (zm := zm) (zt := zt) l hq) (cwV 0 hts hg9 rfl rfl rfl (by decide +kernel) hR9) ⟨fun a U g mk q => ⟨q.1, q.2.1, va_K.moved (u := U) (U := U.calling g mk a) (Vm.Alike.refl U.vm) q.2.2⟩, rC_0 hK hP, fun U hU hW => ⟨rfl, by rw [hU]; exact hP, va_K.moved hW.alike hK⟩⟩ rfl rfl hl9 rfl (lv_room hw9) hdg hc9) (fun r h => by subst h; exact kk)
end
set_option maxHeartbeats 4000000 in
set_option maxRecDepth 100000 in
theorem c_X3_mustBeClaim_ok (l : Launch) {dC : Nat → ClassId} {dI : Nat → Nat → Nat} {cI cZ : ClassId} {ad : Nat → Nat} {sm fe ex dy : Int32} {gp gc op gr st dl wo : Nat → Int32} {n : Nat} {yc ya ys yd : Nat → Int32} {q : Nat} {zc zp zr zs zf : Nat → Int32} {z : Nat} {zm zt : Int64} {k : Nat} (hn : n ≤ 24) (hk : k < n) : Met l yX3_mustBeClaim wsX3_mustBeClaim { frames := 1, cells := 0, slots := 0, locals := 21 } (va_Pc [.ref (ad 0), .int (nI k)] (fun U => va_P (dC, dI) vwCl (wC cI cZ ad sm fe ex dy gp gc op gr st dl wo n yc ya ys yd q zc zp zr zs zf z zm zt) U.heap ∧ va_K (dC, dI) vwCl [(cI, .int), (cZ, .boolean)] U)) (va_Sv (fun _ => True)) 0 0 (fun _ => False) := by
  refine Met.ofW (cc := cX3_mustBeClaim) (maxL := 2) (ret := none) (by decide) rfl ?_
  intro p e s m args below meth c s₁ B hml hv
  obtain ⟨rfl, hP, hK⟩ := hv
  have hx := B.exec
  have hb := B.bytes
  have hr := B.returns
  have hts := atoms_spec (ws := wsX3_mustBeClaim) B.pre
  have hown : s.vm.findClass RX3 = some m.cls := findClass_of_methodNamed B.named
  have hlocks := B.notSynchronized
  have hl := lv_entry ([.ref (ad 0), .int (nI k)]) (n := 2) (Nat.le_of_ble_eq_true rfl)
  rw [lg_entry_eq]
  generalize (lg_sl ([.ref (ad 0), .int (nI k)]) ++ List.replicate (2 - (lg_sl ([.ref (ad 0), .int (nI k)])).length) Slot.unset).toArray = ls at hl ⊢
  have hl : lv_has ls 2 [(0, .ref (ad 0)), (1, .int (nI k))] := hl
  have hiX3 : ∀ w ∈ wsX30, w ∈ wsX3_mustBeClaim := by decide +kernel
  have hf19 := hts (.fieldLink RX3 19 "SettlementFund" "claimBook" "LSettlementFund$ClaimBook;") (by decide +kernel)
  refine lv_aload_n hx hb dX3_mustBeClaim_0 rfl (lv_at hl 0 rfl) ?_
  refine gC_0_6 hx hb hts hiX3 hown hK hP hf19 dX3_mustBeClaim_1 ?_
  refine lv_iload_n hx hb dX3_mustBeClaim_4 rfl (lv_at hl 1 rfl) ?_
  refine k_X0_has_ok l (k := k) (hn := hn) (hk := hk) hx hb hml hown hts hK hP gX3_mustBeClaim_X0_has ⟨Nat.le_of_ble_eq_true rfl, Nat.le_of_ble_eq_true rfl⟩ ⟨Nat.le_of_ble_eq_true rfl, Nat.le_of_ble_eq_true rfl⟩ hl.1 (Nat.le_of_ble_eq_true rfl) dX3_mustBeClaim_5 ?_
  refine zi_ne (tgt := 21) hx hb (by decide) dX3_mustBeClaim_8 (by decide) (fun c_8 => ?_) (fun c_8 => (show False by exact absurd c_8 (by decide)).elim)
  exact W.vret hx hb hr (fun t ht hW => ⟨rfl, trivial, ht⟩) (fun _ h => nomatch h) dX3_mustBeClaim_21
section
variable {p : Program} {e : Env} {R : Room} {s : State} {m : MethodId} {args : Array Value} {below : List Frame} {meth : Method} {c : Code} {H : Heap} {locs : List Loc} {cells slots : Nat} {Q : State → Prop} {cc : ByteArray} {pc : Nat} {ls : Array Slot} {rest : List Value} {own : String} {index nL : Nat} {Ts : List Cond} {H0 : Heap} {A0 : Nat → Prop}
theorem k_X3_mustBeClaim_ok (l : Launch) {dC : Nat → ClassId} {dI : Nat → Nat → Nat} {cI cZ : ClassId} {ad : Nat → Nat} {sm fe ex dy : Int32} {gp gc op gr st dl wo : Nat → Int32} {n : Nat} {yc ya ys yd : Nat → Int32} {q : Nat} {zc zp zr zs zf : Nat → Int32} {z : Nat} {zm zt : Int64} {k : Nat} (hn : n ≤ 24) (hk : k < n) (hx : p.tables.exec = Jvm.exec) (hb : c.code = cc) (hml : c.maxLocals = nL) (hown : s.vm.findClass own = some m.cls) (hts : ∀ w ∈ Ts, w.before args s = true) (hK : va_K (dC, dI) vwCl [(cI, .int), (cZ, .boolean)] s) (hP : va_P (dC, dI) vwCl (wC cI cZ ad sm fe ex dy gp gc op gr st dl wo n yc ya ys yd q zc zp zr zs zf z zm zt) H) (hg9 : GoodIn Ts (wsV own index RX3 yX3_mustBeClaim wsX3_mustBeClaim)) (hR9 : 1 + 1 ≤ R.frames ∧ 8 + (2 + 11) + 21 ≤ R.locals) (hc9 : cells ≤ R.cells ∧ slots ≤ R.slots) (hl9 : ls.size = nL) (hw9 : (rest.map fun v => v.category).sum ≤ 8) (hdg : decode cc pc = .ok (.invokevirtual index, 3)) (kk : W p l e R s m args below meth c H locs cells slots Q (F0 m (pc + 3) ls rest)) : W p l e R s m args below meth c H locs cells slots Q (F0 m pc ls (.int (nI k) :: .ref (ad 0) :: rest)) := va_csv (W.runV (As := [.int (nI k)]) (rest := rest) ⟨hx, hb, hml, hown, hts⟩ (c_X3_mustBeClaim_ok (dC := dC) (dI := dI) (cI := cI) (cZ := cZ) (ad := ad) (sm := sm) (fe := fe) (ex := ex) (dy := dy) (gp := gp) (gc := gc) (op := op) (gr := gr) (st := st) (dl := dl) (wo := wo) (n := n) (yc := yc) (ya := ya) (ys := ys) (yd := yd) (q := q) (zc := zc) (zp := zp) (zr := zr) (zs := zs) (zf := zf) (z := z) (zm := zm) (zt := zt) (k := k) l hn hk) (cwV 1 hts hg9 rfl rfl rfl (by decide +kernel) hR9) ⟨fun a U g mk q => ⟨q.1, q.2.1, va_K.moved (u := U) (U := U.calling g mk a) (Vm.Alike.refl U.vm) q.2.2⟩, rC_0 hK hP, fun U hU hW => ⟨rfl, by rw [hU]; exact hP, va_K.moved hW.alike hK⟩⟩ rfl rfl hl9 rfl (lv_room hw9) hdg hc9) (fun _ => kk)
end
set_option maxHeartbeats 4000000 in
set_option maxRecDepth 100000 in
theorem c_X3_mustBeClaim_no (l : Launch) (hfl : l.stackTraces = false) {dC : Nat → ClassId} {dI : Nat → Nat → Nat} {cI cZ : ClassId} {ad : Nat → Nat} {sm fe ex dy : Int32} {gp gc op gr st dl wo : Nat → Int32} {n : Nat} {yc ya ys yd : Nat → Int32} {q : Nat} {zc zp zr zs zf : Nat → Int32} {z : Nat} {zm zt : Int64} {x : Int32} (hn : n ≤ 24) (hk : ¬ vp_in x n) : vx_Met l yX3_mustBeClaim wsX3_mustBeClaim { frames := 6, cells := 1, slots := 6, locals := 90 } (va_Pc [.ref (ad 0), .int x] (fun U => va_P (dC, dI) vwCl (wC cI cZ ad sm fe ex dy gp gc op gr st dl wo n yc ya ys yd q zc zp zr zs zf z zm zt) U.heap ∧ va_K (dC, dI) vwCl [(cI, .int), (cZ, .boolean)] U ∧ tX (fun _ => False) U U.heap)) (fun _ _ _ _ => False) (xT "java/lang/IndexOutOfBoundsException") 1 6 (fun _ => False) := by
  refine vx_ofW (cc := cX3_mustBeClaim) (maxL := 2) (ret := none) (by decide) rfl ?_
  intro p e s m args below meth c s₁ B hml ht hv
  obtain ⟨rfl, hP, hK, hT⟩ := hv
  have hx := B.exec
  have hb := B.bytes
  have hr := B.returns
  have hts := atoms_spec (ws := wsX3_mustBeClaim) B.pre
  have hown : s.vm.findClass RX3 = some m.cls := findClass_of_methodNamed B.named
  have hlocks := B.notSynchronized
  have hl := lv_entry ([.ref (ad 0), .int x]) (n := 2) (Nat.le_of_ble_eq_true rfl)
  rw [lg_entry_eq]
  generalize (lg_sl ([.ref (ad 0), .int x]) ++ List.replicate (2 - (lg_sl ([.ref (ad 0), .int x])).length) Slot.unset).toArray = ls at hl ⊢
  have hl : lv_has ls 2 [(0, .ref (ad 0)), (1, .int x)] := hl
  have hiX3 : ∀ w ∈ wsX30, w ∈ wsX3_mustBeClaim := by decide +kernel
  have hf19 := hts (.fieldLink RX3 19 "SettlementFund" "claimBook" "LSettlementFund$ClaimBook;") (by decide +kernel)
  refine lv_aload_n hx hb dX3_mustBeClaim_0 rfl (lv_at hl 0 rfl) ?_
  refine gC_0_6 hx hb hts hiX3 hown hK hP hf19 dX3_mustBeClaim_1 ?_
  refine lv_iload_n hx hb dX3_mustBeClaim_4 rfl (lv_at hl 1 rfl) ?_
  refine k_X0_has_no l (x := x) (hn := hn) (hk := hk) hx hb hml hown hts hK hP gX3_mustBeClaim_X0_has ⟨Nat.le_of_ble_eq_true rfl, Nat.le_of_ble_eq_true rfl⟩ ⟨Nat.le_of_ble_eq_true rfl, Nat.le_of_ble_eq_true rfl⟩ hl.1 (Nat.le_of_ble_eq_true rfl) dX3_mustBeClaim_5 ?_
  refine zi_ne (tgt := 21) hx hb (by decide) dX3_mustBeClaim_8 (by decide) (fun c_8 => (show False by exact absurd rfl c_8).elim) (fun c_8 => ?_)
  exact zx_IndexOutOfBoundsException (is := 206) (text := "there is no such claim") hx hb hfl hown hts hT (by decide +kernel) (by decide +kernel) (by decide +kernel) (by decide +kernel) (hl.1.trans hml.symm) dX3_mustBeClaim_11 dX3_mustBeClaim_14 dX3_mustBeClaim_15 dX3_mustBeClaim_17 dX3_mustBeClaim_20 ht hlocks (Nat.le_of_ble_eq_true rfl) (Nat.le_of_ble_eq_true rfl) (Nat.le_of_ble_eq_true rfl) (Nat.le_of_ble_eq_true rfl)
section
variable {p : Program} {e : Env} {R : Room} {s : State} {m : MethodId} {args : Array Value} {below : List Frame} {meth : Method} {c : Code} {H : Heap} {locs : List Loc} {cells slots : Nat} {Q : State → Prop} {cc : ByteArray} {pc : Nat} {ls : Array Slot} {rest : List Value} {own : String} {index nL : Nat} {Ts : List Cond} {H0 : Heap} {A0 : Nat → Prop}
theorem kr_X3_mustBeClaim_no (l : Launch) (hfl : l.stackTraces = false) {dC : Nat → ClassId} {dI : Nat → Nat → Nat} {cI cZ : ClassId} {ad : Nat → Nat} {sm fe ex dy : Int32} {gp gc op gr st dl wo : Nat → Int32} {n : Nat} {yc ya ys yd : Nat → Int32} {q : Nat} {zc zp zr zs zf : Nat → Int32} {z : Nat} {zm zt : Int64} {x : Int32} (hn : n ≤ 24) (hk : ¬ vp_in x n) (hx : p.tables.exec = Jvm.exec) (hb : c.code = cc) (hml : c.maxLocals = nL) (hown : s.vm.findClass own = some m.cls) (hts : ∀ w ∈ Ts, w.before args s = true) (hK : va_K (dC, dI) vwCl [(cI, .int), (cZ, .boolean)] s) (hP : va_P (dC, dI) vwCl (wC cI cZ ad sm fe ex dy gp gc op gr st dl wo n yc ya ys yd q zc zp zr zs zf z zm zt) H) (hg9 : GoodIn Ts (wsV own index RX3 yX3_mustBeClaim wsX3_mustBeClaim)) (hR9 : 6 + 1 ≤ R.frames ∧ 8 + (2 + 11) + 90 ≤ R.locals) (hc9 : cells + 1 ≤ R.cells ∧ slots + 6 ≤ R.slots) (hl9 : ls.size = nL) (hw9 : (rest.map fun v => v.category).sum ≤ 8) (hdg : decode cc pc = .ok (.invokevirtual index, 3)) (hT : tX (fun _ => False) s H) : vx_Run p l e R s m args below meth c H locs cells slots 1 6 (F0 m pc ls (.int x :: .ref (ad 0) :: rest)) rest (fun _ _ _ => False) (xT "java/lang/IndexOutOfBoundsException") (fun _ => False) := vx_runV (As := [.int x]) (rest := rest) ⟨hx, hb, hml, hown, hts⟩ (c_X3_mustBeClaim_no (dC := dC) (dI := dI) (cI := cI) (cZ := cZ) (ad := ad) (sm := sm) (fe := fe) (ex := ex) (dy := dy) (gp := gp) (gc := gc) (op := op) (gr := gr) (st := st) (dl := dl) (wo := wo) (n := n) (yc := yc) (ya := ya) (ys := ys) (yd := yd) (q := q) (zc := zc) (zp := zp) (zr := zr) (zs := zs) (zf := zf) (z := z) (zm := zm) (zt := zt) (x := x) l hfl hn hk) (cwV 1 hts hg9 rfl rfl rfl (by decide +kernel) hR9) ⟨fun a U g mk q => ⟨q.1, q.2.1, va_K.moved (u := U) (U := U.calling g mk a) (Vm.Alike.refl U.vm) q.2.2.1, tX.same (u := U) (U := U.calling g mk a) rfl q.2.2.2⟩, rC_0 hK hP, fun U hU hW => ⟨rfl, by rw [hU]; exact hP, va_K.moved hW.alike hK, by rw [hU]; exact tX.warm hW hT⟩⟩ rfl rfl hl9 rfl (lv_room hw9) hdg hc9
end
set_option maxHeartbeats 4000000 in
set_option maxRecDepth 100000 in
theorem c_X3_mustBePayment_ok (l : Launch) {dC : Nat → ClassId} {dI : Nat → Nat → Nat} {cI cZ : ClassId} {ad : Nat → Nat} {sm fe ex dy : Int32} {gp gc op gr st dl wo : Nat → Int32} {n : Nat} {yc ya ys yd : Nat → Int32} {q : Nat} {zc zp zr zs zf : Nat → Int32} {z : Nat} {zm zt : Int64} {k : Nat} (hq : q ≤ 100) (hk : k < q) : Met l yX3_mustBePayment wsX3_mustBePayment { frames := 1, cells := 0, slots := 0, locals := 21 } (va_Pc [.ref (ad 0), .int (nI k)] (fun U => va_P (dC, dI) vwCl (wC cI cZ ad sm fe ex dy gp gc op gr st dl wo n yc ya ys yd q zc zp zr zs zf z zm zt) U.heap ∧ va_K (dC, dI) vwCl [(cI, .int), (cZ, .boolean)] U)) (va_Sv (fun _ => True)) 0 0 (fun _ => False) := by
  refine Met.ofW (cc := cX3_mustBePayment) (maxL := 2) (ret := none) (by decide) rfl ?_
  intro p e s m args below meth c s₁ B hml hv
  obtain ⟨rfl, hP, hK⟩ := hv
  have hx := B.exec
  have hb := B.bytes
  have hr := B.returns
  have hts := atoms_spec (ws := wsX3_mustBePayment) B.pre
  have hown : s.vm.findClass RX3 = some m.cls := findClass_of_methodNamed B.named
  have hlocks := B.notSynchronized
  have hl := lv_entry ([.ref (ad 0), .int (nI k)]) (n := 2) (Nat.le_of_ble_eq_true rfl)
  rw [lg_entry_eq]
  generalize (lg_sl ([.ref (ad 0), .int (nI k)]) ++ List.replicate (2 - (lg_sl ([.ref (ad 0), .int (nI k)])).length) Slot.unset).toArray = ls at hl ⊢
  have hl : lv_has ls 2 [(0, .ref (ad 0)), (1, .int (nI k))] := hl
  have hiX3 : ∀ w ∈ wsX30, w ∈ wsX3_mustBePayment := by decide +kernel
  have hf26 := hts (.fieldLink RX3 26 "SettlementFund" "paymentBook" "LSettlementFund$PaymentBook;") (by decide +kernel)
  refine lv_aload_n hx hb dX3_mustBePayment_0 rfl (lv_at hl 0 rfl) ?_
  refine gC_0_7 hx hb hts hiX3 hown hK hP hf26 dX3_mustBePayment_1 ?_
  refine lv_iload_n hx hb dX3_mustBePayment_4 rfl (lv_at hl 1 rfl) ?_
  refine k_X1_has_ok l (k := k) (hq := hq) (hk := hk) hx hb hml hown hts hK hP gX3_mustBePayment_X1_has ⟨Nat.le_of_ble_eq_true rfl, Nat.le_of_ble_eq_true rfl⟩ ⟨Nat.le_of_ble_eq_true rfl, Nat.le_of_ble_eq_true rfl⟩ hl.1 (Nat.le_of_ble_eq_true rfl) dX3_mustBePayment_5 ?_
  refine zi_ne (tgt := 21) hx hb (by decide) dX3_mustBePayment_8 (by decide) (fun c_8 => ?_) (fun c_8 => (show False by exact absurd c_8 (by decide)).elim)
  exact W.vret hx hb hr (fun t ht hW => ⟨rfl, trivial, ht⟩) (fun _ h => nomatch h) dX3_mustBePayment_21
section
variable {p : Program} {e : Env} {R : Room} {s : State} {m : MethodId} {args : Array Value} {below : List Frame} {meth : Method} {c : Code} {H : Heap} {locs : List Loc} {cells slots : Nat} {Q : State → Prop} {cc : ByteArray} {pc : Nat} {ls : Array Slot} {rest : List Value} {own : String} {index nL : Nat} {Ts : List Cond} {H0 : Heap} {A0 : Nat → Prop}
theorem k_X3_mustBePayment_ok (l : Launch) {dC : Nat → ClassId} {dI : Nat → Nat → Nat} {cI cZ : ClassId} {ad : Nat → Nat} {sm fe ex dy : Int32} {gp gc op gr st dl wo : Nat → Int32} {n : Nat} {yc ya ys yd : Nat → Int32} {q : Nat} {zc zp zr zs zf : Nat → Int32} {z : Nat} {zm zt : Int64} {k : Nat} (hq : q ≤ 100) (hk : k < q) (hx : p.tables.exec = Jvm.exec) (hb : c.code = cc) (hml : c.maxLocals = nL) (hown : s.vm.findClass own = some m.cls) (hts : ∀ w ∈ Ts, w.before args s = true) (hK : va_K (dC, dI) vwCl [(cI, .int), (cZ, .boolean)] s) (hP : va_P (dC, dI) vwCl (wC cI cZ ad sm fe ex dy gp gc op gr st dl wo n yc ya ys yd q zc zp zr zs zf z zm zt) H) (hg9 : GoodIn Ts (wsV own index RX3 yX3_mustBePayment wsX3_mustBePayment)) (hR9 : 1 + 1 ≤ R.frames ∧ 8 + (2 + 11) + 21 ≤ R.locals) (hc9 : cells ≤ R.cells ∧ slots ≤ R.slots) (hl9 : ls.size = nL) (hw9 : (rest.map fun v => v.category).sum ≤ 8) (hdg : decode cc pc = .ok (.invokevirtual index, 3)) (kk : W p l e R s m args below meth c H locs cells slots Q (F0 m (pc + 3) ls rest)) : W p l e R s m args below meth c H locs cells slots Q (F0 m pc ls (.int (nI k) :: .ref (ad 0) :: rest)) := va_csv (W.runV (As := [.int (nI k)]) (rest := rest) ⟨hx, hb, hml, hown, hts⟩ (c_X3_mustBePayment_ok (dC := dC) (dI := dI) (cI := cI) (cZ := cZ) (ad := ad) (sm := sm) (fe := fe) (ex := ex) (dy := dy) (gp := gp) (gc := gc) (op := op) (gr := gr) (st := st) (dl := dl) (wo := wo) (n := n) (yc := yc) (ya := ya) (ys := ys) (yd := yd) (q := q) (zc := zc) (zp := zp) (zr := zr) (zs := zs) (zf := zf) (z := z) (zm := zm) (zt := zt) (k := k) l hq hk) (cwV 1 hts hg9 rfl rfl rfl (by decide +kernel) hR9) ⟨fun a U g mk q => ⟨q.1, q.2.1, va_K.moved (u := U) (U := U.calling g mk a) (Vm.Alike.refl U.vm) q.2.2⟩, rC_0 hK hP, fun U hU hW => ⟨rfl, by rw [hU]; exact hP, va_K.moved hW.alike hK⟩⟩ rfl rfl hl9 rfl (lv_room hw9) hdg hc9) (fun _ => kk)
end
set_option maxHeartbeats 4000000 in
set_option maxRecDepth 100000 in
theorem c_X3_mustBePayment_no (l : Launch) (hfl : l.stackTraces = false) {dC : Nat → ClassId} {dI : Nat → Nat → Nat} {cI cZ : ClassId} {ad : Nat → Nat} {sm fe ex dy : Int32} {gp gc op gr st dl wo : Nat → Int32} {n : Nat} {yc ya ys yd : Nat → Int32} {q : Nat} {zc zp zr zs zf : Nat → Int32} {z : Nat} {zm zt : Int64} {x : Int32} (hq : q ≤ 100) (hk : ¬ vp_in x q) : vx_Met l yX3_mustBePayment wsX3_mustBePayment { frames := 6, cells := 1, slots := 6, locals := 90 } (va_Pc [.ref (ad 0), .int x] (fun U => va_P (dC, dI) vwCl (wC cI cZ ad sm fe ex dy gp gc op gr st dl wo n yc ya ys yd q zc zp zr zs zf z zm zt) U.heap ∧ va_K (dC, dI) vwCl [(cI, .int), (cZ, .boolean)] U ∧ tX (fun _ => False) U U.heap)) (fun _ _ _ _ => False) (xT "java/lang/IndexOutOfBoundsException") 1 6 (fun _ => False) := by
  refine vx_ofW (cc := cX3_mustBePayment) (maxL := 2) (ret := none) (by decide) rfl ?_
  intro p e s m args below meth c s₁ B hml ht hv
  obtain ⟨rfl, hP, hK, hT⟩ := hv
  have hx := B.exec
  have hb := B.bytes
  have hr := B.returns
  have hts := atoms_spec (ws := wsX3_mustBePayment) B.pre
  have hown : s.vm.findClass RX3 = some m.cls := findClass_of_methodNamed B.named
  have hlocks := B.notSynchronized
  have hl := lv_entry ([.ref (ad 0), .int x]) (n := 2) (Nat.le_of_ble_eq_true rfl)
  rw [lg_entry_eq]
  generalize (lg_sl ([.ref (ad 0), .int x]) ++ List.replicate (2 - (lg_sl ([.ref (ad 0), .int x])).length) Slot.unset).toArray = ls at hl ⊢
  have hl : lv_has ls 2 [(0, .ref (ad 0)), (1, .int x)] := hl
  have hiX3 : ∀ w ∈ wsX30, w ∈ wsX3_mustBePayment := by decide +kernel
  have hf26 := hts (.fieldLink RX3 26 "SettlementFund" "paymentBook" "LSettlementFund$PaymentBook;") (by decide +kernel)
  refine lv_aload_n hx hb dX3_mustBePayment_0 rfl (lv_at hl 0 rfl) ?_
  refine gC_0_7 hx hb hts hiX3 hown hK hP hf26 dX3_mustBePayment_1 ?_
  refine lv_iload_n hx hb dX3_mustBePayment_4 rfl (lv_at hl 1 rfl) ?_
  refine k_X1_has_no l (x := x) (hq := hq) (hk := hk) hx hb hml hown hts hK hP gX3_mustBePayment_X1_has ⟨Nat.le_of_ble_eq_true rfl, Nat.le_of_ble_eq_true rfl⟩ ⟨Nat.le_of_ble_eq_true rfl, Nat.le_of_ble_eq_true rfl⟩ hl.1 (Nat.le_of_ble_eq_true rfl) dX3_mustBePayment_5 ?_
  refine zi_ne (tgt := 21) hx hb (by decide) dX3_mustBePayment_8 (by decide) (fun c_8 => (show False by exact absurd rfl c_8).elim) (fun c_8 => ?_)
  exact zx_IndexOutOfBoundsException (is := 209) (text := "there is no such payment") hx hb hfl hown hts hT (by decide +kernel) (by decide +kernel) (by decide +kernel) (by decide +kernel) (hl.1.trans hml.symm) dX3_mustBePayment_11 dX3_mustBePayment_14 dX3_mustBePayment_15 dX3_mustBePayment_17 dX3_mustBePayment_20 ht hlocks (Nat.le_of_ble_eq_true rfl) (Nat.le_of_ble_eq_true rfl) (Nat.le_of_ble_eq_true rfl) (Nat.le_of_ble_eq_true rfl)
section
variable {p : Program} {e : Env} {R : Room} {s : State} {m : MethodId} {args : Array Value} {below : List Frame} {meth : Method} {c : Code} {H : Heap} {locs : List Loc} {cells slots : Nat} {Q : State → Prop} {cc : ByteArray} {pc : Nat} {ls : Array Slot} {rest : List Value} {own : String} {index nL : Nat} {Ts : List Cond} {H0 : Heap} {A0 : Nat → Prop}
theorem kr_X3_mustBePayment_no (l : Launch) (hfl : l.stackTraces = false) {dC : Nat → ClassId} {dI : Nat → Nat → Nat} {cI cZ : ClassId} {ad : Nat → Nat} {sm fe ex dy : Int32} {gp gc op gr st dl wo : Nat → Int32} {n : Nat} {yc ya ys yd : Nat → Int32} {q : Nat} {zc zp zr zs zf : Nat → Int32} {z : Nat} {zm zt : Int64} {x : Int32} (hq : q ≤ 100) (hk : ¬ vp_in x q) (hx : p.tables.exec = Jvm.exec) (hb : c.code = cc) (hml : c.maxLocals = nL) (hown : s.vm.findClass own = some m.cls) (hts : ∀ w ∈ Ts, w.before args s = true) (hK : va_K (dC, dI) vwCl [(cI, .int), (cZ, .boolean)] s) (hP : va_P (dC, dI) vwCl (wC cI cZ ad sm fe ex dy gp gc op gr st dl wo n yc ya ys yd q zc zp zr zs zf z zm zt) H) (hg9 : GoodIn Ts (wsV own index RX3 yX3_mustBePayment wsX3_mustBePayment)) (hR9 : 6 + 1 ≤ R.frames ∧ 8 + (2 + 11) + 90 ≤ R.locals) (hc9 : cells + 1 ≤ R.cells ∧ slots + 6 ≤ R.slots) (hl9 : ls.size = nL) (hw9 : (rest.map fun v => v.category).sum ≤ 8) (hdg : decode cc pc = .ok (.invokevirtual index, 3)) (hT : tX (fun _ => False) s H) : vx_Run p l e R s m args below meth c H locs cells slots 1 6 (F0 m pc ls (.int x :: .ref (ad 0) :: rest)) rest (fun _ _ _ => False) (xT "java/lang/IndexOutOfBoundsException") (fun _ => False) := vx_runV (As := [.int x]) (rest := rest) ⟨hx, hb, hml, hown, hts⟩ (c_X3_mustBePayment_no (dC := dC) (dI := dI) (cI := cI) (cZ := cZ) (ad := ad) (sm := sm) (fe := fe) (ex := ex) (dy := dy) (gp := gp) (gc := gc) (op := op) (gr := gr) (st := st) (dl := dl) (wo := wo) (n := n) (yc := yc) (ya := ya) (ys := ys) (yd := yd) (q := q) (zc := zc) (zp := zp) (zr := zr) (zs := zs) (zf := zf) (z := z) (zm := zm) (zt := zt) (x := x) l hfl hq hk) (cwV 1 hts hg9 rfl rfl rfl (by decide +kernel) hR9) ⟨fun a U g mk q => ⟨q.1, q.2.1, va_K.moved (u := U) (U := U.calling g mk a) (Vm.Alike.refl U.vm) q.2.2.1, tX.same (u := U) (U := U.calling g mk a) rfl q.2.2.2⟩, rC_0 hK hP, fun U hU hW => ⟨rfl, by rw [hU]; exact hP, va_K.moved hW.alike hK, by rw [hU]; exact tX.warm hW hT⟩⟩ rfl rfl hl9 rfl (lv_room hw9) hdg hc9
end
set_option maxHeartbeats 4000000 in
set_option maxRecDepth 100000 in
theorem c_X3_mustBeLeast_ok (l : Launch) {dC : Nat → ClassId} {dI : Nat → Nat → Nat} {cI cZ : ClassId} {ad : Nat → Nat} {sm fe ex dy : Int32} {gp gc op gr st dl wo : Nat → Int32} {n : Nat} {yc ya ys yd : Nat → Int32} {q : Nat} {zc zp zr zs zf : Nat → Int32} {z : Nat} {zm zt : Int64} {x : Int32} (h1 : outN x (nI 0) (nI 100000) = 0) : Met l yX3_mustBeLeast wsX3_mustBeLeast { frames := 1, cells := 0, slots := 0, locals := 22 } (va_Pc [.ref (ad 0), .int x] (fun U => va_P (dC, dI) vwCl (wC cI cZ ad sm fe ex dy gp gc op gr st dl wo n yc ya ys yd q zc zp zr zs zf z zm zt) U.heap ∧ va_K (dC, dI) vwCl [(cI, .int), (cZ, .boolean)] U)) (va_Sv (fun _ => True)) 0 0 (fun _ => False) := by
  refine Met.ofW (cc := cX3_mustBeLeast) (maxL := 2) (ret := none) (by decide) rfl ?_
  intro p e s m args below meth c s₁ B hml hv
  obtain ⟨rfl, hP, hK⟩ := hv
  have hx := B.exec
  have hb := B.bytes
  have hr := B.returns
  have hts := atoms_spec (ws := wsX3_mustBeLeast) B.pre
  have hown : s.vm.findClass RX3 = some m.cls := findClass_of_methodNamed B.named
  have hlocks := B.notSynchronized
  have hl := lv_entry ([.ref (ad 0), .int x]) (n := 2) (Nat.le_of_ble_eq_true rfl)
  rw [lg_entry_eq]
  generalize (lg_sl ([.ref (ad 0), .int x]) ++ List.replicate (2 - (lg_sl ([.ref (ad 0), .int x])).length) Slot.unset).toArray = ls at hl ⊢
  have hl : lv_has ls 2 [(0, .ref (ad 0)), (1, .int x)] := hl
  have hk211 := hts (.constant RX3 211 100000) (by decide +kernel)
  refine lv_iload_n hx hb dX3_mustBeLeast_0 rfl (lv_at hl 1 rfl) ?_
  refine lv_iconst (v := nI 0) hx hb dX3_mustBeLeast_1 (by decide) ?_
  refine lv_ldc hx hb hown hk211 dX3_mustBeLeast_2 ?_
  refine zt_i (y := nI 100000) rfl ?_
  refine k_X3_isOutside l (x := x) (a := nI 0) (b := nI 100000) hx hb hml hown hts  gX3_mustBeLeast_X3_isOutside ⟨Nat.le_of_ble_eq_true rfl, Nat.le_of_ble_eq_true rfl⟩ ⟨Nat.le_of_ble_eq_true rfl, Nat.le_of_ble_eq_true rfl⟩ hl.1 (Nat.le_of_ble_eq_true rfl) dX3_mustBeLeast_4 ?_
  refine zi_eq (tgt := 20) hx hb (outN_lt _ _ _) dX3_mustBeLeast_7 (by decide) (fun c_7 => ?_) (fun c_7 => (show False by exact c_7 h1).elim)
  exact W.vret hx hb hr (fun t ht hW => ⟨rfl, trivial, ht⟩) (fun _ h => nomatch h) dX3_mustBeLeast_20
section
variable {p : Program} {e : Env} {R : Room} {s : State} {m : MethodId} {args : Array Value} {below : List Frame} {meth : Method} {c : Code} {H : Heap} {locs : List Loc} {cells slots : Nat} {Q : State → Prop} {cc : ByteArray} {pc : Nat} {ls : Array Slot} {rest : List Value} {own : String} {index nL : Nat} {Ts : List Cond} {H0 : Heap} {A0 : Nat → Prop}
theorem k_X3_mustBeLeast_ok (l : Launch) {dC : Nat → ClassId} {dI : Nat → Nat → Nat} {cI cZ : ClassId} {ad : Nat → Nat} {sm fe ex dy : Int32} {gp gc op gr st dl wo : Nat → Int32} {n : Nat} {yc ya ys yd : Nat → Int32} {q : Nat} {zc zp zr zs zf : Nat → Int32} {z : Nat} {zm zt : Int64} {x : Int32} (h1 : outN x (nI 0) (nI 100000) = 0) (hx : p.tables.exec = Jvm.exec) (hb : c.code = cc) (hml : c.maxLocals = nL) (hown : s.vm.findClass own = some m.cls) (hts : ∀ w ∈ Ts, w.before args s = true) (hK : va_K (dC, dI) vwCl [(cI, .int), (cZ, .boolean)] s) (hP : va_P (dC, dI) vwCl (wC cI cZ ad sm fe ex dy gp gc op gr st dl wo n yc ya ys yd q zc zp zr zs zf z zm zt) H) (hg9 : GoodIn Ts (wsV own index RX3 yX3_mustBeLeast wsX3_mustBeLeast)) (hR9 : 1 + 1 ≤ R.frames ∧ 8 + (2 + 11) + 22 ≤ R.locals) (hc9 : cells ≤ R.cells ∧ slots ≤ R.slots) (hl9 : ls.size = nL) (hw9 : (rest.map fun v => v.category).sum ≤ 8) (hdg : decode cc pc = .ok (.invokevirtual index, 3)) (kk : W p l e R s m args below meth c H locs cells slots Q (F0 m (pc + 3) ls rest)) : W p l e R s m args below meth c H locs cells slots Q (F0 m pc ls (.int x :: .ref (ad 0) :: rest)) := va_csv (W.runV (As := [.int x]) (rest := rest) ⟨hx, hb, hml, hown, hts⟩ (c_X3_mustBeLeast_ok (dC := dC) (dI := dI) (cI := cI) (cZ := cZ) (ad := ad) (sm := sm) (fe := fe) (ex := ex) (dy := dy) (gp := gp) (gc := gc) (op := op) (gr := gr) (st := st) (dl := dl) (wo := wo) (n := n) (yc := yc) (ya := ya) (ys := ys) (yd := yd) (q := q) (zc := zc) (zp := zp) (zr := zr) (zs := zs) (zf := zf) (z := z) (zm := zm) (zt := zt) (x := x) l h1) (cwV 1 hts hg9 rfl rfl rfl (by decide +kernel) hR9) ⟨fun a U g mk q => ⟨q.1, q.2.1, va_K.moved (u := U) (U := U.calling g mk a) (Vm.Alike.refl U.vm) q.2.2⟩, rC_0 hK hP, fun U hU hW => ⟨rfl, by rw [hU]; exact hP, va_K.moved hW.alike hK⟩⟩ rfl rfl hl9 rfl (lv_room hw9) hdg hc9) (fun _ => kk)
end
set_option maxHeartbeats 4000000 in
set_option maxRecDepth 100000 in
theorem c_X3_mustBeLeast_no (l : Launch) (hfl : l.stackTraces = false) {dC : Nat → ClassId} {dI : Nat → Nat → Nat} {cI cZ : ClassId} {ad : Nat → Nat} {sm fe ex dy : Int32} {gp gc op gr st dl wo : Nat → Int32} {n : Nat} {yc ya ys yd : Nat → Int32} {q : Nat} {zc zp zr zs zf : Nat → Int32} {z : Nat} {zm zt : Int64} {x : Int32} (h1 : ¬ outN x (nI 0) (nI 100000) = 0) : vx_Met l yX3_mustBeLeast wsX3_mustBeLeast { frames := 6, cells := 1, slots := 6, locals := 90 } (va_Pc [.ref (ad 0), .int x] (fun U => va_P (dC, dI) vwCl (wC cI cZ ad sm fe ex dy gp gc op gr st dl wo n yc ya ys yd q zc zp zr zs zf z zm zt) U.heap ∧ va_K (dC, dI) vwCl [(cI, .int), (cZ, .boolean)] U ∧ tX (fun _ => False) U U.heap)) (fun _ _ _ _ => False) (xT "java/lang/IllegalArgumentException") 1 6 (fun _ => False) := by
  refine vx_ofW (cc := cX3_mustBeLeast) (maxL := 2) (ret := none) (by decide) rfl ?_
  intro p e s m args below meth c s₁ B hml ht hv
  obtain ⟨rfl, hP, hK, hT⟩ := hv
  have hx := B.exec
  have hb := B.bytes
  have hr := B.returns
  have hts := atoms_spec (ws := wsX3_mustBeLeast) B.pre
  have hown : s.vm.findClass RX3 = some m.cls := findClass_of_methodNamed B.named
  have hlocks := B.notSynchronized
  have hl := lv_entry ([.ref (ad 0), .int x]) (n := 2) (Nat.le_of_ble_eq_true rfl)
  rw [lg_entry_eq]
  generalize (lg_sl ([.ref (ad 0), .int x]) ++ List.replicate (2 - (lg_sl ([.ref (ad 0), .int x])).length) Slot.unset).toArray = ls at hl ⊢
  have hl : lv_has ls 2 [(0, .ref (ad 0)), (1, .int x)] := hl
  have hk211 := hts (.constant RX3 211 100000) (by decide +kernel)
  refine lv_iload_n hx hb dX3_mustBeLeast_0 rfl (lv_at hl 1 rfl) ?_
  refine lv_iconst (v := nI 0) hx hb dX3_mustBeLeast_1 (by decide) ?_
  refine lv_ldc hx hb hown hk211 dX3_mustBeLeast_2 ?_
  refine zt_i (y := nI 100000) rfl ?_
  refine k_X3_isOutside l (x := x) (a := nI 0) (b := nI 100000) hx hb hml hown hts  gX3_mustBeLeast_X3_isOutside ⟨Nat.le_of_ble_eq_true rfl, Nat.le_of_ble_eq_true rfl⟩ ⟨Nat.le_of_ble_eq_true rfl, Nat.le_of_ble_eq_true rfl⟩ hl.1 (Nat.le_of_ble_eq_true rfl) dX3_mustBeLeast_4 ?_
  refine zi_eq (tgt := 20) hx hb (outN_lt _ _ _) dX3_mustBeLeast_7 (by decide) (fun c_7 => (show False by exact h1 c_7).elim) (fun c_7 => ?_)
  exact zx_IllegalArgumentException (is := 212) (text := "least is out of range") hx hb hfl hown hts hT (by decide +kernel) (by decide +kernel) (by decide +kernel) (by decide +kernel) (hl.1.trans hml.symm) dX3_mustBeLeast_10 dX3_mustBeLeast_13 dX3_mustBeLeast_14 dX3_mustBeLeast_16 dX3_mustBeLeast_19 ht hlocks (Nat.le_of_ble_eq_true rfl) (Nat.le_of_ble_eq_true rfl) (Nat.le_of_ble_eq_true rfl) (Nat.le_of_ble_eq_true rfl)
section
variable {p : Program} {e : Env} {R : Room} {s : State} {m : MethodId} {args : Array Value} {below : List Frame} {meth : Method} {c : Code} {H : Heap} {locs : List Loc} {cells slots : Nat} {Q : State → Prop} {cc : ByteArray} {pc : Nat} {ls : Array Slot} {rest : List Value} {own : String} {index nL : Nat} {Ts : List Cond} {H0 : Heap} {A0 : Nat → Prop}
theorem kr_X3_mustBeLeast_no (l : Launch) (hfl : l.stackTraces = false) {dC : Nat → ClassId} {dI : Nat → Nat → Nat} {cI cZ : ClassId} {ad : Nat → Nat} {sm fe ex dy : Int32} {gp gc op gr st dl wo : Nat → Int32} {n : Nat} {yc ya ys yd : Nat → Int32} {q : Nat} {zc zp zr zs zf : Nat → Int32} {z : Nat} {zm zt : Int64} {x : Int32} (h1 : ¬ outN x (nI 0) (nI 100000) = 0) (hx : p.tables.exec = Jvm.exec) (hb : c.code = cc) (hml : c.maxLocals = nL) (hown : s.vm.findClass own = some m.cls) (hts : ∀ w ∈ Ts, w.before args s = true) (hK : va_K (dC, dI) vwCl [(cI, .int), (cZ, .boolean)] s) (hP : va_P (dC, dI) vwCl (wC cI cZ ad sm fe ex dy gp gc op gr st dl wo n yc ya ys yd q zc zp zr zs zf z zm zt) H) (hg9 : GoodIn Ts (wsV own index RX3 yX3_mustBeLeast wsX3_mustBeLeast)) (hR9 : 6 + 1 ≤ R.frames ∧ 8 + (2 + 11) + 90 ≤ R.locals) (hc9 : cells + 1 ≤ R.cells ∧ slots + 6 ≤ R.slots) (hl9 : ls.size = nL) (hw9 : (rest.map fun v => v.category).sum ≤ 8) (hdg : decode cc pc = .ok (.invokevirtual index, 3)) (hT : tX (fun _ => False) s H) : vx_Run p l e R s m args below meth c H locs cells slots 1 6 (F0 m pc ls (.int x :: .ref (ad 0) :: rest)) rest (fun _ _ _ => False) (xT "java/lang/IllegalArgumentException") (fun _ => False) := vx_runV (As := [.int x]) (rest := rest) ⟨hx, hb, hml, hown, hts⟩ (c_X3_mustBeLeast_no (dC := dC) (dI := dI) (cI := cI) (cZ := cZ) (ad := ad) (sm := sm) (fe := fe) (ex := ex) (dy := dy) (gp := gp) (gc := gc) (op := op) (gr := gr) (st := st) (dl := dl) (wo := wo) (n := n) (yc := yc) (ya := ya) (ys := ys) (yd := yd) (q := q) (zc := zc) (zp := zp) (zr := zr) (zs := zs) (zf := zf) (z := z) (zm := zm) (zt := zt) (x := x) l hfl h1) (cwV 1 hts hg9 rfl rfl rfl (by decide +kernel) hR9) ⟨fun a U g mk q => ⟨q.1, q.2.1, va_K.moved (u := U) (U := U.calling g mk a) (Vm.Alike.refl U.vm) q.2.2.1, tX.same (u := U) (U := U.calling g mk a) rfl q.2.2.2⟩, rC_0 hK hP, fun U hU hW => ⟨rfl, by rw [hU]; exact hP, va_K.moved hW.alike hK, by rw [hU]; exact tX.warm hW hT⟩⟩ rfl rfl hl9 rfl (lv_room hw9) hdg hc9
end
set_option maxHeartbeats 4000000 in
set_option maxRecDepth 100000 in
theorem c_X3_mustHaveNoPayments_ok (l : Launch) {dC : Nat → ClassId} {dI : Nat → Nat → Nat} {cI cZ : ClassId} {ad : Nat → Nat} {sm fe ex dy : Int32} {gp gc op gr st dl wo : Nat → Int32} {n : Nat} {yc ya ys yd : Nat → Int32} {q : Nat} {zc zp zr zs zf : Nat → Int32} {z : Nat} {zm zt : Int64}  (h0 : q = 0) : Met l yX3_mustHaveNoPayments wsX3_mustHaveNoPayments { frames := 0, cells := 0, slots := 0, locals := 0 } (va_Pc [.ref (ad 0)] (fun U => va_P (dC, dI) vwCl (wC cI cZ ad sm fe ex dy gp gc op gr st dl wo n yc ya ys yd q zc zp zr zs zf z zm zt) U.heap ∧ va_K (dC, dI) vwCl [(cI, .int), (cZ, .boolean)] U)) (va_Sv (fun _ => True)) 0 0 (fun _ => False) := by
  refine Met.ofW (cc := cX3_mustHaveNoPayments) (maxL := 1) (ret := none) (by decide) rfl ?_
  intro p e s m args below meth c s₁ B hml hv
  obtain ⟨rfl, hP, hK⟩ := hv
  have hx := B.exec
  have hb := B.bytes
  have hr := B.returns
  have hts := atoms_spec (ws := wsX3_mustHaveNoPayments) B.pre
  have hown : s.vm.findClass RX3 = some m.cls := findClass_of_methodNamed B.named
  have hlocks := B.notSynchronized
  have hl := lv_entry ([.ref (ad 0)]) (n := 1) (Nat.le_of_ble_eq_true rfl)
  rw [lg_entry_eq]
  generalize (lg_sl ([.ref (ad 0)]) ++ List.replicate (1 - (lg_sl ([.ref (ad 0)])).length) Slot.unset).toArray = ls at hl ⊢
  have hl : lv_has ls 1 [(0, .ref (ad 0))] := hl
  have hiX3 : ∀ w ∈ wsX30, w ∈ wsX3_mustHaveNoPayments := by decide +kernel
  have hf26 := hts (.fieldLink RX3 26 "SettlementFund" "paymentBook" "LSettlementFund$PaymentBook;") (by decide +kernel)
  have hiX1 : ∀ w ∈ wsX10, w ∈ wsX3_mustHaveNoPayments := by decide +kernel
  have hf198 := hts (.fieldLink RX3 198 "SettlementFund$PaymentBook" "size" "I") (by decide +kernel)
  refine lv_aload_n hx hb dX3_mustHaveNoPayments_0 rfl (lv_at hl 0 rfl) ?_
  refine gC_0_7 hx hb hts hiX3 hown hK hP hf26 dX3_mustHaveNoPayments_1 ?_
  refine gC_9_4 hx hb hts hiX1 hown hK hP hf198 dX3_mustHaveNoPayments_4 ?_
  refine zi_le (tgt := 20) hx hb (by omega) dX3_mustHaveNoPayments_7 (by decide) (fun c_7 => ?_) (fun c_7 => (show False by omega).elim)
  exact W.vret hx hb hr (fun t ht hW => ⟨rfl, trivial, ht⟩) (fun _ h => nomatch h) dX3_mustHaveNoPayments_20
section
variable {p : Program} {e : Env} {R : Room} {s : State} {m : MethodId} {args : Array Value} {below : List Frame} {meth : Method} {c : Code} {H : Heap} {locs : List Loc} {cells slots : Nat} {Q : State → Prop} {cc : ByteArray} {pc : Nat} {ls : Array Slot} {rest : List Value} {own : String} {index nL : Nat} {Ts : List Cond} {H0 : Heap} {A0 : Nat → Prop}
theorem k_X3_mustHaveNoPayments_ok (l : Launch) {dC : Nat → ClassId} {dI : Nat → Nat → Nat} {cI cZ : ClassId} {ad : Nat → Nat} {sm fe ex dy : Int32} {gp gc op gr st dl wo : Nat → Int32} {n : Nat} {yc ya ys yd : Nat → Int32} {q : Nat} {zc zp zr zs zf : Nat → Int32} {z : Nat} {zm zt : Int64}  (h0 : q = 0) (hx : p.tables.exec = Jvm.exec) (hb : c.code = cc) (hml : c.maxLocals = nL) (hown : s.vm.findClass own = some m.cls) (hts : ∀ w ∈ Ts, w.before args s = true) (hK : va_K (dC, dI) vwCl [(cI, .int), (cZ, .boolean)] s) (hP : va_P (dC, dI) vwCl (wC cI cZ ad sm fe ex dy gp gc op gr st dl wo n yc ya ys yd q zc zp zr zs zf z zm zt) H) (hg9 : GoodIn Ts (wsV own index RX3 yX3_mustHaveNoPayments wsX3_mustHaveNoPayments)) (hR9 : 0 + 1 ≤ R.frames ∧ 8 + (1 + 11) + 0 ≤ R.locals) (hc9 : cells ≤ R.cells ∧ slots ≤ R.slots) (hl9 : ls.size = nL) (hw9 : (rest.map fun v => v.category).sum ≤ 8) (hdg : decode cc pc = .ok (.invokevirtual index, 3)) (kk : W p l e R s m args below meth c H locs cells slots Q (F0 m (pc + 3) ls rest)) : W p l e R s m args below meth c H locs cells slots Q (F0 m pc ls (.ref (ad 0) :: rest)) := va_csv (W.runV (As := []) (rest := rest) ⟨hx, hb, hml, hown, hts⟩ (c_X3_mustHaveNoPayments_ok (dC := dC) (dI := dI) (cI := cI) (cZ := cZ) (ad := ad) (sm := sm) (fe := fe) (ex := ex) (dy := dy) (gp := gp) (gc := gc) (op := op) (gr := gr) (st := st) (dl := dl) (wo := wo) (n := n) (yc := yc) (ya := ya) (ys := ys) (yd := yd) (q := q) (zc := zc) (zp := zp) (zr := zr) (zs := zs) (zf := zf) (z := z) (zm := zm) (zt := zt) l h0) (cwV 0 hts hg9 rfl rfl rfl (by decide +kernel) hR9) ⟨fun a U g mk q => ⟨q.1, q.2.1, va_K.moved (u := U) (U := U.calling g mk a) (Vm.Alike.refl U.vm) q.2.2⟩, rC_0 hK hP, fun U hU hW => ⟨rfl, by rw [hU]; exact hP, va_K.moved hW.alike hK⟩⟩ rfl rfl hl9 rfl (lv_room hw9) hdg hc9) (fun _ => kk)
end
set_option maxHeartbeats 4000000 in
set_option maxRecDepth 100000 in
theorem c_X3_mustHaveNoPayments_no (l : Launch) (hfl : l.stackTraces = false) {dC : Nat → ClassId} {dI : Nat → Nat → Nat} {cI cZ : ClassId} {ad : Nat → Nat} {sm fe ex dy : Int32} {gp gc op gr st dl wo : Nat → Int32} {n : Nat} {yc ya ys yd : Nat → Int32} {q : Nat} {zc zp zr zs zf : Nat → Int32} {z : Nat} {zm zt : Int64}  (hq : q ≤ 100) (h0 : ¬ q = 0) : vx_Met l yX3_mustHaveNoPayments wsX3_mustHaveNoPayments { frames := 6, cells := 1, slots := 6, locals := 90 } (va_Pc [.ref (ad 0)] (fun U => va_P (dC, dI) vwCl (wC cI cZ ad sm fe ex dy gp gc op gr st dl wo n yc ya ys yd q zc zp zr zs zf z zm zt) U.heap ∧ va_K (dC, dI) vwCl [(cI, .int), (cZ, .boolean)] U ∧ tX (fun _ => False) U U.heap)) (fun _ _ _ _ => False) (xT "java/lang/IllegalStateException") 1 6 (fun _ => False) := by
  refine vx_ofW (cc := cX3_mustHaveNoPayments) (maxL := 1) (ret := none) (by decide) rfl ?_
  intro p e s m args below meth c s₁ B hml ht hv
  obtain ⟨rfl, hP, hK, hT⟩ := hv
  have hx := B.exec
  have hb := B.bytes
  have hr := B.returns
  have hts := atoms_spec (ws := wsX3_mustHaveNoPayments) B.pre
  have hown : s.vm.findClass RX3 = some m.cls := findClass_of_methodNamed B.named
  have hlocks := B.notSynchronized
  have hl := lv_entry ([.ref (ad 0)]) (n := 1) (Nat.le_of_ble_eq_true rfl)
  rw [lg_entry_eq]
  generalize (lg_sl ([.ref (ad 0)]) ++ List.replicate (1 - (lg_sl ([.ref (ad 0)])).length) Slot.unset).toArray = ls at hl ⊢
  have hl : lv_has ls 1 [(0, .ref (ad 0))] := hl
  have hiX3 : ∀ w ∈ wsX30, w ∈ wsX3_mustHaveNoPayments := by decide +kernel
  have hf26 := hts (.fieldLink RX3 26 "SettlementFund" "paymentBook" "LSettlementFund$PaymentBook;") (by decide +kernel)
  have hiX1 : ∀ w ∈ wsX10, w ∈ wsX3_mustHaveNoPayments := by decide +kernel
  have hf198 := hts (.fieldLink RX3 198 "SettlementFund$PaymentBook" "size" "I") (by decide +kernel)
  refine lv_aload_n hx hb dX3_mustHaveNoPayments_0 rfl (lv_at hl 0 rfl) ?_
  refine gC_0_7 hx hb hts hiX3 hown hK hP hf26 dX3_mustHaveNoPayments_1 ?_
  refine gC_9_4 hx hb hts hiX1 hown hK hP hf198 dX3_mustHaveNoPayments_4 ?_
  refine zi_le (tgt := 20) hx hb (by omega) dX3_mustHaveNoPayments_7 (by decide) (fun c_7 => (show False by omega).elim) (fun c_7 => ?_)
  exact zx_IllegalStateException (is := 214) (text := "there are payments") hx hb hfl hown hts hT (by decide +kernel) (by decide +kernel) (by decide +kernel) (by decide +kernel) (hl.1.trans hml.symm) dX3_mustHaveNoPayments_10 dX3_mustHaveNoPayments_13 dX3_mustHaveNoPayments_14 dX3_mustHaveNoPayments_16 dX3_mustHaveNoPayments_19 ht hlocks (Nat.le_of_ble_eq_true rfl) (Nat.le_of_ble_eq_true rfl) (Nat.le_of_ble_eq_true rfl) (Nat.le_of_ble_eq_true rfl)
section
variable {p : Program} {e : Env} {R : Room} {s : State} {m : MethodId} {args : Array Value} {below : List Frame} {meth : Method} {c : Code} {H : Heap} {locs : List Loc} {cells slots : Nat} {Q : State → Prop} {cc : ByteArray} {pc : Nat} {ls : Array Slot} {rest : List Value} {own : String} {index nL : Nat} {Ts : List Cond} {H0 : Heap} {A0 : Nat → Prop}
theorem kr_X3_mustHaveNoPayments_no (l : Launch) (hfl : l.stackTraces = false) {dC : Nat → ClassId} {dI : Nat → Nat → Nat} {cI cZ : ClassId} {ad : Nat → Nat} {sm fe ex dy : Int32} {gp gc op gr st dl wo : Nat → Int32} {n : Nat} {yc ya ys yd : Nat → Int32} {q : Nat} {zc zp zr zs zf : Nat → Int32} {z : Nat} {zm zt : Int64}  (hq : q ≤ 100) (h0 : ¬ q = 0) (hx : p.tables.exec = Jvm.exec) (hb : c.code = cc) (hml : c.maxLocals = nL) (hown : s.vm.findClass own = some m.cls) (hts : ∀ w ∈ Ts, w.before args s = true) (hK : va_K (dC, dI) vwCl [(cI, .int), (cZ, .boolean)] s) (hP : va_P (dC, dI) vwCl (wC cI cZ ad sm fe ex dy gp gc op gr st dl wo n yc ya ys yd q zc zp zr zs zf z zm zt) H) (hg9 : GoodIn Ts (wsV own index RX3 yX3_mustHaveNoPayments wsX3_mustHaveNoPayments)) (hR9 : 6 + 1 ≤ R.frames ∧ 8 + (1 + 11) + 90 ≤ R.locals) (hc9 : cells + 1 ≤ R.cells ∧ slots + 6 ≤ R.slots) (hl9 : ls.size = nL) (hw9 : (rest.map fun v => v.category).sum ≤ 8) (hdg : decode cc pc = .ok (.invokevirtual index, 3)) (hT : tX (fun _ => False) s H) : vx_Run p l e R s m args below meth c H locs cells slots 1 6 (F0 m pc ls (.ref (ad 0) :: rest)) rest (fun _ _ _ => False) (xT "java/lang/IllegalStateException") (fun _ => False) := vx_runV (As := []) (rest := rest) ⟨hx, hb, hml, hown, hts⟩ (c_X3_mustHaveNoPayments_no (dC := dC) (dI := dI) (cI := cI) (cZ := cZ) (ad := ad) (sm := sm) (fe := fe) (ex := ex) (dy := dy) (gp := gp) (gc := gc) (op := op) (gr := gr) (st := st) (dl := dl) (wo := wo) (n := n) (yc := yc) (ya := ya) (ys := ys) (yd := yd) (q := q) (zc := zc) (zp := zp) (zr := zr) (zs := zs) (zf := zf) (z := z) (zm := zm) (zt := zt) l hfl hq h0) (cwV 0 hts hg9 rfl rfl rfl (by decide +kernel) hR9) ⟨fun a U g mk q => ⟨q.1, q.2.1, va_K.moved (u := U) (U := U.calling g mk a) (Vm.Alike.refl U.vm) q.2.2.1, tX.same (u := U) (U := U.calling g mk a) rfl q.2.2.2⟩, rC_0 hK hP, fun U hU hW => ⟨rfl, by rw [hU]; exact hP, va_K.moved hW.alike hK, by rw [hU]; exact tX.warm hW hT⟩⟩ rfl rfl hl9 rfl (lv_room hw9) hdg hc9
end
set_option maxHeartbeats 4000000 in
set_option maxRecDepth 100000 in
theorem c_X3_room_ok (l : Launch) {dC : Nat → ClassId} {dI : Nat → Nat → Nat} {cI cZ : ClassId} {ad : Nat → Nat} {sm fe ex dy : Int32} {gp gc op gr st dl wo : Nat → Int32} {n : Nat} {yc ya ys yd : Nat → Int32} {q : Nat} {zc zp zr zs zf : Nat → Int32} {z : Nat} {zm zt : Int64} {k : Nat} (hn : n ≤ 24) (hq : q ≤ 100) (hk : k < n) (hG : gr k = nI (gN gr k) ∧ gN gr k < 5) : Met l yX3_room wsX3_room { frames := 2, cells := 0, slots := 0, locals := 42 } (va_Pc [.ref (ad 0), .int (nI k)] (fun U => va_P (dC, dI) vwCl (wC cI cZ ad sm fe ex dy gp gc op gr st dl wo n yc ya ys yd q zc zp zr zs zf z zm zt) U.heap ∧ va_K (dC, dI) vwCl [(cI, .int), (cZ, .boolean)] U)) (vp_Si (fun r => r = roomF gc gr yc ya ys q k)) 0 0 (fun _ => False) := by
  refine Met.ofW (cc := cX3_room) (maxL := 3) (ret := (some .int)) (by decide) rfl ?_
  intro p e s m args below meth c s₁ B hml hv
  obtain ⟨rfl, hP, hK⟩ := hv
  have hx := B.exec
  have hb := B.bytes
  have hr := B.returns
  have hts := atoms_spec (ws := wsX3_room) B.pre
  have hown : s.vm.findClass RX3 = some m.cls := findClass_of_methodNamed B.named
  have hlocks := B.notSynchronized
  have hl := lv_entry ([.ref (ad 0), .int (nI k)]) (n := 3) (Nat.le_of_ble_eq_true rfl)
  rw [lg_entry_eq]
  generalize (lg_sl ([.ref (ad 0), .int (nI k)]) ++ List.replicate (3 - (lg_sl ([.ref (ad 0), .int (nI k)])).length) Slot.unset).toArray = ls at hl ⊢
  have hl : lv_has ls 3 [(0, .ref (ad 0)), (1, .int (nI k))] := hl
  have hiX3 : ∀ w ∈ wsX30, w ∈ wsX3_room := by decide +kernel
  have hf13 := hts (.fieldLink RX3 13 "SettlementFund" "gradeCap" "[I") (by decide +kernel)
  have hf19 := hts (.fieldLink RX3 19 "SettlementFund" "claimBook" "LSettlementFund$ClaimBook;") (by decide +kernel)
  have hiX0 : ∀ w ∈ wsX00, w ∈ wsX3_room := by decide +kernel
  have hf178 := hts (.fieldLink RX3 178 "SettlementFund$ClaimBook" "grade" "[I") (by decide +kernel)
  have hf26 := hts (.fieldLink RX3 26 "SettlementFund" "paymentBook" "LSettlementFund$PaymentBook;") (by decide +kernel)
  refine lv_aload_n hx hb dX3_room_0 rfl (lv_at hl 0 rfl) ?_
  refine lv_iload_n hx hb dX3_room_1 rfl (lv_at hl 1 rfl) ?_
  refine k_X3_mustBeClaim_ok l (k := k) (hn := hn) (hk := hk) hx hb hml hown hts hK hP gX3_room_X3_mustBeClaim ⟨Nat.le_of_ble_eq_true rfl, Nat.le_of_ble_eq_true rfl⟩ ⟨Nat.le_of_ble_eq_true rfl, Nat.le_of_ble_eq_true rfl⟩ hl.1 (Nat.le_of_ble_eq_true rfl) dX3_room_2 ?_
  refine lv_aload_n hx hb dX3_room_5 rfl (lv_at hl 0 rfl) ?_
  refine gC_0_5 hx hb hts hiX3 hown hK hP hf13 dX3_room_6 ?_
  refine lv_aload_n hx hb dX3_room_9 rfl (lv_at hl 0 rfl) ?_
  refine gC_0_6 hx hb hts hiX3 hown hK hP hf19 dX3_room_10 ?_
  refine gC_3_1 hx hb hts hiX0 hown hK hP hf178 dX3_room_13 ?_
  refine lv_iload_n hx hb dX3_room_16 rfl (lv_at hl 1 rfl) ?_
  refine lC_5 hx hb hK hP (by omega) dX3_room_17 ?_
  refine zt_i (y := nI (gN gr k)) (hG.1) ?_
  refine k_X3_valueAt_gc l (j := gN gr k) (hj := hG.2) hx hb hml hown hts hK hP gX3_room_X3_valueAt ⟨Nat.le_of_ble_eq_true rfl, Nat.le_of_ble_eq_true rfl⟩ ⟨Nat.le_of_ble_eq_true rfl, Nat.le_of_ble_eq_true rfl⟩ hl.1 (Nat.le_of_ble_eq_true rfl) dX3_room_18 ?_
  refine lv_aload_n hx hb dX3_room_21 rfl (lv_at hl 0 rfl) ?_
  refine gC_0_7 hx hb hts hiX3 hown hK hP hf26 dX3_room_22 ?_
  refine lv_iload_n hx hb dX3_room_25 rfl (lv_at hl 1 rfl) ?_
  refine k_X1_sumFor l (w := nI k) (hq := hq) hx hb hml hown hts hK hP gX3_room_X1_sumFor ⟨Nat.le_of_ble_eq_true rfl, Nat.le_of_ble_eq_true rfl⟩ ⟨Nat.le_of_ble_eq_true rfl, Nat.le_of_ble_eq_true rfl⟩ hl.1 (Nat.le_of_ble_eq_true rfl) dX3_room_26 ?_
  refine lv_isub hx hb dX3_room_29 ?_
  refine lv_istore_n (lv' := [(2, .int ((gc (gN gr k)) - (sumForI yc ya ys (nI k) q))), (0, .ref (ad 0)), (1, .int (nI k))]) hx hb dX3_room_30 rfl hl (by decide) rfl (fun ls hl => ?_)
  refine lv_iload_n hx hb dX3_room_31 rfl (lv_at hl 0 rfl) ?_
  refine lv_if_ge (tgt := 39) hx hb dX3_room_32 (by decide) (fun c_32 => ?_) (fun c_32 => ?_)
  · refine lv_iload_n hx hb dX3_room_39 rfl (lv_at hl 0 rfl) ?_
    exact W.iret (v := (gc (gN gr k)) - (sumForI yc ya ys (nI k) q)) hx hb hr (fun t ht hW => ⟨(gc (gN gr k)) - (sumForI yc ya ys (nI k) q), rfl, by first | rfl | (rw [if_pos (by omega)]; done) | (rw [if_neg (by omega)]; done) | (simp [roomF, c_32]; done), ht⟩) (fun _ h => nomatch h) dX3_room_40
  · refine lv_iconst (v := nI 0) hx hb dX3_room_35 (by decide) ?_
    refine lv_goto (tgt := 40) hx hb dX3_room_36 (by decide) ?_
    exact W.iret (v := nI 0) hx hb hr (fun t ht hW => ⟨nI 0, rfl, by first | rfl | (rw [if_pos (by omega)]; done) | (rw [if_neg (by omega)]; done) | (simp [roomF, c_32]; done), ht⟩) (fun _ h => nomatch h) dX3_room_40
section
variable {p : Program} {e : Env} {R : Room} {s : State} {m : MethodId} {args : Array Value} {below : List Frame} {meth : Method} {c : Code} {H : Heap} {locs : List Loc} {cells slots : Nat} {Q : State → Prop} {cc : ByteArray} {pc : Nat} {ls : Array Slot} {rest : List Value} {own : String} {index nL : Nat} {Ts : List Cond} {H0 : Heap} {A0 : Nat → Prop}
theorem k_X3_room_ok (l : Launch) {dC : Nat → ClassId} {dI : Nat → Nat → Nat} {cI cZ : ClassId} {ad : Nat → Nat} {sm fe ex dy : Int32} {gp gc op gr st dl wo : Nat → Int32} {n : Nat} {yc ya ys yd : Nat → Int32} {q : Nat} {zc zp zr zs zf : Nat → Int32} {z : Nat} {zm zt : Int64} {k : Nat} (hn : n ≤ 24) (hq : q ≤ 100) (hk : k < n) (hG : gr k = nI (gN gr k) ∧ gN gr k < 5) (hx : p.tables.exec = Jvm.exec) (hb : c.code = cc) (hml : c.maxLocals = nL) (hown : s.vm.findClass own = some m.cls) (hts : ∀ w ∈ Ts, w.before args s = true) (hK : va_K (dC, dI) vwCl [(cI, .int), (cZ, .boolean)] s) (hP : va_P (dC, dI) vwCl (wC cI cZ ad sm fe ex dy gp gc op gr st dl wo n yc ya ys yd q zc zp zr zs zf z zm zt) H) (hg9 : GoodIn Ts (wsV own index RX3 yX3_room wsX3_room)) (hR9 : 2 + 1 ≤ R.frames ∧ 8 + (3 + 11) + 42 ≤ R.locals) (hc9 : cells ≤ R.cells ∧ slots ≤ R.slots) (hl9 : ls.size = nL) (hw9 : (rest.map fun v => v.category).sum ≤ 8) (hdg : decode cc pc = .ok (.invokevirtual index, 3)) (kk : W p l e R s m args below meth c H locs cells slots Q (F0 m (pc + 3) ls (.int (roomF gc gr yc ya ys q k) :: rest))) : W p l e R s m args below meth c H locs cells slots Q (F0 m pc ls (.int (nI k) :: .ref (ad 0) :: rest)) := zc_ro (W.runV (As := [.int (nI k)]) (rest := rest) ⟨hx, hb, hml, hown, hts⟩ (c_X3_room_ok (dC := dC) (dI := dI) (cI := cI) (cZ := cZ) (ad := ad) (sm := sm) (fe := fe) (ex := ex) (dy := dy) (gp := gp) (gc := gc) (op := op) (gr := gr) (st := st) (dl := dl) (wo := wo) (n := n) (yc := yc) (ya := ya) (ys := ys) (yd := yd) (q := q) (zc := zc) (zp := zp) (zr := zr) (zs := zs) (zf := zf) (z := z) (zm := zm) (zt := zt) (k := k) l hn hq hk hG) (cwV 1 hts hg9 rfl rfl rfl (by decide +kernel) hR9) ⟨fun a U g mk q => ⟨q.1, q.2.1, va_K.moved (u := U) (U := U.calling g mk a) (Vm.Alike.refl U.vm) q.2.2⟩, rC_0 hK hP, fun U hU hW => ⟨rfl, by rw [hU]; exact hP, va_K.moved hW.alike hK⟩⟩ rfl rfl hl9 rfl (lv_room hw9) hdg hc9) (fun r h => by subst h; exact kk)
end
set_option maxHeartbeats 4000000 in
set_option maxRecDepth 100000 in
theorem c_X3_takesPart (l : Launch) {dC : Nat → ClassId} {dI : Nat → Nat → Nat} {cI cZ : ClassId} {ad : Nat → Nat} {sm fe ex dy : Int32} {gp gc op gr st dl wo : Nat → Int32} {n : Nat} {yc ya ys yd : Nat → Int32} {q : Nat} {zc zp zr zs zf : Nat → Int32} {z : Nat} {zm zt : Int64} {k : Nat} (hn : n ≤ 24) (hq : q ≤ 100) (hk : k < n) (hG : gr k = nI (gN gr k) ∧ gN gr k < 5) : Met l yX3_takesPart wsX3_takesPart { frames := 3, cells := 0, slots := 0, locals := 64 } (va_Pc [.ref (ad 0), .int (nI k)] (fun U => va_P (dC, dI) vwCl (wC cI cZ ad sm fe ex dy gp gc op gr st dl wo n yc ya ys yd q zc zp zr zs zf z zm zt) U.heap ∧ va_K (dC, dI) vwCl [(cI, .int), (cZ, .boolean)] U)) (vp_Si (fun r => r = nI (if takeB gc gr st yc ya ys q k = true then 1 else 0))) 0 0 (fun _ => False) := by
  refine Met.ofW (cc := cX3_takesPart) (maxL := 2) (ret := (some .boolean)) (by decide) rfl ?_
  intro p e s m args below meth c s₁ B hml hv
  obtain ⟨rfl, hP, hK⟩ := hv
  have hx := B.exec
  have hb := B.bytes
  have hr := B.returns
  have hts := atoms_spec (ws := wsX3_takesPart) B.pre
  have hown : s.vm.findClass RX3 = some m.cls := findClass_of_methodNamed B.named
  have hlocks := B.notSynchronized
  have hl := lv_entry ([.ref (ad 0), .int (nI k)]) (n := 2) (Nat.le_of_ble_eq_true rfl)
  rw [lg_entry_eq]
  generalize (lg_sl ([.ref (ad 0), .int (nI k)]) ++ List.replicate (2 - (lg_sl ([.ref (ad 0), .int (nI k)])).length) Slot.unset).toArray = ls at hl ⊢
  have hl : lv_has ls 2 [(0, .ref (ad 0)), (1, .int (nI k))] := hl
  have hiX3 : ∀ w ∈ wsX30, w ∈ wsX3_takesPart := by decide +kernel
  have hf19 := hts (.fieldLink RX3 19 "SettlementFund" "claimBook" "LSettlementFund$ClaimBook;") (by decide +kernel)
  have hiX0 : ∀ w ∈ wsX00, w ∈ wsX3_takesPart := by decide +kernel
  have hf115 := hts (.fieldLink RX3 115 "SettlementFund$ClaimBook" "state" "[I") (by decide +kernel)
  have hf26 := hts (.fieldLink RX3 26 "SettlementFund" "paymentBook" "LSettlementFund$PaymentBook;") (by decide +kernel)
  refine lv_aload_n hx hb dX3_takesPart_0 rfl (lv_at hl 0 rfl) ?_
  refine gC_0_6 hx hb hts hiX3 hown hK hP hf19 dX3_takesPart_1 ?_
  refine gC_3_2 hx hb hts hiX0 hown hK hP hf115 dX3_takesPart_4 ?_
  refine lv_iload_n hx hb dX3_takesPart_7 rfl (lv_at hl 1 rfl) ?_
  refine lC_6 hx hb hK hP (by omega) dX3_takesPart_8 ?_
  refine lv_if_ne (tgt := 35) hx hb dX3_takesPart_9 (by decide) (fun c_9 => ?_) (fun c_9 => ?_)
  · refine lv_iconst (v := nI 0) hx hb dX3_takesPart_35 (by decide) ?_
    exact W.zret (v := nI 0) hx hb hr (rfl) (fun t ht hW => ⟨nI 0, rfl, by simp [takeB, c_9], ht⟩) (fun _ h => nomatch h) dX3_takesPart_36
  · refine lv_aload_n hx hb dX3_takesPart_12 rfl (lv_at hl 0 rfl) ?_
    refine lv_iload_n hx hb dX3_takesPart_13 rfl (lv_at hl 1 rfl) ?_
    refine k_X3_room_ok l (k := k) (hn := hn) (hq := hq) (hk := hk) (hG := hG) hx hb hml hown hts hK hP gX3_takesPart_X3_room ⟨Nat.le_of_ble_eq_true rfl, Nat.le_of_ble_eq_true rfl⟩ ⟨Nat.le_of_ble_eq_true rfl, Nat.le_of_ble_eq_true rfl⟩ hl.1 (Nat.le_of_ble_eq_true rfl) dX3_takesPart_14 ?_
    refine lv_if_le (tgt := 35) hx hb dX3_takesPart_17 (by decide) (fun c_17 => ?_) (fun c_17 => ?_)
    · refine lv_iconst (v := nI 0) hx hb dX3_takesPart_35 (by decide) ?_
      exact W.zret (v := nI 0) hx hb hr (rfl) (fun t ht hW => ⟨nI 0, rfl, by simp [takeB, c_9, c_17], ht⟩) (fun _ h => nomatch h) dX3_takesPart_36
    · refine lv_aload_n hx hb dX3_takesPart_20 rfl (lv_at hl 0 rfl) ?_
      refine gC_0_7 hx hb hts hiX3 hown hK hP hf26 dX3_takesPart_21 ?_
      refine lv_iload_n hx hb dX3_takesPart_24 rfl (lv_at hl 1 rfl) ?_
      refine k_X1_hasVoidFor l (w := nI k) (hq := hq) hx hb hml hown hts hK hP gX3_takesPart_X1_hasVoidFor ⟨Nat.le_of_ble_eq_true rfl, Nat.le_of_ble_eq_true rfl⟩ ⟨Nat.le_of_ble_eq_true rfl, Nat.le_of_ble_eq_true rfl⟩ hl.1 (Nat.le_of_ble_eq_true rfl) dX3_takesPart_25 ?_
      refine zi_ne (tgt := 35) hx hb (by split <;> decide) dX3_takesPart_28 (by decide) (fun c_28 => ?_) (fun c_28 => ?_)
      · refine lv_iconst (v := nI 0) hx hb dX3_takesPart_35 (by decide) ?_
        exact W.zret (v := nI 0) hx hb hr (rfl) (fun t ht hW => ⟨nI 0, rfl, by have hv := zz_if_t c_28; simp [takeB, hv, c_9, c_17], ht⟩) (fun _ h => nomatch h) dX3_takesPart_36
      · refine lv_iconst (v := nI 1) hx hb dX3_takesPart_31 (by decide) ?_
        refine lv_goto (tgt := 36) hx hb dX3_takesPart_32 (by decide) ?_
        exact W.zret (v := nI 1) hx hb hr (rfl) (fun t ht hW => ⟨nI 1, rfl, by have hv := zz_if_f c_28; simp [takeB, hv, c_9, c_17], ht⟩) (fun _ h => nomatch h) dX3_takesPart_36
section
variable {p : Program} {e : Env} {R : Room} {s : State} {m : MethodId} {args : Array Value} {below : List Frame} {meth : Method} {c : Code} {H : Heap} {locs : List Loc} {cells slots : Nat} {Q : State → Prop} {cc : ByteArray} {pc : Nat} {ls : Array Slot} {rest : List Value} {own : String} {index nL : Nat} {Ts : List Cond} {H0 : Heap} {A0 : Nat → Prop}
theorem k_X3_takesPart (l : Launch) {dC : Nat → ClassId} {dI : Nat → Nat → Nat} {cI cZ : ClassId} {ad : Nat → Nat} {sm fe ex dy : Int32} {gp gc op gr st dl wo : Nat → Int32} {n : Nat} {yc ya ys yd : Nat → Int32} {q : Nat} {zc zp zr zs zf : Nat → Int32} {z : Nat} {zm zt : Int64} {k : Nat} (hn : n ≤ 24) (hq : q ≤ 100) (hk : k < n) (hG : gr k = nI (gN gr k) ∧ gN gr k < 5) (hx : p.tables.exec = Jvm.exec) (hb : c.code = cc) (hml : c.maxLocals = nL) (hown : s.vm.findClass own = some m.cls) (hts : ∀ w ∈ Ts, w.before args s = true) (hK : va_K (dC, dI) vwCl [(cI, .int), (cZ, .boolean)] s) (hP : va_P (dC, dI) vwCl (wC cI cZ ad sm fe ex dy gp gc op gr st dl wo n yc ya ys yd q zc zp zr zs zf z zm zt) H) (hg9 : GoodIn Ts (wsV own index RX3 yX3_takesPart wsX3_takesPart)) (hR9 : 3 + 1 ≤ R.frames ∧ 8 + (2 + 11) + 64 ≤ R.locals) (hc9 : cells ≤ R.cells ∧ slots ≤ R.slots) (hl9 : ls.size = nL) (hw9 : (rest.map fun v => v.category).sum ≤ 8) (hdg : decode cc pc = .ok (.invokevirtual index, 3)) (kk : W p l e R s m args below meth c H locs cells slots Q (F0 m (pc + 3) ls (.int (nI (if takeB gc gr st yc ya ys q k = true then 1 else 0)) :: rest))) : W p l e R s m args below meth c H locs cells slots Q (F0 m pc ls (.int (nI k) :: .ref (ad 0) :: rest)) := zc_ro (W.runV (As := [.int (nI k)]) (rest := rest) ⟨hx, hb, hml, hown, hts⟩ (c_X3_takesPart (dC := dC) (dI := dI) (cI := cI) (cZ := cZ) (ad := ad) (sm := sm) (fe := fe) (ex := ex) (dy := dy) (gp := gp) (gc := gc) (op := op) (gr := gr) (st := st) (dl := dl) (wo := wo) (n := n) (yc := yc) (ya := ya) (ys := ys) (yd := yd) (q := q) (zc := zc) (zp := zp) (zr := zr) (zs := zs) (zf := zf) (z := z) (zm := zm) (zt := zt) (k := k) l hn hq hk hG) (cwV 1 hts hg9 rfl rfl rfl (by decide +kernel) hR9) ⟨fun a U g mk q => ⟨q.1, q.2.1, va_K.moved (u := U) (U := U.calling g mk a) (Vm.Alike.refl U.vm) q.2.2⟩, rC_0 hK hP, fun U hU hW => ⟨rfl, by rw [hU]; exact hP, va_K.moved hW.alike hK⟩⟩ rfl rfl hl9 rfl (lv_room hw9) hdg hc9) (fun r h => by subst h; exact kk)
end
set_option maxHeartbeats 4000000 in
set_option maxRecDepth 100000 in
theorem c_X3_stateOf_no (l : Launch) (hfl : l.stackTraces = false) {dC : Nat → ClassId} {dI : Nat → Nat → Nat} {cI cZ : ClassId} {ad : Nat → Nat} {sm fe ex dy : Int32} {gp gc op gr st dl wo : Nat → Int32} {n : Nat} {yc ya ys yd : Nat → Int32} {q : Nat} {zc zp zr zs zf : Nat → Int32} {z : Nat} {zm zt : Int64} {x : Int32} (hn : n ≤ 24) (hk : ¬ vp_in x n) : vx_Met l yX3_stateOf wsX3_stateOf { frames := 7, cells := 1, slots := 6, locals := 111 } (va_Pc [.ref (ad 0), .int x] (fun U => va_P (dC, dI) vwCl (wC cI cZ ad sm fe ex dy gp gc op gr st dl wo n yc ya ys yd q zc zp zr zs zf z zm zt) U.heap ∧ va_K (dC, dI) vwCl [(cI, .int), (cZ, .boolean)] U ∧ tX (fun _ => False) U U.heap)) (fun _ _ _ _ => False) (xT "java/lang/IndexOutOfBoundsException") 1 6 (fun _ => False) := by
  refine vx_ofW (cc := cX3_stateOf) (maxL := 2) (ret := (some .int)) (by decide) rfl ?_
  intro p e s m args below meth c s₁ B hml ht hv
  obtain ⟨rfl, hP, hK, hT⟩ := hv
  have hx := B.exec
  have hb := B.bytes
  have hr := B.returns
  have hts := atoms_spec (ws := wsX3_stateOf) B.pre
  have hown : s.vm.findClass RX3 = some m.cls := findClass_of_methodNamed B.named
  have hlocks := B.notSynchronized
  have hl := lv_entry ([.ref (ad 0), .int x]) (n := 2) (Nat.le_of_ble_eq_true rfl)
  rw [lg_entry_eq]
  generalize (lg_sl ([.ref (ad 0), .int x]) ++ List.replicate (2 - (lg_sl ([.ref (ad 0), .int x])).length) Slot.unset).toArray = ls at hl ⊢
  have hl : lv_has ls 2 [(0, .ref (ad 0)), (1, .int x)] := hl
  refine lv_aload_n hx hb dX3_stateOf_0 rfl (lv_at hl 0 rfl) ?_
  refine lv_iload_n hx hb dX3_stateOf_1 rfl (lv_at hl 1 rfl) ?_
  exact zx_on (kr_X3_mustBeClaim_no l hfl (x := x) (hn := hn) (hk := hk) hx hb hml hown hts hK hP gX3_stateOf_X3_mustBeClaim ⟨Nat.le_of_ble_eq_true rfl, Nat.le_of_ble_eq_true rfl⟩ ⟨Nat.le_of_ble_eq_true rfl, Nat.le_of_ble_eq_true rfl⟩ hl.1 (Nat.le_of_ble_eq_true rfl) dX3_stateOf_2 hT) ht hlocks
section
variable {p : Program} {e : Env} {R : Room} {s : State} {m : MethodId} {args : Array Value} {below : List Frame} {meth : Method} {c : Code} {H : Heap} {locs : List Loc} {cells slots : Nat} {Q : State → Prop} {cc : ByteArray} {pc : Nat} {ls : Array Slot} {rest : List Value} {own : String} {index nL : Nat} {Ts : List Cond} {H0 : Heap} {A0 : Nat → Prop}
theorem kr_X3_stateOf_no (l : Launch) (hfl : l.stackTraces = false) {dC : Nat → ClassId} {dI : Nat → Nat → Nat} {cI cZ : ClassId} {ad : Nat → Nat} {sm fe ex dy : Int32} {gp gc op gr st dl wo : Nat → Int32} {n : Nat} {yc ya ys yd : Nat → Int32} {q : Nat} {zc zp zr zs zf : Nat → Int32} {z : Nat} {zm zt : Int64} {x : Int32} (hn : n ≤ 24) (hk : ¬ vp_in x n) (hx : p.tables.exec = Jvm.exec) (hb : c.code = cc) (hml : c.maxLocals = nL) (hown : s.vm.findClass own = some m.cls) (hts : ∀ w ∈ Ts, w.before args s = true) (hK : va_K (dC, dI) vwCl [(cI, .int), (cZ, .boolean)] s) (hP : va_P (dC, dI) vwCl (wC cI cZ ad sm fe ex dy gp gc op gr st dl wo n yc ya ys yd q zc zp zr zs zf z zm zt) H) (hg9 : GoodIn Ts (wsV own index RX3 yX3_stateOf wsX3_stateOf)) (hR9 : 7 + 1 ≤ R.frames ∧ 8 + (2 + 11) + 111 ≤ R.locals) (hc9 : cells + 1 ≤ R.cells ∧ slots + 6 ≤ R.slots) (hl9 : ls.size = nL) (hw9 : (rest.map fun v => v.category).sum ≤ 8) (hdg : decode cc pc = .ok (.invokevirtual index, 3)) (hT : tX (fun _ => False) s H) : vx_Run p l e R s m args below meth c H locs cells slots 1 6 (F0 m pc ls (.int x :: .ref (ad 0) :: rest)) rest (fun _ _ _ => False) (xT "java/lang/IndexOutOfBoundsException") (fun _ => False) := vx_runV (As := [.int x]) (rest := rest) ⟨hx, hb, hml, hown, hts⟩ (c_X3_stateOf_no (dC := dC) (dI := dI) (cI := cI) (cZ := cZ) (ad := ad) (sm := sm) (fe := fe) (ex := ex) (dy := dy) (gp := gp) (gc := gc) (op := op) (gr := gr) (st := st) (dl := dl) (wo := wo) (n := n) (yc := yc) (ya := ya) (ys := ys) (yd := yd) (q := q) (zc := zc) (zp := zp) (zr := zr) (zs := zs) (zf := zf) (z := z) (zm := zm) (zt := zt) (x := x) l hfl hn hk) (cwV 1 hts hg9 rfl rfl rfl (by decide +kernel) hR9) ⟨fun a U g mk q => ⟨q.1, q.2.1, va_K.moved (u := U) (U := U.calling g mk a) (Vm.Alike.refl U.vm) q.2.2.1, tX.same (u := U) (U := U.calling g mk a) rfl q.2.2.2⟩, rC_0 hK hP, fun U hU hW => ⟨rfl, by rw [hU]; exact hP, va_K.moved hW.alike hK, by rw [hU]; exact tX.warm hW hT⟩⟩ rfl rfl hl9 rfl (lv_room hw9) hdg hc9
end
set_option maxHeartbeats 4000000 in
set_option maxRecDepth 100000 in
theorem c_X3_gradeOf_no (l : Launch) (hfl : l.stackTraces = false) {dC : Nat → ClassId} {dI : Nat → Nat → Nat} {cI cZ : ClassId} {ad : Nat → Nat} {sm fe ex dy : Int32} {gp gc op gr st dl wo : Nat → Int32} {n : Nat} {yc ya ys yd : Nat → Int32} {q : Nat} {zc zp zr zs zf : Nat → Int32} {z : Nat} {zm zt : Int64} {x : Int32} (hn : n ≤ 24) (hk : ¬ vp_in x n) : vx_Met l yX3_gradeOf wsX3_gradeOf { frames := 7, cells := 1, slots := 6, locals := 111 } (va_Pc [.ref (ad 0), .int x] (fun U => va_P (dC, dI) vwCl (wC cI cZ ad sm fe ex dy gp gc op gr st dl wo n yc ya ys yd q zc zp zr zs zf z zm zt) U.heap ∧ va_K (dC, dI) vwCl [(cI, .int), (cZ, .boolean)] U ∧ tX (fun _ => False) U U.heap)) (fun _ _ _ _ => False) (xT "java/lang/IndexOutOfBoundsException") 1 6 (fun _ => False) := by
  refine vx_ofW (cc := cX3_gradeOf) (maxL := 2) (ret := (some .int)) (by decide) rfl ?_
  intro p e s m args below meth c s₁ B hml ht hv
  obtain ⟨rfl, hP, hK, hT⟩ := hv
  have hx := B.exec
  have hb := B.bytes
  have hr := B.returns
  have hts := atoms_spec (ws := wsX3_gradeOf) B.pre
  have hown : s.vm.findClass RX3 = some m.cls := findClass_of_methodNamed B.named
  have hlocks := B.notSynchronized
  have hl := lv_entry ([.ref (ad 0), .int x]) (n := 2) (Nat.le_of_ble_eq_true rfl)
  rw [lg_entry_eq]
  generalize (lg_sl ([.ref (ad 0), .int x]) ++ List.replicate (2 - (lg_sl ([.ref (ad 0), .int x])).length) Slot.unset).toArray = ls at hl ⊢
  have hl : lv_has ls 2 [(0, .ref (ad 0)), (1, .int x)] := hl
  refine lv_aload_n hx hb dX3_gradeOf_0 rfl (lv_at hl 0 rfl) ?_
  refine lv_iload_n hx hb dX3_gradeOf_1 rfl (lv_at hl 1 rfl) ?_
  exact zx_on (kr_X3_mustBeClaim_no l hfl (x := x) (hn := hn) (hk := hk) hx hb hml hown hts hK hP gX3_gradeOf_X3_mustBeClaim ⟨Nat.le_of_ble_eq_true rfl, Nat.le_of_ble_eq_true rfl⟩ ⟨Nat.le_of_ble_eq_true rfl, Nat.le_of_ble_eq_true rfl⟩ hl.1 (Nat.le_of_ble_eq_true rfl) dX3_gradeOf_2 hT) ht hlocks
section
variable {p : Program} {e : Env} {R : Room} {s : State} {m : MethodId} {args : Array Value} {below : List Frame} {meth : Method} {c : Code} {H : Heap} {locs : List Loc} {cells slots : Nat} {Q : State → Prop} {cc : ByteArray} {pc : Nat} {ls : Array Slot} {rest : List Value} {own : String} {index nL : Nat} {Ts : List Cond} {H0 : Heap} {A0 : Nat → Prop}
theorem kr_X3_gradeOf_no (l : Launch) (hfl : l.stackTraces = false) {dC : Nat → ClassId} {dI : Nat → Nat → Nat} {cI cZ : ClassId} {ad : Nat → Nat} {sm fe ex dy : Int32} {gp gc op gr st dl wo : Nat → Int32} {n : Nat} {yc ya ys yd : Nat → Int32} {q : Nat} {zc zp zr zs zf : Nat → Int32} {z : Nat} {zm zt : Int64} {x : Int32} (hn : n ≤ 24) (hk : ¬ vp_in x n) (hx : p.tables.exec = Jvm.exec) (hb : c.code = cc) (hml : c.maxLocals = nL) (hown : s.vm.findClass own = some m.cls) (hts : ∀ w ∈ Ts, w.before args s = true) (hK : va_K (dC, dI) vwCl [(cI, .int), (cZ, .boolean)] s) (hP : va_P (dC, dI) vwCl (wC cI cZ ad sm fe ex dy gp gc op gr st dl wo n yc ya ys yd q zc zp zr zs zf z zm zt) H) (hg9 : GoodIn Ts (wsV own index RX3 yX3_gradeOf wsX3_gradeOf)) (hR9 : 7 + 1 ≤ R.frames ∧ 8 + (2 + 11) + 111 ≤ R.locals) (hc9 : cells + 1 ≤ R.cells ∧ slots + 6 ≤ R.slots) (hl9 : ls.size = nL) (hw9 : (rest.map fun v => v.category).sum ≤ 8) (hdg : decode cc pc = .ok (.invokevirtual index, 3)) (hT : tX (fun _ => False) s H) : vx_Run p l e R s m args below meth c H locs cells slots 1 6 (F0 m pc ls (.int x :: .ref (ad 0) :: rest)) rest (fun _ _ _ => False) (xT "java/lang/IndexOutOfBoundsException") (fun _ => False) := vx_runV (As := [.int x]) (rest := rest) ⟨hx, hb, hml, hown, hts⟩ (c_X3_gradeOf_no (dC := dC) (dI := dI) (cI := cI) (cZ := cZ) (ad := ad) (sm := sm) (fe := fe) (ex := ex) (dy := dy) (gp := gp) (gc := gc) (op := op) (gr := gr) (st := st) (dl := dl) (wo := wo) (n := n) (yc := yc) (ya := ya) (ys := ys) (yd := yd) (q := q) (zc := zc) (zp := zp) (zr := zr) (zs := zs) (zf := zf) (z := z) (zm := zm) (zt := zt) (x := x) l hfl hn hk) (cwV 1 hts hg9 rfl rfl rfl (by decide +kernel) hR9) ⟨fun a U g mk q => ⟨q.1, q.2.1, va_K.moved (u := U) (U := U.calling g mk a) (Vm.Alike.refl U.vm) q.2.2.1, tX.same (u := U) (U := U.calling g mk a) rfl q.2.2.2⟩, rC_0 hK hP, fun U hU hW => ⟨rfl, by rw [hU]; exact hP, va_K.moved hW.alike hK, by rw [hU]; exact tX.warm hW hT⟩⟩ rfl rfl hl9 rfl (lv_room hw9) hdg hc9
end
set_option maxHeartbeats 4000000 in
set_option maxRecDepth 100000 in
theorem c_X3_room_no (l : Launch) (hfl : l.stackTraces = false) {dC : Nat → ClassId} {dI : Nat → Nat → Nat} {cI cZ : ClassId} {ad : Nat → Nat} {sm fe ex dy : Int32} {gp gc op gr st dl wo : Nat → Int32} {n : Nat} {yc ya ys yd : Nat → Int32} {q : Nat} {zc zp zr zs zf : Nat → Int32} {z : Nat} {zm zt : Int64} {x : Int32} (hn : n ≤ 24) (hk : ¬ vp_in x n) : vx_Met l yX3_room wsX3_room { frames := 7, cells := 1, slots := 6, locals := 111 } (va_Pc [.ref (ad 0), .int x] (fun U => va_P (dC, dI) vwCl (wC cI cZ ad sm fe ex dy gp gc op gr st dl wo n yc ya ys yd q zc zp zr zs zf z zm zt) U.heap ∧ va_K (dC, dI) vwCl [(cI, .int), (cZ, .boolean)] U ∧ tX (fun _ => False) U U.heap)) (fun _ _ _ _ => False) (xT "java/lang/IndexOutOfBoundsException") 1 6 (fun _ => False) := by
  refine vx_ofW (cc := cX3_room) (maxL := 3) (ret := (some .int)) (by decide) rfl ?_
  intro p e s m args below meth c s₁ B hml ht hv
  obtain ⟨rfl, hP, hK, hT⟩ := hv
  have hx := B.exec
  have hb := B.bytes
  have hr := B.returns
  have hts := atoms_spec (ws := wsX3_room) B.pre
  have hown : s.vm.findClass RX3 = some m.cls := findClass_of_methodNamed B.named
  have hlocks := B.notSynchronized
  have hl := lv_entry ([.ref (ad 0), .int x]) (n := 3) (Nat.le_of_ble_eq_true rfl)
  rw [lg_entry_eq]
  generalize (lg_sl ([.ref (ad 0), .int x]) ++ List.replicate (3 - (lg_sl ([.ref (ad 0), .int x])).length) Slot.unset).toArray = ls at hl ⊢
  have hl : lv_has ls 3 [(0, .ref (ad 0)), (1, .int x)] := hl
  refine lv_aload_n hx hb dX3_room_0 rfl (lv_at hl 0 rfl) ?_
  refine lv_iload_n hx hb dX3_room_1 rfl (lv_at hl 1 rfl) ?_
  exact zx_on (kr_X3_mustBeClaim_no l hfl (x := x) (hn := hn) (hk := hk) hx hb hml hown hts hK hP gX3_room_X3_mustBeClaim ⟨Nat.le_of_ble_eq_true rfl, Nat.le_of_ble_eq_true rfl⟩ ⟨Nat.le_of_ble_eq_true rfl, Nat.le_of_ble_eq_true rfl⟩ hl.1 (Nat.le_of_ble_eq_true rfl) dX3_room_2 hT) ht hlocks
section
variable {p : Program} {e : Env} {R : Room} {s : State} {m : MethodId} {args : Array Value} {below : List Frame} {meth : Method} {c : Code} {H : Heap} {locs : List Loc} {cells slots : Nat} {Q : State → Prop} {cc : ByteArray} {pc : Nat} {ls : Array Slot} {rest : List Value} {own : String} {index nL : Nat} {Ts : List Cond} {H0 : Heap} {A0 : Nat → Prop}
theorem kr_X3_room_no (l : Launch) (hfl : l.stackTraces = false) {dC : Nat → ClassId} {dI : Nat → Nat → Nat} {cI cZ : ClassId} {ad : Nat → Nat} {sm fe ex dy : Int32} {gp gc op gr st dl wo : Nat → Int32} {n : Nat} {yc ya ys yd : Nat → Int32} {q : Nat} {zc zp zr zs zf : Nat → Int32} {z : Nat} {zm zt : Int64} {x : Int32} (hn : n ≤ 24) (hk : ¬ vp_in x n) (hx : p.tables.exec = Jvm.exec) (hb : c.code = cc) (hml : c.maxLocals = nL) (hown : s.vm.findClass own = some m.cls) (hts : ∀ w ∈ Ts, w.before args s = true) (hK : va_K (dC, dI) vwCl [(cI, .int), (cZ, .boolean)] s) (hP : va_P (dC, dI) vwCl (wC cI cZ ad sm fe ex dy gp gc op gr st dl wo n yc ya ys yd q zc zp zr zs zf z zm zt) H) (hg9 : GoodIn Ts (wsV own index RX3 yX3_room wsX3_room)) (hR9 : 7 + 1 ≤ R.frames ∧ 8 + (3 + 11) + 111 ≤ R.locals) (hc9 : cells + 1 ≤ R.cells ∧ slots + 6 ≤ R.slots) (hl9 : ls.size = nL) (hw9 : (rest.map fun v => v.category).sum ≤ 8) (hdg : decode cc pc = .ok (.invokevirtual index, 3)) (hT : tX (fun _ => False) s H) : vx_Run p l e R s m args below meth c H locs cells slots 1 6 (F0 m pc ls (.int x :: .ref (ad 0) :: rest)) rest (fun _ _ _ => False) (xT "java/lang/IndexOutOfBoundsException") (fun _ => False) := vx_runV (As := [.int x]) (rest := rest) ⟨hx, hb, hml, hown, hts⟩ (c_X3_room_no (dC := dC) (dI := dI) (cI := cI) (cZ := cZ) (ad := ad) (sm := sm) (fe := fe) (ex := ex) (dy := dy) (gp := gp) (gc := gc) (op := op) (gr := gr) (st := st) (dl := dl) (wo := wo) (n := n) (yc := yc) (ya := ya) (ys := ys) (yd := yd) (q := q) (zc := zc) (zp := zp) (zr := zr) (zs := zs) (zf := zf) (z := z) (zm := zm) (zt := zt) (x := x) l hfl hn hk) (cwV 1 hts hg9 rfl rfl rfl (by decide +kernel) hR9) ⟨fun a U g mk q => ⟨q.1, q.2.1, va_K.moved (u := U) (U := U.calling g mk a) (Vm.Alike.refl U.vm) q.2.2.1, tX.same (u := U) (U := U.calling g mk a) rfl q.2.2.2⟩, rC_0 hK hP, fun U hU hW => ⟨rfl, by rw [hU]; exact hP, va_K.moved hW.alike hK, by rw [hU]; exact tX.warm hW hT⟩⟩ rfl rfl hl9 rfl (lv_room hw9) hdg hc9
end
set_option maxHeartbeats 4000000 in
set_option maxRecDepth 100000 in
theorem c_X3_paidTo_no (l : Launch) (hfl : l.stackTraces = false) {dC : Nat → ClassId} {dI : Nat → Nat → Nat} {cI cZ : ClassId} {ad : Nat → Nat} {sm fe ex dy : Int32} {gp gc op gr st dl wo : Nat → Int32} {n : Nat} {yc ya ys yd : Nat → Int32} {q : Nat} {zc zp zr zs zf : Nat → Int32} {z : Nat} {zm zt : Int64} {x : Int32} (hn : n ≤ 24) (hk : ¬ vp_in x n) : vx_Met l yX3_paidTo wsX3_paidTo { frames := 7, cells := 1, slots := 6, locals := 111 } (va_Pc [.ref (ad 0), .int x] (fun U => va_P (dC, dI) vwCl (wC cI cZ ad sm fe ex dy gp gc op gr st dl wo n yc ya ys yd q zc zp zr zs zf z zm zt) U.heap ∧ va_K (dC, dI) vwCl [(cI, .int), (cZ, .boolean)] U ∧ tX (fun _ => False) U U.heap)) (fun _ _ _ _ => False) (xT "java/lang/IndexOutOfBoundsException") 1 6 (fun _ => False) := by
  refine vx_ofW (cc := cX3_paidTo) (maxL := 2) (ret := (some .int)) (by decide) rfl ?_
  intro p e s m args below meth c s₁ B hml ht hv
  obtain ⟨rfl, hP, hK, hT⟩ := hv
  have hx := B.exec
  have hb := B.bytes
  have hr := B.returns
  have hts := atoms_spec (ws := wsX3_paidTo) B.pre
  have hown : s.vm.findClass RX3 = some m.cls := findClass_of_methodNamed B.named
  have hlocks := B.notSynchronized
  have hl := lv_entry ([.ref (ad 0), .int x]) (n := 2) (Nat.le_of_ble_eq_true rfl)
  rw [lg_entry_eq]
  generalize (lg_sl ([.ref (ad 0), .int x]) ++ List.replicate (2 - (lg_sl ([.ref (ad 0), .int x])).length) Slot.unset).toArray = ls at hl ⊢
  have hl : lv_has ls 2 [(0, .ref (ad 0)), (1, .int x)] := hl
  refine lv_aload_n hx hb dX3_paidTo_0 rfl (lv_at hl 0 rfl) ?_
  refine lv_iload_n hx hb dX3_paidTo_1 rfl (lv_at hl 1 rfl) ?_
  exact zx_on (kr_X3_mustBeClaim_no l hfl (x := x) (hn := hn) (hk := hk) hx hb hml hown hts hK hP gX3_paidTo_X3_mustBeClaim ⟨Nat.le_of_ble_eq_true rfl, Nat.le_of_ble_eq_true rfl⟩ ⟨Nat.le_of_ble_eq_true rfl, Nat.le_of_ble_eq_true rfl⟩ hl.1 (Nat.le_of_ble_eq_true rfl) dX3_paidTo_2 hT) ht hlocks
section
variable {p : Program} {e : Env} {R : Room} {s : State} {m : MethodId} {args : Array Value} {below : List Frame} {meth : Method} {c : Code} {H : Heap} {locs : List Loc} {cells slots : Nat} {Q : State → Prop} {cc : ByteArray} {pc : Nat} {ls : Array Slot} {rest : List Value} {own : String} {index nL : Nat} {Ts : List Cond} {H0 : Heap} {A0 : Nat → Prop}
theorem kr_X3_paidTo_no (l : Launch) (hfl : l.stackTraces = false) {dC : Nat → ClassId} {dI : Nat → Nat → Nat} {cI cZ : ClassId} {ad : Nat → Nat} {sm fe ex dy : Int32} {gp gc op gr st dl wo : Nat → Int32} {n : Nat} {yc ya ys yd : Nat → Int32} {q : Nat} {zc zp zr zs zf : Nat → Int32} {z : Nat} {zm zt : Int64} {x : Int32} (hn : n ≤ 24) (hk : ¬ vp_in x n) (hx : p.tables.exec = Jvm.exec) (hb : c.code = cc) (hml : c.maxLocals = nL) (hown : s.vm.findClass own = some m.cls) (hts : ∀ w ∈ Ts, w.before args s = true) (hK : va_K (dC, dI) vwCl [(cI, .int), (cZ, .boolean)] s) (hP : va_P (dC, dI) vwCl (wC cI cZ ad sm fe ex dy gp gc op gr st dl wo n yc ya ys yd q zc zp zr zs zf z zm zt) H) (hg9 : GoodIn Ts (wsV own index RX3 yX3_paidTo wsX3_paidTo)) (hR9 : 7 + 1 ≤ R.frames ∧ 8 + (2 + 11) + 111 ≤ R.locals) (hc9 : cells + 1 ≤ R.cells ∧ slots + 6 ≤ R.slots) (hl9 : ls.size = nL) (hw9 : (rest.map fun v => v.category).sum ≤ 8) (hdg : decode cc pc = .ok (.invokevirtual index, 3)) (hT : tX (fun _ => False) s H) : vx_Run p l e R s m args below meth c H locs cells slots 1 6 (F0 m pc ls (.int x :: .ref (ad 0) :: rest)) rest (fun _ _ _ => False) (xT "java/lang/IndexOutOfBoundsException") (fun _ => False) := vx_runV (As := [.int x]) (rest := rest) ⟨hx, hb, hml, hown, hts⟩ (c_X3_paidTo_no (dC := dC) (dI := dI) (cI := cI) (cZ := cZ) (ad := ad) (sm := sm) (fe := fe) (ex := ex) (dy := dy) (gp := gp) (gc := gc) (op := op) (gr := gr) (st := st) (dl := dl) (wo := wo) (n := n) (yc := yc) (ya := ya) (ys := ys) (yd := yd) (q := q) (zc := zc) (zp := zp) (zr := zr) (zs := zs) (zf := zf) (z := z) (zm := zm) (zt := zt) (x := x) l hfl hn hk) (cwV 1 hts hg9 rfl rfl rfl (by decide +kernel) hR9) ⟨fun a U g mk q => ⟨q.1, q.2.1, va_K.moved (u := U) (U := U.calling g mk a) (Vm.Alike.refl U.vm) q.2.2.1, tX.same (u := U) (U := U.calling g mk a) rfl q.2.2.2⟩, rC_0 hK hP, fun U hU hW => ⟨rfl, by rw [hU]; exact hP, va_K.moved hW.alike hK, by rw [hU]; exact tX.warm hW hT⟩⟩ rfl rfl hl9 rfl (lv_room hw9) hdg hc9
end
set_option maxHeartbeats 4000000 in
set_option maxRecDepth 100000 in
theorem c_X3_cure_no (l : Launch) (hfl : l.stackTraces = false) {dC : Nat → ClassId} {dI : Nat → Nat → Nat} {cI cZ : ClassId} {ad : Nat → Nat} {sm fe ex dy : Int32} {gp gc op gr st dl wo : Nat → Int32} {n : Nat} {yc ya ys yd : Nat → Int32} {q : Nat} {zc zp zr zs zf : Nat → Int32} {z : Nat} {zm zt : Int64} {x : Int32} (hn : n ≤ 24) (hk : ¬ vp_in x n) : vx_Met l yX3_cure wsX3_cure { frames := 7, cells := 1, slots := 6, locals := 111 } (va_Pc [.ref (ad 0), .int x] (fun U => va_P (dC, dI) vwCl (wC cI cZ ad sm fe ex dy gp gc op gr st dl wo n yc ya ys yd q zc zp zr zs zf z zm zt) U.heap ∧ va_K (dC, dI) vwCl [(cI, .int), (cZ, .boolean)] U ∧ tX (fun _ => False) U U.heap)) (fun _ _ _ _ => False) (xT "java/lang/IndexOutOfBoundsException") 1 6 (fun _ => False) := by
  refine vx_ofW (cc := cX3_cure) (maxL := 2) (ret := (some .int)) (by decide) rfl ?_
  intro p e s m args below meth c s₁ B hml ht hv
  obtain ⟨rfl, hP, hK, hT⟩ := hv
  have hx := B.exec
  have hb := B.bytes
  have hr := B.returns
  have hts := atoms_spec (ws := wsX3_cure) B.pre
  have hown : s.vm.findClass RX3 = some m.cls := findClass_of_methodNamed B.named
  have hlocks := B.notSynchronized
  have hl := lv_entry ([.ref (ad 0), .int x]) (n := 2) (Nat.le_of_ble_eq_true rfl)
  rw [lg_entry_eq]
  generalize (lg_sl ([.ref (ad 0), .int x]) ++ List.replicate (2 - (lg_sl ([.ref (ad 0), .int x])).length) Slot.unset).toArray = ls at hl ⊢
  have hl : lv_has ls 2 [(0, .ref (ad 0)), (1, .int x)] := hl
  refine lv_aload_n hx hb dX3_cure_0 rfl (lv_at hl 0 rfl) ?_
  refine lv_iload_n hx hb dX3_cure_1 rfl (lv_at hl 1 rfl) ?_
  exact zx_on (kr_X3_mustBeClaim_no l hfl (x := x) (hn := hn) (hk := hk) hx hb hml hown hts hK hP gX3_cure_X3_mustBeClaim ⟨Nat.le_of_ble_eq_true rfl, Nat.le_of_ble_eq_true rfl⟩ ⟨Nat.le_of_ble_eq_true rfl, Nat.le_of_ble_eq_true rfl⟩ hl.1 (Nat.le_of_ble_eq_true rfl) dX3_cure_2 hT) ht hlocks
section
variable {p : Program} {e : Env} {R : Room} {s : State} {m : MethodId} {args : Array Value} {below : List Frame} {meth : Method} {c : Code} {H : Heap} {locs : List Loc} {cells slots : Nat} {Q : State → Prop} {cc : ByteArray} {pc : Nat} {ls : Array Slot} {rest : List Value} {own : String} {index nL : Nat} {Ts : List Cond} {H0 : Heap} {A0 : Nat → Prop}
theorem kr_X3_cure_no (l : Launch) (hfl : l.stackTraces = false) {dC : Nat → ClassId} {dI : Nat → Nat → Nat} {cI cZ : ClassId} {ad : Nat → Nat} {sm fe ex dy : Int32} {gp gc op gr st dl wo : Nat → Int32} {n : Nat} {yc ya ys yd : Nat → Int32} {q : Nat} {zc zp zr zs zf : Nat → Int32} {z : Nat} {zm zt : Int64} {x : Int32} (hn : n ≤ 24) (hk : ¬ vp_in x n) (hx : p.tables.exec = Jvm.exec) (hb : c.code = cc) (hml : c.maxLocals = nL) (hown : s.vm.findClass own = some m.cls) (hts : ∀ w ∈ Ts, w.before args s = true) (hK : va_K (dC, dI) vwCl [(cI, .int), (cZ, .boolean)] s) (hP : va_P (dC, dI) vwCl (wC cI cZ ad sm fe ex dy gp gc op gr st dl wo n yc ya ys yd q zc zp zr zs zf z zm zt) H) (hg9 : GoodIn Ts (wsV own index RX3 yX3_cure wsX3_cure)) (hR9 : 7 + 1 ≤ R.frames ∧ 8 + (2 + 11) + 111 ≤ R.locals) (hc9 : cells + 1 ≤ R.cells ∧ slots + 6 ≤ R.slots) (hl9 : ls.size = nL) (hw9 : (rest.map fun v => v.category).sum ≤ 8) (hdg : decode cc pc = .ok (.invokevirtual index, 3)) (hT : tX (fun _ => False) s H) : vx_Run p l e R s m args below meth c H locs cells slots 1 6 (F0 m pc ls (.int x :: .ref (ad 0) :: rest)) rest (fun _ _ _ => False) (xT "java/lang/IndexOutOfBoundsException") (fun _ => False) := vx_runV (As := [.int x]) (rest := rest) ⟨hx, hb, hml, hown, hts⟩ (c_X3_cure_no (dC := dC) (dI := dI) (cI := cI) (cZ := cZ) (ad := ad) (sm := sm) (fe := fe) (ex := ex) (dy := dy) (gp := gp) (gc := gc) (op := op) (gr := gr) (st := st) (dl := dl) (wo := wo) (n := n) (yc := yc) (ya := ya) (ys := ys) (yd := yd) (q := q) (zc := zc) (zp := zp) (zr := zr) (zs := zs) (zf := zf) (z := z) (zm := zm) (zt := zt) (x := x) l hfl hn hk) (cwV 1 hts hg9 rfl rfl rfl (by decide +kernel) hR9) ⟨fun a U g mk q => ⟨q.1, q.2.1, va_K.moved (u := U) (U := U.calling g mk a) (Vm.Alike.refl U.vm) q.2.2.1, tX.same (u := U) (U := U.calling g mk a) rfl q.2.2.2⟩, rC_0 hK hP, fun U hU hW => ⟨rfl, by rw [hU]; exact hP, va_K.moved hW.alike hK, by rw [hU]; exact tX.warm hW hT⟩⟩ rfl rfl hl9 rfl (lv_room hw9) hdg hc9
end
set_option maxHeartbeats 4000000 in
set_option maxRecDepth 100000 in
theorem c_X3_deny_no (l : Launch) (hfl : l.stackTraces = false) {dC : Nat → ClassId} {dI : Nat → Nat → Nat} {cI cZ : ClassId} {ad : Nat → Nat} {sm fe ex dy : Int32} {gp gc op gr st dl wo : Nat → Int32} {n : Nat} {yc ya ys yd : Nat → Int32} {q : Nat} {zc zp zr zs zf : Nat → Int32} {z : Nat} {zm zt : Int64} {x : Int32} (hn : n ≤ 24) (hk : ¬ vp_in x n) : vx_Met l yX3_deny wsX3_deny { frames := 7, cells := 1, slots := 6, locals := 111 } (va_Pc [.ref (ad 0), .int x] (fun U => va_P (dC, dI) vwCl (wC cI cZ ad sm fe ex dy gp gc op gr st dl wo n yc ya ys yd q zc zp zr zs zf z zm zt) U.heap ∧ va_K (dC, dI) vwCl [(cI, .int), (cZ, .boolean)] U ∧ tX (fun _ => False) U U.heap)) (fun _ _ _ _ => False) (xT "java/lang/IndexOutOfBoundsException") 1 6 (fun _ => False) := by
  refine vx_ofW (cc := cX3_deny) (maxL := 3) (ret := (some .int)) (by decide) rfl ?_
  intro p e s m args below meth c s₁ B hml ht hv
  obtain ⟨rfl, hP, hK, hT⟩ := hv
  have hx := B.exec
  have hb := B.bytes
  have hr := B.returns
  have hts := atoms_spec (ws := wsX3_deny) B.pre
  have hown : s.vm.findClass RX3 = some m.cls := findClass_of_methodNamed B.named
  have hlocks := B.notSynchronized
  have hl := lv_entry ([.ref (ad 0), .int x]) (n := 3) (Nat.le_of_ble_eq_true rfl)
  rw [lg_entry_eq]
  generalize (lg_sl ([.ref (ad 0), .int x]) ++ List.replicate (3 - (lg_sl ([.ref (ad 0), .int x])).length) Slot.unset).toArray = ls at hl ⊢
  have hl : lv_has ls 3 [(0, .ref (ad 0)), (1, .int x)] := hl
  refine lv_aload_n hx hb dX3_deny_0 rfl (lv_at hl 0 rfl) ?_
  refine lv_iload_n hx hb dX3_deny_1 rfl (lv_at hl 1 rfl) ?_
  exact zx_on (kr_X3_mustBeClaim_no l hfl (x := x) (hn := hn) (hk := hk) hx hb hml hown hts hK hP gX3_deny_X3_mustBeClaim ⟨Nat.le_of_ble_eq_true rfl, Nat.le_of_ble_eq_true rfl⟩ ⟨Nat.le_of_ble_eq_true rfl, Nat.le_of_ble_eq_true rfl⟩ hl.1 (Nat.le_of_ble_eq_true rfl) dX3_deny_2 hT) ht hlocks
section
variable {p : Program} {e : Env} {R : Room} {s : State} {m : MethodId} {args : Array Value} {below : List Frame} {meth : Method} {c : Code} {H : Heap} {locs : List Loc} {cells slots : Nat} {Q : State → Prop} {cc : ByteArray} {pc : Nat} {ls : Array Slot} {rest : List Value} {own : String} {index nL : Nat} {Ts : List Cond} {H0 : Heap} {A0 : Nat → Prop}
theorem kr_X3_deny_no (l : Launch) (hfl : l.stackTraces = false) {dC : Nat → ClassId} {dI : Nat → Nat → Nat} {cI cZ : ClassId} {ad : Nat → Nat} {sm fe ex dy : Int32} {gp gc op gr st dl wo : Nat → Int32} {n : Nat} {yc ya ys yd : Nat → Int32} {q : Nat} {zc zp zr zs zf : Nat → Int32} {z : Nat} {zm zt : Int64} {x : Int32} (hn : n ≤ 24) (hk : ¬ vp_in x n) (hx : p.tables.exec = Jvm.exec) (hb : c.code = cc) (hml : c.maxLocals = nL) (hown : s.vm.findClass own = some m.cls) (hts : ∀ w ∈ Ts, w.before args s = true) (hK : va_K (dC, dI) vwCl [(cI, .int), (cZ, .boolean)] s) (hP : va_P (dC, dI) vwCl (wC cI cZ ad sm fe ex dy gp gc op gr st dl wo n yc ya ys yd q zc zp zr zs zf z zm zt) H) (hg9 : GoodIn Ts (wsV own index RX3 yX3_deny wsX3_deny)) (hR9 : 7 + 1 ≤ R.frames ∧ 8 + (3 + 11) + 111 ≤ R.locals) (hc9 : cells + 1 ≤ R.cells ∧ slots + 6 ≤ R.slots) (hl9 : ls.size = nL) (hw9 : (rest.map fun v => v.category).sum ≤ 8) (hdg : decode cc pc = .ok (.invokevirtual index, 3)) (hT : tX (fun _ => False) s H) : vx_Run p l e R s m args below meth c H locs cells slots 1 6 (F0 m pc ls (.int x :: .ref (ad 0) :: rest)) rest (fun _ _ _ => False) (xT "java/lang/IndexOutOfBoundsException") (fun _ => False) := vx_runV (As := [.int x]) (rest := rest) ⟨hx, hb, hml, hown, hts⟩ (c_X3_deny_no (dC := dC) (dI := dI) (cI := cI) (cZ := cZ) (ad := ad) (sm := sm) (fe := fe) (ex := ex) (dy := dy) (gp := gp) (gc := gc) (op := op) (gr := gr) (st := st) (dl := dl) (wo := wo) (n := n) (yc := yc) (ya := ya) (ys := ys) (yd := yd) (q := q) (zc := zc) (zp := zp) (zr := zr) (zs := zs) (zf := zf) (z := z) (zm := zm) (zt := zt) (x := x) l hfl hn hk) (cwV 1 hts hg9 rfl rfl rfl (by decide +kernel) hR9) ⟨fun a U g mk q => ⟨q.1, q.2.1, va_K.moved (u := U) (U := U.calling g mk a) (Vm.Alike.refl U.vm) q.2.2.1, tX.same (u := U) (U := U.calling g mk a) rfl q.2.2.2⟩, rC_0 hK hP, fun U hU hW => ⟨rfl, by rw [hU]; exact hP, va_K.moved hW.alike hK, by rw [hU]; exact tX.warm hW hT⟩⟩ rfl rfl hl9 rfl (lv_room hw9) hdg hc9
end
set_option maxHeartbeats 4000000 in
set_option maxRecDepth 100000 in
theorem c_X3_object_no (l : Launch) (hfl : l.stackTraces = false) {dC : Nat → ClassId} {dI : Nat → Nat → Nat} {cI cZ : ClassId} {ad : Nat → Nat} {sm fe ex dy : Int32} {gp gc op gr st dl wo : Nat → Int32} {n : Nat} {yc ya ys yd : Nat → Int32} {q : Nat} {zc zp zr zs zf : Nat → Int32} {z : Nat} {zm zt : Int64} {x : Int32} (hn : n ≤ 24) (hk : ¬ vp_in x n) : vx_Met l yX3_object wsX3_object { frames := 7, cells := 1, slots := 6, locals := 111 } (va_Pc [.ref (ad 0), .int x] (fun U => va_P (dC, dI) vwCl (wC cI cZ ad sm fe ex dy gp gc op gr st dl wo n yc ya ys yd q zc zp zr zs zf z zm zt) U.heap ∧ va_K (dC, dI) vwCl [(cI, .int), (cZ, .boolean)] U ∧ tX (fun _ => False) U U.heap)) (fun _ _ _ _ => False) (xT "java/lang/IndexOutOfBoundsException") 1 6 (fun _ => False) := by
  refine vx_ofW (cc := cX3_object) (maxL := 2) (ret := (some .int)) (by decide) rfl ?_
  intro p e s m args below meth c s₁ B hml ht hv
  obtain ⟨rfl, hP, hK, hT⟩ := hv
  have hx := B.exec
  have hb := B.bytes
  have hr := B.returns
  have hts := atoms_spec (ws := wsX3_object) B.pre
  have hown : s.vm.findClass RX3 = some m.cls := findClass_of_methodNamed B.named
  have hlocks := B.notSynchronized
  have hl := lv_entry ([.ref (ad 0), .int x]) (n := 2) (Nat.le_of_ble_eq_true rfl)
  rw [lg_entry_eq]
  generalize (lg_sl ([.ref (ad 0), .int x]) ++ List.replicate (2 - (lg_sl ([.ref (ad 0), .int x])).length) Slot.unset).toArray = ls at hl ⊢
  have hl : lv_has ls 2 [(0, .ref (ad 0)), (1, .int x)] := hl
  refine lv_aload_n hx hb dX3_object_0 rfl (lv_at hl 0 rfl) ?_
  refine lv_iload_n hx hb dX3_object_1 rfl (lv_at hl 1 rfl) ?_
  exact zx_on (kr_X3_mustBeClaim_no l hfl (x := x) (hn := hn) (hk := hk) hx hb hml hown hts hK hP gX3_object_X3_mustBeClaim ⟨Nat.le_of_ble_eq_true rfl, Nat.le_of_ble_eq_true rfl⟩ ⟨Nat.le_of_ble_eq_true rfl, Nat.le_of_ble_eq_true rfl⟩ hl.1 (Nat.le_of_ble_eq_true rfl) dX3_object_2 hT) ht hlocks
section
variable {p : Program} {e : Env} {R : Room} {s : State} {m : MethodId} {args : Array Value} {below : List Frame} {meth : Method} {c : Code} {H : Heap} {locs : List Loc} {cells slots : Nat} {Q : State → Prop} {cc : ByteArray} {pc : Nat} {ls : Array Slot} {rest : List Value} {own : String} {index nL : Nat} {Ts : List Cond} {H0 : Heap} {A0 : Nat → Prop}
theorem kr_X3_object_no (l : Launch) (hfl : l.stackTraces = false) {dC : Nat → ClassId} {dI : Nat → Nat → Nat} {cI cZ : ClassId} {ad : Nat → Nat} {sm fe ex dy : Int32} {gp gc op gr st dl wo : Nat → Int32} {n : Nat} {yc ya ys yd : Nat → Int32} {q : Nat} {zc zp zr zs zf : Nat → Int32} {z : Nat} {zm zt : Int64} {x : Int32} (hn : n ≤ 24) (hk : ¬ vp_in x n) (hx : p.tables.exec = Jvm.exec) (hb : c.code = cc) (hml : c.maxLocals = nL) (hown : s.vm.findClass own = some m.cls) (hts : ∀ w ∈ Ts, w.before args s = true) (hK : va_K (dC, dI) vwCl [(cI, .int), (cZ, .boolean)] s) (hP : va_P (dC, dI) vwCl (wC cI cZ ad sm fe ex dy gp gc op gr st dl wo n yc ya ys yd q zc zp zr zs zf z zm zt) H) (hg9 : GoodIn Ts (wsV own index RX3 yX3_object wsX3_object)) (hR9 : 7 + 1 ≤ R.frames ∧ 8 + (2 + 11) + 111 ≤ R.locals) (hc9 : cells + 1 ≤ R.cells ∧ slots + 6 ≤ R.slots) (hl9 : ls.size = nL) (hw9 : (rest.map fun v => v.category).sum ≤ 8) (hdg : decode cc pc = .ok (.invokevirtual index, 3)) (hT : tX (fun _ => False) s H) : vx_Run p l e R s m args below meth c H locs cells slots 1 6 (F0 m pc ls (.int x :: .ref (ad 0) :: rest)) rest (fun _ _ _ => False) (xT "java/lang/IndexOutOfBoundsException") (fun _ => False) := vx_runV (As := [.int x]) (rest := rest) ⟨hx, hb, hml, hown, hts⟩ (c_X3_object_no (dC := dC) (dI := dI) (cI := cI) (cZ := cZ) (ad := ad) (sm := sm) (fe := fe) (ex := ex) (dy := dy) (gp := gp) (gc := gc) (op := op) (gr := gr) (st := st) (dl := dl) (wo := wo) (n := n) (yc := yc) (ya := ya) (ys := ys) (yd := yd) (q := q) (zc := zc) (zp := zp) (zr := zr) (zs := zs) (zf := zf) (z := z) (zm := zm) (zt := zt) (x := x) l hfl hn hk) (cwV 1 hts hg9 rfl rfl rfl (by decide +kernel) hR9) ⟨fun a U g mk q => ⟨q.1, q.2.1, va_K.moved (u := U) (U := U.calling g mk a) (Vm.Alike.refl U.vm) q.2.2.1, tX.same (u := U) (U := U.calling g mk a) rfl q.2.2.2⟩, rC_0 hK hP, fun U hU hW => ⟨rfl, by rw [hU]; exact hP, va_K.moved hW.alike hK, by rw [hU]; exact tX.warm hW hT⟩⟩ rfl rfl hl9 rfl (lv_room hw9) hdg hc9
end
set_option maxHeartbeats 4000000 in
set_option maxRecDepth 100000 in
theorem c_X3_decide_no (l : Launch) (hfl : l.stackTraces = false) {dC : Nat → ClassId} {dI : Nat → Nat → Nat} {cI cZ : ClassId} {ad : Nat → Nat} {sm fe ex dy : Int32} {gp gc op gr st dl wo : Nat → Int32} {n : Nat} {yc ya ys yd : Nat → Int32} {q : Nat} {zc zp zr zs zf : Nat → Int32} {z : Nat} {zm zt : Int64} {x : Int32} {b1 : Int32} (hn : n ≤ 24) (hk : ¬ vp_in x n) : vx_Met l yX3_decide wsX3_decide { frames := 7, cells := 1, slots := 6, locals := 111 } (va_Pc [.ref (ad 0), .int x, .int b1] (fun U => va_P (dC, dI) vwCl (wC cI cZ ad sm fe ex dy gp gc op gr st dl wo n yc ya ys yd q zc zp zr zs zf z zm zt) U.heap ∧ va_K (dC, dI) vwCl [(cI, .int), (cZ, .boolean)] U ∧ tX (fun _ => False) U U.heap)) (fun _ _ _ _ => False) (xT "java/lang/IndexOutOfBoundsException") 1 6 (fun _ => False) := by
  refine vx_ofW (cc := cX3_decide) (maxL := 3) (ret := (some .int)) (by decide) rfl ?_
  intro p e s m args below meth c s₁ B hml ht hv
  obtain ⟨rfl, hP, hK, hT⟩ := hv
  have hx := B.exec
  have hb := B.bytes
  have hr := B.returns
  have hts := atoms_spec (ws := wsX3_decide) B.pre
  have hown : s.vm.findClass RX3 = some m.cls := findClass_of_methodNamed B.named
  have hlocks := B.notSynchronized
  have hl := lv_entry ([.ref (ad 0), .int x, .int b1]) (n := 3) (Nat.le_of_ble_eq_true rfl)
  rw [lg_entry_eq]
  generalize (lg_sl ([.ref (ad 0), .int x, .int b1]) ++ List.replicate (3 - (lg_sl ([.ref (ad 0), .int x, .int b1])).length) Slot.unset).toArray = ls at hl ⊢
  have hl : lv_has ls 3 [(0, .ref (ad 0)), (1, .int x), (2, .int b1)] := hl
  refine lv_aload_n hx hb dX3_decide_0 rfl (lv_at hl 0 rfl) ?_
  refine lv_iload_n hx hb dX3_decide_1 rfl (lv_at hl 1 rfl) ?_
  exact zx_on (kr_X3_mustBeClaim_no l hfl (x := x) (hn := hn) (hk := hk) hx hb hml hown hts hK hP gX3_decide_X3_mustBeClaim ⟨Nat.le_of_ble_eq_true rfl, Nat.le_of_ble_eq_true rfl⟩ ⟨Nat.le_of_ble_eq_true rfl, Nat.le_of_ble_eq_true rfl⟩ hl.1 (Nat.le_of_ble_eq_true rfl) dX3_decide_2 hT) ht hlocks
section
variable {p : Program} {e : Env} {R : Room} {s : State} {m : MethodId} {args : Array Value} {below : List Frame} {meth : Method} {c : Code} {H : Heap} {locs : List Loc} {cells slots : Nat} {Q : State → Prop} {cc : ByteArray} {pc : Nat} {ls : Array Slot} {rest : List Value} {own : String} {index nL : Nat} {Ts : List Cond} {H0 : Heap} {A0 : Nat → Prop}
theorem kr_X3_decide_no (l : Launch) (hfl : l.stackTraces = false) {dC : Nat → ClassId} {dI : Nat → Nat → Nat} {cI cZ : ClassId} {ad : Nat → Nat} {sm fe ex dy : Int32} {gp gc op gr st dl wo : Nat → Int32} {n : Nat} {yc ya ys yd : Nat → Int32} {q : Nat} {zc zp zr zs zf : Nat → Int32} {z : Nat} {zm zt : Int64} {x : Int32} {b1 : Int32} (hn : n ≤ 24) (hk : ¬ vp_in x n) (hx : p.tables.exec = Jvm.exec) (hb : c.code = cc) (hml : c.maxLocals = nL) (hown : s.vm.findClass own = some m.cls) (hts : ∀ w ∈ Ts, w.before args s = true) (hK : va_K (dC, dI) vwCl [(cI, .int), (cZ, .boolean)] s) (hP : va_P (dC, dI) vwCl (wC cI cZ ad sm fe ex dy gp gc op gr st dl wo n yc ya ys yd q zc zp zr zs zf z zm zt) H) (hg9 : GoodIn Ts (wsV own index RX3 yX3_decide wsX3_decide)) (hR9 : 7 + 1 ≤ R.frames ∧ 8 + (3 + 11) + 111 ≤ R.locals) (hc9 : cells + 1 ≤ R.cells ∧ slots + 6 ≤ R.slots) (hl9 : ls.size = nL) (hw9 : (rest.map fun v => v.category).sum ≤ 8) (hdg : decode cc pc = .ok (.invokevirtual index, 3)) (hT : tX (fun _ => False) s H) : vx_Run p l e R s m args below meth c H locs cells slots 1 6 (F0 m pc ls (.int b1 :: .int x :: .ref (ad 0) :: rest)) rest (fun _ _ _ => False) (xT "java/lang/IndexOutOfBoundsException") (fun _ => False) := vx_runV (As := [.int x, .int b1]) (rest := rest) ⟨hx, hb, hml, hown, hts⟩ (c_X3_decide_no (dC := dC) (dI := dI) (cI := cI) (cZ := cZ) (ad := ad) (sm := sm) (fe := fe) (ex := ex) (dy := dy) (gp := gp) (gc := gc) (op := op) (gr := gr) (st := st) (dl := dl) (wo := wo) (n := n) (yc := yc) (ya := ya) (ys := ys) (yd := yd) (q := q) (zc := zc) (zp := zp) (zr := zr) (zs := zs) (zf := zf) (z := z) (zm := zm) (zt := zt) (x := x) (b1 := b1) l hfl hn hk) (cwV 2 hts hg9 rfl rfl rfl (by decide +kernel) hR9) ⟨fun a U g mk q => ⟨q.1, q.2.1, va_K.moved (u := U) (U := U.calling g mk a) (Vm.Alike.refl U.vm) q.2.2.1, tX.same (u := U) (U := U.calling g mk a) rfl q.2.2.2⟩, rC_0 hK hP, fun U hU hW => ⟨rfl, by rw [hU]; exact hP, va_K.moved hW.alike hK, by rw [hU]; exact tX.warm hW hT⟩⟩ rfl rfl hl9 rfl (lv_room hw9) hdg hc9
end
set_option maxHeartbeats 4000000 in
set_option maxRecDepth 100000 in
theorem c_X3_paymentTo_no (l : Launch) (hfl : l.stackTraces = false) {dC : Nat → ClassId} {dI : Nat → Nat → Nat} {cI cZ : ClassId} {ad : Nat → Nat} {sm fe ex dy : Int32} {gp gc op gr st dl wo : Nat → Int32} {n : Nat} {yc ya ys yd : Nat → Int32} {q : Nat} {zc zp zr zs zf : Nat → Int32} {z : Nat} {zm zt : Int64} {x : Int32} (hq : q ≤ 100) (hk : ¬ vp_in x q) : vx_Met l yX3_paymentTo wsX3_paymentTo { frames := 7, cells := 1, slots := 6, locals := 111 } (va_Pc [.ref (ad 0), .int x] (fun U => va_P (dC, dI) vwCl (wC cI cZ ad sm fe ex dy gp gc op gr st dl wo n yc ya ys yd q zc zp zr zs zf z zm zt) U.heap ∧ va_K (dC, dI) vwCl [(cI, .int), (cZ, .boolean)] U ∧ tX (fun _ => False) U U.heap)) (fun _ _ _ _ => False) (xT "java/lang/IndexOutOfBoundsException") 1 6 (fun _ => False) := by
  refine vx_ofW (cc := cX3_paymentTo) (maxL := 2) (ret := (some .int)) (by decide) rfl ?_
  intro p e s m args below meth c s₁ B hml ht hv
  obtain ⟨rfl, hP, hK, hT⟩ := hv
  have hx := B.exec
  have hb := B.bytes
  have hr := B.returns
  have hts := atoms_spec (ws := wsX3_paymentTo) B.pre
  have hown : s.vm.findClass RX3 = some m.cls := findClass_of_methodNamed B.named
  have hlocks := B.notSynchronized
  have hl := lv_entry ([.ref (ad 0), .int x]) (n := 2) (Nat.le_of_ble_eq_true rfl)
  rw [lg_entry_eq]
  generalize (lg_sl ([.ref (ad 0), .int x]) ++ List.replicate (2 - (lg_sl ([.ref (ad 0), .int x])).length) Slot.unset).toArray = ls at hl ⊢
  have hl : lv_has ls 2 [(0, .ref (ad 0)), (1, .int x)] := hl
  refine lv_aload_n hx hb dX3_paymentTo_0 rfl (lv_at hl 0 rfl) ?_
  refine lv_iload_n hx hb dX3_paymentTo_1 rfl (lv_at hl 1 rfl) ?_
  exact zx_on (kr_X3_mustBePayment_no l hfl (x := x) (hq := hq) (hk := hk) hx hb hml hown hts hK hP gX3_paymentTo_X3_mustBePayment ⟨Nat.le_of_ble_eq_true rfl, Nat.le_of_ble_eq_true rfl⟩ ⟨Nat.le_of_ble_eq_true rfl, Nat.le_of_ble_eq_true rfl⟩ hl.1 (Nat.le_of_ble_eq_true rfl) dX3_paymentTo_2 hT) ht hlocks
section
variable {p : Program} {e : Env} {R : Room} {s : State} {m : MethodId} {args : Array Value} {below : List Frame} {meth : Method} {c : Code} {H : Heap} {locs : List Loc} {cells slots : Nat} {Q : State → Prop} {cc : ByteArray} {pc : Nat} {ls : Array Slot} {rest : List Value} {own : String} {index nL : Nat} {Ts : List Cond} {H0 : Heap} {A0 : Nat → Prop}
theorem kr_X3_paymentTo_no (l : Launch) (hfl : l.stackTraces = false) {dC : Nat → ClassId} {dI : Nat → Nat → Nat} {cI cZ : ClassId} {ad : Nat → Nat} {sm fe ex dy : Int32} {gp gc op gr st dl wo : Nat → Int32} {n : Nat} {yc ya ys yd : Nat → Int32} {q : Nat} {zc zp zr zs zf : Nat → Int32} {z : Nat} {zm zt : Int64} {x : Int32} (hq : q ≤ 100) (hk : ¬ vp_in x q) (hx : p.tables.exec = Jvm.exec) (hb : c.code = cc) (hml : c.maxLocals = nL) (hown : s.vm.findClass own = some m.cls) (hts : ∀ w ∈ Ts, w.before args s = true) (hK : va_K (dC, dI) vwCl [(cI, .int), (cZ, .boolean)] s) (hP : va_P (dC, dI) vwCl (wC cI cZ ad sm fe ex dy gp gc op gr st dl wo n yc ya ys yd q zc zp zr zs zf z zm zt) H) (hg9 : GoodIn Ts (wsV own index RX3 yX3_paymentTo wsX3_paymentTo)) (hR9 : 7 + 1 ≤ R.frames ∧ 8 + (2 + 11) + 111 ≤ R.locals) (hc9 : cells + 1 ≤ R.cells ∧ slots + 6 ≤ R.slots) (hl9 : ls.size = nL) (hw9 : (rest.map fun v => v.category).sum ≤ 8) (hdg : decode cc pc = .ok (.invokevirtual index, 3)) (hT : tX (fun _ => False) s H) : vx_Run p l e R s m args below meth c H locs cells slots 1 6 (F0 m pc ls (.int x :: .ref (ad 0) :: rest)) rest (fun _ _ _ => False) (xT "java/lang/IndexOutOfBoundsException") (fun _ => False) := vx_runV (As := [.int x]) (rest := rest) ⟨hx, hb, hml, hown, hts⟩ (c_X3_paymentTo_no (dC := dC) (dI := dI) (cI := cI) (cZ := cZ) (ad := ad) (sm := sm) (fe := fe) (ex := ex) (dy := dy) (gp := gp) (gc := gc) (op := op) (gr := gr) (st := st) (dl := dl) (wo := wo) (n := n) (yc := yc) (ya := ya) (ys := ys) (yd := yd) (q := q) (zc := zc) (zp := zp) (zr := zr) (zs := zs) (zf := zf) (z := z) (zm := zm) (zt := zt) (x := x) l hfl hq hk) (cwV 1 hts hg9 rfl rfl rfl (by decide +kernel) hR9) ⟨fun a U g mk q => ⟨q.1, q.2.1, va_K.moved (u := U) (U := U.calling g mk a) (Vm.Alike.refl U.vm) q.2.2.1, tX.same (u := U) (U := U.calling g mk a) rfl q.2.2.2⟩, rC_0 hK hP, fun U hU hW => ⟨rfl, by rw [hU]; exact hP, va_K.moved hW.alike hK, by rw [hU]; exact tX.warm hW hT⟩⟩ rfl rfl hl9 rfl (lv_room hw9) hdg hc9
end
set_option maxHeartbeats 4000000 in
set_option maxRecDepth 100000 in
theorem c_X3_amountOf_no (l : Launch) (hfl : l.stackTraces = false) {dC : Nat → ClassId} {dI : Nat → Nat → Nat} {cI cZ : ClassId} {ad : Nat → Nat} {sm fe ex dy : Int32} {gp gc op gr st dl wo : Nat → Int32} {n : Nat} {yc ya ys yd : Nat → Int32} {q : Nat} {zc zp zr zs zf : Nat → Int32} {z : Nat} {zm zt : Int64} {x : Int32} (hq : q ≤ 100) (hk : ¬ vp_in x q) : vx_Met l yX3_amountOf wsX3_amountOf { frames := 7, cells := 1, slots := 6, locals := 111 } (va_Pc [.ref (ad 0), .int x] (fun U => va_P (dC, dI) vwCl (wC cI cZ ad sm fe ex dy gp gc op gr st dl wo n yc ya ys yd q zc zp zr zs zf z zm zt) U.heap ∧ va_K (dC, dI) vwCl [(cI, .int), (cZ, .boolean)] U ∧ tX (fun _ => False) U U.heap)) (fun _ _ _ _ => False) (xT "java/lang/IndexOutOfBoundsException") 1 6 (fun _ => False) := by
  refine vx_ofW (cc := cX3_amountOf) (maxL := 2) (ret := (some .int)) (by decide) rfl ?_
  intro p e s m args below meth c s₁ B hml ht hv
  obtain ⟨rfl, hP, hK, hT⟩ := hv
  have hx := B.exec
  have hb := B.bytes
  have hr := B.returns
  have hts := atoms_spec (ws := wsX3_amountOf) B.pre
  have hown : s.vm.findClass RX3 = some m.cls := findClass_of_methodNamed B.named
  have hlocks := B.notSynchronized
  have hl := lv_entry ([.ref (ad 0), .int x]) (n := 2) (Nat.le_of_ble_eq_true rfl)
  rw [lg_entry_eq]
  generalize (lg_sl ([.ref (ad 0), .int x]) ++ List.replicate (2 - (lg_sl ([.ref (ad 0), .int x])).length) Slot.unset).toArray = ls at hl ⊢
  have hl : lv_has ls 2 [(0, .ref (ad 0)), (1, .int x)] := hl
  refine lv_aload_n hx hb dX3_amountOf_0 rfl (lv_at hl 0 rfl) ?_
  refine lv_iload_n hx hb dX3_amountOf_1 rfl (lv_at hl 1 rfl) ?_
  exact zx_on (kr_X3_mustBePayment_no l hfl (x := x) (hq := hq) (hk := hk) hx hb hml hown hts hK hP gX3_amountOf_X3_mustBePayment ⟨Nat.le_of_ble_eq_true rfl, Nat.le_of_ble_eq_true rfl⟩ ⟨Nat.le_of_ble_eq_true rfl, Nat.le_of_ble_eq_true rfl⟩ hl.1 (Nat.le_of_ble_eq_true rfl) dX3_amountOf_2 hT) ht hlocks
section
variable {p : Program} {e : Env} {R : Room} {s : State} {m : MethodId} {args : Array Value} {below : List Frame} {meth : Method} {c : Code} {H : Heap} {locs : List Loc} {cells slots : Nat} {Q : State → Prop} {cc : ByteArray} {pc : Nat} {ls : Array Slot} {rest : List Value} {own : String} {index nL : Nat} {Ts : List Cond} {H0 : Heap} {A0 : Nat → Prop}
theorem kr_X3_amountOf_no (l : Launch) (hfl : l.stackTraces = false) {dC : Nat → ClassId} {dI : Nat → Nat → Nat} {cI cZ : ClassId} {ad : Nat → Nat} {sm fe ex dy : Int32} {gp gc op gr st dl wo : Nat → Int32} {n : Nat} {yc ya ys yd : Nat → Int32} {q : Nat} {zc zp zr zs zf : Nat → Int32} {z : Nat} {zm zt : Int64} {x : Int32} (hq : q ≤ 100) (hk : ¬ vp_in x q) (hx : p.tables.exec = Jvm.exec) (hb : c.code = cc) (hml : c.maxLocals = nL) (hown : s.vm.findClass own = some m.cls) (hts : ∀ w ∈ Ts, w.before args s = true) (hK : va_K (dC, dI) vwCl [(cI, .int), (cZ, .boolean)] s) (hP : va_P (dC, dI) vwCl (wC cI cZ ad sm fe ex dy gp gc op gr st dl wo n yc ya ys yd q zc zp zr zs zf z zm zt) H) (hg9 : GoodIn Ts (wsV own index RX3 yX3_amountOf wsX3_amountOf)) (hR9 : 7 + 1 ≤ R.frames ∧ 8 + (2 + 11) + 111 ≤ R.locals) (hc9 : cells + 1 ≤ R.cells ∧ slots + 6 ≤ R.slots) (hl9 : ls.size = nL) (hw9 : (rest.map fun v => v.category).sum ≤ 8) (hdg : decode cc pc = .ok (.invokevirtual index, 3)) (hT : tX (fun _ => False) s H) : vx_Run p l e R s m args below meth c H locs cells slots 1 6 (F0 m pc ls (.int x :: .ref (ad 0) :: rest)) rest (fun _ _ _ => False) (xT "java/lang/IndexOutOfBoundsException") (fun _ => False) := vx_runV (As := [.int x]) (rest := rest) ⟨hx, hb, hml, hown, hts⟩ (c_X3_amountOf_no (dC := dC) (dI := dI) (cI := cI) (cZ := cZ) (ad := ad) (sm := sm) (fe := fe) (ex := ex) (dy := dy) (gp := gp) (gc := gc) (op := op) (gr := gr) (st := st) (dl := dl) (wo := wo) (n := n) (yc := yc) (ya := ya) (ys := ys) (yd := yd) (q := q) (zc := zc) (zp := zp) (zr := zr) (zs := zs) (zf := zf) (z := z) (zm := zm) (zt := zt) (x := x) l hfl hq hk) (cwV 1 hts hg9 rfl rfl rfl (by decide +kernel) hR9) ⟨fun a U g mk q => ⟨q.1, q.2.1, va_K.moved (u := U) (U := U.calling g mk a) (Vm.Alike.refl U.vm) q.2.2.1, tX.same (u := U) (U := U.calling g mk a) rfl q.2.2.2⟩, rC_0 hK hP, fun U hU hW => ⟨rfl, by rw [hU]; exact hP, va_K.moved hW.alike hK, by rw [hU]; exact tX.warm hW hT⟩⟩ rfl rfl hl9 rfl (lv_room hw9) hdg hc9
end
set_option maxHeartbeats 4000000 in
set_option maxRecDepth 100000 in
theorem c_X3_paymentState_no (l : Launch) (hfl : l.stackTraces = false) {dC : Nat → ClassId} {dI : Nat → Nat → Nat} {cI cZ : ClassId} {ad : Nat → Nat} {sm fe ex dy : Int32} {gp gc op gr st dl wo : Nat → Int32} {n : Nat} {yc ya ys yd : Nat → Int32} {q : Nat} {zc zp zr zs zf : Nat → Int32} {z : Nat} {zm zt : Int64} {x : Int32} (hq : q ≤ 100) (hk : ¬ vp_in x q) : vx_Met l yX3_paymentState wsX3_paymentState { frames := 7, cells := 1, slots := 6, locals := 111 } (va_Pc [.ref (ad 0), .int x] (fun U => va_P (dC, dI) vwCl (wC cI cZ ad sm fe ex dy gp gc op gr st dl wo n yc ya ys yd q zc zp zr zs zf z zm zt) U.heap ∧ va_K (dC, dI) vwCl [(cI, .int), (cZ, .boolean)] U ∧ tX (fun _ => False) U U.heap)) (fun _ _ _ _ => False) (xT "java/lang/IndexOutOfBoundsException") 1 6 (fun _ => False) := by
  refine vx_ofW (cc := cX3_paymentState) (maxL := 2) (ret := (some .int)) (by decide) rfl ?_
  intro p e s m args below meth c s₁ B hml ht hv
  obtain ⟨rfl, hP, hK, hT⟩ := hv
  have hx := B.exec
  have hb := B.bytes
  have hr := B.returns
  have hts := atoms_spec (ws := wsX3_paymentState) B.pre
  have hown : s.vm.findClass RX3 = some m.cls := findClass_of_methodNamed B.named
  have hlocks := B.notSynchronized
  have hl := lv_entry ([.ref (ad 0), .int x]) (n := 2) (Nat.le_of_ble_eq_true rfl)
  rw [lg_entry_eq]
  generalize (lg_sl ([.ref (ad 0), .int x]) ++ List.replicate (2 - (lg_sl ([.ref (ad 0), .int x])).length) Slot.unset).toArray = ls at hl ⊢
  have hl : lv_has ls 2 [(0, .ref (ad 0)), (1, .int x)] := hl
  refine lv_aload_n hx hb dX3_paymentState_0 rfl (lv_at hl 0 rfl) ?_
  refine lv_iload_n hx hb dX3_paymentState_1 rfl (lv_at hl 1 rfl) ?_
  exact zx_on (kr_X3_mustBePayment_no l hfl (x := x) (hq := hq) (hk := hk) hx hb hml hown hts hK hP gX3_paymentState_X3_mustBePayment ⟨Nat.le_of_ble_eq_true rfl, Nat.le_of_ble_eq_true rfl⟩ ⟨Nat.le_of_ble_eq_true rfl, Nat.le_of_ble_eq_true rfl⟩ hl.1 (Nat.le_of_ble_eq_true rfl) dX3_paymentState_2 hT) ht hlocks
section
variable {p : Program} {e : Env} {R : Room} {s : State} {m : MethodId} {args : Array Value} {below : List Frame} {meth : Method} {c : Code} {H : Heap} {locs : List Loc} {cells slots : Nat} {Q : State → Prop} {cc : ByteArray} {pc : Nat} {ls : Array Slot} {rest : List Value} {own : String} {index nL : Nat} {Ts : List Cond} {H0 : Heap} {A0 : Nat → Prop}
theorem kr_X3_paymentState_no (l : Launch) (hfl : l.stackTraces = false) {dC : Nat → ClassId} {dI : Nat → Nat → Nat} {cI cZ : ClassId} {ad : Nat → Nat} {sm fe ex dy : Int32} {gp gc op gr st dl wo : Nat → Int32} {n : Nat} {yc ya ys yd : Nat → Int32} {q : Nat} {zc zp zr zs zf : Nat → Int32} {z : Nat} {zm zt : Int64} {x : Int32} (hq : q ≤ 100) (hk : ¬ vp_in x q) (hx : p.tables.exec = Jvm.exec) (hb : c.code = cc) (hml : c.maxLocals = nL) (hown : s.vm.findClass own = some m.cls) (hts : ∀ w ∈ Ts, w.before args s = true) (hK : va_K (dC, dI) vwCl [(cI, .int), (cZ, .boolean)] s) (hP : va_P (dC, dI) vwCl (wC cI cZ ad sm fe ex dy gp gc op gr st dl wo n yc ya ys yd q zc zp zr zs zf z zm zt) H) (hg9 : GoodIn Ts (wsV own index RX3 yX3_paymentState wsX3_paymentState)) (hR9 : 7 + 1 ≤ R.frames ∧ 8 + (2 + 11) + 111 ≤ R.locals) (hc9 : cells + 1 ≤ R.cells ∧ slots + 6 ≤ R.slots) (hl9 : ls.size = nL) (hw9 : (rest.map fun v => v.category).sum ≤ 8) (hdg : decode cc pc = .ok (.invokevirtual index, 3)) (hT : tX (fun _ => False) s H) : vx_Run p l e R s m args below meth c H locs cells slots 1 6 (F0 m pc ls (.int x :: .ref (ad 0) :: rest)) rest (fun _ _ _ => False) (xT "java/lang/IndexOutOfBoundsException") (fun _ => False) := vx_runV (As := [.int x]) (rest := rest) ⟨hx, hb, hml, hown, hts⟩ (c_X3_paymentState_no (dC := dC) (dI := dI) (cI := cI) (cZ := cZ) (ad := ad) (sm := sm) (fe := fe) (ex := ex) (dy := dy) (gp := gp) (gc := gc) (op := op) (gr := gr) (st := st) (dl := dl) (wo := wo) (n := n) (yc := yc) (ya := ya) (ys := ys) (yd := yd) (q := q) (zc := zc) (zp := zp) (zr := zr) (zs := zs) (zf := zf) (z := z) (zm := zm) (zt := zt) (x := x) l hfl hq hk) (cwV 1 hts hg9 rfl rfl rfl (by decide +kernel) hR9) ⟨fun a U g mk q => ⟨q.1, q.2.1, va_K.moved (u := U) (U := U.calling g mk a) (Vm.Alike.refl U.vm) q.2.2.1, tX.same (u := U) (U := U.calling g mk a) rfl q.2.2.2⟩, rC_0 hK hP, fun U hU hW => ⟨rfl, by rw [hU]; exact hP, va_K.moved hW.alike hK, by rw [hU]; exact tX.warm hW hT⟩⟩ rfl rfl hl9 rfl (lv_room hw9) hdg hc9
end
set_option maxHeartbeats 4000000 in
set_option maxRecDepth 100000 in
theorem c_X3_cash_no (l : Launch) (hfl : l.stackTraces = false) {dC : Nat → ClassId} {dI : Nat → Nat → Nat} {cI cZ : ClassId} {ad : Nat → Nat} {sm fe ex dy : Int32} {gp gc op gr st dl wo : Nat → Int32} {n : Nat} {yc ya ys yd : Nat → Int32} {q : Nat} {zc zp zr zs zf : Nat → Int32} {z : Nat} {zm zt : Int64} {x : Int32} (hq : q ≤ 100) (hk : ¬ vp_in x q) : vx_Met l yX3_cash wsX3_cash { frames := 7, cells := 1, slots := 6, locals := 111 } (va_Pc [.ref (ad 0), .int x] (fun U => va_P (dC, dI) vwCl (wC cI cZ ad sm fe ex dy gp gc op gr st dl wo n yc ya ys yd q zc zp zr zs zf z zm zt) U.heap ∧ va_K (dC, dI) vwCl [(cI, .int), (cZ, .boolean)] U ∧ tX (fun _ => False) U U.heap)) (fun _ _ _ _ => False) (xT "java/lang/IndexOutOfBoundsException") 1 6 (fun _ => False) := by
  refine vx_ofW (cc := cX3_cash) (maxL := 2) (ret := (some .int)) (by decide) rfl ?_
  intro p e s m args below meth c s₁ B hml ht hv
  obtain ⟨rfl, hP, hK, hT⟩ := hv
  have hx := B.exec
  have hb := B.bytes
  have hr := B.returns
  have hts := atoms_spec (ws := wsX3_cash) B.pre
  have hown : s.vm.findClass RX3 = some m.cls := findClass_of_methodNamed B.named
  have hlocks := B.notSynchronized
  have hl := lv_entry ([.ref (ad 0), .int x]) (n := 2) (Nat.le_of_ble_eq_true rfl)
  rw [lg_entry_eq]
  generalize (lg_sl ([.ref (ad 0), .int x]) ++ List.replicate (2 - (lg_sl ([.ref (ad 0), .int x])).length) Slot.unset).toArray = ls at hl ⊢
  have hl : lv_has ls 2 [(0, .ref (ad 0)), (1, .int x)] := hl
  refine lv_aload_n hx hb dX3_cash_0 rfl (lv_at hl 0 rfl) ?_
  refine lv_iload_n hx hb dX3_cash_1 rfl (lv_at hl 1 rfl) ?_
  exact zx_on (kr_X3_mustBePayment_no l hfl (x := x) (hq := hq) (hk := hk) hx hb hml hown hts hK hP gX3_cash_X3_mustBePayment ⟨Nat.le_of_ble_eq_true rfl, Nat.le_of_ble_eq_true rfl⟩ ⟨Nat.le_of_ble_eq_true rfl, Nat.le_of_ble_eq_true rfl⟩ hl.1 (Nat.le_of_ble_eq_true rfl) dX3_cash_2 hT) ht hlocks
section
variable {p : Program} {e : Env} {R : Room} {s : State} {m : MethodId} {args : Array Value} {below : List Frame} {meth : Method} {c : Code} {H : Heap} {locs : List Loc} {cells slots : Nat} {Q : State → Prop} {cc : ByteArray} {pc : Nat} {ls : Array Slot} {rest : List Value} {own : String} {index nL : Nat} {Ts : List Cond} {H0 : Heap} {A0 : Nat → Prop}
theorem kr_X3_cash_no (l : Launch) (hfl : l.stackTraces = false) {dC : Nat → ClassId} {dI : Nat → Nat → Nat} {cI cZ : ClassId} {ad : Nat → Nat} {sm fe ex dy : Int32} {gp gc op gr st dl wo : Nat → Int32} {n : Nat} {yc ya ys yd : Nat → Int32} {q : Nat} {zc zp zr zs zf : Nat → Int32} {z : Nat} {zm zt : Int64} {x : Int32} (hq : q ≤ 100) (hk : ¬ vp_in x q) (hx : p.tables.exec = Jvm.exec) (hb : c.code = cc) (hml : c.maxLocals = nL) (hown : s.vm.findClass own = some m.cls) (hts : ∀ w ∈ Ts, w.before args s = true) (hK : va_K (dC, dI) vwCl [(cI, .int), (cZ, .boolean)] s) (hP : va_P (dC, dI) vwCl (wC cI cZ ad sm fe ex dy gp gc op gr st dl wo n yc ya ys yd q zc zp zr zs zf z zm zt) H) (hg9 : GoodIn Ts (wsV own index RX3 yX3_cash wsX3_cash)) (hR9 : 7 + 1 ≤ R.frames ∧ 8 + (2 + 11) + 111 ≤ R.locals) (hc9 : cells + 1 ≤ R.cells ∧ slots + 6 ≤ R.slots) (hl9 : ls.size = nL) (hw9 : (rest.map fun v => v.category).sum ≤ 8) (hdg : decode cc pc = .ok (.invokevirtual index, 3)) (hT : tX (fun _ => False) s H) : vx_Run p l e R s m args below meth c H locs cells slots 1 6 (F0 m pc ls (.int x :: .ref (ad 0) :: rest)) rest (fun _ _ _ => False) (xT "java/lang/IndexOutOfBoundsException") (fun _ => False) := vx_runV (As := [.int x]) (rest := rest) ⟨hx, hb, hml, hown, hts⟩ (c_X3_cash_no (dC := dC) (dI := dI) (cI := cI) (cZ := cZ) (ad := ad) (sm := sm) (fe := fe) (ex := ex) (dy := dy) (gp := gp) (gc := gc) (op := op) (gr := gr) (st := st) (dl := dl) (wo := wo) (n := n) (yc := yc) (ya := ya) (ys := ys) (yd := yd) (q := q) (zc := zc) (zp := zp) (zr := zr) (zs := zs) (zf := zf) (z := z) (zm := zm) (zt := zt) (x := x) l hfl hq hk) (cwV 1 hts hg9 rfl rfl rfl (by decide +kernel) hR9) ⟨fun a U g mk q => ⟨q.1, q.2.1, va_K.moved (u := U) (U := U.calling g mk a) (Vm.Alike.refl U.vm) q.2.2.1, tX.same (u := U) (U := U.calling g mk a) rfl q.2.2.2⟩, rC_0 hK hP, fun U hU hW => ⟨rfl, by rw [hU]; exact hP, va_K.moved hW.alike hK, by rw [hU]; exact tX.warm hW hT⟩⟩ rfl rfl hl9 rfl (lv_room hw9) hdg hc9
end
set_option maxHeartbeats 4000000 in
set_option maxRecDepth 100000 in
theorem c_X3_stateOf_ok (l : Launch) {dC : Nat → ClassId} {dI : Nat → Nat → Nat} {cI cZ : ClassId} {ad : Nat → Nat} {sm fe ex dy : Int32} {gp gc op gr st dl wo : Nat → Int32} {n : Nat} {yc ya ys yd : Nat → Int32} {q : Nat} {zc zp zr zs zf : Nat → Int32} {z : Nat} {zm zt : Int64} {k : Nat} (hn : n ≤ 24) (hk : k < n) : Met l yX3_stateOf wsX3_stateOf { frames := 2, cells := 0, slots := 0, locals := 42 } (va_Pc [.ref (ad 0), .int (nI k)] (fun U => va_P (dC, dI) vwCl (wC cI cZ ad sm fe ex dy gp gc op gr st dl wo n yc ya ys yd q zc zp zr zs zf z zm zt) U.heap ∧ va_K (dC, dI) vwCl [(cI, .int), (cZ, .boolean)] U)) (vp_Si (fun r => r = st k)) 0 0 (fun _ => False) := by
  refine Met.ofW (cc := cX3_stateOf) (maxL := 2) (ret := (some .int)) (by decide) rfl ?_
  intro p e s m args below meth c s₁ B hml hv
  obtain ⟨rfl, hP, hK⟩ := hv
  have hx := B.exec
  have hb := B.bytes
  have hr := B.returns
  have hts := atoms_spec (ws := wsX3_stateOf) B.pre
  have hown : s.vm.findClass RX3 = some m.cls := findClass_of_methodNamed B.named
  have hlocks := B.notSynchronized
  have hl := lv_entry ([.ref (ad 0), .int (nI k)]) (n := 2) (Nat.le_of_ble_eq_true rfl)
  rw [lg_entry_eq]
  generalize (lg_sl ([.ref (ad 0), .int (nI k)]) ++ List.replicate (2 - (lg_sl ([.ref (ad 0), .int (nI k)])).length) Slot.unset).toArray = ls at hl ⊢
  have hl : lv_has ls 2 [(0, .ref (ad 0)), (1, .int (nI k))] := hl
  have hiX3 : ∀ w ∈ wsX30, w ∈ wsX3_stateOf := by decide +kernel
  have hf19 := hts (.fieldLink RX3 19 "SettlementFund" "claimBook" "LSettlementFund$ClaimBook;") (by decide +kernel)
  have hiX0 : ∀ w ∈ wsX00, w ∈ wsX3_stateOf := by decide +kernel
  have hf115 := hts (.fieldLink RX3 115 "SettlementFund$ClaimBook" "state" "[I") (by decide +kernel)
  refine lv_aload_n hx hb dX3_stateOf_0 rfl (lv_at hl 0 rfl) ?_
  refine lv_iload_n hx hb dX3_stateOf_1 rfl (lv_at hl 1 rfl) ?_
  refine k_X3_mustBeClaim_ok l (k := k) (hn := hn) (hk := hk) hx hb hml hown hts hK hP gX3_stateOf_X3_mustBeClaim ⟨Nat.le_of_ble_eq_true rfl, Nat.le_of_ble_eq_true rfl⟩ ⟨Nat.le_of_ble_eq_true rfl, Nat.le_of_ble_eq_true rfl⟩ hl.1 (Nat.le_of_ble_eq_true rfl) dX3_stateOf_2 ?_
  refine lv_aload_n hx hb dX3_stateOf_5 rfl (lv_at hl 0 rfl) ?_
  refine gC_0_6 hx hb hts hiX3 hown hK hP hf19 dX3_stateOf_6 ?_
  refine gC_3_2 hx hb hts hiX0 hown hK hP hf115 dX3_stateOf_9 ?_
  refine lv_iload_n hx hb dX3_stateOf_12 rfl (lv_at hl 1 rfl) ?_
  refine lC_6 hx hb hK hP (by omega) dX3_stateOf_13 ?_
  exact W.iret (v := st k) hx hb hr (fun t ht hW => ⟨st k, rfl, rfl, ht⟩) (fun _ h => nomatch h) dX3_stateOf_14
section
variable {p : Program} {e : Env} {R : Room} {s : State} {m : MethodId} {args : Array Value} {below : List Frame} {meth : Method} {c : Code} {H : Heap} {locs : List Loc} {cells slots : Nat} {Q : State → Prop} {cc : ByteArray} {pc : Nat} {ls : Array Slot} {rest : List Value} {own : String} {index nL : Nat} {Ts : List Cond} {H0 : Heap} {A0 : Nat → Prop}
theorem k_X3_stateOf_ok (l : Launch) {dC : Nat → ClassId} {dI : Nat → Nat → Nat} {cI cZ : ClassId} {ad : Nat → Nat} {sm fe ex dy : Int32} {gp gc op gr st dl wo : Nat → Int32} {n : Nat} {yc ya ys yd : Nat → Int32} {q : Nat} {zc zp zr zs zf : Nat → Int32} {z : Nat} {zm zt : Int64} {k : Nat} (hn : n ≤ 24) (hk : k < n) (hx : p.tables.exec = Jvm.exec) (hb : c.code = cc) (hml : c.maxLocals = nL) (hown : s.vm.findClass own = some m.cls) (hts : ∀ w ∈ Ts, w.before args s = true) (hK : va_K (dC, dI) vwCl [(cI, .int), (cZ, .boolean)] s) (hP : va_P (dC, dI) vwCl (wC cI cZ ad sm fe ex dy gp gc op gr st dl wo n yc ya ys yd q zc zp zr zs zf z zm zt) H) (hg9 : GoodIn Ts (wsV own index RX3 yX3_stateOf wsX3_stateOf)) (hR9 : 2 + 1 ≤ R.frames ∧ 8 + (2 + 11) + 42 ≤ R.locals) (hc9 : cells ≤ R.cells ∧ slots ≤ R.slots) (hl9 : ls.size = nL) (hw9 : (rest.map fun v => v.category).sum ≤ 8) (hdg : decode cc pc = .ok (.invokevirtual index, 3)) (kk : W p l e R s m args below meth c H locs cells slots Q (F0 m (pc + 3) ls (.int (st k) :: rest))) : W p l e R s m args below meth c H locs cells slots Q (F0 m pc ls (.int (nI k) :: .ref (ad 0) :: rest)) := zc_ro (W.runV (As := [.int (nI k)]) (rest := rest) ⟨hx, hb, hml, hown, hts⟩ (c_X3_stateOf_ok (dC := dC) (dI := dI) (cI := cI) (cZ := cZ) (ad := ad) (sm := sm) (fe := fe) (ex := ex) (dy := dy) (gp := gp) (gc := gc) (op := op) (gr := gr) (st := st) (dl := dl) (wo := wo) (n := n) (yc := yc) (ya := ya) (ys := ys) (yd := yd) (q := q) (zc := zc) (zp := zp) (zr := zr) (zs := zs) (zf := zf) (z := z) (zm := zm) (zt := zt) (k := k) l hn hk) (cwV 1 hts hg9 rfl rfl rfl (by decide +kernel) hR9) ⟨fun a U g mk q => ⟨q.1, q.2.1, va_K.moved (u := U) (U := U.calling g mk a) (Vm.Alike.refl U.vm) q.2.2⟩, rC_0 hK hP, fun U hU hW => ⟨rfl, by rw [hU]; exact hP, va_K.moved hW.alike hK⟩⟩ rfl rfl hl9 rfl (lv_room hw9) hdg hc9) (fun r h => by subst h; exact kk)
end
set_option maxHeartbeats 4000000 in
set_option maxRecDepth 100000 in
theorem c_X3_gradeOf_ok (l : Launch) {dC : Nat → ClassId} {dI : Nat → Nat → Nat} {cI cZ : ClassId} {ad : Nat → Nat} {sm fe ex dy : Int32} {gp gc op gr st dl wo : Nat → Int32} {n : Nat} {yc ya ys yd : Nat → Int32} {q : Nat} {zc zp zr zs zf : Nat → Int32} {z : Nat} {zm zt : Int64} {k : Nat} (hn : n ≤ 24) (hk : k < n) : Met l yX3_gradeOf wsX3_gradeOf { frames := 2, cells := 0, slots := 0, locals := 42 } (va_Pc [.ref (ad 0), .int (nI k)] (fun U => va_P (dC, dI) vwCl (wC cI cZ ad sm fe ex dy gp gc op gr st dl wo n yc ya ys yd q zc zp zr zs zf z zm zt) U.heap ∧ va_K (dC, dI) vwCl [(cI, .int), (cZ, .boolean)] U)) (vp_Si (fun r => r = gr k)) 0 0 (fun _ => False) := by
  refine Met.ofW (cc := cX3_gradeOf) (maxL := 2) (ret := (some .int)) (by decide) rfl ?_
  intro p e s m args below meth c s₁ B hml hv
  obtain ⟨rfl, hP, hK⟩ := hv
  have hx := B.exec
  have hb := B.bytes
  have hr := B.returns
  have hts := atoms_spec (ws := wsX3_gradeOf) B.pre
  have hown : s.vm.findClass RX3 = some m.cls := findClass_of_methodNamed B.named
  have hlocks := B.notSynchronized
  have hl := lv_entry ([.ref (ad 0), .int (nI k)]) (n := 2) (Nat.le_of_ble_eq_true rfl)
  rw [lg_entry_eq]
  generalize (lg_sl ([.ref (ad 0), .int (nI k)]) ++ List.replicate (2 - (lg_sl ([.ref (ad 0), .int (nI k)])).length) Slot.unset).toArray = ls at hl ⊢
  have hl : lv_has ls 2 [(0, .ref (ad 0)), (1, .int (nI k))] := hl
  have hiX3 : ∀ w ∈ wsX30, w ∈ wsX3_gradeOf := by decide +kernel
  have hf19 := hts (.fieldLink RX3 19 "SettlementFund" "claimBook" "LSettlementFund$ClaimBook;") (by decide +kernel)
  have hiX0 : ∀ w ∈ wsX00, w ∈ wsX3_gradeOf := by decide +kernel
  have hf178 := hts (.fieldLink RX3 178 "SettlementFund$ClaimBook" "grade" "[I") (by decide +kernel)
  refine lv_aload_n hx hb dX3_gradeOf_0 rfl (lv_at hl 0 rfl) ?_
  refine lv_iload_n hx hb dX3_gradeOf_1 rfl (lv_at hl 1 rfl) ?_
  refine k_X3_mustBeClaim_ok l (k := k) (hn := hn) (hk := hk) hx hb hml hown hts hK hP gX3_gradeOf_X3_mustBeClaim ⟨Nat.le_of_ble_eq_true rfl, Nat.le_of_ble_eq_true rfl⟩ ⟨Nat.le_of_ble_eq_true rfl, Nat.le_of_ble_eq_true rfl⟩ hl.1 (Nat.le_of_ble_eq_true rfl) dX3_gradeOf_2 ?_
  refine lv_aload_n hx hb dX3_gradeOf_5 rfl (lv_at hl 0 rfl) ?_
  refine gC_0_6 hx hb hts hiX3 hown hK hP hf19 dX3_gradeOf_6 ?_
  refine gC_3_1 hx hb hts hiX0 hown hK hP hf178 dX3_gradeOf_9 ?_
  refine lv_iload_n hx hb dX3_gradeOf_12 rfl (lv_at hl 1 rfl) ?_
  refine lC_5 hx hb hK hP (by omega) dX3_gradeOf_13 ?_
  exact W.iret (v := gr k) hx hb hr (fun t ht hW => ⟨gr k, rfl, rfl, ht⟩) (fun _ h => nomatch h) dX3_gradeOf_14
section
variable {p : Program} {e : Env} {R : Room} {s : State} {m : MethodId} {args : Array Value} {below : List Frame} {meth : Method} {c : Code} {H : Heap} {locs : List Loc} {cells slots : Nat} {Q : State → Prop} {cc : ByteArray} {pc : Nat} {ls : Array Slot} {rest : List Value} {own : String} {index nL : Nat} {Ts : List Cond} {H0 : Heap} {A0 : Nat → Prop}
theorem k_X3_gradeOf_ok (l : Launch) {dC : Nat → ClassId} {dI : Nat → Nat → Nat} {cI cZ : ClassId} {ad : Nat → Nat} {sm fe ex dy : Int32} {gp gc op gr st dl wo : Nat → Int32} {n : Nat} {yc ya ys yd : Nat → Int32} {q : Nat} {zc zp zr zs zf : Nat → Int32} {z : Nat} {zm zt : Int64} {k : Nat} (hn : n ≤ 24) (hk : k < n) (hx : p.tables.exec = Jvm.exec) (hb : c.code = cc) (hml : c.maxLocals = nL) (hown : s.vm.findClass own = some m.cls) (hts : ∀ w ∈ Ts, w.before args s = true) (hK : va_K (dC, dI) vwCl [(cI, .int), (cZ, .boolean)] s) (hP : va_P (dC, dI) vwCl (wC cI cZ ad sm fe ex dy gp gc op gr st dl wo n yc ya ys yd q zc zp zr zs zf z zm zt) H) (hg9 : GoodIn Ts (wsV own index RX3 yX3_gradeOf wsX3_gradeOf)) (hR9 : 2 + 1 ≤ R.frames ∧ 8 + (2 + 11) + 42 ≤ R.locals) (hc9 : cells ≤ R.cells ∧ slots ≤ R.slots) (hl9 : ls.size = nL) (hw9 : (rest.map fun v => v.category).sum ≤ 8) (hdg : decode cc pc = .ok (.invokevirtual index, 3)) (kk : W p l e R s m args below meth c H locs cells slots Q (F0 m (pc + 3) ls (.int (gr k) :: rest))) : W p l e R s m args below meth c H locs cells slots Q (F0 m pc ls (.int (nI k) :: .ref (ad 0) :: rest)) := zc_ro (W.runV (As := [.int (nI k)]) (rest := rest) ⟨hx, hb, hml, hown, hts⟩ (c_X3_gradeOf_ok (dC := dC) (dI := dI) (cI := cI) (cZ := cZ) (ad := ad) (sm := sm) (fe := fe) (ex := ex) (dy := dy) (gp := gp) (gc := gc) (op := op) (gr := gr) (st := st) (dl := dl) (wo := wo) (n := n) (yc := yc) (ya := ya) (ys := ys) (yd := yd) (q := q) (zc := zc) (zp := zp) (zr := zr) (zs := zs) (zf := zf) (z := z) (zm := zm) (zt := zt) (k := k) l hn hk) (cwV 1 hts hg9 rfl rfl rfl (by decide +kernel) hR9) ⟨fun a U g mk q => ⟨q.1, q.2.1, va_K.moved (u := U) (U := U.calling g mk a) (Vm.Alike.refl U.vm) q.2.2⟩, rC_0 hK hP, fun U hU hW => ⟨rfl, by rw [hU]; exact hP, va_K.moved hW.alike hK⟩⟩ rfl rfl hl9 rfl (lv_room hw9) hdg hc9) (fun r h => by subst h; exact kk)
end
set_option maxHeartbeats 4000000 in
set_option maxRecDepth 100000 in
theorem c_X3_paidTo_ok (l : Launch) {dC : Nat → ClassId} {dI : Nat → Nat → Nat} {cI cZ : ClassId} {ad : Nat → Nat} {sm fe ex dy : Int32} {gp gc op gr st dl wo : Nat → Int32} {n : Nat} {yc ya ys yd : Nat → Int32} {q : Nat} {zc zp zr zs zf : Nat → Int32} {z : Nat} {zm zt : Int64} {k : Nat} (hn : n ≤ 24) (hk : k < n) (hq : q ≤ 100) : Met l yX3_paidTo wsX3_paidTo { frames := 2, cells := 0, slots := 0, locals := 42 } (va_Pc [.ref (ad 0), .int (nI k)] (fun U => va_P (dC, dI) vwCl (wC cI cZ ad sm fe ex dy gp gc op gr st dl wo n yc ya ys yd q zc zp zr zs zf z zm zt) U.heap ∧ va_K (dC, dI) vwCl [(cI, .int), (cZ, .boolean)] U)) (vp_Si (fun r => r = sumForI yc ya ys (nI k) q)) 0 0 (fun _ => False) := by
  refine Met.ofW (cc := cX3_paidTo) (maxL := 2) (ret := (some .int)) (by decide) rfl ?_
  intro p e s m args below meth c s₁ B hml hv
  obtain ⟨rfl, hP, hK⟩ := hv
  have hx := B.exec
  have hb := B.bytes
  have hr := B.returns
  have hts := atoms_spec (ws := wsX3_paidTo) B.pre
  have hown : s.vm.findClass RX3 = some m.cls := findClass_of_methodNamed B.named
  have hlocks := B.notSynchronized
  have hl := lv_entry ([.ref (ad 0), .int (nI k)]) (n := 2) (Nat.le_of_ble_eq_true rfl)
  rw [lg_entry_eq]
  generalize (lg_sl ([.ref (ad 0), .int (nI k)]) ++ List.replicate (2 - (lg_sl ([.ref (ad 0), .int (nI k)])).length) Slot.unset).toArray = ls at hl ⊢
  have hl : lv_has ls 2 [(0, .ref (ad 0)), (1, .int (nI k))] := hl
  have hiX3 : ∀ w ∈ wsX30, w ∈ wsX3_paidTo := by decide +kernel
  have hf26 := hts (.fieldLink RX3 26 "SettlementFund" "paymentBook" "LSettlementFund$PaymentBook;") (by decide +kernel)
  refine lv_aload_n hx hb dX3_paidTo_0 rfl (lv_at hl 0 rfl) ?_
  refine lv_iload_n hx hb dX3_paidTo_1 rfl (lv_at hl 1 rfl) ?_
  refine k_X3_mustBeClaim_ok l (k := k) (hn := hn) (hk := hk) hx hb hml hown hts hK hP gX3_paidTo_X3_mustBeClaim ⟨Nat.le_of_ble_eq_true rfl, Nat.le_of_ble_eq_true rfl⟩ ⟨Nat.le_of_ble_eq_true rfl, Nat.le_of_ble_eq_true rfl⟩ hl.1 (Nat.le_of_ble_eq_true rfl) dX3_paidTo_2 ?_
  refine lv_aload_n hx hb dX3_paidTo_5 rfl (lv_at hl 0 rfl) ?_
  refine gC_0_7 hx hb hts hiX3 hown hK hP hf26 dX3_paidTo_6 ?_
  refine lv_iload_n hx hb dX3_paidTo_9 rfl (lv_at hl 1 rfl) ?_
  refine k_X1_sumFor l (w := nI k) (hq := hq) hx hb hml hown hts hK hP gX3_paidTo_X1_sumFor ⟨Nat.le_of_ble_eq_true rfl, Nat.le_of_ble_eq_true rfl⟩ ⟨Nat.le_of_ble_eq_true rfl, Nat.le_of_ble_eq_true rfl⟩ hl.1 (Nat.le_of_ble_eq_true rfl) dX3_paidTo_10 ?_
  exact W.iret (v := sumForI yc ya ys (nI k) q) hx hb hr (fun t ht hW => ⟨sumForI yc ya ys (nI k) q, rfl, rfl, ht⟩) (fun _ h => nomatch h) dX3_paidTo_13
section
variable {p : Program} {e : Env} {R : Room} {s : State} {m : MethodId} {args : Array Value} {below : List Frame} {meth : Method} {c : Code} {H : Heap} {locs : List Loc} {cells slots : Nat} {Q : State → Prop} {cc : ByteArray} {pc : Nat} {ls : Array Slot} {rest : List Value} {own : String} {index nL : Nat} {Ts : List Cond} {H0 : Heap} {A0 : Nat → Prop}
theorem k_X3_paidTo_ok (l : Launch) {dC : Nat → ClassId} {dI : Nat → Nat → Nat} {cI cZ : ClassId} {ad : Nat → Nat} {sm fe ex dy : Int32} {gp gc op gr st dl wo : Nat → Int32} {n : Nat} {yc ya ys yd : Nat → Int32} {q : Nat} {zc zp zr zs zf : Nat → Int32} {z : Nat} {zm zt : Int64} {k : Nat} (hn : n ≤ 24) (hk : k < n) (hq : q ≤ 100) (hx : p.tables.exec = Jvm.exec) (hb : c.code = cc) (hml : c.maxLocals = nL) (hown : s.vm.findClass own = some m.cls) (hts : ∀ w ∈ Ts, w.before args s = true) (hK : va_K (dC, dI) vwCl [(cI, .int), (cZ, .boolean)] s) (hP : va_P (dC, dI) vwCl (wC cI cZ ad sm fe ex dy gp gc op gr st dl wo n yc ya ys yd q zc zp zr zs zf z zm zt) H) (hg9 : GoodIn Ts (wsV own index RX3 yX3_paidTo wsX3_paidTo)) (hR9 : 2 + 1 ≤ R.frames ∧ 8 + (2 + 11) + 42 ≤ R.locals) (hc9 : cells ≤ R.cells ∧ slots ≤ R.slots) (hl9 : ls.size = nL) (hw9 : (rest.map fun v => v.category).sum ≤ 8) (hdg : decode cc pc = .ok (.invokevirtual index, 3)) (kk : W p l e R s m args below meth c H locs cells slots Q (F0 m (pc + 3) ls (.int (sumForI yc ya ys (nI k) q) :: rest))) : W p l e R s m args below meth c H locs cells slots Q (F0 m pc ls (.int (nI k) :: .ref (ad 0) :: rest)) := zc_ro (W.runV (As := [.int (nI k)]) (rest := rest) ⟨hx, hb, hml, hown, hts⟩ (c_X3_paidTo_ok (dC := dC) (dI := dI) (cI := cI) (cZ := cZ) (ad := ad) (sm := sm) (fe := fe) (ex := ex) (dy := dy) (gp := gp) (gc := gc) (op := op) (gr := gr) (st := st) (dl := dl) (wo := wo) (n := n) (yc := yc) (ya := ya) (ys := ys) (yd := yd) (q := q) (zc := zc) (zp := zp) (zr := zr) (zs := zs) (zf := zf) (z := z) (zm := zm) (zt := zt) (k := k) l hn hk hq) (cwV 1 hts hg9 rfl rfl rfl (by decide +kernel) hR9) ⟨fun a U g mk q => ⟨q.1, q.2.1, va_K.moved (u := U) (U := U.calling g mk a) (Vm.Alike.refl U.vm) q.2.2⟩, rC_0 hK hP, fun U hU hW => ⟨rfl, by rw [hU]; exact hP, va_K.moved hW.alike hK⟩⟩ rfl rfl hl9 rfl (lv_room hw9) hdg hc9) (fun r h => by subst h; exact kk)
end
set_option maxHeartbeats 4000000 in
set_option maxRecDepth 100000 in
theorem c_X3_paymentTo_ok (l : Launch) {dC : Nat → ClassId} {dI : Nat → Nat → Nat} {cI cZ : ClassId} {ad : Nat → Nat} {sm fe ex dy : Int32} {gp gc op gr st dl wo : Nat → Int32} {n : Nat} {yc ya ys yd : Nat → Int32} {q : Nat} {zc zp zr zs zf : Nat → Int32} {z : Nat} {zm zt : Int64} {k : Nat} (hq : q ≤ 100) (hk : k < q) : Met l yX3_paymentTo wsX3_paymentTo { frames := 2, cells := 0, slots := 0, locals := 42 } (va_Pc [.ref (ad 0), .int (nI k)] (fun U => va_P (dC, dI) vwCl (wC cI cZ ad sm fe ex dy gp gc op gr st dl wo n yc ya ys yd q zc zp zr zs zf z zm zt) U.heap ∧ va_K (dC, dI) vwCl [(cI, .int), (cZ, .boolean)] U)) (vp_Si (fun r => r = yc k)) 0 0 (fun _ => False) := by
  refine Met.ofW (cc := cX3_paymentTo) (maxL := 2) (ret := (some .int)) (by decide) rfl ?_
  intro p e s m args below meth c s₁ B hml hv
  obtain ⟨rfl, hP, hK⟩ := hv
  have hx := B.exec
  have hb := B.bytes
  have hr := B.returns
  have hts := atoms_spec (ws := wsX3_paymentTo) B.pre
  have hown : s.vm.findClass RX3 = some m.cls := findClass_of_methodNamed B.named
  have hlocks := B.notSynchronized
  have hl := lv_entry ([.ref (ad 0), .int (nI k)]) (n := 2) (Nat.le_of_ble_eq_true rfl)
  rw [lg_entry_eq]
  generalize (lg_sl ([.ref (ad 0), .int (nI k)]) ++ List.replicate (2 - (lg_sl ([.ref (ad 0), .int (nI k)])).length) Slot.unset).toArray = ls at hl ⊢
  have hl : lv_has ls 2 [(0, .ref (ad 0)), (1, .int (nI k))] := hl
  have hiX3 : ∀ w ∈ wsX30, w ∈ wsX3_paymentTo := by decide +kernel
  have hf26 := hts (.fieldLink RX3 26 "SettlementFund" "paymentBook" "LSettlementFund$PaymentBook;") (by decide +kernel)
  have hiX1 : ∀ w ∈ wsX10, w ∈ wsX3_paymentTo := by decide +kernel
  have hf199 := hts (.fieldLink RX3 199 "SettlementFund$PaymentBook" "claim" "[I") (by decide +kernel)
  refine lv_aload_n hx hb dX3_paymentTo_0 rfl (lv_at hl 0 rfl) ?_
  refine lv_iload_n hx hb dX3_paymentTo_1 rfl (lv_at hl 1 rfl) ?_
  refine k_X3_mustBePayment_ok l (k := k) (hq := hq) (hk := hk) hx hb hml hown hts hK hP gX3_paymentTo_X3_mustBePayment ⟨Nat.le_of_ble_eq_true rfl, Nat.le_of_ble_eq_true rfl⟩ ⟨Nat.le_of_ble_eq_true rfl, Nat.le_of_ble_eq_true rfl⟩ hl.1 (Nat.le_of_ble_eq_true rfl) dX3_paymentTo_2 ?_
  refine lv_aload_n hx hb dX3_paymentTo_5 rfl (lv_at hl 0 rfl) ?_
  refine gC_0_7 hx hb hts hiX3 hown hK hP hf26 dX3_paymentTo_6 ?_
  refine gC_9_0 hx hb hts hiX1 hown hK hP hf199 dX3_paymentTo_9 ?_
  refine lv_iload_n hx hb dX3_paymentTo_12 rfl (lv_at hl 1 rfl) ?_
  refine lC_10 hx hb hK hP (by omega) dX3_paymentTo_13 ?_
  exact W.iret (v := yc k) hx hb hr (fun t ht hW => ⟨yc k, rfl, rfl, ht⟩) (fun _ h => nomatch h) dX3_paymentTo_14
section
variable {p : Program} {e : Env} {R : Room} {s : State} {m : MethodId} {args : Array Value} {below : List Frame} {meth : Method} {c : Code} {H : Heap} {locs : List Loc} {cells slots : Nat} {Q : State → Prop} {cc : ByteArray} {pc : Nat} {ls : Array Slot} {rest : List Value} {own : String} {index nL : Nat} {Ts : List Cond} {H0 : Heap} {A0 : Nat → Prop}
theorem k_X3_paymentTo_ok (l : Launch) {dC : Nat → ClassId} {dI : Nat → Nat → Nat} {cI cZ : ClassId} {ad : Nat → Nat} {sm fe ex dy : Int32} {gp gc op gr st dl wo : Nat → Int32} {n : Nat} {yc ya ys yd : Nat → Int32} {q : Nat} {zc zp zr zs zf : Nat → Int32} {z : Nat} {zm zt : Int64} {k : Nat} (hq : q ≤ 100) (hk : k < q) (hx : p.tables.exec = Jvm.exec) (hb : c.code = cc) (hml : c.maxLocals = nL) (hown : s.vm.findClass own = some m.cls) (hts : ∀ w ∈ Ts, w.before args s = true) (hK : va_K (dC, dI) vwCl [(cI, .int), (cZ, .boolean)] s) (hP : va_P (dC, dI) vwCl (wC cI cZ ad sm fe ex dy gp gc op gr st dl wo n yc ya ys yd q zc zp zr zs zf z zm zt) H) (hg9 : GoodIn Ts (wsV own index RX3 yX3_paymentTo wsX3_paymentTo)) (hR9 : 2 + 1 ≤ R.frames ∧ 8 + (2 + 11) + 42 ≤ R.locals) (hc9 : cells ≤ R.cells ∧ slots ≤ R.slots) (hl9 : ls.size = nL) (hw9 : (rest.map fun v => v.category).sum ≤ 8) (hdg : decode cc pc = .ok (.invokevirtual index, 3)) (kk : W p l e R s m args below meth c H locs cells slots Q (F0 m (pc + 3) ls (.int (yc k) :: rest))) : W p l e R s m args below meth c H locs cells slots Q (F0 m pc ls (.int (nI k) :: .ref (ad 0) :: rest)) := zc_ro (W.runV (As := [.int (nI k)]) (rest := rest) ⟨hx, hb, hml, hown, hts⟩ (c_X3_paymentTo_ok (dC := dC) (dI := dI) (cI := cI) (cZ := cZ) (ad := ad) (sm := sm) (fe := fe) (ex := ex) (dy := dy) (gp := gp) (gc := gc) (op := op) (gr := gr) (st := st) (dl := dl) (wo := wo) (n := n) (yc := yc) (ya := ya) (ys := ys) (yd := yd) (q := q) (zc := zc) (zp := zp) (zr := zr) (zs := zs) (zf := zf) (z := z) (zm := zm) (zt := zt) (k := k) l hq hk) (cwV 1 hts hg9 rfl rfl rfl (by decide +kernel) hR9) ⟨fun a U g mk q => ⟨q.1, q.2.1, va_K.moved (u := U) (U := U.calling g mk a) (Vm.Alike.refl U.vm) q.2.2⟩, rC_0 hK hP, fun U hU hW => ⟨rfl, by rw [hU]; exact hP, va_K.moved hW.alike hK⟩⟩ rfl rfl hl9 rfl (lv_room hw9) hdg hc9) (fun r h => by subst h; exact kk)
end
set_option maxHeartbeats 4000000 in
set_option maxRecDepth 100000 in
theorem c_X3_amountOf_ok (l : Launch) {dC : Nat → ClassId} {dI : Nat → Nat → Nat} {cI cZ : ClassId} {ad : Nat → Nat} {sm fe ex dy : Int32} {gp gc op gr st dl wo : Nat → Int32} {n : Nat} {yc ya ys yd : Nat → Int32} {q : Nat} {zc zp zr zs zf : Nat → Int32} {z : Nat} {zm zt : Int64} {k : Nat} (hq : q ≤ 100) (hk : k < q) : Met l yX3_amountOf wsX3_amountOf { frames := 2, cells := 0, slots := 0, locals := 42 } (va_Pc [.ref (ad 0), .int (nI k)] (fun U => va_P (dC, dI) vwCl (wC cI cZ ad sm fe ex dy gp gc op gr st dl wo n yc ya ys yd q zc zp zr zs zf z zm zt) U.heap ∧ va_K (dC, dI) vwCl [(cI, .int), (cZ, .boolean)] U)) (vp_Si (fun r => r = ya k)) 0 0 (fun _ => False) := by
  refine Met.ofW (cc := cX3_amountOf) (maxL := 2) (ret := (some .int)) (by decide) rfl ?_
  intro p e s m args below meth c s₁ B hml hv
  obtain ⟨rfl, hP, hK⟩ := hv
  have hx := B.exec
  have hb := B.bytes
  have hr := B.returns
  have hts := atoms_spec (ws := wsX3_amountOf) B.pre
  have hown : s.vm.findClass RX3 = some m.cls := findClass_of_methodNamed B.named
  have hlocks := B.notSynchronized
  have hl := lv_entry ([.ref (ad 0), .int (nI k)]) (n := 2) (Nat.le_of_ble_eq_true rfl)
  rw [lg_entry_eq]
  generalize (lg_sl ([.ref (ad 0), .int (nI k)]) ++ List.replicate (2 - (lg_sl ([.ref (ad 0), .int (nI k)])).length) Slot.unset).toArray = ls at hl ⊢
  have hl : lv_has ls 2 [(0, .ref (ad 0)), (1, .int (nI k))] := hl
  have hiX3 : ∀ w ∈ wsX30, w ∈ wsX3_amountOf := by decide +kernel
  have hf26 := hts (.fieldLink RX3 26 "SettlementFund" "paymentBook" "LSettlementFund$PaymentBook;") (by decide +kernel)
  have hiX1 : ∀ w ∈ wsX10, w ∈ wsX3_amountOf := by decide +kernel
  have hf170 := hts (.fieldLink RX3 170 "SettlementFund$PaymentBook" "amount" "[I") (by decide +kernel)
  refine lv_aload_n hx hb dX3_amountOf_0 rfl (lv_at hl 0 rfl) ?_
  refine lv_iload_n hx hb dX3_amountOf_1 rfl (lv_at hl 1 rfl) ?_
  refine k_X3_mustBePayment_ok l (k := k) (hq := hq) (hk := hk) hx hb hml hown hts hK hP gX3_amountOf_X3_mustBePayment ⟨Nat.le_of_ble_eq_true rfl, Nat.le_of_ble_eq_true rfl⟩ ⟨Nat.le_of_ble_eq_true rfl, Nat.le_of_ble_eq_true rfl⟩ hl.1 (Nat.le_of_ble_eq_true rfl) dX3_amountOf_2 ?_
  refine lv_aload_n hx hb dX3_amountOf_5 rfl (lv_at hl 0 rfl) ?_
  refine gC_0_7 hx hb hts hiX3 hown hK hP hf26 dX3_amountOf_6 ?_
  refine gC_9_1 hx hb hts hiX1 hown hK hP hf170 dX3_amountOf_9 ?_
  refine lv_iload_n hx hb dX3_amountOf_12 rfl (lv_at hl 1 rfl) ?_
  refine lC_11 hx hb hK hP (by omega) dX3_amountOf_13 ?_
  exact W.iret (v := ya k) hx hb hr (fun t ht hW => ⟨ya k, rfl, rfl, ht⟩) (fun _ h => nomatch h) dX3_amountOf_14
section
variable {p : Program} {e : Env} {R : Room} {s : State} {m : MethodId} {args : Array Value} {below : List Frame} {meth : Method} {c : Code} {H : Heap} {locs : List Loc} {cells slots : Nat} {Q : State → Prop} {cc : ByteArray} {pc : Nat} {ls : Array Slot} {rest : List Value} {own : String} {index nL : Nat} {Ts : List Cond} {H0 : Heap} {A0 : Nat → Prop}
theorem k_X3_amountOf_ok (l : Launch) {dC : Nat → ClassId} {dI : Nat → Nat → Nat} {cI cZ : ClassId} {ad : Nat → Nat} {sm fe ex dy : Int32} {gp gc op gr st dl wo : Nat → Int32} {n : Nat} {yc ya ys yd : Nat → Int32} {q : Nat} {zc zp zr zs zf : Nat → Int32} {z : Nat} {zm zt : Int64} {k : Nat} (hq : q ≤ 100) (hk : k < q) (hx : p.tables.exec = Jvm.exec) (hb : c.code = cc) (hml : c.maxLocals = nL) (hown : s.vm.findClass own = some m.cls) (hts : ∀ w ∈ Ts, w.before args s = true) (hK : va_K (dC, dI) vwCl [(cI, .int), (cZ, .boolean)] s) (hP : va_P (dC, dI) vwCl (wC cI cZ ad sm fe ex dy gp gc op gr st dl wo n yc ya ys yd q zc zp zr zs zf z zm zt) H) (hg9 : GoodIn Ts (wsV own index RX3 yX3_amountOf wsX3_amountOf)) (hR9 : 2 + 1 ≤ R.frames ∧ 8 + (2 + 11) + 42 ≤ R.locals) (hc9 : cells ≤ R.cells ∧ slots ≤ R.slots) (hl9 : ls.size = nL) (hw9 : (rest.map fun v => v.category).sum ≤ 8) (hdg : decode cc pc = .ok (.invokevirtual index, 3)) (kk : W p l e R s m args below meth c H locs cells slots Q (F0 m (pc + 3) ls (.int (ya k) :: rest))) : W p l e R s m args below meth c H locs cells slots Q (F0 m pc ls (.int (nI k) :: .ref (ad 0) :: rest)) := zc_ro (W.runV (As := [.int (nI k)]) (rest := rest) ⟨hx, hb, hml, hown, hts⟩ (c_X3_amountOf_ok (dC := dC) (dI := dI) (cI := cI) (cZ := cZ) (ad := ad) (sm := sm) (fe := fe) (ex := ex) (dy := dy) (gp := gp) (gc := gc) (op := op) (gr := gr) (st := st) (dl := dl) (wo := wo) (n := n) (yc := yc) (ya := ya) (ys := ys) (yd := yd) (q := q) (zc := zc) (zp := zp) (zr := zr) (zs := zs) (zf := zf) (z := z) (zm := zm) (zt := zt) (k := k) l hq hk) (cwV 1 hts hg9 rfl rfl rfl (by decide +kernel) hR9) ⟨fun a U g mk q => ⟨q.1, q.2.1, va_K.moved (u := U) (U := U.calling g mk a) (Vm.Alike.refl U.vm) q.2.2⟩, rC_0 hK hP, fun U hU hW => ⟨rfl, by rw [hU]; exact hP, va_K.moved hW.alike hK⟩⟩ rfl rfl hl9 rfl (lv_room hw9) hdg hc9) (fun r h => by subst h; exact kk)
end
set_option maxHeartbeats 4000000 in
set_option maxRecDepth 100000 in
theorem c_X3_paymentState_ok (l : Launch) {dC : Nat → ClassId} {dI : Nat → Nat → Nat} {cI cZ : ClassId} {ad : Nat → Nat} {sm fe ex dy : Int32} {gp gc op gr st dl wo : Nat → Int32} {n : Nat} {yc ya ys yd : Nat → Int32} {q : Nat} {zc zp zr zs zf : Nat → Int32} {z : Nat} {zm zt : Int64} {k : Nat} (hq : q ≤ 100) (hk : k < q) : Met l yX3_paymentState wsX3_paymentState { frames := 2, cells := 0, slots := 0, locals := 42 } (va_Pc [.ref (ad 0), .int (nI k)] (fun U => va_P (dC, dI) vwCl (wC cI cZ ad sm fe ex dy gp gc op gr st dl wo n yc ya ys yd q zc zp zr zs zf z zm zt) U.heap ∧ va_K (dC, dI) vwCl [(cI, .int), (cZ, .boolean)] U)) (vp_Si (fun r => r = ys k)) 0 0 (fun _ => False) := by
  refine Met.ofW (cc := cX3_paymentState) (maxL := 2) (ret := (some .int)) (by decide) rfl ?_
  intro p e s m args below meth c s₁ B hml hv
  obtain ⟨rfl, hP, hK⟩ := hv
  have hx := B.exec
  have hb := B.bytes
  have hr := B.returns
  have hts := atoms_spec (ws := wsX3_paymentState) B.pre
  have hown : s.vm.findClass RX3 = some m.cls := findClass_of_methodNamed B.named
  have hlocks := B.notSynchronized
  have hl := lv_entry ([.ref (ad 0), .int (nI k)]) (n := 2) (Nat.le_of_ble_eq_true rfl)
  rw [lg_entry_eq]
  generalize (lg_sl ([.ref (ad 0), .int (nI k)]) ++ List.replicate (2 - (lg_sl ([.ref (ad 0), .int (nI k)])).length) Slot.unset).toArray = ls at hl ⊢
  have hl : lv_has ls 2 [(0, .ref (ad 0)), (1, .int (nI k))] := hl
  have hiX3 : ∀ w ∈ wsX30, w ∈ wsX3_paymentState := by decide +kernel
  have hf26 := hts (.fieldLink RX3 26 "SettlementFund" "paymentBook" "LSettlementFund$PaymentBook;") (by decide +kernel)
  have hiX1 : ∀ w ∈ wsX10, w ∈ wsX3_paymentState := by decide +kernel
  have hf167 := hts (.fieldLink RX3 167 "SettlementFund$PaymentBook" "state" "[I") (by decide +kernel)
  refine lv_aload_n hx hb dX3_paymentState_0 rfl (lv_at hl 0 rfl) ?_
  refine lv_iload_n hx hb dX3_paymentState_1 rfl (lv_at hl 1 rfl) ?_
  refine k_X3_mustBePayment_ok l (k := k) (hq := hq) (hk := hk) hx hb hml hown hts hK hP gX3_paymentState_X3_mustBePayment ⟨Nat.le_of_ble_eq_true rfl, Nat.le_of_ble_eq_true rfl⟩ ⟨Nat.le_of_ble_eq_true rfl, Nat.le_of_ble_eq_true rfl⟩ hl.1 (Nat.le_of_ble_eq_true rfl) dX3_paymentState_2 ?_
  refine lv_aload_n hx hb dX3_paymentState_5 rfl (lv_at hl 0 rfl) ?_
  refine gC_0_7 hx hb hts hiX3 hown hK hP hf26 dX3_paymentState_6 ?_
  refine gC_9_2 hx hb hts hiX1 hown hK hP hf167 dX3_paymentState_9 ?_
  refine lv_iload_n hx hb dX3_paymentState_12 rfl (lv_at hl 1 rfl) ?_
  refine lC_12 hx hb hK hP (by omega) dX3_paymentState_13 ?_
  exact W.iret (v := ys k) hx hb hr (fun t ht hW => ⟨ys k, rfl, rfl, ht⟩) (fun _ h => nomatch h) dX3_paymentState_14
section
variable {p : Program} {e : Env} {R : Room} {s : State} {m : MethodId} {args : Array Value} {below : List Frame} {meth : Method} {c : Code} {H : Heap} {locs : List Loc} {cells slots : Nat} {Q : State → Prop} {cc : ByteArray} {pc : Nat} {ls : Array Slot} {rest : List Value} {own : String} {index nL : Nat} {Ts : List Cond} {H0 : Heap} {A0 : Nat → Prop}
theorem k_X3_paymentState_ok (l : Launch) {dC : Nat → ClassId} {dI : Nat → Nat → Nat} {cI cZ : ClassId} {ad : Nat → Nat} {sm fe ex dy : Int32} {gp gc op gr st dl wo : Nat → Int32} {n : Nat} {yc ya ys yd : Nat → Int32} {q : Nat} {zc zp zr zs zf : Nat → Int32} {z : Nat} {zm zt : Int64} {k : Nat} (hq : q ≤ 100) (hk : k < q) (hx : p.tables.exec = Jvm.exec) (hb : c.code = cc) (hml : c.maxLocals = nL) (hown : s.vm.findClass own = some m.cls) (hts : ∀ w ∈ Ts, w.before args s = true) (hK : va_K (dC, dI) vwCl [(cI, .int), (cZ, .boolean)] s) (hP : va_P (dC, dI) vwCl (wC cI cZ ad sm fe ex dy gp gc op gr st dl wo n yc ya ys yd q zc zp zr zs zf z zm zt) H) (hg9 : GoodIn Ts (wsV own index RX3 yX3_paymentState wsX3_paymentState)) (hR9 : 2 + 1 ≤ R.frames ∧ 8 + (2 + 11) + 42 ≤ R.locals) (hc9 : cells ≤ R.cells ∧ slots ≤ R.slots) (hl9 : ls.size = nL) (hw9 : (rest.map fun v => v.category).sum ≤ 8) (hdg : decode cc pc = .ok (.invokevirtual index, 3)) (kk : W p l e R s m args below meth c H locs cells slots Q (F0 m (pc + 3) ls (.int (ys k) :: rest))) : W p l e R s m args below meth c H locs cells slots Q (F0 m pc ls (.int (nI k) :: .ref (ad 0) :: rest)) := zc_ro (W.runV (As := [.int (nI k)]) (rest := rest) ⟨hx, hb, hml, hown, hts⟩ (c_X3_paymentState_ok (dC := dC) (dI := dI) (cI := cI) (cZ := cZ) (ad := ad) (sm := sm) (fe := fe) (ex := ex) (dy := dy) (gp := gp) (gc := gc) (op := op) (gr := gr) (st := st) (dl := dl) (wo := wo) (n := n) (yc := yc) (ya := ya) (ys := ys) (yd := yd) (q := q) (zc := zc) (zp := zp) (zr := zr) (zs := zs) (zf := zf) (z := z) (zm := zm) (zt := zt) (k := k) l hq hk) (cwV 1 hts hg9 rfl rfl rfl (by decide +kernel) hR9) ⟨fun a U g mk q => ⟨q.1, q.2.1, va_K.moved (u := U) (U := U.calling g mk a) (Vm.Alike.refl U.vm) q.2.2⟩, rC_0 hK hP, fun U hU hW => ⟨rfl, by rw [hU]; exact hP, va_K.moved hW.alike hK⟩⟩ rfl rfl hl9 rfl (lv_room hw9) hdg hc9) (fun r h => by subst h; exact kk)
end
set_option maxHeartbeats 4000000 in
set_option maxRecDepth 100000 in
theorem c_X3_today (l : Launch) {dC : Nat → ClassId} {dI : Nat → Nat → Nat} {cI cZ : ClassId} {ad : Nat → Nat} {sm fe ex dy : Int32} {gp gc op gr st dl wo : Nat → Int32} {n : Nat} {yc ya ys yd : Nat → Int32} {q : Nat} {zc zp zr zs zf : Nat → Int32} {z : Nat} {zm zt : Int64}   : Met l yX3_today wsX3_today { frames := 0, cells := 0, slots := 0, locals := 0 } (va_Pc [.ref (ad 0)] (fun U => va_P (dC, dI) vwCl (wC cI cZ ad sm fe ex dy gp gc op gr st dl wo n yc ya ys yd q zc zp zr zs zf z zm zt) U.heap ∧ va_K (dC, dI) vwCl [(cI, .int), (cZ, .boolean)] U)) (vp_Si (fun r => r = dy)) 0 0 (fun _ => False) := by
  refine Met.ofW (cc := cX3_today) (maxL := 1) (ret := (some .int)) (by decide) rfl ?_
  intro p e s m args below meth c s₁ B hml hv
  obtain ⟨rfl, hP, hK⟩ := hv
  have hx := B.exec
  have hb := B.bytes
  have hr := B.returns
  have hts := atoms_spec (ws := wsX3_today) B.pre
  have hown : s.vm.findClass RX3 = some m.cls := findClass_of_methodNamed B.named
  have hlocks := B.notSynchronized
  have hl := lv_entry ([.ref (ad 0)]) (n := 1) (Nat.le_of_ble_eq_true rfl)
  rw [lg_entry_eq]
  generalize (lg_sl ([.ref (ad 0)]) ++ List.replicate (1 - (lg_sl ([.ref (ad 0)])).length) Slot.unset).toArray = ls at hl ⊢
  have hl : lv_has ls 1 [(0, .ref (ad 0))] := hl
  have hiX3 : ∀ w ∈ wsX30, w ∈ wsX3_today := by decide +kernel
  have hf76 := hts (.fieldLink RX3 76 "SettlementFund" "day" "I") (by decide +kernel)
  refine lv_aload_n hx hb dX3_today_0 rfl (lv_at hl 0 rfl) ?_
  refine gC_0_3 hx hb hts hiX3 hown hK hP hf76 dX3_today_1 ?_
  exact W.iret (v := dy) hx hb hr (fun t ht hW => ⟨dy, rfl, rfl, ht⟩) (fun _ h => nomatch h) dX3_today_4
section
variable {p : Program} {e : Env} {R : Room} {s : State} {m : MethodId} {args : Array Value} {below : List Frame} {meth : Method} {c : Code} {H : Heap} {locs : List Loc} {cells slots : Nat} {Q : State → Prop} {cc : ByteArray} {pc : Nat} {ls : Array Slot} {rest : List Value} {own : String} {index nL : Nat} {Ts : List Cond} {H0 : Heap} {A0 : Nat → Prop}
theorem k_X3_today (l : Launch) {dC : Nat → ClassId} {dI : Nat → Nat → Nat} {cI cZ : ClassId} {ad : Nat → Nat} {sm fe ex dy : Int32} {gp gc op gr st dl wo : Nat → Int32} {n : Nat} {yc ya ys yd : Nat → Int32} {q : Nat} {zc zp zr zs zf : Nat → Int32} {z : Nat} {zm zt : Int64}   (hx : p.tables.exec = Jvm.exec) (hb : c.code = cc) (hml : c.maxLocals = nL) (hown : s.vm.findClass own = some m.cls) (hts : ∀ w ∈ Ts, w.before args s = true) (hK : va_K (dC, dI) vwCl [(cI, .int), (cZ, .boolean)] s) (hP : va_P (dC, dI) vwCl (wC cI cZ ad sm fe ex dy gp gc op gr st dl wo n yc ya ys yd q zc zp zr zs zf z zm zt) H) (hg9 : GoodIn Ts (wsV own index RX3 yX3_today wsX3_today)) (hR9 : 0 + 1 ≤ R.frames ∧ 8 + (1 + 11) + 0 ≤ R.locals) (hc9 : cells ≤ R.cells ∧ slots ≤ R.slots) (hl9 : ls.size = nL) (hw9 : (rest.map fun v => v.category).sum ≤ 8) (hdg : decode cc pc = .ok (.invokevirtual index, 3)) (kk : W p l e R s m args below meth c H locs cells slots Q (F0 m (pc + 3) ls (.int dy :: rest))) : W p l e R s m args below meth c H locs cells slots Q (F0 m pc ls (.ref (ad 0) :: rest)) := zc_ro (W.runV (As := []) (rest := rest) ⟨hx, hb, hml, hown, hts⟩ (c_X3_today (dC := dC) (dI := dI) (cI := cI) (cZ := cZ) (ad := ad) (sm := sm) (fe := fe) (ex := ex) (dy := dy) (gp := gp) (gc := gc) (op := op) (gr := gr) (st := st) (dl := dl) (wo := wo) (n := n) (yc := yc) (ya := ya) (ys := ys) (yd := yd) (q := q) (zc := zc) (zp := zp) (zr := zr) (zs := zs) (zf := zf) (z := z) (zm := zm) (zt := zt) l ) (cwV 0 hts hg9 rfl rfl rfl (by decide +kernel) hR9) ⟨fun a U g mk q => ⟨q.1, q.2.1, va_K.moved (u := U) (U := U.calling g mk a) (Vm.Alike.refl U.vm) q.2.2⟩, rC_0 hK hP, fun U hU hW => ⟨rfl, by rw [hU]; exact hP, va_K.moved hW.alike hK⟩⟩ rfl rfl hl9 rfl (lv_room hw9) hdg hc9) (fun r h => by subst h; exact kk)
end
set_option maxHeartbeats 4000000 in
set_option maxRecDepth 100000 in
theorem c_X3_claims (l : Launch) {dC : Nat → ClassId} {dI : Nat → Nat → Nat} {cI cZ : ClassId} {ad : Nat → Nat} {sm fe ex dy : Int32} {gp gc op gr st dl wo : Nat → Int32} {n : Nat} {yc ya ys yd : Nat → Int32} {q : Nat} {zc zp zr zs zf : Nat → Int32} {z : Nat} {zm zt : Int64}   : Met l yX3_claims wsX3_claims { frames := 0, cells := 0, slots := 0, locals := 0 } (va_Pc [.ref (ad 0)] (fun U => va_P (dC, dI) vwCl (wC cI cZ ad sm fe ex dy gp gc op gr st dl wo n yc ya ys yd q zc zp zr zs zf z zm zt) U.heap ∧ va_K (dC, dI) vwCl [(cI, .int), (cZ, .boolean)] U)) (vp_Si (fun r => r = nI n)) 0 0 (fun _ => False) := by
  refine Met.ofW (cc := cX3_claims) (maxL := 1) (ret := (some .int)) (by decide) rfl ?_
  intro p e s m args below meth c s₁ B hml hv
  obtain ⟨rfl, hP, hK⟩ := hv
  have hx := B.exec
  have hb := B.bytes
  have hr := B.returns
  have hts := atoms_spec (ws := wsX3_claims) B.pre
  have hown : s.vm.findClass RX3 = some m.cls := findClass_of_methodNamed B.named
  have hlocks := B.notSynchronized
  have hl := lv_entry ([.ref (ad 0)]) (n := 1) (Nat.le_of_ble_eq_true rfl)
  rw [lg_entry_eq]
  generalize (lg_sl ([.ref (ad 0)]) ++ List.replicate (1 - (lg_sl ([.ref (ad 0)])).length) Slot.unset).toArray = ls at hl ⊢
  have hl : lv_has ls 1 [(0, .ref (ad 0))] := hl
  have hiX3 : ∀ w ∈ wsX30, w ∈ wsX3_claims := by decide +kernel
  have hf19 := hts (.fieldLink RX3 19 "SettlementFund" "claimBook" "LSettlementFund$ClaimBook;") (by decide +kernel)
  have hiX0 : ∀ w ∈ wsX00, w ∈ wsX3_claims := by decide +kernel
  have hf173 := hts (.fieldLink RX3 173 "SettlementFund$ClaimBook" "size" "I") (by decide +kernel)
  refine lv_aload_n hx hb dX3_claims_0 rfl (lv_at hl 0 rfl) ?_
  refine gC_0_6 hx hb hts hiX3 hown hK hP hf19 dX3_claims_1 ?_
  refine gC_3_5 hx hb hts hiX0 hown hK hP hf173 dX3_claims_4 ?_
  exact W.iret (v := nI n) hx hb hr (fun t ht hW => ⟨nI n, rfl, rfl, ht⟩) (fun _ h => nomatch h) dX3_claims_7
section
variable {p : Program} {e : Env} {R : Room} {s : State} {m : MethodId} {args : Array Value} {below : List Frame} {meth : Method} {c : Code} {H : Heap} {locs : List Loc} {cells slots : Nat} {Q : State → Prop} {cc : ByteArray} {pc : Nat} {ls : Array Slot} {rest : List Value} {own : String} {index nL : Nat} {Ts : List Cond} {H0 : Heap} {A0 : Nat → Prop}
theorem k_X3_claims (l : Launch) {dC : Nat → ClassId} {dI : Nat → Nat → Nat} {cI cZ : ClassId} {ad : Nat → Nat} {sm fe ex dy : Int32} {gp gc op gr st dl wo : Nat → Int32} {n : Nat} {yc ya ys yd : Nat → Int32} {q : Nat} {zc zp zr zs zf : Nat → Int32} {z : Nat} {zm zt : Int64}   (hx : p.tables.exec = Jvm.exec) (hb : c.code = cc) (hml : c.maxLocals = nL) (hown : s.vm.findClass own = some m.cls) (hts : ∀ w ∈ Ts, w.before args s = true) (hK : va_K (dC, dI) vwCl [(cI, .int), (cZ, .boolean)] s) (hP : va_P (dC, dI) vwCl (wC cI cZ ad sm fe ex dy gp gc op gr st dl wo n yc ya ys yd q zc zp zr zs zf z zm zt) H) (hg9 : GoodIn Ts (wsV own index RX3 yX3_claims wsX3_claims)) (hR9 : 0 + 1 ≤ R.frames ∧ 8 + (1 + 11) + 0 ≤ R.locals) (hc9 : cells ≤ R.cells ∧ slots ≤ R.slots) (hl9 : ls.size = nL) (hw9 : (rest.map fun v => v.category).sum ≤ 8) (hdg : decode cc pc = .ok (.invokevirtual index, 3)) (kk : W p l e R s m args below meth c H locs cells slots Q (F0 m (pc + 3) ls (.int (nI n) :: rest))) : W p l e R s m args below meth c H locs cells slots Q (F0 m pc ls (.ref (ad 0) :: rest)) := zc_ro (W.runV (As := []) (rest := rest) ⟨hx, hb, hml, hown, hts⟩ (c_X3_claims (dC := dC) (dI := dI) (cI := cI) (cZ := cZ) (ad := ad) (sm := sm) (fe := fe) (ex := ex) (dy := dy) (gp := gp) (gc := gc) (op := op) (gr := gr) (st := st) (dl := dl) (wo := wo) (n := n) (yc := yc) (ya := ya) (ys := ys) (yd := yd) (q := q) (zc := zc) (zp := zp) (zr := zr) (zs := zs) (zf := zf) (z := z) (zm := zm) (zt := zt) l ) (cwV 0 hts hg9 rfl rfl rfl (by decide +kernel) hR9) ⟨fun a U g mk q => ⟨q.1, q.2.1, va_K.moved (u := U) (U := U.calling g mk a) (Vm.Alike.refl U.vm) q.2.2⟩, rC_0 hK hP, fun U hU hW => ⟨rfl, by rw [hU]; exact hP, va_K.moved hW.alike hK⟩⟩ rfl rfl hl9 rfl (lv_room hw9) hdg hc9) (fun r h => by subst h; exact kk)
end
set_option maxHeartbeats 4000000 in
set_option maxRecDepth 100000 in
theorem c_X3_payments (l : Launch) {dC : Nat → ClassId} {dI : Nat → Nat → Nat} {cI cZ : ClassId} {ad : Nat → Nat} {sm fe ex dy : Int32} {gp gc op gr st dl wo : Nat → Int32} {n : Nat} {yc ya ys yd : Nat → Int32} {q : Nat} {zc zp zr zs zf : Nat → Int32} {z : Nat} {zm zt : Int64}   : Met l yX3_payments wsX3_payments { frames := 0, cells := 0, slots := 0, locals := 0 } (va_Pc [.ref (ad 0)] (fun U => va_P (dC, dI) vwCl (wC cI cZ ad sm fe ex dy gp gc op gr st dl wo n yc ya ys yd q zc zp zr zs zf z zm zt) U.heap ∧ va_K (dC, dI) vwCl [(cI, .int), (cZ, .boolean)] U)) (vp_Si (fun r => r = nI q)) 0 0 (fun _ => False) := by
  refine Met.ofW (cc := cX3_payments) (maxL := 1) (ret := (some .int)) (by decide) rfl ?_
  intro p e s m args below meth c s₁ B hml hv
  obtain ⟨rfl, hP, hK⟩ := hv
  have hx := B.exec
  have hb := B.bytes
  have hr := B.returns
  have hts := atoms_spec (ws := wsX3_payments) B.pre
  have hown : s.vm.findClass RX3 = some m.cls := findClass_of_methodNamed B.named
  have hlocks := B.notSynchronized
  have hl := lv_entry ([.ref (ad 0)]) (n := 1) (Nat.le_of_ble_eq_true rfl)
  rw [lg_entry_eq]
  generalize (lg_sl ([.ref (ad 0)]) ++ List.replicate (1 - (lg_sl ([.ref (ad 0)])).length) Slot.unset).toArray = ls at hl ⊢
  have hl : lv_has ls 1 [(0, .ref (ad 0))] := hl
  have hiX3 : ∀ w ∈ wsX30, w ∈ wsX3_payments := by decide +kernel
  have hf26 := hts (.fieldLink RX3 26 "SettlementFund" "paymentBook" "LSettlementFund$PaymentBook;") (by decide +kernel)
  have hiX1 : ∀ w ∈ wsX10, w ∈ wsX3_payments := by decide +kernel
  have hf198 := hts (.fieldLink RX3 198 "SettlementFund$PaymentBook" "size" "I") (by decide +kernel)
  refine lv_aload_n hx hb dX3_payments_0 rfl (lv_at hl 0 rfl) ?_
  refine gC_0_7 hx hb hts hiX3 hown hK hP hf26 dX3_payments_1 ?_
  refine gC_9_4 hx hb hts hiX1 hown hK hP hf198 dX3_payments_4 ?_
  exact W.iret (v := nI q) hx hb hr (fun t ht hW => ⟨nI q, rfl, rfl, ht⟩) (fun _ h => nomatch h) dX3_payments_7
section
variable {p : Program} {e : Env} {R : Room} {s : State} {m : MethodId} {args : Array Value} {below : List Frame} {meth : Method} {c : Code} {H : Heap} {locs : List Loc} {cells slots : Nat} {Q : State → Prop} {cc : ByteArray} {pc : Nat} {ls : Array Slot} {rest : List Value} {own : String} {index nL : Nat} {Ts : List Cond} {H0 : Heap} {A0 : Nat → Prop}
theorem k_X3_payments (l : Launch) {dC : Nat → ClassId} {dI : Nat → Nat → Nat} {cI cZ : ClassId} {ad : Nat → Nat} {sm fe ex dy : Int32} {gp gc op gr st dl wo : Nat → Int32} {n : Nat} {yc ya ys yd : Nat → Int32} {q : Nat} {zc zp zr zs zf : Nat → Int32} {z : Nat} {zm zt : Int64}   (hx : p.tables.exec = Jvm.exec) (hb : c.code = cc) (hml : c.maxLocals = nL) (hown : s.vm.findClass own = some m.cls) (hts : ∀ w ∈ Ts, w.before args s = true) (hK : va_K (dC, dI) vwCl [(cI, .int), (cZ, .boolean)] s) (hP : va_P (dC, dI) vwCl (wC cI cZ ad sm fe ex dy gp gc op gr st dl wo n yc ya ys yd q zc zp zr zs zf z zm zt) H) (hg9 : GoodIn Ts (wsV own index RX3 yX3_payments wsX3_payments)) (hR9 : 0 + 1 ≤ R.frames ∧ 8 + (1 + 11) + 0 ≤ R.locals) (hc9 : cells ≤ R.cells ∧ slots ≤ R.slots) (hl9 : ls.size = nL) (hw9 : (rest.map fun v => v.category).sum ≤ 8) (hdg : decode cc pc = .ok (.invokevirtual index, 3)) (kk : W p l e R s m args below meth c H locs cells slots Q (F0 m (pc + 3) ls (.int (nI q) :: rest))) : W p l e R s m args below meth c H locs cells slots Q (F0 m pc ls (.ref (ad 0) :: rest)) := zc_ro (W.runV (As := []) (rest := rest) ⟨hx, hb, hml, hown, hts⟩ (c_X3_payments (dC := dC) (dI := dI) (cI := cI) (cZ := cZ) (ad := ad) (sm := sm) (fe := fe) (ex := ex) (dy := dy) (gp := gp) (gc := gc) (op := op) (gr := gr) (st := st) (dl := dl) (wo := wo) (n := n) (yc := yc) (ya := ya) (ys := ys) (yd := yd) (q := q) (zc := zc) (zp := zp) (zr := zr) (zs := zs) (zf := zf) (z := z) (zm := zm) (zt := zt) l ) (cwV 0 hts hg9 rfl rfl rfl (by decide +kernel) hR9) ⟨fun a U g mk q => ⟨q.1, q.2.1, va_K.moved (u := U) (U := U.calling g mk a) (Vm.Alike.refl U.vm) q.2.2⟩, rC_0 hK hP, fun U hU hW => ⟨rfl, by rw [hU]; exact hP, va_K.moved hW.alike hK⟩⟩ rfl rfl hl9 rfl (lv_room hw9) hdg hc9) (fun r h => by subst h; exact kk)
end
set_option maxHeartbeats 4000000 in
set_option maxRecDepth 100000 in
theorem c_X3_claimOf_ok (l : Launch) {dC : Nat → ClassId} {dI : Nat → Nat → Nat} {cI cZ : ClassId} {ad : Nat → Nat} {sm fe ex dy : Int32} {gp gc op gr st dl wo : Nat → Int32} {n : Nat} {yc ya ys yd : Nat → Int32} {q : Nat} {zc zp zr zs zf : Nat → Int32} {z : Nat} {zm zt : Int64} {k : Nat} (hk : k < 30) (h1 : outN (nI k) (nI 0) (nI 29) = 0) : Met l yX3_claimOf wsX3_claimOf { frames := 1, cells := 0, slots := 0, locals := 22 } (va_Pc [.ref (ad 0), .int (nI k)] (fun U => va_P (dC, dI) vwCl (wC cI cZ ad sm fe ex dy gp gc op gr st dl wo n yc ya ys yd q zc zp zr zs zf z zm zt) U.heap ∧ va_K (dC, dI) vwCl [(cI, .int), (cZ, .boolean)] U)) (vp_Si (fun r => r = op k)) 0 0 (fun _ => False) := by
  refine Met.ofW (cc := cX3_claimOf) (maxL := 2) (ret := (some .int)) (by decide) rfl ?_
  intro p e s m args below meth c s₁ B hml hv
  obtain ⟨rfl, hP, hK⟩ := hv
  have hx := B.exec
  have hb := B.bytes
  have hr := B.returns
  have hts := atoms_spec (ws := wsX3_claimOf) B.pre
  have hown : s.vm.findClass RX3 = some m.cls := findClass_of_methodNamed B.named
  have hlocks := B.notSynchronized
  have hl := lv_entry ([.ref (ad 0), .int (nI k)]) (n := 2) (Nat.le_of_ble_eq_true rfl)
  rw [lg_entry_eq]
  generalize (lg_sl ([.ref (ad 0), .int (nI k)]) ++ List.replicate (2 - (lg_sl ([.ref (ad 0), .int (nI k)])).length) Slot.unset).toArray = ls at hl ⊢
  have hl : lv_has ls 2 [(0, .ref (ad 0)), (1, .int (nI k))] := hl
  have hiX3 : ∀ w ∈ wsX30, w ∈ wsX3_claimOf := by decide +kernel
  have hf19 := hts (.fieldLink RX3 19 "SettlementFund" "claimBook" "LSettlementFund$ClaimBook;") (by decide +kernel)
  have hiX0 : ∀ w ∈ wsX00, w ∈ wsX3_claimOf := by decide +kernel
  have hf88 := hts (.fieldLink RX3 88 "SettlementFund$ClaimBook" "ofPerson" "[I") (by decide +kernel)
  refine lv_iload_n hx hb dX3_claimOf_0 rfl (lv_at hl 1 rfl) ?_
  refine lv_iconst (v := nI 0) hx hb dX3_claimOf_1 (by decide) ?_
  refine lv_bipush (v := nI 29) hx hb dX3_claimOf_2 (by decide) ?_
  refine k_X3_isOutside l (x := nI k) (a := nI 0) (b := nI 29) hx hb hml hown hts  gX3_claimOf_X3_isOutside ⟨Nat.le_of_ble_eq_true rfl, Nat.le_of_ble_eq_true rfl⟩ ⟨Nat.le_of_ble_eq_true rfl, Nat.le_of_ble_eq_true rfl⟩ hl.1 (Nat.le_of_ble_eq_true rfl) dX3_claimOf_4 ?_
  refine zi_eq (tgt := 20) hx hb (outN_lt _ _ _) dX3_claimOf_7 (by decide) (fun c_7 => ?_) (fun c_7 => (show False by exact c_7 h1).elim)
  refine lv_aload_n hx hb dX3_claimOf_20 rfl (lv_at hl 0 rfl) ?_
  refine gC_0_6 hx hb hts hiX3 hown hK hP hf19 dX3_claimOf_21 ?_
  refine gC_3_0 hx hb hts hiX0 hown hK hP hf88 dX3_claimOf_24 ?_
  refine lv_iload_n hx hb dX3_claimOf_27 rfl (lv_at hl 1 rfl) ?_
  refine lC_4 hx hb hK hP (by omega) dX3_claimOf_28 ?_
  exact W.iret (v := op k) hx hb hr (fun t ht hW => ⟨op k, rfl, rfl, ht⟩) (fun _ h => nomatch h) dX3_claimOf_29
section
variable {p : Program} {e : Env} {R : Room} {s : State} {m : MethodId} {args : Array Value} {below : List Frame} {meth : Method} {c : Code} {H : Heap} {locs : List Loc} {cells slots : Nat} {Q : State → Prop} {cc : ByteArray} {pc : Nat} {ls : Array Slot} {rest : List Value} {own : String} {index nL : Nat} {Ts : List Cond} {H0 : Heap} {A0 : Nat → Prop}
theorem k_X3_claimOf_ok (l : Launch) {dC : Nat → ClassId} {dI : Nat → Nat → Nat} {cI cZ : ClassId} {ad : Nat → Nat} {sm fe ex dy : Int32} {gp gc op gr st dl wo : Nat → Int32} {n : Nat} {yc ya ys yd : Nat → Int32} {q : Nat} {zc zp zr zs zf : Nat → Int32} {z : Nat} {zm zt : Int64} {k : Nat} (hk : k < 30) (h1 : outN (nI k) (nI 0) (nI 29) = 0) (hx : p.tables.exec = Jvm.exec) (hb : c.code = cc) (hml : c.maxLocals = nL) (hown : s.vm.findClass own = some m.cls) (hts : ∀ w ∈ Ts, w.before args s = true) (hK : va_K (dC, dI) vwCl [(cI, .int), (cZ, .boolean)] s) (hP : va_P (dC, dI) vwCl (wC cI cZ ad sm fe ex dy gp gc op gr st dl wo n yc ya ys yd q zc zp zr zs zf z zm zt) H) (hg9 : GoodIn Ts (wsV own index RX3 yX3_claimOf wsX3_claimOf)) (hR9 : 1 + 1 ≤ R.frames ∧ 8 + (2 + 11) + 22 ≤ R.locals) (hc9 : cells ≤ R.cells ∧ slots ≤ R.slots) (hl9 : ls.size = nL) (hw9 : (rest.map fun v => v.category).sum ≤ 8) (hdg : decode cc pc = .ok (.invokevirtual index, 3)) (kk : W p l e R s m args below meth c H locs cells slots Q (F0 m (pc + 3) ls (.int (op k) :: rest))) : W p l e R s m args below meth c H locs cells slots Q (F0 m pc ls (.int (nI k) :: .ref (ad 0) :: rest)) := zc_ro (W.runV (As := [.int (nI k)]) (rest := rest) ⟨hx, hb, hml, hown, hts⟩ (c_X3_claimOf_ok (dC := dC) (dI := dI) (cI := cI) (cZ := cZ) (ad := ad) (sm := sm) (fe := fe) (ex := ex) (dy := dy) (gp := gp) (gc := gc) (op := op) (gr := gr) (st := st) (dl := dl) (wo := wo) (n := n) (yc := yc) (ya := ya) (ys := ys) (yd := yd) (q := q) (zc := zc) (zp := zp) (zr := zr) (zs := zs) (zf := zf) (z := z) (zm := zm) (zt := zt) (k := k) l hk h1) (cwV 1 hts hg9 rfl rfl rfl (by decide +kernel) hR9) ⟨fun a U g mk q => ⟨q.1, q.2.1, va_K.moved (u := U) (U := U.calling g mk a) (Vm.Alike.refl U.vm) q.2.2⟩, rC_0 hK hP, fun U hU hW => ⟨rfl, by rw [hU]; exact hP, va_K.moved hW.alike hK⟩⟩ rfl rfl hl9 rfl (lv_room hw9) hdg hc9) (fun r h => by subst h; exact kk)
end
set_option maxHeartbeats 4000000 in
set_option maxRecDepth 100000 in
theorem c_X3_claimOf_no (l : Launch) (hfl : l.stackTraces = false) {dC : Nat → ClassId} {dI : Nat → Nat → Nat} {cI cZ : ClassId} {ad : Nat → Nat} {sm fe ex dy : Int32} {gp gc op gr st dl wo : Nat → Int32} {n : Nat} {yc ya ys yd : Nat → Int32} {q : Nat} {zc zp zr zs zf : Nat → Int32} {z : Nat} {zm zt : Int64} {x : Int32} (h1 : ¬ outN x (nI 0) (nI 29) = 0) : vx_Met l yX3_claimOf wsX3_claimOf { frames := 6, cells := 1, slots := 6, locals := 90 } (va_Pc [.ref (ad 0), .int x] (fun U => va_P (dC, dI) vwCl (wC cI cZ ad sm fe ex dy gp gc op gr st dl wo n yc ya ys yd q zc zp zr zs zf z zm zt) U.heap ∧ va_K (dC, dI) vwCl [(cI, .int), (cZ, .boolean)] U ∧ tX (fun _ => False) U U.heap)) (fun _ _ _ _ => False) (xT "java/lang/IndexOutOfBoundsException") 1 6 (fun _ => False) := by
  refine vx_ofW (cc := cX3_claimOf) (maxL := 2) (ret := (some .int)) (by decide) rfl ?_
  intro p e s m args below meth c s₁ B hml ht hv
  obtain ⟨rfl, hP, hK, hT⟩ := hv
  have hx := B.exec
  have hb := B.bytes
  have hr := B.returns
  have hts := atoms_spec (ws := wsX3_claimOf) B.pre
  have hown : s.vm.findClass RX3 = some m.cls := findClass_of_methodNamed B.named
  have hlocks := B.notSynchronized
  have hl := lv_entry ([.ref (ad 0), .int x]) (n := 2) (Nat.le_of_ble_eq_true rfl)
  rw [lg_entry_eq]
  generalize (lg_sl ([.ref (ad 0), .int x]) ++ List.replicate (2 - (lg_sl ([.ref (ad 0), .int x])).length) Slot.unset).toArray = ls at hl ⊢
  have hl : lv_has ls 2 [(0, .ref (ad 0)), (1, .int x)] := hl
  refine lv_iload_n hx hb dX3_claimOf_0 rfl (lv_at hl 1 rfl) ?_
  refine lv_iconst (v := nI 0) hx hb dX3_claimOf_1 (by decide) ?_
  refine lv_bipush (v := nI 29) hx hb dX3_claimOf_2 (by decide) ?_
  refine k_X3_isOutside l (x := x) (a := nI 0) (b := nI 29) hx hb hml hown hts  gX3_claimOf_X3_isOutside ⟨Nat.le_of_ble_eq_true rfl, Nat.le_of_ble_eq_true rfl⟩ ⟨Nat.le_of_ble_eq_true rfl, Nat.le_of_ble_eq_true rfl⟩ hl.1 (Nat.le_of_ble_eq_true rfl) dX3_claimOf_4 ?_
  refine zi_eq (tgt := 20) hx hb (outN_lt _ _ _) dX3_claimOf_7 (by decide) (fun c_7 => (show False by exact h1 c_7).elim) (fun c_7 => ?_)
  exact zx_IndexOutOfBoundsException (is := 176) (text := "there is no such person") hx hb hfl hown hts hT (by decide +kernel) (by decide +kernel) (by decide +kernel) (by decide +kernel) (hl.1.trans hml.symm) dX3_claimOf_10 dX3_claimOf_13 dX3_claimOf_14 dX3_claimOf_16 dX3_claimOf_19 ht hlocks (Nat.le_of_ble_eq_true rfl) (Nat.le_of_ble_eq_true rfl) (Nat.le_of_ble_eq_true rfl) (Nat.le_of_ble_eq_true rfl)
section
variable {p : Program} {e : Env} {R : Room} {s : State} {m : MethodId} {args : Array Value} {below : List Frame} {meth : Method} {c : Code} {H : Heap} {locs : List Loc} {cells slots : Nat} {Q : State → Prop} {cc : ByteArray} {pc : Nat} {ls : Array Slot} {rest : List Value} {own : String} {index nL : Nat} {Ts : List Cond} {H0 : Heap} {A0 : Nat → Prop}
theorem kr_X3_claimOf_no (l : Launch) (hfl : l.stackTraces = false) {dC : Nat → ClassId} {dI : Nat → Nat → Nat} {cI cZ : ClassId} {ad : Nat → Nat} {sm fe ex dy : Int32} {gp gc op gr st dl wo : Nat → Int32} {n : Nat} {yc ya ys yd : Nat → Int32} {q : Nat} {zc zp zr zs zf : Nat → Int32} {z : Nat} {zm zt : Int64} {x : Int32} (h1 : ¬ outN x (nI 0) (nI 29) = 0) (hx : p.tables.exec = Jvm.exec) (hb : c.code = cc) (hml : c.maxLocals = nL) (hown : s.vm.findClass own = some m.cls) (hts : ∀ w ∈ Ts, w.before args s = true) (hK : va_K (dC, dI) vwCl [(cI, .int), (cZ, .boolean)] s) (hP : va_P (dC, dI) vwCl (wC cI cZ ad sm fe ex dy gp gc op gr st dl wo n yc ya ys yd q zc zp zr zs zf z zm zt) H) (hg9 : GoodIn Ts (wsV own index RX3 yX3_claimOf wsX3_claimOf)) (hR9 : 6 + 1 ≤ R.frames ∧ 8 + (2 + 11) + 90 ≤ R.locals) (hc9 : cells + 1 ≤ R.cells ∧ slots + 6 ≤ R.slots) (hl9 : ls.size = nL) (hw9 : (rest.map fun v => v.category).sum ≤ 8) (hdg : decode cc pc = .ok (.invokevirtual index, 3)) (hT : tX (fun _ => False) s H) : vx_Run p l e R s m args below meth c H locs cells slots 1 6 (F0 m pc ls (.int x :: .ref (ad 0) :: rest)) rest (fun _ _ _ => False) (xT "java/lang/IndexOutOfBoundsException") (fun _ => False) := vx_runV (As := [.int x]) (rest := rest) ⟨hx, hb, hml, hown, hts⟩ (c_X3_claimOf_no (dC := dC) (dI := dI) (cI := cI) (cZ := cZ) (ad := ad) (sm := sm) (fe := fe) (ex := ex) (dy := dy) (gp := gp) (gc := gc) (op := op) (gr := gr) (st := st) (dl := dl) (wo := wo) (n := n) (yc := yc) (ya := ya) (ys := ys) (yd := yd) (q := q) (zc := zc) (zp := zp) (zr := zr) (zs := zs) (zf := zf) (z := z) (zm := zm) (zt := zt) (x := x) l hfl h1) (cwV 1 hts hg9 rfl rfl rfl (by decide +kernel) hR9) ⟨fun a U g mk q => ⟨q.1, q.2.1, va_K.moved (u := U) (U := U.calling g mk a) (Vm.Alike.refl U.vm) q.2.2.1, tX.same (u := U) (U := U.calling g mk a) rfl q.2.2.2⟩, rC_0 hK hP, fun U hU hW => ⟨rfl, by rw [hU]; exact hP, va_K.moved hW.alike hK, by rw [hU]; exact tX.warm hW hT⟩⟩ rfl rfl hl9 rfl (lv_room hw9) hdg hc9
end
set_option maxHeartbeats 4000000 in
set_option maxRecDepth 100000 in
theorem c_X3_count_ok (l : Launch) {dC : Nat → ClassId} {dI : Nat → Nat → Nat} {cI cZ : ClassId} {ad : Nat → Nat} {sm fe ex dy : Int32} {gp gc op gr st dl wo : Nat → Int32} {n : Nat} {yc ya ys yd : Nat → Int32} {q : Nat} {zc zp zr zs zf : Nat → Int32} {z : Nat} {zm zt : Int64} {x : Int32} (hn : n ≤ 24) (h1 : outN x (nI 0) (nI 3) = 0) : Met l yX3_count wsX3_count { frames := 1, cells := 0, slots := 0, locals := 23 } (va_Pc [.ref (ad 0), .int x] (fun U => va_P (dC, dI) vwCl (wC cI cZ ad sm fe ex dy gp gc op gr st dl wo n yc ya ys yd q zc zp zr zs zf z zm zt) U.heap ∧ va_K (dC, dI) vwCl [(cI, .int), (cZ, .boolean)] U)) (vp_Si (fun r => r = nI (tallyN st x n))) 0 0 (fun _ => False) := by
  refine Met.ofW (cc := cX3_count) (maxL := 2) (ret := (some .int)) (by decide) rfl ?_
  intro p e s m args below meth c s₁ B hml hv
  obtain ⟨rfl, hP, hK⟩ := hv
  have hx := B.exec
  have hb := B.bytes
  have hr := B.returns
  have hts := atoms_spec (ws := wsX3_count) B.pre
  have hown : s.vm.findClass RX3 = some m.cls := findClass_of_methodNamed B.named
  have hlocks := B.notSynchronized
  have hl := lv_entry ([.ref (ad 0), .int x]) (n := 2) (Nat.le_of_ble_eq_true rfl)
  rw [lg_entry_eq]
  generalize (lg_sl ([.ref (ad 0), .int x]) ++ List.replicate (2 - (lg_sl ([.ref (ad 0), .int x])).length) Slot.unset).toArray = ls at hl ⊢
  have hl : lv_has ls 2 [(0, .ref (ad 0)), (1, .int x)] := hl
  have hiX3 : ∀ w ∈ wsX30, w ∈ wsX3_count := by decide +kernel
  have hf19 := hts (.fieldLink RX3 19 "SettlementFund" "claimBook" "LSettlementFund$ClaimBook;") (by decide +kernel)
  refine lv_iload_n hx hb dX3_count_0 rfl (lv_at hl 1 rfl) ?_
  refine lv_iconst (v := nI 0) hx hb dX3_count_1 (by decide) ?_
  refine lv_iconst (v := nI 3) hx hb dX3_count_2 (by decide) ?_
  refine k_X3_isOutside l (x := x) (a := nI 0) (b := nI 3) hx hb hml hown hts  gX3_count_X3_isOutside ⟨Nat.le_of_ble_eq_true rfl, Nat.le_of_ble_eq_true rfl⟩ ⟨Nat.le_of_ble_eq_true rfl, Nat.le_of_ble_eq_true rfl⟩ hl.1 (Nat.le_of_ble_eq_true rfl) dX3_count_3 ?_
  refine zi_eq (tgt := 19) hx hb (outN_lt _ _ _) dX3_count_6 (by decide) (fun c_6 => ?_) (fun c_6 => (show False by exact c_6 h1).elim)
  refine lv_aload_n hx hb dX3_count_19 rfl (lv_at hl 0 rfl) ?_
  refine gC_0_6 hx hb hts hiX3 hown hK hP hf19 dX3_count_20 ?_
  refine lv_iload_n hx hb dX3_count_23 rfl (lv_at hl 1 rfl) ?_
  refine k_X0_tally l (w := x) (hn := hn) hx hb hml hown hts hK hP gX3_count_X0_tally ⟨Nat.le_of_ble_eq_true rfl, Nat.le_of_ble_eq_true rfl⟩ ⟨Nat.le_of_ble_eq_true rfl, Nat.le_of_ble_eq_true rfl⟩ hl.1 (Nat.le_of_ble_eq_true rfl) dX3_count_24 ?_
  exact W.iret (v := nI (tallyN st x n)) hx hb hr (fun t ht hW => ⟨nI (tallyN st x n), rfl, rfl, ht⟩) (fun _ h => nomatch h) dX3_count_27
section
variable {p : Program} {e : Env} {R : Room} {s : State} {m : MethodId} {args : Array Value} {below : List Frame} {meth : Method} {c : Code} {H : Heap} {locs : List Loc} {cells slots : Nat} {Q : State → Prop} {cc : ByteArray} {pc : Nat} {ls : Array Slot} {rest : List Value} {own : String} {index nL : Nat} {Ts : List Cond} {H0 : Heap} {A0 : Nat → Prop}
theorem k_X3_count_ok (l : Launch) {dC : Nat → ClassId} {dI : Nat → Nat → Nat} {cI cZ : ClassId} {ad : Nat → Nat} {sm fe ex dy : Int32} {gp gc op gr st dl wo : Nat → Int32} {n : Nat} {yc ya ys yd : Nat → Int32} {q : Nat} {zc zp zr zs zf : Nat → Int32} {z : Nat} {zm zt : Int64} {x : Int32} (hn : n ≤ 24) (h1 : outN x (nI 0) (nI 3) = 0) (hx : p.tables.exec = Jvm.exec) (hb : c.code = cc) (hml : c.maxLocals = nL) (hown : s.vm.findClass own = some m.cls) (hts : ∀ w ∈ Ts, w.before args s = true) (hK : va_K (dC, dI) vwCl [(cI, .int), (cZ, .boolean)] s) (hP : va_P (dC, dI) vwCl (wC cI cZ ad sm fe ex dy gp gc op gr st dl wo n yc ya ys yd q zc zp zr zs zf z zm zt) H) (hg9 : GoodIn Ts (wsV own index RX3 yX3_count wsX3_count)) (hR9 : 1 + 1 ≤ R.frames ∧ 8 + (2 + 11) + 23 ≤ R.locals) (hc9 : cells ≤ R.cells ∧ slots ≤ R.slots) (hl9 : ls.size = nL) (hw9 : (rest.map fun v => v.category).sum ≤ 8) (hdg : decode cc pc = .ok (.invokevirtual index, 3)) (kk : W p l e R s m args below meth c H locs cells slots Q (F0 m (pc + 3) ls (.int (nI (tallyN st x n)) :: rest))) : W p l e R s m args below meth c H locs cells slots Q (F0 m pc ls (.int x :: .ref (ad 0) :: rest)) := zc_ro (W.runV (As := [.int x]) (rest := rest) ⟨hx, hb, hml, hown, hts⟩ (c_X3_count_ok (dC := dC) (dI := dI) (cI := cI) (cZ := cZ) (ad := ad) (sm := sm) (fe := fe) (ex := ex) (dy := dy) (gp := gp) (gc := gc) (op := op) (gr := gr) (st := st) (dl := dl) (wo := wo) (n := n) (yc := yc) (ya := ya) (ys := ys) (yd := yd) (q := q) (zc := zc) (zp := zp) (zr := zr) (zs := zs) (zf := zf) (z := z) (zm := zm) (zt := zt) (x := x) l hn h1) (cwV 1 hts hg9 rfl rfl rfl (by decide +kernel) hR9) ⟨fun a U g mk q => ⟨q.1, q.2.1, va_K.moved (u := U) (U := U.calling g mk a) (Vm.Alike.refl U.vm) q.2.2⟩, rC_0 hK hP, fun U hU hW => ⟨rfl, by rw [hU]; exact hP, va_K.moved hW.alike hK⟩⟩ rfl rfl hl9 rfl (lv_room hw9) hdg hc9) (fun r h => by subst h; exact kk)
end
set_option maxHeartbeats 4000000 in
set_option maxRecDepth 100000 in
theorem c_X3_count_no (l : Launch) (hfl : l.stackTraces = false) {dC : Nat → ClassId} {dI : Nat → Nat → Nat} {cI cZ : ClassId} {ad : Nat → Nat} {sm fe ex dy : Int32} {gp gc op gr st dl wo : Nat → Int32} {n : Nat} {yc ya ys yd : Nat → Int32} {q : Nat} {zc zp zr zs zf : Nat → Int32} {z : Nat} {zm zt : Int64} {x : Int32} (h1 : ¬ outN x (nI 0) (nI 3) = 0) : vx_Met l yX3_count wsX3_count { frames := 6, cells := 1, slots := 6, locals := 90 } (va_Pc [.ref (ad 0), .int x] (fun U => va_P (dC, dI) vwCl (wC cI cZ ad sm fe ex dy gp gc op gr st dl wo n yc ya ys yd q zc zp zr zs zf z zm zt) U.heap ∧ va_K (dC, dI) vwCl [(cI, .int), (cZ, .boolean)] U ∧ tX (fun _ => False) U U.heap)) (fun _ _ _ _ => False) (xT "java/lang/IllegalArgumentException") 1 6 (fun _ => False) := by
  refine vx_ofW (cc := cX3_count) (maxL := 2) (ret := (some .int)) (by decide) rfl ?_
  intro p e s m args below meth c s₁ B hml ht hv
  obtain ⟨rfl, hP, hK, hT⟩ := hv
  have hx := B.exec
  have hb := B.bytes
  have hr := B.returns
  have hts := atoms_spec (ws := wsX3_count) B.pre
  have hown : s.vm.findClass RX3 = some m.cls := findClass_of_methodNamed B.named
  have hlocks := B.notSynchronized
  have hl := lv_entry ([.ref (ad 0), .int x]) (n := 2) (Nat.le_of_ble_eq_true rfl)
  rw [lg_entry_eq]
  generalize (lg_sl ([.ref (ad 0), .int x]) ++ List.replicate (2 - (lg_sl ([.ref (ad 0), .int x])).length) Slot.unset).toArray = ls at hl ⊢
  have hl : lv_has ls 2 [(0, .ref (ad 0)), (1, .int x)] := hl
  refine lv_iload_n hx hb dX3_count_0 rfl (lv_at hl 1 rfl) ?_
  refine lv_iconst (v := nI 0) hx hb dX3_count_1 (by decide) ?_
  refine lv_iconst (v := nI 3) hx hb dX3_count_2 (by decide) ?_
  refine k_X3_isOutside l (x := x) (a := nI 0) (b := nI 3) hx hb hml hown hts  gX3_count_X3_isOutside ⟨Nat.le_of_ble_eq_true rfl, Nat.le_of_ble_eq_true rfl⟩ ⟨Nat.le_of_ble_eq_true rfl, Nat.le_of_ble_eq_true rfl⟩ hl.1 (Nat.le_of_ble_eq_true rfl) dX3_count_3 ?_
  refine zi_eq (tgt := 19) hx hb (outN_lt _ _ _) dX3_count_6 (by decide) (fun c_6 => (show False by exact h1 c_6).elim) (fun c_6 => ?_)
  exact zx_IllegalArgumentException (is := 188) (text := "state is out of range") hx hb hfl hown hts hT (by decide +kernel) (by decide +kernel) (by decide +kernel) (by decide +kernel) (hl.1.trans hml.symm) dX3_count_9 dX3_count_12 dX3_count_13 dX3_count_15 dX3_count_18 ht hlocks (Nat.le_of_ble_eq_true rfl) (Nat.le_of_ble_eq_true rfl) (Nat.le_of_ble_eq_true rfl) (Nat.le_of_ble_eq_true rfl)
section
variable {p : Program} {e : Env} {R : Room} {s : State} {m : MethodId} {args : Array Value} {below : List Frame} {meth : Method} {c : Code} {H : Heap} {locs : List Loc} {cells slots : Nat} {Q : State → Prop} {cc : ByteArray} {pc : Nat} {ls : Array Slot} {rest : List Value} {own : String} {index nL : Nat} {Ts : List Cond} {H0 : Heap} {A0 : Nat → Prop}
theorem kr_X3_count_no (l : Launch) (hfl : l.stackTraces = false) {dC : Nat → ClassId} {dI : Nat → Nat → Nat} {cI cZ : ClassId} {ad : Nat → Nat} {sm fe ex dy : Int32} {gp gc op gr st dl wo : Nat → Int32} {n : Nat} {yc ya ys yd : Nat → Int32} {q : Nat} {zc zp zr zs zf : Nat → Int32} {z : Nat} {zm zt : Int64} {x : Int32} (h1 : ¬ outN x (nI 0) (nI 3) = 0) (hx : p.tables.exec = Jvm.exec) (hb : c.code = cc) (hml : c.maxLocals = nL) (hown : s.vm.findClass own = some m.cls) (hts : ∀ w ∈ Ts, w.before args s = true) (hK : va_K (dC, dI) vwCl [(cI, .int), (cZ, .boolean)] s) (hP : va_P (dC, dI) vwCl (wC cI cZ ad sm fe ex dy gp gc op gr st dl wo n yc ya ys yd q zc zp zr zs zf z zm zt) H) (hg9 : GoodIn Ts (wsV own index RX3 yX3_count wsX3_count)) (hR9 : 6 + 1 ≤ R.frames ∧ 8 + (2 + 11) + 90 ≤ R.locals) (hc9 : cells + 1 ≤ R.cells ∧ slots + 6 ≤ R.slots) (hl9 : ls.size = nL) (hw9 : (rest.map fun v => v.category).sum ≤ 8) (hdg : decode cc pc = .ok (.invokevirtual index, 3)) (hT : tX (fun _ => False) s H) : vx_Run p l e R s m args below meth c H locs cells slots 1 6 (F0 m pc ls (.int x :: .ref (ad 0) :: rest)) rest (fun _ _ _ => False) (xT "java/lang/IllegalArgumentException") (fun _ => False) := vx_runV (As := [.int x]) (rest := rest) ⟨hx, hb, hml, hown, hts⟩ (c_X3_count_no (dC := dC) (dI := dI) (cI := cI) (cZ := cZ) (ad := ad) (sm := sm) (fe := fe) (ex := ex) (dy := dy) (gp := gp) (gc := gc) (op := op) (gr := gr) (st := st) (dl := dl) (wo := wo) (n := n) (yc := yc) (ya := ya) (ys := ys) (yd := yd) (q := q) (zc := zc) (zp := zp) (zr := zr) (zs := zs) (zf := zf) (z := z) (zm := zm) (zt := zt) (x := x) l hfl h1) (cwV 1 hts hg9 rfl rfl rfl (by decide +kernel) hR9) ⟨fun a U g mk q => ⟨q.1, q.2.1, va_K.moved (u := U) (U := U.calling g mk a) (Vm.Alike.refl U.vm) q.2.2.1, tX.same (u := U) (U := U.calling g mk a) rfl q.2.2.2⟩, rC_0 hK hP, fun U hU hW => ⟨rfl, by rw [hU]; exact hP, va_K.moved hW.alike hK, by rw [hU]; exact tX.warm hW hT⟩⟩ rfl rfl hl9 rfl (lv_room hw9) hdg hc9
end
set_option maxHeartbeats 4000000 in
set_option maxRecDepth 100000 in
theorem c_X3_cure_ok (l : Launch) {dC : Nat → ClassId} {dI : Nat → Nat → Nat} {cI cZ : ClassId} {ad : Nat → Nat} {sm fe ex dy : Int32} {gp gc op gr st dl wo : Nat → Int32} {n : Nat} {yc ya ys yd : Nat → Int32} {q : Nat} {zc zp zr zs zf : Nat → Int32} {z : Nat} {zm zt : Int64} {k : Nat} (hI : iwC ad) (hn : n ≤ 24) (hk : k < n) (h1 : st k = nI 1) : Met l yX3_cure wsX3_cure { frames := 2, cells := 0, slots := 0, locals := 42 } (va_Pc [.ref (ad 0), .int (nI k)] (fun U => va_P (dC, dI) vwCl (wC cI cZ ad sm fe ex dy gp gc op gr st dl wo n yc ya ys yd q zc zp zr zs zf z zm zt) U.heap ∧ va_K (dC, dI) vwCl [(cI, .int), (cZ, .boolean)] U)) (va_Qi (fun r (_ : Unit) => r = dl k - dy) (fun _ t => va_P (dC, dI) vwCl (wC cI cZ ad sm fe ex dy gp gc op gr (upd st k (nI 0)) dl wo n yc ya ys yd q zc zp zr zs zf z zm zt) t.heap) (awC ad)) 0 0 (awC ad) := by
  refine Met.ofW (cc := cX3_cure) (maxL := 2) (ret := (some .int)) (by decide) rfl ?_
  intro p e s m args below meth c s₁ B hml hv
  obtain ⟨rfl, hP, hK⟩ := hv
  have hx := B.exec
  have hb := B.bytes
  have hr := B.returns
  have hts := atoms_spec (ws := wsX3_cure) B.pre
  have hown : s.vm.findClass RX3 = some m.cls := findClass_of_methodNamed B.named
  have hlocks := B.notSynchronized
  have hS : va_S (awC ad) s.heap s.heap [] := va_S.rf
  have hl := lv_entry ([.ref (ad 0), .int (nI k)]) (n := 2) (Nat.le_of_ble_eq_true rfl)
  rw [lg_entry_eq]
  generalize (lg_sl ([.ref (ad 0), .int (nI k)]) ++ List.replicate (2 - (lg_sl ([.ref (ad 0), .int (nI k)])).length) Slot.unset).toArray = ls at hl ⊢
  have hl : lv_has ls 2 [(0, .ref (ad 0)), (1, .int (nI k))] := hl
  have hiX3 : ∀ w ∈ wsX30, w ∈ wsX3_cure := by decide +kernel
  have hf19 := hts (.fieldLink RX3 19 "SettlementFund" "claimBook" "LSettlementFund$ClaimBook;") (by decide +kernel)
  have hiX0 : ∀ w ∈ wsX00, w ∈ wsX3_cure := by decide +kernel
  have hf115 := hts (.fieldLink RX3 115 "SettlementFund$ClaimBook" "state" "[I") (by decide +kernel)
  have hf120 := hts (.fieldLink RX3 120 "SettlementFund$ClaimBook" "deadline" "[I") (by decide +kernel)
  have hf76 := hts (.fieldLink RX3 76 "SettlementFund" "day" "I") (by decide +kernel)
  refine lv_aload_n hx hb dX3_cure_0 rfl (lv_at hl 0 rfl) ?_
  refine lv_iload_n hx hb dX3_cure_1 rfl (lv_at hl 1 rfl) ?_
  refine k_X3_mustBeClaim_ok l (k := k) (hn := hn) (hk := hk) hx hb hml hown hts hK hP gX3_cure_X3_mustBeClaim ⟨Nat.le_of_ble_eq_true rfl, Nat.le_of_ble_eq_true rfl⟩ ⟨Nat.le_of_ble_eq_true rfl, Nat.le_of_ble_eq_true rfl⟩ hl.1 (Nat.le_of_ble_eq_true rfl) dX3_cure_2 ?_
  refine lv_aload_n hx hb dX3_cure_5 rfl (lv_at hl 0 rfl) ?_
  refine gC_0_6 hx hb hts hiX3 hown hK hP hf19 dX3_cure_6 ?_
  refine gC_3_2 hx hb hts hiX0 hown hK hP hf115 dX3_cure_9 ?_
  refine lv_iload_n hx hb dX3_cure_12 rfl (lv_at hl 1 rfl) ?_
  refine lC_6 hx hb hK hP (by omega) dX3_cure_13 ?_
  refine lv_iconst (v := nI 1) hx hb dX3_cure_14 (by decide) ?_
  refine lv_icmp_eq (tgt := 28) hx hb dX3_cure_15 (by decide) (fun c_15 => ?_) (fun c_15 => (show False by exact c_15 h1).elim)
  refine lv_aload_n hx hb dX3_cure_28 rfl (lv_at hl 0 rfl) ?_
  refine gC_0_6 hx hb hts hiX3 hown hK hP hf19 dX3_cure_29 ?_
  refine gC_3_2 hx hb hts hiX0 hown hK hP hf115 dX3_cure_32 ?_
  refine lv_iload_n hx hb dX3_cure_35 rfl (lv_at hl 1 rfl) ?_
  refine lv_iconst (v := nI 0) hx hb dX3_cure_36 (by decide) ?_
  refine sC_6 hx hb hK hP hI (fun _ h => h) hS (by omega) dX3_cure_37 (fun H locs hP hS => ?_)
  refine lv_aload_n hx hb dX3_cure_38 rfl (lv_at hl 0 rfl) ?_
  refine gC_0_6 hx hb hts hiX3 hown hK hP hf19 dX3_cure_39 ?_
  refine gC_3_3 hx hb hts hiX0 hown hK hP hf120 dX3_cure_42 ?_
  refine lv_iload_n hx hb dX3_cure_45 rfl (lv_at hl 1 rfl) ?_
  refine lC_7 hx hb hK hP (by omega) dX3_cure_46 ?_
  refine lv_aload_n hx hb dX3_cure_47 rfl (lv_at hl 0 rfl) ?_
  refine gC_0_3 hx hb hts hiX3 hown hK hP hf76 dX3_cure_48 ?_
  refine lv_isub hx hb dX3_cure_51 ?_
  exact W.iret (v := (dl k) - dy) hx hb hr (fun t ht hW => ⟨⟨(dl k) - dy, (), rfl, by first | rfl | (rw [if_pos (by omega)]; done) | (rw [if_neg (by omega)]; done) | (simp [c_15]; done), by (try dsimp only); rw [ht]; exact hP⟩, hS.F ht⟩) hS.2.2 dX3_cure_52
section
variable {p : Program} {e : Env} {R : Room} {s : State} {m : MethodId} {args : Array Value} {below : List Frame} {meth : Method} {c : Code} {H : Heap} {locs : List Loc} {cells slots : Nat} {Q : State → Prop} {cc : ByteArray} {pc : Nat} {ls : Array Slot} {rest : List Value} {own : String} {index nL : Nat} {Ts : List Cond} {H0 : Heap} {A0 : Nat → Prop}
theorem k_X3_cure_ok (l : Launch) {dC : Nat → ClassId} {dI : Nat → Nat → Nat} {cI cZ : ClassId} {ad : Nat → Nat} {sm fe ex dy : Int32} {gp gc op gr st dl wo : Nat → Int32} {n : Nat} {yc ya ys yd : Nat → Int32} {q : Nat} {zc zp zr zs zf : Nat → Int32} {z : Nat} {zm zt : Int64} {k : Nat} (hn : n ≤ 24) (hk : k < n) (h1 : st k = nI 1) (hx : p.tables.exec = Jvm.exec) (hb : c.code = cc) (hml : c.maxLocals = nL) (hown : s.vm.findClass own = some m.cls) (hts : ∀ w ∈ Ts, w.before args s = true) (hK : va_K (dC, dI) vwCl [(cI, .int), (cZ, .boolean)] s) (hP : va_P (dC, dI) vwCl (wC cI cZ ad sm fe ex dy gp gc op gr st dl wo n yc ya ys yd q zc zp zr zs zf z zm zt) H) (hg9 : GoodIn Ts (wsV own index RX3 yX3_cure wsX3_cure)) (hR9 : 2 + 1 ≤ R.frames ∧ 8 + (2 + 11) + 42 ≤ R.locals) (hc9 : cells ≤ R.cells ∧ slots ≤ R.slots) (hl9 : ls.size = nL) (hw9 : (rest.map fun v => v.category).sum ≤ 8) (hdg : decode cc pc = .ok (.invokevirtual index, 3)) (hI : iwC ad) (hA : ∀ x, awC ad x → A0 x) (hS : va_S A0 H0 H locs) (kk : ∀ (H1 : Heap) (locs1 : List Loc), va_P (dC, dI) vwCl (wC cI cZ ad sm fe ex dy gp gc op gr (upd st k (nI 0)) dl wo n yc ya ys yd q zc zp zr zs zf z zm zt) H1 → va_S A0 H0 H1 locs1 → (∀ q : Nat, q < H.size → ¬ awC ad q → H1[q]? = H[q]?) → W p l e R s m args below meth c H1 locs1 cells slots Q (F0 m (pc + 3) ls (.int (dl k - dy) :: rest))) : W p l e R s m args below meth c H locs cells slots Q (F0 m pc ls (.int (nI k) :: .ref (ad 0) :: rest)) := va_calli (va_runV (As := [.int (nI k)]) (rest := rest) ⟨hx, hb, hml, hown, hts⟩ (c_X3_cure_ok (dC := dC) (dI := dI) (cI := cI) (cZ := cZ) (ad := ad) (sm := sm) (fe := fe) (ex := ex) (dy := dy) (gp := gp) (gc := gc) (op := op) (gr := gr) (st := st) (dl := dl) (wo := wo) (n := n) (yc := yc) (ya := ya) (ys := ys) (yd := yd) (q := q) (zc := zc) (zp := zp) (zr := zr) (zs := zs) (zf := zf) (z := z) (zm := zm) (zt := zt) (k := k) l hI hn hk h1) (cwV 1 hts hg9 rfl rfl rfl (by decide +kernel) hR9) ⟨fun a U g mk q => ⟨q.1, q.2.1, va_K.moved (u := U) (U := U.calling g mk a) (Vm.Alike.refl U.vm) q.2.2⟩, rC_0 hK hP, fun U hU hW => ⟨rfl, by rw [hU]; exact hP, va_K.moved hW.alike hK⟩⟩ rfl rfl hl9 rfl (lv_room hw9) hdg hc9) hS (fun q _ h => hA q h) hA (fun r u t H1 locs1 ht _ hu hB hz hk hS1 => by subst hu; exact kk H1 locs1 (by rw [ht] at hB; exact hB) hS1 hk)
end
set_option maxHeartbeats 4000000 in
set_option maxRecDepth 100000 in
theorem c_X3_cure_ise (l : Launch) (hfl : l.stackTraces = false) {dC : Nat → ClassId} {dI : Nat → Nat → Nat} {cI cZ : ClassId} {ad : Nat → Nat} {sm fe ex dy : Int32} {gp gc op gr st dl wo : Nat → Int32} {n : Nat} {yc ya ys yd : Nat → Int32} {q : Nat} {zc zp zr zs zf : Nat → Int32} {z : Nat} {zm zt : Int64} {k : Nat} (hn : n ≤ 24) (hk : k < n) (h1 : ¬ st k = nI 1) : vx_Met l yX3_cure wsX3_cure { frames := 6, cells := 1, slots := 6, locals := 90 } (va_Pc [.ref (ad 0), .int (nI k)] (fun U => va_P (dC, dI) vwCl (wC cI cZ ad sm fe ex dy gp gc op gr st dl wo n yc ya ys yd q zc zp zr zs zf z zm zt) U.heap ∧ va_K (dC, dI) vwCl [(cI, .int), (cZ, .boolean)] U ∧ tX (fun _ => False) U U.heap)) (fun _ _ _ _ => False) (xT "java/lang/IllegalStateException") 1 6 (fun _ => False) := by
  refine vx_ofW (cc := cX3_cure) (maxL := 2) (ret := (some .int)) (by decide) rfl ?_
  intro p e s m args below meth c s₁ B hml ht hv
  obtain ⟨rfl, hP, hK, hT⟩ := hv
  have hx := B.exec
  have hb := B.bytes
  have hr := B.returns
  have hts := atoms_spec (ws := wsX3_cure) B.pre
  have hown : s.vm.findClass RX3 = some m.cls := findClass_of_methodNamed B.named
  have hlocks := B.notSynchronized
  have hl := lv_entry ([.ref (ad 0), .int (nI k)]) (n := 2) (Nat.le_of_ble_eq_true rfl)
  rw [lg_entry_eq]
  generalize (lg_sl ([.ref (ad 0), .int (nI k)]) ++ List.replicate (2 - (lg_sl ([.ref (ad 0), .int (nI k)])).length) Slot.unset).toArray = ls at hl ⊢
  have hl : lv_has ls 2 [(0, .ref (ad 0)), (1, .int (nI k))] := hl
  have hiX3 : ∀ w ∈ wsX30, w ∈ wsX3_cure := by decide +kernel
  have hf19 := hts (.fieldLink RX3 19 "SettlementFund" "claimBook" "LSettlementFund$ClaimBook;") (by decide +kernel)
  have hiX0 : ∀ w ∈ wsX00, w ∈ wsX3_cure := by decide +kernel
  have hf115 := hts (.fieldLink RX3 115 "SettlementFund$ClaimBook" "state" "[I") (by decide +kernel)
  refine lv_aload_n hx hb dX3_cure_0 rfl (lv_at hl 0 rfl) ?_
  refine lv_iload_n hx hb dX3_cure_1 rfl (lv_at hl 1 rfl) ?_
  refine k_X3_mustBeClaim_ok l (k := k) (hn := hn) (hk := hk) hx hb hml hown hts hK hP gX3_cure_X3_mustBeClaim ⟨Nat.le_of_ble_eq_true rfl, Nat.le_of_ble_eq_true rfl⟩ ⟨Nat.le_of_ble_eq_true rfl, Nat.le_of_ble_eq_true rfl⟩ hl.1 (Nat.le_of_ble_eq_true rfl) dX3_cure_2 ?_
  refine lv_aload_n hx hb dX3_cure_5 rfl (lv_at hl 0 rfl) ?_
  refine gC_0_6 hx hb hts hiX3 hown hK hP hf19 dX3_cure_6 ?_
  refine gC_3_2 hx hb hts hiX0 hown hK hP hf115 dX3_cure_9 ?_
  refine lv_iload_n hx hb dX3_cure_12 rfl (lv_at hl 1 rfl) ?_
  refine lC_6 hx hb hK hP (by omega) dX3_cure_13 ?_
  refine lv_iconst (v := nI 1) hx hb dX3_cure_14 (by decide) ?_
  refine lv_icmp_eq (tgt := 28) hx hb dX3_cure_15 (by decide) (fun c_15 => (show False by exact h1 c_15).elim) (fun c_15 => ?_)
  exact zx_IllegalStateException (is := 118) (text := "the claim is not FAULTY") hx hb hfl hown hts hT (by decide +kernel) (by decide +kernel) (by decide +kernel) (by decide +kernel) (hl.1.trans hml.symm) dX3_cure_18 dX3_cure_21 dX3_cure_22 dX3_cure_24 dX3_cure_27 ht hlocks (Nat.le_of_ble_eq_true rfl) (Nat.le_of_ble_eq_true rfl) (Nat.le_of_ble_eq_true rfl) (Nat.le_of_ble_eq_true rfl)
section
variable {p : Program} {e : Env} {R : Room} {s : State} {m : MethodId} {args : Array Value} {below : List Frame} {meth : Method} {c : Code} {H : Heap} {locs : List Loc} {cells slots : Nat} {Q : State → Prop} {cc : ByteArray} {pc : Nat} {ls : Array Slot} {rest : List Value} {own : String} {index nL : Nat} {Ts : List Cond} {H0 : Heap} {A0 : Nat → Prop}
theorem kr_X3_cure_ise (l : Launch) (hfl : l.stackTraces = false) {dC : Nat → ClassId} {dI : Nat → Nat → Nat} {cI cZ : ClassId} {ad : Nat → Nat} {sm fe ex dy : Int32} {gp gc op gr st dl wo : Nat → Int32} {n : Nat} {yc ya ys yd : Nat → Int32} {q : Nat} {zc zp zr zs zf : Nat → Int32} {z : Nat} {zm zt : Int64} {k : Nat} (hn : n ≤ 24) (hk : k < n) (h1 : ¬ st k = nI 1) (hx : p.tables.exec = Jvm.exec) (hb : c.code = cc) (hml : c.maxLocals = nL) (hown : s.vm.findClass own = some m.cls) (hts : ∀ w ∈ Ts, w.before args s = true) (hK : va_K (dC, dI) vwCl [(cI, .int), (cZ, .boolean)] s) (hP : va_P (dC, dI) vwCl (wC cI cZ ad sm fe ex dy gp gc op gr st dl wo n yc ya ys yd q zc zp zr zs zf z zm zt) H) (hg9 : GoodIn Ts (wsV own index RX3 yX3_cure wsX3_cure)) (hR9 : 6 + 1 ≤ R.frames ∧ 8 + (2 + 11) + 90 ≤ R.locals) (hc9 : cells + 1 ≤ R.cells ∧ slots + 6 ≤ R.slots) (hl9 : ls.size = nL) (hw9 : (rest.map fun v => v.category).sum ≤ 8) (hdg : decode cc pc = .ok (.invokevirtual index, 3)) (hT : tX (fun _ => False) s H) : vx_Run p l e R s m args below meth c H locs cells slots 1 6 (F0 m pc ls (.int (nI k) :: .ref (ad 0) :: rest)) rest (fun _ _ _ => False) (xT "java/lang/IllegalStateException") (fun _ => False) := vx_runV (As := [.int (nI k)]) (rest := rest) ⟨hx, hb, hml, hown, hts⟩ (c_X3_cure_ise (dC := dC) (dI := dI) (cI := cI) (cZ := cZ) (ad := ad) (sm := sm) (fe := fe) (ex := ex) (dy := dy) (gp := gp) (gc := gc) (op := op) (gr := gr) (st := st) (dl := dl) (wo := wo) (n := n) (yc := yc) (ya := ya) (ys := ys) (yd := yd) (q := q) (zc := zc) (zp := zp) (zr := zr) (zs := zs) (zf := zf) (z := z) (zm := zm) (zt := zt) (k := k) l hfl hn hk h1) (cwV 1 hts hg9 rfl rfl rfl (by decide +kernel) hR9) ⟨fun a U g mk q => ⟨q.1, q.2.1, va_K.moved (u := U) (U := U.calling g mk a) (Vm.Alike.refl U.vm) q.2.2.1, tX.same (u := U) (U := U.calling g mk a) rfl q.2.2.2⟩, rC_0 hK hP, fun U hU hW => ⟨rfl, by rw [hU]; exact hP, va_K.moved hW.alike hK, by rw [hU]; exact tX.warm hW hT⟩⟩ rfl rfl hl9 rfl (lv_room hw9) hdg hc9
end
set_option maxHeartbeats 4000000 in
set_option maxRecDepth 100000 in
theorem c_X3_deny_ok (l : Launch) {dC : Nat → ClassId} {dI : Nat → Nat → Nat} {cI cZ : ClassId} {ad : Nat → Nat} {sm fe ex dy : Int32} {gp gc op gr st dl wo : Nat → Int32} {n : Nat} {yc ya ys yd : Nat → Int32} {q : Nat} {zc zp zr zs zf : Nat → Int32} {z : Nat} {zm zt : Int64} {k : Nat} (hI : iwC ad) (hn : n ≤ 24) (hk : k < n) (h1 : st k = 0 ∨ st k = nI 1) : Met l yX3_deny wsX3_deny { frames := 2, cells := 0, slots := 0, locals := 42 } (va_Pc [.ref (ad 0), .int (nI k)] (fun U => va_P (dC, dI) vwCl (wC cI cZ ad sm fe ex dy gp gc op gr st dl wo n yc ya ys yd q zc zp zr zs zf z zm zt) U.heap ∧ va_K (dC, dI) vwCl [(cI, .int), (cZ, .boolean)] U)) (va_Qi (fun r (_ : Unit) => r = st k) (fun _ t => va_P (dC, dI) vwCl (wC cI cZ ad sm fe ex dy gp gc op gr (upd st k (nI 2)) dl wo n yc ya ys yd q zc zp zr zs zf z zm zt) t.heap) (awC ad)) 0 0 (awC ad) := by
  refine Met.ofW (cc := cX3_deny) (maxL := 3) (ret := (some .int)) (by decide) rfl ?_
  intro p e s m args below meth c s₁ B hml hv
  obtain ⟨rfl, hP, hK⟩ := hv
  have hx := B.exec
  have hb := B.bytes
  have hr := B.returns
  have hts := atoms_spec (ws := wsX3_deny) B.pre
  have hown : s.vm.findClass RX3 = some m.cls := findClass_of_methodNamed B.named
  have hlocks := B.notSynchronized
  have hS : va_S (awC ad) s.heap s.heap [] := va_S.rf
  have hl := lv_entry ([.ref (ad 0), .int (nI k)]) (n := 3) (Nat.le_of_ble_eq_true rfl)
  rw [lg_entry_eq]
  generalize (lg_sl ([.ref (ad 0), .int (nI k)]) ++ List.replicate (3 - (lg_sl ([.ref (ad 0), .int (nI k)])).length) Slot.unset).toArray = ls at hl ⊢
  have hl : lv_has ls 3 [(0, .ref (ad 0)), (1, .int (nI k))] := hl
  have hiX3 : ∀ w ∈ wsX30, w ∈ wsX3_deny := by decide +kernel
  have hf19 := hts (.fieldLink RX3 19 "SettlementFund" "claimBook" "LSettlementFund$ClaimBook;") (by decide +kernel)
  have hiX0 : ∀ w ∈ wsX00, w ∈ wsX3_deny := by decide +kernel
  have hf115 := hts (.fieldLink RX3 115 "SettlementFund$ClaimBook" "state" "[I") (by decide +kernel)
  refine lv_aload_n hx hb dX3_deny_0 rfl (lv_at hl 0 rfl) ?_
  refine lv_iload_n hx hb dX3_deny_1 rfl (lv_at hl 1 rfl) ?_
  refine k_X3_mustBeClaim_ok l (k := k) (hn := hn) (hk := hk) hx hb hml hown hts hK hP gX3_deny_X3_mustBeClaim ⟨Nat.le_of_ble_eq_true rfl, Nat.le_of_ble_eq_true rfl⟩ ⟨Nat.le_of_ble_eq_true rfl, Nat.le_of_ble_eq_true rfl⟩ hl.1 (Nat.le_of_ble_eq_true rfl) dX3_deny_2 ?_
  refine lv_aload_n hx hb dX3_deny_5 rfl (lv_at hl 0 rfl) ?_
  refine gC_0_6 hx hb hts hiX3 hown hK hP hf19 dX3_deny_6 ?_
  refine gC_3_2 hx hb hts hiX0 hown hK hP hf115 dX3_deny_9 ?_
  refine lv_iload_n hx hb dX3_deny_12 rfl (lv_at hl 1 rfl) ?_
  refine lC_6 hx hb hK hP (by omega) dX3_deny_13 ?_
  refine lv_istore_n (lv' := [(2, .int (st k)), (0, .ref (ad 0)), (1, .int (nI k))]) hx hb dX3_deny_14 rfl hl (by decide) rfl (fun ls hl => ?_)
  refine lv_iload_n hx hb dX3_deny_15 rfl (lv_at hl 0 rfl) ?_
  refine lv_if_eq (tgt := 34) hx hb dX3_deny_16 (by decide) (fun c_16 => ?_) (fun c_16 => ?_)
  · refine lv_aload_n hx hb dX3_deny_34 rfl (lv_at hl 1 rfl) ?_
    refine gC_0_6 hx hb hts hiX3 hown hK hP hf19 dX3_deny_35 ?_
    refine gC_3_2 hx hb hts hiX0 hown hK hP hf115 dX3_deny_38 ?_
    refine lv_iload_n hx hb dX3_deny_41 rfl (lv_at hl 2 rfl) ?_
    refine lv_iconst (v := nI 2) hx hb dX3_deny_42 (by decide) ?_
    refine sC_6 hx hb hK hP hI (fun _ h => h) hS (by omega) dX3_deny_43 (fun H locs hP hS => ?_)
    refine lv_iload_n hx hb dX3_deny_44 rfl (lv_at hl 0 rfl) ?_
    exact W.iret (v := st k) hx hb hr (fun t ht hW => ⟨⟨st k, (), rfl, rfl, by (try dsimp only); rw [ht]; exact hP⟩, hS.F ht⟩) hS.2.2 dX3_deny_45
  · refine lv_iload_n hx hb dX3_deny_19 rfl (lv_at hl 0 rfl) ?_
    refine lv_iconst (v := nI 1) hx hb dX3_deny_20 (by decide) ?_
    refine lv_icmp_eq (tgt := 34) hx hb dX3_deny_21 (by decide) (fun c_21 => ?_) (fun c_21 => (show False by exact h1.elim c_16 c_21).elim)
    refine lv_aload_n hx hb dX3_deny_34 rfl (lv_at hl 1 rfl) ?_
    refine gC_0_6 hx hb hts hiX3 hown hK hP hf19 dX3_deny_35 ?_
    refine gC_3_2 hx hb hts hiX0 hown hK hP hf115 dX3_deny_38 ?_
    refine lv_iload_n hx hb dX3_deny_41 rfl (lv_at hl 2 rfl) ?_
    refine lv_iconst (v := nI 2) hx hb dX3_deny_42 (by decide) ?_
    refine sC_6 hx hb hK hP hI (fun _ h => h) hS (by omega) dX3_deny_43 (fun H locs hP hS => ?_)
    refine lv_iload_n hx hb dX3_deny_44 rfl (lv_at hl 0 rfl) ?_
    exact W.iret (v := st k) hx hb hr (fun t ht hW => ⟨⟨st k, (), rfl, rfl, by (try dsimp only); rw [ht]; exact hP⟩, hS.F ht⟩) hS.2.2 dX3_deny_45
section
variable {p : Program} {e : Env} {R : Room} {s : State} {m : MethodId} {args : Array Value} {below : List Frame} {meth : Method} {c : Code} {H : Heap} {locs : List Loc} {cells slots : Nat} {Q : State → Prop} {cc : ByteArray} {pc : Nat} {ls : Array Slot} {rest : List Value} {own : String} {index nL : Nat} {Ts : List Cond} {H0 : Heap} {A0 : Nat → Prop}
theorem k_X3_deny_ok (l : Launch) {dC : Nat → ClassId} {dI : Nat → Nat → Nat} {cI cZ : ClassId} {ad : Nat → Nat} {sm fe ex dy : Int32} {gp gc op gr st dl wo : Nat → Int32} {n : Nat} {yc ya ys yd : Nat → Int32} {q : Nat} {zc zp zr zs zf : Nat → Int32} {z : Nat} {zm zt : Int64} {k : Nat} (hn : n ≤ 24) (hk : k < n) (h1 : st k = 0 ∨ st k = nI 1) (hx : p.tables.exec = Jvm.exec) (hb : c.code = cc) (hml : c.maxLocals = nL) (hown : s.vm.findClass own = some m.cls) (hts : ∀ w ∈ Ts, w.before args s = true) (hK : va_K (dC, dI) vwCl [(cI, .int), (cZ, .boolean)] s) (hP : va_P (dC, dI) vwCl (wC cI cZ ad sm fe ex dy gp gc op gr st dl wo n yc ya ys yd q zc zp zr zs zf z zm zt) H) (hg9 : GoodIn Ts (wsV own index RX3 yX3_deny wsX3_deny)) (hR9 : 2 + 1 ≤ R.frames ∧ 8 + (3 + 11) + 42 ≤ R.locals) (hc9 : cells ≤ R.cells ∧ slots ≤ R.slots) (hl9 : ls.size = nL) (hw9 : (rest.map fun v => v.category).sum ≤ 8) (hdg : decode cc pc = .ok (.invokevirtual index, 3)) (hI : iwC ad) (hA : ∀ x, awC ad x → A0 x) (hS : va_S A0 H0 H locs) (kk : ∀ (H1 : Heap) (locs1 : List Loc), va_P (dC, dI) vwCl (wC cI cZ ad sm fe ex dy gp gc op gr (upd st k (nI 2)) dl wo n yc ya ys yd q zc zp zr zs zf z zm zt) H1 → va_S A0 H0 H1 locs1 → (∀ q : Nat, q < H.size → ¬ awC ad q → H1[q]? = H[q]?) → W p l e R s m args below meth c H1 locs1 cells slots Q (F0 m (pc + 3) ls (.int (st k) :: rest))) : W p l e R s m args below meth c H locs cells slots Q (F0 m pc ls (.int (nI k) :: .ref (ad 0) :: rest)) := va_calli (va_runV (As := [.int (nI k)]) (rest := rest) ⟨hx, hb, hml, hown, hts⟩ (c_X3_deny_ok (dC := dC) (dI := dI) (cI := cI) (cZ := cZ) (ad := ad) (sm := sm) (fe := fe) (ex := ex) (dy := dy) (gp := gp) (gc := gc) (op := op) (gr := gr) (st := st) (dl := dl) (wo := wo) (n := n) (yc := yc) (ya := ya) (ys := ys) (yd := yd) (q := q) (zc := zc) (zp := zp) (zr := zr) (zs := zs) (zf := zf) (z := z) (zm := zm) (zt := zt) (k := k) l hI hn hk h1) (cwV 1 hts hg9 rfl rfl rfl (by decide +kernel) hR9) ⟨fun a U g mk q => ⟨q.1, q.2.1, va_K.moved (u := U) (U := U.calling g mk a) (Vm.Alike.refl U.vm) q.2.2⟩, rC_0 hK hP, fun U hU hW => ⟨rfl, by rw [hU]; exact hP, va_K.moved hW.alike hK⟩⟩ rfl rfl hl9 rfl (lv_room hw9) hdg hc9) hS (fun q _ h => hA q h) hA (fun r u t H1 locs1 ht _ hu hB hz hk hS1 => by subst hu; exact kk H1 locs1 (by rw [ht] at hB; exact hB) hS1 hk)
end
set_option maxHeartbeats 4000000 in
set_option maxRecDepth 100000 in
theorem c_X3_deny_ise (l : Launch) (hfl : l.stackTraces = false) {dC : Nat → ClassId} {dI : Nat → Nat → Nat} {cI cZ : ClassId} {ad : Nat → Nat} {sm fe ex dy : Int32} {gp gc op gr st dl wo : Nat → Int32} {n : Nat} {yc ya ys yd : Nat → Int32} {q : Nat} {zc zp zr zs zf : Nat → Int32} {z : Nat} {zm zt : Int64} {k : Nat} (hn : n ≤ 24) (hk : k < n) (h1 : ¬ (st k = 0 ∨ st k = nI 1)) : vx_Met l yX3_deny wsX3_deny { frames := 6, cells := 1, slots := 6, locals := 90 } (va_Pc [.ref (ad 0), .int (nI k)] (fun U => va_P (dC, dI) vwCl (wC cI cZ ad sm fe ex dy gp gc op gr st dl wo n yc ya ys yd q zc zp zr zs zf z zm zt) U.heap ∧ va_K (dC, dI) vwCl [(cI, .int), (cZ, .boolean)] U ∧ tX (fun _ => False) U U.heap)) (fun _ _ _ _ => False) (xT "java/lang/IllegalStateException") 1 6 (fun _ => False) := by
  refine vx_ofW (cc := cX3_deny) (maxL := 3) (ret := (some .int)) (by decide) rfl ?_
  intro p e s m args below meth c s₁ B hml ht hv
  obtain ⟨rfl, hP, hK, hT⟩ := hv
  have hx := B.exec
  have hb := B.bytes
  have hr := B.returns
  have hts := atoms_spec (ws := wsX3_deny) B.pre
  have hown : s.vm.findClass RX3 = some m.cls := findClass_of_methodNamed B.named
  have hlocks := B.notSynchronized
  have hl := lv_entry ([.ref (ad 0), .int (nI k)]) (n := 3) (Nat.le_of_ble_eq_true rfl)
  rw [lg_entry_eq]
  generalize (lg_sl ([.ref (ad 0), .int (nI k)]) ++ List.replicate (3 - (lg_sl ([.ref (ad 0), .int (nI k)])).length) Slot.unset).toArray = ls at hl ⊢
  have hl : lv_has ls 3 [(0, .ref (ad 0)), (1, .int (nI k))] := hl
  have hiX3 : ∀ w ∈ wsX30, w ∈ wsX3_deny := by decide +kernel
  have hf19 := hts (.fieldLink RX3 19 "SettlementFund" "claimBook" "LSettlementFund$ClaimBook;") (by decide +kernel)
  have hiX0 : ∀ w ∈ wsX00, w ∈ wsX3_deny := by decide +kernel
  have hf115 := hts (.fieldLink RX3 115 "SettlementFund$ClaimBook" "state" "[I") (by decide +kernel)
  refine lv_aload_n hx hb dX3_deny_0 rfl (lv_at hl 0 rfl) ?_
  refine lv_iload_n hx hb dX3_deny_1 rfl (lv_at hl 1 rfl) ?_
  refine k_X3_mustBeClaim_ok l (k := k) (hn := hn) (hk := hk) hx hb hml hown hts hK hP gX3_deny_X3_mustBeClaim ⟨Nat.le_of_ble_eq_true rfl, Nat.le_of_ble_eq_true rfl⟩ ⟨Nat.le_of_ble_eq_true rfl, Nat.le_of_ble_eq_true rfl⟩ hl.1 (Nat.le_of_ble_eq_true rfl) dX3_deny_2 ?_
  refine lv_aload_n hx hb dX3_deny_5 rfl (lv_at hl 0 rfl) ?_
  refine gC_0_6 hx hb hts hiX3 hown hK hP hf19 dX3_deny_6 ?_
  refine gC_3_2 hx hb hts hiX0 hown hK hP hf115 dX3_deny_9 ?_
  refine lv_iload_n hx hb dX3_deny_12 rfl (lv_at hl 1 rfl) ?_
  refine lC_6 hx hb hK hP (by omega) dX3_deny_13 ?_
  refine lv_istore_n (lv' := [(2, .int (st k)), (0, .ref (ad 0)), (1, .int (nI k))]) hx hb dX3_deny_14 rfl hl (by decide) rfl (fun ls hl => ?_)
  refine lv_iload_n hx hb dX3_deny_15 rfl (lv_at hl 0 rfl) ?_
  refine lv_if_eq (tgt := 34) hx hb dX3_deny_16 (by decide) (fun c_16 => (show False by exact h1 (Or.inl c_16)).elim) (fun c_16 => ?_)
  refine lv_iload_n hx hb dX3_deny_19 rfl (lv_at hl 0 rfl) ?_
  refine lv_iconst (v := nI 1) hx hb dX3_deny_20 (by decide) ?_
  refine lv_icmp_eq (tgt := 34) hx hb dX3_deny_21 (by decide) (fun c_21 => (show False by exact h1 (Or.inr c_21)).elim) (fun c_21 => ?_)
  exact zx_IllegalStateException (is := 123) (text := "the claim is neither GOOD nor FAULTY") hx hb hfl hown hts hT (by decide +kernel) (by decide +kernel) (by decide +kernel) (by decide +kernel) (hl.1.trans hml.symm) dX3_deny_24 dX3_deny_27 dX3_deny_28 dX3_deny_30 dX3_deny_33 ht hlocks (Nat.le_of_ble_eq_true rfl) (Nat.le_of_ble_eq_true rfl) (Nat.le_of_ble_eq_true rfl) (Nat.le_of_ble_eq_true rfl)
section
variable {p : Program} {e : Env} {R : Room} {s : State} {m : MethodId} {args : Array Value} {below : List Frame} {meth : Method} {c : Code} {H : Heap} {locs : List Loc} {cells slots : Nat} {Q : State → Prop} {cc : ByteArray} {pc : Nat} {ls : Array Slot} {rest : List Value} {own : String} {index nL : Nat} {Ts : List Cond} {H0 : Heap} {A0 : Nat → Prop}
theorem kr_X3_deny_ise (l : Launch) (hfl : l.stackTraces = false) {dC : Nat → ClassId} {dI : Nat → Nat → Nat} {cI cZ : ClassId} {ad : Nat → Nat} {sm fe ex dy : Int32} {gp gc op gr st dl wo : Nat → Int32} {n : Nat} {yc ya ys yd : Nat → Int32} {q : Nat} {zc zp zr zs zf : Nat → Int32} {z : Nat} {zm zt : Int64} {k : Nat} (hn : n ≤ 24) (hk : k < n) (h1 : ¬ (st k = 0 ∨ st k = nI 1)) (hx : p.tables.exec = Jvm.exec) (hb : c.code = cc) (hml : c.maxLocals = nL) (hown : s.vm.findClass own = some m.cls) (hts : ∀ w ∈ Ts, w.before args s = true) (hK : va_K (dC, dI) vwCl [(cI, .int), (cZ, .boolean)] s) (hP : va_P (dC, dI) vwCl (wC cI cZ ad sm fe ex dy gp gc op gr st dl wo n yc ya ys yd q zc zp zr zs zf z zm zt) H) (hg9 : GoodIn Ts (wsV own index RX3 yX3_deny wsX3_deny)) (hR9 : 6 + 1 ≤ R.frames ∧ 8 + (3 + 11) + 90 ≤ R.locals) (hc9 : cells + 1 ≤ R.cells ∧ slots + 6 ≤ R.slots) (hl9 : ls.size = nL) (hw9 : (rest.map fun v => v.category).sum ≤ 8) (hdg : decode cc pc = .ok (.invokevirtual index, 3)) (hT : tX (fun _ => False) s H) : vx_Run p l e R s m args below meth c H locs cells slots 1 6 (F0 m pc ls (.int (nI k) :: .ref (ad 0) :: rest)) rest (fun _ _ _ => False) (xT "java/lang/IllegalStateException") (fun _ => False) := vx_runV (As := [.int (nI k)]) (rest := rest) ⟨hx, hb, hml, hown, hts⟩ (c_X3_deny_ise (dC := dC) (dI := dI) (cI := cI) (cZ := cZ) (ad := ad) (sm := sm) (fe := fe) (ex := ex) (dy := dy) (gp := gp) (gc := gc) (op := op) (gr := gr) (st := st) (dl := dl) (wo := wo) (n := n) (yc := yc) (ya := ya) (ys := ys) (yd := yd) (q := q) (zc := zc) (zp := zp) (zr := zr) (zs := zs) (zf := zf) (z := z) (zm := zm) (zt := zt) (k := k) l hfl hn hk h1) (cwV 1 hts hg9 rfl rfl rfl (by decide +kernel) hR9) ⟨fun a U g mk q => ⟨q.1, q.2.1, va_K.moved (u := U) (U := U.calling g mk a) (Vm.Alike.refl U.vm) q.2.2.1, tX.same (u := U) (U := U.calling g mk a) rfl q.2.2.2⟩, rC_0 hK hP, fun U hU hW => ⟨rfl, by rw [hU]; exact hP, va_K.moved hW.alike hK, by rw [hU]; exact tX.warm hW hT⟩⟩ rfl rfl hl9 rfl (lv_room hw9) hdg hc9
end
set_option maxHeartbeats 4000000 in
set_option maxRecDepth 100000 in
theorem c_X3_object_ok (l : Launch) {dC : Nat → ClassId} {dI : Nat → Nat → Nat} {cI cZ : ClassId} {ad : Nat → Nat} {sm fe ex dy : Int32} {gp gc op gr st dl wo : Nat → Int32} {n : Nat} {yc ya ys yd : Nat → Int32} {q : Nat} {zc zp zr zs zf : Nat → Int32} {z : Nat} {zm zt : Int64} {k : Nat} (hI : iwC ad) (hn : n ≤ 24) (hk : k < n) (h1 : st k = nI 2) (h2 : wo k = 0) : Met l yX3_object wsX3_object { frames := 2, cells := 0, slots := 0, locals := 42 } (va_Pc [.ref (ad 0), .int (nI k)] (fun U => va_P (dC, dI) vwCl (wC cI cZ ad sm fe ex dy gp gc op gr st dl wo n yc ya ys yd q zc zp zr zs zf z zm zt) U.heap ∧ va_K (dC, dI) vwCl [(cI, .int), (cZ, .boolean)] U)) (va_Qi (fun r (_ : Unit) => r = nI (tallyN (upd st k (nI 3)) (nI 3) n)) (fun _ t => va_P (dC, dI) vwCl (wC cI cZ ad sm fe ex dy gp gc op gr (upd st k (nI 3)) dl (upd wo k (nI 1)) n yc ya ys yd q zc zp zr zs zf z zm zt) t.heap) (awC ad)) 0 0 (awC ad) := by
  refine Met.ofW (cc := cX3_object) (maxL := 2) (ret := (some .int)) (by decide) rfl ?_
  intro p e s m args below meth c s₁ B hml hv
  obtain ⟨rfl, hP, hK⟩ := hv
  have hx := B.exec
  have hb := B.bytes
  have hr := B.returns
  have hts := atoms_spec (ws := wsX3_object) B.pre
  have hown : s.vm.findClass RX3 = some m.cls := findClass_of_methodNamed B.named
  have hlocks := B.notSynchronized
  have hS : va_S (awC ad) s.heap s.heap [] := va_S.rf
  have hl := lv_entry ([.ref (ad 0), .int (nI k)]) (n := 2) (Nat.le_of_ble_eq_true rfl)
  rw [lg_entry_eq]
  generalize (lg_sl ([.ref (ad 0), .int (nI k)]) ++ List.replicate (2 - (lg_sl ([.ref (ad 0), .int (nI k)])).length) Slot.unset).toArray = ls at hl ⊢
  have hl : lv_has ls 2 [(0, .ref (ad 0)), (1, .int (nI k))] := hl
  have hiX3 : ∀ w ∈ wsX30, w ∈ wsX3_object := by decide +kernel
  have hf19 := hts (.fieldLink RX3 19 "SettlementFund" "claimBook" "LSettlementFund$ClaimBook;") (by decide +kernel)
  have hiX0 : ∀ w ∈ wsX00, w ∈ wsX3_object := by decide +kernel
  have hf115 := hts (.fieldLink RX3 115 "SettlementFund$ClaimBook" "state" "[I") (by decide +kernel)
  have hf125 := hts (.fieldLink RX3 125 "SettlementFund$ClaimBook" "wasObjected" "[Z") (by decide +kernel)
  refine lv_aload_n hx hb dX3_object_0 rfl (lv_at hl 0 rfl) ?_
  refine lv_iload_n hx hb dX3_object_1 rfl (lv_at hl 1 rfl) ?_
  refine k_X3_mustBeClaim_ok l (k := k) (hn := hn) (hk := hk) hx hb hml hown hts hK hP gX3_object_X3_mustBeClaim ⟨Nat.le_of_ble_eq_true rfl, Nat.le_of_ble_eq_true rfl⟩ ⟨Nat.le_of_ble_eq_true rfl, Nat.le_of_ble_eq_true rfl⟩ hl.1 (Nat.le_of_ble_eq_true rfl) dX3_object_2 ?_
  refine lv_aload_n hx hb dX3_object_5 rfl (lv_at hl 0 rfl) ?_
  refine gC_0_6 hx hb hts hiX3 hown hK hP hf19 dX3_object_6 ?_
  refine gC_3_2 hx hb hts hiX0 hown hK hP hf115 dX3_object_9 ?_
  refine lv_iload_n hx hb dX3_object_12 rfl (lv_at hl 1 rfl) ?_
  refine lC_6 hx hb hK hP (by omega) dX3_object_13 ?_
  refine lv_iconst (v := nI 2) hx hb dX3_object_14 (by decide) ?_
  refine lv_icmp_ne (tgt := 30) hx hb dX3_object_15 (by decide) (fun c_15 => (show False by exact c_15 h1).elim) (fun c_15 => ?_)
  refine lv_aload_n hx hb dX3_object_18 rfl (lv_at hl 0 rfl) ?_
  refine gC_0_6 hx hb hts hiX3 hown hK hP hf19 dX3_object_19 ?_
  refine gC_3_4 hx hb hts hiX0 hown hK hP hf125 dX3_object_22 ?_
  refine lv_iload_n hx hb dX3_object_25 rfl (lv_at hl 1 rfl) ?_
  refine lC_8 hx hb hK hP (by omega) dX3_object_26 ?_
  refine lv_if_eq (tgt := 40) hx hb dX3_object_27 (by decide) (fun c_27 => ?_) (fun c_27 => (show False by exact c_27 h2).elim)
  refine lv_aload_n hx hb dX3_object_40 rfl (lv_at hl 0 rfl) ?_
  refine gC_0_6 hx hb hts hiX3 hown hK hP hf19 dX3_object_41 ?_
  refine gC_3_2 hx hb hts hiX0 hown hK hP hf115 dX3_object_44 ?_
  refine lv_iload_n hx hb dX3_object_47 rfl (lv_at hl 1 rfl) ?_
  refine lv_iconst (v := nI 3) hx hb dX3_object_48 (by decide) ?_
  refine sC_6 hx hb hK hP hI (fun _ h => h) hS (by omega) dX3_object_49 (fun H locs hP hS => ?_)
  refine lv_aload_n hx hb dX3_object_50 rfl (lv_at hl 0 rfl) ?_
  refine gC_0_6 hx hb hts hiX3 hown hK hP hf19 dX3_object_51 ?_
  refine gC_3_4 hx hb hts hiX0 hown hK hP hf125 dX3_object_54 ?_
  refine lv_iload_n hx hb dX3_object_57 rfl (lv_at hl 1 rfl) ?_
  refine lv_iconst (v := nI 1) hx hb dX3_object_58 (by decide) ?_
  refine sC_8 hx hb hK hP hI (fun _ h => h) hS (by omega) (rfl) dX3_object_59 (fun H locs hP hS => ?_)
  refine lv_aload_n hx hb dX3_object_60 rfl (lv_at hl 0 rfl) ?_
  refine gC_0_6 hx hb hts hiX3 hown hK hP hf19 dX3_object_61 ?_
  refine lv_iconst (v := nI 3) hx hb dX3_object_64 (by decide) ?_
  refine k_X0_tally l (w := nI 3) (hn := hn) hx hb hml hown hts hK hP gX3_object_X0_tally ⟨Nat.le_of_ble_eq_true rfl, Nat.le_of_ble_eq_true rfl⟩ ⟨Nat.le_of_ble_eq_true rfl, Nat.le_of_ble_eq_true rfl⟩ hl.1 (Nat.le_of_ble_eq_true rfl) dX3_object_65 ?_
  exact W.iret (v := nI (tallyN (upd st k (nI 3)) (nI 3) n)) hx hb hr (fun t ht hW => ⟨⟨nI (tallyN (upd st k (nI 3)) (nI 3) n), (), rfl, rfl, by (try dsimp only); rw [ht]; exact hP⟩, hS.F ht⟩) hS.2.2 dX3_object_68
section
variable {p : Program} {e : Env} {R : Room} {s : State} {m : MethodId} {args : Array Value} {below : List Frame} {meth : Method} {c : Code} {H : Heap} {locs : List Loc} {cells slots : Nat} {Q : State → Prop} {cc : ByteArray} {pc : Nat} {ls : Array Slot} {rest : List Value} {own : String} {index nL : Nat} {Ts : List Cond} {H0 : Heap} {A0 : Nat → Prop}
theorem k_X3_object_ok (l : Launch) {dC : Nat → ClassId} {dI : Nat → Nat → Nat} {cI cZ : ClassId} {ad : Nat → Nat} {sm fe ex dy : Int32} {gp gc op gr st dl wo : Nat → Int32} {n : Nat} {yc ya ys yd : Nat → Int32} {q : Nat} {zc zp zr zs zf : Nat → Int32} {z : Nat} {zm zt : Int64} {k : Nat} (hn : n ≤ 24) (hk : k < n) (h1 : st k = nI 2) (h2 : wo k = 0) (hx : p.tables.exec = Jvm.exec) (hb : c.code = cc) (hml : c.maxLocals = nL) (hown : s.vm.findClass own = some m.cls) (hts : ∀ w ∈ Ts, w.before args s = true) (hK : va_K (dC, dI) vwCl [(cI, .int), (cZ, .boolean)] s) (hP : va_P (dC, dI) vwCl (wC cI cZ ad sm fe ex dy gp gc op gr st dl wo n yc ya ys yd q zc zp zr zs zf z zm zt) H) (hg9 : GoodIn Ts (wsV own index RX3 yX3_object wsX3_object)) (hR9 : 2 + 1 ≤ R.frames ∧ 8 + (2 + 11) + 42 ≤ R.locals) (hc9 : cells ≤ R.cells ∧ slots ≤ R.slots) (hl9 : ls.size = nL) (hw9 : (rest.map fun v => v.category).sum ≤ 8) (hdg : decode cc pc = .ok (.invokevirtual index, 3)) (hI : iwC ad) (hA : ∀ x, awC ad x → A0 x) (hS : va_S A0 H0 H locs) (kk : ∀ (H1 : Heap) (locs1 : List Loc), va_P (dC, dI) vwCl (wC cI cZ ad sm fe ex dy gp gc op gr (upd st k (nI 3)) dl (upd wo k (nI 1)) n yc ya ys yd q zc zp zr zs zf z zm zt) H1 → va_S A0 H0 H1 locs1 → (∀ q : Nat, q < H.size → ¬ awC ad q → H1[q]? = H[q]?) → W p l e R s m args below meth c H1 locs1 cells slots Q (F0 m (pc + 3) ls (.int (nI (tallyN (upd st k (nI 3)) (nI 3) n)) :: rest))) : W p l e R s m args below meth c H locs cells slots Q (F0 m pc ls (.int (nI k) :: .ref (ad 0) :: rest)) := va_calli (va_runV (As := [.int (nI k)]) (rest := rest) ⟨hx, hb, hml, hown, hts⟩ (c_X3_object_ok (dC := dC) (dI := dI) (cI := cI) (cZ := cZ) (ad := ad) (sm := sm) (fe := fe) (ex := ex) (dy := dy) (gp := gp) (gc := gc) (op := op) (gr := gr) (st := st) (dl := dl) (wo := wo) (n := n) (yc := yc) (ya := ya) (ys := ys) (yd := yd) (q := q) (zc := zc) (zp := zp) (zr := zr) (zs := zs) (zf := zf) (z := z) (zm := zm) (zt := zt) (k := k) l hI hn hk h1 h2) (cwV 1 hts hg9 rfl rfl rfl (by decide +kernel) hR9) ⟨fun a U g mk q => ⟨q.1, q.2.1, va_K.moved (u := U) (U := U.calling g mk a) (Vm.Alike.refl U.vm) q.2.2⟩, rC_0 hK hP, fun U hU hW => ⟨rfl, by rw [hU]; exact hP, va_K.moved hW.alike hK⟩⟩ rfl rfl hl9 rfl (lv_room hw9) hdg hc9) hS (fun q _ h => hA q h) hA (fun r u t H1 locs1 ht _ hu hB hz hk hS1 => by subst hu; exact kk H1 locs1 (by rw [ht] at hB; exact hB) hS1 hk)
end
set_option maxHeartbeats 4000000 in
set_option maxRecDepth 100000 in
theorem c_X3_object_ise (l : Launch) (hfl : l.stackTraces = false) {dC : Nat → ClassId} {dI : Nat → Nat → Nat} {cI cZ : ClassId} {ad : Nat → Nat} {sm fe ex dy : Int32} {gp gc op gr st dl wo : Nat → Int32} {n : Nat} {yc ya ys yd : Nat → Int32} {q : Nat} {zc zp zr zs zf : Nat → Int32} {z : Nat} {zm zt : Int64} {k : Nat} (hn : n ≤ 24) (hk : k < n) (h1 : ¬ (st k = nI 2 ∧ wo k = 0)) : vx_Met l yX3_object wsX3_object { frames := 6, cells := 1, slots := 6, locals := 90 } (va_Pc [.ref (ad 0), .int (nI k)] (fun U => va_P (dC, dI) vwCl (wC cI cZ ad sm fe ex dy gp gc op gr st dl wo n yc ya ys yd q zc zp zr zs zf z zm zt) U.heap ∧ va_K (dC, dI) vwCl [(cI, .int), (cZ, .boolean)] U ∧ tX (fun _ => False) U U.heap)) (fun _ _ _ _ => False) (xT "java/lang/IllegalStateException") 1 6 (fun _ => False) := by
  refine vx_ofW (cc := cX3_object) (maxL := 2) (ret := (some .int)) (by decide) rfl ?_
  intro p e s m args below meth c s₁ B hml ht hv
  obtain ⟨rfl, hP, hK, hT⟩ := hv
  have hx := B.exec
  have hb := B.bytes
  have hr := B.returns
  have hts := atoms_spec (ws := wsX3_object) B.pre
  have hown : s.vm.findClass RX3 = some m.cls := findClass_of_methodNamed B.named
  have hlocks := B.notSynchronized
  have hl := lv_entry ([.ref (ad 0), .int (nI k)]) (n := 2) (Nat.le_of_ble_eq_true rfl)
  rw [lg_entry_eq]
  generalize (lg_sl ([.ref (ad 0), .int (nI k)]) ++ List.replicate (2 - (lg_sl ([.ref (ad 0), .int (nI k)])).length) Slot.unset).toArray = ls at hl ⊢
  have hl : lv_has ls 2 [(0, .ref (ad 0)), (1, .int (nI k))] := hl
  have hiX3 : ∀ w ∈ wsX30, w ∈ wsX3_object := by decide +kernel
  have hf19 := hts (.fieldLink RX3 19 "SettlementFund" "claimBook" "LSettlementFund$ClaimBook;") (by decide +kernel)
  have hiX0 : ∀ w ∈ wsX00, w ∈ wsX3_object := by decide +kernel
  have hf115 := hts (.fieldLink RX3 115 "SettlementFund$ClaimBook" "state" "[I") (by decide +kernel)
  have hf125 := hts (.fieldLink RX3 125 "SettlementFund$ClaimBook" "wasObjected" "[Z") (by decide +kernel)
  refine lv_aload_n hx hb dX3_object_0 rfl (lv_at hl 0 rfl) ?_
  refine lv_iload_n hx hb dX3_object_1 rfl (lv_at hl 1 rfl) ?_
  refine k_X3_mustBeClaim_ok l (k := k) (hn := hn) (hk := hk) hx hb hml hown hts hK hP gX3_object_X3_mustBeClaim ⟨Nat.le_of_ble_eq_true rfl, Nat.le_of_ble_eq_true rfl⟩ ⟨Nat.le_of_ble_eq_true rfl, Nat.le_of_ble_eq_true rfl⟩ hl.1 (Nat.le_of_ble_eq_true rfl) dX3_object_2 ?_
  refine lv_aload_n hx hb dX3_object_5 rfl (lv_at hl 0 rfl) ?_
  refine gC_0_6 hx hb hts hiX3 hown hK hP hf19 dX3_object_6 ?_
  refine gC_3_2 hx hb hts hiX0 hown hK hP hf115 dX3_object_9 ?_
  refine lv_iload_n hx hb dX3_object_12 rfl (lv_at hl 1 rfl) ?_
  refine lC_6 hx hb hK hP (by omega) dX3_object_13 ?_
  refine lv_iconst (v := nI 2) hx hb dX3_object_14 (by decide) ?_
  refine lv_icmp_ne (tgt := 30) hx hb dX3_object_15 (by decide) (fun c_15 => ?_) (fun c_15 => ?_)
  · exact zx_IllegalStateException (is := 129) (text := "the claim is not DENIED, or it was objected to before") hx hb hfl hown hts hT (by decide +kernel) (by decide +kernel) (by decide +kernel) (by decide +kernel) (hl.1.trans hml.symm) dX3_object_30 dX3_object_33 dX3_object_34 dX3_object_36 dX3_object_39 ht hlocks (Nat.le_of_ble_eq_true rfl) (Nat.le_of_ble_eq_true rfl) (Nat.le_of_ble_eq_true rfl) (Nat.le_of_ble_eq_true rfl)
  · refine lv_aload_n hx hb dX3_object_18 rfl (lv_at hl 0 rfl) ?_
    refine gC_0_6 hx hb hts hiX3 hown hK hP hf19 dX3_object_19 ?_
    refine gC_3_4 hx hb hts hiX0 hown hK hP hf125 dX3_object_22 ?_
    refine lv_iload_n hx hb dX3_object_25 rfl (lv_at hl 1 rfl) ?_
    refine lC_8 hx hb hK hP (by omega) dX3_object_26 ?_
    refine lv_if_eq (tgt := 40) hx hb dX3_object_27 (by decide) (fun c_27 => (show False by exact h1 ⟨c_15, c_27⟩).elim) (fun c_27 => ?_)
    exact zx_IllegalStateException (is := 129) (text := "the claim is not DENIED, or it was objected to before") hx hb hfl hown hts hT (by decide +kernel) (by decide +kernel) (by decide +kernel) (by decide +kernel) (hl.1.trans hml.symm) dX3_object_30 dX3_object_33 dX3_object_34 dX3_object_36 dX3_object_39 ht hlocks (Nat.le_of_ble_eq_true rfl) (Nat.le_of_ble_eq_true rfl) (Nat.le_of_ble_eq_true rfl) (Nat.le_of_ble_eq_true rfl)
section
variable {p : Program} {e : Env} {R : Room} {s : State} {m : MethodId} {args : Array Value} {below : List Frame} {meth : Method} {c : Code} {H : Heap} {locs : List Loc} {cells slots : Nat} {Q : State → Prop} {cc : ByteArray} {pc : Nat} {ls : Array Slot} {rest : List Value} {own : String} {index nL : Nat} {Ts : List Cond} {H0 : Heap} {A0 : Nat → Prop}
theorem kr_X3_object_ise (l : Launch) (hfl : l.stackTraces = false) {dC : Nat → ClassId} {dI : Nat → Nat → Nat} {cI cZ : ClassId} {ad : Nat → Nat} {sm fe ex dy : Int32} {gp gc op gr st dl wo : Nat → Int32} {n : Nat} {yc ya ys yd : Nat → Int32} {q : Nat} {zc zp zr zs zf : Nat → Int32} {z : Nat} {zm zt : Int64} {k : Nat} (hn : n ≤ 24) (hk : k < n) (h1 : ¬ (st k = nI 2 ∧ wo k = 0)) (hx : p.tables.exec = Jvm.exec) (hb : c.code = cc) (hml : c.maxLocals = nL) (hown : s.vm.findClass own = some m.cls) (hts : ∀ w ∈ Ts, w.before args s = true) (hK : va_K (dC, dI) vwCl [(cI, .int), (cZ, .boolean)] s) (hP : va_P (dC, dI) vwCl (wC cI cZ ad sm fe ex dy gp gc op gr st dl wo n yc ya ys yd q zc zp zr zs zf z zm zt) H) (hg9 : GoodIn Ts (wsV own index RX3 yX3_object wsX3_object)) (hR9 : 6 + 1 ≤ R.frames ∧ 8 + (2 + 11) + 90 ≤ R.locals) (hc9 : cells + 1 ≤ R.cells ∧ slots + 6 ≤ R.slots) (hl9 : ls.size = nL) (hw9 : (rest.map fun v => v.category).sum ≤ 8) (hdg : decode cc pc = .ok (.invokevirtual index, 3)) (hT : tX (fun _ => False) s H) : vx_Run p l e R s m args below meth c H locs cells slots 1 6 (F0 m pc ls (.int (nI k) :: .ref (ad 0) :: rest)) rest (fun _ _ _ => False) (xT "java/lang/IllegalStateException") (fun _ => False) := vx_runV (As := [.int (nI k)]) (rest := rest) ⟨hx, hb, hml, hown, hts⟩ (c_X3_object_ise (dC := dC) (dI := dI) (cI := cI) (cZ := cZ) (ad := ad) (sm := sm) (fe := fe) (ex := ex) (dy := dy) (gp := gp) (gc := gc) (op := op) (gr := gr) (st := st) (dl := dl) (wo := wo) (n := n) (yc := yc) (ya := ya) (ys := ys) (yd := yd) (q := q) (zc := zc) (zp := zp) (zr := zr) (zs := zs) (zf := zf) (z := z) (zm := zm) (zt := zt) (k := k) l hfl hn hk h1) (cwV 1 hts hg9 rfl rfl rfl (by decide +kernel) hR9) ⟨fun a U g mk q => ⟨q.1, q.2.1, va_K.moved (u := U) (U := U.calling g mk a) (Vm.Alike.refl U.vm) q.2.2.1, tX.same (u := U) (U := U.calling g mk a) rfl q.2.2.2⟩, rC_0 hK hP, fun U hU hW => ⟨rfl, by rw [hU]; exact hP, va_K.moved hW.alike hK, by rw [hU]; exact tX.warm hW hT⟩⟩ rfl rfl hl9 rfl (lv_room hw9) hdg hc9
end
set_option maxHeartbeats 4000000 in
set_option maxRecDepth 100000 in
theorem c_X3_decide_ok (l : Launch) {dC : Nat → ClassId} {dI : Nat → Nat → Nat} {cI cZ : ClassId} {ad : Nat → Nat} {sm fe ex dy : Int32} {gp gc op gr st dl wo : Nat → Int32} {n : Nat} {yc ya ys yd : Nat → Int32} {q : Nat} {zc zp zr zs zf : Nat → Int32} {z : Nat} {zm zt : Int64} {k : Nat} {b : Int32} (hI : iwC ad) (hn : n ≤ 24) (hk : k < n) (h1 : st k = nI 3) : Met l yX3_decide wsX3_decide { frames := 2, cells := 0, slots := 0, locals := 42 } (va_Pc [.ref (ad 0), .int (nI k), .int b] (fun U => va_P (dC, dI) vwCl (wC cI cZ ad sm fe ex dy gp gc op gr st dl wo n yc ya ys yd q zc zp zr zs zf z zm zt) U.heap ∧ va_K (dC, dI) vwCl [(cI, .int), (cZ, .boolean)] U)) (va_Qi (fun r (_ : Unit) => r = nI (tallyN (upd st k (goodS b)) (nI 3) n)) (fun _ t => va_P (dC, dI) vwCl (wC cI cZ ad sm fe ex dy gp gc op gr (upd st k (goodS b)) dl wo n yc ya ys yd q zc zp zr zs zf z zm zt) t.heap) (awC ad)) 0 0 (awC ad) := by
  refine Met.ofW (cc := cX3_decide) (maxL := 3) (ret := (some .int)) (by decide) rfl ?_
  intro p e s m args below meth c s₁ B hml hv
  obtain ⟨rfl, hP, hK⟩ := hv
  have hx := B.exec
  have hb := B.bytes
  have hr := B.returns
  have hts := atoms_spec (ws := wsX3_decide) B.pre
  have hown : s.vm.findClass RX3 = some m.cls := findClass_of_methodNamed B.named
  have hlocks := B.notSynchronized
  have hS : va_S (awC ad) s.heap s.heap [] := va_S.rf
  have hl := lv_entry ([.ref (ad 0), .int (nI k), .int b]) (n := 3) (Nat.le_of_ble_eq_true rfl)
  rw [lg_entry_eq]
  generalize (lg_sl ([.ref (ad 0), .int (nI k), .int b]) ++ List.replicate (3 - (lg_sl ([.ref (ad 0), .int (nI k), .int b])).length) Slot.unset).toArray = ls at hl ⊢
  have hl : lv_has ls 3 [(0, .ref (ad 0)), (1, .int (nI k)), (2, .int b)] := hl
  have hiX3 : ∀ w ∈ wsX30, w ∈ wsX3_decide := by decide +kernel
  have hf19 := hts (.fieldLink RX3 19 "SettlementFund" "claimBook" "LSettlementFund$ClaimBook;") (by decide +kernel)
  have hiX0 : ∀ w ∈ wsX00, w ∈ wsX3_decide := by decide +kernel
  have hf115 := hts (.fieldLink RX3 115 "SettlementFund$ClaimBook" "state" "[I") (by decide +kernel)
  refine lv_aload_n hx hb dX3_decide_0 rfl (lv_at hl 0 rfl) ?_
  refine lv_iload_n hx hb dX3_decide_1 rfl (lv_at hl 1 rfl) ?_
  refine k_X3_mustBeClaim_ok l (k := k) (hn := hn) (hk := hk) hx hb hml hown hts hK hP gX3_decide_X3_mustBeClaim ⟨Nat.le_of_ble_eq_true rfl, Nat.le_of_ble_eq_true rfl⟩ ⟨Nat.le_of_ble_eq_true rfl, Nat.le_of_ble_eq_true rfl⟩ hl.1 (Nat.le_of_ble_eq_true rfl) dX3_decide_2 ?_
  refine lv_aload_n hx hb dX3_decide_5 rfl (lv_at hl 0 rfl) ?_
  refine gC_0_6 hx hb hts hiX3 hown hK hP hf19 dX3_decide_6 ?_
  refine gC_3_2 hx hb hts hiX0 hown hK hP hf115 dX3_decide_9 ?_
  refine lv_iload_n hx hb dX3_decide_12 rfl (lv_at hl 1 rfl) ?_
  refine lC_6 hx hb hK hP (by omega) dX3_decide_13 ?_
  refine lv_iconst (v := nI 3) hx hb dX3_decide_14 (by decide) ?_
  refine lv_icmp_eq (tgt := 28) hx hb dX3_decide_15 (by decide) (fun c_15 => ?_) (fun c_15 => (show False by exact c_15 h1).elim)
  refine lv_aload_n hx hb dX3_decide_28 rfl (lv_at hl 0 rfl) ?_
  refine gC_0_6 hx hb hts hiX3 hown hK hP hf19 dX3_decide_29 ?_
  refine gC_3_2 hx hb hts hiX0 hown hK hP hf115 dX3_decide_32 ?_
  refine lv_iload_n hx hb dX3_decide_35 rfl (lv_at hl 1 rfl) ?_
  refine lv_iload_n hx hb dX3_decide_36 rfl (lv_at hl 2 rfl) ?_
  refine lv_if_eq (tgt := 44) hx hb dX3_decide_37 (by decide) (fun c_37 => ?_) (fun c_37 => ?_)
  · refine lv_iconst (v := nI 2) hx hb dX3_decide_44 (by decide) ?_
    refine sC_6 hx hb hK hP hI (fun _ h => h) hS (by omega) dX3_decide_45 (fun H locs hP hS => ?_)
    have e_1 : upd st k (nI 2) = upd st k (goodS b) := by simp [goodS, c_37]
    rw [e_1] at hP
    refine lv_aload_n hx hb dX3_decide_46 rfl (lv_at hl 0 rfl) ?_
    refine gC_0_6 hx hb hts hiX3 hown hK hP hf19 dX3_decide_47 ?_
    refine lv_iconst (v := nI 3) hx hb dX3_decide_50 (by decide) ?_
    refine k_X0_tally l (w := nI 3) (hn := hn) hx hb hml hown hts hK hP gX3_decide_X0_tally ⟨Nat.le_of_ble_eq_true rfl, Nat.le_of_ble_eq_true rfl⟩ ⟨Nat.le_of_ble_eq_true rfl, Nat.le_of_ble_eq_true rfl⟩ hl.1 (Nat.le_of_ble_eq_true rfl) dX3_decide_51 ?_
    exact W.iret (v := nI (tallyN (upd st k (goodS b)) (nI 3) n)) hx hb hr (fun t ht hW => ⟨⟨nI (tallyN (upd st k (goodS b)) (nI 3) n), (), rfl, rfl, by (try dsimp only); rw [ht]; exact hP⟩, hS.F ht⟩) hS.2.2 dX3_decide_54
  · refine lv_iconst (v := nI 0) hx hb dX3_decide_40 (by decide) ?_
    refine lv_goto (tgt := 45) hx hb dX3_decide_41 (by decide) ?_
    refine sC_6 hx hb hK hP hI (fun _ h => h) hS (by omega) dX3_decide_45 (fun H locs hP hS => ?_)
    have e_2 : upd st k (nI 0) = upd st k (goodS b) := by simp [goodS, c_37]
    rw [e_2] at hP
    refine lv_aload_n hx hb dX3_decide_46 rfl (lv_at hl 0 rfl) ?_
    refine gC_0_6 hx hb hts hiX3 hown hK hP hf19 dX3_decide_47 ?_
    refine lv_iconst (v := nI 3) hx hb dX3_decide_50 (by decide) ?_
    refine k_X0_tally l (w := nI 3) (hn := hn) hx hb hml hown hts hK hP gX3_decide_X0_tally ⟨Nat.le_of_ble_eq_true rfl, Nat.le_of_ble_eq_true rfl⟩ ⟨Nat.le_of_ble_eq_true rfl, Nat.le_of_ble_eq_true rfl⟩ hl.1 (Nat.le_of_ble_eq_true rfl) dX3_decide_51 ?_
    exact W.iret (v := nI (tallyN (upd st k (goodS b)) (nI 3) n)) hx hb hr (fun t ht hW => ⟨⟨nI (tallyN (upd st k (goodS b)) (nI 3) n), (), rfl, rfl, by (try dsimp only); rw [ht]; exact hP⟩, hS.F ht⟩) hS.2.2 dX3_decide_54
section
variable {p : Program} {e : Env} {R : Room} {s : State} {m : MethodId} {args : Array Value} {below : List Frame} {meth : Method} {c : Code} {H : Heap} {locs : List Loc} {cells slots : Nat} {Q : State → Prop} {cc : ByteArray} {pc : Nat} {ls : Array Slot} {rest : List Value} {own : String} {index nL : Nat} {Ts : List Cond} {H0 : Heap} {A0 : Nat → Prop}
theorem k_X3_decide_ok (l : Launch) {dC : Nat → ClassId} {dI : Nat → Nat → Nat} {cI cZ : ClassId} {ad : Nat → Nat} {sm fe ex dy : Int32} {gp gc op gr st dl wo : Nat → Int32} {n : Nat} {yc ya ys yd : Nat → Int32} {q : Nat} {zc zp zr zs zf : Nat → Int32} {z : Nat} {zm zt : Int64} {k : Nat} {b : Int32} (hn : n ≤ 24) (hk : k < n) (h1 : st k = nI 3) (hx : p.tables.exec = Jvm.exec) (hb : c.code = cc) (hml : c.maxLocals = nL) (hown : s.vm.findClass own = some m.cls) (hts : ∀ w ∈ Ts, w.before args s = true) (hK : va_K (dC, dI) vwCl [(cI, .int), (cZ, .boolean)] s) (hP : va_P (dC, dI) vwCl (wC cI cZ ad sm fe ex dy gp gc op gr st dl wo n yc ya ys yd q zc zp zr zs zf z zm zt) H) (hg9 : GoodIn Ts (wsV own index RX3 yX3_decide wsX3_decide)) (hR9 : 2 + 1 ≤ R.frames ∧ 8 + (3 + 11) + 42 ≤ R.locals) (hc9 : cells ≤ R.cells ∧ slots ≤ R.slots) (hl9 : ls.size = nL) (hw9 : (rest.map fun v => v.category).sum ≤ 8) (hdg : decode cc pc = .ok (.invokevirtual index, 3)) (hI : iwC ad) (hA : ∀ x, awC ad x → A0 x) (hS : va_S A0 H0 H locs) (kk : ∀ (H1 : Heap) (locs1 : List Loc), va_P (dC, dI) vwCl (wC cI cZ ad sm fe ex dy gp gc op gr (upd st k (goodS b)) dl wo n yc ya ys yd q zc zp zr zs zf z zm zt) H1 → va_S A0 H0 H1 locs1 → (∀ q : Nat, q < H.size → ¬ awC ad q → H1[q]? = H[q]?) → W p l e R s m args below meth c H1 locs1 cells slots Q (F0 m (pc + 3) ls (.int (nI (tallyN (upd st k (goodS b)) (nI 3) n)) :: rest))) : W p l e R s m args below meth c H locs cells slots Q (F0 m pc ls (.int b :: .int (nI k) :: .ref (ad 0) :: rest)) := va_calli (va_runV (As := [.int (nI k), .int b]) (rest := rest) ⟨hx, hb, hml, hown, hts⟩ (c_X3_decide_ok (dC := dC) (dI := dI) (cI := cI) (cZ := cZ) (ad := ad) (sm := sm) (fe := fe) (ex := ex) (dy := dy) (gp := gp) (gc := gc) (op := op) (gr := gr) (st := st) (dl := dl) (wo := wo) (n := n) (yc := yc) (ya := ya) (ys := ys) (yd := yd) (q := q) (zc := zc) (zp := zp) (zr := zr) (zs := zs) (zf := zf) (z := z) (zm := zm) (zt := zt) (k := k) (b := b) l hI hn hk h1) (cwV 2 hts hg9 rfl rfl rfl (by decide +kernel) hR9) ⟨fun a U g mk q => ⟨q.1, q.2.1, va_K.moved (u := U) (U := U.calling g mk a) (Vm.Alike.refl U.vm) q.2.2⟩, rC_0 hK hP, fun U hU hW => ⟨rfl, by rw [hU]; exact hP, va_K.moved hW.alike hK⟩⟩ rfl rfl hl9 rfl (lv_room hw9) hdg hc9) hS (fun q _ h => hA q h) hA (fun r u t H1 locs1 ht _ hu hB hz hk hS1 => by subst hu; exact kk H1 locs1 (by rw [ht] at hB; exact hB) hS1 hk)
end
set_option maxHeartbeats 4000000 in
set_option maxRecDepth 100000 in
theorem c_X3_decide_ise (l : Launch) (hfl : l.stackTraces = false) {dC : Nat → ClassId} {dI : Nat → Nat → Nat} {cI cZ : ClassId} {ad : Nat → Nat} {sm fe ex dy : Int32} {gp gc op gr st dl wo : Nat → Int32} {n : Nat} {yc ya ys yd : Nat → Int32} {q : Nat} {zc zp zr zs zf : Nat → Int32} {z : Nat} {zm zt : Int64} {k : Nat} {b : Int32} (hn : n ≤ 24) (hk : k < n) (h1 : ¬ st k = nI 3) : vx_Met l yX3_decide wsX3_decide { frames := 6, cells := 1, slots := 6, locals := 90 } (va_Pc [.ref (ad 0), .int (nI k), .int b] (fun U => va_P (dC, dI) vwCl (wC cI cZ ad sm fe ex dy gp gc op gr st dl wo n yc ya ys yd q zc zp zr zs zf z zm zt) U.heap ∧ va_K (dC, dI) vwCl [(cI, .int), (cZ, .boolean)] U ∧ tX (fun _ => False) U U.heap)) (fun _ _ _ _ => False) (xT "java/lang/IllegalStateException") 1 6 (fun _ => False) := by
  refine vx_ofW (cc := cX3_decide) (maxL := 3) (ret := (some .int)) (by decide) rfl ?_
  intro p e s m args below meth c s₁ B hml ht hv
  obtain ⟨rfl, hP, hK, hT⟩ := hv
  have hx := B.exec
  have hb := B.bytes
  have hr := B.returns
  have hts := atoms_spec (ws := wsX3_decide) B.pre
  have hown : s.vm.findClass RX3 = some m.cls := findClass_of_methodNamed B.named
  have hlocks := B.notSynchronized
  have hl := lv_entry ([.ref (ad 0), .int (nI k), .int b]) (n := 3) (Nat.le_of_ble_eq_true rfl)
  rw [lg_entry_eq]
  generalize (lg_sl ([.ref (ad 0), .int (nI k), .int b]) ++ List.replicate (3 - (lg_sl ([.ref (ad 0), .int (nI k), .int b])).length) Slot.unset).toArray = ls at hl ⊢
  have hl : lv_has ls 3 [(0, .ref (ad 0)), (1, .int (nI k)), (2, .int b)] := hl
  have hiX3 : ∀ w ∈ wsX30, w ∈ wsX3_decide := by decide +kernel
  have hf19 := hts (.fieldLink RX3 19 "SettlementFund" "claimBook" "LSettlementFund$ClaimBook;") (by decide +kernel)
  have hiX0 : ∀ w ∈ wsX00, w ∈ wsX3_decide := by decide +kernel
  have hf115 := hts (.fieldLink RX3 115 "SettlementFund$ClaimBook" "state" "[I") (by decide +kernel)
  refine lv_aload_n hx hb dX3_decide_0 rfl (lv_at hl 0 rfl) ?_
  refine lv_iload_n hx hb dX3_decide_1 rfl (lv_at hl 1 rfl) ?_
  refine k_X3_mustBeClaim_ok l (k := k) (hn := hn) (hk := hk) hx hb hml hown hts hK hP gX3_decide_X3_mustBeClaim ⟨Nat.le_of_ble_eq_true rfl, Nat.le_of_ble_eq_true rfl⟩ ⟨Nat.le_of_ble_eq_true rfl, Nat.le_of_ble_eq_true rfl⟩ hl.1 (Nat.le_of_ble_eq_true rfl) dX3_decide_2 ?_
  refine lv_aload_n hx hb dX3_decide_5 rfl (lv_at hl 0 rfl) ?_
  refine gC_0_6 hx hb hts hiX3 hown hK hP hf19 dX3_decide_6 ?_
  refine gC_3_2 hx hb hts hiX0 hown hK hP hf115 dX3_decide_9 ?_
  refine lv_iload_n hx hb dX3_decide_12 rfl (lv_at hl 1 rfl) ?_
  refine lC_6 hx hb hK hP (by omega) dX3_decide_13 ?_
  refine lv_iconst (v := nI 3) hx hb dX3_decide_14 (by decide) ?_
  refine lv_icmp_eq (tgt := 28) hx hb dX3_decide_15 (by decide) (fun c_15 => (show False by exact h1 c_15).elim) (fun c_15 => ?_)
  exact zx_IllegalStateException (is := 135) (text := "the claim is not OBJECTED") hx hb hfl hown hts hT (by decide +kernel) (by decide +kernel) (by decide +kernel) (by decide +kernel) (hl.1.trans hml.symm) dX3_decide_18 dX3_decide_21 dX3_decide_22 dX3_decide_24 dX3_decide_27 ht hlocks (Nat.le_of_ble_eq_true rfl) (Nat.le_of_ble_eq_true rfl) (Nat.le_of_ble_eq_true rfl) (Nat.le_of_ble_eq_true rfl)
section
variable {p : Program} {e : Env} {R : Room} {s : State} {m : MethodId} {args : Array Value} {below : List Frame} {meth : Method} {c : Code} {H : Heap} {locs : List Loc} {cells slots : Nat} {Q : State → Prop} {cc : ByteArray} {pc : Nat} {ls : Array Slot} {rest : List Value} {own : String} {index nL : Nat} {Ts : List Cond} {H0 : Heap} {A0 : Nat → Prop}
theorem kr_X3_decide_ise (l : Launch) (hfl : l.stackTraces = false) {dC : Nat → ClassId} {dI : Nat → Nat → Nat} {cI cZ : ClassId} {ad : Nat → Nat} {sm fe ex dy : Int32} {gp gc op gr st dl wo : Nat → Int32} {n : Nat} {yc ya ys yd : Nat → Int32} {q : Nat} {zc zp zr zs zf : Nat → Int32} {z : Nat} {zm zt : Int64} {k : Nat} {b : Int32} (hn : n ≤ 24) (hk : k < n) (h1 : ¬ st k = nI 3) (hx : p.tables.exec = Jvm.exec) (hb : c.code = cc) (hml : c.maxLocals = nL) (hown : s.vm.findClass own = some m.cls) (hts : ∀ w ∈ Ts, w.before args s = true) (hK : va_K (dC, dI) vwCl [(cI, .int), (cZ, .boolean)] s) (hP : va_P (dC, dI) vwCl (wC cI cZ ad sm fe ex dy gp gc op gr st dl wo n yc ya ys yd q zc zp zr zs zf z zm zt) H) (hg9 : GoodIn Ts (wsV own index RX3 yX3_decide wsX3_decide)) (hR9 : 6 + 1 ≤ R.frames ∧ 8 + (3 + 11) + 90 ≤ R.locals) (hc9 : cells + 1 ≤ R.cells ∧ slots + 6 ≤ R.slots) (hl9 : ls.size = nL) (hw9 : (rest.map fun v => v.category).sum ≤ 8) (hdg : decode cc pc = .ok (.invokevirtual index, 3)) (hT : tX (fun _ => False) s H) : vx_Run p l e R s m args below meth c H locs cells slots 1 6 (F0 m pc ls (.int b :: .int (nI k) :: .ref (ad 0) :: rest)) rest (fun _ _ _ => False) (xT "java/lang/IllegalStateException") (fun _ => False) := vx_runV (As := [.int (nI k), .int b]) (rest := rest) ⟨hx, hb, hml, hown, hts⟩ (c_X3_decide_ise (dC := dC) (dI := dI) (cI := cI) (cZ := cZ) (ad := ad) (sm := sm) (fe := fe) (ex := ex) (dy := dy) (gp := gp) (gc := gc) (op := op) (gr := gr) (st := st) (dl := dl) (wo := wo) (n := n) (yc := yc) (ya := ya) (ys := ys) (yd := yd) (q := q) (zc := zc) (zp := zp) (zr := zr) (zs := zs) (zf := zf) (z := z) (zm := zm) (zt := zt) (k := k) (b := b) l hfl hn hk h1) (cwV 2 hts hg9 rfl rfl rfl (by decide +kernel) hR9) ⟨fun a U g mk q => ⟨q.1, q.2.1, va_K.moved (u := U) (U := U.calling g mk a) (Vm.Alike.refl U.vm) q.2.2.1, tX.same (u := U) (U := U.calling g mk a) rfl q.2.2.2⟩, rC_0 hK hP, fun U hU hW => ⟨rfl, by rw [hU]; exact hP, va_K.moved hW.alike hK, by rw [hU]; exact tX.warm hW hT⟩⟩ rfl rfl hl9 rfl (lv_room hw9) hdg hc9
end
set_option maxHeartbeats 4000000 in
set_option maxRecDepth 100000 in
theorem c_X3_cash_ok (l : Launch) {dC : Nat → ClassId} {dI : Nat → Nat → Nat} {cI cZ : ClassId} {ad : Nat → Nat} {sm fe ex dy : Int32} {gp gc op gr st dl wo : Nat → Int32} {n : Nat} {yc ya ys yd : Nat → Int32} {q : Nat} {zc zp zr zs zf : Nat → Int32} {z : Nat} {zm zt : Int64} {k : Nat} (hI : iwC ad) (hq : q ≤ 100) (hk : k < q) (h1 : ys k = 0) : Met l yX3_cash wsX3_cash { frames := 2, cells := 0, slots := 0, locals := 42 } (va_Pc [.ref (ad 0), .int (nI k)] (fun U => va_P (dC, dI) vwCl (wC cI cZ ad sm fe ex dy gp gc op gr st dl wo n yc ya ys yd q zc zp zr zs zf z zm zt) U.heap ∧ va_K (dC, dI) vwCl [(cI, .int), (cZ, .boolean)] U)) (va_Qi (fun r (_ : Unit) => r = ya k) (fun _ t => va_P (dC, dI) vwCl (wC cI cZ ad sm fe ex dy gp gc op gr st dl wo n yc ya (upd ys k (nI 1)) yd q zc zp zr zs zf z zm zt) t.heap) (awC ad)) 0 0 (awC ad) := by
  refine Met.ofW (cc := cX3_cash) (maxL := 2) (ret := (some .int)) (by decide) rfl ?_
  intro p e s m args below meth c s₁ B hml hv
  obtain ⟨rfl, hP, hK⟩ := hv
  have hx := B.exec
  have hb := B.bytes
  have hr := B.returns
  have hts := atoms_spec (ws := wsX3_cash) B.pre
  have hown : s.vm.findClass RX3 = some m.cls := findClass_of_methodNamed B.named
  have hlocks := B.notSynchronized
  have hS : va_S (awC ad) s.heap s.heap [] := va_S.rf
  have hl := lv_entry ([.ref (ad 0), .int (nI k)]) (n := 2) (Nat.le_of_ble_eq_true rfl)
  rw [lg_entry_eq]
  generalize (lg_sl ([.ref (ad 0), .int (nI k)]) ++ List.replicate (2 - (lg_sl ([.ref (ad 0), .int (nI k)])).length) Slot.unset).toArray = ls at hl ⊢
  have hl : lv_has ls 2 [(0, .ref (ad 0)), (1, .int (nI k))] := hl
  have hiX3 : ∀ w ∈ wsX30, w ∈ wsX3_cash := by decide +kernel
  have hf26 := hts (.fieldLink RX3 26 "SettlementFund" "paymentBook" "LSettlementFund$PaymentBook;") (by decide +kernel)
  have hiX1 : ∀ w ∈ wsX10, w ∈ wsX3_cash := by decide +kernel
  have hf167 := hts (.fieldLink RX3 167 "SettlementFund$PaymentBook" "state" "[I") (by decide +kernel)
  have hf170 := hts (.fieldLink RX3 170 "SettlementFund$PaymentBook" "amount" "[I") (by decide +kernel)
  refine lv_aload_n hx hb dX3_cash_0 rfl (lv_at hl 0 rfl) ?_
  refine lv_iload_n hx hb dX3_cash_1 rfl (lv_at hl 1 rfl) ?_
  refine k_X3_mustBePayment_ok l (k := k) (hq := hq) (hk := hk) hx hb hml hown hts hK hP gX3_cash_X3_mustBePayment ⟨Nat.le_of_ble_eq_true rfl, Nat.le_of_ble_eq_true rfl⟩ ⟨Nat.le_of_ble_eq_true rfl, Nat.le_of_ble_eq_true rfl⟩ hl.1 (Nat.le_of_ble_eq_true rfl) dX3_cash_2 ?_
  refine lv_aload_n hx hb dX3_cash_5 rfl (lv_at hl 0 rfl) ?_
  refine gC_0_7 hx hb hts hiX3 hown hK hP hf26 dX3_cash_6 ?_
  refine gC_9_2 hx hb hts hiX1 hown hK hP hf167 dX3_cash_9 ?_
  refine lv_iload_n hx hb dX3_cash_12 rfl (lv_at hl 1 rfl) ?_
  refine lC_12 hx hb hK hP (by omega) dX3_cash_13 ?_
  refine lv_if_eq (tgt := 27) hx hb dX3_cash_14 (by decide) (fun c_14 => ?_) (fun c_14 => (show False by exact c_14 h1).elim)
  refine lv_aload_n hx hb dX3_cash_27 rfl (lv_at hl 0 rfl) ?_
  refine gC_0_7 hx hb hts hiX3 hown hK hP hf26 dX3_cash_28 ?_
  refine gC_9_2 hx hb hts hiX1 hown hK hP hf167 dX3_cash_31 ?_
  refine lv_iload_n hx hb dX3_cash_34 rfl (lv_at hl 1 rfl) ?_
  refine lv_iconst (v := nI 1) hx hb dX3_cash_35 (by decide) ?_
  refine sC_12 hx hb hK hP hI (fun _ h => h) hS (by omega) dX3_cash_36 (fun H locs hP hS => ?_)
  refine lv_aload_n hx hb dX3_cash_37 rfl (lv_at hl 0 rfl) ?_
  refine gC_0_7 hx hb hts hiX3 hown hK hP hf26 dX3_cash_38 ?_
  refine gC_9_1 hx hb hts hiX1 hown hK hP hf170 dX3_cash_41 ?_
  refine lv_iload_n hx hb dX3_cash_44 rfl (lv_at hl 1 rfl) ?_
  refine lC_11 hx hb hK hP (by omega) dX3_cash_45 ?_
  exact W.iret (v := ya k) hx hb hr (fun t ht hW => ⟨⟨ya k, (), rfl, rfl, by (try dsimp only); rw [ht]; exact hP⟩, hS.F ht⟩) hS.2.2 dX3_cash_46
section
variable {p : Program} {e : Env} {R : Room} {s : State} {m : MethodId} {args : Array Value} {below : List Frame} {meth : Method} {c : Code} {H : Heap} {locs : List Loc} {cells slots : Nat} {Q : State → Prop} {cc : ByteArray} {pc : Nat} {ls : Array Slot} {rest : List Value} {own : String} {index nL : Nat} {Ts : List Cond} {H0 : Heap} {A0 : Nat → Prop}
theorem k_X3_cash_ok (l : Launch) {dC : Nat → ClassId} {dI : Nat → Nat → Nat} {cI cZ : ClassId} {ad : Nat → Nat} {sm fe ex dy : Int32} {gp gc op gr st dl wo : Nat → Int32} {n : Nat} {yc ya ys yd : Nat → Int32} {q : Nat} {zc zp zr zs zf : Nat → Int32} {z : Nat} {zm zt : Int64} {k : Nat} (hq : q ≤ 100) (hk : k < q) (h1 : ys k = 0) (hx : p.tables.exec = Jvm.exec) (hb : c.code = cc) (hml : c.maxLocals = nL) (hown : s.vm.findClass own = some m.cls) (hts : ∀ w ∈ Ts, w.before args s = true) (hK : va_K (dC, dI) vwCl [(cI, .int), (cZ, .boolean)] s) (hP : va_P (dC, dI) vwCl (wC cI cZ ad sm fe ex dy gp gc op gr st dl wo n yc ya ys yd q zc zp zr zs zf z zm zt) H) (hg9 : GoodIn Ts (wsV own index RX3 yX3_cash wsX3_cash)) (hR9 : 2 + 1 ≤ R.frames ∧ 8 + (2 + 11) + 42 ≤ R.locals) (hc9 : cells ≤ R.cells ∧ slots ≤ R.slots) (hl9 : ls.size = nL) (hw9 : (rest.map fun v => v.category).sum ≤ 8) (hdg : decode cc pc = .ok (.invokevirtual index, 3)) (hI : iwC ad) (hA : ∀ x, awC ad x → A0 x) (hS : va_S A0 H0 H locs) (kk : ∀ (H1 : Heap) (locs1 : List Loc), va_P (dC, dI) vwCl (wC cI cZ ad sm fe ex dy gp gc op gr st dl wo n yc ya (upd ys k (nI 1)) yd q zc zp zr zs zf z zm zt) H1 → va_S A0 H0 H1 locs1 → (∀ q : Nat, q < H.size → ¬ awC ad q → H1[q]? = H[q]?) → W p l e R s m args below meth c H1 locs1 cells slots Q (F0 m (pc + 3) ls (.int (ya k) :: rest))) : W p l e R s m args below meth c H locs cells slots Q (F0 m pc ls (.int (nI k) :: .ref (ad 0) :: rest)) := va_calli (va_runV (As := [.int (nI k)]) (rest := rest) ⟨hx, hb, hml, hown, hts⟩ (c_X3_cash_ok (dC := dC) (dI := dI) (cI := cI) (cZ := cZ) (ad := ad) (sm := sm) (fe := fe) (ex := ex) (dy := dy) (gp := gp) (gc := gc) (op := op) (gr := gr) (st := st) (dl := dl) (wo := wo) (n := n) (yc := yc) (ya := ya) (ys := ys) (yd := yd) (q := q) (zc := zc) (zp := zp) (zr := zr) (zs := zs) (zf := zf) (z := z) (zm := zm) (zt := zt) (k := k) l hI hq hk h1) (cwV 1 hts hg9 rfl rfl rfl (by decide +kernel) hR9) ⟨fun a U g mk q => ⟨q.1, q.2.1, va_K.moved (u := U) (U := U.calling g mk a) (Vm.Alike.refl U.vm) q.2.2⟩, rC_0 hK hP, fun U hU hW => ⟨rfl, by rw [hU]; exact hP, va_K.moved hW.alike hK⟩⟩ rfl rfl hl9 rfl (lv_room hw9) hdg hc9) hS (fun q _ h => hA q h) hA (fun r u t H1 locs1 ht _ hu hB hz hk hS1 => by subst hu; exact kk H1 locs1 (by rw [ht] at hB; exact hB) hS1 hk)
end
set_option maxHeartbeats 4000000 in
set_option maxRecDepth 100000 in
theorem c_X3_cash_ise (l : Launch) (hfl : l.stackTraces = false) {dC : Nat → ClassId} {dI : Nat → Nat → Nat} {cI cZ : ClassId} {ad : Nat → Nat} {sm fe ex dy : Int32} {gp gc op gr st dl wo : Nat → Int32} {n : Nat} {yc ya ys yd : Nat → Int32} {q : Nat} {zc zp zr zs zf : Nat → Int32} {z : Nat} {zm zt : Int64} {k : Nat} (hq : q ≤ 100) (hk : k < q) (h1 : ¬ ys k = 0) : vx_Met l yX3_cash wsX3_cash { frames := 6, cells := 1, slots := 6, locals := 90 } (va_Pc [.ref (ad 0), .int (nI k)] (fun U => va_P (dC, dI) vwCl (wC cI cZ ad sm fe ex dy gp gc op gr st dl wo n yc ya ys yd q zc zp zr zs zf z zm zt) U.heap ∧ va_K (dC, dI) vwCl [(cI, .int), (cZ, .boolean)] U ∧ tX (fun _ => False) U U.heap)) (fun _ _ _ _ => False) (xT "java/lang/IllegalStateException") 1 6 (fun _ => False) := by
  refine vx_ofW (cc := cX3_cash) (maxL := 2) (ret := (some .int)) (by decide) rfl ?_
  intro p e s m args below meth c s₁ B hml ht hv
  obtain ⟨rfl, hP, hK, hT⟩ := hv
  have hx := B.exec
  have hb := B.bytes
  have hr := B.returns
  have hts := atoms_spec (ws := wsX3_cash) B.pre
  have hown : s.vm.findClass RX3 = some m.cls := findClass_of_methodNamed B.named
  have hlocks := B.notSynchronized
  have hl := lv_entry ([.ref (ad 0), .int (nI k)]) (n := 2) (Nat.le_of_ble_eq_true rfl)
  rw [lg_entry_eq]
  generalize (lg_sl ([.ref (ad 0), .int (nI k)]) ++ List.replicate (2 - (lg_sl ([.ref (ad 0), .int (nI k)])).length) Slot.unset).toArray = ls at hl ⊢
  have hl : lv_has ls 2 [(0, .ref (ad 0)), (1, .int (nI k))] := hl
  have hiX3 : ∀ w ∈ wsX30, w ∈ wsX3_cash := by decide +kernel
  have hf26 := hts (.fieldLink RX3 26 "SettlementFund" "paymentBook" "LSettlementFund$PaymentBook;") (by decide +kernel)
  have hiX1 : ∀ w ∈ wsX10, w ∈ wsX3_cash := by decide +kernel
  have hf167 := hts (.fieldLink RX3 167 "SettlementFund$PaymentBook" "state" "[I") (by decide +kernel)
  refine lv_aload_n hx hb dX3_cash_0 rfl (lv_at hl 0 rfl) ?_
  refine lv_iload_n hx hb dX3_cash_1 rfl (lv_at hl 1 rfl) ?_
  refine k_X3_mustBePayment_ok l (k := k) (hq := hq) (hk := hk) hx hb hml hown hts hK hP gX3_cash_X3_mustBePayment ⟨Nat.le_of_ble_eq_true rfl, Nat.le_of_ble_eq_true rfl⟩ ⟨Nat.le_of_ble_eq_true rfl, Nat.le_of_ble_eq_true rfl⟩ hl.1 (Nat.le_of_ble_eq_true rfl) dX3_cash_2 ?_
  refine lv_aload_n hx hb dX3_cash_5 rfl (lv_at hl 0 rfl) ?_
  refine gC_0_7 hx hb hts hiX3 hown hK hP hf26 dX3_cash_6 ?_
  refine gC_9_2 hx hb hts hiX1 hown hK hP hf167 dX3_cash_9 ?_
  refine lv_iload_n hx hb dX3_cash_12 rfl (lv_at hl 1 rfl) ?_
  refine lC_12 hx hb hK hP (by omega) dX3_cash_13 ?_
  refine lv_if_eq (tgt := 27) hx hb dX3_cash_14 (by decide) (fun c_14 => (show False by exact h1 c_14).elim) (fun c_14 => ?_)
  exact zx_IllegalStateException (is := 168) (text := "the payment is not OPEN") hx hb hfl hown hts hT (by decide +kernel) (by decide +kernel) (by decide +kernel) (by decide +kernel) (hl.1.trans hml.symm) dX3_cash_17 dX3_cash_20 dX3_cash_21 dX3_cash_23 dX3_cash_26 ht hlocks (Nat.le_of_ble_eq_true rfl) (Nat.le_of_ble_eq_true rfl) (Nat.le_of_ble_eq_true rfl) (Nat.le_of_ble_eq_true rfl)
section
variable {p : Program} {e : Env} {R : Room} {s : State} {m : MethodId} {args : Array Value} {below : List Frame} {meth : Method} {c : Code} {H : Heap} {locs : List Loc} {cells slots : Nat} {Q : State → Prop} {cc : ByteArray} {pc : Nat} {ls : Array Slot} {rest : List Value} {own : String} {index nL : Nat} {Ts : List Cond} {H0 : Heap} {A0 : Nat → Prop}
theorem kr_X3_cash_ise (l : Launch) (hfl : l.stackTraces = false) {dC : Nat → ClassId} {dI : Nat → Nat → Nat} {cI cZ : ClassId} {ad : Nat → Nat} {sm fe ex dy : Int32} {gp gc op gr st dl wo : Nat → Int32} {n : Nat} {yc ya ys yd : Nat → Int32} {q : Nat} {zc zp zr zs zf : Nat → Int32} {z : Nat} {zm zt : Int64} {k : Nat} (hq : q ≤ 100) (hk : k < q) (h1 : ¬ ys k = 0) (hx : p.tables.exec = Jvm.exec) (hb : c.code = cc) (hml : c.maxLocals = nL) (hown : s.vm.findClass own = some m.cls) (hts : ∀ w ∈ Ts, w.before args s = true) (hK : va_K (dC, dI) vwCl [(cI, .int), (cZ, .boolean)] s) (hP : va_P (dC, dI) vwCl (wC cI cZ ad sm fe ex dy gp gc op gr st dl wo n yc ya ys yd q zc zp zr zs zf z zm zt) H) (hg9 : GoodIn Ts (wsV own index RX3 yX3_cash wsX3_cash)) (hR9 : 6 + 1 ≤ R.frames ∧ 8 + (2 + 11) + 90 ≤ R.locals) (hc9 : cells + 1 ≤ R.cells ∧ slots + 6 ≤ R.slots) (hl9 : ls.size = nL) (hw9 : (rest.map fun v => v.category).sum ≤ 8) (hdg : decode cc pc = .ok (.invokevirtual index, 3)) (hT : tX (fun _ => False) s H) : vx_Run p l e R s m args below meth c H locs cells slots 1 6 (F0 m pc ls (.int (nI k) :: .ref (ad 0) :: rest)) rest (fun _ _ _ => False) (xT "java/lang/IllegalStateException") (fun _ => False) := vx_runV (As := [.int (nI k)]) (rest := rest) ⟨hx, hb, hml, hown, hts⟩ (c_X3_cash_ise (dC := dC) (dI := dI) (cI := cI) (cZ := cZ) (ad := ad) (sm := sm) (fe := fe) (ex := ex) (dy := dy) (gp := gp) (gc := gc) (op := op) (gr := gr) (st := st) (dl := dl) (wo := wo) (n := n) (yc := yc) (ya := ya) (ys := ys) (yd := yd) (q := q) (zc := zc) (zp := zp) (zr := zr) (zs := zs) (zf := zf) (z := z) (zm := zm) (zt := zt) (k := k) l hfl hq hk h1) (cwV 1 hts hg9 rfl rfl rfl (by decide +kernel) hR9) ⟨fun a U g mk q => ⟨q.1, q.2.1, va_K.moved (u := U) (U := U.calling g mk a) (Vm.Alike.refl U.vm) q.2.2.1, tX.same (u := U) (U := U.calling g mk a) rfl q.2.2.2⟩, rC_0 hK hP, fun U hU hW => ⟨rfl, by rw [hU]; exact hP, va_K.moved hW.alike hK, by rw [hU]; exact tX.warm hW hT⟩⟩ rfl rfl hl9 rfl (lv_room hw9) hdg hc9
end
set_option maxHeartbeats 4000000 in
set_option maxRecDepth 100000 in
theorem c_X3_setFund_ok (l : Launch) {dC : Nat → ClassId} {dI : Nat → Nat → Nat} {cI cZ : ClassId} {ad : Nat → Nat} {sm fe ex dy : Int32} {gp gc op gr st dl wo : Nat → Int32} {n : Nat} {yc ya ys yd : Nat → Int32} {q : Nat} {zc zp zr zs zf : Nat → Int32} {z : Nat} {zm zt : Int64} {x1 : Int32} {x2 : Int32} {x3 : Int32} (hI : iwC ad) (h1 : outN x1 (nI 0) (nI 10000000) = 0) (h2 : outN x2 (nI 0) (nI 500) = 0) (h3 : outN x3 (nI 0) (nI 1000000) = 0) (h0 : q = 0) : Met l yX3_setFund wsX3_setFund { frames := 2, cells := 0, slots := 0, locals := 42 } (va_Pc [.ref (ad 0), .int x1, .int x2, .int x3] (fun U => va_P (dC, dI) vwCl (wC cI cZ ad sm fe ex dy gp gc op gr st dl wo n yc ya ys yd q zc zp zr zs zf z zm zt) U.heap ∧ va_K (dC, dI) vwCl [(cI, .int), (cZ, .boolean)] U)) (va_Qi (fun r (_ : Unit) => r = leftF x1 x2 x3 ya ys q) (fun _ t => va_P (dC, dI) vwCl (wC cI cZ ad x1 x2 x3 dy gp gc op gr st dl wo n yc ya ys yd q zc zp zr zs zf z zm zt) t.heap) (awC ad)) 0 0 (awC ad) := by
  refine Met.ofW (cc := cX3_setFund) (maxL := 4) (ret := (some .int)) (by decide) rfl ?_
  intro p e s m args below meth c s₁ B hml hv
  obtain ⟨rfl, hP, hK⟩ := hv
  have hx := B.exec
  have hb := B.bytes
  have hr := B.returns
  have hts := atoms_spec (ws := wsX3_setFund) B.pre
  have hown : s.vm.findClass RX3 = some m.cls := findClass_of_methodNamed B.named
  have hlocks := B.notSynchronized
  have hS : va_S (awC ad) s.heap s.heap [] := va_S.rf
  have hl := lv_entry ([.ref (ad 0), .int x1, .int x2, .int x3]) (n := 4) (Nat.le_of_ble_eq_true rfl)
  rw [lg_entry_eq]
  generalize (lg_sl ([.ref (ad 0), .int x1, .int x2, .int x3]) ++ List.replicate (4 - (lg_sl ([.ref (ad 0), .int x1, .int x2, .int x3])).length) Slot.unset).toArray = ls at hl ⊢
  have hl : lv_has ls 4 [(0, .ref (ad 0)), (1, .int x1), (2, .int x2), (3, .int x3)] := hl
  have hk38 := hts (.constant RX3 38 10000000) (by decide +kernel)
  have hk37 := hts (.constant RX3 37 1000000) (by decide +kernel)
  have hiX3 : ∀ w ∈ wsX30, w ∈ wsX3_setFund := by decide +kernel
  have hf53 := hts (.fieldLink RX3 53 "SettlementFund" "sum" "I") (by decide +kernel)
  have hf57 := hts (.fieldLink RX3 57 "SettlementFund" "feeInThousandths" "I") (by decide +kernel)
  have hf60 := hts (.fieldLink RX3 60 "SettlementFund" "expenses" "I") (by decide +kernel)
  refine lv_iload_n hx hb dX3_setFund_0 rfl (lv_at hl 1 rfl) ?_
  refine lv_iconst (v := nI 0) hx hb dX3_setFund_1 (by decide) ?_
  refine lv_ldc hx hb hown hk38 dX3_setFund_2 ?_
  refine zt_i (y := nI 10000000) rfl ?_
  refine k_X3_isOutside l (x := x1) (a := nI 0) (b := nI 10000000) hx hb hml hown hts  gX3_setFund_X3_isOutside ⟨Nat.le_of_ble_eq_true rfl, Nat.le_of_ble_eq_true rfl⟩ ⟨Nat.le_of_ble_eq_true rfl, Nat.le_of_ble_eq_true rfl⟩ hl.1 (Nat.le_of_ble_eq_true rfl) dX3_setFund_4 ?_
  refine zi_ne (tgt := 31) hx hb (outN_lt _ _ _) dX3_setFund_7 (by decide) (fun c_7 => (show False by exact c_7 h1).elim) (fun c_7 => ?_)
  refine lv_iload_n hx hb dX3_setFund_10 rfl (lv_at hl 2 rfl) ?_
  refine lv_iconst (v := nI 0) hx hb dX3_setFund_11 (by decide) ?_
  refine lv_sipush (v := nI 500) hx hb dX3_setFund_12 (by decide) ?_
  refine k_X3_isOutside l (x := x2) (a := nI 0) (b := nI 500) hx hb hml hown hts  gX3_setFund_X3_isOutside ⟨Nat.le_of_ble_eq_true rfl, Nat.le_of_ble_eq_true rfl⟩ ⟨Nat.le_of_ble_eq_true rfl, Nat.le_of_ble_eq_true rfl⟩ hl.1 (Nat.le_of_ble_eq_true rfl) dX3_setFund_15 ?_
  refine zi_ne (tgt := 31) hx hb (outN_lt _ _ _) dX3_setFund_18 (by decide) (fun c_18 => (show False by exact c_18 h2).elim) (fun c_18 => ?_)
  refine lv_iload_n hx hb dX3_setFund_21 rfl (lv_at hl 3 rfl) ?_
  refine lv_iconst (v := nI 0) hx hb dX3_setFund_22 (by decide) ?_
  refine lv_ldc hx hb hown hk37 dX3_setFund_23 ?_
  refine zt_i (y := nI 1000000) rfl ?_
  refine k_X3_isOutside l (x := x3) (a := nI 0) (b := nI 1000000) hx hb hml hown hts  gX3_setFund_X3_isOutside ⟨Nat.le_of_ble_eq_true rfl, Nat.le_of_ble_eq_true rfl⟩ ⟨Nat.le_of_ble_eq_true rfl, Nat.le_of_ble_eq_true rfl⟩ hl.1 (Nat.le_of_ble_eq_true rfl) dX3_setFund_25 ?_
  refine zi_eq (tgt := 41) hx hb (outN_lt _ _ _) dX3_setFund_28 (by decide) (fun c_28 => ?_) (fun c_28 => (show False by exact c_28 h3).elim)
  refine lv_aload_n hx hb dX3_setFund_41 rfl (lv_at hl 0 rfl) ?_
  refine k_X3_mustHaveNoPayments_ok l (h0 := h0) hx hb hml hown hts hK hP gX3_setFund_X3_mustHaveNoPayments ⟨Nat.le_of_ble_eq_true rfl, Nat.le_of_ble_eq_true rfl⟩ ⟨Nat.le_of_ble_eq_true rfl, Nat.le_of_ble_eq_true rfl⟩ hl.1 (Nat.le_of_ble_eq_true rfl) dX3_setFund_42 ?_
  refine lv_aload_n hx hb dX3_setFund_45 rfl (lv_at hl 0 rfl) ?_
  refine lv_iload_n hx hb dX3_setFund_46 rfl (lv_at hl 1 rfl) ?_
  refine uC_0_0 hx hb hts hiX3 hown hK hP hf53 hI (fun _ h => h) hS dX3_setFund_47 (fun H locs hP hS => ?_)
  refine lv_aload_n hx hb dX3_setFund_50 rfl (lv_at hl 0 rfl) ?_
  refine lv_iload_n hx hb dX3_setFund_51 rfl (lv_at hl 2 rfl) ?_
  refine uC_0_1 hx hb hts hiX3 hown hK hP hf57 hI (fun _ h => h) hS dX3_setFund_52 (fun H locs hP hS => ?_)
  refine lv_aload_n hx hb dX3_setFund_55 rfl (lv_at hl 0 rfl) ?_
  refine lv_iload_n hx hb dX3_setFund_56 rfl (lv_at hl 3 rfl) ?_
  refine uC_0_2 hx hb hts hiX3 hown hK hP hf60 hI (fun _ h => h) hS dX3_setFund_57 (fun H locs hP hS => ?_)
  refine lv_aload_n hx hb dX3_setFund_60 rfl (lv_at hl 0 rfl) ?_
  refine k_X3_moneyLeft l (hq := (by omega)) hx hb hml hown hts hK hP gX3_setFund_X3_moneyLeft ⟨Nat.le_of_ble_eq_true rfl, Nat.le_of_ble_eq_true rfl⟩ ⟨Nat.le_of_ble_eq_true rfl, Nat.le_of_ble_eq_true rfl⟩ hl.1 (Nat.le_of_ble_eq_true rfl) dX3_setFund_61 ?_
  exact W.iret (v := leftF x1 x2 x3 ya ys q) hx hb hr (fun t ht hW => ⟨⟨leftF x1 x2 x3 ya ys q, (), rfl, rfl, by (try dsimp only); rw [ht]; exact hP⟩, hS.F ht⟩) hS.2.2 dX3_setFund_64
section
variable {p : Program} {e : Env} {R : Room} {s : State} {m : MethodId} {args : Array Value} {below : List Frame} {meth : Method} {c : Code} {H : Heap} {locs : List Loc} {cells slots : Nat} {Q : State → Prop} {cc : ByteArray} {pc : Nat} {ls : Array Slot} {rest : List Value} {own : String} {index nL : Nat} {Ts : List Cond} {H0 : Heap} {A0 : Nat → Prop}
theorem k_X3_setFund_ok (l : Launch) {dC : Nat → ClassId} {dI : Nat → Nat → Nat} {cI cZ : ClassId} {ad : Nat → Nat} {sm fe ex dy : Int32} {gp gc op gr st dl wo : Nat → Int32} {n : Nat} {yc ya ys yd : Nat → Int32} {q : Nat} {zc zp zr zs zf : Nat → Int32} {z : Nat} {zm zt : Int64} {x1 : Int32} {x2 : Int32} {x3 : Int32} (h1 : outN x1 (nI 0) (nI 10000000) = 0) (h2 : outN x2 (nI 0) (nI 500) = 0) (h3 : outN x3 (nI 0) (nI 1000000) = 0) (h0 : q = 0) (hx : p.tables.exec = Jvm.exec) (hb : c.code = cc) (hml : c.maxLocals = nL) (hown : s.vm.findClass own = some m.cls) (hts : ∀ w ∈ Ts, w.before args s = true) (hK : va_K (dC, dI) vwCl [(cI, .int), (cZ, .boolean)] s) (hP : va_P (dC, dI) vwCl (wC cI cZ ad sm fe ex dy gp gc op gr st dl wo n yc ya ys yd q zc zp zr zs zf z zm zt) H) (hg9 : GoodIn Ts (wsV own index RX3 yX3_setFund wsX3_setFund)) (hR9 : 2 + 1 ≤ R.frames ∧ 8 + (4 + 11) + 42 ≤ R.locals) (hc9 : cells ≤ R.cells ∧ slots ≤ R.slots) (hl9 : ls.size = nL) (hw9 : (rest.map fun v => v.category).sum ≤ 8) (hdg : decode cc pc = .ok (.invokevirtual index, 3)) (hI : iwC ad) (hA : ∀ x, awC ad x → A0 x) (hS : va_S A0 H0 H locs) (kk : ∀ (H1 : Heap) (locs1 : List Loc), va_P (dC, dI) vwCl (wC cI cZ ad x1 x2 x3 dy gp gc op gr st dl wo n yc ya ys yd q zc zp zr zs zf z zm zt) H1 → va_S A0 H0 H1 locs1 → (∀ q : Nat, q < H.size → ¬ awC ad q → H1[q]? = H[q]?) → W p l e R s m args below meth c H1 locs1 cells slots Q (F0 m (pc + 3) ls (.int (leftF x1 x2 x3 ya ys q) :: rest))) : W p l e R s m args below meth c H locs cells slots Q (F0 m pc ls (.int x3 :: .int x2 :: .int x1 :: .ref (ad 0) :: rest)) := va_calli (va_runV (As := [.int x1, .int x2, .int x3]) (rest := rest) ⟨hx, hb, hml, hown, hts⟩ (c_X3_setFund_ok (dC := dC) (dI := dI) (cI := cI) (cZ := cZ) (ad := ad) (sm := sm) (fe := fe) (ex := ex) (dy := dy) (gp := gp) (gc := gc) (op := op) (gr := gr) (st := st) (dl := dl) (wo := wo) (n := n) (yc := yc) (ya := ya) (ys := ys) (yd := yd) (q := q) (zc := zc) (zp := zp) (zr := zr) (zs := zs) (zf := zf) (z := z) (zm := zm) (zt := zt) (x1 := x1) (x2 := x2) (x3 := x3) l hI h1 h2 h3 h0) (cwV 3 hts hg9 rfl rfl rfl (by decide +kernel) hR9) ⟨fun a U g mk q => ⟨q.1, q.2.1, va_K.moved (u := U) (U := U.calling g mk a) (Vm.Alike.refl U.vm) q.2.2⟩, rC_0 hK hP, fun U hU hW => ⟨rfl, by rw [hU]; exact hP, va_K.moved hW.alike hK⟩⟩ rfl rfl hl9 rfl (lv_room hw9) hdg hc9) hS (fun q _ h => hA q h) hA (fun r u t H1 locs1 ht _ hu hB hz hk hS1 => by subst hu; exact kk H1 locs1 (by rw [ht] at hB; exact hB) hS1 hk)
end
set_option maxHeartbeats 4000000 in
set_option maxRecDepth 100000 in
theorem c_X3_setFund_iae (l : Launch) (hfl : l.stackTraces = false) {dC : Nat → ClassId} {dI : Nat → Nat → Nat} {cI cZ : ClassId} {ad : Nat → Nat} {sm fe ex dy : Int32} {gp gc op gr st dl wo : Nat → Int32} {n : Nat} {yc ya ys yd : Nat → Int32} {q : Nat} {zc zp zr zs zf : Nat → Int32} {z : Nat} {zm zt : Int64} {x1 : Int32} {x2 : Int32} {x3 : Int32} (h1 : ¬ (outN x1 (nI 0) (nI 10000000) = 0 ∧ outN x2 (nI 0) (nI 500) = 0 ∧ outN x3 (nI 0) (nI 1000000) = 0)) : vx_Met l yX3_setFund wsX3_setFund { frames := 6, cells := 1, slots := 6, locals := 90 } (va_Pc [.ref (ad 0), .int x1, .int x2, .int x3] (fun U => va_P (dC, dI) vwCl (wC cI cZ ad sm fe ex dy gp gc op gr st dl wo n yc ya ys yd q zc zp zr zs zf z zm zt) U.heap ∧ va_K (dC, dI) vwCl [(cI, .int), (cZ, .boolean)] U ∧ tX (fun _ => False) U U.heap)) (fun _ _ _ _ => False) (xT "java/lang/IllegalArgumentException") 1 6 (fun _ => False) := by
  refine vx_ofW (cc := cX3_setFund) (maxL := 4) (ret := (some .int)) (by decide) rfl ?_
  intro p e s m args below meth c s₁ B hml ht hv
  obtain ⟨rfl, hP, hK, hT⟩ := hv
  have hx := B.exec
  have hb := B.bytes
  have hr := B.returns
  have hts := atoms_spec (ws := wsX3_setFund) B.pre
  have hown : s.vm.findClass RX3 = some m.cls := findClass_of_methodNamed B.named
  have hlocks := B.notSynchronized
  have hl := lv_entry ([.ref (ad 0), .int x1, .int x2, .int x3]) (n := 4) (Nat.le_of_ble_eq_true rfl)
  rw [lg_entry_eq]
  generalize (lg_sl ([.ref (ad 0), .int x1, .int x2, .int x3]) ++ List.replicate (4 - (lg_sl ([.ref (ad 0), .int x1, .int x2, .int x3])).length) Slot.unset).toArray = ls at hl ⊢
  have hl : lv_has ls 4 [(0, .ref (ad 0)), (1, .int x1), (2, .int x2), (3, .int x3)] := hl
  have hk38 := hts (.constant RX3 38 10000000) (by decide +kernel)
  have hk37 := hts (.constant RX3 37 1000000) (by decide +kernel)
  refine lv_iload_n hx hb dX3_setFund_0 rfl (lv_at hl 1 rfl) ?_
  refine lv_iconst (v := nI 0) hx hb dX3_setFund_1 (by decide) ?_
  refine lv_ldc hx hb hown hk38 dX3_setFund_2 ?_
  refine zt_i (y := nI 10000000) rfl ?_
  refine k_X3_isOutside l (x := x1) (a := nI 0) (b := nI 10000000) hx hb hml hown hts  gX3_setFund_X3_isOutside ⟨Nat.le_of_ble_eq_true rfl, Nat.le_of_ble_eq_true rfl⟩ ⟨Nat.le_of_ble_eq_true rfl, Nat.le_of_ble_eq_true rfl⟩ hl.1 (Nat.le_of_ble_eq_true rfl) dX3_setFund_4 ?_
  refine zi_ne (tgt := 31) hx hb (outN_lt _ _ _) dX3_setFund_7 (by decide) (fun c_7 => ?_) (fun c_7 => ?_)
  · exact zx_IllegalArgumentException (is := 45) (text := "sum, fee or expenses is out of range") hx hb hfl hown hts hT (by decide +kernel) (by decide +kernel) (by decide +kernel) (by decide +kernel) (hl.1.trans hml.symm) dX3_setFund_31 dX3_setFund_34 dX3_setFund_35 dX3_setFund_37 dX3_setFund_40 ht hlocks (Nat.le_of_ble_eq_true rfl) (Nat.le_of_ble_eq_true rfl) (Nat.le_of_ble_eq_true rfl) (Nat.le_of_ble_eq_true rfl)
  · refine lv_iload_n hx hb dX3_setFund_10 rfl (lv_at hl 2 rfl) ?_
    refine lv_iconst (v := nI 0) hx hb dX3_setFund_11 (by decide) ?_
    refine lv_sipush (v := nI 500) hx hb dX3_setFund_12 (by decide) ?_
    refine k_X3_isOutside l (x := x2) (a := nI 0) (b := nI 500) hx hb hml hown hts  gX3_setFund_X3_isOutside ⟨Nat.le_of_ble_eq_true rfl, Nat.le_of_ble_eq_true rfl⟩ ⟨Nat.le_of_ble_eq_true rfl, Nat.le_of_ble_eq_true rfl⟩ hl.1 (Nat.le_of_ble_eq_true rfl) dX3_setFund_15 ?_
    refine zi_ne (tgt := 31) hx hb (outN_lt _ _ _) dX3_setFund_18 (by decide) (fun c_18 => ?_) (fun c_18 => ?_)
    · exact zx_IllegalArgumentException (is := 45) (text := "sum, fee or expenses is out of range") hx hb hfl hown hts hT (by decide +kernel) (by decide +kernel) (by decide +kernel) (by decide +kernel) (hl.1.trans hml.symm) dX3_setFund_31 dX3_setFund_34 dX3_setFund_35 dX3_setFund_37 dX3_setFund_40 ht hlocks (Nat.le_of_ble_eq_true rfl) (Nat.le_of_ble_eq_true rfl) (Nat.le_of_ble_eq_true rfl) (Nat.le_of_ble_eq_true rfl)
    · refine lv_iload_n hx hb dX3_setFund_21 rfl (lv_at hl 3 rfl) ?_
      refine lv_iconst (v := nI 0) hx hb dX3_setFund_22 (by decide) ?_
      refine lv_ldc hx hb hown hk37 dX3_setFund_23 ?_
      refine zt_i (y := nI 1000000) rfl ?_
      refine k_X3_isOutside l (x := x3) (a := nI 0) (b := nI 1000000) hx hb hml hown hts  gX3_setFund_X3_isOutside ⟨Nat.le_of_ble_eq_true rfl, Nat.le_of_ble_eq_true rfl⟩ ⟨Nat.le_of_ble_eq_true rfl, Nat.le_of_ble_eq_true rfl⟩ hl.1 (Nat.le_of_ble_eq_true rfl) dX3_setFund_25 ?_
      refine zi_eq (tgt := 41) hx hb (outN_lt _ _ _) dX3_setFund_28 (by decide) (fun c_28 => (show False by exact h1 ⟨c_7, c_18, c_28⟩).elim) (fun c_28 => ?_)
      exact zx_IllegalArgumentException (is := 45) (text := "sum, fee or expenses is out of range") hx hb hfl hown hts hT (by decide +kernel) (by decide +kernel) (by decide +kernel) (by decide +kernel) (hl.1.trans hml.symm) dX3_setFund_31 dX3_setFund_34 dX3_setFund_35 dX3_setFund_37 dX3_setFund_40 ht hlocks (Nat.le_of_ble_eq_true rfl) (Nat.le_of_ble_eq_true rfl) (Nat.le_of_ble_eq_true rfl) (Nat.le_of_ble_eq_true rfl)
section
variable {p : Program} {e : Env} {R : Room} {s : State} {m : MethodId} {args : Array Value} {below : List Frame} {meth : Method} {c : Code} {H : Heap} {locs : List Loc} {cells slots : Nat} {Q : State → Prop} {cc : ByteArray} {pc : Nat} {ls : Array Slot} {rest : List Value} {own : String} {index nL : Nat} {Ts : List Cond} {H0 : Heap} {A0 : Nat → Prop}
theorem kr_X3_setFund_iae (l : Launch) (hfl : l.stackTraces = false) {dC : Nat → ClassId} {dI : Nat → Nat → Nat} {cI cZ : ClassId} {ad : Nat → Nat} {sm fe ex dy : Int32} {gp gc op gr st dl wo : Nat → Int32} {n : Nat} {yc ya ys yd : Nat → Int32} {q : Nat} {zc zp zr zs zf : Nat → Int32} {z : Nat} {zm zt : Int64} {x1 : Int32} {x2 : Int32} {x3 : Int32} (h1 : ¬ (outN x1 (nI 0) (nI 10000000) = 0 ∧ outN x2 (nI 0) (nI 500) = 0 ∧ outN x3 (nI 0) (nI 1000000) = 0)) (hx : p.tables.exec = Jvm.exec) (hb : c.code = cc) (hml : c.maxLocals = nL) (hown : s.vm.findClass own = some m.cls) (hts : ∀ w ∈ Ts, w.before args s = true) (hK : va_K (dC, dI) vwCl [(cI, .int), (cZ, .boolean)] s) (hP : va_P (dC, dI) vwCl (wC cI cZ ad sm fe ex dy gp gc op gr st dl wo n yc ya ys yd q zc zp zr zs zf z zm zt) H) (hg9 : GoodIn Ts (wsV own index RX3 yX3_setFund wsX3_setFund)) (hR9 : 6 + 1 ≤ R.frames ∧ 8 + (4 + 11) + 90 ≤ R.locals) (hc9 : cells + 1 ≤ R.cells ∧ slots + 6 ≤ R.slots) (hl9 : ls.size = nL) (hw9 : (rest.map fun v => v.category).sum ≤ 8) (hdg : decode cc pc = .ok (.invokevirtual index, 3)) (hT : tX (fun _ => False) s H) : vx_Run p l e R s m args below meth c H locs cells slots 1 6 (F0 m pc ls (.int x3 :: .int x2 :: .int x1 :: .ref (ad 0) :: rest)) rest (fun _ _ _ => False) (xT "java/lang/IllegalArgumentException") (fun _ => False) := vx_runV (As := [.int x1, .int x2, .int x3]) (rest := rest) ⟨hx, hb, hml, hown, hts⟩ (c_X3_setFund_iae (dC := dC) (dI := dI) (cI := cI) (cZ := cZ) (ad := ad) (sm := sm) (fe := fe) (ex := ex) (dy := dy) (gp := gp) (gc := gc) (op := op) (gr := gr) (st := st) (dl := dl) (wo := wo) (n := n) (yc := yc) (ya := ya) (ys := ys) (yd := yd) (q := q) (zc := zc) (zp := zp) (zr := zr) (zs := zs) (zf := zf) (z := z) (zm := zm) (zt := zt) (x1 := x1) (x2 := x2) (x3 := x3) l hfl h1) (cwV 3 hts hg9 rfl rfl rfl (by decide +kernel) hR9) ⟨fun a U g mk q => ⟨q.1, q.2.1, va_K.moved (u := U) (U := U.calling g mk a) (Vm.Alike.refl U.vm) q.2.2.1, tX.same (u := U) (U := U.calling g mk a) rfl q.2.2.2⟩, rC_0 hK hP, fun U hU hW => ⟨rfl, by rw [hU]; exact hP, va_K.moved hW.alike hK, by rw [hU]; exact tX.warm hW hT⟩⟩ rfl rfl hl9 rfl (lv_room hw9) hdg hc9
end
set_option maxHeartbeats 4000000 in
set_option maxRecDepth 100000 in
theorem c_X3_setFund_ise (l : Launch) (hfl : l.stackTraces = false) {dC : Nat → ClassId} {dI : Nat → Nat → Nat} {cI cZ : ClassId} {ad : Nat → Nat} {sm fe ex dy : Int32} {gp gc op gr st dl wo : Nat → Int32} {n : Nat} {yc ya ys yd : Nat → Int32} {q : Nat} {zc zp zr zs zf : Nat → Int32} {z : Nat} {zm zt : Int64} {x1 : Int32} {x2 : Int32} {x3 : Int32} (h1 : outN x1 (nI 0) (nI 10000000) = 0) (h2 : outN x2 (nI 0) (nI 500) = 0) (h3 : outN x3 (nI 0) (nI 1000000) = 0) (hq : q ≤ 100) (h0 : ¬ q = 0) : vx_Met l yX3_setFund wsX3_setFund { frames := 7, cells := 1, slots := 6, locals := 110 } (va_Pc [.ref (ad 0), .int x1, .int x2, .int x3] (fun U => va_P (dC, dI) vwCl (wC cI cZ ad sm fe ex dy gp gc op gr st dl wo n yc ya ys yd q zc zp zr zs zf z zm zt) U.heap ∧ va_K (dC, dI) vwCl [(cI, .int), (cZ, .boolean)] U ∧ tX (fun _ => False) U U.heap)) (fun _ _ _ _ => False) (xT "java/lang/IllegalStateException") 1 6 (fun _ => False) := by
  refine vx_ofW (cc := cX3_setFund) (maxL := 4) (ret := (some .int)) (by decide) rfl ?_
  intro p e s m args below meth c s₁ B hml ht hv
  obtain ⟨rfl, hP, hK, hT⟩ := hv
  have hx := B.exec
  have hb := B.bytes
  have hr := B.returns
  have hts := atoms_spec (ws := wsX3_setFund) B.pre
  have hown : s.vm.findClass RX3 = some m.cls := findClass_of_methodNamed B.named
  have hlocks := B.notSynchronized
  have hl := lv_entry ([.ref (ad 0), .int x1, .int x2, .int x3]) (n := 4) (Nat.le_of_ble_eq_true rfl)
  rw [lg_entry_eq]
  generalize (lg_sl ([.ref (ad 0), .int x1, .int x2, .int x3]) ++ List.replicate (4 - (lg_sl ([.ref (ad 0), .int x1, .int x2, .int x3])).length) Slot.unset).toArray = ls at hl ⊢
  have hl : lv_has ls 4 [(0, .ref (ad 0)), (1, .int x1), (2, .int x2), (3, .int x3)] := hl
  have hk38 := hts (.constant RX3 38 10000000) (by decide +kernel)
  have hk37 := hts (.constant RX3 37 1000000) (by decide +kernel)
  refine lv_iload_n hx hb dX3_setFund_0 rfl (lv_at hl 1 rfl) ?_
  refine lv_iconst (v := nI 0) hx hb dX3_setFund_1 (by decide) ?_
  refine lv_ldc hx hb hown hk38 dX3_setFund_2 ?_
  refine zt_i (y := nI 10000000) rfl ?_
  refine k_X3_isOutside l (x := x1) (a := nI 0) (b := nI 10000000) hx hb hml hown hts  gX3_setFund_X3_isOutside ⟨Nat.le_of_ble_eq_true rfl, Nat.le_of_ble_eq_true rfl⟩ ⟨Nat.le_of_ble_eq_true rfl, Nat.le_of_ble_eq_true rfl⟩ hl.1 (Nat.le_of_ble_eq_true rfl) dX3_setFund_4 ?_
  refine zi_ne (tgt := 31) hx hb (outN_lt _ _ _) dX3_setFund_7 (by decide) (fun c_7 => (show False by exact c_7 h1).elim) (fun c_7 => ?_)
  refine lv_iload_n hx hb dX3_setFund_10 rfl (lv_at hl 2 rfl) ?_
  refine lv_iconst (v := nI 0) hx hb dX3_setFund_11 (by decide) ?_
  refine lv_sipush (v := nI 500) hx hb dX3_setFund_12 (by decide) ?_
  refine k_X3_isOutside l (x := x2) (a := nI 0) (b := nI 500) hx hb hml hown hts  gX3_setFund_X3_isOutside ⟨Nat.le_of_ble_eq_true rfl, Nat.le_of_ble_eq_true rfl⟩ ⟨Nat.le_of_ble_eq_true rfl, Nat.le_of_ble_eq_true rfl⟩ hl.1 (Nat.le_of_ble_eq_true rfl) dX3_setFund_15 ?_
  refine zi_ne (tgt := 31) hx hb (outN_lt _ _ _) dX3_setFund_18 (by decide) (fun c_18 => (show False by exact c_18 h2).elim) (fun c_18 => ?_)
  refine lv_iload_n hx hb dX3_setFund_21 rfl (lv_at hl 3 rfl) ?_
  refine lv_iconst (v := nI 0) hx hb dX3_setFund_22 (by decide) ?_
  refine lv_ldc hx hb hown hk37 dX3_setFund_23 ?_
  refine zt_i (y := nI 1000000) rfl ?_
  refine k_X3_isOutside l (x := x3) (a := nI 0) (b := nI 1000000) hx hb hml hown hts  gX3_setFund_X3_isOutside ⟨Nat.le_of_ble_eq_true rfl, Nat.le_of_ble_eq_true rfl⟩ ⟨Nat.le_of_ble_eq_true rfl, Nat.le_of_ble_eq_true rfl⟩ hl.1 (Nat.le_of_ble_eq_true rfl) dX3_setFund_25 ?_
  refine zi_eq (tgt := 41) hx hb (outN_lt _ _ _) dX3_setFund_28 (by decide) (fun c_28 => ?_) (fun c_28 => (show False by exact c_28 h3).elim)
  refine lv_aload_n hx hb dX3_setFund_41 rfl (lv_at hl 0 rfl) ?_
  exact zx_on (kr_X3_mustHaveNoPayments_no l hfl (hq := hq) (h0 := h0) hx hb hml hown hts hK hP gX3_setFund_X3_mustHaveNoPayments ⟨Nat.le_of_ble_eq_true rfl, Nat.le_of_ble_eq_true rfl⟩ ⟨Nat.le_of_ble_eq_true rfl, Nat.le_of_ble_eq_true rfl⟩ hl.1 (Nat.le_of_ble_eq_true rfl) dX3_setFund_42 hT) ht hlocks
section
variable {p : Program} {e : Env} {R : Room} {s : State} {m : MethodId} {args : Array Value} {below : List Frame} {meth : Method} {c : Code} {H : Heap} {locs : List Loc} {cells slots : Nat} {Q : State → Prop} {cc : ByteArray} {pc : Nat} {ls : Array Slot} {rest : List Value} {own : String} {index nL : Nat} {Ts : List Cond} {H0 : Heap} {A0 : Nat → Prop}
theorem kr_X3_setFund_ise (l : Launch) (hfl : l.stackTraces = false) {dC : Nat → ClassId} {dI : Nat → Nat → Nat} {cI cZ : ClassId} {ad : Nat → Nat} {sm fe ex dy : Int32} {gp gc op gr st dl wo : Nat → Int32} {n : Nat} {yc ya ys yd : Nat → Int32} {q : Nat} {zc zp zr zs zf : Nat → Int32} {z : Nat} {zm zt : Int64} {x1 : Int32} {x2 : Int32} {x3 : Int32} (h1 : outN x1 (nI 0) (nI 10000000) = 0) (h2 : outN x2 (nI 0) (nI 500) = 0) (h3 : outN x3 (nI 0) (nI 1000000) = 0) (hq : q ≤ 100) (h0 : ¬ q = 0) (hx : p.tables.exec = Jvm.exec) (hb : c.code = cc) (hml : c.maxLocals = nL) (hown : s.vm.findClass own = some m.cls) (hts : ∀ w ∈ Ts, w.before args s = true) (hK : va_K (dC, dI) vwCl [(cI, .int), (cZ, .boolean)] s) (hP : va_P (dC, dI) vwCl (wC cI cZ ad sm fe ex dy gp gc op gr st dl wo n yc ya ys yd q zc zp zr zs zf z zm zt) H) (hg9 : GoodIn Ts (wsV own index RX3 yX3_setFund wsX3_setFund)) (hR9 : 7 + 1 ≤ R.frames ∧ 8 + (4 + 11) + 110 ≤ R.locals) (hc9 : cells + 1 ≤ R.cells ∧ slots + 6 ≤ R.slots) (hl9 : ls.size = nL) (hw9 : (rest.map fun v => v.category).sum ≤ 8) (hdg : decode cc pc = .ok (.invokevirtual index, 3)) (hT : tX (fun _ => False) s H) : vx_Run p l e R s m args below meth c H locs cells slots 1 6 (F0 m pc ls (.int x3 :: .int x2 :: .int x1 :: .ref (ad 0) :: rest)) rest (fun _ _ _ => False) (xT "java/lang/IllegalStateException") (fun _ => False) := vx_runV (As := [.int x1, .int x2, .int x3]) (rest := rest) ⟨hx, hb, hml, hown, hts⟩ (c_X3_setFund_ise (dC := dC) (dI := dI) (cI := cI) (cZ := cZ) (ad := ad) (sm := sm) (fe := fe) (ex := ex) (dy := dy) (gp := gp) (gc := gc) (op := op) (gr := gr) (st := st) (dl := dl) (wo := wo) (n := n) (yc := yc) (ya := ya) (ys := ys) (yd := yd) (q := q) (zc := zc) (zp := zp) (zr := zr) (zs := zs) (zf := zf) (z := z) (zm := zm) (zt := zt) (x1 := x1) (x2 := x2) (x3 := x3) l hfl h1 h2 h3 hq h0) (cwV 3 hts hg9 rfl rfl rfl (by decide +kernel) hR9) ⟨fun a U g mk q => ⟨q.1, q.2.1, va_K.moved (u := U) (U := U.calling g mk a) (Vm.Alike.refl U.vm) q.2.2.1, tX.same (u := U) (U := U.calling g mk a) rfl q.2.2.2⟩, rC_0 hK hP, fun U hU hW => ⟨rfl, by rw [hU]; exact hP, va_K.moved hW.alike hK, by rw [hU]; exact tX.warm hW hT⟩⟩ rfl rfl hl9 rfl (lv_room hw9) hdg hc9
end
set_option maxHeartbeats 4000000 in
set_option maxRecDepth 100000 in
theorem c_X3_setGrade_ok (l : Launch) {dC : Nat → ClassId} {dI : Nat → Nat → Nat} {cI cZ : ClassId} {ad : Nat → Nat} {sm fe ex dy : Int32} {gp gc op gr st dl wo : Nat → Int32} {n : Nat} {yc ya ys yd : Nat → Int32} {q : Nat} {zc zp zr zs zf : Nat → Int32} {z : Nat} {zm zt : Int64} {k : Nat} {x2 : Int32} {x3 : Int32} (hI : iwC ad) (hk : k < 5) (h1 : outN (nI k) (nI 0) (nI 4) = 0) (h2 : outN x2 (nI 1) (nI 100) = 0) (h3 : outN x3 (nI 1) (nI 1000000) = 0) (h0 : q = 0) : Met l yX3_setGrade wsX3_setGrade { frames := 1, cells := 0, slots := 0, locals := 22 } (va_Pc [.ref (ad 0), .int (nI k), .int x2, .int x3] (fun U => va_P (dC, dI) vwCl (wC cI cZ ad sm fe ex dy gp gc op gr st dl wo n yc ya ys yd q zc zp zr zs zf z zm zt) U.heap ∧ va_K (dC, dI) vwCl [(cI, .int), (cZ, .boolean)] U)) (va_Qv (fun _ : Unit => True) (fun _ t => va_P (dC, dI) vwCl (wC cI cZ ad sm fe ex dy (upd gp k x2) (upd gc k x3) op gr st dl wo n yc ya ys yd q zc zp zr zs zf z zm zt) t.heap) (awC ad)) 0 0 (awC ad) := by
  refine Met.ofW (cc := cX3_setGrade) (maxL := 4) (ret := none) (by decide) rfl ?_
  intro p e s m args below meth c s₁ B hml hv
  obtain ⟨rfl, hP, hK⟩ := hv
  have hx := B.exec
  have hb := B.bytes
  have hr := B.returns
  have hts := atoms_spec (ws := wsX3_setGrade) B.pre
  have hown : s.vm.findClass RX3 = some m.cls := findClass_of_methodNamed B.named
  have hlocks := B.notSynchronized
  have hS : va_S (awC ad) s.heap s.heap [] := va_S.rf
  have hl := lv_entry ([.ref (ad 0), .int (nI k), .int x2, .int x3]) (n := 4) (Nat.le_of_ble_eq_true rfl)
  rw [lg_entry_eq]
  generalize (lg_sl ([.ref (ad 0), .int (nI k), .int x2, .int x3]) ++ List.replicate (4 - (lg_sl ([.ref (ad 0), .int (nI k), .int x2, .int x3])).length) Slot.unset).toArray = ls at hl ⊢
  have hl : lv_has ls 4 [(0, .ref (ad 0)), (1, .int (nI k)), (2, .int x2), (3, .int x3)] := hl
  have hk37 := hts (.constant RX3 37 1000000) (by decide +kernel)
  have hiX3 : ∀ w ∈ wsX30, w ∈ wsX3_setGrade := by decide +kernel
  have hf9 := hts (.fieldLink RX3 9 "SettlementFund" "gradePoints" "[I") (by decide +kernel)
  have hf13 := hts (.fieldLink RX3 13 "SettlementFund" "gradeCap" "[I") (by decide +kernel)
  refine lv_iload_n hx hb dX3_setGrade_0 rfl (lv_at hl 1 rfl) ?_
  refine lv_iconst (v := nI 0) hx hb dX3_setGrade_1 (by decide) ?_
  refine lv_iconst (v := nI 4) hx hb dX3_setGrade_2 (by decide) ?_
  refine k_X3_isOutside l (x := nI k) (a := nI 0) (b := nI 4) hx hb hml hown hts  gX3_setGrade_X3_isOutside ⟨Nat.le_of_ble_eq_true rfl, Nat.le_of_ble_eq_true rfl⟩ ⟨Nat.le_of_ble_eq_true rfl, Nat.le_of_ble_eq_true rfl⟩ hl.1 (Nat.le_of_ble_eq_true rfl) dX3_setGrade_3 ?_
  refine zi_eq (tgt := 19) hx hb (outN_lt _ _ _) dX3_setGrade_6 (by decide) (fun c_6 => ?_) (fun c_6 => (show False by exact c_6 h1).elim)
  refine lv_iload_n hx hb dX3_setGrade_19 rfl (lv_at hl 2 rfl) ?_
  refine lv_iconst (v := nI 1) hx hb dX3_setGrade_20 (by decide) ?_
  refine lv_bipush (v := nI 100) hx hb dX3_setGrade_21 (by decide) ?_
  refine k_X3_isOutside l (x := x2) (a := nI 1) (b := nI 100) hx hb hml hown hts  gX3_setGrade_X3_isOutside ⟨Nat.le_of_ble_eq_true rfl, Nat.le_of_ble_eq_true rfl⟩ ⟨Nat.le_of_ble_eq_true rfl, Nat.le_of_ble_eq_true rfl⟩ hl.1 (Nat.le_of_ble_eq_true rfl) dX3_setGrade_23 ?_
  refine zi_ne (tgt := 39) hx hb (outN_lt _ _ _) dX3_setGrade_26 (by decide) (fun c_26 => (show False by exact c_26 h2).elim) (fun c_26 => ?_)
  refine lv_iload_n hx hb dX3_setGrade_29 rfl (lv_at hl 3 rfl) ?_
  refine lv_iconst (v := nI 1) hx hb dX3_setGrade_30 (by decide) ?_
  refine lv_ldc hx hb hown hk37 dX3_setGrade_31 ?_
  refine zt_i (y := nI 1000000) rfl ?_
  refine k_X3_isOutside l (x := x3) (a := nI 1) (b := nI 1000000) hx hb hml hown hts  gX3_setGrade_X3_isOutside ⟨Nat.le_of_ble_eq_true rfl, Nat.le_of_ble_eq_true rfl⟩ ⟨Nat.le_of_ble_eq_true rfl, Nat.le_of_ble_eq_true rfl⟩ hl.1 (Nat.le_of_ble_eq_true rfl) dX3_setGrade_33 ?_
  refine zi_eq (tgt := 49) hx hb (outN_lt _ _ _) dX3_setGrade_36 (by decide) (fun c_36 => ?_) (fun c_36 => (show False by exact c_36 h3).elim)
  refine lv_aload_n hx hb dX3_setGrade_49 rfl (lv_at hl 0 rfl) ?_
  refine k_X3_mustHaveNoPayments_ok l (h0 := h0) hx hb hml hown hts hK hP gX3_setGrade_X3_mustHaveNoPayments ⟨Nat.le_of_ble_eq_true rfl, Nat.le_of_ble_eq_true rfl⟩ ⟨Nat.le_of_ble_eq_true rfl, Nat.le_of_ble_eq_true rfl⟩ hl.1 (Nat.le_of_ble_eq_true rfl) dX3_setGrade_50 ?_
  refine lv_aload_n hx hb dX3_setGrade_53 rfl (lv_at hl 0 rfl) ?_
  refine gC_0_4 hx hb hts hiX3 hown hK hP hf9 dX3_setGrade_54 ?_
  refine lv_iload_n hx hb dX3_setGrade_57 rfl (lv_at hl 1 rfl) ?_
  refine lv_iload_n hx hb dX3_setGrade_58 rfl (lv_at hl 2 rfl) ?_
  refine sC_1 hx hb hK hP hI (fun _ h => h) hS (by omega) dX3_setGrade_59 (fun H locs hP hS => ?_)
  refine lv_aload_n hx hb dX3_setGrade_60 rfl (lv_at hl 0 rfl) ?_
  refine gC_0_5 hx hb hts hiX3 hown hK hP hf13 dX3_setGrade_61 ?_
  refine lv_iload_n hx hb dX3_setGrade_64 rfl (lv_at hl 1 rfl) ?_
  refine lv_iload_n hx hb dX3_setGrade_65 rfl (lv_at hl 3 rfl) ?_
  refine sC_2 hx hb hK hP hI (fun _ h => h) hS (by omega) dX3_setGrade_66 (fun H locs hP hS => ?_)
  exact W.vret hx hb hr (fun t ht hW => ⟨⟨(), rfl, trivial, by (try dsimp only); rw [ht]; exact hP⟩, hS.F ht⟩) hS.2.2 dX3_setGrade_67
section
variable {p : Program} {e : Env} {R : Room} {s : State} {m : MethodId} {args : Array Value} {below : List Frame} {meth : Method} {c : Code} {H : Heap} {locs : List Loc} {cells slots : Nat} {Q : State → Prop} {cc : ByteArray} {pc : Nat} {ls : Array Slot} {rest : List Value} {own : String} {index nL : Nat} {Ts : List Cond} {H0 : Heap} {A0 : Nat → Prop}
theorem k_X3_setGrade_ok (l : Launch) {dC : Nat → ClassId} {dI : Nat → Nat → Nat} {cI cZ : ClassId} {ad : Nat → Nat} {sm fe ex dy : Int32} {gp gc op gr st dl wo : Nat → Int32} {n : Nat} {yc ya ys yd : Nat → Int32} {q : Nat} {zc zp zr zs zf : Nat → Int32} {z : Nat} {zm zt : Int64} {k : Nat} {x2 : Int32} {x3 : Int32} (hk : k < 5) (h1 : outN (nI k) (nI 0) (nI 4) = 0) (h2 : outN x2 (nI 1) (nI 100) = 0) (h3 : outN x3 (nI 1) (nI 1000000) = 0) (h0 : q = 0) (hx : p.tables.exec = Jvm.exec) (hb : c.code = cc) (hml : c.maxLocals = nL) (hown : s.vm.findClass own = some m.cls) (hts : ∀ w ∈ Ts, w.before args s = true) (hK : va_K (dC, dI) vwCl [(cI, .int), (cZ, .boolean)] s) (hP : va_P (dC, dI) vwCl (wC cI cZ ad sm fe ex dy gp gc op gr st dl wo n yc ya ys yd q zc zp zr zs zf z zm zt) H) (hg9 : GoodIn Ts (wsV own index RX3 yX3_setGrade wsX3_setGrade)) (hR9 : 1 + 1 ≤ R.frames ∧ 8 + (4 + 11) + 22 ≤ R.locals) (hc9 : cells ≤ R.cells ∧ slots ≤ R.slots) (hl9 : ls.size = nL) (hw9 : (rest.map fun v => v.category).sum ≤ 8) (hdg : decode cc pc = .ok (.invokevirtual index, 3)) (hI : iwC ad) (hA : ∀ x, awC ad x → A0 x) (hS : va_S A0 H0 H locs) (kk : ∀ (H1 : Heap) (locs1 : List Loc), va_P (dC, dI) vwCl (wC cI cZ ad sm fe ex dy (upd gp k x2) (upd gc k x3) op gr st dl wo n yc ya ys yd q zc zp zr zs zf z zm zt) H1 → va_S A0 H0 H1 locs1 → (∀ q : Nat, q < H.size → ¬ awC ad q → H1[q]? = H[q]?) → W p l e R s m args below meth c H1 locs1 cells slots Q (F0 m (pc + 3) ls (rest))) : W p l e R s m args below meth c H locs cells slots Q (F0 m pc ls (.int x3 :: .int x2 :: .int (nI k) :: .ref (ad 0) :: rest)) := va_callv (va_runV (As := [.int (nI k), .int x2, .int x3]) (rest := rest) ⟨hx, hb, hml, hown, hts⟩ (c_X3_setGrade_ok (dC := dC) (dI := dI) (cI := cI) (cZ := cZ) (ad := ad) (sm := sm) (fe := fe) (ex := ex) (dy := dy) (gp := gp) (gc := gc) (op := op) (gr := gr) (st := st) (dl := dl) (wo := wo) (n := n) (yc := yc) (ya := ya) (ys := ys) (yd := yd) (q := q) (zc := zc) (zp := zp) (zr := zr) (zs := zs) (zf := zf) (z := z) (zm := zm) (zt := zt) (k := k) (x2 := x2) (x3 := x3) l hI hk h1 h2 h3 h0) (cwV 3 hts hg9 rfl rfl rfl (by decide +kernel) hR9) ⟨fun a U g mk q => ⟨q.1, q.2.1, va_K.moved (u := U) (U := U.calling g mk a) (Vm.Alike.refl U.vm) q.2.2⟩, rC_0 hK hP, fun U hU hW => ⟨rfl, by rw [hU]; exact hP, va_K.moved hW.alike hK⟩⟩ rfl rfl hl9 rfl (lv_room hw9) hdg hc9) hS (fun q _ h => hA q h) hA (fun u t H1 locs1 ht _ hu hB hz hk hS1 => kk H1 locs1 (by rw [ht] at hB; exact hB) hS1 hk)
end
set_option maxHeartbeats 4000000 in
set_option maxRecDepth 100000 in
theorem c_X3_setGrade_ioobe (l : Launch) (hfl : l.stackTraces = false) {dC : Nat → ClassId} {dI : Nat → Nat → Nat} {cI cZ : ClassId} {ad : Nat → Nat} {sm fe ex dy : Int32} {gp gc op gr st dl wo : Nat → Int32} {n : Nat} {yc ya ys yd : Nat → Int32} {q : Nat} {zc zp zr zs zf : Nat → Int32} {z : Nat} {zm zt : Int64} {x1 : Int32} {x2 : Int32} {x3 : Int32} (h1 : ¬ outN x1 (nI 0) (nI 4) = 0) : vx_Met l yX3_setGrade wsX3_setGrade { frames := 6, cells := 1, slots := 6, locals := 90 } (va_Pc [.ref (ad 0), .int x1, .int x2, .int x3] (fun U => va_P (dC, dI) vwCl (wC cI cZ ad sm fe ex dy gp gc op gr st dl wo n yc ya ys yd q zc zp zr zs zf z zm zt) U.heap ∧ va_K (dC, dI) vwCl [(cI, .int), (cZ, .boolean)] U ∧ tX (fun _ => False) U U.heap)) (fun _ _ _ _ => False) (xT "java/lang/IndexOutOfBoundsException") 1 6 (fun _ => False) := by
  refine vx_ofW (cc := cX3_setGrade) (maxL := 4) (ret := none) (by decide) rfl ?_
  intro p e s m args below meth c s₁ B hml ht hv
  obtain ⟨rfl, hP, hK, hT⟩ := hv
  have hx := B.exec
  have hb := B.bytes
  have hr := B.returns
  have hts := atoms_spec (ws := wsX3_setGrade) B.pre
  have hown : s.vm.findClass RX3 = some m.cls := findClass_of_methodNamed B.named
  have hlocks := B.notSynchronized
  have hl := lv_entry ([.ref (ad 0), .int x1, .int x2, .int x3]) (n := 4) (Nat.le_of_ble_eq_true rfl)
  rw [lg_entry_eq]
  generalize (lg_sl ([.ref (ad 0), .int x1, .int x2, .int x3]) ++ List.replicate (4 - (lg_sl ([.ref (ad 0), .int x1, .int x2, .int x3])).length) Slot.unset).toArray = ls at hl ⊢
  have hl : lv_has ls 4 [(0, .ref (ad 0)), (1, .int x1), (2, .int x2), (3, .int x3)] := hl
  refine lv_iload_n hx hb dX3_setGrade_0 rfl (lv_at hl 1 rfl) ?_
  refine lv_iconst (v := nI 0) hx hb dX3_setGrade_1 (by decide) ?_
  refine lv_iconst (v := nI 4) hx hb dX3_setGrade_2 (by decide) ?_
  refine k_X3_isOutside l (x := x1) (a := nI 0) (b := nI 4) hx hb hml hown hts  gX3_setGrade_X3_isOutside ⟨Nat.le_of_ble_eq_true rfl, Nat.le_of_ble_eq_true rfl⟩ ⟨Nat.le_of_ble_eq_true rfl, Nat.le_of_ble_eq_true rfl⟩ hl.1 (Nat.le_of_ble_eq_true rfl) dX3_setGrade_3 ?_
  refine zi_eq (tgt := 19) hx hb (outN_lt _ _ _) dX3_setGrade_6 (by decide) (fun c_6 => (show False by exact h1 c_6).elim) (fun c_6 => ?_)
  exact zx_IndexOutOfBoundsException (is := 69) (text := "there is no such grade") hx hb hfl hown hts hT (by decide +kernel) (by decide +kernel) (by decide +kernel) (by decide +kernel) (hl.1.trans hml.symm) dX3_setGrade_9 dX3_setGrade_12 dX3_setGrade_13 dX3_setGrade_15 dX3_setGrade_18 ht hlocks (Nat.le_of_ble_eq_true rfl) (Nat.le_of_ble_eq_true rfl) (Nat.le_of_ble_eq_true rfl) (Nat.le_of_ble_eq_true rfl)
section
variable {p : Program} {e : Env} {R : Room} {s : State} {m : MethodId} {args : Array Value} {below : List Frame} {meth : Method} {c : Code} {H : Heap} {locs : List Loc} {cells slots : Nat} {Q : State → Prop} {cc : ByteArray} {pc : Nat} {ls : Array Slot} {rest : List Value} {own : String} {index nL : Nat} {Ts : List Cond} {H0 : Heap} {A0 : Nat → Prop}
theorem kr_X3_setGrade_ioobe (l : Launch) (hfl : l.stackTraces = false) {dC : Nat → ClassId} {dI : Nat → Nat → Nat} {cI cZ : ClassId} {ad : Nat → Nat} {sm fe ex dy : Int32} {gp gc op gr st dl wo : Nat → Int32} {n : Nat} {yc ya ys yd : Nat → Int32} {q : Nat} {zc zp zr zs zf : Nat → Int32} {z : Nat} {zm zt : Int64} {x1 : Int32} {x2 : Int32} {x3 : Int32} (h1 : ¬ outN x1 (nI 0) (nI 4) = 0) (hx : p.tables.exec = Jvm.exec) (hb : c.code = cc) (hml : c.maxLocals = nL) (hown : s.vm.findClass own = some m.cls) (hts : ∀ w ∈ Ts, w.before args s = true) (hK : va_K (dC, dI) vwCl [(cI, .int), (cZ, .boolean)] s) (hP : va_P (dC, dI) vwCl (wC cI cZ ad sm fe ex dy gp gc op gr st dl wo n yc ya ys yd q zc zp zr zs zf z zm zt) H) (hg9 : GoodIn Ts (wsV own index RX3 yX3_setGrade wsX3_setGrade)) (hR9 : 6 + 1 ≤ R.frames ∧ 8 + (4 + 11) + 90 ≤ R.locals) (hc9 : cells + 1 ≤ R.cells ∧ slots + 6 ≤ R.slots) (hl9 : ls.size = nL) (hw9 : (rest.map fun v => v.category).sum ≤ 8) (hdg : decode cc pc = .ok (.invokevirtual index, 3)) (hT : tX (fun _ => False) s H) : vx_Run p l e R s m args below meth c H locs cells slots 1 6 (F0 m pc ls (.int x3 :: .int x2 :: .int x1 :: .ref (ad 0) :: rest)) rest (fun _ _ _ => False) (xT "java/lang/IndexOutOfBoundsException") (fun _ => False) := vx_runV (As := [.int x1, .int x2, .int x3]) (rest := rest) ⟨hx, hb, hml, hown, hts⟩ (c_X3_setGrade_ioobe (dC := dC) (dI := dI) (cI := cI) (cZ := cZ) (ad := ad) (sm := sm) (fe := fe) (ex := ex) (dy := dy) (gp := gp) (gc := gc) (op := op) (gr := gr) (st := st) (dl := dl) (wo := wo) (n := n) (yc := yc) (ya := ya) (ys := ys) (yd := yd) (q := q) (zc := zc) (zp := zp) (zr := zr) (zs := zs) (zf := zf) (z := z) (zm := zm) (zt := zt) (x1 := x1) (x2 := x2) (x3 := x3) l hfl h1) (cwV 3 hts hg9 rfl rfl rfl (by decide +kernel) hR9) ⟨fun a U g mk q => ⟨q.1, q.2.1, va_K.moved (u := U) (U := U.calling g mk a) (Vm.Alike.refl U.vm) q.2.2.1, tX.same (u := U) (U := U.calling g mk a) rfl q.2.2.2⟩, rC_0 hK hP, fun U hU hW => ⟨rfl, by rw [hU]; exact hP, va_K.moved hW.alike hK, by rw [hU]; exact tX.warm hW hT⟩⟩ rfl rfl hl9 rfl (lv_room hw9) hdg hc9
end
set_option maxHeartbeats 4000000 in
set_option maxRecDepth 100000 in
theorem c_X3_setGrade_iae (l : Launch) (hfl : l.stackTraces = false) {dC : Nat → ClassId} {dI : Nat → Nat → Nat} {cI cZ : ClassId} {ad : Nat → Nat} {sm fe ex dy : Int32} {gp gc op gr st dl wo : Nat → Int32} {n : Nat} {yc ya ys yd : Nat → Int32} {q : Nat} {zc zp zr zs zf : Nat → Int32} {z : Nat} {zm zt : Int64} {k : Nat} {x2 : Int32} {x3 : Int32} (h1 : outN (nI k) (nI 0) (nI 4) = 0) (h2 : ¬ (outN x2 (nI 1) (nI 100) = 0 ∧ outN x3 (nI 1) (nI 1000000) = 0)) : vx_Met l yX3_setGrade wsX3_setGrade { frames := 6, cells := 1, slots := 6, locals := 90 } (va_Pc [.ref (ad 0), .int (nI k), .int x2, .int x3] (fun U => va_P (dC, dI) vwCl (wC cI cZ ad sm fe ex dy gp gc op gr st dl wo n yc ya ys yd q zc zp zr zs zf z zm zt) U.heap ∧ va_K (dC, dI) vwCl [(cI, .int), (cZ, .boolean)] U ∧ tX (fun _ => False) U U.heap)) (fun _ _ _ _ => False) (xT "java/lang/IllegalArgumentException") 1 6 (fun _ => False) := by
  refine vx_ofW (cc := cX3_setGrade) (maxL := 4) (ret := none) (by decide) rfl ?_
  intro p e s m args below meth c s₁ B hml ht hv
  obtain ⟨rfl, hP, hK, hT⟩ := hv
  have hx := B.exec
  have hb := B.bytes
  have hr := B.returns
  have hts := atoms_spec (ws := wsX3_setGrade) B.pre
  have hown : s.vm.findClass RX3 = some m.cls := findClass_of_methodNamed B.named
  have hlocks := B.notSynchronized
  have hl := lv_entry ([.ref (ad 0), .int (nI k), .int x2, .int x3]) (n := 4) (Nat.le_of_ble_eq_true rfl)
  rw [lg_entry_eq]
  generalize (lg_sl ([.ref (ad 0), .int (nI k), .int x2, .int x3]) ++ List.replicate (4 - (lg_sl ([.ref (ad 0), .int (nI k), .int x2, .int x3])).length) Slot.unset).toArray = ls at hl ⊢
  have hl : lv_has ls 4 [(0, .ref (ad 0)), (1, .int (nI k)), (2, .int x2), (3, .int x3)] := hl
  have hk37 := hts (.constant RX3 37 1000000) (by decide +kernel)
  refine lv_iload_n hx hb dX3_setGrade_0 rfl (lv_at hl 1 rfl) ?_
  refine lv_iconst (v := nI 0) hx hb dX3_setGrade_1 (by decide) ?_
  refine lv_iconst (v := nI 4) hx hb dX3_setGrade_2 (by decide) ?_
  refine k_X3_isOutside l (x := nI k) (a := nI 0) (b := nI 4) hx hb hml hown hts  gX3_setGrade_X3_isOutside ⟨Nat.le_of_ble_eq_true rfl, Nat.le_of_ble_eq_true rfl⟩ ⟨Nat.le_of_ble_eq_true rfl, Nat.le_of_ble_eq_true rfl⟩ hl.1 (Nat.le_of_ble_eq_true rfl) dX3_setGrade_3 ?_
  refine zi_eq (tgt := 19) hx hb (outN_lt _ _ _) dX3_setGrade_6 (by decide) (fun c_6 => ?_) (fun c_6 => (show False by exact c_6 h1).elim)
  refine lv_iload_n hx hb dX3_setGrade_19 rfl (lv_at hl 2 rfl) ?_
  refine lv_iconst (v := nI 1) hx hb dX3_setGrade_20 (by decide) ?_
  refine lv_bipush (v := nI 100) hx hb dX3_setGrade_21 (by decide) ?_
  refine k_X3_isOutside l (x := x2) (a := nI 1) (b := nI 100) hx hb hml hown hts  gX3_setGrade_X3_isOutside ⟨Nat.le_of_ble_eq_true rfl, Nat.le_of_ble_eq_true rfl⟩ ⟨Nat.le_of_ble_eq_true rfl, Nat.le_of_ble_eq_true rfl⟩ hl.1 (Nat.le_of_ble_eq_true rfl) dX3_setGrade_23 ?_
  refine zi_ne (tgt := 39) hx hb (outN_lt _ _ _) dX3_setGrade_26 (by decide) (fun c_26 => ?_) (fun c_26 => ?_)
  · exact zx_IllegalArgumentException (is := 72) (text := "points or cap is out of range") hx hb hfl hown hts hT (by decide +kernel) (by decide +kernel) (by decide +kernel) (by decide +kernel) (hl.1.trans hml.symm) dX3_setGrade_39 dX3_setGrade_42 dX3_setGrade_43 dX3_setGrade_45 dX3_setGrade_48 ht hlocks (Nat.le_of_ble_eq_true rfl) (Nat.le_of_ble_eq_true rfl) (Nat.le_of_ble_eq_true rfl) (Nat.le_of_ble_eq_true rfl)
  · refine lv_iload_n hx hb dX3_setGrade_29 rfl (lv_at hl 3 rfl) ?_
    refine lv_iconst (v := nI 1) hx hb dX3_setGrade_30 (by decide) ?_
    refine lv_ldc hx hb hown hk37 dX3_setGrade_31 ?_
    refine zt_i (y := nI 1000000) rfl ?_
    refine k_X3_isOutside l (x := x3) (a := nI 1) (b := nI 1000000) hx hb hml hown hts  gX3_setGrade_X3_isOutside ⟨Nat.le_of_ble_eq_true rfl, Nat.le_of_ble_eq_true rfl⟩ ⟨Nat.le_of_ble_eq_true rfl, Nat.le_of_ble_eq_true rfl⟩ hl.1 (Nat.le_of_ble_eq_true rfl) dX3_setGrade_33 ?_
    refine zi_eq (tgt := 49) hx hb (outN_lt _ _ _) dX3_setGrade_36 (by decide) (fun c_36 => (show False by exact h2 ⟨c_26, c_36⟩).elim) (fun c_36 => ?_)
    exact zx_IllegalArgumentException (is := 72) (text := "points or cap is out of range") hx hb hfl hown hts hT (by decide +kernel) (by decide +kernel) (by decide +kernel) (by decide +kernel) (hl.1.trans hml.symm) dX3_setGrade_39 dX3_setGrade_42 dX3_setGrade_43 dX3_setGrade_45 dX3_setGrade_48 ht hlocks (Nat.le_of_ble_eq_true rfl) (Nat.le_of_ble_eq_true rfl) (Nat.le_of_ble_eq_true rfl) (Nat.le_of_ble_eq_true rfl)
section
variable {p : Program} {e : Env} {R : Room} {s : State} {m : MethodId} {args : Array Value} {below : List Frame} {meth : Method} {c : Code} {H : Heap} {locs : List Loc} {cells slots : Nat} {Q : State → Prop} {cc : ByteArray} {pc : Nat} {ls : Array Slot} {rest : List Value} {own : String} {index nL : Nat} {Ts : List Cond} {H0 : Heap} {A0 : Nat → Prop}
theorem kr_X3_setGrade_iae (l : Launch) (hfl : l.stackTraces = false) {dC : Nat → ClassId} {dI : Nat → Nat → Nat} {cI cZ : ClassId} {ad : Nat → Nat} {sm fe ex dy : Int32} {gp gc op gr st dl wo : Nat → Int32} {n : Nat} {yc ya ys yd : Nat → Int32} {q : Nat} {zc zp zr zs zf : Nat → Int32} {z : Nat} {zm zt : Int64} {k : Nat} {x2 : Int32} {x3 : Int32} (h1 : outN (nI k) (nI 0) (nI 4) = 0) (h2 : ¬ (outN x2 (nI 1) (nI 100) = 0 ∧ outN x3 (nI 1) (nI 1000000) = 0)) (hx : p.tables.exec = Jvm.exec) (hb : c.code = cc) (hml : c.maxLocals = nL) (hown : s.vm.findClass own = some m.cls) (hts : ∀ w ∈ Ts, w.before args s = true) (hK : va_K (dC, dI) vwCl [(cI, .int), (cZ, .boolean)] s) (hP : va_P (dC, dI) vwCl (wC cI cZ ad sm fe ex dy gp gc op gr st dl wo n yc ya ys yd q zc zp zr zs zf z zm zt) H) (hg9 : GoodIn Ts (wsV own index RX3 yX3_setGrade wsX3_setGrade)) (hR9 : 6 + 1 ≤ R.frames ∧ 8 + (4 + 11) + 90 ≤ R.locals) (hc9 : cells + 1 ≤ R.cells ∧ slots + 6 ≤ R.slots) (hl9 : ls.size = nL) (hw9 : (rest.map fun v => v.category).sum ≤ 8) (hdg : decode cc pc = .ok (.invokevirtual index, 3)) (hT : tX (fun _ => False) s H) : vx_Run p l e R s m args below meth c H locs cells slots 1 6 (F0 m pc ls (.int x3 :: .int x2 :: .int (nI k) :: .ref (ad 0) :: rest)) rest (fun _ _ _ => False) (xT "java/lang/IllegalArgumentException") (fun _ => False) := vx_runV (As := [.int (nI k), .int x2, .int x3]) (rest := rest) ⟨hx, hb, hml, hown, hts⟩ (c_X3_setGrade_iae (dC := dC) (dI := dI) (cI := cI) (cZ := cZ) (ad := ad) (sm := sm) (fe := fe) (ex := ex) (dy := dy) (gp := gp) (gc := gc) (op := op) (gr := gr) (st := st) (dl := dl) (wo := wo) (n := n) (yc := yc) (ya := ya) (ys := ys) (yd := yd) (q := q) (zc := zc) (zp := zp) (zr := zr) (zs := zs) (zf := zf) (z := z) (zm := zm) (zt := zt) (k := k) (x2 := x2) (x3 := x3) l hfl h1 h2) (cwV 3 hts hg9 rfl rfl rfl (by decide +kernel) hR9) ⟨fun a U g mk q => ⟨q.1, q.2.1, va_K.moved (u := U) (U := U.calling g mk a) (Vm.Alike.refl U.vm) q.2.2.1, tX.same (u := U) (U := U.calling g mk a) rfl q.2.2.2⟩, rC_0 hK hP, fun U hU hW => ⟨rfl, by rw [hU]; exact hP, va_K.moved hW.alike hK, by rw [hU]; exact tX.warm hW hT⟩⟩ rfl rfl hl9 rfl (lv_room hw9) hdg hc9
end
set_option maxHeartbeats 4000000 in
set_option maxRecDepth 100000 in
theorem c_X3_setGrade_ise (l : Launch) (hfl : l.stackTraces = false) {dC : Nat → ClassId} {dI : Nat → Nat → Nat} {cI cZ : ClassId} {ad : Nat → Nat} {sm fe ex dy : Int32} {gp gc op gr st dl wo : Nat → Int32} {n : Nat} {yc ya ys yd : Nat → Int32} {q : Nat} {zc zp zr zs zf : Nat → Int32} {z : Nat} {zm zt : Int64} {k : Nat} {x2 : Int32} {x3 : Int32} (h1 : outN (nI k) (nI 0) (nI 4) = 0) (h2 : outN x2 (nI 1) (nI 100) = 0) (h3 : outN x3 (nI 1) (nI 1000000) = 0) (hq : q ≤ 100) (h0 : ¬ q = 0) : vx_Met l yX3_setGrade wsX3_setGrade { frames := 7, cells := 1, slots := 6, locals := 110 } (va_Pc [.ref (ad 0), .int (nI k), .int x2, .int x3] (fun U => va_P (dC, dI) vwCl (wC cI cZ ad sm fe ex dy gp gc op gr st dl wo n yc ya ys yd q zc zp zr zs zf z zm zt) U.heap ∧ va_K (dC, dI) vwCl [(cI, .int), (cZ, .boolean)] U ∧ tX (fun _ => False) U U.heap)) (fun _ _ _ _ => False) (xT "java/lang/IllegalStateException") 1 6 (fun _ => False) := by
  refine vx_ofW (cc := cX3_setGrade) (maxL := 4) (ret := none) (by decide) rfl ?_
  intro p e s m args below meth c s₁ B hml ht hv
  obtain ⟨rfl, hP, hK, hT⟩ := hv
  have hx := B.exec
  have hb := B.bytes
  have hr := B.returns
  have hts := atoms_spec (ws := wsX3_setGrade) B.pre
  have hown : s.vm.findClass RX3 = some m.cls := findClass_of_methodNamed B.named
  have hlocks := B.notSynchronized
  have hl := lv_entry ([.ref (ad 0), .int (nI k), .int x2, .int x3]) (n := 4) (Nat.le_of_ble_eq_true rfl)
  rw [lg_entry_eq]
  generalize (lg_sl ([.ref (ad 0), .int (nI k), .int x2, .int x3]) ++ List.replicate (4 - (lg_sl ([.ref (ad 0), .int (nI k), .int x2, .int x3])).length) Slot.unset).toArray = ls at hl ⊢
  have hl : lv_has ls 4 [(0, .ref (ad 0)), (1, .int (nI k)), (2, .int x2), (3, .int x3)] := hl
  have hk37 := hts (.constant RX3 37 1000000) (by decide +kernel)
  refine lv_iload_n hx hb dX3_setGrade_0 rfl (lv_at hl 1 rfl) ?_
  refine lv_iconst (v := nI 0) hx hb dX3_setGrade_1 (by decide) ?_
  refine lv_iconst (v := nI 4) hx hb dX3_setGrade_2 (by decide) ?_
  refine k_X3_isOutside l (x := nI k) (a := nI 0) (b := nI 4) hx hb hml hown hts  gX3_setGrade_X3_isOutside ⟨Nat.le_of_ble_eq_true rfl, Nat.le_of_ble_eq_true rfl⟩ ⟨Nat.le_of_ble_eq_true rfl, Nat.le_of_ble_eq_true rfl⟩ hl.1 (Nat.le_of_ble_eq_true rfl) dX3_setGrade_3 ?_
  refine zi_eq (tgt := 19) hx hb (outN_lt _ _ _) dX3_setGrade_6 (by decide) (fun c_6 => ?_) (fun c_6 => (show False by exact c_6 h1).elim)
  refine lv_iload_n hx hb dX3_setGrade_19 rfl (lv_at hl 2 rfl) ?_
  refine lv_iconst (v := nI 1) hx hb dX3_setGrade_20 (by decide) ?_
  refine lv_bipush (v := nI 100) hx hb dX3_setGrade_21 (by decide) ?_
  refine k_X3_isOutside l (x := x2) (a := nI 1) (b := nI 100) hx hb hml hown hts  gX3_setGrade_X3_isOutside ⟨Nat.le_of_ble_eq_true rfl, Nat.le_of_ble_eq_true rfl⟩ ⟨Nat.le_of_ble_eq_true rfl, Nat.le_of_ble_eq_true rfl⟩ hl.1 (Nat.le_of_ble_eq_true rfl) dX3_setGrade_23 ?_
  refine zi_ne (tgt := 39) hx hb (outN_lt _ _ _) dX3_setGrade_26 (by decide) (fun c_26 => (show False by exact c_26 h2).elim) (fun c_26 => ?_)
  refine lv_iload_n hx hb dX3_setGrade_29 rfl (lv_at hl 3 rfl) ?_
  refine lv_iconst (v := nI 1) hx hb dX3_setGrade_30 (by decide) ?_
  refine lv_ldc hx hb hown hk37 dX3_setGrade_31 ?_
  refine zt_i (y := nI 1000000) rfl ?_
  refine k_X3_isOutside l (x := x3) (a := nI 1) (b := nI 1000000) hx hb hml hown hts  gX3_setGrade_X3_isOutside ⟨Nat.le_of_ble_eq_true rfl, Nat.le_of_ble_eq_true rfl⟩ ⟨Nat.le_of_ble_eq_true rfl, Nat.le_of_ble_eq_true rfl⟩ hl.1 (Nat.le_of_ble_eq_true rfl) dX3_setGrade_33 ?_
  refine zi_eq (tgt := 49) hx hb (outN_lt _ _ _) dX3_setGrade_36 (by decide) (fun c_36 => ?_) (fun c_36 => (show False by exact c_36 h3).elim)
  refine lv_aload_n hx hb dX3_setGrade_49 rfl (lv_at hl 0 rfl) ?_
  exact zx_on (kr_X3_mustHaveNoPayments_no l hfl (hq := hq) (h0 := h0) hx hb hml hown hts hK hP gX3_setGrade_X3_mustHaveNoPayments ⟨Nat.le_of_ble_eq_true rfl, Nat.le_of_ble_eq_true rfl⟩ ⟨Nat.le_of_ble_eq_true rfl, Nat.le_of_ble_eq_true rfl⟩ hl.1 (Nat.le_of_ble_eq_true rfl) dX3_setGrade_50 hT) ht hlocks
section
variable {p : Program} {e : Env} {R : Room} {s : State} {m : MethodId} {args : Array Value} {below : List Frame} {meth : Method} {c : Code} {H : Heap} {locs : List Loc} {cells slots : Nat} {Q : State → Prop} {cc : ByteArray} {pc : Nat} {ls : Array Slot} {rest : List Value} {own : String} {index nL : Nat} {Ts : List Cond} {H0 : Heap} {A0 : Nat → Prop}
theorem kr_X3_setGrade_ise (l : Launch) (hfl : l.stackTraces = false) {dC : Nat → ClassId} {dI : Nat → Nat → Nat} {cI cZ : ClassId} {ad : Nat → Nat} {sm fe ex dy : Int32} {gp gc op gr st dl wo : Nat → Int32} {n : Nat} {yc ya ys yd : Nat → Int32} {q : Nat} {zc zp zr zs zf : Nat → Int32} {z : Nat} {zm zt : Int64} {k : Nat} {x2 : Int32} {x3 : Int32} (h1 : outN (nI k) (nI 0) (nI 4) = 0) (h2 : outN x2 (nI 1) (nI 100) = 0) (h3 : outN x3 (nI 1) (nI 1000000) = 0) (hq : q ≤ 100) (h0 : ¬ q = 0) (hx : p.tables.exec = Jvm.exec) (hb : c.code = cc) (hml : c.maxLocals = nL) (hown : s.vm.findClass own = some m.cls) (hts : ∀ w ∈ Ts, w.before args s = true) (hK : va_K (dC, dI) vwCl [(cI, .int), (cZ, .boolean)] s) (hP : va_P (dC, dI) vwCl (wC cI cZ ad sm fe ex dy gp gc op gr st dl wo n yc ya ys yd q zc zp zr zs zf z zm zt) H) (hg9 : GoodIn Ts (wsV own index RX3 yX3_setGrade wsX3_setGrade)) (hR9 : 7 + 1 ≤ R.frames ∧ 8 + (4 + 11) + 110 ≤ R.locals) (hc9 : cells + 1 ≤ R.cells ∧ slots + 6 ≤ R.slots) (hl9 : ls.size = nL) (hw9 : (rest.map fun v => v.category).sum ≤ 8) (hdg : decode cc pc = .ok (.invokevirtual index, 3)) (hT : tX (fun _ => False) s H) : vx_Run p l e R s m args below meth c H locs cells slots 1 6 (F0 m pc ls (.int x3 :: .int x2 :: .int (nI k) :: .ref (ad 0) :: rest)) rest (fun _ _ _ => False) (xT "java/lang/IllegalStateException") (fun _ => False) := vx_runV (As := [.int (nI k), .int x2, .int x3]) (rest := rest) ⟨hx, hb, hml, hown, hts⟩ (c_X3_setGrade_ise (dC := dC) (dI := dI) (cI := cI) (cZ := cZ) (ad := ad) (sm := sm) (fe := fe) (ex := ex) (dy := dy) (gp := gp) (gc := gc) (op := op) (gr := gr) (st := st) (dl := dl) (wo := wo) (n := n) (yc := yc) (ya := ya) (ys := ys) (yd := yd) (q := q) (zc := zc) (zp := zp) (zr := zr) (zs := zs) (zf := zf) (z := z) (zm := zm) (zt := zt) (k := k) (x2 := x2) (x3 := x3) l hfl h1 h2 h3 hq h0) (cwV 3 hts hg9 rfl rfl rfl (by decide +kernel) hR9) ⟨fun a U g mk q => ⟨q.1, q.2.1, va_K.moved (u := U) (U := U.calling g mk a) (Vm.Alike.refl U.vm) q.2.2.1, tX.same (u := U) (U := U.calling g mk a) rfl q.2.2.2⟩, rC_0 hK hP, fun U hU hW => ⟨rfl, by rw [hU]; exact hP, va_K.moved hW.alike hK, by rw [hU]; exact tX.warm hW hT⟩⟩ rfl rfl hl9 rfl (lv_room hw9) hdg hc9
end
set_option maxHeartbeats 4000000 in
set_option maxRecDepth 100000 in
theorem c_X3_pass_ok (l : Launch) {dC : Nat → ClassId} {dI : Nat → Nat → Nat} {cI cZ : ClassId} {ad : Nat → Nat} {sm fe ex dy : Int32} {gp gc op gr st dl wo : Nat → Int32} {n : Nat} {yc ya ys yd : Nat → Int32} {q : Nat} {zc zp zr zs zf : Nat → Int32} {z : Nat} {zm zt : Int64} {x : Int32} (hI : iwC ad) (hn : n ≤ 24) (hq : q ≤ 100) (h1 : outN x (nI 1) (nI 200) = 0) : Met l yX3_pass wsX3_pass { frames := 1, cells := 0, slots := 0, locals := 22 } (va_Pc [.ref (ad 0), .int x] (fun U => va_P (dC, dI) vwCl (wC cI cZ ad sm fe ex dy gp gc op gr st dl wo n yc ya ys yd q zc zp zr zs zf z zm zt) U.heap ∧ va_K (dC, dI) vwCl [(cI, .int), (cZ, .boolean)] U)) (va_Qi (fun r (_ : Unit) => r = dy + x) (fun _ t => va_P (dC, dI) vwCl (wC cI cZ ad sm fe ex (dy + x) gp gc op gr (denyF st dl (dy + x) n) dl wo n yc ya (voidF ys yd (dy + x) q) yd q zc zp zr zs zf z zm zt) t.heap) (awC ad)) 0 0 (awC ad) := by
  refine Met.ofW (cc := cX3_pass) (maxL := 2) (ret := (some .int)) (by decide) rfl ?_
  intro p e s m args below meth c s₁ B hml hv
  obtain ⟨rfl, hP, hK⟩ := hv
  have hx := B.exec
  have hb := B.bytes
  have hr := B.returns
  have hts := atoms_spec (ws := wsX3_pass) B.pre
  have hown : s.vm.findClass RX3 = some m.cls := findClass_of_methodNamed B.named
  have hlocks := B.notSynchronized
  have hS : va_S (awC ad) s.heap s.heap [] := va_S.rf
  have hl := lv_entry ([.ref (ad 0), .int x]) (n := 2) (Nat.le_of_ble_eq_true rfl)
  rw [lg_entry_eq]
  generalize (lg_sl ([.ref (ad 0), .int x]) ++ List.replicate (2 - (lg_sl ([.ref (ad 0), .int x])).length) Slot.unset).toArray = ls at hl ⊢
  have hl : lv_has ls 2 [(0, .ref (ad 0)), (1, .int x)] := hl
  have hiX3 : ∀ w ∈ wsX30, w ∈ wsX3_pass := by decide +kernel
  have hf76 := hts (.fieldLink RX3 76 "SettlementFund" "day" "I") (by decide +kernel)
  have hf19 := hts (.fieldLink RX3 19 "SettlementFund" "claimBook" "LSettlementFund$ClaimBook;") (by decide +kernel)
  have hf26 := hts (.fieldLink RX3 26 "SettlementFund" "paymentBook" "LSettlementFund$PaymentBook;") (by decide +kernel)
  refine lv_iload_n hx hb dX3_pass_0 rfl (lv_at hl 1 rfl) ?_
  refine lv_iconst (v := nI 1) hx hb dX3_pass_1 (by decide) ?_
  refine lv_sipush (v := nI 200) hx hb dX3_pass_2 (by decide) ?_
  refine k_X3_isOutside l (x := x) (a := nI 1) (b := nI 200) hx hb hml hown hts  gX3_pass_X3_isOutside ⟨Nat.le_of_ble_eq_true rfl, Nat.le_of_ble_eq_true rfl⟩ ⟨Nat.le_of_ble_eq_true rfl, Nat.le_of_ble_eq_true rfl⟩ hl.1 (Nat.le_of_ble_eq_true rfl) dX3_pass_5 ?_
  refine zi_eq (tgt := 21) hx hb (outN_lt _ _ _) dX3_pass_8 (by decide) (fun c_8 => ?_) (fun c_8 => (show False by exact c_8 h1).elim)
  refine lv_aload_n hx hb dX3_pass_21 rfl (lv_at hl 0 rfl) ?_
  refine lv_dup hx hb dX3_pass_22 rfl ?_
  refine gC_0_3 hx hb hts hiX3 hown hK hP hf76 dX3_pass_23 ?_
  refine lv_iload_n hx hb dX3_pass_26 rfl (lv_at hl 1 rfl) ?_
  refine lv_iadd hx hb dX3_pass_27 ?_
  refine uC_0_3 hx hb hts hiX3 hown hK hP hf76 hI (fun _ h => h) hS dX3_pass_28 (fun H locs hP hS => ?_)
  refine lv_aload_n hx hb dX3_pass_31 rfl (lv_at hl 0 rfl) ?_
  refine gC_0_6 hx hb hts hiX3 hown hK hP hf19 dX3_pass_32 ?_
  refine lv_aload_n hx hb dX3_pass_35 rfl (lv_at hl 0 rfl) ?_
  refine gC_0_3 hx hb hts hiX3 hown hK hP hf76 dX3_pass_36 ?_
  refine k_X0_denyLate l (d := dy + x) (hn := hn) hx hb hml hown hts hK hP gX3_pass_X0_denyLate ⟨Nat.le_of_ble_eq_true rfl, Nat.le_of_ble_eq_true rfl⟩ ⟨Nat.le_of_ble_eq_true rfl, Nat.le_of_ble_eq_true rfl⟩ hl.1 (Nat.le_of_ble_eq_true rfl) dX3_pass_39 hI (fun _ h => h) hS (fun H locs hP hS _ => ?_)
  refine lv_aload_n hx hb dX3_pass_42 rfl (lv_at hl 0 rfl) ?_
  refine gC_0_7 hx hb hts hiX3 hown hK hP hf26 dX3_pass_43 ?_
  refine lv_aload_n hx hb dX3_pass_46 rfl (lv_at hl 0 rfl) ?_
  refine gC_0_3 hx hb hts hiX3 hown hK hP hf76 dX3_pass_47 ?_
  refine k_X1_voidLate l (d := dy + x) (hq := hq) hx hb hml hown hts hK hP gX3_pass_X1_voidLate ⟨Nat.le_of_ble_eq_true rfl, Nat.le_of_ble_eq_true rfl⟩ ⟨Nat.le_of_ble_eq_true rfl, Nat.le_of_ble_eq_true rfl⟩ hl.1 (Nat.le_of_ble_eq_true rfl) dX3_pass_50 hI (fun _ h => h) hS (fun H locs hP hS _ => ?_)
  refine lv_aload_n hx hb dX3_pass_53 rfl (lv_at hl 0 rfl) ?_
  refine gC_0_3 hx hb hts hiX3 hown hK hP hf76 dX3_pass_54 ?_
  exact W.iret (v := dy + x) hx hb hr (fun t ht hW => ⟨⟨dy + x, (), rfl, rfl, by (try dsimp only); rw [ht]; exact hP⟩, hS.F ht⟩) hS.2.2 dX3_pass_57
section
variable {p : Program} {e : Env} {R : Room} {s : State} {m : MethodId} {args : Array Value} {below : List Frame} {meth : Method} {c : Code} {H : Heap} {locs : List Loc} {cells slots : Nat} {Q : State → Prop} {cc : ByteArray} {pc : Nat} {ls : Array Slot} {rest : List Value} {own : String} {index nL : Nat} {Ts : List Cond} {H0 : Heap} {A0 : Nat → Prop}
theorem k_X3_pass_ok (l : Launch) {dC : Nat → ClassId} {dI : Nat → Nat → Nat} {cI cZ : ClassId} {ad : Nat → Nat} {sm fe ex dy : Int32} {gp gc op gr st dl wo : Nat → Int32} {n : Nat} {yc ya ys yd : Nat → Int32} {q : Nat} {zc zp zr zs zf : Nat → Int32} {z : Nat} {zm zt : Int64} {x : Int32} (hn : n ≤ 24) (hq : q ≤ 100) (h1 : outN x (nI 1) (nI 200) = 0) (hx : p.tables.exec = Jvm.exec) (hb : c.code = cc) (hml : c.maxLocals = nL) (hown : s.vm.findClass own = some m.cls) (hts : ∀ w ∈ Ts, w.before args s = true) (hK : va_K (dC, dI) vwCl [(cI, .int), (cZ, .boolean)] s) (hP : va_P (dC, dI) vwCl (wC cI cZ ad sm fe ex dy gp gc op gr st dl wo n yc ya ys yd q zc zp zr zs zf z zm zt) H) (hg9 : GoodIn Ts (wsV own index RX3 yX3_pass wsX3_pass)) (hR9 : 1 + 1 ≤ R.frames ∧ 8 + (2 + 11) + 22 ≤ R.locals) (hc9 : cells ≤ R.cells ∧ slots ≤ R.slots) (hl9 : ls.size = nL) (hw9 : (rest.map fun v => v.category).sum ≤ 8) (hdg : decode cc pc = .ok (.invokevirtual index, 3)) (hI : iwC ad) (hA : ∀ x, awC ad x → A0 x) (hS : va_S A0 H0 H locs) (kk : ∀ (H1 : Heap) (locs1 : List Loc), va_P (dC, dI) vwCl (wC cI cZ ad sm fe ex (dy + x) gp gc op gr (denyF st dl (dy + x) n) dl wo n yc ya (voidF ys yd (dy + x) q) yd q zc zp zr zs zf z zm zt) H1 → va_S A0 H0 H1 locs1 → (∀ q : Nat, q < H.size → ¬ awC ad q → H1[q]? = H[q]?) → W p l e R s m args below meth c H1 locs1 cells slots Q (F0 m (pc + 3) ls (.int (dy + x) :: rest))) : W p l e R s m args below meth c H locs cells slots Q (F0 m pc ls (.int x :: .ref (ad 0) :: rest)) := va_calli (va_runV (As := [.int x]) (rest := rest) ⟨hx, hb, hml, hown, hts⟩ (c_X3_pass_ok (dC := dC) (dI := dI) (cI := cI) (cZ := cZ) (ad := ad) (sm := sm) (fe := fe) (ex := ex) (dy := dy) (gp := gp) (gc := gc) (op := op) (gr := gr) (st := st) (dl := dl) (wo := wo) (n := n) (yc := yc) (ya := ya) (ys := ys) (yd := yd) (q := q) (zc := zc) (zp := zp) (zr := zr) (zs := zs) (zf := zf) (z := z) (zm := zm) (zt := zt) (x := x) l hI hn hq h1) (cwV 1 hts hg9 rfl rfl rfl (by decide +kernel) hR9) ⟨fun a U g mk q => ⟨q.1, q.2.1, va_K.moved (u := U) (U := U.calling g mk a) (Vm.Alike.refl U.vm) q.2.2⟩, rC_0 hK hP, fun U hU hW => ⟨rfl, by rw [hU]; exact hP, va_K.moved hW.alike hK⟩⟩ rfl rfl hl9 rfl (lv_room hw9) hdg hc9) hS (fun q _ h => hA q h) hA (fun r u t H1 locs1 ht _ hu hB hz hk hS1 => by subst hu; exact kk H1 locs1 (by rw [ht] at hB; exact hB) hS1 hk)
end
set_option maxHeartbeats 4000000 in
set_option maxRecDepth 100000 in
theorem c_X3_pass_no (l : Launch) (hfl : l.stackTraces = false) {dC : Nat → ClassId} {dI : Nat → Nat → Nat} {cI cZ : ClassId} {ad : Nat → Nat} {sm fe ex dy : Int32} {gp gc op gr st dl wo : Nat → Int32} {n : Nat} {yc ya ys yd : Nat → Int32} {q : Nat} {zc zp zr zs zf : Nat → Int32} {z : Nat} {zm zt : Int64} {x : Int32} (h1 : ¬ outN x (nI 1) (nI 200) = 0) : vx_Met l yX3_pass wsX3_pass { frames := 6, cells := 1, slots := 6, locals := 90 } (va_Pc [.ref (ad 0), .int x] (fun U => va_P (dC, dI) vwCl (wC cI cZ ad sm fe ex dy gp gc op gr st dl wo n yc ya ys yd q zc zp zr zs zf z zm zt) U.heap ∧ va_K (dC, dI) vwCl [(cI, .int), (cZ, .boolean)] U ∧ tX (fun _ => False) U U.heap)) (fun _ _ _ _ => False) (xT "java/lang/IllegalArgumentException") 1 6 (fun _ => False) := by
  refine vx_ofW (cc := cX3_pass) (maxL := 2) (ret := (some .int)) (by decide) rfl ?_
  intro p e s m args below meth c s₁ B hml ht hv
  obtain ⟨rfl, hP, hK, hT⟩ := hv
  have hx := B.exec
  have hb := B.bytes
  have hr := B.returns
  have hts := atoms_spec (ws := wsX3_pass) B.pre
  have hown : s.vm.findClass RX3 = some m.cls := findClass_of_methodNamed B.named
  have hlocks := B.notSynchronized
  have hl := lv_entry ([.ref (ad 0), .int x]) (n := 2) (Nat.le_of_ble_eq_true rfl)
  rw [lg_entry_eq]
  generalize (lg_sl ([.ref (ad 0), .int x]) ++ List.replicate (2 - (lg_sl ([.ref (ad 0), .int x])).length) Slot.unset).toArray = ls at hl ⊢
  have hl : lv_has ls 2 [(0, .ref (ad 0)), (1, .int x)] := hl
  refine lv_iload_n hx hb dX3_pass_0 rfl (lv_at hl 1 rfl) ?_
  refine lv_iconst (v := nI 1) hx hb dX3_pass_1 (by decide) ?_
  refine lv_sipush (v := nI 200) hx hb dX3_pass_2 (by decide) ?_
  refine k_X3_isOutside l (x := x) (a := nI 1) (b := nI 200) hx hb hml hown hts  gX3_pass_X3_isOutside ⟨Nat.le_of_ble_eq_true rfl, Nat.le_of_ble_eq_true rfl⟩ ⟨Nat.le_of_ble_eq_true rfl, Nat.le_of_ble_eq_true rfl⟩ hl.1 (Nat.le_of_ble_eq_true rfl) dX3_pass_5 ?_
  refine zi_eq (tgt := 21) hx hb (outN_lt _ _ _) dX3_pass_8 (by decide) (fun c_8 => (show False by exact h1 c_8).elim) (fun c_8 => ?_)
  exact zx_IllegalArgumentException (is := 74) (text := "days is out of range") hx hb hfl hown hts hT (by decide +kernel) (by decide +kernel) (by decide +kernel) (by decide +kernel) (hl.1.trans hml.symm) dX3_pass_11 dX3_pass_14 dX3_pass_15 dX3_pass_17 dX3_pass_20 ht hlocks (Nat.le_of_ble_eq_true rfl) (Nat.le_of_ble_eq_true rfl) (Nat.le_of_ble_eq_true rfl) (Nat.le_of_ble_eq_true rfl)
section
variable {p : Program} {e : Env} {R : Room} {s : State} {m : MethodId} {args : Array Value} {below : List Frame} {meth : Method} {c : Code} {H : Heap} {locs : List Loc} {cells slots : Nat} {Q : State → Prop} {cc : ByteArray} {pc : Nat} {ls : Array Slot} {rest : List Value} {own : String} {index nL : Nat} {Ts : List Cond} {H0 : Heap} {A0 : Nat → Prop}
theorem kr_X3_pass_no (l : Launch) (hfl : l.stackTraces = false) {dC : Nat → ClassId} {dI : Nat → Nat → Nat} {cI cZ : ClassId} {ad : Nat → Nat} {sm fe ex dy : Int32} {gp gc op gr st dl wo : Nat → Int32} {n : Nat} {yc ya ys yd : Nat → Int32} {q : Nat} {zc zp zr zs zf : Nat → Int32} {z : Nat} {zm zt : Int64} {x : Int32} (h1 : ¬ outN x (nI 1) (nI 200) = 0) (hx : p.tables.exec = Jvm.exec) (hb : c.code = cc) (hml : c.maxLocals = nL) (hown : s.vm.findClass own = some m.cls) (hts : ∀ w ∈ Ts, w.before args s = true) (hK : va_K (dC, dI) vwCl [(cI, .int), (cZ, .boolean)] s) (hP : va_P (dC, dI) vwCl (wC cI cZ ad sm fe ex dy gp gc op gr st dl wo n yc ya ys yd q zc zp zr zs zf z zm zt) H) (hg9 : GoodIn Ts (wsV own index RX3 yX3_pass wsX3_pass)) (hR9 : 6 + 1 ≤ R.frames ∧ 8 + (2 + 11) + 90 ≤ R.locals) (hc9 : cells + 1 ≤ R.cells ∧ slots + 6 ≤ R.slots) (hl9 : ls.size = nL) (hw9 : (rest.map fun v => v.category).sum ≤ 8) (hdg : decode cc pc = .ok (.invokevirtual index, 3)) (hT : tX (fun _ => False) s H) : vx_Run p l e R s m args below meth c H locs cells slots 1 6 (F0 m pc ls (.int x :: .ref (ad 0) :: rest)) rest (fun _ _ _ => False) (xT "java/lang/IllegalArgumentException") (fun _ => False) := vx_runV (As := [.int x]) (rest := rest) ⟨hx, hb, hml, hown, hts⟩ (c_X3_pass_no (dC := dC) (dI := dI) (cI := cI) (cZ := cZ) (ad := ad) (sm := sm) (fe := fe) (ex := ex) (dy := dy) (gp := gp) (gc := gc) (op := op) (gr := gr) (st := st) (dl := dl) (wo := wo) (n := n) (yc := yc) (ya := ya) (ys := ys) (yd := yd) (q := q) (zc := zc) (zp := zp) (zr := zr) (zs := zs) (zf := zf) (z := z) (zm := zm) (zt := zt) (x := x) l hfl h1) (cwV 1 hts hg9 rfl rfl rfl (by decide +kernel) hR9) ⟨fun a U g mk q => ⟨q.1, q.2.1, va_K.moved (u := U) (U := U.calling g mk a) (Vm.Alike.refl U.vm) q.2.2.1, tX.same (u := U) (U := U.calling g mk a) rfl q.2.2.2⟩, rC_0 hK hP, fun U hU hW => ⟨rfl, by rw [hU]; exact hP, va_K.moved hW.alike hK, by rw [hU]; exact tX.warm hW hT⟩⟩ rfl rfl hl9 rfl (lv_room hw9) hdg hc9
end
set_option maxHeartbeats 4000000 in
set_option maxRecDepth 100000 in
theorem c_X3_claim_join (l : Launch) {dC : Nat → ClassId} {dI : Nat → Nat → Nat} {cI cZ : ClassId} {ad : Nat → Nat} {sm fe ex dy : Int32} {gp gc op gr st dl wo : Nat → Int32} {n : Nat} {yc ya ys yd : Nat → Int32} {q : Nat} {zc zp zr zs zf : Nat → Int32} {z : Nat} {zm zt : Int64} {k : Nat} {g : Int32} {b : Int32} {d : Int32} {j : Nat} (hI : iwC ad) (hn : n ≤ 24) (h1 : outN (nI k) (nI 0) (nI 29) = 0) (h2 : outN g (nI 0) (nI 4) = 0) (h3 : outN d (nI 0) (nI 100) = 0) (hk : k < 30) (hj : j < n) (hop : op k = nI j) : Met l yX3_claim wsX3_claim { frames := 2, cells := 0, slots := 0, locals := 44 } (va_Pc [.ref (ad 0), .int (nI k), .int g, .int b, .int d] (fun U => va_P (dC, dI) vwCl (wC cI cZ ad sm fe ex dy gp gc op gr st dl wo n yc ya ys yd q zc zp zr zs zf z zm zt) U.heap ∧ va_K (dC, dI) vwCl [(cI, .int), (cZ, .boolean)] U)) (va_Qi (fun r (_ : Unit) => r = nI j) (fun _ t => va_P (dC, dI) vwCl (wC cI cZ ad sm fe ex dy gp gc op (upd gr j (maxI (gr j) g)) (joinS st j b) dl wo n yc ya ys yd q zc zp zr zs zf z zm zt) t.heap) (awC ad)) 0 0 (awC ad) := by
  refine Met.ofW (cc := cX3_claim) (maxL := 6) (ret := (some .int)) (by decide) rfl ?_
  intro p e s m args below meth c s₁ B hml hv
  obtain ⟨rfl, hP, hK⟩ := hv
  have hx := B.exec
  have hb := B.bytes
  have hr := B.returns
  have hts := atoms_spec (ws := wsX3_claim) B.pre
  have hown : s.vm.findClass RX3 = some m.cls := findClass_of_methodNamed B.named
  have hlocks := B.notSynchronized
  have hS : va_S (awC ad) s.heap s.heap [] := va_S.rf
  have hl := lv_entry ([.ref (ad 0), .int (nI k), .int g, .int b, .int d]) (n := 6) (Nat.le_of_ble_eq_true rfl)
  rw [lg_entry_eq]
  generalize (lg_sl ([.ref (ad 0), .int (nI k), .int g, .int b, .int d]) ++ List.replicate (6 - (lg_sl ([.ref (ad 0), .int (nI k), .int g, .int b, .int d])).length) Slot.unset).toArray = ls at hl ⊢
  have hl : lv_has ls 6 [(0, .ref (ad 0)), (1, .int (nI k)), (2, .int g), (3, .int b), (4, .int d)] := hl
  have hiX3 : ∀ w ∈ wsX30, w ∈ wsX3_claim := by decide +kernel
  have hf19 := hts (.fieldLink RX3 19 "SettlementFund" "claimBook" "LSettlementFund$ClaimBook;") (by decide +kernel)
  have hiX0 : ∀ w ∈ wsX00, w ∈ wsX3_claim := by decide +kernel
  have hf88 := hts (.fieldLink RX3 88 "SettlementFund$ClaimBook" "ofPerson" "[I") (by decide +kernel)
  refine lv_iload_n hx hb dX3_claim_0 rfl (lv_at hl 1 rfl) ?_
  refine lv_iconst (v := nI 0) hx hb dX3_claim_1 (by decide) ?_
  refine lv_bipush (v := nI 29) hx hb dX3_claim_2 (by decide) ?_
  refine k_X3_isOutside l (x := nI k) (a := nI 0) (b := nI 29) hx hb hml hown hts  gX3_claim_X3_isOutside ⟨Nat.le_of_ble_eq_true rfl, Nat.le_of_ble_eq_true rfl⟩ ⟨Nat.le_of_ble_eq_true rfl, Nat.le_of_ble_eq_true rfl⟩ hl.1 (Nat.le_of_ble_eq_true rfl) dX3_claim_4 ?_
  refine zi_ne (tgt := 19) hx hb (outN_lt _ _ _) dX3_claim_7 (by decide) (fun c_7 => (show False by exact c_7 h1).elim) (fun c_7 => ?_)
  refine lv_iload_n hx hb dX3_claim_10 rfl (lv_at hl 2 rfl) ?_
  refine lv_iconst (v := nI 0) hx hb dX3_claim_11 (by decide) ?_
  refine lv_iconst (v := nI 4) hx hb dX3_claim_12 (by decide) ?_
  refine k_X3_isOutside l (x := g) (a := nI 0) (b := nI 4) hx hb hml hown hts  gX3_claim_X3_isOutside ⟨Nat.le_of_ble_eq_true rfl, Nat.le_of_ble_eq_true rfl⟩ ⟨Nat.le_of_ble_eq_true rfl, Nat.le_of_ble_eq_true rfl⟩ hl.1 (Nat.le_of_ble_eq_true rfl) dX3_claim_13 ?_
  refine zi_eq (tgt := 29) hx hb (outN_lt _ _ _) dX3_claim_16 (by decide) (fun c_16 => ?_) (fun c_16 => (show False by exact c_16 h2).elim)
  refine lv_iload hx hb dX3_claim_29 (lv_at hl 4 rfl) ?_
  refine lv_iconst (v := nI 0) hx hb dX3_claim_31 (by decide) ?_
  refine lv_bipush (v := nI 100) hx hb dX3_claim_32 (by decide) ?_
  refine k_X3_isOutside l (x := d) (a := nI 0) (b := nI 100) hx hb hml hown hts  gX3_claim_X3_isOutside ⟨Nat.le_of_ble_eq_true rfl, Nat.le_of_ble_eq_true rfl⟩ ⟨Nat.le_of_ble_eq_true rfl, Nat.le_of_ble_eq_true rfl⟩ hl.1 (Nat.le_of_ble_eq_true rfl) dX3_claim_34 ?_
  refine zi_eq (tgt := 50) hx hb (outN_lt _ _ _) dX3_claim_37 (by decide) (fun c_37 => ?_) (fun c_37 => (show False by exact c_37 h3).elim)
  refine lv_aload_n hx hb dX3_claim_50 rfl (lv_at hl 0 rfl) ?_
  refine gC_0_6 hx hb hts hiX3 hown hK hP hf19 dX3_claim_51 ?_
  refine gC_3_0 hx hb hts hiX0 hown hK hP hf88 dX3_claim_54 ?_
  refine lv_iload_n hx hb dX3_claim_57 rfl (lv_at hl 1 rfl) ?_
  refine lC_4 hx hb hK hP (by omega) dX3_claim_58 ?_
  refine zt_i (y := nI j) (hop) ?_
  refine lv_istore (lv' := [(5, .int (nI j)), (0, .ref (ad 0)), (1, .int (nI k)), (2, .int g), (3, .int b), (4, .int d)]) hx hb dX3_claim_59 hl (by decide) rfl (fun ls hl => ?_)
  refine lv_aload_n hx hb dX3_claim_61 rfl (lv_at hl 1 rfl) ?_
  refine gC_0_6 hx hb hts hiX3 hown hK hP hf19 dX3_claim_62 ?_
  refine lv_iload hx hb dX3_claim_65 (lv_at hl 0 rfl) ?_
  refine k_X0_has_ok l (k := j) (hn := hn) (hk := hj) hx hb hml hown hts hK hP gX3_claim_X0_has ⟨Nat.le_of_ble_eq_true rfl, Nat.le_of_ble_eq_true rfl⟩ ⟨Nat.le_of_ble_eq_true rfl, Nat.le_of_ble_eq_true rfl⟩ hl.1 (Nat.le_of_ble_eq_true rfl) dX3_claim_67 ?_
  refine zi_eq (tgt := 87) hx hb (by decide) dX3_claim_70 (by decide) (fun c_70 => (show False by exact absurd c_70 (by decide)).elim) (fun c_70 => ?_)
  refine lv_aload_n hx hb dX3_claim_73 rfl (lv_at hl 1 rfl) ?_
  refine gC_0_6 hx hb hts hiX3 hown hK hP hf19 dX3_claim_74 ?_
  refine lv_iload hx hb dX3_claim_77 (lv_at hl 0 rfl) ?_
  refine lv_iload_n hx hb dX3_claim_79 rfl (lv_at hl 3 rfl) ?_
  refine lv_iload_n hx hb dX3_claim_80 rfl (lv_at hl 4 rfl) ?_
  refine k_X0_join l (k := j) (g := g) (b := b) (hn := hn) (hk := hj) hx hb hml hown hts hK hP gX3_claim_X0_join ⟨Nat.le_of_ble_eq_true rfl, Nat.le_of_ble_eq_true rfl⟩ ⟨Nat.le_of_ble_eq_true rfl, Nat.le_of_ble_eq_true rfl⟩ hl.1 (Nat.le_of_ble_eq_true rfl) dX3_claim_81 hI (fun _ h => h) hS (fun H locs hP hS _ => ?_)
  refine lv_iload hx hb dX3_claim_84 (lv_at hl 0 rfl) ?_
  exact W.iret (v := nI j) hx hb hr (fun t ht hW => ⟨⟨nI j, (), rfl, rfl, by (try dsimp only); rw [ht]; exact hP⟩, hS.F ht⟩) hS.2.2 dX3_claim_86
section
variable {p : Program} {e : Env} {R : Room} {s : State} {m : MethodId} {args : Array Value} {below : List Frame} {meth : Method} {c : Code} {H : Heap} {locs : List Loc} {cells slots : Nat} {Q : State → Prop} {cc : ByteArray} {pc : Nat} {ls : Array Slot} {rest : List Value} {own : String} {index nL : Nat} {Ts : List Cond} {H0 : Heap} {A0 : Nat → Prop}
theorem k_X3_claim_join (l : Launch) {dC : Nat → ClassId} {dI : Nat → Nat → Nat} {cI cZ : ClassId} {ad : Nat → Nat} {sm fe ex dy : Int32} {gp gc op gr st dl wo : Nat → Int32} {n : Nat} {yc ya ys yd : Nat → Int32} {q : Nat} {zc zp zr zs zf : Nat → Int32} {z : Nat} {zm zt : Int64} {k : Nat} {g : Int32} {b : Int32} {d : Int32} {j : Nat} (hn : n ≤ 24) (h1 : outN (nI k) (nI 0) (nI 29) = 0) (h2 : outN g (nI 0) (nI 4) = 0) (h3 : outN d (nI 0) (nI 100) = 0) (hk : k < 30) (hj : j < n) (hop : op k = nI j) (hx : p.tables.exec = Jvm.exec) (hb : c.code = cc) (hml : c.maxLocals = nL) (hown : s.vm.findClass own = some m.cls) (hts : ∀ w ∈ Ts, w.before args s = true) (hK : va_K (dC, dI) vwCl [(cI, .int), (cZ, .boolean)] s) (hP : va_P (dC, dI) vwCl (wC cI cZ ad sm fe ex dy gp gc op gr st dl wo n yc ya ys yd q zc zp zr zs zf z zm zt) H) (hg9 : GoodIn Ts (wsV own index RX3 yX3_claim wsX3_claim)) (hR9 : 2 + 1 ≤ R.frames ∧ 8 + (6 + 11) + 44 ≤ R.locals) (hc9 : cells ≤ R.cells ∧ slots ≤ R.slots) (hl9 : ls.size = nL) (hw9 : (rest.map fun v => v.category).sum ≤ 8) (hdg : decode cc pc = .ok (.invokevirtual index, 3)) (hI : iwC ad) (hA : ∀ x, awC ad x → A0 x) (hS : va_S A0 H0 H locs) (kk : ∀ (H1 : Heap) (locs1 : List Loc), va_P (dC, dI) vwCl (wC cI cZ ad sm fe ex dy gp gc op (upd gr j (maxI (gr j) g)) (joinS st j b) dl wo n yc ya ys yd q zc zp zr zs zf z zm zt) H1 → va_S A0 H0 H1 locs1 → (∀ q : Nat, q < H.size → ¬ awC ad q → H1[q]? = H[q]?) → W p l e R s m args below meth c H1 locs1 cells slots Q (F0 m (pc + 3) ls (.int (nI j) :: rest))) : W p l e R s m args below meth c H locs cells slots Q (F0 m pc ls (.int d :: .int b :: .int g :: .int (nI k) :: .ref (ad 0) :: rest)) := va_calli (va_runV (As := [.int (nI k), .int g, .int b, .int d]) (rest := rest) ⟨hx, hb, hml, hown, hts⟩ (c_X3_claim_join (dC := dC) (dI := dI) (cI := cI) (cZ := cZ) (ad := ad) (sm := sm) (fe := fe) (ex := ex) (dy := dy) (gp := gp) (gc := gc) (op := op) (gr := gr) (st := st) (dl := dl) (wo := wo) (n := n) (yc := yc) (ya := ya) (ys := ys) (yd := yd) (q := q) (zc := zc) (zp := zp) (zr := zr) (zs := zs) (zf := zf) (z := z) (zm := zm) (zt := zt) (k := k) (g := g) (b := b) (d := d) (j := j) l hI hn h1 h2 h3 hk hj hop) (cwV 4 hts hg9 rfl rfl rfl (by decide +kernel) hR9) ⟨fun a U g mk q => ⟨q.1, q.2.1, va_K.moved (u := U) (U := U.calling g mk a) (Vm.Alike.refl U.vm) q.2.2⟩, rC_0 hK hP, fun U hU hW => ⟨rfl, by rw [hU]; exact hP, va_K.moved hW.alike hK⟩⟩ rfl rfl hl9 rfl (lv_room hw9) hdg hc9) hS (fun q _ h => hA q h) hA (fun r u t H1 locs1 ht _ hu hB hz hk hS1 => by subst hu; exact kk H1 locs1 (by rw [ht] at hB; exact hB) hS1 hk)
end
set_option maxHeartbeats 4000000 in
set_option maxRecDepth 100000 in
theorem c_X3_claim_enter (l : Launch) {dC : Nat → ClassId} {dI : Nat → Nat → Nat} {cI cZ : ClassId} {ad : Nat → Nat} {sm fe ex dy : Int32} {gp gc op gr st dl wo : Nat → Int32} {n : Nat} {yc ya ys yd : Nat → Int32} {q : Nat} {zc zp zr zs zf : Nat → Int32} {z : Nat} {zm zt : Int64} {k : Nat} {g : Int32} {b : Int32} {d : Int32} (hI : iwC ad) (hn : n < 24) (h1 : outN (nI k) (nI 0) (nI 29) = 0) (h2 : outN g (nI 0) (nI 4) = 0) (h3 : outN d (nI 0) (nI 100) = 0) (hk : k < 30) (hop : op k = (-1)) : Met l yX3_claim wsX3_claim { frames := 1, cells := 0, slots := 0, locals := 25 } (va_Pc [.ref (ad 0), .int (nI k), .int g, .int b, .int d] (fun U => va_P (dC, dI) vwCl (wC cI cZ ad sm fe ex dy gp gc op gr st dl wo n yc ya ys yd q zc zp zr zs zf z zm zt) U.heap ∧ va_K (dC, dI) vwCl [(cI, .int), (cZ, .boolean)] U)) (va_Qi (fun r (_ : Unit) => r = nI n) (fun _ t => va_P (dC, dI) vwCl (wC cI cZ ad sm fe ex dy gp gc (upd op k (nI n)) (upd gr n g) (upd st n (faultS b)) (upd dl n (dy + d)) wo (n + 1) yc ya ys yd q zc zp zr zs zf z zm zt) t.heap) (awC ad)) 0 0 (awC ad) := by
  refine Met.ofW (cc := cX3_claim) (maxL := 6) (ret := (some .int)) (by decide) rfl ?_
  intro p e s m args below meth c s₁ B hml hv
  obtain ⟨rfl, hP, hK⟩ := hv
  have hx := B.exec
  have hb := B.bytes
  have hr := B.returns
  have hts := atoms_spec (ws := wsX3_claim) B.pre
  have hown : s.vm.findClass RX3 = some m.cls := findClass_of_methodNamed B.named
  have hlocks := B.notSynchronized
  have hS : va_S (awC ad) s.heap s.heap [] := va_S.rf
  have hl := lv_entry ([.ref (ad 0), .int (nI k), .int g, .int b, .int d]) (n := 6) (Nat.le_of_ble_eq_true rfl)
  rw [lg_entry_eq]
  generalize (lg_sl ([.ref (ad 0), .int (nI k), .int g, .int b, .int d]) ++ List.replicate (6 - (lg_sl ([.ref (ad 0), .int (nI k), .int g, .int b, .int d])).length) Slot.unset).toArray = ls at hl ⊢
  have hl : lv_has ls 6 [(0, .ref (ad 0)), (1, .int (nI k)), (2, .int g), (3, .int b), (4, .int d)] := hl
  have hiX3 : ∀ w ∈ wsX30, w ∈ wsX3_claim := by decide +kernel
  have hf19 := hts (.fieldLink RX3 19 "SettlementFund" "claimBook" "LSettlementFund$ClaimBook;") (by decide +kernel)
  have hiX0 : ∀ w ∈ wsX00, w ∈ wsX3_claim := by decide +kernel
  have hf88 := hts (.fieldLink RX3 88 "SettlementFund$ClaimBook" "ofPerson" "[I") (by decide +kernel)
  have hf76 := hts (.fieldLink RX3 76 "SettlementFund" "day" "I") (by decide +kernel)
  refine lv_iload_n hx hb dX3_claim_0 rfl (lv_at hl 1 rfl) ?_
  refine lv_iconst (v := nI 0) hx hb dX3_claim_1 (by decide) ?_
  refine lv_bipush (v := nI 29) hx hb dX3_claim_2 (by decide) ?_
  refine k_X3_isOutside l (x := nI k) (a := nI 0) (b := nI 29) hx hb hml hown hts  gX3_claim_X3_isOutside ⟨Nat.le_of_ble_eq_true rfl, Nat.le_of_ble_eq_true rfl⟩ ⟨Nat.le_of_ble_eq_true rfl, Nat.le_of_ble_eq_true rfl⟩ hl.1 (Nat.le_of_ble_eq_true rfl) dX3_claim_4 ?_
  refine zi_ne (tgt := 19) hx hb (outN_lt _ _ _) dX3_claim_7 (by decide) (fun c_7 => (show False by exact c_7 h1).elim) (fun c_7 => ?_)
  refine lv_iload_n hx hb dX3_claim_10 rfl (lv_at hl 2 rfl) ?_
  refine lv_iconst (v := nI 0) hx hb dX3_claim_11 (by decide) ?_
  refine lv_iconst (v := nI 4) hx hb dX3_claim_12 (by decide) ?_
  refine k_X3_isOutside l (x := g) (a := nI 0) (b := nI 4) hx hb hml hown hts  gX3_claim_X3_isOutside ⟨Nat.le_of_ble_eq_true rfl, Nat.le_of_ble_eq_true rfl⟩ ⟨Nat.le_of_ble_eq_true rfl, Nat.le_of_ble_eq_true rfl⟩ hl.1 (Nat.le_of_ble_eq_true rfl) dX3_claim_13 ?_
  refine zi_eq (tgt := 29) hx hb (outN_lt _ _ _) dX3_claim_16 (by decide) (fun c_16 => ?_) (fun c_16 => (show False by exact c_16 h2).elim)
  refine lv_iload hx hb dX3_claim_29 (lv_at hl 4 rfl) ?_
  refine lv_iconst (v := nI 0) hx hb dX3_claim_31 (by decide) ?_
  refine lv_bipush (v := nI 100) hx hb dX3_claim_32 (by decide) ?_
  refine k_X3_isOutside l (x := d) (a := nI 0) (b := nI 100) hx hb hml hown hts  gX3_claim_X3_isOutside ⟨Nat.le_of_ble_eq_true rfl, Nat.le_of_ble_eq_true rfl⟩ ⟨Nat.le_of_ble_eq_true rfl, Nat.le_of_ble_eq_true rfl⟩ hl.1 (Nat.le_of_ble_eq_true rfl) dX3_claim_34 ?_
  refine zi_eq (tgt := 50) hx hb (outN_lt _ _ _) dX3_claim_37 (by decide) (fun c_37 => ?_) (fun c_37 => (show False by exact c_37 h3).elim)
  refine lv_aload_n hx hb dX3_claim_50 rfl (lv_at hl 0 rfl) ?_
  refine gC_0_6 hx hb hts hiX3 hown hK hP hf19 dX3_claim_51 ?_
  refine gC_3_0 hx hb hts hiX0 hown hK hP hf88 dX3_claim_54 ?_
  refine lv_iload_n hx hb dX3_claim_57 rfl (lv_at hl 1 rfl) ?_
  refine lC_4 hx hb hK hP (by omega) dX3_claim_58 ?_
  refine zt_i (y := (-1)) (hop) ?_
  refine lv_istore (lv' := [(5, .int (-1)), (0, .ref (ad 0)), (1, .int (nI k)), (2, .int g), (3, .int b), (4, .int d)]) hx hb dX3_claim_59 hl (by decide) rfl (fun ls hl => ?_)
  refine lv_aload_n hx hb dX3_claim_61 rfl (lv_at hl 1 rfl) ?_
  refine gC_0_6 hx hb hts hiX3 hown hK hP hf19 dX3_claim_62 ?_
  refine lv_iload hx hb dX3_claim_65 (lv_at hl 0 rfl) ?_
  refine k_X0_has_no l (x := (-1)) (hn := (by omega)) (hk := (fun h => h (Or.inl (by decide)))) hx hb hml hown hts hK hP gX3_claim_X0_has ⟨Nat.le_of_ble_eq_true rfl, Nat.le_of_ble_eq_true rfl⟩ ⟨Nat.le_of_ble_eq_true rfl, Nat.le_of_ble_eq_true rfl⟩ hl.1 (Nat.le_of_ble_eq_true rfl) dX3_claim_67 ?_
  refine zi_eq (tgt := 87) hx hb (by decide) dX3_claim_70 (by decide) (fun c_70 => ?_) (fun c_70 => (show False by exact absurd rfl c_70).elim)
  refine lv_aload_n hx hb dX3_claim_87 rfl (lv_at hl 1 rfl) ?_
  refine gC_0_6 hx hb hts hiX3 hown hK hP hf19 dX3_claim_88 ?_
  refine k_X0_hasPlace l (hn := (by omega)) hx hb hml hown hts hK hP gX3_claim_X0_hasPlace ⟨Nat.le_of_ble_eq_true rfl, Nat.le_of_ble_eq_true rfl⟩ ⟨Nat.le_of_ble_eq_true rfl, Nat.le_of_ble_eq_true rfl⟩ hl.1 (Nat.le_of_ble_eq_true rfl) dX3_claim_91 ?_
  refine zi_ne (tgt := 107) hx hb (by split <;> decide) dX3_claim_94 (by decide) (fun c_94 => ?_) (fun c_94 => (show False by rw [if_pos hn] at c_94; exact absurd c_94 (by decide)).elim)
  refine lv_aload_n hx hb dX3_claim_107 rfl (lv_at hl 1 rfl) ?_
  refine gC_0_6 hx hb hts hiX3 hown hK hP hf19 dX3_claim_108 ?_
  refine lv_iload_n hx hb dX3_claim_111 rfl (lv_at hl 2 rfl) ?_
  refine lv_iload_n hx hb dX3_claim_112 rfl (lv_at hl 3 rfl) ?_
  refine lv_iload_n hx hb dX3_claim_113 rfl (lv_at hl 4 rfl) ?_
  refine lv_if_eq (tgt := 121) hx hb dX3_claim_114 (by decide) (fun c_114 => ?_) (fun c_114 => ?_)
  · refine lv_iconst (v := nI 0) hx hb dX3_claim_121 (by decide) ?_
    refine lv_aload_n hx hb dX3_claim_122 rfl (lv_at hl 1 rfl) ?_
    refine gC_0_3 hx hb hts hiX3 hown hK hP hf76 dX3_claim_123 ?_
    refine lv_iload hx hb dX3_claim_126 (lv_at hl 5 rfl) ?_
    refine lv_iadd hx hb dX3_claim_128 ?_
    refine k_X0_enter l (k := k) (g := g) (x := nI 0) (d := dy + d) (hn := hn) (hk := hk) hx hb hml hown hts hK hP gX3_claim_X0_enter ⟨Nat.le_of_ble_eq_true rfl, Nat.le_of_ble_eq_true rfl⟩ ⟨Nat.le_of_ble_eq_true rfl, Nat.le_of_ble_eq_true rfl⟩ hl.1 (Nat.le_of_ble_eq_true rfl) dX3_claim_129 hI (fun _ h => h) hS (fun H locs hP hS _ => ?_)
    have e_1 : upd st n (nI 0) = upd st n (faultS b) := by first | rfl | (simp [faultS, c_7, c_16, c_37, c_70, c_94, c_114]; done)
    rw [e_1] at hP
    exact W.iret (v := nI n) hx hb hr (fun t ht hW => ⟨⟨nI n, (), rfl, rfl, by (try dsimp only); rw [ht]; exact hP⟩, hS.F ht⟩) hS.2.2 dX3_claim_132
  · refine lv_iconst (v := nI 1) hx hb dX3_claim_117 (by decide) ?_
    refine lv_goto (tgt := 122) hx hb dX3_claim_118 (by decide) ?_
    refine lv_aload_n hx hb dX3_claim_122 rfl (lv_at hl 1 rfl) ?_
    refine gC_0_3 hx hb hts hiX3 hown hK hP hf76 dX3_claim_123 ?_
    refine lv_iload hx hb dX3_claim_126 (lv_at hl 5 rfl) ?_
    refine lv_iadd hx hb dX3_claim_128 ?_
    refine k_X0_enter l (k := k) (g := g) (x := nI 1) (d := dy + d) (hn := hn) (hk := hk) hx hb hml hown hts hK hP gX3_claim_X0_enter ⟨Nat.le_of_ble_eq_true rfl, Nat.le_of_ble_eq_true rfl⟩ ⟨Nat.le_of_ble_eq_true rfl, Nat.le_of_ble_eq_true rfl⟩ hl.1 (Nat.le_of_ble_eq_true rfl) dX3_claim_129 hI (fun _ h => h) hS (fun H locs hP hS _ => ?_)
    have e_2 : upd st n (nI 1) = upd st n (faultS b) := by first | rfl | (simp [faultS, c_7, c_16, c_37, c_70, c_94, c_114]; done)
    rw [e_2] at hP
    exact W.iret (v := nI n) hx hb hr (fun t ht hW => ⟨⟨nI n, (), rfl, rfl, by (try dsimp only); rw [ht]; exact hP⟩, hS.F ht⟩) hS.2.2 dX3_claim_132
section
variable {p : Program} {e : Env} {R : Room} {s : State} {m : MethodId} {args : Array Value} {below : List Frame} {meth : Method} {c : Code} {H : Heap} {locs : List Loc} {cells slots : Nat} {Q : State → Prop} {cc : ByteArray} {pc : Nat} {ls : Array Slot} {rest : List Value} {own : String} {index nL : Nat} {Ts : List Cond} {H0 : Heap} {A0 : Nat → Prop}
theorem k_X3_claim_enter (l : Launch) {dC : Nat → ClassId} {dI : Nat → Nat → Nat} {cI cZ : ClassId} {ad : Nat → Nat} {sm fe ex dy : Int32} {gp gc op gr st dl wo : Nat → Int32} {n : Nat} {yc ya ys yd : Nat → Int32} {q : Nat} {zc zp zr zs zf : Nat → Int32} {z : Nat} {zm zt : Int64} {k : Nat} {g : Int32} {b : Int32} {d : Int32} (hn : n < 24) (h1 : outN (nI k) (nI 0) (nI 29) = 0) (h2 : outN g (nI 0) (nI 4) = 0) (h3 : outN d (nI 0) (nI 100) = 0) (hk : k < 30) (hop : op k = (-1)) (hx : p.tables.exec = Jvm.exec) (hb : c.code = cc) (hml : c.maxLocals = nL) (hown : s.vm.findClass own = some m.cls) (hts : ∀ w ∈ Ts, w.before args s = true) (hK : va_K (dC, dI) vwCl [(cI, .int), (cZ, .boolean)] s) (hP : va_P (dC, dI) vwCl (wC cI cZ ad sm fe ex dy gp gc op gr st dl wo n yc ya ys yd q zc zp zr zs zf z zm zt) H) (hg9 : GoodIn Ts (wsV own index RX3 yX3_claim wsX3_claim)) (hR9 : 1 + 1 ≤ R.frames ∧ 8 + (6 + 11) + 25 ≤ R.locals) (hc9 : cells ≤ R.cells ∧ slots ≤ R.slots) (hl9 : ls.size = nL) (hw9 : (rest.map fun v => v.category).sum ≤ 8) (hdg : decode cc pc = .ok (.invokevirtual index, 3)) (hI : iwC ad) (hA : ∀ x, awC ad x → A0 x) (hS : va_S A0 H0 H locs) (kk : ∀ (H1 : Heap) (locs1 : List Loc), va_P (dC, dI) vwCl (wC cI cZ ad sm fe ex dy gp gc (upd op k (nI n)) (upd gr n g) (upd st n (faultS b)) (upd dl n (dy + d)) wo (n + 1) yc ya ys yd q zc zp zr zs zf z zm zt) H1 → va_S A0 H0 H1 locs1 → (∀ q : Nat, q < H.size → ¬ awC ad q → H1[q]? = H[q]?) → W p l e R s m args below meth c H1 locs1 cells slots Q (F0 m (pc + 3) ls (.int (nI n) :: rest))) : W p l e R s m args below meth c H locs cells slots Q (F0 m pc ls (.int d :: .int b :: .int g :: .int (nI k) :: .ref (ad 0) :: rest)) := va_calli (va_runV (As := [.int (nI k), .int g, .int b, .int d]) (rest := rest) ⟨hx, hb, hml, hown, hts⟩ (c_X3_claim_enter (dC := dC) (dI := dI) (cI := cI) (cZ := cZ) (ad := ad) (sm := sm) (fe := fe) (ex := ex) (dy := dy) (gp := gp) (gc := gc) (op := op) (gr := gr) (st := st) (dl := dl) (wo := wo) (n := n) (yc := yc) (ya := ya) (ys := ys) (yd := yd) (q := q) (zc := zc) (zp := zp) (zr := zr) (zs := zs) (zf := zf) (z := z) (zm := zm) (zt := zt) (k := k) (g := g) (b := b) (d := d) l hI hn h1 h2 h3 hk hop) (cwV 4 hts hg9 rfl rfl rfl (by decide +kernel) hR9) ⟨fun a U g mk q => ⟨q.1, q.2.1, va_K.moved (u := U) (U := U.calling g mk a) (Vm.Alike.refl U.vm) q.2.2⟩, rC_0 hK hP, fun U hU hW => ⟨rfl, by rw [hU]; exact hP, va_K.moved hW.alike hK⟩⟩ rfl rfl hl9 rfl (lv_room hw9) hdg hc9) hS (fun q _ h => hA q h) hA (fun r u t H1 locs1 ht _ hu hB hz hk hS1 => by subst hu; exact kk H1 locs1 (by rw [ht] at hB; exact hB) hS1 hk)
end
set_option maxHeartbeats 4000000 in
set_option maxRecDepth 100000 in
theorem c_X3_claim_ise (l : Launch) (hfl : l.stackTraces = false) {dC : Nat → ClassId} {dI : Nat → Nat → Nat} {cI cZ : ClassId} {ad : Nat → Nat} {sm fe ex dy : Int32} {gp gc op gr st dl wo : Nat → Int32} {n : Nat} {yc ya ys yd : Nat → Int32} {q : Nat} {zc zp zr zs zf : Nat → Int32} {z : Nat} {zm zt : Int64} {k : Nat} {g : Int32} {b : Int32} {d : Int32} (hn : n = 24) (h1 : outN (nI k) (nI 0) (nI 29) = 0) (h2 : outN g (nI 0) (nI 4) = 0) (h3 : outN d (nI 0) (nI 100) = 0) (hk : k < 30) (hop : op k = (-1)) : vx_Met l yX3_claim wsX3_claim { frames := 6, cells := 1, slots := 6, locals := 90 } (va_Pc [.ref (ad 0), .int (nI k), .int g, .int b, .int d] (fun U => va_P (dC, dI) vwCl (wC cI cZ ad sm fe ex dy gp gc op gr st dl wo n yc ya ys yd q zc zp zr zs zf z zm zt) U.heap ∧ va_K (dC, dI) vwCl [(cI, .int), (cZ, .boolean)] U ∧ tX (fun _ => False) U U.heap)) (fun _ _ _ _ => False) (xT "java/lang/IllegalStateException") 1 6 (fun _ => False) := by
  refine vx_ofW (cc := cX3_claim) (maxL := 6) (ret := (some .int)) (by decide) rfl ?_
  intro p e s m args below meth c s₁ B hml ht hv
  obtain ⟨rfl, hP, hK, hT⟩ := hv
  have hx := B.exec
  have hb := B.bytes
  have hr := B.returns
  have hts := atoms_spec (ws := wsX3_claim) B.pre
  have hown : s.vm.findClass RX3 = some m.cls := findClass_of_methodNamed B.named
  have hlocks := B.notSynchronized
  have hl := lv_entry ([.ref (ad 0), .int (nI k), .int g, .int b, .int d]) (n := 6) (Nat.le_of_ble_eq_true rfl)
  rw [lg_entry_eq]
  generalize (lg_sl ([.ref (ad 0), .int (nI k), .int g, .int b, .int d]) ++ List.replicate (6 - (lg_sl ([.ref (ad 0), .int (nI k), .int g, .int b, .int d])).length) Slot.unset).toArray = ls at hl ⊢
  have hl : lv_has ls 6 [(0, .ref (ad 0)), (1, .int (nI k)), (2, .int g), (3, .int b), (4, .int d)] := hl
  have hiX3 : ∀ w ∈ wsX30, w ∈ wsX3_claim := by decide +kernel
  have hf19 := hts (.fieldLink RX3 19 "SettlementFund" "claimBook" "LSettlementFund$ClaimBook;") (by decide +kernel)
  have hiX0 : ∀ w ∈ wsX00, w ∈ wsX3_claim := by decide +kernel
  have hf88 := hts (.fieldLink RX3 88 "SettlementFund$ClaimBook" "ofPerson" "[I") (by decide +kernel)
  refine lv_iload_n hx hb dX3_claim_0 rfl (lv_at hl 1 rfl) ?_
  refine lv_iconst (v := nI 0) hx hb dX3_claim_1 (by decide) ?_
  refine lv_bipush (v := nI 29) hx hb dX3_claim_2 (by decide) ?_
  refine k_X3_isOutside l (x := nI k) (a := nI 0) (b := nI 29) hx hb hml hown hts  gX3_claim_X3_isOutside ⟨Nat.le_of_ble_eq_true rfl, Nat.le_of_ble_eq_true rfl⟩ ⟨Nat.le_of_ble_eq_true rfl, Nat.le_of_ble_eq_true rfl⟩ hl.1 (Nat.le_of_ble_eq_true rfl) dX3_claim_4 ?_
  refine zi_ne (tgt := 19) hx hb (outN_lt _ _ _) dX3_claim_7 (by decide) (fun c_7 => (show False by exact c_7 h1).elim) (fun c_7 => ?_)
  refine lv_iload_n hx hb dX3_claim_10 rfl (lv_at hl 2 rfl) ?_
  refine lv_iconst (v := nI 0) hx hb dX3_claim_11 (by decide) ?_
  refine lv_iconst (v := nI 4) hx hb dX3_claim_12 (by decide) ?_
  refine k_X3_isOutside l (x := g) (a := nI 0) (b := nI 4) hx hb hml hown hts  gX3_claim_X3_isOutside ⟨Nat.le_of_ble_eq_true rfl, Nat.le_of_ble_eq_true rfl⟩ ⟨Nat.le_of_ble_eq_true rfl, Nat.le_of_ble_eq_true rfl⟩ hl.1 (Nat.le_of_ble_eq_true rfl) dX3_claim_13 ?_
  refine zi_eq (tgt := 29) hx hb (outN_lt _ _ _) dX3_claim_16 (by decide) (fun c_16 => ?_) (fun c_16 => (show False by exact c_16 h2).elim)
  refine lv_iload hx hb dX3_claim_29 (lv_at hl 4 rfl) ?_
  refine lv_iconst (v := nI 0) hx hb dX3_claim_31 (by decide) ?_
  refine lv_bipush (v := nI 100) hx hb dX3_claim_32 (by decide) ?_
  refine k_X3_isOutside l (x := d) (a := nI 0) (b := nI 100) hx hb hml hown hts  gX3_claim_X3_isOutside ⟨Nat.le_of_ble_eq_true rfl, Nat.le_of_ble_eq_true rfl⟩ ⟨Nat.le_of_ble_eq_true rfl, Nat.le_of_ble_eq_true rfl⟩ hl.1 (Nat.le_of_ble_eq_true rfl) dX3_claim_34 ?_
  refine zi_eq (tgt := 50) hx hb (outN_lt _ _ _) dX3_claim_37 (by decide) (fun c_37 => ?_) (fun c_37 => (show False by exact c_37 h3).elim)
  refine lv_aload_n hx hb dX3_claim_50 rfl (lv_at hl 0 rfl) ?_
  refine gC_0_6 hx hb hts hiX3 hown hK hP hf19 dX3_claim_51 ?_
  refine gC_3_0 hx hb hts hiX0 hown hK hP hf88 dX3_claim_54 ?_
  refine lv_iload_n hx hb dX3_claim_57 rfl (lv_at hl 1 rfl) ?_
  refine lC_4 hx hb hK hP (by omega) dX3_claim_58 ?_
  refine zt_i (y := (-1)) (hop) ?_
  refine lv_istore (lv' := [(5, .int (-1)), (0, .ref (ad 0)), (1, .int (nI k)), (2, .int g), (3, .int b), (4, .int d)]) hx hb dX3_claim_59 hl (by decide) rfl (fun ls hl => ?_)
  refine lv_aload_n hx hb dX3_claim_61 rfl (lv_at hl 1 rfl) ?_
  refine gC_0_6 hx hb hts hiX3 hown hK hP hf19 dX3_claim_62 ?_
  refine lv_iload hx hb dX3_claim_65 (lv_at hl 0 rfl) ?_
  refine k_X0_has_no l (x := (-1)) (hn := (by omega)) (hk := (fun h => h (Or.inl (by decide)))) hx hb hml hown hts hK hP gX3_claim_X0_has ⟨Nat.le_of_ble_eq_true rfl, Nat.le_of_ble_eq_true rfl⟩ ⟨Nat.le_of_ble_eq_true rfl, Nat.le_of_ble_eq_true rfl⟩ hl.1 (Nat.le_of_ble_eq_true rfl) dX3_claim_67 ?_
  refine zi_eq (tgt := 87) hx hb (by decide) dX3_claim_70 (by decide) (fun c_70 => ?_) (fun c_70 => (show False by exact absurd rfl c_70).elim)
  refine lv_aload_n hx hb dX3_claim_87 rfl (lv_at hl 1 rfl) ?_
  refine gC_0_6 hx hb hts hiX3 hown hK hP hf19 dX3_claim_88 ?_
  refine k_X0_hasPlace l (hn := (by omega)) hx hb hml hown hts hK hP gX3_claim_X0_hasPlace ⟨Nat.le_of_ble_eq_true rfl, Nat.le_of_ble_eq_true rfl⟩ ⟨Nat.le_of_ble_eq_true rfl, Nat.le_of_ble_eq_true rfl⟩ hl.1 (Nat.le_of_ble_eq_true rfl) dX3_claim_91 ?_
  refine zi_ne (tgt := 107) hx hb (by split <;> decide) dX3_claim_94 (by decide) (fun c_94 => (show False by rw [if_neg (by omega)] at c_94; exact c_94 rfl).elim) (fun c_94 => ?_)
  exact zx_IllegalStateException (is := 105) (text := "there is no place for another claim") hx hb hfl hown hts hT (by decide +kernel) (by decide +kernel) (by decide +kernel) (by decide +kernel) (hl.1.trans hml.symm) dX3_claim_97 dX3_claim_100 dX3_claim_101 dX3_claim_103 dX3_claim_106 ht hlocks (Nat.le_of_ble_eq_true rfl) (Nat.le_of_ble_eq_true rfl) (Nat.le_of_ble_eq_true rfl) (Nat.le_of_ble_eq_true rfl)
section
variable {p : Program} {e : Env} {R : Room} {s : State} {m : MethodId} {args : Array Value} {below : List Frame} {meth : Method} {c : Code} {H : Heap} {locs : List Loc} {cells slots : Nat} {Q : State → Prop} {cc : ByteArray} {pc : Nat} {ls : Array Slot} {rest : List Value} {own : String} {index nL : Nat} {Ts : List Cond} {H0 : Heap} {A0 : Nat → Prop}
theorem kr_X3_claim_ise (l : Launch) (hfl : l.stackTraces = false) {dC : Nat → ClassId} {dI : Nat → Nat → Nat} {cI cZ : ClassId} {ad : Nat → Nat} {sm fe ex dy : Int32} {gp gc op gr st dl wo : Nat → Int32} {n : Nat} {yc ya ys yd : Nat → Int32} {q : Nat} {zc zp zr zs zf : Nat → Int32} {z : Nat} {zm zt : Int64} {k : Nat} {g : Int32} {b : Int32} {d : Int32} (hn : n = 24) (h1 : outN (nI k) (nI 0) (nI 29) = 0) (h2 : outN g (nI 0) (nI 4) = 0) (h3 : outN d (nI 0) (nI 100) = 0) (hk : k < 30) (hop : op k = (-1)) (hx : p.tables.exec = Jvm.exec) (hb : c.code = cc) (hml : c.maxLocals = nL) (hown : s.vm.findClass own = some m.cls) (hts : ∀ w ∈ Ts, w.before args s = true) (hK : va_K (dC, dI) vwCl [(cI, .int), (cZ, .boolean)] s) (hP : va_P (dC, dI) vwCl (wC cI cZ ad sm fe ex dy gp gc op gr st dl wo n yc ya ys yd q zc zp zr zs zf z zm zt) H) (hg9 : GoodIn Ts (wsV own index RX3 yX3_claim wsX3_claim)) (hR9 : 6 + 1 ≤ R.frames ∧ 8 + (6 + 11) + 90 ≤ R.locals) (hc9 : cells + 1 ≤ R.cells ∧ slots + 6 ≤ R.slots) (hl9 : ls.size = nL) (hw9 : (rest.map fun v => v.category).sum ≤ 8) (hdg : decode cc pc = .ok (.invokevirtual index, 3)) (hT : tX (fun _ => False) s H) : vx_Run p l e R s m args below meth c H locs cells slots 1 6 (F0 m pc ls (.int d :: .int b :: .int g :: .int (nI k) :: .ref (ad 0) :: rest)) rest (fun _ _ _ => False) (xT "java/lang/IllegalStateException") (fun _ => False) := vx_runV (As := [.int (nI k), .int g, .int b, .int d]) (rest := rest) ⟨hx, hb, hml, hown, hts⟩ (c_X3_claim_ise (dC := dC) (dI := dI) (cI := cI) (cZ := cZ) (ad := ad) (sm := sm) (fe := fe) (ex := ex) (dy := dy) (gp := gp) (gc := gc) (op := op) (gr := gr) (st := st) (dl := dl) (wo := wo) (n := n) (yc := yc) (ya := ya) (ys := ys) (yd := yd) (q := q) (zc := zc) (zp := zp) (zr := zr) (zs := zs) (zf := zf) (z := z) (zm := zm) (zt := zt) (k := k) (g := g) (b := b) (d := d) l hfl hn h1 h2 h3 hk hop) (cwV 4 hts hg9 rfl rfl rfl (by decide +kernel) hR9) ⟨fun a U g mk q => ⟨q.1, q.2.1, va_K.moved (u := U) (U := U.calling g mk a) (Vm.Alike.refl U.vm) q.2.2.1, tX.same (u := U) (U := U.calling g mk a) rfl q.2.2.2⟩, rC_0 hK hP, fun U hU hW => ⟨rfl, by rw [hU]; exact hP, va_K.moved hW.alike hK, by rw [hU]; exact tX.warm hW hT⟩⟩ rfl rfl hl9 rfl (lv_room hw9) hdg hc9
end
set_option maxHeartbeats 4000000 in
set_option maxRecDepth 100000 in
theorem c_X3_claim_ioobe (l : Launch) (hfl : l.stackTraces = false) {dC : Nat → ClassId} {dI : Nat → Nat → Nat} {cI cZ : ClassId} {ad : Nat → Nat} {sm fe ex dy : Int32} {gp gc op gr st dl wo : Nat → Int32} {n : Nat} {yc ya ys yd : Nat → Int32} {q : Nat} {zc zp zr zs zf : Nat → Int32} {z : Nat} {zm zt : Int64} {x1 : Int32} {g : Int32} {b : Int32} {d : Int32} (h1 : ¬ (outN x1 (nI 0) (nI 29) = 0 ∧ outN g (nI 0) (nI 4) = 0)) : vx_Met l yX3_claim wsX3_claim { frames := 6, cells := 1, slots := 6, locals := 90 } (va_Pc [.ref (ad 0), .int x1, .int g, .int b, .int d] (fun U => va_P (dC, dI) vwCl (wC cI cZ ad sm fe ex dy gp gc op gr st dl wo n yc ya ys yd q zc zp zr zs zf z zm zt) U.heap ∧ va_K (dC, dI) vwCl [(cI, .int), (cZ, .boolean)] U ∧ tX (fun _ => False) U U.heap)) (fun _ _ _ _ => False) (xT "java/lang/IndexOutOfBoundsException") 1 6 (fun _ => False) := by
  refine vx_ofW (cc := cX3_claim) (maxL := 6) (ret := (some .int)) (by decide) rfl ?_
  intro p e s m args below meth c s₁ B hml ht hv
  obtain ⟨rfl, hP, hK, hT⟩ := hv
  have hx := B.exec
  have hb := B.bytes
  have hr := B.returns
  have hts := atoms_spec (ws := wsX3_claim) B.pre
  have hown : s.vm.findClass RX3 = some m.cls := findClass_of_methodNamed B.named
  have hlocks := B.notSynchronized
  have hl := lv_entry ([.ref (ad 0), .int x1, .int g, .int b, .int d]) (n := 6) (Nat.le_of_ble_eq_true rfl)
  rw [lg_entry_eq]
  generalize (lg_sl ([.ref (ad 0), .int x1, .int g, .int b, .int d]) ++ List.replicate (6 - (lg_sl ([.ref (ad 0), .int x1, .int g, .int b, .int d])).length) Slot.unset).toArray = ls at hl ⊢
  have hl : lv_has ls 6 [(0, .ref (ad 0)), (1, .int x1), (2, .int g), (3, .int b), (4, .int d)] := hl
  refine lv_iload_n hx hb dX3_claim_0 rfl (lv_at hl 1 rfl) ?_
  refine lv_iconst (v := nI 0) hx hb dX3_claim_1 (by decide) ?_
  refine lv_bipush (v := nI 29) hx hb dX3_claim_2 (by decide) ?_
  refine k_X3_isOutside l (x := x1) (a := nI 0) (b := nI 29) hx hb hml hown hts  gX3_claim_X3_isOutside ⟨Nat.le_of_ble_eq_true rfl, Nat.le_of_ble_eq_true rfl⟩ ⟨Nat.le_of_ble_eq_true rfl, Nat.le_of_ble_eq_true rfl⟩ hl.1 (Nat.le_of_ble_eq_true rfl) dX3_claim_4 ?_
  refine zi_ne (tgt := 19) hx hb (outN_lt _ _ _) dX3_claim_7 (by decide) (fun c_7 => ?_) (fun c_7 => ?_)
  · exact zx_IndexOutOfBoundsException (is := 86) (text := "there is no such person or grade") hx hb hfl hown hts hT (by decide +kernel) (by decide +kernel) (by decide +kernel) (by decide +kernel) (hl.1.trans hml.symm) dX3_claim_19 dX3_claim_22 dX3_claim_23 dX3_claim_25 dX3_claim_28 ht hlocks (Nat.le_of_ble_eq_true rfl) (Nat.le_of_ble_eq_true rfl) (Nat.le_of_ble_eq_true rfl) (Nat.le_of_ble_eq_true rfl)
  · refine lv_iload_n hx hb dX3_claim_10 rfl (lv_at hl 2 rfl) ?_
    refine lv_iconst (v := nI 0) hx hb dX3_claim_11 (by decide) ?_
    refine lv_iconst (v := nI 4) hx hb dX3_claim_12 (by decide) ?_
    refine k_X3_isOutside l (x := g) (a := nI 0) (b := nI 4) hx hb hml hown hts  gX3_claim_X3_isOutside ⟨Nat.le_of_ble_eq_true rfl, Nat.le_of_ble_eq_true rfl⟩ ⟨Nat.le_of_ble_eq_true rfl, Nat.le_of_ble_eq_true rfl⟩ hl.1 (Nat.le_of_ble_eq_true rfl) dX3_claim_13 ?_
    refine zi_eq (tgt := 29) hx hb (outN_lt _ _ _) dX3_claim_16 (by decide) (fun c_16 => (show False by exact h1 ⟨c_7, c_16⟩).elim) (fun c_16 => ?_)
    exact zx_IndexOutOfBoundsException (is := 86) (text := "there is no such person or grade") hx hb hfl hown hts hT (by decide +kernel) (by decide +kernel) (by decide +kernel) (by decide +kernel) (hl.1.trans hml.symm) dX3_claim_19 dX3_claim_22 dX3_claim_23 dX3_claim_25 dX3_claim_28 ht hlocks (Nat.le_of_ble_eq_true rfl) (Nat.le_of_ble_eq_true rfl) (Nat.le_of_ble_eq_true rfl) (Nat.le_of_ble_eq_true rfl)
section
variable {p : Program} {e : Env} {R : Room} {s : State} {m : MethodId} {args : Array Value} {below : List Frame} {meth : Method} {c : Code} {H : Heap} {locs : List Loc} {cells slots : Nat} {Q : State → Prop} {cc : ByteArray} {pc : Nat} {ls : Array Slot} {rest : List Value} {own : String} {index nL : Nat} {Ts : List Cond} {H0 : Heap} {A0 : Nat → Prop}
theorem kr_X3_claim_ioobe (l : Launch) (hfl : l.stackTraces = false) {dC : Nat → ClassId} {dI : Nat → Nat → Nat} {cI cZ : ClassId} {ad : Nat → Nat} {sm fe ex dy : Int32} {gp gc op gr st dl wo : Nat → Int32} {n : Nat} {yc ya ys yd : Nat → Int32} {q : Nat} {zc zp zr zs zf : Nat → Int32} {z : Nat} {zm zt : Int64} {x1 : Int32} {g : Int32} {b : Int32} {d : Int32} (h1 : ¬ (outN x1 (nI 0) (nI 29) = 0 ∧ outN g (nI 0) (nI 4) = 0)) (hx : p.tables.exec = Jvm.exec) (hb : c.code = cc) (hml : c.maxLocals = nL) (hown : s.vm.findClass own = some m.cls) (hts : ∀ w ∈ Ts, w.before args s = true) (hK : va_K (dC, dI) vwCl [(cI, .int), (cZ, .boolean)] s) (hP : va_P (dC, dI) vwCl (wC cI cZ ad sm fe ex dy gp gc op gr st dl wo n yc ya ys yd q zc zp zr zs zf z zm zt) H) (hg9 : GoodIn Ts (wsV own index RX3 yX3_claim wsX3_claim)) (hR9 : 6 + 1 ≤ R.frames ∧ 8 + (6 + 11) + 90 ≤ R.locals) (hc9 : cells + 1 ≤ R.cells ∧ slots + 6 ≤ R.slots) (hl9 : ls.size = nL) (hw9 : (rest.map fun v => v.category).sum ≤ 8) (hdg : decode cc pc = .ok (.invokevirtual index, 3)) (hT : tX (fun _ => False) s H) : vx_Run p l e R s m args below meth c H locs cells slots 1 6 (F0 m pc ls (.int d :: .int b :: .int g :: .int x1 :: .ref (ad 0) :: rest)) rest (fun _ _ _ => False) (xT "java/lang/IndexOutOfBoundsException") (fun _ => False) := vx_runV (As := [.int x1, .int g, .int b, .int d]) (rest := rest) ⟨hx, hb, hml, hown, hts⟩ (c_X3_claim_ioobe (dC := dC) (dI := dI) (cI := cI) (cZ := cZ) (ad := ad) (sm := sm) (fe := fe) (ex := ex) (dy := dy) (gp := gp) (gc := gc) (op := op) (gr := gr) (st := st) (dl := dl) (wo := wo) (n := n) (yc := yc) (ya := ya) (ys := ys) (yd := yd) (q := q) (zc := zc) (zp := zp) (zr := zr) (zs := zs) (zf := zf) (z := z) (zm := zm) (zt := zt) (x1 := x1) (g := g) (b := b) (d := d) l hfl h1) (cwV 4 hts hg9 rfl rfl rfl (by decide +kernel) hR9) ⟨fun a U g mk q => ⟨q.1, q.2.1, va_K.moved (u := U) (U := U.calling g mk a) (Vm.Alike.refl U.vm) q.2.2.1, tX.same (u := U) (U := U.calling g mk a) rfl q.2.2.2⟩, rC_0 hK hP, fun U hU hW => ⟨rfl, by rw [hU]; exact hP, va_K.moved hW.alike hK, by rw [hU]; exact tX.warm hW hT⟩⟩ rfl rfl hl9 rfl (lv_room hw9) hdg hc9
end
set_option maxHeartbeats 4000000 in
set_option maxRecDepth 100000 in
theorem c_X3_claim_iae (l : Launch) (hfl : l.stackTraces = false) {dC : Nat → ClassId} {dI : Nat → Nat → Nat} {cI cZ : ClassId} {ad : Nat → Nat} {sm fe ex dy : Int32} {gp gc op gr st dl wo : Nat → Int32} {n : Nat} {yc ya ys yd : Nat → Int32} {q : Nat} {zc zp zr zs zf : Nat → Int32} {z : Nat} {zm zt : Int64} {x1 : Int32} {g : Int32} {b : Int32} {d : Int32} (h1 : outN x1 (nI 0) (nI 29) = 0) (h2 : outN g (nI 0) (nI 4) = 0) (h3 : ¬ outN d (nI 0) (nI 100) = 0) : vx_Met l yX3_claim wsX3_claim { frames := 6, cells := 1, slots := 6, locals := 90 } (va_Pc [.ref (ad 0), .int x1, .int g, .int b, .int d] (fun U => va_P (dC, dI) vwCl (wC cI cZ ad sm fe ex dy gp gc op gr st dl wo n yc ya ys yd q zc zp zr zs zf z zm zt) U.heap ∧ va_K (dC, dI) vwCl [(cI, .int), (cZ, .boolean)] U ∧ tX (fun _ => False) U U.heap)) (fun _ _ _ _ => False) (xT "java/lang/IllegalArgumentException") 1 6 (fun _ => False) := by
  refine vx_ofW (cc := cX3_claim) (maxL := 6) (ret := (some .int)) (by decide) rfl ?_
  intro p e s m args below meth c s₁ B hml ht hv
  obtain ⟨rfl, hP, hK, hT⟩ := hv
  have hx := B.exec
  have hb := B.bytes
  have hr := B.returns
  have hts := atoms_spec (ws := wsX3_claim) B.pre
  have hown : s.vm.findClass RX3 = some m.cls := findClass_of_methodNamed B.named
  have hlocks := B.notSynchronized
  have hl := lv_entry ([.ref (ad 0), .int x1, .int g, .int b, .int d]) (n := 6) (Nat.le_of_ble_eq_true rfl)
  rw [lg_entry_eq]
  generalize (lg_sl ([.ref (ad 0), .int x1, .int g, .int b, .int d]) ++ List.replicate (6 - (lg_sl ([.ref (ad 0), .int x1, .int g, .int b, .int d])).length) Slot.unset).toArray = ls at hl ⊢
  have hl : lv_has ls 6 [(0, .ref (ad 0)), (1, .int x1), (2, .int g), (3, .int b), (4, .int d)] := hl
  refine lv_iload_n hx hb dX3_claim_0 rfl (lv_at hl 1 rfl) ?_
  refine lv_iconst (v := nI 0) hx hb dX3_claim_1 (by decide) ?_
  refine lv_bipush (v := nI 29) hx hb dX3_claim_2 (by decide) ?_
  refine k_X3_isOutside l (x := x1) (a := nI 0) (b := nI 29) hx hb hml hown hts  gX3_claim_X3_isOutside ⟨Nat.le_of_ble_eq_true rfl, Nat.le_of_ble_eq_true rfl⟩ ⟨Nat.le_of_ble_eq_true rfl, Nat.le_of_ble_eq_true rfl⟩ hl.1 (Nat.le_of_ble_eq_true rfl) dX3_claim_4 ?_
  refine zi_ne (tgt := 19) hx hb (outN_lt _ _ _) dX3_claim_7 (by decide) (fun c_7 => (show False by exact c_7 h1).elim) (fun c_7 => ?_)
  refine lv_iload_n hx hb dX3_claim_10 rfl (lv_at hl 2 rfl) ?_
  refine lv_iconst (v := nI 0) hx hb dX3_claim_11 (by decide) ?_
  refine lv_iconst (v := nI 4) hx hb dX3_claim_12 (by decide) ?_
  refine k_X3_isOutside l (x := g) (a := nI 0) (b := nI 4) hx hb hml hown hts  gX3_claim_X3_isOutside ⟨Nat.le_of_ble_eq_true rfl, Nat.le_of_ble_eq_true rfl⟩ ⟨Nat.le_of_ble_eq_true rfl, Nat.le_of_ble_eq_true rfl⟩ hl.1 (Nat.le_of_ble_eq_true rfl) dX3_claim_13 ?_
  refine zi_eq (tgt := 29) hx hb (outN_lt _ _ _) dX3_claim_16 (by decide) (fun c_16 => ?_) (fun c_16 => (show False by exact c_16 h2).elim)
  refine lv_iload hx hb dX3_claim_29 (lv_at hl 4 rfl) ?_
  refine lv_iconst (v := nI 0) hx hb dX3_claim_31 (by decide) ?_
  refine lv_bipush (v := nI 100) hx hb dX3_claim_32 (by decide) ?_
  refine k_X3_isOutside l (x := d) (a := nI 0) (b := nI 100) hx hb hml hown hts  gX3_claim_X3_isOutside ⟨Nat.le_of_ble_eq_true rfl, Nat.le_of_ble_eq_true rfl⟩ ⟨Nat.le_of_ble_eq_true rfl, Nat.le_of_ble_eq_true rfl⟩ hl.1 (Nat.le_of_ble_eq_true rfl) dX3_claim_34 ?_
  refine zi_eq (tgt := 50) hx hb (outN_lt _ _ _) dX3_claim_37 (by decide) (fun c_37 => (show False by exact h3 c_37).elim) (fun c_37 => ?_)
  exact zx_IllegalArgumentException (is := 74) (text := "days is out of range") hx hb hfl hown hts hT (by decide +kernel) (by decide +kernel) (by decide +kernel) (by decide +kernel) (hl.1.trans hml.symm) dX3_claim_40 dX3_claim_43 dX3_claim_44 dX3_claim_46 dX3_claim_49 ht hlocks (Nat.le_of_ble_eq_true rfl) (Nat.le_of_ble_eq_true rfl) (Nat.le_of_ble_eq_true rfl) (Nat.le_of_ble_eq_true rfl)
section
variable {p : Program} {e : Env} {R : Room} {s : State} {m : MethodId} {args : Array Value} {below : List Frame} {meth : Method} {c : Code} {H : Heap} {locs : List Loc} {cells slots : Nat} {Q : State → Prop} {cc : ByteArray} {pc : Nat} {ls : Array Slot} {rest : List Value} {own : String} {index nL : Nat} {Ts : List Cond} {H0 : Heap} {A0 : Nat → Prop}
theorem kr_X3_claim_iae (l : Launch) (hfl : l.stackTraces = false) {dC : Nat → ClassId} {dI : Nat → Nat → Nat} {cI cZ : ClassId} {ad : Nat → Nat} {sm fe ex dy : Int32} {gp gc op gr st dl wo : Nat → Int32} {n : Nat} {yc ya ys yd : Nat → Int32} {q : Nat} {zc zp zr zs zf : Nat → Int32} {z : Nat} {zm zt : Int64} {x1 : Int32} {g : Int32} {b : Int32} {d : Int32} (h1 : outN x1 (nI 0) (nI 29) = 0) (h2 : outN g (nI 0) (nI 4) = 0) (h3 : ¬ outN d (nI 0) (nI 100) = 0) (hx : p.tables.exec = Jvm.exec) (hb : c.code = cc) (hml : c.maxLocals = nL) (hown : s.vm.findClass own = some m.cls) (hts : ∀ w ∈ Ts, w.before args s = true) (hK : va_K (dC, dI) vwCl [(cI, .int), (cZ, .boolean)] s) (hP : va_P (dC, dI) vwCl (wC cI cZ ad sm fe ex dy gp gc op gr st dl wo n yc ya ys yd q zc zp zr zs zf z zm zt) H) (hg9 : GoodIn Ts (wsV own index RX3 yX3_claim wsX3_claim)) (hR9 : 6 + 1 ≤ R.frames ∧ 8 + (6 + 11) + 90 ≤ R.locals) (hc9 : cells + 1 ≤ R.cells ∧ slots + 6 ≤ R.slots) (hl9 : ls.size = nL) (hw9 : (rest.map fun v => v.category).sum ≤ 8) (hdg : decode cc pc = .ok (.invokevirtual index, 3)) (hT : tX (fun _ => False) s H) : vx_Run p l e R s m args below meth c H locs cells slots 1 6 (F0 m pc ls (.int d :: .int b :: .int g :: .int x1 :: .ref (ad 0) :: rest)) rest (fun _ _ _ => False) (xT "java/lang/IllegalArgumentException") (fun _ => False) := vx_runV (As := [.int x1, .int g, .int b, .int d]) (rest := rest) ⟨hx, hb, hml, hown, hts⟩ (c_X3_claim_iae (dC := dC) (dI := dI) (cI := cI) (cZ := cZ) (ad := ad) (sm := sm) (fe := fe) (ex := ex) (dy := dy) (gp := gp) (gc := gc) (op := op) (gr := gr) (st := st) (dl := dl) (wo := wo) (n := n) (yc := yc) (ya := ya) (ys := ys) (yd := yd) (q := q) (zc := zc) (zp := zp) (zr := zr) (zs := zs) (zf := zf) (z := z) (zm := zm) (zt := zt) (x1 := x1) (g := g) (b := b) (d := d) l hfl h1 h2 h3) (cwV 4 hts hg9 rfl rfl rfl (by decide +kernel) hR9) ⟨fun a U g mk q => ⟨q.1, q.2.1, va_K.moved (u := U) (U := U.calling g mk a) (Vm.Alike.refl U.vm) q.2.2.1, tX.same (u := U) (U := U.calling g mk a) rfl q.2.2.2⟩, rC_0 hK hP, fun U hU hW => ⟨rfl, by rw [hU]; exact hP, va_K.moved hW.alike hK, by rw [hU]; exact tX.warm hW hT⟩⟩ rfl rfl hl9 rfl (lv_room hw9) hdg hc9
end
