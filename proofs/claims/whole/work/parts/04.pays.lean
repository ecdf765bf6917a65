/-! plain functions: the payments' book -/
def anyB (p : Nat → Bool) : Nat → Bool
  | 0 => false
  | i + 1 => anyB p i || p i
theorem anyB_of {p : Nat → Bool} : ∀ {n i : Nat}, i < n → p i = true → anyB p n = true
  | 0, _, h, _ => absurd h (Nat.not_lt_zero _)
  | n + 1, i, h, hp => by
    show (anyB p n || p n) = true
    rcases Nat.lt_or_ge i n with q | q
    · rw [anyB_of q hp]; rfl
    · have e : i = n := by omega
      subst e
      rw [hp, Bool.or_true]
def voidF (ys yd : Nat → Int32) (d : Int32) : Nat → (Nat → Int32)
  | 0 => ys
  | i + 1 => if voidF ys yd d i i = 0 ∧ ¬ d - yd i ≤ nI 30 then upd (voidF ys yd d i) i (nI 2) else voidF ys yd d i
def sumForI (yc ya ys : Nat → Int32) (w : Int32) : Nat → Int32
  | 0 => nI 0
  | i + 1 => if yc i = w ∧ ¬ ys i = nI 2 then sumForI yc ya ys w i + ya i else sumForI yc ya ys w i
def sumAllI (ya ys : Nat → Int32) : Nat → Int32
  | 0 => nI 0
  | i + 1 => if ¬ ys i = nI 2 then sumAllI ya ys i + ya i else sumAllI ya ys i
def openB (ys : Nat → Int32) (q : Nat) : Bool := anyB (fun k => decide (ys k = 0)) q
def vdB (yc ys : Nat → Int32) (w : Int32) (q : Nat) : Bool := anyB (fun k => decide (yc k = w) && decide (ys k = nI 2)) q

set_option maxHeartbeats 4000000 in
set_option maxRecDepth 100000 in
theorem c_X1_has_ok (l : Launch) {dC : Nat → ClassId} {dI : Nat → Nat → Nat} {cI cZ : ClassId} {ad : Nat → Nat} {sm fe ex dy : Int32} {gp gc op gr st dl wo : Nat → Int32} {n : Nat} {yc ya ys yd : Nat → Int32} {q : Nat} {zc zp zr zs zf : Nat → Int32} {z : Nat} {zm zt : Int64} {k : Nat} (hq : q ≤ 100) (hk : k < q) : Met l yX1_has wsX1_has { frames := 0, cells := 0, slots := 0, locals := 0 } (va_Pc [.ref (ad 9), .int (nI k)] (fun U => va_P (dC, dI) vwCl (wC cI cZ ad sm fe ex dy gp gc op gr st dl wo n yc ya ys yd q zc zp zr zs zf z zm zt) U.heap ∧ va_K (dC, dI) vwCl [(cI, .int), (cZ, .boolean)] U)) (vp_Si (fun r => r = nI 1)) 0 0 (fun _ => False) := by
  refine Met.ofW (cc := cX1_has) (maxL := 2) (ret := (some .boolean)) (by decide) rfl ?_
  intro p e s m args below meth c s₁ B hml hv
  obtain ⟨rfl, hP, hK⟩ := hv
  have hx := B.exec
  have hb := B.bytes
  have hr := B.returns
  have hts := atoms_spec (ws := wsX1_has) B.pre
  have hown : s.vm.findClass RX1 = some m.cls := findClass_of_methodNamed B.named
  have hlocks := B.notSynchronized
  have hl := lv_entry ([.ref (ad 9), .int (nI k)]) (n := 2) (Nat.le_of_ble_eq_true rfl)
  rw [lg_entry_eq]
  generalize (lg_sl ([.ref (ad 9), .int (nI k)]) ++ List.replicate (2 - (lg_sl ([.ref (ad 9), .int (nI k)])).length) Slot.unset).toArray = ls at hl ⊢
  have hl : lv_has ls 2 [(0, .ref (ad 9)), (1, .int (nI k))] := hl
  have hiX1 : ∀ w ∈ wsX10, w ∈ wsX1_has := by decide +kernel
  have hf24 := hts (.fieldLink RX1 24 "SettlementFund$PaymentBook" "size" "I") (by decide +kernel)
  refine lv_iload_n hx hb dX1_has_0 rfl (lv_at hl 1 rfl) ?_
  refine zi_lt (tgt := 16) hx hb (by omega) dX1_has_1 (by decide) (fun c_1 => (show False by exact c_1).elim) (fun c_1 => ?_)
  refine lv_iload_n hx hb dX1_has_4 rfl (lv_at hl 1 rfl) ?_
  refine lv_aload_n hx hb dX1_has_5 rfl (lv_at hl 0 rfl) ?_
  refine gC_9_4 hx hb hts hiX1 hown hK hP hf24 dX1_has_6 ?_
  refine zb_ge (tgt := 16) hx hb (by omega) (by omega) dX1_has_9 (by decide) (fun c_9 => (show False by omega).elim) (fun c_9 => ?_)
  refine lv_iconst (v := nI 1) hx hb dX1_has_12 (by decide) ?_
  refine lv_goto (tgt := 17) hx hb dX1_has_13 (by decide) ?_
  exact W.zret (v := nI 1) hx hb hr (rfl) (fun t ht hW => ⟨nI 1, rfl, rfl, ht⟩) (fun _ h => nomatch h) dX1_has_17
section
variable {p : Program} {e : Env} {R : Room} {s : State} {m : MethodId} {args : Array Value} {below : List Frame} {meth : Method} {c : Code} {H : Heap} {locs : List Loc} {cells slots : Nat} {Q : State → Prop} {cc : ByteArray} {pc : Nat} {ls : Array Slot} {rest : List Value} {own : String} {index nL : Nat} {Ts : List Cond} {H0 : Heap} {A0 : Nat → Prop}
theorem k_X1_has_ok (l : Launch) {dC : Nat → ClassId} {dI : Nat → Nat → Nat} {cI cZ : ClassId} {ad : Nat → Nat} {sm fe ex dy : Int32} {gp gc op gr st dl wo : Nat → Int32} {n : Nat} {yc ya ys yd : Nat → Int32} {q : Nat} {zc zp zr zs zf : Nat → Int32} {z : Nat} {zm zt : Int64} {k : Nat} (hq : q ≤ 100) (hk : k < q) (hx : p.tables.exec = Jvm.exec) (hb : c.code = cc) (hml : c.maxLocals = nL) (hown : s.vm.findClass own = some m.cls) (hts : ∀ w ∈ Ts, w.before args s = true) (hK : va_K (dC, dI) vwCl [(cI, .int), (cZ, .boolean)] s) (hP : va_P (dC, dI) vwCl (wC cI cZ ad sm fe ex dy gp gc op gr st dl wo n yc ya ys yd q zc zp zr zs zf z zm zt) H) (hg9 : GoodIn Ts (wsV own index RX1 yX1_has wsX1_has)) (hR9 : 0 + 1 ≤ R.frames ∧ 8 + (2 + 11) + 0 ≤ R.locals) (hc9 : cells ≤ R.cells ∧ slots ≤ R.slots) (hl9 : ls.size = nL) (hw9 : (rest.map fun v => v.category).sum ≤ 8) (hdg : decode cc pc = .ok (.invokevirtual index, 3)) (kk : W p l e R s m args below meth c H locs cells slots Q (F0 m (pc + 3) ls (.int (nI 1) :: rest))) : W p l e R s m args below meth c H locs cells slots Q (F0 m pc ls (.int (nI k) :: .ref (ad 9) :: rest)) := zc_ro (W.runV (As := [.int (nI k)]) (rest := rest) ⟨hx, hb, hml, hown, hts⟩ (c_X1_has_ok (dC := dC) (dI := dI) (cI := cI) (cZ := cZ) (ad := ad) (sm := sm) (fe := fe) (ex := ex) (dy := dy) (gp := gp) (gc := gc) (op := op) (gr := gr) (st := st) (dl := dl) (wo := wo) (n := n) (yc := yc) (ya := ya) (ys := ys) (yd := yd) (q := q) (zc := zc) (zp := zp) (zr := zr) (zs := zs) (zf := zf) (z := z) (zm := zm) (zt := zt) (k := k) l hq hk) (cwV 1 hts hg9 rfl rfl rfl (by decide +kernel) hR9) ⟨fun a U g mk q => ⟨q.1, q.2.1, va_K.moved (u := U) (U := U.calling g mk a) (Vm.Alike.refl U.vm) q.2.2⟩, rC_9 hK hP, fun U hU hW => ⟨rfl, by rw [hU]; exact hP, va_K.moved hW.alike hK⟩⟩ rfl rfl hl9 rfl (lv_room hw9) hdg hc9) (fun r h => by subst h; exact kk)
end
set_option maxHeartbeats 4000000 in
set_option maxRecDepth 100000 in
theorem c_X1_has_no (l : Launch) {dC : Nat → ClassId} {dI : Nat → Nat → Nat} {cI cZ : ClassId} {ad : Nat → Nat} {sm fe ex dy : Int32} {gp gc op gr st dl wo : Nat → Int32} {n : Nat} {yc ya ys yd : Nat → Int32} {q : Nat} {zc zp zr zs zf : Nat → Int32} {z : Nat} {zm zt : Int64} {x : Int32} (hq : q ≤ 100) (hk : ¬ vp_in x q) : Met l yX1_has wsX1_has { frames := 0, cells := 0, slots := 0, locals := 0 } (va_Pc [.ref (ad 9), .int x] (fun U => va_P (dC, dI) vwCl (wC cI cZ ad sm fe ex dy gp gc op gr st dl wo n yc ya ys yd q zc zp zr zs zf z zm zt) U.heap ∧ va_K (dC, dI) vwCl [(cI, .int), (cZ, .boolean)] U)) (vp_Si (fun r => r = nI 0)) 0 0 (fun _ => False) := by
  refine Met.ofW (cc := cX1_has) (maxL := 2) (ret := (some .boolean)) (by decide) rfl ?_
  intro p e s m args below meth c s₁ B hml hv
  obtain ⟨rfl, hP, hK⟩ := hv
  have hx := B.exec
  have hb := B.bytes
  have hr := B.returns
  have hts := atoms_spec (ws := wsX1_has) B.pre
  have hown : s.vm.findClass RX1 = some m.cls := findClass_of_methodNamed B.named
  have hlocks := B.notSynchronized
  have hl := lv_entry ([.ref (ad 9), .int x]) (n := 2) (Nat.le_of_ble_eq_true rfl)
  rw [lg_entry_eq]
  generalize (lg_sl ([.ref (ad 9), .int x]) ++ List.replicate (2 - (lg_sl ([.ref (ad 9), .int x])).length) Slot.unset).toArray = ls at hl ⊢
  have hl : lv_has ls 2 [(0, .ref (ad 9)), (1, .int x)] := hl
  have hiX1 : ∀ w ∈ wsX10, w ∈ wsX1_has := by decide +kernel
  have hf24 := hts (.fieldLink RX1 24 "SettlementFund$PaymentBook" "size" "I") (by decide +kernel)
  refine lv_iload_n hx hb dX1_has_0 rfl (lv_at hl 1 rfl) ?_
  refine lv_if_lt (tgt := 16) hx hb dX1_has_1 (by decide) (fun c_1 => ?_) (fun c_1 => ?_)
  · refine lv_iconst (v := nI 0) hx hb dX1_has_16 (by decide) ?_
    exact W.zret (v := nI 0) hx hb hr (rfl) (fun t ht hW => ⟨nI 0, rfl, rfl, ht⟩) (fun _ h => nomatch h) dX1_has_17
  · refine lv_iload_n hx hb dX1_has_4 rfl (lv_at hl 1 rfl) ?_
    refine lv_aload_n hx hb dX1_has_5 rfl (lv_at hl 0 rfl) ?_
    refine gC_9_4 hx hb hts hiX1 hown hK hP hf24 dX1_has_6 ?_
    refine lv_icmp_ge (tgt := 16) hx hb dX1_has_9 (by decide) (fun c_9 => ?_) (fun c_9 => (show False by exact zz_out (by omega) hk c_1 c_9).elim)
    refine lv_iconst (v := nI 0) hx hb dX1_has_16 (by decide) ?_
    exact W.zret (v := nI 0) hx hb hr (rfl) (fun t ht hW => ⟨nI 0, rfl, rfl, ht⟩) (fun _ h => nomatch h) dX1_has_17
section
variable {p : Program} {e : Env} {R : Room} {s : State} {m : MethodId} {args : Array Value} {below : List Frame} {meth : Method} {c : Code} {H : Heap} {locs : List Loc} {cells slots : Nat} {Q : State → Prop} {cc : ByteArray} {pc : Nat} {ls : Array Slot} {rest : List Value} {own : String} {index nL : Nat} {Ts : List Cond} {H0 : Heap} {A0 : Nat → Prop}
theorem k_X1_has_no (l : Launch) {dC : Nat → ClassId} {dI : Nat → Nat → Nat} {cI cZ : ClassId} {ad : Nat → Nat} {sm fe ex dy : Int32} {gp gc op gr st dl wo : Nat → Int32} {n : Nat} {yc ya ys yd : Nat → Int32} {q : Nat} {zc zp zr zs zf : Nat → Int32} {z : Nat} {zm zt : Int64} {x : Int32} (hq : q ≤ 100) (hk : ¬ vp_in x q) (hx : p.tables.exec = Jvm.exec) (hb : c.code = cc) (hml : c.maxLocals = nL) (hown : s.vm.findClass own = some m.cls) (hts : ∀ w ∈ Ts, w.before args s = true) (hK : va_K (dC, dI) vwCl [(cI, .int), (cZ, .boolean)] s) (hP : va_P (dC, dI) vwCl (wC cI cZ ad sm fe ex dy gp gc op gr st dl wo n yc ya ys yd q zc zp zr zs zf z zm zt) H) (hg9 : GoodIn Ts (wsV own index RX1 yX1_has wsX1_has)) (hR9 : 0 + 1 ≤ R.frames ∧ 8 + (2 + 11) + 0 ≤ R.locals) (hc9 : cells ≤ R.cells ∧ slots ≤ R.slots) (hl9 : ls.size = nL) (hw9 : (rest.map fun v => v.category).sum ≤ 8) (hdg : decode cc pc = .ok (.invokevirtual index, 3)) (kk : W p l e R s m args below meth c H locs cells slots Q (F0 m (pc + 3) ls (.int (nI 0) :: rest))) : W p l e R s m args below meth c H locs cells slots Q (F0 m pc ls (.int x :: .ref (ad 9) :: rest)) := zc_ro (W.runV (As := [.int x]) (rest := rest) ⟨hx, hb, hml, hown, hts⟩ (c_X1_has_no (dC := dC) (dI := dI) (cI := cI) (cZ := cZ) (ad := ad) (sm := sm) (fe := fe) (ex := ex) (dy := dy) (gp := gp) (gc := gc) (op := op) (gr := gr) (st := st) (dl := dl) (wo := wo) (n := n) (yc := yc) (ya := ya) (ys := ys) (yd := yd) (q := q) (zc := zc) (zp := zp) (zr := zr) (zs := zs) (zf := zf) (z := z) (zm := zm) (zt := zt) (x := x) l hq hk) (cwV 1 hts hg9 rfl rfl rfl (by decide +kernel) hR9) ⟨fun a U g mk q => ⟨q.1, q.2.1, va_K.moved (u := U) (U := U.calling g mk a) (Vm.Alike.refl U.vm) q.2.2⟩, rC_9 hK hP, fun U hU hW => ⟨rfl, by rw [hU]; exact hP, va_K.moved hW.alike hK⟩⟩ rfl rfl hl9 rfl (lv_room hw9) hdg hc9) (fun r h => by subst h; exact kk)
end
set_option maxHeartbeats 4000000 in
set_option maxRecDepth 100000 in
theorem c_X1_hasPlacesFor (l : Launch) {dC : Nat → ClassId} {dI : Nat → Nat → Nat} {cI cZ : ClassId} {ad : Nat → Nat} {sm fe ex dy : Int32} {gp gc op gr st dl wo : Nat → Int32} {n : Nat} {yc ya ys yd : Nat → Int32} {q : Nat} {zc zp zr zs zf : Nat → Int32} {z : Nat} {zm zt : Int64} {k : Nat} (hq : q ≤ 100) (hk : k < 1000) : Met l yX1_hasPlacesFor wsX1_hasPlacesFor { frames := 0, cells := 0, slots := 0, locals := 0 } (va_Pc [.ref (ad 9), .int (nI k)] (fun U => va_P (dC, dI) vwCl (wC cI cZ ad sm fe ex dy gp gc op gr st dl wo n yc ya ys yd q zc zp zr zs zf z zm zt) U.heap ∧ va_K (dC, dI) vwCl [(cI, .int), (cZ, .boolean)] U)) (vp_Si (fun r => r = nI (if k ≤ 100 - q then 1 else 0))) 0 0 (fun _ => False) := by
  refine Met.ofW (cc := cX1_hasPlacesFor) (maxL := 2) (ret := (some .boolean)) (by decide) rfl ?_
  intro p e s m args below meth c s₁ B hml hv
  obtain ⟨rfl, hP, hK⟩ := hv
  have hx := B.exec
  have hb := B.bytes
  have hr := B.returns
  have hts := atoms_spec (ws := wsX1_hasPlacesFor) B.pre
  have hown : s.vm.findClass RX1 = some m.cls := findClass_of_methodNamed B.named
  have hlocks := B.notSynchronized
  have hl := lv_entry ([.ref (ad 9), .int (nI k)]) (n := 2) (Nat.le_of_ble_eq_true rfl)
  rw [lg_entry_eq]
  generalize (lg_sl ([.ref (ad 9), .int (nI k)]) ++ List.replicate (2 - (lg_sl ([.ref (ad 9), .int (nI k)])).length) Slot.unset).toArray = ls at hl ⊢
  have hl : lv_has ls 2 [(0, .ref (ad 9)), (1, .int (nI k))] := hl
  have hiX1 : ∀ w ∈ wsX10, w ∈ wsX1_hasPlacesFor := by decide +kernel
  have hf24 := hts (.fieldLink RX1 24 "SettlementFund$PaymentBook" "size" "I") (by decide +kernel)
  refine lv_iload_n hx hb dX1_hasPlacesFor_0 rfl (lv_at hl 1 rfl) ?_
  refine lv_bipush (v := nI 100) hx hb dX1_hasPlacesFor_1 (by decide) ?_
  refine lv_aload_n hx hb dX1_hasPlacesFor_3 rfl (lv_at hl 0 rfl) ?_
  refine gC_9_4 hx hb hts hiX1 hown hK hP hf24 dX1_hasPlacesFor_4 ?_
  refine lv_isub hx hb dX1_hasPlacesFor_7 ?_
  refine zt_i (y := nI (100 - q)) (pk_sub (by omega)) ?_
  refine zb_gt (tgt := 15) hx hb (by omega) (by omega) dX1_hasPlacesFor_8 (by decide) (fun c_8 => ?_) (fun c_8 => ?_)
  · refine lv_iconst (v := nI 0) hx hb dX1_hasPlacesFor_15 (by decide) ?_
    exact W.zret (v := nI 0) hx hb hr (rfl) (fun t ht hW => ⟨nI 0, rfl, by rw [if_neg (by omega)], ht⟩) (fun _ h => nomatch h) dX1_hasPlacesFor_16
  · refine lv_iconst (v := nI 1) hx hb dX1_hasPlacesFor_11 (by decide) ?_
    refine lv_goto (tgt := 16) hx hb dX1_hasPlacesFor_12 (by decide) ?_
    exact W.zret (v := nI 1) hx hb hr (rfl) (fun t ht hW => ⟨nI 1, rfl, by rw [if_pos (by omega)], ht⟩) (fun _ h => nomatch h) dX1_hasPlacesFor_16
section
variable {p : Program} {e : Env} {R : Room} {s : State} {m : MethodId} {args : Array Value} {below : List Frame} {meth : Method} {c : Code} {H : Heap} {locs : List Loc} {cells slots : Nat} {Q : State → Prop} {cc : ByteArray} {pc : Nat} {ls : Array Slot} {rest : List Value} {own : String} {index nL : Nat} {Ts : List Cond} {H0 : Heap} {A0 : Nat → Prop}
theorem k_X1_hasPlacesFor (l : Launch) {dC : Nat → ClassId} {dI : Nat → Nat → Nat} {cI cZ : ClassId} {ad : Nat → Nat} {sm fe ex dy : Int32} {gp gc op gr st dl wo : Nat → Int32} {n : Nat} {yc ya ys yd : Nat → Int32} {q : Nat} {zc zp zr zs zf : Nat → Int32} {z : Nat} {zm zt : Int64} {k : Nat} (hq : q ≤ 100) (hk : k < 1000) (hx : p.tables.exec = Jvm.exec) (hb : c.code = cc) (hml : c.maxLocals = nL) (hown : s.vm.findClass own = some m.cls) (hts : ∀ w ∈ Ts, w.before args s = true) (hK : va_K (dC, dI) vwCl [(cI, .int), (cZ, .boolean)] s) (hP : va_P (dC, dI) vwCl (wC cI cZ ad sm fe ex dy gp gc op gr st dl wo n yc ya ys yd q zc zp zr zs zf z zm zt) H) (hg9 : GoodIn Ts (wsV own index RX1 yX1_hasPlacesFor wsX1_hasPlacesFor)) (hR9 : 0 + 1 ≤ R.frames ∧ 8 + (2 + 11) + 0 ≤ R.locals) (hc9 : cells ≤ R.cells ∧ slots ≤ R.slots) (hl9 : ls.size = nL) (hw9 : (rest.map fun v => v.category).sum ≤ 8) (hdg : decode cc pc = .ok (.invokevirtual index, 3)) (kk : W p l e R s m args below meth c H locs cells slots Q (F0 m (pc + 3) ls (.int (nI (if k ≤ 100 - q then 1 else 0)) :: rest))) : W p l e R s m args below meth c H locs cells slots Q (F0 m pc ls (.int (nI k) :: .ref (ad 9) :: rest)) := zc_ro (W.runV (As := [.int (nI k)]) (rest := rest) ⟨hx, hb, hml, hown, hts⟩ (c_X1_hasPlacesFor (dC := dC) (dI := dI) (cI := cI) (cZ := cZ) (ad := ad) (sm := sm) (fe := fe) (ex := ex) (dy := dy) (gp := gp) (gc := gc) (op := op) (gr := gr) (st := st) (dl := dl) (wo := wo) (n := n) (yc := yc) (ya := ya) (ys := ys) (yd := yd) (q := q) (zc := zc) (zp := zp) (zr := zr) (zs := zs) (zf := zf) (z := z) (zm := zm) (zt := zt) (k := k) l hq hk) (cwV 1 hts hg9 rfl rfl rfl (by decide +kernel) hR9) ⟨fun a U g mk q => ⟨q.1, q.2.1, va_K.moved (u := U) (U := U.calling g mk a) (Vm.Alike.refl U.vm) q.2.2⟩, rC_9 hK hP, fun U hU hW => ⟨rfl, by rw [hU]; exact hP, va_K.moved hW.alike hK⟩⟩ rfl rfl hl9 rfl (lv_room hw9) hdg hc9) (fun r h => by subst h; exact kk)
end
set_option maxHeartbeats 4000000 in
set_option maxRecDepth 100000 in
theorem c_X1_add (l : Launch) {dC : Nat → ClassId} {dI : Nat → Nat → Nat} {cI cZ : ClassId} {ad : Nat → Nat} {sm fe ex dy : Int32} {gp gc op gr st dl wo : Nat → Int32} {n : Nat} {yc ya ys yd : Nat → Int32} {q : Nat} {zc zp zr zs zf : Nat → Int32} {z : Nat} {zm zt : Int64} {cl : Int32} {am : Int32} {d : Int32} (hI : iwC ad) (hq : q < 100) : Met l yX1_add wsX1_add { frames := 1, cells := 0, slots := 0, locals := 21 } (va_Pc [.ref (ad 9), .int cl, .int am, .int d] (fun U => va_P (dC, dI) vwCl (wC cI cZ ad sm fe ex dy gp gc op gr st dl wo n yc ya ys yd q zc zp zr zs zf z zm zt) U.heap ∧ va_K (dC, dI) vwCl [(cI, .int), (cZ, .boolean)] U)) (va_Qv (fun _ : Unit => True) (fun _ t => va_P (dC, dI) vwCl (wC cI cZ ad sm fe ex dy gp gc op gr st dl wo n (upd yc q cl) (upd ya q am) (upd ys q (nI 0)) (upd yd q d) (q + 1) zc zp zr zs zf z zm zt) t.heap) (awC ad)) 0 0 (awC ad) := by
  refine Met.ofW (cc := cX1_add) (maxL := 4) (ret := none) (by decide) rfl ?_
  intro p e s m args below meth c s₁ B hml hv
  obtain ⟨rfl, hP, hK⟩ := hv
  have hx := B.exec
  have hb := B.bytes
  have hr := B.returns
  have hts := atoms_spec (ws := wsX1_add) B.pre
  have hown : s.vm.findClass RX1 = some m.cls := findClass_of_methodNamed B.named
  have hlocks := B.notSynchronized
  have hS : va_S (awC ad) s.heap s.heap [] := va_S.rf
  have hl := lv_entry ([.ref (ad 9), .int cl, .int am, .int d]) (n := 4) (Nat.le_of_ble_eq_true rfl)
  rw [lg_entry_eq]
  generalize (lg_sl ([.ref (ad 9), .int cl, .int am, .int d]) ++ List.replicate (4 - (lg_sl ([.ref (ad 9), .int cl, .int am, .int d])).length) Slot.unset).toArray = ls at hl ⊢
  have hl : lv_has ls 4 [(0, .ref (ad 9)), (1, .int cl), (2, .int am), (3, .int d)] := hl
  have hiX1 : ∀ w ∈ wsX10, w ∈ wsX1_add := by decide +kernel
  have hf9 := hts (.fieldLink RX1 9 "SettlementFund$PaymentBook" "claim" "[I") (by decide +kernel)
  have hf24 := hts (.fieldLink RX1 24 "SettlementFund$PaymentBook" "size" "I") (by decide +kernel)
  have hf15 := hts (.fieldLink RX1 15 "SettlementFund$PaymentBook" "amount" "[I") (by decide +kernel)
  have hf18 := hts (.fieldLink RX1 18 "SettlementFund$PaymentBook" "state" "[I") (by decide +kernel)
  have hf21 := hts (.fieldLink RX1 21 "SettlementFund$PaymentBook" "dayMade" "[I") (by decide +kernel)
  refine lv_aload_n hx hb dX1_add_0 rfl (lv_at hl 0 rfl) ?_
  refine lv_iconst (v := nI 1) hx hb dX1_add_1 (by decide) ?_
  refine k_X1_hasPlacesFor l (k := 1) (hq := by omega) (hk := by decide) hx hb hml hown hts hK hP gX1_add_X1_hasPlacesFor ⟨Nat.le_of_ble_eq_true rfl, Nat.le_of_ble_eq_true rfl⟩ ⟨Nat.le_of_ble_eq_true rfl, Nat.le_of_ble_eq_true rfl⟩ hl.1 (Nat.le_of_ble_eq_true rfl) dX1_add_2 ?_
  refine zi_eq (tgt := 58) hx hb (by split <;> decide) dX1_add_5 (by decide) (fun c_5 => (show False by rw [if_pos (by omega)] at c_5; exact absurd c_5 (by decide)).elim) (fun c_5 => ?_)
  refine lv_aload_n hx hb dX1_add_8 rfl (lv_at hl 0 rfl) ?_
  refine gC_9_0 hx hb hts hiX1 hown hK hP hf9 dX1_add_9 ?_
  refine lv_aload_n hx hb dX1_add_12 rfl (lv_at hl 0 rfl) ?_
  refine gC_9_4 hx hb hts hiX1 hown hK hP hf24 dX1_add_13 ?_
  refine lv_iload_n hx hb dX1_add_16 rfl (lv_at hl 1 rfl) ?_
  refine sC_10 hx hb hK hP hI (fun _ h => h) hS (by omega) dX1_add_17 (fun H locs hP hS => ?_)
  refine lv_aload_n hx hb dX1_add_18 rfl (lv_at hl 0 rfl) ?_
  refine gC_9_1 hx hb hts hiX1 hown hK hP hf15 dX1_add_19 ?_
  refine lv_aload_n hx hb dX1_add_22 rfl (lv_at hl 0 rfl) ?_
  refine gC_9_4 hx hb hts hiX1 hown hK hP hf24 dX1_add_23 ?_
  refine lv_iload_n hx hb dX1_add_26 rfl (lv_at hl 2 rfl) ?_
  refine sC_11 hx hb hK hP hI (fun _ h => h) hS (by omega) dX1_add_27 (fun H locs hP hS => ?_)
  refine lv_aload_n hx hb dX1_add_28 rfl (lv_at hl 0 rfl) ?_
  refine gC_9_2 hx hb hts hiX1 hown hK hP hf18 dX1_add_29 ?_
  refine lv_aload_n hx hb dX1_add_32 rfl (lv_at hl 0 rfl) ?_
  refine gC_9_4 hx hb hts hiX1 hown hK hP hf24 dX1_add_33 ?_
  refine lv_iconst (v := nI 0) hx hb dX1_add_36 (by decide) ?_
  refine sC_12 hx hb hK hP hI (fun _ h => h) hS (by omega) dX1_add_37 (fun H locs hP hS => ?_)
  refine lv_aload_n hx hb dX1_add_38 rfl (lv_at hl 0 rfl) ?_
  refine gC_9_3 hx hb hts hiX1 hown hK hP hf21 dX1_add_39 ?_
  refine lv_aload_n hx hb dX1_add_42 rfl (lv_at hl 0 rfl) ?_
  refine gC_9_4 hx hb hts hiX1 hown hK hP hf24 dX1_add_43 ?_
  refine lv_iload_n hx hb dX1_add_46 rfl (lv_at hl 3 rfl) ?_
  refine sC_13 hx hb hK hP hI (fun _ h => h) hS (by omega) dX1_add_47 (fun H locs hP hS => ?_)
  refine lv_aload_n hx hb dX1_add_48 rfl (lv_at hl 0 rfl) ?_
  refine lv_dup hx hb dX1_add_49 rfl ?_
  refine gC_9_4 hx hb hts hiX1 hown hK hP hf24 dX1_add_50 ?_
  refine lv_iconst (v := nI 1) hx hb dX1_add_53 (by decide) ?_
  refine lv_iadd hx hb dX1_add_54 ?_
  refine zt_i (y := nI (q + 1)) (nI_add _ _) ?_
  refine uC_9_4 hx hb hts hiX1 hown hK hP hf24 hI (fun _ h => h) hS dX1_add_55 (fun H locs hP hS => ?_)
  exact W.vret hx hb hr (fun t ht hW => ⟨⟨(), rfl, trivial, by (try dsimp only); rw [ht]; exact hP⟩, hS.F ht⟩) hS.2.2 dX1_add_58
section
variable {p : Program} {e : Env} {R : Room} {s : State} {m : MethodId} {args : Array Value} {below : List Frame} {meth : Method} {c : Code} {H : Heap} {locs : List Loc} {cells slots : Nat} {Q : State → Prop} {cc : ByteArray} {pc : Nat} {ls : Array Slot} {rest : List Value} {own : String} {index nL : Nat} {Ts : List Cond} {H0 : Heap} {A0 : Nat → Prop}
theorem k_X1_add (l : Launch) {dC : Nat → ClassId} {dI : Nat → Nat → Nat} {cI cZ : ClassId} {ad : Nat → Nat} {sm fe ex dy : Int32} {gp gc op gr st dl wo : Nat → Int32} {n : Nat} {yc ya ys yd : Nat → Int32} {q : Nat} {zc zp zr zs zf : Nat → Int32} {z : Nat} {zm zt : Int64} {cl : Int32} {am : Int32} {d : Int32} (hq : q < 100) (hx : p.tables.exec = Jvm.exec) (hb : c.code = cc) (hml : c.maxLocals = nL) (hown : s.vm.findClass own = some m.cls) (hts : ∀ w ∈ Ts, w.before args s = true) (hK : va_K (dC, dI) vwCl [(cI, .int), (cZ, .boolean)] s) (hP : va_P (dC, dI) vwCl (wC cI cZ ad sm fe ex dy gp gc op gr st dl wo n yc ya ys yd q zc zp zr zs zf z zm zt) H) (hg9 : GoodIn Ts (wsV own index RX1 yX1_add wsX1_add)) (hR9 : 1 + 1 ≤ R.frames ∧ 8 + (4 + 11) + 21 ≤ R.locals) (hc9 : cells ≤ R.cells ∧ slots ≤ R.slots) (hl9 : ls.size = nL) (hw9 : (rest.map fun v => v.category).sum ≤ 8) (hdg : decode cc pc = .ok (.invokevirtual index, 3)) (hI : iwC ad) (hA : ∀ x, awC ad x → A0 x) (hS : va_S A0 H0 H locs) (kk : ∀ (H1 : Heap) (locs1 : List Loc), va_P (dC, dI) vwCl (wC cI cZ ad sm fe ex dy gp gc op gr st dl wo n (upd yc q cl) (upd ya q am) (upd ys q (nI 0)) (upd yd q d) (q + 1) zc zp zr zs zf z zm zt) H1 → va_S A0 H0 H1 locs1 → (∀ q : Nat, q < H.size → ¬ awC ad q → H1[q]? = H[q]?) → W p l e R s m args below meth c H1 locs1 cells slots Q (F0 m (pc + 3) ls (rest))) : W p l e R s m args below meth c H locs cells slots Q (F0 m pc ls (.int d :: .int am :: .int cl :: .ref (ad 9) :: rest)) := va_callv (va_runV (As := [.int cl, .int am, .int d]) (rest := rest) ⟨hx, hb, hml, hown, hts⟩ (c_X1_add (dC := dC) (dI := dI) (cI := cI) (cZ := cZ) (ad := ad) (sm := sm) (fe := fe) (ex := ex) (dy := dy) (gp := gp) (gc := gc) (op := op) (gr := gr) (st := st) (dl := dl) (wo := wo) (n := n) (yc := yc) (ya := ya) (ys := ys) (yd := yd) (q := q) (zc := zc) (zp := zp) (zr := zr) (zs := zs) (zf := zf) (z := z) (zm := zm) (zt := zt) (cl := cl) (am := am) (d := d) l hI hq) (cwV 3 hts hg9 rfl rfl rfl (by decide +kernel) hR9) ⟨fun a U g mk q => ⟨q.1, q.2.1, va_K.moved (u := U) (U := U.calling g mk a) (Vm.Alike.refl U.vm) q.2.2⟩, rC_9 hK hP, fun U hU hW => ⟨rfl, by rw [hU]; exact hP, va_K.moved hW.alike hK⟩⟩ rfl rfl hl9 rfl (lv_room hw9) hdg hc9) hS (fun q _ h => hA q h) hA (fun u t H1 locs1 ht _ hu hB hz hk hS1 => kk H1 locs1 (by rw [ht] at hB; exact hB) hS1 hk)
end
set_option maxHeartbeats 4000000 in
set_option maxRecDepth 100000 in
theorem c_X1_voidLate (l : Launch) {dC : Nat → ClassId} {dI : Nat → Nat → Nat} {cI cZ : ClassId} {ad : Nat → Nat} {sm fe ex dy : Int32} {gp gc op gr st dl wo : Nat → Int32} {n : Nat} {yc ya ys yd : Nat → Int32} {q : Nat} {zc zp zr zs zf : Nat → Int32} {z : Nat} {zm zt : Int64} {d : Int32} (hI : iwC ad) (hq : q ≤ 100) : Met l yX1_voidLate wsX1_voidLate { frames := 0, cells := 0, slots := 0, locals := 0 } (va_Pc [.ref (ad 9), .int d] (fun U => va_P (dC, dI) vwCl (wC cI cZ ad sm fe ex dy gp gc op gr st dl wo n yc ya ys yd q zc zp zr zs zf z zm zt) U.heap ∧ va_K (dC, dI) vwCl [(cI, .int), (cZ, .boolean)] U)) (va_Qv (fun _ : Unit => True) (fun _ t => va_P (dC, dI) vwCl (wC cI cZ ad sm fe ex dy gp gc op gr st dl wo n yc ya (voidF ys yd d q) yd q zc zp zr zs zf z zm zt) t.heap) (awC ad)) 0 0 (awC ad) := by
  refine Met.ofW (cc := cX1_voidLate) (maxL := 3) (ret := none) (by decide) rfl ?_
  intro p e s m args below meth c s₁ B hml hv
  obtain ⟨rfl, hP, hK⟩ := hv
  have hx := B.exec
  have hb := B.bytes
  have hr := B.returns
  have hts := atoms_spec (ws := wsX1_voidLate) B.pre
  have hown : s.vm.findClass RX1 = some m.cls := findClass_of_methodNamed B.named
  have hlocks := B.notSynchronized
  have hS : va_S (awC ad) s.heap s.heap [] := va_S.rf
  have hl := lv_entry ([.ref (ad 9), .int d]) (n := 3) (Nat.le_of_ble_eq_true rfl)
  rw [lg_entry_eq]
  generalize (lg_sl ([.ref (ad 9), .int d]) ++ List.replicate (3 - (lg_sl ([.ref (ad 9), .int d])).length) Slot.unset).toArray = ls at hl ⊢
  have hl : lv_has ls 3 [(0, .ref (ad 9)), (1, .int d)] := hl
  have hiX1 : ∀ w ∈ wsX10, w ∈ wsX1_voidLate := by decide +kernel
  have hf24 := hts (.fieldLink RX1 24 "SettlementFund$PaymentBook" "size" "I") (by decide +kernel)
  have hf18 := hts (.fieldLink RX1 18 "SettlementFund$PaymentBook" "state" "[I") (by decide +kernel)
  have hf21 := hts (.fieldLink RX1 21 "SettlementFund$PaymentBook" "dayMade" "[I") (by decide +kernel)
  refine lv_iconst (v := nI 0) hx hb dX1_voidLate_0 (by decide) ?_
  refine lv_istore_n (lv' := [(2, .int (nI 0)), (0, .ref (ad 9)), (1, .int d)]) hx hb dX1_voidLate_1 rfl hl (by decide) rfl (fun ls hl => ?_)
  have e_1 : ys = voidF ys yd d 0 := by first | rfl | (simp [voidF]; done) | rw [show q = i by omega]
  rw [e_1] at hP
  refine zl_rw (fun a9 : Nat => wC cI cZ ad sm fe ex dy gp gc op gr st dl wo n yc ya (voidF ys yd d a9) yd q zc zp zr zs zf z zm zt) (fun a9 : Nat => [(0, .ref (ad 9)), (1, .int d), (2, .int (nI a9))]) (fun a9 : Nat => a9 ≤ q) (fun a9 : Nat => q - a9) 0 (Nat.zero_le _) hP hS (lv_sub hl [1, 2, 0] rfl) ?_
  intro a9 hi_2 ih_2 H locs hP hS ls hl
  obtain ⟨i, rfl⟩ : ∃ z, z = a9 := ⟨_, rfl⟩
  have hi_2 : i ≤ q := hi_2
  have hl : lv_has ls 3 [(0, .ref (ad 9)), (1, .int d), (2, .int (nI i))] := hl
  have hP : va_P (dC, dI) vwCl (wC cI cZ ad sm fe ex dy gp gc op gr st dl wo n yc ya (voidF ys yd d i) yd q zc zp zr zs zf z zm zt) H := hP
  refine lv_iload_n hx hb dX1_voidLate_2 rfl (lv_at hl 2 rfl) ?_
  refine lv_aload_n hx hb dX1_voidLate_3 rfl (lv_at hl 0 rfl) ?_
  refine gC_9_4 hx hb hts hiX1 hown hK hP hf24 dX1_voidLate_4 ?_
  refine zb_ge (tgt := 45) hx hb (by omega) (by omega) dX1_voidLate_7 (by decide) (fun c_7 => ?_) (fun c_7 => ?_)
  · have e_2 : voidF ys yd d i = voidF ys yd d q := by first | rfl | (simp [voidF, c_7]; done) | rw [show q = i by omega]
    rw [e_2] at hP
    exact W.vret hx hb hr (fun t ht hW => ⟨⟨(), rfl, trivial, by (try dsimp only); rw [ht]; exact hP⟩, hS.F ht⟩) hS.2.2 dX1_voidLate_45
  · refine lv_aload_n hx hb dX1_voidLate_10 rfl (lv_at hl 0 rfl) ?_
    refine gC_9_2 hx hb hts hiX1 hown hK hP hf18 dX1_voidLate_11 ?_
    refine lv_iload_n hx hb dX1_voidLate_14 rfl (lv_at hl 2 rfl) ?_
    refine lC_12 hx hb hK hP (by omega) dX1_voidLate_15 ?_
    refine lv_if_ne (tgt := 39) hx hb dX1_voidLate_16 (by decide) (fun c_16 => ?_) (fun c_16 => ?_)
    · refine lv_iinc (v := nI (i + 1)) (lv' := [(2, .int (nI (i + 1))), (0, .ref (ad 9)), (1, .int d)]) hx hb dX1_voidLate_39 hl (k := 2) rfl (zz_inc _) (by decide) rfl (fun ls hl => ?_)
      refine lv_goto (tgt := 2) hx hb dX1_voidLate_42 (by decide) ?_
      have e_3 : voidF ys yd d i = voidF ys yd d (i + 1) := by first | rfl | (simp [voidF, c_7, c_16]; done) | rw [show q = i by omega]
      rw [e_3] at hP
      exact ih_2 (i + 1) (by omega) (by omega) H locs hP hS ls (lv_sub hl [1, 2, 0] rfl)
    · refine lv_iload_n hx hb dX1_voidLate_19 rfl (lv_at hl 1 rfl) ?_
      refine lv_aload_n hx hb dX1_voidLate_20 rfl (lv_at hl 0 rfl) ?_
      refine gC_9_3 hx hb hts hiX1 hown hK hP hf21 dX1_voidLate_21 ?_
      refine lv_iload_n hx hb dX1_voidLate_24 rfl (lv_at hl 2 rfl) ?_
      refine lC_13 hx hb hK hP (by omega) dX1_voidLate_25 ?_
      refine lv_isub hx hb dX1_voidLate_26 ?_
      refine lv_bipush (v := nI 30) hx hb dX1_voidLate_27 (by decide) ?_
      refine lv_icmp_le (tgt := 39) hx hb dX1_voidLate_29 (by decide) (fun c_29 => ?_) (fun c_29 => ?_)
      · refine lv_iinc (v := nI (i + 1)) (lv' := [(2, .int (nI (i + 1))), (0, .ref (ad 9)), (1, .int d)]) hx hb dX1_voidLate_39 hl (k := 2) rfl (zz_inc _) (by decide) rfl (fun ls hl => ?_)
        refine lv_goto (tgt := 2) hx hb dX1_voidLate_42 (by decide) ?_
        have e_4 : voidF ys yd d i = voidF ys yd d (i + 1) := by first | rfl | (simp [voidF, c_7, c_16, c_29]; done) | rw [show q = i by omega]
        rw [e_4] at hP
        exact ih_2 (i + 1) (by omega) (by omega) H locs hP hS ls (lv_sub hl [1, 2, 0] rfl)
      · refine lv_aload_n hx hb dX1_voidLate_32 rfl (lv_at hl 0 rfl) ?_
        refine gC_9_2 hx hb hts hiX1 hown hK hP hf18 dX1_voidLate_33 ?_
        refine lv_iload_n hx hb dX1_voidLate_36 rfl (lv_at hl 2 rfl) ?_
        refine lv_iconst (v := nI 2) hx hb dX1_voidLate_37 (by decide) ?_
        refine sC_12 hx hb hK hP hI (fun _ h => h) hS (by omega) dX1_voidLate_38 (fun H locs hP hS => ?_)
        refine lv_iinc (v := nI (i + 1)) (lv' := [(2, .int (nI (i + 1))), (0, .ref (ad 9)), (1, .int d)]) hx hb dX1_voidLate_39 hl (k := 2) rfl (zz_inc _) (by decide) rfl (fun ls hl => ?_)
        refine lv_goto (tgt := 2) hx hb dX1_voidLate_42 (by decide) ?_
        have e_5 : upd (voidF ys yd d i) i (nI 2) = voidF ys yd d (i + 1) := by first | rfl | (simp [voidF, c_7, c_16, c_29]; done) | rw [show q = i by omega]
        rw [e_5] at hP
        exact ih_2 (i + 1) (by omega) (by omega) H locs hP hS ls (lv_sub hl [1, 2, 0] rfl)
section
variable {p : Program} {e : Env} {R : Room} {s : State} {m : MethodId} {args : Array Value} {below : List Frame} {meth : Method} {c : Code} {H : Heap} {locs : List Loc} {cells slots : Nat} {Q : State → Prop} {cc : ByteArray} {pc : Nat} {ls : Array Slot} {rest : List Value} {own : String} {index nL : Nat} {Ts : List Cond} {H0 : Heap} {A0 : Nat → Prop}
theorem k_X1_voidLate (l : Launch) {dC : Nat → ClassId} {dI : Nat → Nat → Nat} {cI cZ : ClassId} {ad : Nat → Nat} {sm fe ex dy : Int32} {gp gc op gr st dl wo : Nat → Int32} {n : Nat} {yc ya ys yd : Nat → Int32} {q : Nat} {zc zp zr zs zf : Nat → Int32} {z : Nat} {zm zt : Int64} {d : Int32} (hq : q ≤ 100) (hx : p.tables.exec = Jvm.exec) (hb : c.code = cc) (hml : c.maxLocals = nL) (hown : s.vm.findClass own = some m.cls) (hts : ∀ w ∈ Ts, w.before args s = true) (hK : va_K (dC, dI) vwCl [(cI, .int), (cZ, .boolean)] s) (hP : va_P (dC, dI) vwCl (wC cI cZ ad sm fe ex dy gp gc op gr st dl wo n yc ya ys yd q zc zp zr zs zf z zm zt) H) (hg9 : GoodIn Ts (wsV own index RX1 yX1_voidLate wsX1_voidLate)) (hR9 : 0 + 1 ≤ R.frames ∧ 8 + (3 + 11) + 0 ≤ R.locals) (hc9 : cells ≤ R.cells ∧ slots ≤ R.slots) (hl9 : ls.size = nL) (hw9 : (rest.map fun v => v.category).sum ≤ 8) (hdg : decode cc pc = .ok (.invokevirtual index, 3)) (hI : iwC ad) (hA : ∀ x, awC ad x → A0 x) (hS : va_S A0 H0 H locs) (kk : ∀ (H1 : Heap) (locs1 : List Loc), va_P (dC, dI) vwCl (wC cI cZ ad sm fe ex dy gp gc op gr st dl wo n yc ya (voidF ys yd d q) yd q zc zp zr zs zf z zm zt) H1 → va_S A0 H0 H1 locs1 → (∀ q : Nat, q < H.size → ¬ awC ad q → H1[q]? = H[q]?) → W p l e R s m args below meth c H1 locs1 cells slots Q (F0 m (pc + 3) ls (rest))) : W p l e R s m args below meth c H locs cells slots Q (F0 m pc ls (.int d :: .ref (ad 9) :: rest)) := va_callv (va_runV (As := [.int d]) (rest := rest) ⟨hx, hb, hml, hown, hts⟩ (c_X1_voidLate (dC := dC) (dI := dI) (cI := cI) (cZ := cZ) (ad := ad) (sm := sm) (fe := fe) (ex := ex) (dy := dy) (gp := gp) (gc := gc) (op := op) (gr := gr) (st := st) (dl := dl) (wo := wo) (n := n) (yc := yc) (ya := ya) (ys := ys) (yd := yd) (q := q) (zc := zc) (zp := zp) (zr := zr) (zs := zs) (zf := zf) (z := z) (zm := zm) (zt := zt) (d := d) l hI hq) (cwV 1 hts hg9 rfl rfl rfl (by decide +kernel) hR9) ⟨fun a U g mk q => ⟨q.1, q.2.1, va_K.moved (u := U) (U := U.calling g mk a) (Vm.Alike.refl U.vm) q.2.2⟩, rC_9 hK hP, fun U hU hW => ⟨rfl, by rw [hU]; exact hP, va_K.moved hW.alike hK⟩⟩ rfl rfl hl9 rfl (lv_room hw9) hdg hc9) hS (fun q _ h => hA q h) hA (fun u t H1 locs1 ht _ hu hB hz hk hS1 => kk H1 locs1 (by rw [ht] at hB; exact hB) hS1 hk)
end
set_option maxHeartbeats 4000000 in
set_option maxRecDepth 100000 in
theorem c_X1_hasOpen (l : Launch) {dC : Nat → ClassId} {dI : Nat → Nat → Nat} {cI cZ : ClassId} {ad : Nat → Nat} {sm fe ex dy : Int32} {gp gc op gr st dl wo : Nat → Int32} {n : Nat} {yc ya ys yd : Nat → Int32} {q : Nat} {zc zp zr zs zf : Nat → Int32} {z : Nat} {zm zt : Int64}  (hq : q ≤ 100) : Met l yX1_hasOpen wsX1_hasOpen { frames := 0, cells := 0, slots := 0, locals := 0 } (va_Pc [.ref (ad 9)] (fun U => va_P (dC, dI) vwCl (wC cI cZ ad sm fe ex dy gp gc op gr st dl wo n yc ya ys yd q zc zp zr zs zf z zm zt) U.heap ∧ va_K (dC, dI) vwCl [(cI, .int), (cZ, .boolean)] U)) (vp_Si (fun r => r = nI (if openB ys q = true then 1 else 0))) 0 0 (fun _ => False) := by
  refine Met.ofW (cc := cX1_hasOpen) (maxL := 2) (ret := (some .boolean)) (by decide) rfl ?_
  intro p e s m args below meth c s₁ B hml hv
  obtain ⟨rfl, hP, hK⟩ := hv
  have hx := B.exec
  have hb := B.bytes
  have hr := B.returns
  have hts := atoms_spec (ws := wsX1_hasOpen) B.pre
  have hown : s.vm.findClass RX1 = some m.cls := findClass_of_methodNamed B.named
  have hlocks := B.notSynchronized
  have hl := lv_entry ([.ref (ad 9)]) (n := 2) (Nat.le_of_ble_eq_true rfl)
  rw [lg_entry_eq]
  generalize (lg_sl ([.ref (ad 9)]) ++ List.replicate (2 - (lg_sl ([.ref (ad 9)])).length) Slot.unset).toArray = ls at hl ⊢
  have hl : lv_has ls 2 [(0, .ref (ad 9))] := hl
  have hiX1 : ∀ w ∈ wsX10, w ∈ wsX1_hasOpen := by decide +kernel
  have hf24 := hts (.fieldLink RX1 24 "SettlementFund$PaymentBook" "size" "I") (by decide +kernel)
  have hf18 := hts (.fieldLink RX1 18 "SettlementFund$PaymentBook" "state" "[I") (by decide +kernel)
  refine lv_iconst (v := nI 0) hx hb dX1_hasOpen_0 (by decide) ?_
  refine lv_istore_n (lv' := [(1, .int (nI 0)), (0, .ref (ad 9))]) hx hb dX1_hasOpen_1 rfl hl (by decide) rfl (fun ls hl => ?_)
  refine zl_ro (fun a9 : Nat => [(0, .ref (ad 9)), (1, .int (nI a9))]) (fun a9 : Nat => a9 ≤ q ∧ openB ys a9 = false) (fun a9 : Nat => q - a9) 0 (⟨Nat.zero_le _, rfl⟩) (lv_sub hl [1, 0] rfl) ?_
  intro a9 hi_2 ih_2 ls hl
  obtain ⟨i, rfl⟩ : ∃ z, z = a9 := ⟨_, rfl⟩
  have hi_2 : i ≤ q ∧ openB ys i = false := hi_2
  obtain ⟨hi, ho⟩ := hi_2
  have hl : lv_has ls 2 [(0, .ref (ad 9)), (1, .int (nI i))] := hl
  refine lv_iload_n hx hb dX1_hasOpen_2 rfl (lv_at hl 1 rfl) ?_
  refine lv_aload_n hx hb dX1_hasOpen_3 rfl (lv_at hl 0 rfl) ?_
  refine gC_9_4 hx hb hts hiX1 hown hK hP hf24 dX1_hasOpen_4 ?_
  refine zb_ge (tgt := 27) hx hb (by omega) (by omega) dX1_hasOpen_7 (by decide) (fun c_7 => ?_) (fun c_7 => ?_)
  · refine lv_iconst (v := nI 0) hx hb dX1_hasOpen_27 (by decide) ?_
    exact W.zret (v := nI 0) hx hb hr (rfl) (fun t ht hW => ⟨nI 0, rfl, by rw [show q = i by omega, ho]; rfl, ht⟩) (fun _ h => nomatch h) dX1_hasOpen_28
  · refine lv_aload_n hx hb dX1_hasOpen_10 rfl (lv_at hl 0 rfl) ?_
    refine gC_9_2 hx hb hts hiX1 hown hK hP hf18 dX1_hasOpen_11 ?_
    refine lv_iload_n hx hb dX1_hasOpen_14 rfl (lv_at hl 1 rfl) ?_
    refine lC_12 hx hb hK hP (by omega) dX1_hasOpen_15 ?_
    refine lv_if_ne (tgt := 21) hx hb dX1_hasOpen_16 (by decide) (fun c_16 => ?_) (fun c_16 => ?_)
    · refine lv_iinc (v := nI (i + 1)) (lv' := [(1, .int (nI (i + 1))), (0, .ref (ad 9))]) hx hb dX1_hasOpen_21 hl (k := 1) rfl (zz_inc _) (by decide) rfl (fun ls hl => ?_)
      refine lv_goto (tgt := 2) hx hb dX1_hasOpen_24 (by decide) ?_
      exact ih_2 (i + 1) (⟨by omega, by unfold openB anyB; unfold openB at ho; rw [ho]; simp [c_16]⟩) (by omega) ls (lv_sub hl [1, 0] rfl)
    · refine lv_iconst (v := nI 1) hx hb dX1_hasOpen_19 (by decide) ?_
      exact W.zret (v := nI 1) hx hb hr (rfl) (fun t ht hW => ⟨nI 1, rfl, by rw [if_pos (show openB ys q = true from anyB_of (i := i) (by omega) (by simp [c_16]))], ht⟩) (fun _ h => nomatch h) dX1_hasOpen_20
section
variable {p : Program} {e : Env} {R : Room} {s : State} {m : MethodId} {args : Array Value} {below : List Frame} {meth : Method} {c : Code} {H : Heap} {locs : List Loc} {cells slots : Nat} {Q : State → Prop} {cc : ByteArray} {pc : Nat} {ls : Array Slot} {rest : List Value} {own : String} {index nL : Nat} {Ts : List Cond} {H0 : Heap} {A0 : Nat → Prop}
theorem k_X1_hasOpen (l : Launch) {dC : Nat → ClassId} {dI : Nat → Nat → Nat} {cI cZ : ClassId} {ad : Nat → Nat} {sm fe ex dy : Int32} {gp gc op gr st dl wo : Nat → Int32} {n : Nat} {yc ya ys yd : Nat → Int32} {q : Nat} {zc zp zr zs zf : Nat → Int32} {z : Nat} {zm zt : Int64}  (hq : q ≤ 100) (hx : p.tables.exec = Jvm.exec) (hb : c.code = cc) (hml : c.maxLocals = nL) (hown : s.vm.findClass own = some m.cls) (hts : ∀ w ∈ Ts, w.before args s = true) (hK : va_K (dC, dI) vwCl [(cI, .int), (cZ, .boolean)] s) (hP : va_P (dC, dI) vwCl (wC cI cZ ad sm fe ex dy gp gc op gr st dl wo n yc ya ys yd q zc zp zr zs zf z zm zt) H) (hg9 : GoodIn Ts (wsV own index RX1 yX1_hasOpen wsX1_hasOpen)) (hR9 : 0 + 1 ≤ R.frames ∧ 8 + (2 + 11) + 0 ≤ R.locals) (hc9 : cells ≤ R.cells ∧ slots ≤ R.slots) (hl9 : ls.size = nL) (hw9 : (rest.map fun v => v.category).sum ≤ 8) (hdg : decode cc pc = .ok (.invokevirtual index, 3)) (kk : W p l e R s m args below meth c H locs cells slots Q (F0 m (pc + 3) ls (.int (nI (if openB ys q = true then 1 else 0)) :: rest))) : W p l e R s m args below meth c H locs cells slots Q (F0 m pc ls (.ref (ad 9) :: rest)) := zc_ro (W.runV (As := []) (rest := rest) ⟨hx, hb, hml, hown, hts⟩ (c_X1_hasOpen (dC := dC) (dI := dI) (cI := cI) (cZ := cZ) (ad := ad) (sm := sm) (fe := fe) (ex := ex) (dy := dy) (gp := gp) (gc := gc) (op := op) (gr := gr) (st := st) (dl := dl) (wo := wo) (n := n) (yc := yc) (ya := ya) (ys := ys) (yd := yd) (q := q) (zc := zc) (zp := zp) (zr := zr) (zs := zs) (zf := zf) (z := z) (zm := zm) (zt := zt) l hq) (cwV 0 hts hg9 rfl rfl rfl (by decide +kernel) hR9) ⟨fun a U g mk q => ⟨q.1, q.2.1, va_K.moved (u := U) (U := U.calling g mk a) (Vm.Alike.refl U.vm) q.2.2⟩, rC_9 hK hP, fun U hU hW => ⟨rfl, by rw [hU]; exact hP, va_K.moved hW.alike hK⟩⟩ rfl rfl hl9 rfl (lv_room hw9) hdg hc9) (fun r h => by subst h; exact kk)
end
set_option maxHeartbeats 4000000 in
set_option maxRecDepth 100000 in
theorem c_X1_hasVoidFor (l : Launch) {dC : Nat → ClassId} {dI : Nat → Nat → Nat} {cI cZ : ClassId} {ad : Nat → Nat} {sm fe ex dy : Int32} {gp gc op gr st dl wo : Nat → Int32} {n : Nat} {yc ya ys yd : Nat → Int32} {q : Nat} {zc zp zr zs zf : Nat → Int32} {z : Nat} {zm zt : Int64} {w : Int32} (hq : q ≤ 100) : Met l yX1_hasVoidFor wsX1_hasVoidFor { frames := 0, cells := 0, slots := 0, locals := 0 } (va_Pc [.ref (ad 9), .int w] (fun U => va_P (dC, dI) vwCl (wC cI cZ ad sm fe ex dy gp gc op gr st dl wo n yc ya ys yd q zc zp zr zs zf z zm zt) U.heap ∧ va_K (dC, dI) vwCl [(cI, .int), (cZ, .boolean)] U)) (vp_Si (fun r => r = nI (if vdB yc ys w q = true then 1 else 0))) 0 0 (fun _ => False) := by
  refine Met.ofW (cc := cX1_hasVoidFor) (maxL := 3) (ret := (some .boolean)) (by decide) rfl ?_
  intro p e s m args below meth c s₁ B hml hv
  obtain ⟨rfl, hP, hK⟩ := hv
  have hx := B.exec
  have hb := B.bytes
  have hr := B.returns
  have hts := atoms_spec (ws := wsX1_hasVoidFor) B.pre
  have hown : s.vm.findClass RX1 = some m.cls := findClass_of_methodNamed B.named
  have hlocks := B.notSynchronized
  have hl := lv_entry ([.ref (ad 9), .int w]) (n := 3) (Nat.le_of_ble_eq_true rfl)
  rw [lg_entry_eq]
  generalize (lg_sl ([.ref (ad 9), .int w]) ++ List.replicate (3 - (lg_sl ([.ref (ad 9), .int w])).length) Slot.unset).toArray = ls at hl ⊢
  have hl : lv_has ls 3 [(0, .ref (ad 9)), (1, .int w)] := hl
  have hiX1 : ∀ w ∈ wsX10, w ∈ wsX1_hasVoidFor := by decide +kernel
  have hf24 := hts (.fieldLink RX1 24 "SettlementFund$PaymentBook" "size" "I") (by decide +kernel)
  have hf9 := hts (.fieldLink RX1 9 "SettlementFund$PaymentBook" "claim" "[I") (by decide +kernel)
  have hf18 := hts (.fieldLink RX1 18 "SettlementFund$PaymentBook" "state" "[I") (by decide +kernel)
  refine lv_iconst (v := nI 0) hx hb dX1_hasVoidFor_0 (by decide) ?_
  refine lv_istore_n (lv' := [(2, .int (nI 0)), (0, .ref (ad 9)), (1, .int w)]) hx hb dX1_hasVoidFor_1 rfl hl (by decide) rfl (fun ls hl => ?_)
  refine zl_ro (fun a9 : Nat => [(0, .ref (ad 9)), (1, .int w), (2, .int (nI a9))]) (fun a9 : Nat => a9 ≤ q ∧ vdB yc ys w a9 = false) (fun a9 : Nat => q - a9) 0 (⟨Nat.zero_le _, rfl⟩) (lv_sub hl [1, 2, 0] rfl) ?_
  intro a9 hi_2 ih_2 ls hl
  obtain ⟨i, rfl⟩ : ∃ z, z = a9 := ⟨_, rfl⟩
  have hi_2 : i ≤ q ∧ vdB yc ys w i = false := hi_2
  obtain ⟨hi, ho⟩ := hi_2
  have hl : lv_has ls 3 [(0, .ref (ad 9)), (1, .int w), (2, .int (nI i))] := hl
  refine lv_iload_n hx hb dX1_hasVoidFor_2 rfl (lv_at hl 2 rfl) ?_
  refine lv_aload_n hx hb dX1_hasVoidFor_3 rfl (lv_at hl 0 rfl) ?_
  refine gC_9_4 hx hb hts hiX1 hown hK hP hf24 dX1_hasVoidFor_4 ?_
  refine zb_ge (tgt := 38) hx hb (by omega) (by omega) dX1_hasVoidFor_7 (by decide) (fun c_7 => ?_) (fun c_7 => ?_)
  · refine lv_iconst (v := nI 0) hx hb dX1_hasVoidFor_38 (by decide) ?_
    exact W.zret (v := nI 0) hx hb hr (rfl) (fun t ht hW => ⟨nI 0, rfl, by rw [show q = i by omega, ho]; rfl, ht⟩) (fun _ h => nomatch h) dX1_hasVoidFor_39
  · refine lv_aload_n hx hb dX1_hasVoidFor_10 rfl (lv_at hl 0 rfl) ?_
    refine gC_9_0 hx hb hts hiX1 hown hK hP hf9 dX1_hasVoidFor_11 ?_
    refine lv_iload_n hx hb dX1_hasVoidFor_14 rfl (lv_at hl 2 rfl) ?_
    refine lC_10 hx hb hK hP (by omega) dX1_hasVoidFor_15 ?_
    refine lv_iload_n hx hb dX1_hasVoidFor_16 rfl (lv_at hl 1 rfl) ?_
    refine lv_icmp_ne (tgt := 32) hx hb dX1_hasVoidFor_17 (by decide) (fun c_17 => ?_) (fun c_17 => ?_)
    · refine lv_iinc (v := nI (i + 1)) (lv' := [(2, .int (nI (i + 1))), (0, .ref (ad 9)), (1, .int w)]) hx hb dX1_hasVoidFor_32 hl (k := 2) rfl (zz_inc _) (by decide) rfl (fun ls hl => ?_)
      refine lv_goto (tgt := 2) hx hb dX1_hasVoidFor_35 (by decide) ?_
      exact ih_2 (i + 1) (⟨by omega, by unfold vdB anyB; unfold vdB at ho; rw [ho]; simp [c_17]⟩) (by omega) ls (lv_sub hl [1, 2, 0] rfl)
    · refine lv_aload_n hx hb dX1_hasVoidFor_20 rfl (lv_at hl 0 rfl) ?_
      refine gC_9_2 hx hb hts hiX1 hown hK hP hf18 dX1_hasVoidFor_21 ?_
      refine lv_iload_n hx hb dX1_hasVoidFor_24 rfl (lv_at hl 2 rfl) ?_
      refine lC_12 hx hb hK hP (by omega) dX1_hasVoidFor_25 ?_
      refine lv_iconst (v := nI 2) hx hb dX1_hasVoidFor_26 (by decide) ?_
      refine lv_icmp_ne (tgt := 32) hx hb dX1_hasVoidFor_27 (by decide) (fun c_27 => ?_) (fun c_27 => ?_)
      · refine lv_iinc (v := nI (i + 1)) (lv' := [(2, .int (nI (i + 1))), (0, .ref (ad 9)), (1, .int w)]) hx hb dX1_hasVoidFor_32 hl (k := 2) rfl (zz_inc _) (by decide) rfl (fun ls hl => ?_)
        refine lv_goto (tgt := 2) hx hb dX1_hasVoidFor_35 (by decide) ?_
        exact ih_2 (i + 1) (⟨by omega, by unfold vdB anyB; unfold vdB at ho; rw [ho]; simp [c_17, c_27]⟩) (by omega) ls (lv_sub hl [1, 2, 0] rfl)
      · refine lv_iconst (v := nI 1) hx hb dX1_hasVoidFor_30 (by decide) ?_
        exact W.zret (v := nI 1) hx hb hr (rfl) (fun t ht hW => ⟨nI 1, rfl, by rw [if_pos (show vdB yc ys w q = true from anyB_of (i := i) (by omega) (by simp [c_17, c_27]))], ht⟩) (fun _ h => nomatch h) dX1_hasVoidFor_31
section
variable {p : Program} {e : Env} {R : Room} {s : State} {m : MethodId} {args : Array Value} {below : List Frame} {meth : Method} {c : Code} {H : Heap} {locs : List Loc} {cells slots : Nat} {Q : State → Prop} {cc : ByteArray} {pc : Nat} {ls : Array Slot} {rest : List Value} {own : String} {index nL : Nat} {Ts : List Cond} {H0 : Heap} {A0 : Nat → Prop}
theorem k_X1_hasVoidFor (l : Launch) {dC : Nat → ClassId} {dI : Nat → Nat → Nat} {cI cZ : ClassId} {ad : Nat → Nat} {sm fe ex dy : Int32} {gp gc op gr st dl wo : Nat → Int32} {n : Nat} {yc ya ys yd : Nat → Int32} {q : Nat} {zc zp zr zs zf : Nat → Int32} {z : Nat} {zm zt : Int64} {w : Int32} (hq : q ≤ 100) (hx : p.tables.exec = Jvm.exec) (hb : c.code = cc) (hml : c.maxLocals = nL) (hown : s.vm.findClass own = some m.cls) (hts : ∀ w ∈ Ts, w.before args s = true) (hK : va_K (dC, dI) vwCl [(cI, .int), (cZ, .boolean)] s) (hP : va_P (dC, dI) vwCl (wC cI cZ ad sm fe ex dy gp gc op gr st dl wo n yc ya ys yd q zc zp zr zs zf z zm zt) H) (hg9 : GoodIn Ts (wsV own index RX1 yX1_hasVoidFor wsX1_hasVoidFor)) (hR9 : 0 + 1 ≤ R.frames ∧ 8 + (3 + 11) + 0 ≤ R.locals) (hc9 : cells ≤ R.cells ∧ slots ≤ R.slots) (hl9 : ls.size = nL) (hw9 : (rest.map fun v => v.category).sum ≤ 8) (hdg : decode cc pc = .ok (.invokevirtual index, 3)) (kk : W p l e R s m args below meth c H locs cells slots Q (F0 m (pc + 3) ls (.int (nI (if vdB yc ys w q = true then 1 else 0)) :: rest))) : W p l e R s m args below meth c H locs cells slots Q (F0 m pc ls (.int w :: .ref (ad 9) :: rest)) := zc_ro (W.runV (As := [.int w]) (rest := rest) ⟨hx, hb, hml, hown, hts⟩ (c_X1_hasVoidFor (dC := dC) (dI := dI) (cI := cI) (cZ := cZ) (ad := ad) (sm := sm) (fe := fe) (ex := ex) (dy := dy) (gp := gp) (gc := gc) (op := op) (gr := gr) (st := st) (dl := dl) (wo := wo) (n := n) (yc := yc) (ya := ya) (ys := ys) (yd := yd) (q := q) (zc := zc) (zp := zp) (zr := zr) (zs := zs) (zf := zf) (z := z) (zm := zm) (zt := zt) (w := w) l hq) (cwV 1 hts hg9 rfl rfl rfl (by decide +kernel) hR9) ⟨fun a U g mk q => ⟨q.1, q.2.1, va_K.moved (u := U) (U := U.calling g mk a) (Vm.Alike.refl U.vm) q.2.2⟩, rC_9 hK hP, fun U hU hW => ⟨rfl, by rw [hU]; exact hP, va_K.moved hW.alike hK⟩⟩ rfl rfl hl9 rfl (lv_room hw9) hdg hc9) (fun r h => by subst h; exact kk)
end
set_option maxHeartbeats 4000000 in
set_option maxRecDepth 100000 in
theorem c_X1_sumFor (l : Launch) {dC : Nat → ClassId} {dI : Nat → Nat → Nat} {cI cZ : ClassId} {ad : Nat → Nat} {sm fe ex dy : Int32} {gp gc op gr st dl wo : Nat → Int32} {n : Nat} {yc ya ys yd : Nat → Int32} {q : Nat} {zc zp zr zs zf : Nat → Int32} {z : Nat} {zm zt : Int64} {w : Int32} (hq : q ≤ 100) : Met l yX1_sumFor wsX1_sumFor { frames := 0, cells := 0, slots := 0, locals := 0 } (va_Pc [.ref (ad 9), .int w] (fun U => va_P (dC, dI) vwCl (wC cI cZ ad sm fe ex dy gp gc op gr st dl wo n yc ya ys yd q zc zp zr zs zf z zm zt) U.heap ∧ va_K (dC, dI) vwCl [(cI, .int), (cZ, .boolean)] U)) (vp_Si (fun r => r = sumForI yc ya ys w q)) 0 0 (fun _ => False) := by
  refine Met.ofW (cc := cX1_sumFor) (maxL := 4) (ret := (some .int)) (by decide) rfl ?_
  intro p e s m args below meth c s₁ B hml hv
  obtain ⟨rfl, hP, hK⟩ := hv
  have hx := B.exec
  have hb := B.bytes
  have hr := B.returns
  have hts := atoms_spec (ws := wsX1_sumFor) B.pre
  have hown : s.vm.findClass RX1 = some m.cls := findClass_of_methodNamed B.named
  have hlocks := B.notSynchronized
  have hl := lv_entry ([.ref (ad 9), .int w]) (n := 4) (Nat.le_of_ble_eq_true rfl)
  rw [lg_entry_eq]
  generalize (lg_sl ([.ref (ad 9), .int w]) ++ List.replicate (4 - (lg_sl ([.ref (ad 9), .int w])).length) Slot.unset).toArray = ls at hl ⊢
  have hl : lv_has ls 4 [(0, .ref (ad 9)), (1, .int w)] := hl
  have hiX1 : ∀ w ∈ wsX10, w ∈ wsX1_sumFor := by decide +kernel
  have hf24 := hts (.fieldLink RX1 24 "SettlementFund$PaymentBook" "size" "I") (by decide +kernel)
  have hf9 := hts (.fieldLink RX1 9 "SettlementFund$PaymentBook" "claim" "[I") (by decide +kernel)
  have hf18 := hts (.fieldLink RX1 18 "SettlementFund$PaymentBook" "state" "[I") (by decide +kernel)
  have hf15 := hts (.fieldLink RX1 15 "SettlementFund$PaymentBook" "amount" "[I") (by decide +kernel)
  refine lv_iconst (v := nI 0) hx hb dX1_sumFor_0 (by decide) ?_
  refine lv_istore_n (lv' := [(2, .int (nI 0)), (0, .ref (ad 9)), (1, .int w)]) hx hb dX1_sumFor_1 rfl hl (by decide) rfl (fun ls hl => ?_)
  refine lv_iconst (v := nI 0) hx hb dX1_sumFor_2 (by decide) ?_
  refine lv_istore_n (lv' := [(3, .int (nI 0)), (2, .int (nI 0)), (0, .ref (ad 9)), (1, .int w)]) hx hb dX1_sumFor_3 rfl hl (by decide) rfl (fun ls hl => ?_)
  have e_1 : nI 0 = sumForI yc ya ys w 0 := by first | rfl | (simp [sumForI]; done)
  rw [e_1] at hl
  refine zl_ro (fun a9 : Nat => [(0, .ref (ad 9)), (1, .int w), (2, .int (sumForI yc ya ys w a9)), (3, .int (nI a9))]) (fun a9 : Nat => a9 ≤ q) (fun a9 : Nat => q - a9) 0 (Nat.zero_le _) (lv_sub hl [2, 3, 1, 0] rfl) ?_
  intro a9 hi_4 ih_4 ls hl
  obtain ⟨i, rfl⟩ : ∃ z, z = a9 := ⟨_, rfl⟩
  have hi_4 : i ≤ q := hi_4
  have hl : lv_has ls 4 [(0, .ref (ad 9)), (1, .int w), (2, .int (sumForI yc ya ys w i)), (3, .int (nI i))] := hl
  refine lv_iload_n hx hb dX1_sumFor_4 rfl (lv_at hl 3 rfl) ?_
  refine lv_aload_n hx hb dX1_sumFor_5 rfl (lv_at hl 0 rfl) ?_
  refine gC_9_4 hx hb hts hiX1 hown hK hP hf24 dX1_sumFor_6 ?_
  refine zb_ge (tgt := 47) hx hb (by omega) (by omega) dX1_sumFor_9 (by decide) (fun c_9 => ?_) (fun c_9 => ?_)
  · refine lv_iload_n hx hb dX1_sumFor_47 rfl (lv_at hl 2 rfl) ?_
    exact W.iret (v := sumForI yc ya ys w i) hx hb hr (fun t ht hW => ⟨sumForI yc ya ys w i, rfl, by rw [show q = i by omega], ht⟩) (fun _ h => nomatch h) dX1_sumFor_48
  · refine lv_aload_n hx hb dX1_sumFor_12 rfl (lv_at hl 0 rfl) ?_
    refine gC_9_0 hx hb hts hiX1 hown hK hP hf9 dX1_sumFor_13 ?_
    refine lv_iload_n hx hb dX1_sumFor_16 rfl (lv_at hl 3 rfl) ?_
    refine lC_10 hx hb hK hP (by omega) dX1_sumFor_17 ?_
    refine lv_iload_n hx hb dX1_sumFor_18 rfl (lv_at hl 1 rfl) ?_
    refine lv_icmp_ne (tgt := 41) hx hb dX1_sumFor_19 (by decide) (fun c_19 => ?_) (fun c_19 => ?_)
    · refine lv_iinc (v := nI (i + 1)) (lv' := [(3, .int (nI (i + 1))), (0, .ref (ad 9)), (1, .int w), (2, .int (sumForI yc ya ys w i))]) hx hb dX1_sumFor_41 hl (k := 3) rfl (zz_inc _) (by decide) rfl (fun ls hl => ?_)
      refine lv_goto (tgt := 4) hx hb dX1_sumFor_44 (by decide) ?_
      have e_2 : sumForI yc ya ys w i = sumForI yc ya ys w (i + 1) := by first | rfl | (simp [sumForI, c_9, c_19]; done)
      rw [e_2] at hl
      exact ih_4 (i + 1) (by omega) (by omega) ls (lv_sub hl [1, 2, 3, 0] rfl)
    · refine lv_aload_n hx hb dX1_sumFor_22 rfl (lv_at hl 0 rfl) ?_
      refine gC_9_2 hx hb hts hiX1 hown hK hP hf18 dX1_sumFor_23 ?_
      refine lv_iload_n hx hb dX1_sumFor_26 rfl (lv_at hl 3 rfl) ?_
      refine lC_12 hx hb hK hP (by omega) dX1_sumFor_27 ?_
      refine lv_iconst (v := nI 2) hx hb dX1_sumFor_28 (by decide) ?_
      refine lv_icmp_eq (tgt := 41) hx hb dX1_sumFor_29 (by decide) (fun c_29 => ?_) (fun c_29 => ?_)
      · refine lv_iinc (v := nI (i + 1)) (lv' := [(3, .int (nI (i + 1))), (0, .ref (ad 9)), (1, .int w), (2, .int (sumForI yc ya ys w i))]) hx hb dX1_sumFor_41 hl (k := 3) rfl (zz_inc _) (by decide) rfl (fun ls hl => ?_)
        refine lv_goto (tgt := 4) hx hb dX1_sumFor_44 (by decide) ?_
        have e_3 : sumForI yc ya ys w i = sumForI yc ya ys w (i + 1) := by first | rfl | (simp [sumForI, c_9, c_19, c_29]; done)
        rw [e_3] at hl
        exact ih_4 (i + 1) (by omega) (by omega) ls (lv_sub hl [1, 2, 3, 0] rfl)
      · refine lv_iload_n hx hb dX1_sumFor_32 rfl (lv_at hl 2 rfl) ?_
        refine lv_aload_n hx hb dX1_sumFor_33 rfl (lv_at hl 0 rfl) ?_
        refine gC_9_1 hx hb hts hiX1 hown hK hP hf15 dX1_sumFor_34 ?_
        refine lv_iload_n hx hb dX1_sumFor_37 rfl (lv_at hl 3 rfl) ?_
        refine lC_11 hx hb hK hP (by omega) dX1_sumFor_38 ?_
        refine lv_iadd hx hb dX1_sumFor_39 ?_
        refine lv_istore_n (lv' := [(2, .int ((sumForI yc ya ys w i) + (ya i))), (0, .ref (ad 9)), (1, .int w), (3, .int (nI i))]) hx hb dX1_sumFor_40 rfl hl (by decide) rfl (fun ls hl => ?_)
        refine lv_iinc (v := nI (i + 1)) (lv' := [(3, .int (nI (i + 1))), (2, .int ((sumForI yc ya ys w i) + (ya i))), (0, .ref (ad 9)), (1, .int w)]) hx hb dX1_sumFor_41 hl (k := 3) rfl (zz_inc _) (by decide) rfl (fun ls hl => ?_)
        refine lv_goto (tgt := 4) hx hb dX1_sumFor_44 (by decide) ?_
        have e_4 : (sumForI yc ya ys w i) + (ya i) = sumForI yc ya ys w (i + 1) := by first | rfl | (simp [sumForI, c_9, c_19, c_29]; done)
        rw [e_4] at hl
        exact ih_4 (i + 1) (by omega) (by omega) ls (lv_sub hl [2, 3, 1, 0] rfl)
section
variable {p : Program} {e : Env} {R : Room} {s : State} {m : MethodId} {args : Array Value} {below : List Frame} {meth : Method} {c : Code} {H : Heap} {locs : List Loc} {cells slots : Nat} {Q : State → Prop} {cc : ByteArray} {pc : Nat} {ls : Array Slot} {rest : List Value} {own : String} {index nL : Nat} {Ts : List Cond} {H0 : Heap} {A0 : Nat → Prop}
theorem k_X1_sumFor (l : Launch) {dC : Nat → ClassId} {dI : Nat → Nat → Nat} {cI cZ : ClassId} {ad : Nat → Nat} {sm fe ex dy : Int32} {gp gc op gr st dl wo : Nat → Int32} {n : Nat} {yc ya ys yd : Nat → Int32} {q : Nat} {zc zp zr zs zf : Nat → Int32} {z : Nat} {zm zt : Int64} {w : Int32} (hq : q ≤ 100) (hx : p.tables.exec = Jvm.exec) (hb : c.code = cc) (hml : c.maxLocals = nL) (hown : s.vm.findClass own = some m.cls) (hts : ∀ w ∈ Ts, w.before args s = true) (hK : va_K (dC, dI) vwCl [(cI, .int), (cZ, .boolean)] s) (hP : va_P (dC, dI) vwCl (wC cI cZ ad sm fe ex dy gp gc op gr st dl wo n yc ya ys yd q zc zp zr zs zf z zm zt) H) (hg9 : GoodIn Ts (wsV own index RX1 yX1_sumFor wsX1_sumFor)) (hR9 : 0 + 1 ≤ R.frames ∧ 8 + (4 + 11) + 0 ≤ R.locals) (hc9 : cells ≤ R.cells ∧ slots ≤ R.slots) (hl9 : ls.size = nL) (hw9 : (rest.map fun v => v.category).sum ≤ 8) (hdg : decode cc pc = .ok (.invokevirtual index, 3)) (kk : W p l e R s m args below meth c H locs cells slots Q (F0 m (pc + 3) ls (.int (sumForI yc ya ys w q) :: rest))) : W p l e R s m args below meth c H locs cells slots Q (F0 m pc ls (.int w :: .ref (ad 9) :: rest)) := zc_ro (W.runV (As := [.int w]) (rest := rest) ⟨hx, hb, hml, hown, hts⟩ (c_X1_sumFor (dC := dC) (dI := dI) (cI := cI) (cZ := cZ) (ad := ad) (sm := sm) (fe := fe) (ex := ex) (dy := dy) (gp := gp) (gc := gc) (op := op) (gr := gr) (st := st) (dl := dl) (wo := wo) (n := n) (yc := yc) (ya := ya) (ys := ys) (yd := yd) (q := q) (zc := zc) (zp := zp) (zr := zr) (zs := zs) (zf := zf) (z := z) (zm := zm) (zt := zt) (w := w) l hq) (cwV 1 hts hg9 rfl rfl rfl (by decide +kernel) hR9) ⟨fun a U g mk q => ⟨q.1, q.2.1, va_K.moved (u := U) (U := U.calling g mk a) (Vm.Alike.refl U.vm) q.2.2⟩, rC_9 hK hP, fun U hU hW => ⟨rfl, by rw [hU]; exact hP, va_K.moved hW.alike hK⟩⟩ rfl rfl hl9 rfl (lv_room hw9) hdg hc9) (fun r h => by subst h; exact kk)
end
set_option maxHeartbeats 4000000 in
set_option maxRecDepth 100000 in
theorem c_X1_sumOfAll (l : Launch) {dC : Nat → ClassId} {dI : Nat → Nat → Nat} {cI cZ : ClassId} {ad : Nat → Nat} {sm fe ex dy : Int32} {gp gc op gr st dl wo : Nat → Int32} {n : Nat} {yc ya ys yd : Nat → Int32} {q : Nat} {zc zp zr zs zf : Nat → Int32} {z : Nat} {zm zt : Int64}  (hq : q ≤ 100) : Met l yX1_sumOfAll wsX1_sumOfAll { frames := 0, cells := 0, slots := 0, locals := 0 } (va_Pc [.ref (ad 9)] (fun U => va_P (dC, dI) vwCl (wC cI cZ ad sm fe ex dy gp gc op gr st dl wo n yc ya ys yd q zc zp zr zs zf z zm zt) U.heap ∧ va_K (dC, dI) vwCl [(cI, .int), (cZ, .boolean)] U)) (vp_Si (fun r => r = sumAllI ya ys q)) 0 0 (fun _ => False) := by
  refine Met.ofW (cc := cX1_sumOfAll) (maxL := 3) (ret := (some .int)) (by decide) rfl ?_
  intro p e s m args below meth c s₁ B hml hv
  obtain ⟨rfl, hP, hK⟩ := hv
  have hx := B.exec
  have hb := B.bytes
  have hr := B.returns
  have hts := atoms_spec (ws := wsX1_sumOfAll) B.pre
  have hown : s.vm.findClass RX1 = some m.cls := findClass_of_methodNamed B.named
  have hlocks := B.notSynchronized
  have hl := lv_entry ([.ref (ad 9)]) (n := 3) (Nat.le_of_ble_eq_true rfl)
  rw [lg_entry_eq]
  generalize (lg_sl ([.ref (ad 9)]) ++ List.replicate (3 - (lg_sl ([.ref (ad 9)])).length) Slot.unset).toArray = ls at hl ⊢
  have hl : lv_has ls 3 [(0, .ref (ad 9))] := hl
  have hiX1 : ∀ w ∈ wsX10, w ∈ wsX1_sumOfAll := by decide +kernel
  have hf24 := hts (.fieldLink RX1 24 "SettlementFund$PaymentBook" "size" "I") (by decide +kernel)
  have hf18 := hts (.fieldLink RX1 18 "SettlementFund$PaymentBook" "state" "[I") (by decide +kernel)
  have hf15 := hts (.fieldLink RX1 15 "SettlementFund$PaymentBook" "amount" "[I") (by decide +kernel)
  refine lv_iconst (v := nI 0) hx hb dX1_sumOfAll_0 (by decide) ?_
  refine lv_istore_n (lv' := [(1, .int (nI 0)), (0, .ref (ad 9))]) hx hb dX1_sumOfAll_1 rfl hl (by decide) rfl (fun ls hl => ?_)
  refine lv_iconst (v := nI 0) hx hb dX1_sumOfAll_2 (by decide) ?_
  refine lv_istore_n (lv' := [(2, .int (nI 0)), (1, .int (nI 0)), (0, .ref (ad 9))]) hx hb dX1_sumOfAll_3 rfl hl (by decide) rfl (fun ls hl => ?_)
  have e_1 : nI 0 = sumAllI ya ys 0 := by first | rfl | (simp [sumAllI]; done)
  rw [e_1] at hl
  refine zl_ro (fun a9 : Nat => [(0, .ref (ad 9)), (1, .int (sumAllI ya ys a9)), (2, .int (nI a9))]) (fun a9 : Nat => a9 ≤ q) (fun a9 : Nat => q - a9) 0 (Nat.zero_le _) (lv_sub hl [2, 1, 0] rfl) ?_
  intro a9 hi_4 ih_4 ls hl
  obtain ⟨i, rfl⟩ : ∃ z, z = a9 := ⟨_, rfl⟩
  have hi_4 : i ≤ q := hi_4
  have hl : lv_has ls 3 [(0, .ref (ad 9)), (1, .int (sumAllI ya ys i)), (2, .int (nI i))] := hl
  refine lv_iload_n hx hb dX1_sumOfAll_4 rfl (lv_at hl 2 rfl) ?_
  refine lv_aload_n hx hb dX1_sumOfAll_5 rfl (lv_at hl 0 rfl) ?_
  refine gC_9_4 hx hb hts hiX1 hown hK hP hf24 dX1_sumOfAll_6 ?_
  refine zb_ge (tgt := 37) hx hb (by omega) (by omega) dX1_sumOfAll_9 (by decide) (fun c_9 => ?_) (fun c_9 => ?_)
  · refine lv_iload_n hx hb dX1_sumOfAll_37 rfl (lv_at hl 1 rfl) ?_
    exact W.iret (v := sumAllI ya ys i) hx hb hr (fun t ht hW => ⟨sumAllI ya ys i, rfl, by rw [show q = i by omega], ht⟩) (fun _ h => nomatch h) dX1_sumOfAll_38
  · refine lv_aload_n hx hb dX1_sumOfAll_12 rfl (lv_at hl 0 rfl) ?_
    refine gC_9_2 hx hb hts hiX1 hown hK hP hf18 dX1_sumOfAll_13 ?_
    refine lv_iload_n hx hb dX1_sumOfAll_16 rfl (lv_at hl 2 rfl) ?_
    refine lC_12 hx hb hK hP (by omega) dX1_sumOfAll_17 ?_
    refine lv_iconst (v := nI 2) hx hb dX1_sumOfAll_18 (by decide) ?_
    refine lv_icmp_eq (tgt := 31) hx hb dX1_sumOfAll_19 (by decide) (fun c_19 => ?_) (fun c_19 => ?_)
    · refine lv_iinc (v := nI (i + 1)) (lv' := [(2, .int (nI (i + 1))), (0, .ref (ad 9)), (1, .int (sumAllI ya ys i))]) hx hb dX1_sumOfAll_31 hl (k := 2) rfl (zz_inc _) (by decide) rfl (fun ls hl => ?_)
      refine lv_goto (tgt := 4) hx hb dX1_sumOfAll_34 (by decide) ?_
      have e_2 : sumAllI ya ys i = sumAllI ya ys (i + 1) := by first | rfl | (simp [sumAllI, c_9, c_19]; done)
      rw [e_2] at hl
      exact ih_4 (i + 1) (by omega) (by omega) ls (lv_sub hl [1, 2, 0] rfl)
    · refine lv_iload_n hx hb dX1_sumOfAll_22 rfl (lv_at hl 1 rfl) ?_
      refine lv_aload_n hx hb dX1_sumOfAll_23 rfl (lv_at hl 0 rfl) ?_
      refine gC_9_1 hx hb hts hiX1 hown hK hP hf15 dX1_sumOfAll_24 ?_
      refine lv_iload_n hx hb dX1_sumOfAll_27 rfl (lv_at hl 2 rfl) ?_
      refine lC_11 hx hb hK hP (by omega) dX1_sumOfAll_28 ?_
      refine lv_iadd hx hb dX1_sumOfAll_29 ?_
      refine lv_istore_n (lv' := [(1, .int ((sumAllI ya ys i) + (ya i))), (0, .ref (ad 9)), (2, .int (nI i))]) hx hb dX1_sumOfAll_30 rfl hl (by decide) rfl (fun ls hl => ?_)
      refine lv_iinc (v := nI (i + 1)) (lv' := [(2, .int (nI (i + 1))), (1, .int ((sumAllI ya ys i) + (ya i))), (0, .ref (ad 9))]) hx hb dX1_sumOfAll_31 hl (k := 2) rfl (zz_inc _) (by decide) rfl (fun ls hl => ?_)
      refine lv_goto (tgt := 4) hx hb dX1_sumOfAll_34 (by decide) ?_
      have e_3 : (sumAllI ya ys i) + (ya i) = sumAllI ya ys (i + 1) := by first | rfl | (simp [sumAllI, c_9, c_19]; done)
      rw [e_3] at hl
      exact ih_4 (i + 1) (by omega) (by omega) ls (lv_sub hl [2, 1, 0] rfl)
section
variable {p : Program} {e : Env} {R : Room} {s : State} {m : MethodId} {args : Array Value} {below : List Frame} {meth : Method} {c : Code} {H : Heap} {locs : List Loc} {cells slots : Nat} {Q : State → Prop} {cc : ByteArray} {pc : Nat} {ls : Array Slot} {rest : List Value} {own : String} {index nL : Nat} {Ts : List Cond} {H0 : Heap} {A0 : Nat → Prop}
theorem k_X1_sumOfAll (l : Launch) {dC : Nat → ClassId} {dI : Nat → Nat → Nat} {cI cZ : ClassId} {ad : Nat → Nat} {sm fe ex dy : Int32} {gp gc op gr st dl wo : Nat → Int32} {n : Nat} {yc ya ys yd : Nat → Int32} {q : Nat} {zc zp zr zs zf : Nat → Int32} {z : Nat} {zm zt : Int64}  (hq : q ≤ 100) (hx : p.tables.exec = Jvm.exec) (hb : c.code = cc) (hml : c.maxLocals = nL) (hown : s.vm.findClass own = some m.cls) (hts : ∀ w ∈ Ts, w.before args s = true) (hK : va_K (dC, dI) vwCl [(cI, .int), (cZ, .boolean)] s) (hP : va_P (dC, dI) vwCl (wC cI cZ ad sm fe ex dy gp gc op gr st dl wo n yc ya ys yd q zc zp zr zs zf z zm zt) H) (hg9 : GoodIn Ts (wsV own index RX1 yX1_sumOfAll wsX1_sumOfAll)) (hR9 : 0 + 1 ≤ R.frames ∧ 8 + (3 + 11) + 0 ≤ R.locals) (hc9 : cells ≤ R.cells ∧ slots ≤ R.slots) (hl9 : ls.size = nL) (hw9 : (rest.map fun v => v.category).sum ≤ 8) (hdg : decode cc pc = .ok (.invokevirtual index, 3)) (kk : W p l e R s m args below meth c H locs cells slots Q (F0 m (pc + 3) ls (.int (sumAllI ya ys q) :: rest))) : W p l e R s m args below meth c H locs cells slots Q (F0 m pc ls (.ref (ad 9) :: rest)) := zc_ro (W.runV (As := []) (rest := rest) ⟨hx, hb, hml, hown, hts⟩ (c_X1_sumOfAll (dC := dC) (dI := dI) (cI := cI) (cZ := cZ) (ad := ad) (sm := sm) (fe := fe) (ex := ex) (dy := dy) (gp := gp) (gc := gc) (op := op) (gr := gr) (st := st) (dl := dl) (wo := wo) (n := n) (yc := yc) (ya := ya) (ys := ys) (yd := yd) (q := q) (zc := zc) (zp := zp) (zr := zr) (zs := zs) (zf := zf) (z := z) (zm := zm) (zt := zt) l hq) (cwV 0 hts hg9 rfl rfl rfl (by decide +kernel) hR9) ⟨fun a U g mk q => ⟨q.1, q.2.1, va_K.moved (u := U) (U := U.calling g mk a) (Vm.Alike.refl U.vm) q.2.2⟩, rC_9 hK hP, fun U hU hW => ⟨rfl, by rw [hU]; exact hP, va_K.moved hW.alike hK⟩⟩ rfl rfl hl9 rfl (lv_room hw9) hdg hc9) (fun r h => by subst h; exact kk)
end
