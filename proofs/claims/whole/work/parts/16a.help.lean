/-! the law's helpers -/
def tN (U : State) : Prop := (va_Nc "java/lang/IllegalArgumentException" "java/lang/IllegalStateException" U ∧ va_Nc "java/lang/IllegalArgumentException" "java/lang/IndexOutOfBoundsException" U) ∧ (va_Nc "java/lang/IllegalStateException" "java/lang/IllegalArgumentException" U ∧ va_Nc "java/lang/IllegalStateException" "java/lang/IndexOutOfBoundsException" U) ∧ (va_Nc "java/lang/IndexOutOfBoundsException" "java/lang/IllegalArgumentException" U ∧ va_Nc "java/lang/IndexOutOfBoundsException" "java/lang/IllegalStateException" U)
theorem tN.moved {u U : State} (hvm : u.vm.Alike U.vm) (h : tN u) : tN U := ⟨⟨va_Nc.moved hvm h.1.1, va_Nc.moved hvm h.1.2⟩, ⟨va_Nc.moved hvm h.2.1.1, va_Nc.moved hvm h.2.1.2⟩, ⟨va_Nc.moved hvm h.2.2.1, va_Nc.moved hvm h.2.2.2⟩⟩
theorem zz_ko {D : va_G} {cl : List vw_C} {o9 : Nat} {e9 : va_E} {H H1 : Heap} (h : va_P D cl [(o9, e9)] H) (hq : H1[o9]? = H[o9]?) : va_P D cl [(o9, e9)] H1 := h.kept (fun k q hk => by
  match k, hk with
  | 0, hk => cases hk; exact hq
  | k + 1, hk => cases hk)
theorem zz_lt {D : va_G} {cl : List vw_C} {o9 : Nat} {e9 : va_E} {H : Heap} (h : va_P D cl [(o9, e9)] H) : o9 < H.size := (h 0 _ rfl).lt
theorem dwL {cI cZ : ClassId} {ad : Nat → Nat} {o9 : Nat} (hI : iwC ad) (ho : ¬ awC ad o9) (e9 : va_E) (sm fe ex dy : Int32) (gp gc op gr st dl wo : Nat → Int32) (n : Nat) (yc ya ys yd : Nat → Int32) (q : Nat) (zc zp zr zs zf : Nat → Int32) (z : Nat) (zm zt : Int64) : va_D (fun x => awC ad x ∨ x = o9) (wC cI cZ ad sm fe ex dy gp gc op gr st dl wo n yc ya ys yd q zc zp zr zs zf z zm zt ++ [(o9, e9)]) := by
  refine zz_D 21 (fun j => if j < 20 then ad j else o9) _ _ (fun j hj => ?_) (fun i j hi hj e => ?_) rfl
  · by_cases c : j < 20
    · show awC ad (if j < 20 then ad j else o9) ∨ _; rw [if_pos c]; exact Or.inl ⟨j, c, rfl⟩
    · right; show (if j < 20 then ad j else o9) = o9; rw [if_neg c]
  · have e : (if i < 20 then ad i else o9) = (if j < 20 then ad j else o9) := e
    by_cases c : i < 20 <;> by_cases d : j < 20
    · rw [if_pos c, if_pos d] at e; exact hI i j c d e
    · rw [if_pos c, if_neg d] at e; exact absurd ⟨i, c, e.symm⟩ ho
    · rw [if_neg c, if_pos d] at e; exact absurd ⟨j, d, e⟩ ho
    · omega
set_option maxHeartbeats 4000000 in
set_option maxRecDepth 100000 in
theorem h_room_ok (l : Launch) {dC : Nat → ClassId} {dI : Nat → Nat → Nat} {cI cZ cJ : ClassId} {ad : Nat → Nat} {o9 : Nat} {sm fe ex dy : Int32} {gp gc op gr st dl wo : Nat → Int32} {n : Nat} {yc ya ys yd : Nat → Int32} {q : Nat} {zc zp zr zs zf : Nat → Int32} {z : Nat} {zm zt : Int64} {fo : Nat → Int64} {k : Nat} (hI : iwC ad) (ho : ¬ awC ad o9) (hn : n ≤ 24) (hq : q ≤ 100) (hk : k < n) (hG : gr k = nI (gN gr k) ∧ gN gr k < 5) : Met l yL_room wsL_room { frames := 3, cells := 0, slots := 0, locals := 64 } (va_Pc [.ref (ad 0), .int (nI k), .ref o9] (fun U => va_P (dC, dI) vwCl (wC cI cZ ad sm fe ex dy gp gc op gr st dl wo n yc ya ys yd q zc zp zr zs zf z zm zt) U.heap ∧ va_K (dC, dI) vwCl [(cI, .int), (cZ, .boolean)] U ∧ va_P (dC, dI) vwCl [(o9, .inl (cJ, 1, .inr (.inl fo)))] U.heap ∧ va_K (dC, dI) vwCl [(cJ, .long)] U)) (va_Qi (fun r (_ : Unit) => r = nI 0) (fun (u9 : Unit) t => va_P (dC, dI) vwCl (wC cI cZ ad sm fe ex dy gp gc op gr st dl wo n yc ya ys yd q zc zp zr zs zf z zm zt) t.heap ∧ ∃ f9 : Nat → Int64, f9 0 = (roomF gc gr yc ya ys q k).toInt64 ∧ va_P (dC, dI) vwCl [(o9, .inl (cJ, 1, .inr (.inl f9)))] t.heap) (fun x => awC ad x ∨ x = o9)) 0 0 (fun x => awC ad x ∨ x = o9) := by
  refine va_MetW (cc := cL_room) (maxL := 4) (ret := (some .int)) (hh := [(0, 9, 12, 21)]) (by decide) rfl ?_
  intro p e s m args below meth c s₁ B hml hv
  obtain ⟨rfl, hP, hK, hPo, hKJ⟩ := hv
  have hx := B.exec
  have hb := B.bytes
  have hr := B.returns
  have hts := atoms_spec (ws := wsL_room) B.pre
  have hown : s.vm.findClass RL = some m.cls := findClass_of_methodNamed B.named
  have hlocks := B.notSynchronized
  have hA : ∀ x, awC ad x → (fun x => awC ad x ∨ x = o9) x := fun x h => Or.inl h
  have hS : va_S (fun x => awC ad x ∨ x = o9) s.heap s.heap [] := va_S.rf
  have hl := lv_entry ([.ref (ad 0), .int (nI k), .ref o9]) (n := 4) (Nat.le_of_ble_eq_true rfl)
  rw [lg_entry_eq]
  generalize (lg_sl ([.ref (ad 0), .int (nI k), .ref o9]) ++ List.replicate (4 - (lg_sl ([.ref (ad 0), .int (nI k), .ref o9])).length) Slot.unset).toArray = ls at hl ⊢
  have hl : lv_has ls 4 [(0, .ref (ad 0)), (1, .int (nI k)), (2, .ref o9)] := hl
  refine lv_aload_n hx hb dL_room_0 rfl (lv_at hl 2 rfl) ?_
  refine lv_iconst (v := nI 0) hx hb dL_room_1 (by decide) ?_
  refine lv_aload_n hx hb dL_room_2 rfl (lv_at hl 0 rfl) ?_
  refine lv_iload_n hx hb dL_room_3 rfl (lv_at hl 1 rfl) ?_
  refine k_X3_room_ok l (k := k) (hn := hn) (hq := hq) (hk := hk) (hG := hG) hx hb hml hown hts hK hP gL_room_X3_room ⟨Nat.le_of_ble_eq_true rfl, Nat.le_of_ble_eq_true rfl⟩ ⟨Nat.le_of_ble_eq_true rfl, Nat.le_of_ble_eq_true rfl⟩ hl.1 (Nat.le_of_ble_eq_true rfl) dL_room_4 ?_
  refine lv_i2l (v := (roomF gc gr yc ya ys q k).toInt64) hx hb dL_room_7 rfl ?_
  have hPL := hP.app hPo
  refine va_last hx hb hKJ hPL (dwL hI ho ..) hS 20 0 rfl rfl (vp_in_nI (n := 0) (by decide) (by decide)) dL_room_8 (fun H locs hPL _ hS => ?_)
  have hP : va_P (dC, dI) vwCl (wC cI cZ ad sm fe ex dy gp gc op gr st dl wo n yc ya ys yd q zc zp zr zs zf z zm zt) H := hPL.sub [0, 1, 2, 3, 4, 5, 6, 7, 8, 9, 10, 11, 12, 13, 14, 15, 16, 17, 18, 19] rfl
  have hPo : va_P (dC, dI) vwCl [(o9, .inl (cJ, 1, .inr (.inl (vp_updL fo (nI 0).toNatClampNeg (roomF gc gr yc ya ys q k).toInt64))))] H := hPL.sub [20] rfl
  refine lv_goto (tgt := 15) hx hb dL_room_9 (by decide) ?_
  refine lv_iconst (v := nI 0) hx hb dL_room_15 (by decide) ?_
  exact W.iret (v := nI 0) hx hb hr (fun t ht hW => ⟨⟨nI 0, (), rfl, rfl, ⟨by (try dsimp only); rw [ht]; exact hP, vp_updL fo (nI 0).toNatClampNeg (roomF gc gr yc ya ys q k).toInt64, if_pos (by decide), by rw [ht]; exact hPo⟩⟩, hS.F ht⟩) hS.2.2 dL_room_16
section
variable {p : Program} {e : Env} {R : Room} {s : State} {m : MethodId} {args : Array Value} {below : List Frame} {meth : Method} {c : Code} {H : Heap} {locs : List Loc} {cells slots : Nat} {Q : State → Prop} {cc : ByteArray} {pc : Nat} {ls : Array Slot} {rest : List Value} {own : String} {index nL : Nat} {Ts : List Cond} {H0 : Heap} {A0 : Nat → Prop}
theorem kh_room_ok (l : Launch) {dC : Nat → ClassId} {dI : Nat → Nat → Nat} {cI cZ cJ : ClassId} {ad : Nat → Nat} {o9 : Nat} {sm fe ex dy : Int32} {gp gc op gr st dl wo : Nat → Int32} {n : Nat} {yc ya ys yd : Nat → Int32} {q : Nat} {zc zp zr zs zf : Nat → Int32} {z : Nat} {zm zt : Int64} {fo : Nat → Int64} {k : Nat} (hn : n ≤ 24) (hq : q ≤ 100) (hk : k < n) (hG : gr k = nI (gN gr k) ∧ gN gr k < 5) (hx : p.tables.exec = Jvm.exec) (hb : c.code = cc) (hml : c.maxLocals = nL) (hown : s.vm.findClass own = some m.cls) (hts : ∀ w ∈ Ts, w.before args s = true) (hK : va_K (dC, dI) vwCl [(cI, .int), (cZ, .boolean)] s) (hP : va_P (dC, dI) vwCl (wC cI cZ ad sm fe ex dy gp gc op gr st dl wo n yc ya ys yd q zc zp zr zs zf z zm zt) H) (hg9 : GoodIn Ts (va_wsS own index yL_room wsL_room)) (hR9 : 3 + 1 ≤ R.frames ∧ 8 + (4 + 11) + 64 ≤ R.locals) (hc9 : cells + 0 ≤ R.cells ∧ slots + 0 ≤ R.slots) (hl9 : ls.size = nL) (hw9 : (rest.map fun v => v.category).sum ≤ 8) (hdg : decode cc pc = .ok (.invokestatic index, 3)) (hI : iwC ad) (ho : ¬ awC ad o9) (hPo : va_P (dC, dI) vwCl [(o9, .inl (cJ, 1, .inr (.inl fo)))] H) (hKJ : va_K (dC, dI) vwCl [(cJ, .long)] s) (hA : ∀ x, awC ad x ∨ x = o9 → A0 x) (hS : va_S A0 H0 H locs) (kk : ∀ (u9 : Unit) (H1 : Heap) (locs1 : List Loc), va_P (dC, dI) vwCl (wC cI cZ ad sm fe ex dy gp gc op gr st dl wo n yc ya ys yd q zc zp zr zs zf z zm zt) H1 → ∀ f9 : Nat → Int64, f9 0 = (roomF gc gr yc ya ys q k).toInt64 → va_P (dC, dI) vwCl [(o9, .inl (cJ, 1, .inr (.inl f9)))] H1 → va_S A0 H0 H1 locs1 → H.size ≤ H1.size → (∀ q : Nat, q < H.size → ¬ (awC ad q ∨ q = o9) → H1[q]? = H[q]?) → W p l e R s m args below meth c H1 locs1 cells slots Q (F0 m (pc + 3) ls (.int (nI 0) :: rest))) : W p l e R s m args below meth c H locs cells slots Q (F0 m pc ls (.ref o9 :: .int (nI k) :: .ref (ad 0) :: rest)) := va_calli (vx_runSW (As := [.ref (ad 0), .int (nI k), .ref o9]) (rest := rest) ⟨hx, hb, hml, hown, hts⟩ (h_room_ok (cJ := cJ) (o9 := o9) (fo := fo) (dC := dC) (dI := dI) (cI := cI) (cZ := cZ) (ad := ad) (sm := sm) (fe := fe) (ex := ex) (dy := dy) (gp := gp) (gc := gc) (op := op) (gr := gr) (st := st) (dl := dl) (wo := wo) (n := n) (yc := yc) (ya := ya) (ys := ys) (yd := yd) (q := q) (zc := zc) (zp := zp) (zr := zr) (zs := zs) (zf := zf) (z := z) (zm := zm) (zt := zt) (k := k) l hI ho hn hq hk hG) (vx_cwSW 3 hts hg9 rfl rfl rfl (by decide +kernel) hR9) ⟨fun a U g mk q => ⟨q.1, q.2.1, va_K.moved (u := U) (U := U.calling g mk a) (Vm.Alike.refl U.vm) q.2.2.1, q.2.2.2.1, va_K.moved (u := U) (U := U.calling g mk a) (Vm.Alike.refl U.vm) q.2.2.2.2⟩, fun U hU hW => ⟨rfl, by rw [hU]; exact hP, va_K.moved hW.alike hK, by rw [hU]; exact hPo, va_K.moved hW.alike hKJ⟩⟩ rfl rfl hl9 rfl (lv_room hw9) hdg hc9) hS (fun q _ h => hA q h) hA (fun r u t H1 locs1 ht _ hu hB hz hk hS1 => by subst hu; obtain ⟨hB1, f9, hf9, hB2⟩ := hB; rw [ht] at hB1 hB2; exact kk u H1 locs1 hB1 f9 hf9 hB2 hS1 hz hk)
end
set_option maxHeartbeats 4000000 in
set_option maxRecDepth 100000 in
theorem h_stateOf_no (l : Launch) {dC : Nat → ClassId} {dI : Nat → Nat → Nat} {cI cZ cJ : ClassId} {ad : Nat → Nat} {o9 : Nat} {sm fe ex dy : Int32} {gp gc op gr st dl wo : Nat → Int32} {n : Nat} {yc ya ys yd : Nat → Int32} {q : Nat} {zc zp zr zs zf : Nat → Int32} {z : Nat} {zm zt : Int64} {fo : Nat → Int64} {x : Int32} (hfl : l.stackTraces = false) (hn : n ≤ 24) (hk : ¬ vp_in x n) : Met l yL_stateOf wsL_stateOf { frames := 8, cells := 1, slots := 6, locals := 132 } (va_Pc [.ref (ad 0), .int x, .ref o9] (fun U => va_P (dC, dI) vwCl (wC cI cZ ad sm fe ex dy gp gc op gr st dl wo n yc ya ys yd q zc zp zr zs zf z zm zt) U.heap ∧ va_K (dC, dI) vwCl [(cI, .int), (cZ, .boolean)] U ∧ tX (fun _ => False) U U.heap ∧ tN U)) (va_Qi (fun r (_ : Unit) => r = nI 1) (fun _ _ => True) (fun _ => False)) 1 6 (fun _ => False) := by
  refine va_MetW (cc := cL_stateOf) (maxL := 4) (ret := (some .int)) (hh := [(0, 9, 12, 21)]) (by decide) rfl ?_
  intro p e s m args below meth c s₁ B hml hv
  obtain ⟨rfl, hP, hK, hT, hN⟩ := hv
  have hx := B.exec
  have hb := B.bytes
  have hr := B.returns
  have hts := atoms_spec (ws := wsL_stateOf) B.pre
  have hown : s.vm.findClass RL = some m.cls := findClass_of_methodNamed B.named
  have hlocks := B.notSynchronized
  have hl := lv_entry ([.ref (ad 0), .int x, .ref o9]) (n := 4) (Nat.le_of_ble_eq_true rfl)
  rw [lg_entry_eq]
  generalize (lg_sl ([.ref (ad 0), .int x, .ref o9]) ++ List.replicate (4 - (lg_sl ([.ref (ad 0), .int x, .ref o9])).length) Slot.unset).toArray = ls at hl ⊢
  have hl : lv_has ls 4 [(0, .ref (ad 0)), (1, .int x), (2, .ref o9)] := hl
  refine lv_aload_n hx hb dL_stateOf_0 rfl (lv_at hl 2 rfl) ?_
  refine lv_iconst (v := nI 0) hx hb dL_stateOf_1 (by decide) ?_
  refine lv_aload_n hx hb dL_stateOf_2 rfl (lv_at hl 0 rfl) ?_
  refine lv_iload_n hx hb dL_stateOf_3 rfl (lv_at hl 1 rfl) ?_
  have htab : c.exceptionTable.toList = ([] : List ExceptionTableEntry) ++ ⟨0, 9, 12, 21⟩ :: [] := (vx_table (x := yL_stateOf) B (hts (.codeWith yL_stateOf cL_stateOf 4 (some .int) [(0, 9, 12, 21)]) List.mem_cons_self)).trans rfl
  refine zx_go (kr_X3_stateOf_no l hfl (x := x) (hn := hn) (hk := hk) hx hb hml hown hts hK hP gL_stateOf_X3_stateOf ⟨Nat.le_of_ble_eq_true rfl, Nat.le_of_ble_eq_true rfl⟩ ⟨Nat.le_of_ble_eq_true rfl, Nat.le_of_ble_eq_true rfl⟩ hl.1 (Nat.le_of_ble_eq_true rfl) dL_stateOf_4 hT) (fun ce q9 H1 hz9 hk9 hce hcv hcl => ?_)
  refine vx_catch (own := RL) (name := "java/lang/IndexOutOfBoundsException") (E := "java/lang/IndexOutOfBoundsException") hown [] ⟨0, 9, 12, 21⟩ [] htab (fun z hz => nomatch hz) rfl (by decide) (hts (.classLink RL 21 "java/lang/IndexOutOfBoundsException") (by decide +kernel)) (va_Nw.use rfl hT.2.1.2.2) hce hcv hcl ?_
  have hS : va_S (fun _ => False) s.heap H1 [] := ⟨hz9, fun q hq _ => hk9 q hq, fun _ h => nomatch h⟩
  refine lv_astore_n (lv' := [(3, .ref q9), (0, .ref (ad 0)), (1, .int x), (2, .ref o9)]) hx hb dL_stateOf_12 rfl hl (by decide) rfl (fun ls hl => ?_)
  refine lv_iconst (v := nI 1) hx hb dL_stateOf_13 (by decide) ?_
  exact W.iret (v := nI 1) hx hb hr (fun t ht hW => ⟨⟨nI 1, (), rfl, rfl, trivial⟩, hS.F ht⟩) hS.2.2 dL_stateOf_14
section
variable {p : Program} {e : Env} {R : Room} {s : State} {m : MethodId} {args : Array Value} {below : List Frame} {meth : Method} {c : Code} {H : Heap} {locs : List Loc} {cells slots : Nat} {Q : State → Prop} {cc : ByteArray} {pc : Nat} {ls : Array Slot} {rest : List Value} {own : String} {index nL : Nat} {Ts : List Cond} {H0 : Heap} {A0 : Nat → Prop}
theorem kh_stateOf_no (l : Launch) {dC : Nat → ClassId} {dI : Nat → Nat → Nat} {cI cZ cJ : ClassId} {ad : Nat → Nat} {o9 : Nat} {sm fe ex dy : Int32} {gp gc op gr st dl wo : Nat → Int32} {n : Nat} {yc ya ys yd : Nat → Int32} {q : Nat} {zc zp zr zs zf : Nat → Int32} {z : Nat} {zm zt : Int64} {fo : Nat → Int64} {x : Int32}(hfl : l.stackTraces = false)  (hn : n ≤ 24) (hk : ¬ vp_in x n) (hx : p.tables.exec = Jvm.exec) (hb : c.code = cc) (hml : c.maxLocals = nL) (hown : s.vm.findClass own = some m.cls) (hts : ∀ w ∈ Ts, w.before args s = true) (hK : va_K (dC, dI) vwCl [(cI, .int), (cZ, .boolean)] s) (hP : va_P (dC, dI) vwCl (wC cI cZ ad sm fe ex dy gp gc op gr st dl wo n yc ya ys yd q zc zp zr zs zf z zm zt) H) (hg9 : GoodIn Ts (va_wsS own index yL_stateOf wsL_stateOf)) (hR9 : 8 + 1 ≤ R.frames ∧ 8 + (4 + 11) + 132 ≤ R.locals) (hc9 : cells + 1 ≤ R.cells ∧ slots + 6 ≤ R.slots) (hl9 : ls.size = nL) (hw9 : (rest.map fun v => v.category).sum ≤ 8) (hdg : decode cc pc = .ok (.invokestatic index, 3)) (hT : tX (fun _ => False) s H) (hN : tN s) (hS : va_S A0 H0 H locs) (kk : ∀ (H1 : Heap) (locs1 : List Loc), va_S A0 H0 H1 locs1 → H.size ≤ H1.size → (∀ q : Nat, q < H.size → H1[q]? = H[q]?) → W p l e R s m args below meth c H1 locs1 (cells + 1) (slots + 6) Q (F0 m (pc + 3) ls (.int (nI 1) :: rest))) : W p l e R s m args below meth c H locs cells slots Q (F0 m pc ls (.ref o9 :: .int x :: .ref (ad 0) :: rest)) := va_calli (vx_runSW (As := [.ref (ad 0), .int x, .ref o9]) (rest := rest) ⟨hx, hb, hml, hown, hts⟩ (h_stateOf_no (cJ := 0) (o9 := o9) (fo := fun _ => 0) (dC := dC) (dI := dI) (cI := cI) (cZ := cZ) (ad := ad) (sm := sm) (fe := fe) (ex := ex) (dy := dy) (gp := gp) (gc := gc) (op := op) (gr := gr) (st := st) (dl := dl) (wo := wo) (n := n) (yc := yc) (ya := ya) (ys := ys) (yd := yd) (q := q) (zc := zc) (zp := zp) (zr := zr) (zs := zs) (zf := zf) (z := z) (zm := zm) (zt := zt) (x := x) l hfl hn hk) (vx_cwSW 3 hts hg9 rfl rfl rfl (by decide +kernel) hR9) ⟨fun a U g mk q => ⟨q.1, q.2.1, va_K.moved (u := U) (U := U.calling g mk a) (Vm.Alike.refl U.vm) q.2.2.1, tX.same (u := U) (U := U.calling g mk a) rfl q.2.2.2.1, tN.moved (u := U) (U := U.calling g mk a) (Vm.Alike.refl U.vm) q.2.2.2.2⟩, fun U hU hW => ⟨rfl, by rw [hU]; exact hP, va_K.moved hW.alike hK, by rw [hU]; exact tX.warm hW hT, tN.moved hW.alike hN⟩⟩ rfl rfl hl9 rfl (lv_room hw9) hdg hc9) hS (fun _ _ h => h.elim) (fun _ h => h.elim) (fun r u t H1 locs1 ht _ hu _ hz hk hS1 => by subst hu; exact kk H1 locs1 hS1 hz (fun q hq => hk q hq (fun h => h)))
end
set_option maxHeartbeats 4000000 in
set_option maxRecDepth 100000 in
theorem h_gradeOf_no (l : Launch) {dC : Nat → ClassId} {dI : Nat → Nat → Nat} {cI cZ cJ : ClassId} {ad : Nat → Nat} {o9 : Nat} {sm fe ex dy : Int32} {gp gc op gr st dl wo : Nat → Int32} {n : Nat} {yc ya ys yd : Nat → Int32} {q : Nat} {zc zp zr zs zf : Nat → Int32} {z : Nat} {zm zt : Int64} {fo : Nat → Int64} {x : Int32} (hfl : l.stackTraces = false) (hn : n ≤ 24) (hk : ¬ vp_in x n) : Met l yL_gradeOf wsL_gradeOf { frames := 8, cells := 1, slots := 6, locals := 132 } (va_Pc [.ref (ad 0), .int x, .ref o9] (fun U => va_P (dC, dI) vwCl (wC cI cZ ad sm fe ex dy gp gc op gr st dl wo n yc ya ys yd q zc zp zr zs zf z zm zt) U.heap ∧ va_K (dC, dI) vwCl [(cI, .int), (cZ, .boolean)] U ∧ tX (fun _ => False) U U.heap ∧ tN U)) (va_Qi (fun r (_ : Unit) => r = nI 1) (fun _ _ => True) (fun _ => False)) 1 6 (fun _ => False) := by
  refine va_MetW (cc := cL_gradeOf) (maxL := 4) (ret := (some .int)) (hh := [(0, 9, 12, 21)]) (by decide) rfl ?_
  intro p e s m args below meth c s₁ B hml hv
  obtain ⟨rfl, hP, hK, hT, hN⟩ := hv
  have hx := B.exec
  have hb := B.bytes
  have hr := B.returns
  have hts := atoms_spec (ws := wsL_gradeOf) B.pre
  have hown : s.vm.findClass RL = some m.cls := findClass_of_methodNamed B.named
  have hlocks := B.notSynchronized
  have hl := lv_entry ([.ref (ad 0), .int x, .ref o9]) (n := 4) (Nat.le_of_ble_eq_true rfl)
  rw [lg_entry_eq]
  generalize (lg_sl ([.ref (ad 0), .int x, .ref o9]) ++ List.replicate (4 - (lg_sl ([.ref (ad 0), .int x, .ref o9])).length) Slot.unset).toArray = ls at hl ⊢
  have hl : lv_has ls 4 [(0, .ref (ad 0)), (1, .int x), (2, .ref o9)] := hl
  refine lv_aload_n hx hb dL_gradeOf_0 rfl (lv_at hl 2 rfl) ?_
  refine lv_iconst (v := nI 0) hx hb dL_gradeOf_1 (by decide) ?_
  refine lv_aload_n hx hb dL_gradeOf_2 rfl (lv_at hl 0 rfl) ?_
  refine lv_iload_n hx hb dL_gradeOf_3 rfl (lv_at hl 1 rfl) ?_
  have htab : c.exceptionTable.toList = ([] : List ExceptionTableEntry) ++ ⟨0, 9, 12, 21⟩ :: [] := (vx_table (x := yL_gradeOf) B (hts (.codeWith yL_gradeOf cL_gradeOf 4 (some .int) [(0, 9, 12, 21)]) List.mem_cons_self)).trans rfl
  refine zx_go (kr_X3_gradeOf_no l hfl (x := x) (hn := hn) (hk := hk) hx hb hml hown hts hK hP gL_gradeOf_X3_gradeOf ⟨Nat.le_of_ble_eq_true rfl, Nat.le_of_ble_eq_true rfl⟩ ⟨Nat.le_of_ble_eq_true rfl, Nat.le_of_ble_eq_true rfl⟩ hl.1 (Nat.le_of_ble_eq_true rfl) dL_gradeOf_4 hT) (fun ce q9 H1 hz9 hk9 hce hcv hcl => ?_)
  refine vx_catch (own := RL) (name := "java/lang/IndexOutOfBoundsException") (E := "java/lang/IndexOutOfBoundsException") hown [] ⟨0, 9, 12, 21⟩ [] htab (fun z hz => nomatch hz) rfl (by decide) (hts (.classLink RL 21 "java/lang/IndexOutOfBoundsException") (by decide +kernel)) (va_Nw.use rfl hT.2.1.2.2) hce hcv hcl ?_
  have hS : va_S (fun _ => False) s.heap H1 [] := ⟨hz9, fun q hq _ => hk9 q hq, fun _ h => nomatch h⟩
  refine lv_astore_n (lv' := [(3, .ref q9), (0, .ref (ad 0)), (1, .int x), (2, .ref o9)]) hx hb dL_gradeOf_12 rfl hl (by decide) rfl (fun ls hl => ?_)
  refine lv_iconst (v := nI 1) hx hb dL_gradeOf_13 (by decide) ?_
  exact W.iret (v := nI 1) hx hb hr (fun t ht hW => ⟨⟨nI 1, (), rfl, rfl, trivial⟩, hS.F ht⟩) hS.2.2 dL_gradeOf_14
section
variable {p : Program} {e : Env} {R : Room} {s : State} {m : MethodId} {args : Array Value} {below : List Frame} {meth : Method} {c : Code} {H : Heap} {locs : List Loc} {cells slots : Nat} {Q : State → Prop} {cc : ByteArray} {pc : Nat} {ls : Array Slot} {rest : List Value} {own : String} {index nL : Nat} {Ts : List Cond} {H0 : Heap} {A0 : Nat → Prop}
theorem kh_gradeOf_no (l : Launch) {dC : Nat → ClassId} {dI : Nat → Nat → Nat} {cI cZ cJ : ClassId} {ad : Nat → Nat} {o9 : Nat} {sm fe ex dy : Int32} {gp gc op gr st dl wo : Nat → Int32} {n : Nat} {yc ya ys yd : Nat → Int32} {q : Nat} {zc zp zr zs zf : Nat → Int32} {z : Nat} {zm zt : Int64} {fo : Nat → Int64} {x : Int32}(hfl : l.stackTraces = false)  (hn : n ≤ 24) (hk : ¬ vp_in x n) (hx : p.tables.exec = Jvm.exec) (hb : c.code = cc) (hml : c.maxLocals = nL) (hown : s.vm.findClass own = some m.cls) (hts : ∀ w ∈ Ts, w.before args s = true) (hK : va_K (dC, dI) vwCl [(cI, .int), (cZ, .boolean)] s) (hP : va_P (dC, dI) vwCl (wC cI cZ ad sm fe ex dy gp gc op gr st dl wo n yc ya ys yd q zc zp zr zs zf z zm zt) H) (hg9 : GoodIn Ts (va_wsS own index yL_gradeOf wsL_gradeOf)) (hR9 : 8 + 1 ≤ R.frames ∧ 8 + (4 + 11) + 132 ≤ R.locals) (hc9 : cells + 1 ≤ R.cells ∧ slots + 6 ≤ R.slots) (hl9 : ls.size = nL) (hw9 : (rest.map fun v => v.category).sum ≤ 8) (hdg : decode cc pc = .ok (.invokestatic index, 3)) (hT : tX (fun _ => False) s H) (hN : tN s) (hS : va_S A0 H0 H locs) (kk : ∀ (H1 : Heap) (locs1 : List Loc), va_S A0 H0 H1 locs1 → H.size ≤ H1.size → (∀ q : Nat, q < H.size → H1[q]? = H[q]?) → W p l e R s m args below meth c H1 locs1 (cells + 1) (slots + 6) Q (F0 m (pc + 3) ls (.int (nI 1) :: rest))) : W p l e R s m args below meth c H locs cells slots Q (F0 m pc ls (.ref o9 :: .int x :: .ref (ad 0) :: rest)) := va_calli (vx_runSW (As := [.ref (ad 0), .int x, .ref o9]) (rest := rest) ⟨hx, hb, hml, hown, hts⟩ (h_gradeOf_no (cJ := 0) (o9 := o9) (fo := fun _ => 0) (dC := dC) (dI := dI) (cI := cI) (cZ := cZ) (ad := ad) (sm := sm) (fe := fe) (ex := ex) (dy := dy) (gp := gp) (gc := gc) (op := op) (gr := gr) (st := st) (dl := dl) (wo := wo) (n := n) (yc := yc) (ya := ya) (ys := ys) (yd := yd) (q := q) (zc := zc) (zp := zp) (zr := zr) (zs := zs) (zf := zf) (z := z) (zm := zm) (zt := zt) (x := x) l hfl hn hk) (vx_cwSW 3 hts hg9 rfl rfl rfl (by decide +kernel) hR9) ⟨fun a U g mk q => ⟨q.1, q.2.1, va_K.moved (u := U) (U := U.calling g mk a) (Vm.Alike.refl U.vm) q.2.2.1, tX.same (u := U) (U := U.calling g mk a) rfl q.2.2.2.1, tN.moved (u := U) (U := U.calling g mk a) (Vm.Alike.refl U.vm) q.2.2.2.2⟩, fun U hU hW => ⟨rfl, by rw [hU]; exact hP, va_K.moved hW.alike hK, by rw [hU]; exact tX.warm hW hT, tN.moved hW.alike hN⟩⟩ rfl rfl hl9 rfl (lv_room hw9) hdg hc9) hS (fun _ _ h => h.elim) (fun _ h => h.elim) (fun r u t H1 locs1 ht _ hu _ hz hk hS1 => by subst hu; exact kk H1 locs1 hS1 hz (fun q hq => hk q hq (fun h => h)))
end
set_option maxHeartbeats 4000000 in
set_option maxRecDepth 100000 in
theorem h_room_no (l : Launch) {dC : Nat → ClassId} {dI : Nat → Nat → Nat} {cI cZ cJ : ClassId} {ad : Nat → Nat} {o9 : Nat} {sm fe ex dy : Int32} {gp gc op gr st dl wo : Nat → Int32} {n : Nat} {yc ya ys yd : Nat → Int32} {q : Nat} {zc zp zr zs zf : Nat → Int32} {z : Nat} {zm zt : Int64} {fo : Nat → Int64} {x : Int32} (hfl : l.stackTraces = false) (hn : n ≤ 24) (hk : ¬ vp_in x n) : Met l yL_room wsL_room { frames := 8, cells := 1, slots := 6, locals := 133 } (va_Pc [.ref (ad 0), .int x, .ref o9] (fun U => va_P (dC, dI) vwCl (wC cI cZ ad sm fe ex dy gp gc op gr st dl wo n yc ya ys yd q zc zp zr zs zf z zm zt) U.heap ∧ va_K (dC, dI) vwCl [(cI, .int), (cZ, .boolean)] U ∧ tX (fun _ => False) U U.heap ∧ tN U)) (va_Qi (fun r (_ : Unit) => r = nI 1) (fun _ _ => True) (fun _ => False)) 1 6 (fun _ => False) := by
  refine va_MetW (cc := cL_room) (maxL := 4) (ret := (some .int)) (hh := [(0, 9, 12, 21)]) (by decide) rfl ?_
  intro p e s m args below meth c s₁ B hml hv
  obtain ⟨rfl, hP, hK, hT, hN⟩ := hv
  have hx := B.exec
  have hb := B.bytes
  have hr := B.returns
  have hts := atoms_spec (ws := wsL_room) B.pre
  have hown : s.vm.findClass RL = some m.cls := findClass_of_methodNamed B.named
  have hlocks := B.notSynchronized
  have hl := lv_entry ([.ref (ad 0), .int x, .ref o9]) (n := 4) (Nat.le_of_ble_eq_true rfl)
  rw [lg_entry_eq]
  generalize (lg_sl ([.ref (ad 0), .int x, .ref o9]) ++ List.replicate (4 - (lg_sl ([.ref (ad 0), .int x, .ref o9])).length) Slot.unset).toArray = ls at hl ⊢
  have hl : lv_has ls 4 [(0, .ref (ad 0)), (1, .int x), (2, .ref o9)] := hl
  refine lv_aload_n hx hb dL_room_0 rfl (lv_at hl 2 rfl) ?_
  refine lv_iconst (v := nI 0) hx hb dL_room_1 (by decide) ?_
  refine lv_aload_n hx hb dL_room_2 rfl (lv_at hl 0 rfl) ?_
  refine lv_iload_n hx hb dL_room_3 rfl (lv_at hl 1 rfl) ?_
  have htab : c.exceptionTable.toList = ([] : List ExceptionTableEntry) ++ ⟨0, 9, 12, 21⟩ :: [] := (vx_table (x := yL_room) B (hts (.codeWith yL_room cL_room 4 (some .int) [(0, 9, 12, 21)]) List.mem_cons_self)).trans rfl
  refine zx_go (kr_X3_room_no l hfl (x := x) (hn := hn) (hk := hk) hx hb hml hown hts hK hP gL_room_X3_room ⟨Nat.le_of_ble_eq_true rfl, Nat.le_of_ble_eq_true rfl⟩ ⟨Nat.le_of_ble_eq_true rfl, Nat.le_of_ble_eq_true rfl⟩ hl.1 (Nat.le_of_ble_eq_true rfl) dL_room_4 hT) (fun ce q9 H1 hz9 hk9 hce hcv hcl => ?_)
  refine vx_catch (own := RL) (name := "java/lang/IndexOutOfBoundsException") (E := "java/lang/IndexOutOfBoundsException") hown [] ⟨0, 9, 12, 21⟩ [] htab (fun z hz => nomatch hz) rfl (by decide) (hts (.classLink RL 21 "java/lang/IndexOutOfBoundsException") (by decide +kernel)) (va_Nw.use rfl hT.2.1.2.2) hce hcv hcl ?_
  have hS : va_S (fun _ => False) s.heap H1 [] := ⟨hz9, fun q hq _ => hk9 q hq, fun _ h => nomatch h⟩
  refine lv_astore_n (lv' := [(3, .ref q9), (0, .ref (ad 0)), (1, .int x), (2, .ref o9)]) hx hb dL_room_12 rfl hl (by decide) rfl (fun ls hl => ?_)
  refine lv_iconst (v := nI 1) hx hb dL_room_13 (by decide) ?_
  exact W.iret (v := nI 1) hx hb hr (fun t ht hW => ⟨⟨nI 1, (), rfl, rfl, trivial⟩, hS.F ht⟩) hS.2.2 dL_room_14
section
variable {p : Program} {e : Env} {R : Room} {s : State} {m : MethodId} {args : Array Value} {below : List Frame} {meth : Method} {c : Code} {H : Heap} {locs : List Loc} {cells slots : Nat} {Q : State → Prop} {cc : ByteArray} {pc : Nat} {ls : Array Slot} {rest : List Value} {own : String} {index nL : Nat} {Ts : List Cond} {H0 : Heap} {A0 : Nat → Prop}
theorem kh_room_no (l : Launch) {dC : Nat → ClassId} {dI : Nat → Nat → Nat} {cI cZ cJ : ClassId} {ad : Nat → Nat} {o9 : Nat} {sm fe ex dy : Int32} {gp gc op gr st dl wo : Nat → Int32} {n : Nat} {yc ya ys yd : Nat → Int32} {q : Nat} {zc zp zr zs zf : Nat → Int32} {z : Nat} {zm zt : Int64} {fo : Nat → Int64} {x : Int32}(hfl : l.stackTraces = false)  (hn : n ≤ 24) (hk : ¬ vp_in x n) (hx : p.tables.exec = Jvm.exec) (hb : c.code = cc) (hml : c.maxLocals = nL) (hown : s.vm.findClass own = some m.cls) (hts : ∀ w ∈ Ts, w.before args s = true) (hK : va_K (dC, dI) vwCl [(cI, .int), (cZ, .boolean)] s) (hP : va_P (dC, dI) vwCl (wC cI cZ ad sm fe ex dy gp gc op gr st dl wo n yc ya ys yd q zc zp zr zs zf z zm zt) H) (hg9 : GoodIn Ts (va_wsS own index yL_room wsL_room)) (hR9 : 8 + 1 ≤ R.frames ∧ 8 + (4 + 11) + 133 ≤ R.locals) (hc9 : cells + 1 ≤ R.cells ∧ slots + 6 ≤ R.slots) (hl9 : ls.size = nL) (hw9 : (rest.map fun v => v.category).sum ≤ 8) (hdg : decode cc pc = .ok (.invokestatic index, 3)) (hT : tX (fun _ => False) s H) (hN : tN s) (hS : va_S A0 H0 H locs) (kk : ∀ (H1 : Heap) (locs1 : List Loc), va_S A0 H0 H1 locs1 → H.size ≤ H1.size → (∀ q : Nat, q < H.size → H1[q]? = H[q]?) → W p l e R s m args below meth c H1 locs1 (cells + 1) (slots + 6) Q (F0 m (pc + 3) ls (.int (nI 1) :: rest))) : W p l e R s m args below meth c H locs cells slots Q (F0 m pc ls (.ref o9 :: .int x :: .ref (ad 0) :: rest)) := va_calli (vx_runSW (As := [.ref (ad 0), .int x, .ref o9]) (rest := rest) ⟨hx, hb, hml, hown, hts⟩ (h_room_no (cJ := 0) (o9 := o9) (fo := fun _ => 0) (dC := dC) (dI := dI) (cI := cI) (cZ := cZ) (ad := ad) (sm := sm) (fe := fe) (ex := ex) (dy := dy) (gp := gp) (gc := gc) (op := op) (gr := gr) (st := st) (dl := dl) (wo := wo) (n := n) (yc := yc) (ya := ya) (ys := ys) (yd := yd) (q := q) (zc := zc) (zp := zp) (zr := zr) (zs := zs) (zf := zf) (z := z) (zm := zm) (zt := zt) (x := x) l hfl hn hk) (vx_cwSW 3 hts hg9 rfl rfl rfl (by decide +kernel) hR9) ⟨fun a U g mk q => ⟨q.1, q.2.1, va_K.moved (u := U) (U := U.calling g mk a) (Vm.Alike.refl U.vm) q.2.2.1, tX.same (u := U) (U := U.calling g mk a) rfl q.2.2.2.1, tN.moved (u := U) (U := U.calling g mk a) (Vm.Alike.refl U.vm) q.2.2.2.2⟩, fun U hU hW => ⟨rfl, by rw [hU]; exact hP, va_K.moved hW.alike hK, by rw [hU]; exact tX.warm hW hT, tN.moved hW.alike hN⟩⟩ rfl rfl hl9 rfl (lv_room hw9) hdg hc9) hS (fun _ _ h => h.elim) (fun _ h => h.elim) (fun r u t H1 locs1 ht _ hu _ hz hk hS1 => by subst hu; exact kk H1 locs1 hS1 hz (fun q hq => hk q hq (fun h => h)))
end
set_option maxHeartbeats 4000000 in
set_option maxRecDepth 100000 in
theorem h_paidTo_no (l : Launch) {dC : Nat → ClassId} {dI : Nat → Nat → Nat} {cI cZ cJ : ClassId} {ad : Nat → Nat} {o9 : Nat} {sm fe ex dy : Int32} {gp gc op gr st dl wo : Nat → Int32} {n : Nat} {yc ya ys yd : Nat → Int32} {q : Nat} {zc zp zr zs zf : Nat → Int32} {z : Nat} {zm zt : Int64} {fo : Nat → Int64} {x : Int32} (hfl : l.stackTraces = false) (hn : n ≤ 24) (hk : ¬ vp_in x n) : Met l yL_paidTo wsL_paidTo { frames := 8, cells := 1, slots := 6, locals := 132 } (va_Pc [.ref (ad 0), .int x, .ref o9] (fun U => va_P (dC, dI) vwCl (wC cI cZ ad sm fe ex dy gp gc op gr st dl wo n yc ya ys yd q zc zp zr zs zf z zm zt) U.heap ∧ va_K (dC, dI) vwCl [(cI, .int), (cZ, .boolean)] U ∧ tX (fun _ => False) U U.heap ∧ tN U)) (va_Qi (fun r (_ : Unit) => r = nI 1) (fun _ _ => True) (fun _ => False)) 1 6 (fun _ => False) := by
  refine va_MetW (cc := cL_paidTo) (maxL := 4) (ret := (some .int)) (hh := [(0, 9, 12, 21)]) (by decide) rfl ?_
  intro p e s m args below meth c s₁ B hml hv
  obtain ⟨rfl, hP, hK, hT, hN⟩ := hv
  have hx := B.exec
  have hb := B.bytes
  have hr := B.returns
  have hts := atoms_spec (ws := wsL_paidTo) B.pre
  have hown : s.vm.findClass RL = some m.cls := findClass_of_methodNamed B.named
  have hlocks := B.notSynchronized
  have hl := lv_entry ([.ref (ad 0), .int x, .ref o9]) (n := 4) (Nat.le_of_ble_eq_true rfl)
  rw [lg_entry_eq]
  generalize (lg_sl ([.ref (ad 0), .int x, .ref o9]) ++ List.replicate (4 - (lg_sl ([.ref (ad 0), .int x, .ref o9])).length) Slot.unset).toArray = ls at hl ⊢
  have hl : lv_has ls 4 [(0, .ref (ad 0)), (1, .int x), (2, .ref o9)] := hl
  refine lv_aload_n hx hb dL_paidTo_0 rfl (lv_at hl 2 rfl) ?_
  refine lv_iconst (v := nI 0) hx hb dL_paidTo_1 (by decide) ?_
  refine lv_aload_n hx hb dL_paidTo_2 rfl (lv_at hl 0 rfl) ?_
  refine lv_iload_n hx hb dL_paidTo_3 rfl (lv_at hl 1 rfl) ?_
  have htab : c.exceptionTable.toList = ([] : List ExceptionTableEntry) ++ ⟨0, 9, 12, 21⟩ :: [] := (vx_table (x := yL_paidTo) B (hts (.codeWith yL_paidTo cL_paidTo 4 (some .int) [(0, 9, 12, 21)]) List.mem_cons_self)).trans rfl
  refine zx_go (kr_X3_paidTo_no l hfl (x := x) (hn := hn) (hk := hk) hx hb hml hown hts hK hP gL_paidTo_X3_paidTo ⟨Nat.le_of_ble_eq_true rfl, Nat.le_of_ble_eq_true rfl⟩ ⟨Nat.le_of_ble_eq_true rfl, Nat.le_of_ble_eq_true rfl⟩ hl.1 (Nat.le_of_ble_eq_true rfl) dL_paidTo_4 hT) (fun ce q9 H1 hz9 hk9 hce hcv hcl => ?_)
  refine vx_catch (own := RL) (name := "java/lang/IndexOutOfBoundsException") (E := "java/lang/IndexOutOfBoundsException") hown [] ⟨0, 9, 12, 21⟩ [] htab (fun z hz => nomatch hz) rfl (by decide) (hts (.classLink RL 21 "java/lang/IndexOutOfBoundsException") (by decide +kernel)) (va_Nw.use rfl hT.2.1.2.2) hce hcv hcl ?_
  have hS : va_S (fun _ => False) s.heap H1 [] := ⟨hz9, fun q hq _ => hk9 q hq, fun _ h => nomatch h⟩
  refine lv_astore_n (lv' := [(3, .ref q9), (0, .ref (ad 0)), (1, .int x), (2, .ref o9)]) hx hb dL_paidTo_12 rfl hl (by decide) rfl (fun ls hl => ?_)
  refine lv_iconst (v := nI 1) hx hb dL_paidTo_13 (by decide) ?_
  exact W.iret (v := nI 1) hx hb hr (fun t ht hW => ⟨⟨nI 1, (), rfl, rfl, trivial⟩, hS.F ht⟩) hS.2.2 dL_paidTo_14
section
variable {p : Program} {e : Env} {R : Room} {s : State} {m : MethodId} {args : Array Value} {below : List Frame} {meth : Method} {c : Code} {H : Heap} {locs : List Loc} {cells slots : Nat} {Q : State → Prop} {cc : ByteArray} {pc : Nat} {ls : Array Slot} {rest : List Value} {own : String} {index nL : Nat} {Ts : List Cond} {H0 : Heap} {A0 : Nat → Prop}
theorem kh_paidTo_no (l : Launch) {dC : Nat → ClassId} {dI : Nat → Nat → Nat} {cI cZ cJ : ClassId} {ad : Nat → Nat} {o9 : Nat} {sm fe ex dy : Int32} {gp gc op gr st dl wo : Nat → Int32} {n : Nat} {yc ya ys yd : Nat → Int32} {q : Nat} {zc zp zr zs zf : Nat → Int32} {z : Nat} {zm zt : Int64} {fo : Nat → Int64} {x : Int32}(hfl : l.stackTraces = false)  (hn : n ≤ 24) (hk : ¬ vp_in x n) (hx : p.tables.exec = Jvm.exec) (hb : c.code = cc) (hml : c.maxLocals = nL) (hown : s.vm.findClass own = some m.cls) (hts : ∀ w ∈ Ts, w.before args s = true) (hK : va_K (dC, dI) vwCl [(cI, .int), (cZ, .boolean)] s) (hP : va_P (dC, dI) vwCl (wC cI cZ ad sm fe ex dy gp gc op gr st dl wo n yc ya ys yd q zc zp zr zs zf z zm zt) H) (hg9 : GoodIn Ts (va_wsS own index yL_paidTo wsL_paidTo)) (hR9 : 8 + 1 ≤ R.frames ∧ 8 + (4 + 11) + 132 ≤ R.locals) (hc9 : cells + 1 ≤ R.cells ∧ slots + 6 ≤ R.slots) (hl9 : ls.size = nL) (hw9 : (rest.map fun v => v.category).sum ≤ 8) (hdg : decode cc pc = .ok (.invokestatic index, 3)) (hT : tX (fun _ => False) s H) (hN : tN s) (hS : va_S A0 H0 H locs) (kk : ∀ (H1 : Heap) (locs1 : List Loc), va_S A0 H0 H1 locs1 → H.size ≤ H1.size → (∀ q : Nat, q < H.size → H1[q]? = H[q]?) → W p l e R s m args below meth c H1 locs1 (cells + 1) (slots + 6) Q (F0 m (pc + 3) ls (.int (nI 1) :: rest))) : W p l e R s m args below meth c H locs cells slots Q (F0 m pc ls (.ref o9 :: .int x :: .ref (ad 0) :: rest)) := va_calli (vx_runSW (As := [.ref (ad 0), .int x, .ref o9]) (rest := rest) ⟨hx, hb, hml, hown, hts⟩ (h_paidTo_no (cJ := 0) (o9 := o9) (fo := fun _ => 0) (dC := dC) (dI := dI) (cI := cI) (cZ := cZ) (ad := ad) (sm := sm) (fe := fe) (ex := ex) (dy := dy) (gp := gp) (gc := gc) (op := op) (gr := gr) (st := st) (dl := dl) (wo := wo) (n := n) (yc := yc) (ya := ya) (ys := ys) (yd := yd) (q := q) (zc := zc) (zp := zp) (zr := zr) (zs := zs) (zf := zf) (z := z) (zm := zm) (zt := zt) (x := x) l hfl hn hk) (vx_cwSW 3 hts hg9 rfl rfl rfl (by decide +kernel) hR9) ⟨fun a U g mk q => ⟨q.1, q.2.1, va_K.moved (u := U) (U := U.calling g mk a) (Vm.Alike.refl U.vm) q.2.2.1, tX.same (u := U) (U := U.calling g mk a) rfl q.2.2.2.1, tN.moved (u := U) (U := U.calling g mk a) (Vm.Alike.refl U.vm) q.2.2.2.2⟩, fun U hU hW => ⟨rfl, by rw [hU]; exact hP, va_K.moved hW.alike hK, by rw [hU]; exact tX.warm hW hT, tN.moved hW.alike hN⟩⟩ rfl rfl hl9 rfl (lv_room hw9) hdg hc9) hS (fun _ _ h => h.elim) (fun _ h => h.elim) (fun r u t H1 locs1 ht _ hu _ hz hk hS1 => by subst hu; exact kk H1 locs1 hS1 hz (fun q hq => hk q hq (fun h => h)))
end
set_option maxHeartbeats 4000000 in
set_option maxRecDepth 100000 in
theorem h_cure_no (l : Launch) {dC : Nat → ClassId} {dI : Nat → Nat → Nat} {cI cZ cJ : ClassId} {ad : Nat → Nat} {o9 : Nat} {sm fe ex dy : Int32} {gp gc op gr st dl wo : Nat → Int32} {n : Nat} {yc ya ys yd : Nat → Int32} {q : Nat} {zc zp zr zs zf : Nat → Int32} {z : Nat} {zm zt : Int64} {fo : Nat → Int64} {x : Int32} (hfl : l.stackTraces = false) (hn : n ≤ 24) (hk : ¬ vp_in x n) : Met l yL_cure wsL_cure { frames := 8, cells := 1, slots := 6, locals := 132 } (va_Pc [.ref (ad 0), .int x, .ref o9] (fun U => va_P (dC, dI) vwCl (wC cI cZ ad sm fe ex dy gp gc op gr st dl wo n yc ya ys yd q zc zp zr zs zf z zm zt) U.heap ∧ va_K (dC, dI) vwCl [(cI, .int), (cZ, .boolean)] U ∧ tX (fun _ => False) U U.heap ∧ tN U)) (va_Qi (fun r (_ : Unit) => r = nI 1) (fun _ _ => True) (fun _ => False)) 1 6 (fun _ => False) := by
  refine va_MetW (cc := cL_cure) (maxL := 4) (ret := (some .int)) (hh := [(0, 9, 12, 21), (0, 9, 15, 15)]) (by decide) rfl ?_
  intro p e s m args below meth c s₁ B hml hv
  obtain ⟨rfl, hP, hK, hT, hN⟩ := hv
  have hx := B.exec
  have hb := B.bytes
  have hr := B.returns
  have hts := atoms_spec (ws := wsL_cure) B.pre
  have hown : s.vm.findClass RL = some m.cls := findClass_of_methodNamed B.named
  have hlocks := B.notSynchronized
  have hl := lv_entry ([.ref (ad 0), .int x, .ref o9]) (n := 4) (Nat.le_of_ble_eq_true rfl)
  rw [lg_entry_eq]
  generalize (lg_sl ([.ref (ad 0), .int x, .ref o9]) ++ List.replicate (4 - (lg_sl ([.ref (ad 0), .int x, .ref o9])).length) Slot.unset).toArray = ls at hl ⊢
  have hl : lv_has ls 4 [(0, .ref (ad 0)), (1, .int x), (2, .ref o9)] := hl
  refine lv_aload_n hx hb dL_cure_0 rfl (lv_at hl 2 rfl) ?_
  refine lv_iconst (v := nI 0) hx hb dL_cure_1 (by decide) ?_
  refine lv_aload_n hx hb dL_cure_2 rfl (lv_at hl 0 rfl) ?_
  refine lv_iload_n hx hb dL_cure_3 rfl (lv_at hl 1 rfl) ?_
  have htab : c.exceptionTable.toList = ([] : List ExceptionTableEntry) ++ ⟨0, 9, 12, 21⟩ :: [⟨0, 9, 15, 15⟩] := (vx_table (x := yL_cure) B (hts (.codeWith yL_cure cL_cure 4 (some .int) [(0, 9, 12, 21), (0, 9, 15, 15)]) List.mem_cons_self)).trans rfl
  refine zx_go (kr_X3_cure_no l hfl (x := x) (hn := hn) (hk := hk) hx hb hml hown hts hK hP gL_cure_X3_cure ⟨Nat.le_of_ble_eq_true rfl, Nat.le_of_ble_eq_true rfl⟩ ⟨Nat.le_of_ble_eq_true rfl, Nat.le_of_ble_eq_true rfl⟩ hl.1 (Nat.le_of_ble_eq_true rfl) dL_cure_4 hT) (fun ce q9 H1 hz9 hk9 hce hcv hcl => ?_)
  refine vx_catch (own := RL) (name := "java/lang/IndexOutOfBoundsException") (E := "java/lang/IndexOutOfBoundsException") hown [] ⟨0, 9, 12, 21⟩ [⟨0, 9, 15, 15⟩] htab (fun z hz => nomatch hz) rfl (by decide) (hts (.classLink RL 21 "java/lang/IndexOutOfBoundsException") (by decide +kernel)) (va_Nw.use rfl hT.2.1.2.2) hce hcv hcl ?_
  have hS : va_S (fun _ => False) s.heap H1 [] := ⟨hz9, fun q hq _ => hk9 q hq, fun _ h => nomatch h⟩
  refine lv_astore_n (lv' := [(3, .ref q9), (0, .ref (ad 0)), (1, .int x), (2, .ref o9)]) hx hb dL_cure_12 rfl hl (by decide) rfl (fun ls hl => ?_)
  refine lv_iconst (v := nI 1) hx hb dL_cure_13 (by decide) ?_
  exact W.iret (v := nI 1) hx hb hr (fun t ht hW => ⟨⟨nI 1, (), rfl, rfl, trivial⟩, hS.F ht⟩) hS.2.2 dL_cure_14
section
variable {p : Program} {e : Env} {R : Room} {s : State} {m : MethodId} {args : Array Value} {below : List Frame} {meth : Method} {c : Code} {H : Heap} {locs : List Loc} {cells slots : Nat} {Q : State → Prop} {cc : ByteArray} {pc : Nat} {ls : Array Slot} {rest : List Value} {own : String} {index nL : Nat} {Ts : List Cond} {H0 : Heap} {A0 : Nat → Prop}
theorem kh_cure_no (l : Launch) {dC : Nat → ClassId} {dI : Nat → Nat → Nat} {cI cZ cJ : ClassId} {ad : Nat → Nat} {o9 : Nat} {sm fe ex dy : Int32} {gp gc op gr st dl wo : Nat → Int32} {n : Nat} {yc ya ys yd : Nat → Int32} {q : Nat} {zc zp zr zs zf : Nat → Int32} {z : Nat} {zm zt : Int64} {fo : Nat → Int64} {x : Int32}(hfl : l.stackTraces = false)  (hn : n ≤ 24) (hk : ¬ vp_in x n) (hx : p.tables.exec = Jvm.exec) (hb : c.code = cc) (hml : c.maxLocals = nL) (hown : s.vm.findClass own = some m.cls) (hts : ∀ w ∈ Ts, w.before args s = true) (hK : va_K (dC, dI) vwCl [(cI, .int), (cZ, .boolean)] s) (hP : va_P (dC, dI) vwCl (wC cI cZ ad sm fe ex dy gp gc op gr st dl wo n yc ya ys yd q zc zp zr zs zf z zm zt) H) (hg9 : GoodIn Ts (va_wsS own index yL_cure wsL_cure)) (hR9 : 8 + 1 ≤ R.frames ∧ 8 + (4 + 11) + 132 ≤ R.locals) (hc9 : cells + 1 ≤ R.cells ∧ slots + 6 ≤ R.slots) (hl9 : ls.size = nL) (hw9 : (rest.map fun v => v.category).sum ≤ 8) (hdg : decode cc pc = .ok (.invokestatic index, 3)) (hT : tX (fun _ => False) s H) (hN : tN s) (hS : va_S A0 H0 H locs) (kk : ∀ (H1 : Heap) (locs1 : List Loc), va_S A0 H0 H1 locs1 → H.size ≤ H1.size → (∀ q : Nat, q < H.size → H1[q]? = H[q]?) → W p l e R s m args below meth c H1 locs1 (cells + 1) (slots + 6) Q (F0 m (pc + 3) ls (.int (nI 1) :: rest))) : W p l e R s m args below meth c H locs cells slots Q (F0 m pc ls (.ref o9 :: .int x :: .ref (ad 0) :: rest)) := va_calli (vx_runSW (As := [.ref (ad 0), .int x, .ref o9]) (rest := rest) ⟨hx, hb, hml, hown, hts⟩ (h_cure_no (cJ := 0) (o9 := o9) (fo := fun _ => 0) (dC := dC) (dI := dI) (cI := cI) (cZ := cZ) (ad := ad) (sm := sm) (fe := fe) (ex := ex) (dy := dy) (gp := gp) (gc := gc) (op := op) (gr := gr) (st := st) (dl := dl) (wo := wo) (n := n) (yc := yc) (ya := ya) (ys := ys) (yd := yd) (q := q) (zc := zc) (zp := zp) (zr := zr) (zs := zs) (zf := zf) (z := z) (zm := zm) (zt := zt) (x := x) l hfl hn hk) (vx_cwSW 3 hts hg9 rfl rfl rfl (by decide +kernel) hR9) ⟨fun a U g mk q => ⟨q.1, q.2.1, va_K.moved (u := U) (U := U.calling g mk a) (Vm.Alike.refl U.vm) q.2.2.1, tX.same (u := U) (U := U.calling g mk a) rfl q.2.2.2.1, tN.moved (u := U) (U := U.calling g mk a) (Vm.Alike.refl U.vm) q.2.2.2.2⟩, fun U hU hW => ⟨rfl, by rw [hU]; exact hP, va_K.moved hW.alike hK, by rw [hU]; exact tX.warm hW hT, tN.moved hW.alike hN⟩⟩ rfl rfl hl9 rfl (lv_room hw9) hdg hc9) hS (fun _ _ h => h.elim) (fun _ h => h.elim) (fun r u t H1 locs1 ht _ hu _ hz hk hS1 => by subst hu; exact kk H1 locs1 hS1 hz (fun q hq => hk q hq (fun h => h)))
end
set_option maxHeartbeats 4000000 in
set_option maxRecDepth 100000 in
theorem h_deny_no (l : Launch) {dC : Nat → ClassId} {dI : Nat → Nat → Nat} {cI cZ cJ : ClassId} {ad : Nat → Nat} {o9 : Nat} {sm fe ex dy : Int32} {gp gc op gr st dl wo : Nat → Int32} {n : Nat} {yc ya ys yd : Nat → Int32} {q : Nat} {zc zp zr zs zf : Nat → Int32} {z : Nat} {zm zt : Int64} {fo : Nat → Int64} {x : Int32} (hfl : l.stackTraces = false) (hn : n ≤ 24) (hk : ¬ vp_in x n) : Met l yL_deny wsL_deny { frames := 8, cells := 1, slots := 6, locals := 133 } (va_Pc [.ref (ad 0), .int x, .ref o9] (fun U => va_P (dC, dI) vwCl (wC cI cZ ad sm fe ex dy gp gc op gr st dl wo n yc ya ys yd q zc zp zr zs zf z zm zt) U.heap ∧ va_K (dC, dI) vwCl [(cI, .int), (cZ, .boolean)] U ∧ tX (fun _ => False) U U.heap ∧ tN U)) (va_Qi (fun r (_ : Unit) => r = nI 1) (fun _ _ => True) (fun _ => False)) 1 6 (fun _ => False) := by
  refine va_MetW (cc := cL_deny) (maxL := 4) (ret := (some .int)) (hh := [(0, 9, 12, 21), (0, 9, 15, 15)]) (by decide) rfl ?_
  intro p e s m args below meth c s₁ B hml hv
  obtain ⟨rfl, hP, hK, hT, hN⟩ := hv
  have hx := B.exec
  have hb := B.bytes
  have hr := B.returns
  have hts := atoms_spec (ws := wsL_deny) B.pre
  have hown : s.vm.findClass RL = some m.cls := findClass_of_methodNamed B.named
  have hlocks := B.notSynchronized
  have hl := lv_entry ([.ref (ad 0), .int x, .ref o9]) (n := 4) (Nat.le_of_ble_eq_true rfl)
  rw [lg_entry_eq]
  generalize (lg_sl ([.ref (ad 0), .int x, .ref o9]) ++ List.replicate (4 - (lg_sl ([.ref (ad 0), .int x, .ref o9])).length) Slot.unset).toArray = ls at hl ⊢
  have hl : lv_has ls 4 [(0, .ref (ad 0)), (1, .int x), (2, .ref o9)] := hl
  refine lv_aload_n hx hb dL_deny_0 rfl (lv_at hl 2 rfl) ?_
  refine lv_iconst (v := nI 0) hx hb dL_deny_1 (by decide) ?_
  refine lv_aload_n hx hb dL_deny_2 rfl (lv_at hl 0 rfl) ?_
  refine lv_iload_n hx hb dL_deny_3 rfl (lv_at hl 1 rfl) ?_
  have htab : c.exceptionTable.toList = ([] : List ExceptionTableEntry) ++ ⟨0, 9, 12, 21⟩ :: [⟨0, 9, 15, 15⟩] := (vx_table (x := yL_deny) B (hts (.codeWith yL_deny cL_deny 4 (some .int) [(0, 9, 12, 21), (0, 9, 15, 15)]) List.mem_cons_self)).trans rfl
  refine zx_go (kr_X3_deny_no l hfl (x := x) (hn := hn) (hk := hk) hx hb hml hown hts hK hP gL_deny_X3_deny ⟨Nat.le_of_ble_eq_true rfl, Nat.le_of_ble_eq_true rfl⟩ ⟨Nat.le_of_ble_eq_true rfl, Nat.le_of_ble_eq_true rfl⟩ hl.1 (Nat.le_of_ble_eq_true rfl) dL_deny_4 hT) (fun ce q9 H1 hz9 hk9 hce hcv hcl => ?_)
  refine vx_catch (own := RL) (name := "java/lang/IndexOutOfBoundsException") (E := "java/lang/IndexOutOfBoundsException") hown [] ⟨0, 9, 12, 21⟩ [⟨0, 9, 15, 15⟩] htab (fun z hz => nomatch hz) rfl (by decide) (hts (.classLink RL 21 "java/lang/IndexOutOfBoundsException") (by decide +kernel)) (va_Nw.use rfl hT.2.1.2.2) hce hcv hcl ?_
  have hS : va_S (fun _ => False) s.heap H1 [] := ⟨hz9, fun q hq _ => hk9 q hq, fun _ h => nomatch h⟩
  refine lv_astore_n (lv' := [(3, .ref q9), (0, .ref (ad 0)), (1, .int x), (2, .ref o9)]) hx hb dL_deny_12 rfl hl (by decide) rfl (fun ls hl => ?_)
  refine lv_iconst (v := nI 1) hx hb dL_deny_13 (by decide) ?_
  exact W.iret (v := nI 1) hx hb hr (fun t ht hW => ⟨⟨nI 1, (), rfl, rfl, trivial⟩, hS.F ht⟩) hS.2.2 dL_deny_14
section
variable {p : Program} {e : Env} {R : Room} {s : State} {m : MethodId} {args : Array Value} {below : List Frame} {meth : Method} {c : Code} {H : Heap} {locs : List Loc} {cells slots : Nat} {Q : State → Prop} {cc : ByteArray} {pc : Nat} {ls : Array Slot} {rest : List Value} {own : String} {index nL : Nat} {Ts : List Cond} {H0 : Heap} {A0 : Nat → Prop}
theorem kh_deny_no (l : Launch) {dC : Nat → ClassId} {dI : Nat → Nat → Nat} {cI cZ cJ : ClassId} {ad : Nat → Nat} {o9 : Nat} {sm fe ex dy : Int32} {gp gc op gr st dl wo : Nat → Int32} {n : Nat} {yc ya ys yd : Nat → Int32} {q : Nat} {zc zp zr zs zf : Nat → Int32} {z : Nat} {zm zt : Int64} {fo : Nat → Int64} {x : Int32}(hfl : l.stackTraces = false)  (hn : n ≤ 24) (hk : ¬ vp_in x n) (hx : p.tables.exec = Jvm.exec) (hb : c.code = cc) (hml : c.maxLocals = nL) (hown : s.vm.findClass own = some m.cls) (hts : ∀ w ∈ Ts, w.before args s = true) (hK : va_K (dC, dI) vwCl [(cI, .int), (cZ, .boolean)] s) (hP : va_P (dC, dI) vwCl (wC cI cZ ad sm fe ex dy gp gc op gr st dl wo n yc ya ys yd q zc zp zr zs zf z zm zt) H) (hg9 : GoodIn Ts (va_wsS own index yL_deny wsL_deny)) (hR9 : 8 + 1 ≤ R.frames ∧ 8 + (4 + 11) + 133 ≤ R.locals) (hc9 : cells + 1 ≤ R.cells ∧ slots + 6 ≤ R.slots) (hl9 : ls.size = nL) (hw9 : (rest.map fun v => v.category).sum ≤ 8) (hdg : decode cc pc = .ok (.invokestatic index, 3)) (hT : tX (fun _ => False) s H) (hN : tN s) (hS : va_S A0 H0 H locs) (kk : ∀ (H1 : Heap) (locs1 : List Loc), va_S A0 H0 H1 locs1 → H.size ≤ H1.size → (∀ q : Nat, q < H.size → H1[q]? = H[q]?) → W p l e R s m args below meth c H1 locs1 (cells + 1) (slots + 6) Q (F0 m (pc + 3) ls (.int (nI 1) :: rest))) : W p l e R s m args below meth c H locs cells slots Q (F0 m pc ls (.ref o9 :: .int x :: .ref (ad 0) :: rest)) := va_calli (vx_runSW (As := [.ref (ad 0), .int x, .ref o9]) (rest := rest) ⟨hx, hb, hml, hown, hts⟩ (h_deny_no (cJ := 0) (o9 := o9) (fo := fun _ => 0) (dC := dC) (dI := dI) (cI := cI) (cZ := cZ) (ad := ad) (sm := sm) (fe := fe) (ex := ex) (dy := dy) (gp := gp) (gc := gc) (op := op) (gr := gr) (st := st) (dl := dl) (wo := wo) (n := n) (yc := yc) (ya := ya) (ys := ys) (yd := yd) (q := q) (zc := zc) (zp := zp) (zr := zr) (zs := zs) (zf := zf) (z := z) (zm := zm) (zt := zt) (x := x) l hfl hn hk) (vx_cwSW 3 hts hg9 rfl rfl rfl (by decide +kernel) hR9) ⟨fun a U g mk q => ⟨q.1, q.2.1, va_K.moved (u := U) (U := U.calling g mk a) (Vm.Alike.refl U.vm) q.2.2.1, tX.same (u := U) (U := U.calling g mk a) rfl q.2.2.2.1, tN.moved (u := U) (U := U.calling g mk a) (Vm.Alike.refl U.vm) q.2.2.2.2⟩, fun U hU hW => ⟨rfl, by rw [hU]; exact hP, va_K.moved hW.alike hK, by rw [hU]; exact tX.warm hW hT, tN.moved hW.alike hN⟩⟩ rfl rfl hl9 rfl (lv_room hw9) hdg hc9) hS (fun _ _ h => h.elim) (fun _ h => h.elim) (fun r u t H1 locs1 ht _ hu _ hz hk hS1 => by subst hu; exact kk H1 locs1 hS1 hz (fun q hq => hk q hq (fun h => h)))
end
set_option maxHeartbeats 4000000 in
set_option maxRecDepth 100000 in
theorem h_object_no (l : Launch) {dC : Nat → ClassId} {dI : Nat → Nat → Nat} {cI cZ cJ : ClassId} {ad : Nat → Nat} {o9 : Nat} {sm fe ex dy : Int32} {gp gc op gr st dl wo : Nat → Int32} {n : Nat} {yc ya ys yd : Nat → Int32} {q : Nat} {zc zp zr zs zf : Nat → Int32} {z : Nat} {zm zt : Int64} {fo : Nat → Int64} {x : Int32} (hfl : l.stackTraces = false) (hn : n ≤ 24) (hk : ¬ vp_in x n) : Met l yL_object wsL_object { frames := 8, cells := 1, slots := 6, locals := 132 } (va_Pc [.ref (ad 0), .int x, .ref o9] (fun U => va_P (dC, dI) vwCl (wC cI cZ ad sm fe ex dy gp gc op gr st dl wo n yc ya ys yd q zc zp zr zs zf z zm zt) U.heap ∧ va_K (dC, dI) vwCl [(cI, .int), (cZ, .boolean)] U ∧ tX (fun _ => False) U U.heap ∧ tN U)) (va_Qi (fun r (_ : Unit) => r = nI 1) (fun _ _ => True) (fun _ => False)) 1 6 (fun _ => False) := by
  refine va_MetW (cc := cL_object) (maxL := 4) (ret := (some .int)) (hh := [(0, 9, 12, 21), (0, 9, 15, 15)]) (by decide) rfl ?_
  intro p e s m args below meth c s₁ B hml hv
  obtain ⟨rfl, hP, hK, hT, hN⟩ := hv
  have hx := B.exec
  have hb := B.bytes
  have hr := B.returns
  have hts := atoms_spec (ws := wsL_object) B.pre
  have hown : s.vm.findClass RL = some m.cls := findClass_of_methodNamed B.named
  have hlocks := B.notSynchronized
  have hl := lv_entry ([.ref (ad 0), .int x, .ref o9]) (n := 4) (Nat.le_of_ble_eq_true rfl)
  rw [lg_entry_eq]
  generalize (lg_sl ([.ref (ad 0), .int x, .ref o9]) ++ List.replicate (4 - (lg_sl ([.ref (ad 0), .int x, .ref o9])).length) Slot.unset).toArray = ls at hl ⊢
  have hl : lv_has ls 4 [(0, .ref (ad 0)), (1, .int x), (2, .ref o9)] := hl
  refine lv_aload_n hx hb dL_object_0 rfl (lv_at hl 2 rfl) ?_
  refine lv_iconst (v := nI 0) hx hb dL_object_1 (by decide) ?_
  refine lv_aload_n hx hb dL_object_2 rfl (lv_at hl 0 rfl) ?_
  refine lv_iload_n hx hb dL_object_3 rfl (lv_at hl 1 rfl) ?_
  have htab : c.exceptionTable.toList = ([] : List ExceptionTableEntry) ++ ⟨0, 9, 12, 21⟩ :: [⟨0, 9, 15, 15⟩] := (vx_table (x := yL_object) B (hts (.codeWith yL_object cL_object 4 (some .int) [(0, 9, 12, 21), (0, 9, 15, 15)]) List.mem_cons_self)).trans rfl
  refine zx_go (kr_X3_object_no l hfl (x := x) (hn := hn) (hk := hk) hx hb hml hown hts hK hP gL_object_X3_object ⟨Nat.le_of_ble_eq_true rfl, Nat.le_of_ble_eq_true rfl⟩ ⟨Nat.le_of_ble_eq_true rfl, Nat.le_of_ble_eq_true rfl⟩ hl.1 (Nat.le_of_ble_eq_true rfl) dL_object_4 hT) (fun ce q9 H1 hz9 hk9 hce hcv hcl => ?_)
  refine vx_catch (own := RL) (name := "java/lang/IndexOutOfBoundsException") (E := "java/lang/IndexOutOfBoundsException") hown [] ⟨0, 9, 12, 21⟩ [⟨0, 9, 15, 15⟩] htab (fun z hz => nomatch hz) rfl (by decide) (hts (.classLink RL 21 "java/lang/IndexOutOfBoundsException") (by decide +kernel)) (va_Nw.use rfl hT.2.1.2.2) hce hcv hcl ?_
  have hS : va_S (fun _ => False) s.heap H1 [] := ⟨hz9, fun q hq _ => hk9 q hq, fun _ h => nomatch h⟩
  refine lv_astore_n (lv' := [(3, .ref q9), (0, .ref (ad 0)), (1, .int x), (2, .ref o9)]) hx hb dL_object_12 rfl hl (by decide) rfl (fun ls hl => ?_)
  refine lv_iconst (v := nI 1) hx hb dL_object_13 (by decide) ?_
  exact W.iret (v := nI 1) hx hb hr (fun t ht hW => ⟨⟨nI 1, (), rfl, rfl, trivial⟩, hS.F ht⟩) hS.2.2 dL_object_14
section
variable {p : Program} {e : Env} {R : Room} {s : State} {m : MethodId} {args : Array Value} {below : List Frame} {meth : Method} {c : Code} {H : Heap} {locs : List Loc} {cells slots : Nat} {Q : State → Prop} {cc : ByteArray} {pc : Nat} {ls : Array Slot} {rest : List Value} {own : String} {index nL : Nat} {Ts : List Cond} {H0 : Heap} {A0 : Nat → Prop}
theorem kh_object_no (l : Launch) {dC : Nat → ClassId} {dI : Nat → Nat → Nat} {cI cZ cJ : ClassId} {ad : Nat → Nat} {o9 : Nat} {sm fe ex dy : Int32} {gp gc op gr st dl wo : Nat → Int32} {n : Nat} {yc ya ys yd : Nat → Int32} {q : Nat} {zc zp zr zs zf : Nat → Int32} {z : Nat} {zm zt : Int64} {fo : Nat → Int64} {x : Int32}(hfl : l.stackTraces = false)  (hn : n ≤ 24) (hk : ¬ vp_in x n) (hx : p.tables.exec = Jvm.exec) (hb : c.code = cc) (hml : c.maxLocals = nL) (hown : s.vm.findClass own = some m.cls) (hts : ∀ w ∈ Ts, w.before args s = true) (hK : va_K (dC, dI) vwCl [(cI, .int), (cZ, .boolean)] s) (hP : va_P (dC, dI) vwCl (wC cI cZ ad sm fe ex dy gp gc op gr st dl wo n yc ya ys yd q zc zp zr zs zf z zm zt) H) (hg9 : GoodIn Ts (va_wsS own index yL_object wsL_object)) (hR9 : 8 + 1 ≤ R.frames ∧ 8 + (4 + 11) + 132 ≤ R.locals) (hc9 : cells + 1 ≤ R.cells ∧ slots + 6 ≤ R.slots) (hl9 : ls.size = nL) (hw9 : (rest.map fun v => v.category).sum ≤ 8) (hdg : decode cc pc = .ok (.invokestatic index, 3)) (hT : tX (fun _ => False) s H) (hN : tN s) (hS : va_S A0 H0 H locs) (kk : ∀ (H1 : Heap) (locs1 : List Loc), va_S A0 H0 H1 locs1 → H.size ≤ H1.size → (∀ q : Nat, q < H.size → H1[q]? = H[q]?) → W p l e R s m args below meth c H1 locs1 (cells + 1) (slots + 6) Q (F0 m (pc + 3) ls (.int (nI 1) :: rest))) : W p l e R s m args below meth c H locs cells slots Q (F0 m pc ls (.ref o9 :: .int x :: .ref (ad 0) :: rest)) := va_calli (vx_runSW (As := [.ref (ad 0), .int x, .ref o9]) (rest := rest) ⟨hx, hb, hml, hown, hts⟩ (h_object_no (cJ := 0) (o9 := o9) (fo := fun _ => 0) (dC := dC) (dI := dI) (cI := cI) (cZ := cZ) (ad := ad) (sm := sm) (fe := fe) (ex := ex) (dy := dy) (gp := gp) (gc := gc) (op := op) (gr := gr) (st := st) (dl := dl) (wo := wo) (n := n) (yc := yc) (ya := ya) (ys := ys) (yd := yd) (q := q) (zc := zc) (zp := zp) (zr := zr) (zs := zs) (zf := zf) (z := z) (zm := zm) (zt := zt) (x := x) l hfl hn hk) (vx_cwSW 3 hts hg9 rfl rfl rfl (by decide +kernel) hR9) ⟨fun a U g mk q => ⟨q.1, q.2.1, va_K.moved (u := U) (U := U.calling g mk a) (Vm.Alike.refl U.vm) q.2.2.1, tX.same (u := U) (U := U.calling g mk a) rfl q.2.2.2.1, tN.moved (u := U) (U := U.calling g mk a) (Vm.Alike.refl U.vm) q.2.2.2.2⟩, fun U hU hW => ⟨rfl, by rw [hU]; exact hP, va_K.moved hW.alike hK, by rw [hU]; exact tX.warm hW hT, tN.moved hW.alike hN⟩⟩ rfl rfl hl9 rfl (lv_room hw9) hdg hc9) hS (fun _ _ h => h.elim) (fun _ h => h.elim) (fun r u t H1 locs1 ht _ hu _ hz hk hS1 => by subst hu; exact kk H1 locs1 hS1 hz (fun q hq => hk q hq (fun h => h)))
end
set_option maxHeartbeats 4000000 in
set_option maxRecDepth 100000 in
theorem h_decide_no (l : Launch) {dC : Nat → ClassId} {dI : Nat → Nat → Nat} {cI cZ cJ : ClassId} {ad : Nat → Nat} {o9 : Nat} {sm fe ex dy : Int32} {gp gc op gr st dl wo : Nat → Int32} {n : Nat} {yc ya ys yd : Nat → Int32} {q : Nat} {zc zp zr zs zf : Nat → Int32} {z : Nat} {zm zt : Int64} {fo : Nat → Int64} {x : Int32} {b1 : Int32} (hfl : l.stackTraces = false) (hn : n ≤ 24) (hk : ¬ vp_in x n) : Met l yL_decide wsL_decide { frames := 8, cells := 1, slots := 6, locals := 133 } (va_Pc [.ref (ad 0), .int x, .int b1, .ref o9] (fun U => va_P (dC, dI) vwCl (wC cI cZ ad sm fe ex dy gp gc op gr st dl wo n yc ya ys yd q zc zp zr zs zf z zm zt) U.heap ∧ va_K (dC, dI) vwCl [(cI, .int), (cZ, .boolean)] U ∧ tX (fun _ => False) U U.heap ∧ tN U)) (va_Qi (fun r (_ : Unit) => r = nI 1) (fun _ _ => True) (fun _ => False)) 1 6 (fun _ => False) := by
  refine va_MetW (cc := cL_decide) (maxL := 5) (ret := (some .int)) (hh := [(0, 10, 13, 21), (0, 10, 17, 15)]) (by decide) rfl ?_
  intro p e s m args below meth c s₁ B hml hv
  obtain ⟨rfl, hP, hK, hT, hN⟩ := hv
  have hx := B.exec
  have hb := B.bytes
  have hr := B.returns
  have hts := atoms_spec (ws := wsL_decide) B.pre
  have hown : s.vm.findClass RL = some m.cls := findClass_of_methodNamed B.named
  have hlocks := B.notSynchronized
  have hl := lv_entry ([.ref (ad 0), .int x, .int b1, .ref o9]) (n := 5) (Nat.le_of_ble_eq_true rfl)
  rw [lg_entry_eq]
  generalize (lg_sl ([.ref (ad 0), .int x, .int b1, .ref o9]) ++ List.replicate (5 - (lg_sl ([.ref (ad 0), .int x, .int b1, .ref o9])).length) Slot.unset).toArray = ls at hl ⊢
  have hl : lv_has ls 5 [(0, .ref (ad 0)), (1, .int x), (2, .int b1), (3, .ref o9)] := hl
  refine lv_aload_n hx hb dL_decide_0 rfl (lv_at hl 3 rfl) ?_
  refine lv_iconst (v := nI 0) hx hb dL_decide_1 (by decide) ?_
  refine lv_aload_n hx hb dL_decide_2 rfl (lv_at hl 0 rfl) ?_
  refine lv_iload_n hx hb dL_decide_3 rfl (lv_at hl 1 rfl) ?_
  refine lv_iload_n hx hb dL_decide_4 rfl (lv_at hl 2 rfl) ?_
  have htab : c.exceptionTable.toList = ([] : List ExceptionTableEntry) ++ ⟨0, 10, 13, 21⟩ :: [⟨0, 10, 17, 15⟩] := (vx_table (x := yL_decide) B (hts (.codeWith yL_decide cL_decide 5 (some .int) [(0, 10, 13, 21), (0, 10, 17, 15)]) List.mem_cons_self)).trans rfl
  refine zx_go (kr_X3_decide_no l hfl (x := x) (b1 := b1) (hn := hn) (hk := hk) hx hb hml hown hts hK hP gL_decide_X3_decide ⟨Nat.le_of_ble_eq_true rfl, Nat.le_of_ble_eq_true rfl⟩ ⟨Nat.le_of_ble_eq_true rfl, Nat.le_of_ble_eq_true rfl⟩ hl.1 (Nat.le_of_ble_eq_true rfl) dL_decide_5 hT) (fun ce q9 H1 hz9 hk9 hce hcv hcl => ?_)
  refine vx_catch (own := RL) (name := "java/lang/IndexOutOfBoundsException") (E := "java/lang/IndexOutOfBoundsException") hown [] ⟨0, 10, 13, 21⟩ [⟨0, 10, 17, 15⟩] htab (fun z hz => nomatch hz) rfl (by decide) (hts (.classLink RL 21 "java/lang/IndexOutOfBoundsException") (by decide +kernel)) (va_Nw.use rfl hT.2.1.2.2) hce hcv hcl ?_
  have hS : va_S (fun _ => False) s.heap H1 [] := ⟨hz9, fun q hq _ => hk9 q hq, fun _ h => nomatch h⟩
  refine lv_astore (lv' := [(4, .ref q9), (0, .ref (ad 0)), (1, .int x), (2, .int b1), (3, .ref o9)]) hx hb dL_decide_13 hl (by decide) rfl (fun ls hl => ?_)
  refine lv_iconst (v := nI 1) hx hb dL_decide_15 (by decide) ?_
  exact W.iret (v := nI 1) hx hb hr (fun t ht hW => ⟨⟨nI 1, (), rfl, rfl, trivial⟩, hS.F ht⟩) hS.2.2 dL_decide_16
section
variable {p : Program} {e : Env} {R : Room} {s : State} {m : MethodId} {args : Array Value} {below : List Frame} {meth : Method} {c : Code} {H : Heap} {locs : List Loc} {cells slots : Nat} {Q : State → Prop} {cc : ByteArray} {pc : Nat} {ls : Array Slot} {rest : List Value} {own : String} {index nL : Nat} {Ts : List Cond} {H0 : Heap} {A0 : Nat → Prop}
theorem kh_decide_no (l : Launch) {dC : Nat → ClassId} {dI : Nat → Nat → Nat} {cI cZ cJ : ClassId} {ad : Nat → Nat} {o9 : Nat} {sm fe ex dy : Int32} {gp gc op gr st dl wo : Nat → Int32} {n : Nat} {yc ya ys yd : Nat → Int32} {q : Nat} {zc zp zr zs zf : Nat → Int32} {z : Nat} {zm zt : Int64} {fo : Nat → Int64} {x : Int32} {b1 : Int32}(hfl : l.stackTraces = false)  (hn : n ≤ 24) (hk : ¬ vp_in x n) (hx : p.tables.exec = Jvm.exec) (hb : c.code = cc) (hml : c.maxLocals = nL) (hown : s.vm.findClass own = some m.cls) (hts : ∀ w ∈ Ts, w.before args s = true) (hK : va_K (dC, dI) vwCl [(cI, .int), (cZ, .boolean)] s) (hP : va_P (dC, dI) vwCl (wC cI cZ ad sm fe ex dy gp gc op gr st dl wo n yc ya ys yd q zc zp zr zs zf z zm zt) H) (hg9 : GoodIn Ts (va_wsS own index yL_decide wsL_decide)) (hR9 : 8 + 1 ≤ R.frames ∧ 8 + (5 + 11) + 133 ≤ R.locals) (hc9 : cells + 1 ≤ R.cells ∧ slots + 6 ≤ R.slots) (hl9 : ls.size = nL) (hw9 : (rest.map fun v => v.category).sum ≤ 8) (hdg : decode cc pc = .ok (.invokestatic index, 3)) (hT : tX (fun _ => False) s H) (hN : tN s) (hS : va_S A0 H0 H locs) (kk : ∀ (H1 : Heap) (locs1 : List Loc), va_S A0 H0 H1 locs1 → H.size ≤ H1.size → (∀ q : Nat, q < H.size → H1[q]? = H[q]?) → W p l e R s m args below meth c H1 locs1 (cells + 1) (slots + 6) Q (F0 m (pc + 3) ls (.int (nI 1) :: rest))) : W p l e R s m args below meth c H locs cells slots Q (F0 m pc ls (.ref o9 :: .int b1 :: .int x :: .ref (ad 0) :: rest)) := va_calli (vx_runSW (As := [.ref (ad 0), .int x, .int b1, .ref o9]) (rest := rest) ⟨hx, hb, hml, hown, hts⟩ (h_decide_no (cJ := 0) (o9 := o9) (fo := fun _ => 0) (dC := dC) (dI := dI) (cI := cI) (cZ := cZ) (ad := ad) (sm := sm) (fe := fe) (ex := ex) (dy := dy) (gp := gp) (gc := gc) (op := op) (gr := gr) (st := st) (dl := dl) (wo := wo) (n := n) (yc := yc) (ya := ya) (ys := ys) (yd := yd) (q := q) (zc := zc) (zp := zp) (zr := zr) (zs := zs) (zf := zf) (z := z) (zm := zm) (zt := zt) (x := x) (b1 := b1) l hfl hn hk) (vx_cwSW 4 hts hg9 rfl rfl rfl (by decide +kernel) hR9) ⟨fun a U g mk q => ⟨q.1, q.2.1, va_K.moved (u := U) (U := U.calling g mk a) (Vm.Alike.refl U.vm) q.2.2.1, tX.same (u := U) (U := U.calling g mk a) rfl q.2.2.2.1, tN.moved (u := U) (U := U.calling g mk a) (Vm.Alike.refl U.vm) q.2.2.2.2⟩, fun U hU hW => ⟨rfl, by rw [hU]; exact hP, va_K.moved hW.alike hK, by rw [hU]; exact tX.warm hW hT, tN.moved hW.alike hN⟩⟩ rfl rfl hl9 rfl (lv_room hw9) hdg hc9) hS (fun _ _ h => h.elim) (fun _ h => h.elim) (fun r u t H1 locs1 ht _ hu _ hz hk hS1 => by subst hu; exact kk H1 locs1 hS1 hz (fun q hq => hk q hq (fun h => h)))
end
set_option maxHeartbeats 4000000 in
set_option maxRecDepth 100000 in
theorem h_paymentTo_no (l : Launch) {dC : Nat → ClassId} {dI : Nat → Nat → Nat} {cI cZ cJ : ClassId} {ad : Nat → Nat} {o9 : Nat} {sm fe ex dy : Int32} {gp gc op gr st dl wo : Nat → Int32} {n : Nat} {yc ya ys yd : Nat → Int32} {q : Nat} {zc zp zr zs zf : Nat → Int32} {z : Nat} {zm zt : Int64} {fo : Nat → Int64} {x : Int32} (hfl : l.stackTraces = false) (hq : q ≤ 100) (hk : ¬ vp_in x q) : Met l yL_paymentTo wsL_paymentTo { frames := 8, cells := 1, slots := 6, locals := 132 } (va_Pc [.ref (ad 0), .int x, .ref o9] (fun U => va_P (dC, dI) vwCl (wC cI cZ ad sm fe ex dy gp gc op gr st dl wo n yc ya ys yd q zc zp zr zs zf z zm zt) U.heap ∧ va_K (dC, dI) vwCl [(cI, .int), (cZ, .boolean)] U ∧ tX (fun _ => False) U U.heap ∧ tN U)) (va_Qi (fun r (_ : Unit) => r = nI 1) (fun _ _ => True) (fun _ => False)) 1 6 (fun _ => False) := by
  refine va_MetW (cc := cL_paymentTo) (maxL := 4) (ret := (some .int)) (hh := [(0, 9, 12, 21)]) (by decide) rfl ?_
  intro p e s m args below meth c s₁ B hml hv
  obtain ⟨rfl, hP, hK, hT, hN⟩ := hv
  have hx := B.exec
  have hb := B.bytes
  have hr := B.returns
  have hts := atoms_spec (ws := wsL_paymentTo) B.pre
  have hown : s.vm.findClass RL = some m.cls := findClass_of_methodNamed B.named
  have hlocks := B.notSynchronized
  have hl := lv_entry ([.ref (ad 0), .int x, .ref o9]) (n := 4) (Nat.le_of_ble_eq_true rfl)
  rw [lg_entry_eq]
  generalize (lg_sl ([.ref (ad 0), .int x, .ref o9]) ++ List.replicate (4 - (lg_sl ([.ref (ad 0), .int x, .ref o9])).length) Slot.unset).toArray = ls at hl ⊢
  have hl : lv_has ls 4 [(0, .ref (ad 0)), (1, .int x), (2, .ref o9)] := hl
  refine lv_aload_n hx hb dL_paymentTo_0 rfl (lv_at hl 2 rfl) ?_
  refine lv_iconst (v := nI 0) hx hb dL_paymentTo_1 (by decide) ?_
  refine lv_aload_n hx hb dL_paymentTo_2 rfl (lv_at hl 0 rfl) ?_
  refine lv_iload_n hx hb dL_paymentTo_3 rfl (lv_at hl 1 rfl) ?_
  have htab : c.exceptionTable.toList = ([] : List ExceptionTableEntry) ++ ⟨0, 9, 12, 21⟩ :: [] := (vx_table (x := yL_paymentTo) B (hts (.codeWith yL_paymentTo cL_paymentTo 4 (some .int) [(0, 9, 12, 21)]) List.mem_cons_self)).trans rfl
  refine zx_go (kr_X3_paymentTo_no l hfl (x := x) (hq := hq) (hk := hk) hx hb hml hown hts hK hP gL_paymentTo_X3_paymentTo ⟨Nat.le_of_ble_eq_true rfl, Nat.le_of_ble_eq_true rfl⟩ ⟨Nat.le_of_ble_eq_true rfl, Nat.le_of_ble_eq_true rfl⟩ hl.1 (Nat.le_of_ble_eq_true rfl) dL_paymentTo_4 hT) (fun ce q9 H1 hz9 hk9 hce hcv hcl => ?_)
  refine vx_catch (own := RL) (name := "java/lang/IndexOutOfBoundsException") (E := "java/lang/IndexOutOfBoundsException") hown [] ⟨0, 9, 12, 21⟩ [] htab (fun z hz => nomatch hz) rfl (by decide) (hts (.classLink RL 21 "java/lang/IndexOutOfBoundsException") (by decide +kernel)) (va_Nw.use rfl hT.2.1.2.2) hce hcv hcl ?_
  have hS : va_S (fun _ => False) s.heap H1 [] := ⟨hz9, fun q hq _ => hk9 q hq, fun _ h => nomatch h⟩
  refine lv_astore_n (lv' := [(3, .ref q9), (0, .ref (ad 0)), (1, .int x), (2, .ref o9)]) hx hb dL_paymentTo_12 rfl hl (by decide) rfl (fun ls hl => ?_)
  refine lv_iconst (v := nI 1) hx hb dL_paymentTo_13 (by decide) ?_
  exact W.iret (v := nI 1) hx hb hr (fun t ht hW => ⟨⟨nI 1, (), rfl, rfl, trivial⟩, hS.F ht⟩) hS.2.2 dL_paymentTo_14
section
variable {p : Program} {e : Env} {R : Room} {s : State} {m : MethodId} {args : Array Value} {below : List Frame} {meth : Method} {c : Code} {H : Heap} {locs : List Loc} {cells slots : Nat} {Q : State → Prop} {cc : ByteArray} {pc : Nat} {ls : Array Slot} {rest : List Value} {own : String} {index nL : Nat} {Ts : List Cond} {H0 : Heap} {A0 : Nat → Prop}
theorem kh_paymentTo_no (l : Launch) {dC : Nat → ClassId} {dI : Nat → Nat → Nat} {cI cZ cJ : ClassId} {ad : Nat → Nat} {o9 : Nat} {sm fe ex dy : Int32} {gp gc op gr st dl wo : Nat → Int32} {n : Nat} {yc ya ys yd : Nat → Int32} {q : Nat} {zc zp zr zs zf : Nat → Int32} {z : Nat} {zm zt : Int64} {fo : Nat → Int64} {x : Int32}(hfl : l.stackTraces = false)  (hq : q ≤ 100) (hk : ¬ vp_in x q) (hx : p.tables.exec = Jvm.exec) (hb : c.code = cc) (hml : c.maxLocals = nL) (hown : s.vm.findClass own = some m.cls) (hts : ∀ w ∈ Ts, w.before args s = true) (hK : va_K (dC, dI) vwCl [(cI, .int), (cZ, .boolean)] s) (hP : va_P (dC, dI) vwCl (wC cI cZ ad sm fe ex dy gp gc op gr st dl wo n yc ya ys yd q zc zp zr zs zf z zm zt) H) (hg9 : GoodIn Ts (va_wsS own index yL_paymentTo wsL_paymentTo)) (hR9 : 8 + 1 ≤ R.frames ∧ 8 + (4 + 11) + 132 ≤ R.locals) (hc9 : cells + 1 ≤ R.cells ∧ slots + 6 ≤ R.slots) (hl9 : ls.size = nL) (hw9 : (rest.map fun v => v.category).sum ≤ 8) (hdg : decode cc pc = .ok (.invokestatic index, 3)) (hT : tX (fun _ => False) s H) (hN : tN s) (hS : va_S A0 H0 H locs) (kk : ∀ (H1 : Heap) (locs1 : List Loc), va_S A0 H0 H1 locs1 → H.size ≤ H1.size → (∀ q : Nat, q < H.size → H1[q]? = H[q]?) → W p l e R s m args below meth c H1 locs1 (cells + 1) (slots + 6) Q (F0 m (pc + 3) ls (.int (nI 1) :: rest))) : W p l e R s m args below meth c H locs cells slots Q (F0 m pc ls (.ref o9 :: .int x :: .ref (ad 0) :: rest)) := va_calli (vx_runSW (As := [.ref (ad 0), .int x, .ref o9]) (rest := rest) ⟨hx, hb, hml, hown, hts⟩ (h_paymentTo_no (cJ := 0) (o9 := o9) (fo := fun _ => 0) (dC := dC) (dI := dI) (cI := cI) (cZ := cZ) (ad := ad) (sm := sm) (fe := fe) (ex := ex) (dy := dy) (gp := gp) (gc := gc) (op := op) (gr := gr) (st := st) (dl := dl) (wo := wo) (n := n) (yc := yc) (ya := ya) (ys := ys) (yd := yd) (q := q) (zc := zc) (zp := zp) (zr := zr) (zs := zs) (zf := zf) (z := z) (zm := zm) (zt := zt) (x := x) l hfl hq hk) (vx_cwSW 3 hts hg9 rfl rfl rfl (by decide +kernel) hR9) ⟨fun a U g mk q => ⟨q.1, q.2.1, va_K.moved (u := U) (U := U.calling g mk a) (Vm.Alike.refl U.vm) q.2.2.1, tX.same (u := U) (U := U.calling g mk a) rfl q.2.2.2.1, tN.moved (u := U) (U := U.calling g mk a) (Vm.Alike.refl U.vm) q.2.2.2.2⟩, fun U hU hW => ⟨rfl, by rw [hU]; exact hP, va_K.moved hW.alike hK, by rw [hU]; exact tX.warm hW hT, tN.moved hW.alike hN⟩⟩ rfl rfl hl9 rfl (lv_room hw9) hdg hc9) hS (fun _ _ h => h.elim) (fun _ h => h.elim) (fun r u t H1 locs1 ht _ hu _ hz hk hS1 => by subst hu; exact kk H1 locs1 hS1 hz (fun q hq => hk q hq (fun h => h)))
end
set_option maxHeartbeats 4000000 in
set_option maxRecDepth 100000 in
theorem h_amountOf_no (l : Launch) {dC : Nat → ClassId} {dI : Nat → Nat → Nat} {cI cZ cJ : ClassId} {ad : Nat → Nat} {o9 : Nat} {sm fe ex dy : Int32} {gp gc op gr st dl wo : Nat → Int32} {n : Nat} {yc ya ys yd : Nat → Int32} {q : Nat} {zc zp zr zs zf : Nat → Int32} {z : Nat} {zm zt : Int64} {fo : Nat → Int64} {x : Int32} (hfl : l.stackTraces = false) (hq : q ≤ 100) (hk : ¬ vp_in x q) : Met l yL_amountOf wsL_amountOf { frames := 8, cells := 1, slots := 6, locals := 132 } (va_Pc [.ref (ad 0), .int x, .ref o9] (fun U => va_P (dC, dI) vwCl (wC cI cZ ad sm fe ex dy gp gc op gr st dl wo n yc ya ys yd q zc zp zr zs zf z zm zt) U.heap ∧ va_K (dC, dI) vwCl [(cI, .int), (cZ, .boolean)] U ∧ tX (fun _ => False) U U.heap ∧ tN U)) (va_Qi (fun r (_ : Unit) => r = nI 1) (fun _ _ => True) (fun _ => False)) 1 6 (fun _ => False) := by
  refine va_MetW (cc := cL_amountOf) (maxL := 4) (ret := (some .int)) (hh := [(0, 9, 12, 21)]) (by decide) rfl ?_
  intro p e s m args below meth c s₁ B hml hv
  obtain ⟨rfl, hP, hK, hT, hN⟩ := hv
  have hx := B.exec
  have hb := B.bytes
  have hr := B.returns
  have hts := atoms_spec (ws := wsL_amountOf) B.pre
  have hown : s.vm.findClass RL = some m.cls := findClass_of_methodNamed B.named
  have hlocks := B.notSynchronized
  have hl := lv_entry ([.ref (ad 0), .int x, .ref o9]) (n := 4) (Nat.le_of_ble_eq_true rfl)
  rw [lg_entry_eq]
  generalize (lg_sl ([.ref (ad 0), .int x, .ref o9]) ++ List.replicate (4 - (lg_sl ([.ref (ad 0), .int x, .ref o9])).length) Slot.unset).toArray = ls at hl ⊢
  have hl : lv_has ls 4 [(0, .ref (ad 0)), (1, .int x), (2, .ref o9)] := hl
  refine lv_aload_n hx hb dL_amountOf_0 rfl (lv_at hl 2 rfl) ?_
  refine lv_iconst (v := nI 0) hx hb dL_amountOf_1 (by decide) ?_
  refine lv_aload_n hx hb dL_amountOf_2 rfl (lv_at hl 0 rfl) ?_
  refine lv_iload_n hx hb dL_amountOf_3 rfl (lv_at hl 1 rfl) ?_
  have htab : c.exceptionTable.toList = ([] : List ExceptionTableEntry) ++ ⟨0, 9, 12, 21⟩ :: [] := (vx_table (x := yL_amountOf) B (hts (.codeWith yL_amountOf cL_amountOf 4 (some .int) [(0, 9, 12, 21)]) List.mem_cons_self)).trans rfl
  refine zx_go (kr_X3_amountOf_no l hfl (x := x) (hq := hq) (hk := hk) hx hb hml hown hts hK hP gL_amountOf_X3_amountOf ⟨Nat.le_of_ble_eq_true rfl, Nat.le_of_ble_eq_true rfl⟩ ⟨Nat.le_of_ble_eq_true rfl, Nat.le_of_ble_eq_true rfl⟩ hl.1 (Nat.le_of_ble_eq_true rfl) dL_amountOf_4 hT) (fun ce q9 H1 hz9 hk9 hce hcv hcl => ?_)
  refine vx_catch (own := RL) (name := "java/lang/IndexOutOfBoundsException") (E := "java/lang/IndexOutOfBoundsException") hown [] ⟨0, 9, 12, 21⟩ [] htab (fun z hz => nomatch hz) rfl (by decide) (hts (.classLink RL 21 "java/lang/IndexOutOfBoundsException") (by decide +kernel)) (va_Nw.use rfl hT.2.1.2.2) hce hcv hcl ?_
  have hS : va_S (fun _ => False) s.heap H1 [] := ⟨hz9, fun q hq _ => hk9 q hq, fun _ h => nomatch h⟩
  refine lv_astore_n (lv' := [(3, .ref q9), (0, .ref (ad 0)), (1, .int x), (2, .ref o9)]) hx hb dL_amountOf_12 rfl hl (by decide) rfl (fun ls hl => ?_)
  refine lv_iconst (v := nI 1) hx hb dL_amountOf_13 (by decide) ?_
  exact W.iret (v := nI 1) hx hb hr (fun t ht hW => ⟨⟨nI 1, (), rfl, rfl, trivial⟩, hS.F ht⟩) hS.2.2 dL_amountOf_14
section
variable {p : Program} {e : Env} {R : Room} {s : State} {m : MethodId} {args : Array Value} {below : List Frame} {meth : Method} {c : Code} {H : Heap} {locs : List Loc} {cells slots : Nat} {Q : State → Prop} {cc : ByteArray} {pc : Nat} {ls : Array Slot} {rest : List Value} {own : String} {index nL : Nat} {Ts : List Cond} {H0 : Heap} {A0 : Nat → Prop}
theorem kh_amountOf_no (l : Launch) {dC : Nat → ClassId} {dI : Nat → Nat → Nat} {cI cZ cJ : ClassId} {ad : Nat → Nat} {o9 : Nat} {sm fe ex dy : Int32} {gp gc op gr st dl wo : Nat → Int32} {n : Nat} {yc ya ys yd : Nat → Int32} {q : Nat} {zc zp zr zs zf : Nat → Int32} {z : Nat} {zm zt : Int64} {fo : Nat → Int64} {x : Int32}(hfl : l.stackTraces = false)  (hq : q ≤ 100) (hk : ¬ vp_in x q) (hx : p.tables.exec = Jvm.exec) (hb : c.code = cc) (hml : c.maxLocals = nL) (hown : s.vm.findClass own = some m.cls) (hts : ∀ w ∈ Ts, w.before args s = true) (hK : va_K (dC, dI) vwCl [(cI, .int), (cZ, .boolean)] s) (hP : va_P (dC, dI) vwCl (wC cI cZ ad sm fe ex dy gp gc op gr st dl wo n yc ya ys yd q zc zp zr zs zf z zm zt) H) (hg9 : GoodIn Ts (va_wsS own index yL_amountOf wsL_amountOf)) (hR9 : 8 + 1 ≤ R.frames ∧ 8 + (4 + 11) + 132 ≤ R.locals) (hc9 : cells + 1 ≤ R.cells ∧ slots + 6 ≤ R.slots) (hl9 : ls.size = nL) (hw9 : (rest.map fun v => v.category).sum ≤ 8) (hdg : decode cc pc = .ok (.invokestatic index, 3)) (hT : tX (fun _ => False) s H) (hN : tN s) (hS : va_S A0 H0 H locs) (kk : ∀ (H1 : Heap) (locs1 : List Loc), va_S A0 H0 H1 locs1 → H.size ≤ H1.size → (∀ q : Nat, q < H.size → H1[q]? = H[q]?) → W p l e R s m args below meth c H1 locs1 (cells + 1) (slots + 6) Q (F0 m (pc + 3) ls (.int (nI 1) :: rest))) : W p l e R s m args below meth c H locs cells slots Q (F0 m pc ls (.ref o9 :: .int x :: .ref (ad 0) :: rest)) := va_calli (vx_runSW (As := [.ref (ad 0), .int x, .ref o9]) (rest := rest) ⟨hx, hb, hml, hown, hts⟩ (h_amountOf_no (cJ := 0) (o9 := o9) (fo := fun _ => 0) (dC := dC) (dI := dI) (cI := cI) (cZ := cZ) (ad := ad) (sm := sm) (fe := fe) (ex := ex) (dy := dy) (gp := gp) (gc := gc) (op := op) (gr := gr) (st := st) (dl := dl) (wo := wo) (n := n) (yc := yc) (ya := ya) (ys := ys) (yd := yd) (q := q) (zc := zc) (zp := zp) (zr := zr) (zs := zs) (zf := zf) (z := z) (zm := zm) (zt := zt) (x := x) l hfl hq hk) (vx_cwSW 3 hts hg9 rfl rfl rfl (by decide +kernel) hR9) ⟨fun a U g mk q => ⟨q.1, q.2.1, va_K.moved (u := U) (U := U.calling g mk a) (Vm.Alike.refl U.vm) q.2.2.1, tX.same (u := U) (U := U.calling g mk a) rfl q.2.2.2.1, tN.moved (u := U) (U := U.calling g mk a) (Vm.Alike.refl U.vm) q.2.2.2.2⟩, fun U hU hW => ⟨rfl, by rw [hU]; exact hP, va_K.moved hW.alike hK, by rw [hU]; exact tX.warm hW hT, tN.moved hW.alike hN⟩⟩ rfl rfl hl9 rfl (lv_room hw9) hdg hc9) hS (fun _ _ h => h.elim) (fun _ h => h.elim) (fun r u t H1 locs1 ht _ hu _ hz hk hS1 => by subst hu; exact kk H1 locs1 hS1 hz (fun q hq => hk q hq (fun h => h)))
end
set_option maxHeartbeats 4000000 in
set_option maxRecDepth 100000 in
theorem h_paymentState_no (l : Launch) {dC : Nat → ClassId} {dI : Nat → Nat → Nat} {cI cZ cJ : ClassId} {ad : Nat → Nat} {o9 : Nat} {sm fe ex dy : Int32} {gp gc op gr st dl wo : Nat → Int32} {n : Nat} {yc ya ys yd : Nat → Int32} {q : Nat} {zc zp zr zs zf : Nat → Int32} {z : Nat} {zm zt : Int64} {fo : Nat → Int64} {x : Int32} (hfl : l.stackTraces = false) (hq : q ≤ 100) (hk : ¬ vp_in x q) : Met l yL_paymentState wsL_paymentState { frames := 8, cells := 1, slots := 6, locals := 132 } (va_Pc [.ref (ad 0), .int x, .ref o9] (fun U => va_P (dC, dI) vwCl (wC cI cZ ad sm fe ex dy gp gc op gr st dl wo n yc ya ys yd q zc zp zr zs zf z zm zt) U.heap ∧ va_K (dC, dI) vwCl [(cI, .int), (cZ, .boolean)] U ∧ tX (fun _ => False) U U.heap ∧ tN U)) (va_Qi (fun r (_ : Unit) => r = nI 1) (fun _ _ => True) (fun _ => False)) 1 6 (fun _ => False) := by
  refine va_MetW (cc := cL_paymentState) (maxL := 4) (ret := (some .int)) (hh := [(0, 9, 12, 21)]) (by decide) rfl ?_
  intro p e s m args below meth c s₁ B hml hv
  obtain ⟨rfl, hP, hK, hT, hN⟩ := hv
  have hx := B.exec
  have hb := B.bytes
  have hr := B.returns
  have hts := atoms_spec (ws := wsL_paymentState) B.pre
  have hown : s.vm.findClass RL = some m.cls := findClass_of_methodNamed B.named
  have hlocks := B.notSynchronized
  have hl := lv_entry ([.ref (ad 0), .int x, .ref o9]) (n := 4) (Nat.le_of_ble_eq_true rfl)
  rw [lg_entry_eq]
  generalize (lg_sl ([.ref (ad 0), .int x, .ref o9]) ++ List.replicate (4 - (lg_sl ([.ref (ad 0), .int x, .ref o9])).length) Slot.unset).toArray = ls at hl ⊢
  have hl : lv_has ls 4 [(0, .ref (ad 0)), (1, .int x), (2, .ref o9)] := hl
  refine lv_aload_n hx hb dL_paymentState_0 rfl (lv_at hl 2 rfl) ?_
  refine lv_iconst (v := nI 0) hx hb dL_paymentState_1 (by decide) ?_
  refine lv_aload_n hx hb dL_paymentState_2 rfl (lv_at hl 0 rfl) ?_
  refine lv_iload_n hx hb dL_paymentState_3 rfl (lv_at hl 1 rfl) ?_
  have htab : c.exceptionTable.toList = ([] : List ExceptionTableEntry) ++ ⟨0, 9, 12, 21⟩ :: [] := (vx_table (x := yL_paymentState) B (hts (.codeWith yL_paymentState cL_paymentState 4 (some .int) [(0, 9, 12, 21)]) List.mem_cons_self)).trans rfl
  refine zx_go (kr_X3_paymentState_no l hfl (x := x) (hq := hq) (hk := hk) hx hb hml hown hts hK hP gL_paymentState_X3_paymentState ⟨Nat.le_of_ble_eq_true rfl, Nat.le_of_ble_eq_true rfl⟩ ⟨Nat.le_of_ble_eq_true rfl, Nat.le_of_ble_eq_true rfl⟩ hl.1 (Nat.le_of_ble_eq_true rfl) dL_paymentState_4 hT) (fun ce q9 H1 hz9 hk9 hce hcv hcl => ?_)
  refine vx_catch (own := RL) (name := "java/lang/IndexOutOfBoundsException") (E := "java/lang/IndexOutOfBoundsException") hown [] ⟨0, 9, 12, 21⟩ [] htab (fun z hz => nomatch hz) rfl (by decide) (hts (.classLink RL 21 "java/lang/IndexOutOfBoundsException") (by decide +kernel)) (va_Nw.use rfl hT.2.1.2.2) hce hcv hcl ?_
  have hS : va_S (fun _ => False) s.heap H1 [] := ⟨hz9, fun q hq _ => hk9 q hq, fun _ h => nomatch h⟩
  refine lv_astore_n (lv' := [(3, .ref q9), (0, .ref (ad 0)), (1, .int x), (2, .ref o9)]) hx hb dL_paymentState_12 rfl hl (by decide) rfl (fun ls hl => ?_)
  refine lv_iconst (v := nI 1) hx hb dL_paymentState_13 (by decide) ?_
  exact W.iret (v := nI 1) hx hb hr (fun t ht hW => ⟨⟨nI 1, (), rfl, rfl, trivial⟩, hS.F ht⟩) hS.2.2 dL_paymentState_14
section
variable {p : Program} {e : Env} {R : Room} {s : State} {m : MethodId} {args : Array Value} {below : List Frame} {meth : Method} {c : Code} {H : Heap} {locs : List Loc} {cells slots : Nat} {Q : State → Prop} {cc : ByteArray} {pc : Nat} {ls : Array Slot} {rest : List Value} {own : String} {index nL : Nat} {Ts : List Cond} {H0 : Heap} {A0 : Nat → Prop}
theorem kh_paymentState_no (l : Launch) {dC : Nat → ClassId} {dI : Nat → Nat → Nat} {cI cZ cJ : ClassId} {ad : Nat → Nat} {o9 : Nat} {sm fe ex dy : Int32} {gp gc op gr st dl wo : Nat → Int32} {n : Nat} {yc ya ys yd : Nat → Int32} {q : Nat} {zc zp zr zs zf : Nat → Int32} {z : Nat} {zm zt : Int64} {fo : Nat → Int64} {x : Int32}(hfl : l.stackTraces = false)  (hq : q ≤ 100) (hk : ¬ vp_in x q) (hx : p.tables.exec = Jvm.exec) (hb : c.code = cc) (hml : c.maxLocals = nL) (hown : s.vm.findClass own = some m.cls) (hts : ∀ w ∈ Ts, w.before args s = true) (hK : va_K (dC, dI) vwCl [(cI, .int), (cZ, .boolean)] s) (hP : va_P (dC, dI) vwCl (wC cI cZ ad sm fe ex dy gp gc op gr st dl wo n yc ya ys yd q zc zp zr zs zf z zm zt) H) (hg9 : GoodIn Ts (va_wsS own index yL_paymentState wsL_paymentState)) (hR9 : 8 + 1 ≤ R.frames ∧ 8 + (4 + 11) + 132 ≤ R.locals) (hc9 : cells + 1 ≤ R.cells ∧ slots + 6 ≤ R.slots) (hl9 : ls.size = nL) (hw9 : (rest.map fun v => v.category).sum ≤ 8) (hdg : decode cc pc = .ok (.invokestatic index, 3)) (hT : tX (fun _ => False) s H) (hN : tN s) (hS : va_S A0 H0 H locs) (kk : ∀ (H1 : Heap) (locs1 : List Loc), va_S A0 H0 H1 locs1 → H.size ≤ H1.size → (∀ q : Nat, q < H.size → H1[q]? = H[q]?) → W p l e R s m args below meth c H1 locs1 (cells + 1) (slots + 6) Q (F0 m (pc + 3) ls (.int (nI 1) :: rest))) : W p l e R s m args below meth c H locs cells slots Q (F0 m pc ls (.ref o9 :: .int x :: .ref (ad 0) :: rest)) := va_calli (vx_runSW (As := [.ref (ad 0), .int x, .ref o9]) (rest := rest) ⟨hx, hb, hml, hown, hts⟩ (h_paymentState_no (cJ := 0) (o9 := o9) (fo := fun _ => 0) (dC := dC) (dI := dI) (cI := cI) (cZ := cZ) (ad := ad) (sm := sm) (fe := fe) (ex := ex) (dy := dy) (gp := gp) (gc := gc) (op := op) (gr := gr) (st := st) (dl := dl) (wo := wo) (n := n) (yc := yc) (ya := ya) (ys := ys) (yd := yd) (q := q) (zc := zc) (zp := zp) (zr := zr) (zs := zs) (zf := zf) (z := z) (zm := zm) (zt := zt) (x := x) l hfl hq hk) (vx_cwSW 3 hts hg9 rfl rfl rfl (by decide +kernel) hR9) ⟨fun a U g mk q => ⟨q.1, q.2.1, va_K.moved (u := U) (U := U.calling g mk a) (Vm.Alike.refl U.vm) q.2.2.1, tX.same (u := U) (U := U.calling g mk a) rfl q.2.2.2.1, tN.moved (u := U) (U := U.calling g mk a) (Vm.Alike.refl U.vm) q.2.2.2.2⟩, fun U hU hW => ⟨rfl, by rw [hU]; exact hP, va_K.moved hW.alike hK, by rw [hU]; exact tX.warm hW hT, tN.moved hW.alike hN⟩⟩ rfl rfl hl9 rfl (lv_room hw9) hdg hc9) hS (fun _ _ h => h.elim) (fun _ h => h.elim) (fun r u t H1 locs1 ht _ hu _ hz hk hS1 => by subst hu; exact kk H1 locs1 hS1 hz (fun q hq => hk q hq (fun h => h)))
end
set_option maxHeartbeats 4000000 in
set_option maxRecDepth 100000 in
theorem h_cash_no (l : Launch) {dC : Nat → ClassId} {dI : Nat → Nat → Nat} {cI cZ cJ : ClassId} {ad : Nat → Nat} {o9 : Nat} {sm fe ex dy : Int32} {gp gc op gr st dl wo : Nat → Int32} {n : Nat} {yc ya ys yd : Nat → Int32} {q : Nat} {zc zp zr zs zf : Nat → Int32} {z : Nat} {zm zt : Int64} {fo : Nat → Int64} {x : Int32} (hfl : l.stackTraces = false) (hq : q ≤ 100) (hk : ¬ vp_in x q) : Met l yL_cash wsL_cash { frames := 8, cells := 1, slots := 6, locals := 132 } (va_Pc [.ref (ad 0), .int x, .ref o9] (fun U => va_P (dC, dI) vwCl (wC cI cZ ad sm fe ex dy gp gc op gr st dl wo n yc ya ys yd q zc zp zr zs zf z zm zt) U.heap ∧ va_K (dC, dI) vwCl [(cI, .int), (cZ, .boolean)] U ∧ tX (fun _ => False) U U.heap ∧ tN U)) (va_Qi (fun r (_ : Unit) => r = nI 1) (fun _ _ => True) (fun _ => False)) 1 6 (fun _ => False) := by
  refine va_MetW (cc := cL_cash) (maxL := 4) (ret := (some .int)) (hh := [(0, 9, 12, 21), (0, 9, 15, 15)]) (by decide) rfl ?_
  intro p e s m args below meth c s₁ B hml hv
  obtain ⟨rfl, hP, hK, hT, hN⟩ := hv
  have hx := B.exec
  have hb := B.bytes
  have hr := B.returns
  have hts := atoms_spec (ws := wsL_cash) B.pre
  have hown : s.vm.findClass RL = some m.cls := findClass_of_methodNamed B.named
  have hlocks := B.notSynchronized
  have hl := lv_entry ([.ref (ad 0), .int x, .ref o9]) (n := 4) (Nat.le_of_ble_eq_true rfl)
  rw [lg_entry_eq]
  generalize (lg_sl ([.ref (ad 0), .int x, .ref o9]) ++ List.replicate (4 - (lg_sl ([.ref (ad 0), .int x, .ref o9])).length) Slot.unset).toArray = ls at hl ⊢
  have hl : lv_has ls 4 [(0, .ref (ad 0)), (1, .int x), (2, .ref o9)] := hl
  refine lv_aload_n hx hb dL_cash_0 rfl (lv_at hl 2 rfl) ?_
  refine lv_iconst (v := nI 0) hx hb dL_cash_1 (by decide) ?_
  refine lv_aload_n hx hb dL_cash_2 rfl (lv_at hl 0 rfl) ?_
  refine lv_iload_n hx hb dL_cash_3 rfl (lv_at hl 1 rfl) ?_
  have htab : c.exceptionTable.toList = ([] : List ExceptionTableEntry) ++ ⟨0, 9, 12, 21⟩ :: [⟨0, 9, 15, 15⟩] := (vx_table (x := yL_cash) B (hts (.codeWith yL_cash cL_cash 4 (some .int) [(0, 9, 12, 21), (0, 9, 15, 15)]) List.mem_cons_self)).trans rfl
  refine zx_go (kr_X3_cash_no l hfl (x := x) (hq := hq) (hk := hk) hx hb hml hown hts hK hP gL_cash_X3_cash ⟨Nat.le_of_ble_eq_true rfl, Nat.le_of_ble_eq_true rfl⟩ ⟨Nat.le_of_ble_eq_true rfl, Nat.le_of_ble_eq_true rfl⟩ hl.1 (Nat.le_of_ble_eq_true rfl) dL_cash_4 hT) (fun ce q9 H1 hz9 hk9 hce hcv hcl => ?_)
  refine vx_catch (own := RL) (name := "java/lang/IndexOutOfBoundsException") (E := "java/lang/IndexOutOfBoundsException") hown [] ⟨0, 9, 12, 21⟩ [⟨0, 9, 15, 15⟩] htab (fun z hz => nomatch hz) rfl (by decide) (hts (.classLink RL 21 "java/lang/IndexOutOfBoundsException") (by decide +kernel)) (va_Nw.use rfl hT.2.1.2.2) hce hcv hcl ?_
  have hS : va_S (fun _ => False) s.heap H1 [] := ⟨hz9, fun q hq _ => hk9 q hq, fun _ h => nomatch h⟩
  refine lv_astore_n (lv' := [(3, .ref q9), (0, .ref (ad 0)), (1, .int x), (2, .ref o9)]) hx hb dL_cash_12 rfl hl (by decide) rfl (fun ls hl => ?_)
  refine lv_iconst (v := nI 1) hx hb dL_cash_13 (by decide) ?_
  exact W.iret (v := nI 1) hx hb hr (fun t ht hW => ⟨⟨nI 1, (), rfl, rfl, trivial⟩, hS.F ht⟩) hS.2.2 dL_cash_14
section
variable {p : Program} {e : Env} {R : Room} {s : State} {m : MethodId} {args : Array Value} {below : List Frame} {meth : Method} {c : Code} {H : Heap} {locs : List Loc} {cells slots : Nat} {Q : State → Prop} {cc : ByteArray} {pc : Nat} {ls : Array Slot} {rest : List Value} {own : String} {index nL : Nat} {Ts : List Cond} {H0 : Heap} {A0 : Nat → Prop}
theorem kh_cash_no (l : Launch) {dC : Nat → ClassId} {dI : Nat → Nat → Nat} {cI cZ cJ : ClassId} {ad : Nat → Nat} {o9 : Nat} {sm fe ex dy : Int32} {gp gc op gr st dl wo : Nat → Int32} {n : Nat} {yc ya ys yd : Nat → Int32} {q : Nat} {zc zp zr zs zf : Nat → Int32} {z : Nat} {zm zt : Int64} {fo : Nat → Int64} {x : Int32}(hfl : l.stackTraces = false)  (hq : q ≤ 100) (hk : ¬ vp_in x q) (hx : p.tables.exec = Jvm.exec) (hb : c.code = cc) (hml : c.maxLocals = nL) (hown : s.vm.findClass own = some m.cls) (hts : ∀ w ∈ Ts, w.before args s = true) (hK : va_K (dC, dI) vwCl [(cI, .int), (cZ, .boolean)] s) (hP : va_P (dC, dI) vwCl (wC cI cZ ad sm fe ex dy gp gc op gr st dl wo n yc ya ys yd q zc zp zr zs zf z zm zt) H) (hg9 : GoodIn Ts (va_wsS own index yL_cash wsL_cash)) (hR9 : 8 + 1 ≤ R.frames ∧ 8 + (4 + 11) + 132 ≤ R.locals) (hc9 : cells + 1 ≤ R.cells ∧ slots + 6 ≤ R.slots) (hl9 : ls.size = nL) (hw9 : (rest.map fun v => v.category).sum ≤ 8) (hdg : decode cc pc = .ok (.invokestatic index, 3)) (hT : tX (fun _ => False) s H) (hN : tN s) (hS : va_S A0 H0 H locs) (kk : ∀ (H1 : Heap) (locs1 : List Loc), va_S A0 H0 H1 locs1 → H.size ≤ H1.size → (∀ q : Nat, q < H.size → H1[q]? = H[q]?) → W p l e R s m args below meth c H1 locs1 (cells + 1) (slots + 6) Q (F0 m (pc + 3) ls (.int (nI 1) :: rest))) : W p l e R s m args below meth c H locs cells slots Q (F0 m pc ls (.ref o9 :: .int x :: .ref (ad 0) :: rest)) := va_calli (vx_runSW (As := [.ref (ad 0), .int x, .ref o9]) (rest := rest) ⟨hx, hb, hml, hown, hts⟩ (h_cash_no (cJ := 0) (o9 := o9) (fo := fun _ => 0) (dC := dC) (dI := dI) (cI := cI) (cZ := cZ) (ad := ad) (sm := sm) (fe := fe) (ex := ex) (dy := dy) (gp := gp) (gc := gc) (op := op) (gr := gr) (st := st) (dl := dl) (wo := wo) (n := n) (yc := yc) (ya := ya) (ys := ys) (yd := yd) (q := q) (zc := zc) (zp := zp) (zr := zr) (zs := zs) (zf := zf) (z := z) (zm := zm) (zt := zt) (x := x) l hfl hq hk) (vx_cwSW 3 hts hg9 rfl rfl rfl (by decide +kernel) hR9) ⟨fun a U g mk q => ⟨q.1, q.2.1, va_K.moved (u := U) (U := U.calling g mk a) (Vm.Alike.refl U.vm) q.2.2.1, tX.same (u := U) (U := U.calling g mk a) rfl q.2.2.2.1, tN.moved (u := U) (U := U.calling g mk a) (Vm.Alike.refl U.vm) q.2.2.2.2⟩, fun U hU hW => ⟨rfl, by rw [hU]; exact hP, va_K.moved hW.alike hK, by rw [hU]; exact tX.warm hW hT, tN.moved hW.alike hN⟩⟩ rfl rfl hl9 rfl (lv_room hw9) hdg hc9) hS (fun _ _ h => h.elim) (fun _ h => h.elim) (fun r u t H1 locs1 ht _ hu _ hz hk hS1 => by subst hu; exact kk H1 locs1 hS1 hz (fun q hq => hk q hq (fun h => h)))
end
set_option maxHeartbeats 4000000 in
set_option maxRecDepth 100000 in
theorem h_stateOf_ok (l : Launch) {dC : Nat → ClassId} {dI : Nat → Nat → Nat} {cI cZ cJ : ClassId} {ad : Nat → Nat} {o9 : Nat} {sm fe ex dy : Int32} {gp gc op gr st dl wo : Nat → Int32} {n : Nat} {yc ya ys yd : Nat → Int32} {q : Nat} {zc zp zr zs zf : Nat → Int32} {z : Nat} {zm zt : Int64} {fo : Nat → Int64} {k : Nat} (hI : iwC ad) (ho : ¬ awC ad o9) (hn : n ≤ 24) (hk : k < n) : Met l yL_stateOf wsL_stateOf { frames := 3, cells := 0, slots := 0, locals := 63 } (va_Pc [.ref (ad 0), .int (nI k), .ref o9] (fun U => va_P (dC, dI) vwCl (wC cI cZ ad sm fe ex dy gp gc op gr st dl wo n yc ya ys yd q zc zp zr zs zf z zm zt) U.heap ∧ va_K (dC, dI) vwCl [(cI, .int), (cZ, .boolean)] U ∧ va_P (dC, dI) vwCl [(o9, .inl (cJ, 1, .inr (.inl fo)))] U.heap ∧ va_K (dC, dI) vwCl [(cJ, .long)] U)) (va_Qi (fun r (_ : Unit) => r = nI 0) (fun (u9 : Unit) t => va_P (dC, dI) vwCl (wC cI cZ ad sm fe ex dy gp gc op gr st dl wo n yc ya ys yd q zc zp zr zs zf z zm zt) t.heap ∧ ∃ f9 : Nat → Int64, f9 0 = (st k).toInt64 ∧ va_P (dC, dI) vwCl [(o9, .inl (cJ, 1, .inr (.inl f9)))] t.heap) (fun x => awC ad x ∨ x = o9)) 0 0 (fun x => awC ad x ∨ x = o9) := by
  refine va_MetW (cc := cL_stateOf) (maxL := 4) (ret := (some .int)) (hh := [(0, 9, 12, 21)]) (by decide) rfl ?_
  intro p e s m args below meth c s₁ B hml hv
  obtain ⟨rfl, hP, hK, hPo, hKJ⟩ := hv
  have hx := B.exec
  have hb := B.bytes
  have hr := B.returns
  have hts := atoms_spec (ws := wsL_stateOf) B.pre
  have hown : s.vm.findClass RL = some m.cls := findClass_of_methodNamed B.named
  have hlocks := B.notSynchronized
  have hA : ∀ x, awC ad x → (fun x => awC ad x ∨ x = o9) x := fun x h => Or.inl h
  have hS : va_S (fun x => awC ad x ∨ x = o9) s.heap s.heap [] := va_S.rf
  have hl := lv_entry ([.ref (ad 0), .int (nI k), .ref o9]) (n := 4) (Nat.le_of_ble_eq_true rfl)
  rw [lg_entry_eq]
  generalize (lg_sl ([.ref (ad 0), .int (nI k), .ref o9]) ++ List.replicate (4 - (lg_sl ([.ref (ad 0), .int (nI k), .ref o9])).length) Slot.unset).toArray = ls at hl ⊢
  have hl : lv_has ls 4 [(0, .ref (ad 0)), (1, .int (nI k)), (2, .ref o9)] := hl
  refine lv_aload_n hx hb dL_stateOf_0 rfl (lv_at hl 2 rfl) ?_
  refine lv_iconst (v := nI 0) hx hb dL_stateOf_1 (by decide) ?_
  refine lv_aload_n hx hb dL_stateOf_2 rfl (lv_at hl 0 rfl) ?_
  refine lv_iload_n hx hb dL_stateOf_3 rfl (lv_at hl 1 rfl) ?_
  refine k_X3_stateOf_ok l (k := k) (hn := hn) (hk := hk) hx hb hml hown hts hK hP gL_stateOf_X3_stateOf ⟨Nat.le_of_ble_eq_true rfl, Nat.le_of_ble_eq_true rfl⟩ ⟨Nat.le_of_ble_eq_true rfl, Nat.le_of_ble_eq_true rfl⟩ hl.1 (Nat.le_of_ble_eq_true rfl) dL_stateOf_4 ?_
  refine lv_i2l (v := (st k).toInt64) hx hb dL_stateOf_7 rfl ?_
  have hPL := hP.app hPo
  refine va_last hx hb hKJ hPL (dwL hI ho ..) hS 20 0 rfl rfl (vp_in_nI (n := 0) (by decide) (by decide)) dL_stateOf_8 (fun H locs hPL _ hS => ?_)
  have hP : va_P (dC, dI) vwCl (wC cI cZ ad sm fe ex dy gp gc op gr st dl wo n yc ya ys yd q zc zp zr zs zf z zm zt) H := hPL.sub [0, 1, 2, 3, 4, 5, 6, 7, 8, 9, 10, 11, 12, 13, 14, 15, 16, 17, 18, 19] rfl
  have hPo : va_P (dC, dI) vwCl [(o9, .inl (cJ, 1, .inr (.inl (vp_updL fo (nI 0).toNatClampNeg (st k).toInt64))))] H := hPL.sub [20] rfl
  refine lv_goto (tgt := 15) hx hb dL_stateOf_9 (by decide) ?_
  refine lv_iconst (v := nI 0) hx hb dL_stateOf_15 (by decide) ?_
  exact W.iret (v := nI 0) hx hb hr (fun t ht hW => ⟨⟨nI 0, (), rfl, rfl, ⟨by (try dsimp only); rw [ht]; exact hP, vp_updL fo (nI 0).toNatClampNeg (st k).toInt64, if_pos (by decide), by rw [ht]; exact hPo⟩⟩, hS.F ht⟩) hS.2.2 dL_stateOf_16
section
variable {p : Program} {e : Env} {R : Room} {s : State} {m : MethodId} {args : Array Value} {below : List Frame} {meth : Method} {c : Code} {H : Heap} {locs : List Loc} {cells slots : Nat} {Q : State → Prop} {cc : ByteArray} {pc : Nat} {ls : Array Slot} {rest : List Value} {own : String} {index nL : Nat} {Ts : List Cond} {H0 : Heap} {A0 : Nat → Prop}
theorem kh_stateOf_ok (l : Launch) {dC : Nat → ClassId} {dI : Nat → Nat → Nat} {cI cZ cJ : ClassId} {ad : Nat → Nat} {o9 : Nat} {sm fe ex dy : Int32} {gp gc op gr st dl wo : Nat → Int32} {n : Nat} {yc ya ys yd : Nat → Int32} {q : Nat} {zc zp zr zs zf : Nat → Int32} {z : Nat} {zm zt : Int64} {fo : Nat → Int64} {k : Nat} (hn : n ≤ 24) (hk : k < n) (hx : p.tables.exec = Jvm.exec) (hb : c.code = cc) (hml : c.maxLocals = nL) (hown : s.vm.findClass own = some m.cls) (hts : ∀ w ∈ Ts, w.before args s = true) (hK : va_K (dC, dI) vwCl [(cI, .int), (cZ, .boolean)] s) (hP : va_P (dC, dI) vwCl (wC cI cZ ad sm fe ex dy gp gc op gr st dl wo n yc ya ys yd q zc zp zr zs zf z zm zt) H) (hg9 : GoodIn Ts (va_wsS own index yL_stateOf wsL_stateOf)) (hR9 : 3 + 1 ≤ R.frames ∧ 8 + (4 + 11) + 63 ≤ R.locals) (hc9 : cells + 0 ≤ R.cells ∧ slots + 0 ≤ R.slots) (hl9 : ls.size = nL) (hw9 : (rest.map fun v => v.category).sum ≤ 8) (hdg : decode cc pc = .ok (.invokestatic index, 3)) (hI : iwC ad) (ho : ¬ awC ad o9) (hPo : va_P (dC, dI) vwCl [(o9, .inl (cJ, 1, .inr (.inl fo)))] H) (hKJ : va_K (dC, dI) vwCl [(cJ, .long)] s) (hA : ∀ x, awC ad x ∨ x = o9 → A0 x) (hS : va_S A0 H0 H locs) (kk : ∀ (u9 : Unit) (H1 : Heap) (locs1 : List Loc), va_P (dC, dI) vwCl (wC cI cZ ad sm fe ex dy gp gc op gr st dl wo n yc ya ys yd q zc zp zr zs zf z zm zt) H1 → ∀ f9 : Nat → Int64, f9 0 = (st k).toInt64 → va_P (dC, dI) vwCl [(o9, .inl (cJ, 1, .inr (.inl f9)))] H1 → va_S A0 H0 H1 locs1 → H.size ≤ H1.size → (∀ q : Nat, q < H.size → ¬ (awC ad q ∨ q = o9) → H1[q]? = H[q]?) → W p l e R s m args below meth c H1 locs1 cells slots Q (F0 m (pc + 3) ls (.int (nI 0) :: rest))) : W p l e R s m args below meth c H locs cells slots Q (F0 m pc ls (.ref o9 :: .int (nI k) :: .ref (ad 0) :: rest)) := va_calli (vx_runSW (As := [.ref (ad 0), .int (nI k), .ref o9]) (rest := rest) ⟨hx, hb, hml, hown, hts⟩ (h_stateOf_ok (cJ := cJ) (o9 := o9) (fo := fo) (dC := dC) (dI := dI) (cI := cI) (cZ := cZ) (ad := ad) (sm := sm) (fe := fe) (ex := ex) (dy := dy) (gp := gp) (gc := gc) (op := op) (gr := gr) (st := st) (dl := dl) (wo := wo) (n := n) (yc := yc) (ya := ya) (ys := ys) (yd := yd) (q := q) (zc := zc) (zp := zp) (zr := zr) (zs := zs) (zf := zf) (z := z) (zm := zm) (zt := zt) (k := k) l hI ho hn hk) (vx_cwSW 3 hts hg9 rfl rfl rfl (by decide +kernel) hR9) ⟨fun a U g mk q => ⟨q.1, q.2.1, va_K.moved (u := U) (U := U.calling g mk a) (Vm.Alike.refl U.vm) q.2.2.1, q.2.2.2.1, va_K.moved (u := U) (U := U.calling g mk a) (Vm.Alike.refl U.vm) q.2.2.2.2⟩, fun U hU hW => ⟨rfl, by rw [hU]; exact hP, va_K.moved hW.alike hK, by rw [hU]; exact hPo, va_K.moved hW.alike hKJ⟩⟩ rfl rfl hl9 rfl (lv_room hw9) hdg hc9) hS (fun q _ h => hA q h) hA (fun r u t H1 locs1 ht _ hu hB hz hk hS1 => by subst hu; obtain ⟨hB1, f9, hf9, hB2⟩ := hB; rw [ht] at hB1 hB2; exact kk u H1 locs1 hB1 f9 hf9 hB2 hS1 hz hk)
end
set_option maxHeartbeats 4000000 in
set_option maxRecDepth 100000 in
theorem h_gradeOf_ok (l : Launch) {dC : Nat → ClassId} {dI : Nat → Nat → Nat} {cI cZ cJ : ClassId} {ad : Nat → Nat} {o9 : Nat} {sm fe ex dy : Int32} {gp gc op gr st dl wo : Nat → Int32} {n : Nat} {yc ya ys yd : Nat → Int32} {q : Nat} {zc zp zr zs zf : Nat → Int32} {z : Nat} {zm zt : Int64} {fo : Nat → Int64} {k : Nat} (hI : iwC ad) (ho : ¬ awC ad o9) (hn : n ≤ 24) (hk : k < n) : Met l yL_gradeOf wsL_gradeOf { frames := 3, cells := 0, slots := 0, locals := 63 } (va_Pc [.ref (ad 0), .int (nI k), .ref o9] (fun U => va_P (dC, dI) vwCl (wC cI cZ ad sm fe ex dy gp gc op gr st dl wo n yc ya ys yd q zc zp zr zs zf z zm zt) U.heap ∧ va_K (dC, dI) vwCl [(cI, .int), (cZ, .boolean)] U ∧ va_P (dC, dI) vwCl [(o9, .inl (cJ, 1, .inr (.inl fo)))] U.heap ∧ va_K (dC, dI) vwCl [(cJ, .long)] U)) (va_Qi (fun r (_ : Unit) => r = nI 0) (fun (u9 : Unit) t => va_P (dC, dI) vwCl (wC cI cZ ad sm fe ex dy gp gc op gr st dl wo n yc ya ys yd q zc zp zr zs zf z zm zt) t.heap ∧ ∃ f9 : Nat → Int64, f9 0 = (gr k).toInt64 ∧ va_P (dC, dI) vwCl [(o9, .inl (cJ, 1, .inr (.inl f9)))] t.heap) (fun x => awC ad x ∨ x = o9)) 0 0 (fun x => awC ad x ∨ x = o9) := by
  refine va_MetW (cc := cL_gradeOf) (maxL := 4) (ret := (some .int)) (hh := [(0, 9, 12, 21)]) (by decide) rfl ?_
  intro p e s m args below meth c s₁ B hml hv
  obtain ⟨rfl, hP, hK, hPo, hKJ⟩ := hv
  have hx := B.exec
  have hb := B.bytes
  have hr := B.returns
  have hts := atoms_spec (ws := wsL_gradeOf) B.pre
  have hown : s.vm.findClass RL = some m.cls := findClass_of_methodNamed B.named
  have hlocks := B.notSynchronized
  have hA : ∀ x, awC ad x → (fun x => awC ad x ∨ x = o9) x := fun x h => Or.inl h
  have hS : va_S (fun x => awC ad x ∨ x = o9) s.heap s.heap [] := va_S.rf
  have hl := lv_entry ([.ref (ad 0), .int (nI k), .ref o9]) (n := 4) (Nat.le_of_ble_eq_true rfl)
  rw [lg_entry_eq]
  generalize (lg_sl ([.ref (ad 0), .int (nI k), .ref o9]) ++ List.replicate (4 - (lg_sl ([.ref (ad 0), .int (nI k), .ref o9])).length) Slot.unset).toArray = ls at hl ⊢
  have hl : lv_has ls 4 [(0, .ref (ad 0)), (1, .int (nI k)), (2, .ref o9)] := hl
  refine lv_aload_n hx hb dL_gradeOf_0 rfl (lv_at hl 2 rfl) ?_
  refine lv_iconst (v := nI 0) hx hb dL_gradeOf_1 (by decide) ?_
  refine lv_aload_n hx hb dL_gradeOf_2 rfl (lv_at hl 0 rfl) ?_
  refine lv_iload_n hx hb dL_gradeOf_3 rfl (lv_at hl 1 rfl) ?_
  refine k_X3_gradeOf_ok l (k := k) (hn := hn) (hk := hk) hx hb hml hown hts hK hP gL_gradeOf_X3_gradeOf ⟨Nat.le_of_ble_eq_true rfl, Nat.le_of_ble_eq_true rfl⟩ ⟨Nat.le_of_ble_eq_true rfl, Nat.le_of_ble_eq_true rfl⟩ hl.1 (Nat.le_of_ble_eq_true rfl) dL_gradeOf_4 ?_
  refine lv_i2l (v := (gr k).toInt64) hx hb dL_gradeOf_7 rfl ?_
  have hPL := hP.app hPo
  refine va_last hx hb hKJ hPL (dwL hI ho ..) hS 20 0 rfl rfl (vp_in_nI (n := 0) (by decide) (by decide)) dL_gradeOf_8 (fun H locs hPL _ hS => ?_)
  have hP : va_P (dC, dI) vwCl (wC cI cZ ad sm fe ex dy gp gc op gr st dl wo n yc ya ys yd q zc zp zr zs zf z zm zt) H := hPL.sub [0, 1, 2, 3, 4, 5, 6, 7, 8, 9, 10, 11, 12, 13, 14, 15, 16, 17, 18, 19] rfl
  have hPo : va_P (dC, dI) vwCl [(o9, .inl (cJ, 1, .inr (.inl (vp_updL fo (nI 0).toNatClampNeg (gr k).toInt64))))] H := hPL.sub [20] rfl
  refine lv_goto (tgt := 15) hx hb dL_gradeOf_9 (by decide) ?_
  refine lv_iconst (v := nI 0) hx hb dL_gradeOf_15 (by decide) ?_
  exact W.iret (v := nI 0) hx hb hr (fun t ht hW => ⟨⟨nI 0, (), rfl, rfl, ⟨by (try dsimp only); rw [ht]; exact hP, vp_updL fo (nI 0).toNatClampNeg (gr k).toInt64, if_pos (by decide), by rw [ht]; exact hPo⟩⟩, hS.F ht⟩) hS.2.2 dL_gradeOf_16
section
variable {p : Program} {e : Env} {R : Room} {s : State} {m : MethodId} {args : Array Value} {below : List Frame} {meth : Method} {c : Code} {H : Heap} {locs : List Loc} {cells slots : Nat} {Q : State → Prop} {cc : ByteArray} {pc : Nat} {ls : Array Slot} {rest : List Value} {own : String} {index nL : Nat} {Ts : List Cond} {H0 : Heap} {A0 : Nat → Prop}
theorem kh_gradeOf_ok (l : Launch) {dC : Nat → ClassId} {dI : Nat → Nat → Nat} {cI cZ cJ : ClassId} {ad : Nat → Nat} {o9 : Nat} {sm fe ex dy : Int32} {gp gc op gr st dl wo : Nat → Int32} {n : Nat} {yc ya ys yd : Nat → Int32} {q : Nat} {zc zp zr zs zf : Nat → Int32} {z : Nat} {zm zt : Int64} {fo : Nat → Int64} {k : Nat} (hn : n ≤ 24) (hk : k < n) (hx : p.tables.exec = Jvm.exec) (hb : c.code = cc) (hml : c.maxLocals = nL) (hown : s.vm.findClass own = some m.cls) (hts : ∀ w ∈ Ts, w.before args s = true) (hK : va_K (dC, dI) vwCl [(cI, .int), (cZ, .boolean)] s) (hP : va_P (dC, dI) vwCl (wC cI cZ ad sm fe ex dy gp gc op gr st dl wo n yc ya ys yd q zc zp zr zs zf z zm zt) H) (hg9 : GoodIn Ts (va_wsS own index yL_gradeOf wsL_gradeOf)) (hR9 : 3 + 1 ≤ R.frames ∧ 8 + (4 + 11) + 63 ≤ R.locals) (hc9 : cells + 0 ≤ R.cells ∧ slots + 0 ≤ R.slots) (hl9 : ls.size = nL) (hw9 : (rest.map fun v => v.category).sum ≤ 8) (hdg : decode cc pc = .ok (.invokestatic index, 3)) (hI : iwC ad) (ho : ¬ awC ad o9) (hPo : va_P (dC, dI) vwCl [(o9, .inl (cJ, 1, .inr (.inl fo)))] H) (hKJ : va_K (dC, dI) vwCl [(cJ, .long)] s) (hA : ∀ x, awC ad x ∨ x = o9 → A0 x) (hS : va_S A0 H0 H locs) (kk : ∀ (u9 : Unit) (H1 : Heap) (locs1 : List Loc), va_P (dC, dI) vwCl (wC cI cZ ad sm fe ex dy gp gc op gr st dl wo n yc ya ys yd q zc zp zr zs zf z zm zt) H1 → ∀ f9 : Nat → Int64, f9 0 = (gr k).toInt64 → va_P (dC, dI) vwCl [(o9, .inl (cJ, 1, .inr (.inl f9)))] H1 → va_S A0 H0 H1 locs1 → H.size ≤ H1.size → (∀ q : Nat, q < H.size → ¬ (awC ad q ∨ q = o9) → H1[q]? = H[q]?) → W p l e R s m args below meth c H1 locs1 cells slots Q (F0 m (pc + 3) ls (.int (nI 0) :: rest))) : W p l e R s m args below meth c H locs cells slots Q (F0 m pc ls (.ref o9 :: .int (nI k) :: .ref (ad 0) :: rest)) := va_calli (vx_runSW (As := [.ref (ad 0), .int (nI k), .ref o9]) (rest := rest) ⟨hx, hb, hml, hown, hts⟩ (h_gradeOf_ok (cJ := cJ) (o9 := o9) (fo := fo) (dC := dC) (dI := dI) (cI := cI) (cZ := cZ) (ad := ad) (sm := sm) (fe := fe) (ex := ex) (dy := dy) (gp := gp) (gc := gc) (op := op) (gr := gr) (st := st) (dl := dl) (wo := wo) (n := n) (yc := yc) (ya := ya) (ys := ys) (yd := yd) (q := q) (zc := zc) (zp := zp) (zr := zr) (zs := zs) (zf := zf) (z := z) (zm := zm) (zt := zt) (k := k) l hI ho hn hk) (vx_cwSW 3 hts hg9 rfl rfl rfl (by decide +kernel) hR9) ⟨fun a U g mk q => ⟨q.1, q.2.1, va_K.moved (u := U) (U := U.calling g mk a) (Vm.Alike.refl U.vm) q.2.2.1, q.2.2.2.1, va_K.moved (u := U) (U := U.calling g mk a) (Vm.Alike.refl U.vm) q.2.2.2.2⟩, fun U hU hW => ⟨rfl, by rw [hU]; exact hP, va_K.moved hW.alike hK, by rw [hU]; exact hPo, va_K.moved hW.alike hKJ⟩⟩ rfl rfl hl9 rfl (lv_room hw9) hdg hc9) hS (fun q _ h => hA q h) hA (fun r u t H1 locs1 ht _ hu hB hz hk hS1 => by subst hu; obtain ⟨hB1, f9, hf9, hB2⟩ := hB; rw [ht] at hB1 hB2; exact kk u H1 locs1 hB1 f9 hf9 hB2 hS1 hz hk)
end
set_option maxHeartbeats 4000000 in
set_option maxRecDepth 100000 in
theorem h_paidTo_ok (l : Launch) {dC : Nat → ClassId} {dI : Nat → Nat → Nat} {cI cZ cJ : ClassId} {ad : Nat → Nat} {o9 : Nat} {sm fe ex dy : Int32} {gp gc op gr st dl wo : Nat → Int32} {n : Nat} {yc ya ys yd : Nat → Int32} {q : Nat} {zc zp zr zs zf : Nat → Int32} {z : Nat} {zm zt : Int64} {fo : Nat → Int64} {k : Nat} (hI : iwC ad) (ho : ¬ awC ad o9) (hn : n ≤ 24) (hk : k < n) (hq : q ≤ 100) : Met l yL_paidTo wsL_paidTo { frames := 3, cells := 0, slots := 0, locals := 63 } (va_Pc [.ref (ad 0), .int (nI k), .ref o9] (fun U => va_P (dC, dI) vwCl (wC cI cZ ad sm fe ex dy gp gc op gr st dl wo n yc ya ys yd q zc zp zr zs zf z zm zt) U.heap ∧ va_K (dC, dI) vwCl [(cI, .int), (cZ, .boolean)] U ∧ va_P (dC, dI) vwCl [(o9, .inl (cJ, 1, .inr (.inl fo)))] U.heap ∧ va_K (dC, dI) vwCl [(cJ, .long)] U)) (va_Qi (fun r (_ : Unit) => r = nI 0) (fun (u9 : Unit) t => va_P (dC, dI) vwCl (wC cI cZ ad sm fe ex dy gp gc op gr st dl wo n yc ya ys yd q zc zp zr zs zf z zm zt) t.heap ∧ ∃ f9 : Nat → Int64, f9 0 = (sumForI yc ya ys (nI k) q).toInt64 ∧ va_P (dC, dI) vwCl [(o9, .inl (cJ, 1, .inr (.inl f9)))] t.heap) (fun x => awC ad x ∨ x = o9)) 0 0 (fun x => awC ad x ∨ x = o9) := by
  refine va_MetW (cc := cL_paidTo) (maxL := 4) (ret := (some .int)) (hh := [(0, 9, 12, 21)]) (by decide) rfl ?_
  intro p e s m args below meth c s₁ B hml hv
  obtain ⟨rfl, hP, hK, hPo, hKJ⟩ := hv
  have hx := B.exec
  have hb := B.bytes
  have hr := B.returns
  have hts := atoms_spec (ws := wsL_paidTo) B.pre
  have hown : s.vm.findClass RL = some m.cls := findClass_of_methodNamed B.named
  have hlocks := B.notSynchronized
  have hA : ∀ x, awC ad x → (fun x => awC ad x ∨ x = o9) x := fun x h => Or.inl h
  have hS : va_S (fun x => awC ad x ∨ x = o9) s.heap s.heap [] := va_S.rf
  have hl := lv_entry ([.ref (ad 0), .int (nI k), .ref o9]) (n := 4) (Nat.le_of_ble_eq_true rfl)
  rw [lg_entry_eq]
  generalize (lg_sl ([.ref (ad 0), .int (nI k), .ref o9]) ++ List.replicate (4 - (lg_sl ([.ref (ad 0), .int (nI k), .ref o9])).length) Slot.unset).toArray = ls at hl ⊢
  have hl : lv_has ls 4 [(0, .ref (ad 0)), (1, .int (nI k)), (2, .ref o9)] := hl
  refine lv_aload_n hx hb dL_paidTo_0 rfl (lv_at hl 2 rfl) ?_
  refine lv_iconst (v := nI 0) hx hb dL_paidTo_1 (by decide) ?_
  refine lv_aload_n hx hb dL_paidTo_2 rfl (lv_at hl 0 rfl) ?_
  refine lv_iload_n hx hb dL_paidTo_3 rfl (lv_at hl 1 rfl) ?_
  refine k_X3_paidTo_ok l (k := k) (hn := hn) (hk := hk) (hq := hq) hx hb hml hown hts hK hP gL_paidTo_X3_paidTo ⟨Nat.le_of_ble_eq_true rfl, Nat.le_of_ble_eq_true rfl⟩ ⟨Nat.le_of_ble_eq_true rfl, Nat.le_of_ble_eq_true rfl⟩ hl.1 (Nat.le_of_ble_eq_true rfl) dL_paidTo_4 ?_
  refine lv_i2l (v := (sumForI yc ya ys (nI k) q).toInt64) hx hb dL_paidTo_7 rfl ?_
  have hPL := hP.app hPo
  refine va_last hx hb hKJ hPL (dwL hI ho ..) hS 20 0 rfl rfl (vp_in_nI (n := 0) (by decide) (by decide)) dL_paidTo_8 (fun H locs hPL _ hS => ?_)
  have hP : va_P (dC, dI) vwCl (wC cI cZ ad sm fe ex dy gp gc op gr st dl wo n yc ya ys yd q zc zp zr zs zf z zm zt) H := hPL.sub [0, 1, 2, 3, 4, 5, 6, 7, 8, 9, 10, 11, 12, 13, 14, 15, 16, 17, 18, 19] rfl
  have hPo : va_P (dC, dI) vwCl [(o9, .inl (cJ, 1, .inr (.inl (vp_updL fo (nI 0).toNatClampNeg (sumForI yc ya ys (nI k) q).toInt64))))] H := hPL.sub [20] rfl
  refine lv_goto (tgt := 15) hx hb dL_paidTo_9 (by decide) ?_
  refine lv_iconst (v := nI 0) hx hb dL_paidTo_15 (by decide) ?_
  exact W.iret (v := nI 0) hx hb hr (fun t ht hW => ⟨⟨nI 0, (), rfl, rfl, ⟨by (try dsimp only); rw [ht]; exact hP, vp_updL fo (nI 0).toNatClampNeg (sumForI yc ya ys (nI k) q).toInt64, if_pos (by decide), by rw [ht]; exact hPo⟩⟩, hS.F ht⟩) hS.2.2 dL_paidTo_16
section
variable {p : Program} {e : Env} {R : Room} {s : State} {m : MethodId} {args : Array Value} {below : List Frame} {meth : Method} {c : Code} {H : Heap} {locs : List Loc} {cells slots : Nat} {Q : State → Prop} {cc : ByteArray} {pc : Nat} {ls : Array Slot} {rest : List Value} {own : String} {index nL : Nat} {Ts : List Cond} {H0 : Heap} {A0 : Nat → Prop}
theorem kh_paidTo_ok (l : Launch) {dC : Nat → ClassId} {dI : Nat → Nat → Nat} {cI cZ cJ : ClassId} {ad : Nat → Nat} {o9 : Nat} {sm fe ex dy : Int32} {gp gc op gr st dl wo : Nat → Int32} {n : Nat} {yc ya ys yd : Nat → Int32} {q : Nat} {zc zp zr zs zf : Nat → Int32} {z : Nat} {zm zt : Int64} {fo : Nat → Int64} {k : Nat} (hn : n ≤ 24) (hk : k < n) (hq : q ≤ 100) (hx : p.tables.exec = Jvm.exec) (hb : c.code = cc) (hml : c.maxLocals = nL) (hown : s.vm.findClass own = some m.cls) (hts : ∀ w ∈ Ts, w.before args s = true) (hK : va_K (dC, dI) vwCl [(cI, .int), (cZ, .boolean)] s) (hP : va_P (dC, dI) vwCl (wC cI cZ ad sm fe ex dy gp gc op gr st dl wo n yc ya ys yd q zc zp zr zs zf z zm zt) H) (hg9 : GoodIn Ts (va_wsS own index yL_paidTo wsL_paidTo)) (hR9 : 3 + 1 ≤ R.frames ∧ 8 + (4 + 11) + 63 ≤ R.locals) (hc9 : cells + 0 ≤ R.cells ∧ slots + 0 ≤ R.slots) (hl9 : ls.size = nL) (hw9 : (rest.map fun v => v.category).sum ≤ 8) (hdg : decode cc pc = .ok (.invokestatic index, 3)) (hI : iwC ad) (ho : ¬ awC ad o9) (hPo : va_P (dC, dI) vwCl [(o9, .inl (cJ, 1, .inr (.inl fo)))] H) (hKJ : va_K (dC, dI) vwCl [(cJ, .long)] s) (hA : ∀ x, awC ad x ∨ x = o9 → A0 x) (hS : va_S A0 H0 H locs) (kk : ∀ (u9 : Unit) (H1 : Heap) (locs1 : List Loc), va_P (dC, dI) vwCl (wC cI cZ ad sm fe ex dy gp gc op gr st dl wo n yc ya ys yd q zc zp zr zs zf z zm zt) H1 → ∀ f9 : Nat → Int64, f9 0 = (sumForI yc ya ys (nI k) q).toInt64 → va_P (dC, dI) vwCl [(o9, .inl (cJ, 1, .inr (.inl f9)))] H1 → va_S A0 H0 H1 locs1 → H.size ≤ H1.size → (∀ q : Nat, q < H.size → ¬ (awC ad q ∨ q = o9) → H1[q]? = H[q]?) → W p l e R s m args below meth c H1 locs1 cells slots Q (F0 m (pc + 3) ls (.int (nI 0) :: rest))) : W p l e R s m args below meth c H locs cells slots Q (F0 m pc ls (.ref o9 :: .int (nI k) :: .ref (ad 0) :: rest)) := va_calli (vx_runSW (As := [.ref (ad 0), .int (nI k), .ref o9]) (rest := rest) ⟨hx, hb, hml, hown, hts⟩ (h_paidTo_ok (cJ := cJ) (o9 := o9) (fo := fo) (dC := dC) (dI := dI) (cI := cI) (cZ := cZ) (ad := ad) (sm := sm) (fe := fe) (ex := ex) (dy := dy) (gp := gp) (gc := gc) (op := op) (gr := gr) (st := st) (dl := dl) (wo := wo) (n := n) (yc := yc) (ya := ya) (ys := ys) (yd := yd) (q := q) (zc := zc) (zp := zp) (zr := zr) (zs := zs) (zf := zf) (z := z) (zm := zm) (zt := zt) (k := k) l hI ho hn hk hq) (vx_cwSW 3 hts hg9 rfl rfl rfl (by decide +kernel) hR9) ⟨fun a U g mk q => ⟨q.1, q.2.1, va_K.moved (u := U) (U := U.calling g mk a) (Vm.Alike.refl U.vm) q.2.2.1, q.2.2.2.1, va_K.moved (u := U) (U := U.calling g mk a) (Vm.Alike.refl U.vm) q.2.2.2.2⟩, fun U hU hW => ⟨rfl, by rw [hU]; exact hP, va_K.moved hW.alike hK, by rw [hU]; exact hPo, va_K.moved hW.alike hKJ⟩⟩ rfl rfl hl9 rfl (lv_room hw9) hdg hc9) hS (fun q _ h => hA q h) hA (fun r u t H1 locs1 ht _ hu hB hz hk hS1 => by subst hu; obtain ⟨hB1, f9, hf9, hB2⟩ := hB; rw [ht] at hB1 hB2; exact kk u H1 locs1 hB1 f9 hf9 hB2 hS1 hz hk)
end
set_option maxHeartbeats 4000000 in
set_option maxRecDepth 100000 in
theorem h_paymentTo_ok (l : Launch) {dC : Nat → ClassId} {dI : Nat → Nat → Nat} {cI cZ cJ : ClassId} {ad : Nat → Nat} {o9 : Nat} {sm fe ex dy : Int32} {gp gc op gr st dl wo : Nat → Int32} {n : Nat} {yc ya ys yd : Nat → Int32} {q : Nat} {zc zp zr zs zf : Nat → Int32} {z : Nat} {zm zt : Int64} {fo : Nat → Int64} {k : Nat} (hI : iwC ad) (ho : ¬ awC ad o9) (hq : q ≤ 100) (hk : k < q) : Met l yL_paymentTo wsL_paymentTo { frames := 3, cells := 0, slots := 0, locals := 63 } (va_Pc [.ref (ad 0), .int (nI k), .ref o9] (fun U => va_P (dC, dI) vwCl (wC cI cZ ad sm fe ex dy gp gc op gr st dl wo n yc ya ys yd q zc zp zr zs zf z zm zt) U.heap ∧ va_K (dC, dI) vwCl [(cI, .int), (cZ, .boolean)] U ∧ va_P (dC, dI) vwCl [(o9, .inl (cJ, 1, .inr (.inl fo)))] U.heap ∧ va_K (dC, dI) vwCl [(cJ, .long)] U)) (va_Qi (fun r (_ : Unit) => r = nI 0) (fun (u9 : Unit) t => va_P (dC, dI) vwCl (wC cI cZ ad sm fe ex dy gp gc op gr st dl wo n yc ya ys yd q zc zp zr zs zf z zm zt) t.heap ∧ ∃ f9 : Nat → Int64, f9 0 = (yc k).toInt64 ∧ va_P (dC, dI) vwCl [(o9, .inl (cJ, 1, .inr (.inl f9)))] t.heap) (fun x => awC ad x ∨ x = o9)) 0 0 (fun x => awC ad x ∨ x = o9) := by
  refine va_MetW (cc := cL_paymentTo) (maxL := 4) (ret := (some .int)) (hh := [(0, 9, 12, 21)]) (by decide) rfl ?_
  intro p e s m args below meth c s₁ B hml hv
  obtain ⟨rfl, hP, hK, hPo, hKJ⟩ := hv
  have hx := B.exec
  have hb := B.bytes
  have hr := B.returns
  have hts := atoms_spec (ws := wsL_paymentTo) B.pre
  have hown : s.vm.findClass RL = some m.cls := findClass_of_methodNamed B.named
  have hlocks := B.notSynchronized
  have hA : ∀ x, awC ad x → (fun x => awC ad x ∨ x = o9) x := fun x h => Or.inl h
  have hS : va_S (fun x => awC ad x ∨ x = o9) s.heap s.heap [] := va_S.rf
  have hl := lv_entry ([.ref (ad 0), .int (nI k), .ref o9]) (n := 4) (Nat.le_of_ble_eq_true rfl)
  rw [lg_entry_eq]
  generalize (lg_sl ([.ref (ad 0), .int (nI k), .ref o9]) ++ List.replicate (4 - (lg_sl ([.ref (ad 0), .int (nI k), .ref o9])).length) Slot.unset).toArray = ls at hl ⊢
  have hl : lv_has ls 4 [(0, .ref (ad 0)), (1, .int (nI k)), (2, .ref o9)] := hl
  refine lv_aload_n hx hb dL_paymentTo_0 rfl (lv_at hl 2 rfl) ?_
  refine lv_iconst (v := nI 0) hx hb dL_paymentTo_1 (by decide) ?_
  refine lv_aload_n hx hb dL_paymentTo_2 rfl (lv_at hl 0 rfl) ?_
  refine lv_iload_n hx hb dL_paymentTo_3 rfl (lv_at hl 1 rfl) ?_
  refine k_X3_paymentTo_ok l (k := k) (hq := hq) (hk := hk) hx hb hml hown hts hK hP gL_paymentTo_X3_paymentTo ⟨Nat.le_of_ble_eq_true rfl, Nat.le_of_ble_eq_true rfl⟩ ⟨Nat.le_of_ble_eq_true rfl, Nat.le_of_ble_eq_true rfl⟩ hl.1 (Nat.le_of_ble_eq_true rfl) dL_paymentTo_4 ?_
  refine lv_i2l (v := (yc k).toInt64) hx hb dL_paymentTo_7 rfl ?_
  have hPL := hP.app hPo
  refine va_last hx hb hKJ hPL (dwL hI ho ..) hS 20 0 rfl rfl (vp_in_nI (n := 0) (by decide) (by decide)) dL_paymentTo_8 (fun H locs hPL _ hS => ?_)
  have hP : va_P (dC, dI) vwCl (wC cI cZ ad sm fe ex dy gp gc op gr st dl wo n yc ya ys yd q zc zp zr zs zf z zm zt) H := hPL.sub [0, 1, 2, 3, 4, 5, 6, 7, 8, 9, 10, 11, 12, 13, 14, 15, 16, 17, 18, 19] rfl
  have hPo : va_P (dC, dI) vwCl [(o9, .inl (cJ, 1, .inr (.inl (vp_updL fo (nI 0).toNatClampNeg (yc k).toInt64))))] H := hPL.sub [20] rfl
  refine lv_goto (tgt := 15) hx hb dL_paymentTo_9 (by decide) ?_
  refine lv_iconst (v := nI 0) hx hb dL_paymentTo_15 (by decide) ?_
  exact W.iret (v := nI 0) hx hb hr (fun t ht hW => ⟨⟨nI 0, (), rfl, rfl, ⟨by (try dsimp only); rw [ht]; exact hP, vp_updL fo (nI 0).toNatClampNeg (yc k).toInt64, if_pos (by decide), by rw [ht]; exact hPo⟩⟩, hS.F ht⟩) hS.2.2 dL_paymentTo_16
section
variable {p : Program} {e : Env} {R : Room} {s : State} {m : MethodId} {args : Array Value} {below : List Frame} {meth : Method} {c : Code} {H : Heap} {locs : List Loc} {cells slots : Nat} {Q : State → Prop} {cc : ByteArray} {pc : Nat} {ls : Array Slot} {rest : List Value} {own : String} {index nL : Nat} {Ts : List Cond} {H0 : Heap} {A0 : Nat → Prop}
theorem kh_paymentTo_ok (l : Launch) {dC : Nat → ClassId} {dI : Nat → Nat → Nat} {cI cZ cJ : ClassId} {ad : Nat → Nat} {o9 : Nat} {sm fe ex dy : Int32} {gp gc op gr st dl wo : Nat → Int32} {n : Nat} {yc ya ys yd : Nat → Int32} {q : Nat} {zc zp zr zs zf : Nat → Int32} {z : Nat} {zm zt : Int64} {fo : Nat → Int64} {k : Nat} (hq : q ≤ 100) (hk : k < q) (hx : p.tables.exec = Jvm.exec) (hb : c.code = cc) (hml : c.maxLocals = nL) (hown : s.vm.findClass own = some m.cls) (hts : ∀ w ∈ Ts, w.before args s = true) (hK : va_K (dC, dI) vwCl [(cI, .int), (cZ, .boolean)] s) (hP : va_P (dC, dI) vwCl (wC cI cZ ad sm fe ex dy gp gc op gr st dl wo n yc ya ys yd q zc zp zr zs zf z zm zt) H) (hg9 : GoodIn Ts (va_wsS own index yL_paymentTo wsL_paymentTo)) (hR9 : 3 + 1 ≤ R.frames ∧ 8 + (4 + 11) + 63 ≤ R.locals) (hc9 : cells + 0 ≤ R.cells ∧ slots + 0 ≤ R.slots) (hl9 : ls.size = nL) (hw9 : (rest.map fun v => v.category).sum ≤ 8) (hdg : decode cc pc = .ok (.invokestatic index, 3)) (hI : iwC ad) (ho : ¬ awC ad o9) (hPo : va_P (dC, dI) vwCl [(o9, .inl (cJ, 1, .inr (.inl fo)))] H) (hKJ : va_K (dC, dI) vwCl [(cJ, .long)] s) (hA : ∀ x, awC ad x ∨ x = o9 → A0 x) (hS : va_S A0 H0 H locs) (kk : ∀ (u9 : Unit) (H1 : Heap) (locs1 : List Loc), va_P (dC, dI) vwCl (wC cI cZ ad sm fe ex dy gp gc op gr st dl wo n yc ya ys yd q zc zp zr zs zf z zm zt) H1 → ∀ f9 : Nat → Int64, f9 0 = (yc k).toInt64 → va_P (dC, dI) vwCl [(o9, .inl (cJ, 1, .inr (.inl f9)))] H1 → va_S A0 H0 H1 locs1 → H.size ≤ H1.size → (∀ q : Nat, q < H.size → ¬ (awC ad q ∨ q = o9) → H1[q]? = H[q]?) → W p l e R s m args below meth c H1 locs1 cells slots Q (F0 m (pc + 3) ls (.int (nI 0) :: rest))) : W p l e R s m args below meth c H locs cells slots Q (F0 m pc ls (.ref o9 :: .int (nI k) :: .ref (ad 0) :: rest)) := va_calli (vx_runSW (As := [.ref (ad 0), .int (nI k), .ref o9]) (rest := rest) ⟨hx, hb, hml, hown, hts⟩ (h_paymentTo_ok (cJ := cJ) (o9 := o9) (fo := fo) (dC := dC) (dI := dI) (cI := cI) (cZ := cZ) (ad := ad) (sm := sm) (fe := fe) (ex := ex) (dy := dy) (gp := gp) (gc := gc) (op := op) (gr := gr) (st := st) (dl := dl) (wo := wo) (n := n) (yc := yc) (ya := ya) (ys := ys) (yd := yd) (q := q) (zc := zc) (zp := zp) (zr := zr) (zs := zs) (zf := zf) (z := z) (zm := zm) (zt := zt) (k := k) l hI ho hq hk) (vx_cwSW 3 hts hg9 rfl rfl rfl (by decide +kernel) hR9) ⟨fun a U g mk q => ⟨q.1, q.2.1, va_K.moved (u := U) (U := U.calling g mk a) (Vm.Alike.refl U.vm) q.2.2.1, q.2.2.2.1, va_K.moved (u := U) (U := U.calling g mk a) (Vm.Alike.refl U.vm) q.2.2.2.2⟩, fun U hU hW => ⟨rfl, by rw [hU]; exact hP, va_K.moved hW.alike hK, by rw [hU]; exact hPo, va_K.moved hW.alike hKJ⟩⟩ rfl rfl hl9 rfl (lv_room hw9) hdg hc9) hS (fun q _ h => hA q h) hA (fun r u t H1 locs1 ht _ hu hB hz hk hS1 => by subst hu; obtain ⟨hB1, f9, hf9, hB2⟩ := hB; rw [ht] at hB1 hB2; exact kk u H1 locs1 hB1 f9 hf9 hB2 hS1 hz hk)
end
set_option maxHeartbeats 4000000 in
set_option maxRecDepth 100000 in
theorem h_amountOf_ok (l : Launch) {dC : Nat → ClassId} {dI : Nat → Nat → Nat} {cI cZ cJ : ClassId} {ad : Nat → Nat} {o9 : Nat} {sm fe ex dy : Int32} {gp gc op gr st dl wo : Nat → Int32} {n : Nat} {yc ya ys yd : Nat → Int32} {q : Nat} {zc zp zr zs zf : Nat → Int32} {z : Nat} {zm zt : Int64} {fo : Nat → Int64} {k : Nat} (hI : iwC ad) (ho : ¬ awC ad o9) (hq : q ≤ 100) (hk : k < q) : Met l yL_amountOf wsL_amountOf { frames := 3, cells := 0, slots := 0, locals := 63 } (va_Pc [.ref (ad 0), .int (nI k), .ref o9] (fun U => va_P (dC, dI) vwCl (wC cI cZ ad sm fe ex dy gp gc op gr st dl wo n yc ya ys yd q zc zp zr zs zf z zm zt) U.heap ∧ va_K (dC, dI) vwCl [(cI, .int), (cZ, .boolean)] U ∧ va_P (dC, dI) vwCl [(o9, .inl (cJ, 1, .inr (.inl fo)))] U.heap ∧ va_K (dC, dI) vwCl [(cJ, .long)] U)) (va_Qi (fun r (_ : Unit) => r = nI 0) (fun (u9 : Unit) t => va_P (dC, dI) vwCl (wC cI cZ ad sm fe ex dy gp gc op gr st dl wo n yc ya ys yd q zc zp zr zs zf z zm zt) t.heap ∧ ∃ f9 : Nat → Int64, f9 0 = (ya k).toInt64 ∧ va_P (dC, dI) vwCl [(o9, .inl (cJ, 1, .inr (.inl f9)))] t.heap) (fun x => awC ad x ∨ x = o9)) 0 0 (fun x => awC ad x ∨ x = o9) := by
  refine va_MetW (cc := cL_amountOf) (maxL := 4) (ret := (some .int)) (hh := [(0, 9, 12, 21)]) (by decide) rfl ?_
  intro p e s m args below meth c s₁ B hml hv
  obtain ⟨rfl, hP, hK, hPo, hKJ⟩ := hv
  have hx := B.exec
  have hb := B.bytes
  have hr := B.returns
  have hts := atoms_spec (ws := wsL_amountOf) B.pre
  have hown : s.vm.findClass RL = some m.cls := findClass_of_methodNamed B.named
  have hlocks := B.notSynchronized
  have hA : ∀ x, awC ad x → (fun x => awC ad x ∨ x = o9) x := fun x h => Or.inl h
  have hS : va_S (fun x => awC ad x ∨ x = o9) s.heap s.heap [] := va_S.rf
  have hl := lv_entry ([.ref (ad 0), .int (nI k), .ref o9]) (n := 4) (Nat.le_of_ble_eq_true rfl)
  rw [lg_entry_eq]
  generalize (lg_sl ([.ref (ad 0), .int (nI k), .ref o9]) ++ List.replicate (4 - (lg_sl ([.ref (ad 0), .int (nI k), .ref o9])).length) Slot.unset).toArray = ls at hl ⊢
  have hl : lv_has ls 4 [(0, .ref (ad 0)), (1, .int (nI k)), (2, .ref o9)] := hl
  refine lv_aload_n hx hb dL_amountOf_0 rfl (lv_at hl 2 rfl) ?_
  refine lv_iconst (v := nI 0) hx hb dL_amountOf_1 (by decide) ?_
  refine lv_aload_n hx hb dL_amountOf_2 rfl (lv_at hl 0 rfl) ?_
  refine lv_iload_n hx hb dL_amountOf_3 rfl (lv_at hl 1 rfl) ?_
  refine k_X3_amountOf_ok l (k := k) (hq := hq) (hk := hk) hx hb hml hown hts hK hP gL_amountOf_X3_amountOf ⟨Nat.le_of_ble_eq_true rfl, Nat.le_of_ble_eq_true rfl⟩ ⟨Nat.le_of_ble_eq_true rfl, Nat.le_of_ble_eq_true rfl⟩ hl.1 (Nat.le_of_ble_eq_true rfl) dL_amountOf_4 ?_
  refine lv_i2l (v := (ya k).toInt64) hx hb dL_amountOf_7 rfl ?_
  have hPL := hP.app hPo
  refine va_last hx hb hKJ hPL (dwL hI ho ..) hS 20 0 rfl rfl (vp_in_nI (n := 0) (by decide) (by decide)) dL_amountOf_8 (fun H locs hPL _ hS => ?_)
  have hP : va_P (dC, dI) vwCl (wC cI cZ ad sm fe ex dy gp gc op gr st dl wo n yc ya ys yd q zc zp zr zs zf z zm zt) H := hPL.sub [0, 1, 2, 3, 4, 5, 6, 7, 8, 9, 10, 11, 12, 13, 14, 15, 16, 17, 18, 19] rfl
  have hPo : va_P (dC, dI) vwCl [(o9, .inl (cJ, 1, .inr (.inl (vp_updL fo (nI 0).toNatClampNeg (ya k).toInt64))))] H := hPL.sub [20] rfl
  refine lv_goto (tgt := 15) hx hb dL_amountOf_9 (by decide) ?_
  refine lv_iconst (v := nI 0) hx hb dL_amountOf_15 (by decide) ?_
  exact W.iret (v := nI 0) hx hb hr (fun t ht hW => ⟨⟨nI 0, (), rfl, rfl, ⟨by (try dsimp only); rw [ht]; exact hP, vp_updL fo (nI 0).toNatClampNeg (ya k).toInt64, if_pos (by decide), by rw [ht]; exact hPo⟩⟩, hS.F ht⟩) hS.2.2 dL_amountOf_16
section
variable {p : Program} {e : Env} {R : Room} {s : State} {m : MethodId} {args : Array Value} {below : List Frame} {meth : Method} {c : Code} {H : Heap} {locs : List Loc} {cells slots : Nat} {Q : State → Prop} {cc : ByteArray} {pc : Nat} {ls : Array Slot} {rest : List Value} {own : String} {index nL : Nat} {Ts : List Cond} {H0 : Heap} {A0 : Nat → Prop}
theorem kh_amountOf_ok (l : Launch) {dC : Nat → ClassId} {dI : Nat → Nat → Nat} {cI cZ cJ : ClassId} {ad : Nat → Nat} {o9 : Nat} {sm fe ex dy : Int32} {gp gc op gr st dl wo : Nat → Int32} {n : Nat} {yc ya ys yd : Nat → Int32} {q : Nat} {zc zp zr zs zf : Nat → Int32} {z : Nat} {zm zt : Int64} {fo : Nat → Int64} {k : Nat} (hq : q ≤ 100) (hk : k < q) (hx : p.tables.exec = Jvm.exec) (hb : c.code = cc) (hml : c.maxLocals = nL) (hown : s.vm.findClass own = some m.cls) (hts : ∀ w ∈ Ts, w.before args s = true) (hK : va_K (dC, dI) vwCl [(cI, .int), (cZ, .boolean)] s) (hP : va_P (dC, dI) vwCl (wC cI cZ ad sm fe ex dy gp gc op gr st dl wo n yc ya ys yd q zc zp zr zs zf z zm zt) H) (hg9 : GoodIn Ts (va_wsS own index yL_amountOf wsL_amountOf)) (hR9 : 3 + 1 ≤ R.frames ∧ 8 + (4 + 11) + 63 ≤ R.locals) (hc9 : cells + 0 ≤ R.cells ∧ slots + 0 ≤ R.slots) (hl9 : ls.size = nL) (hw9 : (rest.map fun v => v.category).sum ≤ 8) (hdg : decode cc pc = .ok (.invokestatic index, 3)) (hI : iwC ad) (ho : ¬ awC ad o9) (hPo : va_P (dC, dI) vwCl [(o9, .inl (cJ, 1, .inr (.inl fo)))] H) (hKJ : va_K (dC, dI) vwCl [(cJ, .long)] s) (hA : ∀ x, awC ad x ∨ x = o9 → A0 x) (hS : va_S A0 H0 H locs) (kk : ∀ (u9 : Unit) (H1 : Heap) (locs1 : List Loc), va_P (dC, dI) vwCl (wC cI cZ ad sm fe ex dy gp gc op gr st dl wo n yc ya ys yd q zc zp zr zs zf z zm zt) H1 → ∀ f9 : Nat → Int64, f9 0 = (ya k).toInt64 → va_P (dC, dI) vwCl [(o9, .inl (cJ, 1, .inr (.inl f9)))] H1 → va_S A0 H0 H1 locs1 → H.size ≤ H1.size → (∀ q : Nat, q < H.size → ¬ (awC ad q ∨ q = o9) → H1[q]? = H[q]?) → W p l e R s m args below meth c H1 locs1 cells slots Q (F0 m (pc + 3) ls (.int (nI 0) :: rest))) : W p l e R s m args below meth c H locs cells slots Q (F0 m pc ls (.ref o9 :: .int (nI k) :: .ref (ad 0) :: rest)) := va_calli (vx_runSW (As := [.ref (ad 0), .int (nI k), .ref o9]) (rest := rest) ⟨hx, hb, hml, hown, hts⟩ (h_amountOf_ok (cJ := cJ) (o9 := o9) (fo := fo) (dC := dC) (dI := dI) (cI := cI) (cZ := cZ) (ad := ad) (sm := sm) (fe := fe) (ex := ex) (dy := dy) (gp := gp) (gc := gc) (op := op) (gr := gr) (st := st) (dl := dl) (wo := wo) (n := n) (yc := yc) (ya := ya) (ys := ys) (yd := yd) (q := q) (zc := zc) (zp := zp) (zr := zr) (zs := zs) (zf := zf) (z := z) (zm := zm) (zt := zt) (k := k) l hI ho hq hk) (vx_cwSW 3 hts hg9 rfl rfl rfl (by decide +kernel) hR9) ⟨fun a U g mk q => ⟨q.1, q.2.1, va_K.moved (u := U) (U := U.calling g mk a) (Vm.Alike.refl U.vm) q.2.2.1, q.2.2.2.1, va_K.moved (u := U) (U := U.calling g mk a) (Vm.Alike.refl U.vm) q.2.2.2.2⟩, fun U hU hW => ⟨rfl, by rw [hU]; exact hP, va_K.moved hW.alike hK, by rw [hU]; exact hPo, va_K.moved hW.alike hKJ⟩⟩ rfl rfl hl9 rfl (lv_room hw9) hdg hc9) hS (fun q _ h => hA q h) hA (fun r u t H1 locs1 ht _ hu hB hz hk hS1 => by subst hu; obtain ⟨hB1, f9, hf9, hB2⟩ := hB; rw [ht] at hB1 hB2; exact kk u H1 locs1 hB1 f9 hf9 hB2 hS1 hz hk)
end
set_option maxHeartbeats 4000000 in
set_option maxRecDepth 100000 in
theorem h_paymentState_ok (l : Launch) {dC : Nat → ClassId} {dI : Nat → Nat → Nat} {cI cZ cJ : ClassId} {ad : Nat → Nat} {o9 : Nat} {sm fe ex dy : Int32} {gp gc op gr st dl wo : Nat → Int32} {n : Nat} {yc ya ys yd : Nat → Int32} {q : Nat} {zc zp zr zs zf : Nat → Int32} {z : Nat} {zm zt : Int64} {fo : Nat → Int64} {k : Nat} (hI : iwC ad) (ho : ¬ awC ad o9) (hq : q ≤ 100) (hk : k < q) : Met l yL_paymentState wsL_paymentState { frames := 3, cells := 0, slots := 0, locals := 63 } (va_Pc [.ref (ad 0), .int (nI k), .ref o9] (fun U => va_P (dC, dI) vwCl (wC cI cZ ad sm fe ex dy gp gc op gr st dl wo n yc ya ys yd q zc zp zr zs zf z zm zt) U.heap ∧ va_K (dC, dI) vwCl [(cI, .int), (cZ, .boolean)] U ∧ va_P (dC, dI) vwCl [(o9, .inl (cJ, 1, .inr (.inl fo)))] U.heap ∧ va_K (dC, dI) vwCl [(cJ, .long)] U)) (va_Qi (fun r (_ : Unit) => r = nI 0) (fun (u9 : Unit) t => va_P (dC, dI) vwCl (wC cI cZ ad sm fe ex dy gp gc op gr st dl wo n yc ya ys yd q zc zp zr zs zf z zm zt) t.heap ∧ ∃ f9 : Nat → Int64, f9 0 = (ys k).toInt64 ∧ va_P (dC, dI) vwCl [(o9, .inl (cJ, 1, .inr (.inl f9)))] t.heap) (fun x => awC ad x ∨ x = o9)) 0 0 (fun x => awC ad x ∨ x = o9) := by
  refine va_MetW (cc := cL_paymentState) (maxL := 4) (ret := (some .int)) (hh := [(0, 9, 12, 21)]) (by decide) rfl ?_
  intro p e s m args below meth c s₁ B hml hv
  obtain ⟨rfl, hP, hK, hPo, hKJ⟩ := hv
  have hx := B.exec
  have hb := B.bytes
  have hr := B.returns
  have hts := atoms_spec (ws := wsL_paymentState) B.pre
  have hown : s.vm.findClass RL = some m.cls := findClass_of_methodNamed B.named
  have hlocks := B.notSynchronized
  have hA : ∀ x, awC ad x → (fun x => awC ad x ∨ x = o9) x := fun x h => Or.inl h
  have hS : va_S (fun x => awC ad x ∨ x = o9) s.heap s.heap [] := va_S.rf
  have hl := lv_entry ([.ref (ad 0), .int (nI k), .ref o9]) (n := 4) (Nat.le_of_ble_eq_true rfl)
  rw [lg_entry_eq]
  generalize (lg_sl ([.ref (ad 0), .int (nI k), .ref o9]) ++ List.replicate (4 - (lg_sl ([.ref (ad 0), .int (nI k), .ref o9])).length) Slot.unset).toArray = ls at hl ⊢
  have hl : lv_has ls 4 [(0, .ref (ad 0)), (1, .int (nI k)), (2, .ref o9)] := hl
  refine lv_aload_n hx hb dL_paymentState_0 rfl (lv_at hl 2 rfl) ?_
  refine lv_iconst (v := nI 0) hx hb dL_paymentState_1 (by decide) ?_
  refine lv_aload_n hx hb dL_paymentState_2 rfl (lv_at hl 0 rfl) ?_
  refine lv_iload_n hx hb dL_paymentState_3 rfl (lv_at hl 1 rfl) ?_
  refine k_X3_paymentState_ok l (k := k) (hq := hq) (hk := hk) hx hb hml hown hts hK hP gL_paymentState_X3_paymentState ⟨Nat.le_of_ble_eq_true rfl, Nat.le_of_ble_eq_true rfl⟩ ⟨Nat.le_of_ble_eq_true rfl, Nat.le_of_ble_eq_true rfl⟩ hl.1 (Nat.le_of_ble_eq_true rfl) dL_paymentState_4 ?_
  refine lv_i2l (v := (ys k).toInt64) hx hb dL_paymentState_7 rfl ?_
  have hPL := hP.app hPo
  refine va_last hx hb hKJ hPL (dwL hI ho ..) hS 20 0 rfl rfl (vp_in_nI (n := 0) (by decide) (by decide)) dL_paymentState_8 (fun H locs hPL _ hS => ?_)
  have hP : va_P (dC, dI) vwCl (wC cI cZ ad sm fe ex dy gp gc op gr st dl wo n yc ya ys yd q zc zp zr zs zf z zm zt) H := hPL.sub [0, 1, 2, 3, 4, 5, 6, 7, 8, 9, 10, 11, 12, 13, 14, 15, 16, 17, 18, 19] rfl
  have hPo : va_P (dC, dI) vwCl [(o9, .inl (cJ, 1, .inr (.inl (vp_updL fo (nI 0).toNatClampNeg (ys k).toInt64))))] H := hPL.sub [20] rfl
  refine lv_goto (tgt := 15) hx hb dL_paymentState_9 (by decide) ?_
  refine lv_iconst (v := nI 0) hx hb dL_paymentState_15 (by decide) ?_
  exact W.iret (v := nI 0) hx hb hr (fun t ht hW => ⟨⟨nI 0, (), rfl, rfl, ⟨by (try dsimp only); rw [ht]; exact hP, vp_updL fo (nI 0).toNatClampNeg (ys k).toInt64, if_pos (by decide), by rw [ht]; exact hPo⟩⟩, hS.F ht⟩) hS.2.2 dL_paymentState_16
section
variable {p : Program} {e : Env} {R : Room} {s : State} {m : MethodId} {args : Array Value} {below : List Frame} {meth : Method} {c : Code} {H : Heap} {locs : List Loc} {cells slots : Nat} {Q : State → Prop} {cc : ByteArray} {pc : Nat} {ls : Array Slot} {rest : List Value} {own : String} {index nL : Nat} {Ts : List Cond} {H0 : Heap} {A0 : Nat → Prop}
theorem kh_paymentState_ok (l : Launch) {dC : Nat → ClassId} {dI : Nat → Nat → Nat} {cI cZ cJ : ClassId} {ad : Nat → Nat} {o9 : Nat} {sm fe ex dy : Int32} {gp gc op gr st dl wo : Nat → Int32} {n : Nat} {yc ya ys yd : Nat → Int32} {q : Nat} {zc zp zr zs zf : Nat → Int32} {z : Nat} {zm zt : Int64} {fo : Nat → Int64} {k : Nat} (hq : q ≤ 100) (hk : k < q) (hx : p.tables.exec = Jvm.exec) (hb : c.code = cc) (hml : c.maxLocals = nL) (hown : s.vm.findClass own = some m.cls) (hts : ∀ w ∈ Ts, w.before args s = true) (hK : va_K (dC, dI) vwCl [(cI, .int), (cZ, .boolean)] s) (hP : va_P (dC, dI) vwCl (wC cI cZ ad sm fe ex dy gp gc op gr st dl wo n yc ya ys yd q zc zp zr zs zf z zm zt) H) (hg9 : GoodIn Ts (va_wsS own index yL_paymentState wsL_paymentState)) (hR9 : 3 + 1 ≤ R.frames ∧ 8 + (4 + 11) + 63 ≤ R.locals) (hc9 : cells + 0 ≤ R.cells ∧ slots + 0 ≤ R.slots) (hl9 : ls.size = nL) (hw9 : (rest.map fun v => v.category).sum ≤ 8) (hdg : decode cc pc = .ok (.invokestatic index, 3)) (hI : iwC ad) (ho : ¬ awC ad o9) (hPo : va_P (dC, dI) vwCl [(o9, .inl (cJ, 1, .inr (.inl fo)))] H) (hKJ : va_K (dC, dI) vwCl [(cJ, .long)] s) (hA : ∀ x, awC ad x ∨ x = o9 → A0 x) (hS : va_S A0 H0 H locs) (kk : ∀ (u9 : Unit) (H1 : Heap) (locs1 : List Loc), va_P (dC, dI) vwCl (wC cI cZ ad sm fe ex dy gp gc op gr st dl wo n yc ya ys yd q zc zp zr zs zf z zm zt) H1 → ∀ f9 : Nat → Int64, f9 0 = (ys k).toInt64 → va_P (dC, dI) vwCl [(o9, .inl (cJ, 1, .inr (.inl f9)))] H1 → va_S A0 H0 H1 locs1 → H.size ≤ H1.size → (∀ q : Nat, q < H.size → ¬ (awC ad q ∨ q = o9) → H1[q]? = H[q]?) → W p l e R s m args below meth c H1 locs1 cells slots Q (F0 m (pc + 3) ls (.int (nI 0) :: rest))) : W p l e R s m args below meth c H locs cells slots Q (F0 m pc ls (.ref o9 :: .int (nI k) :: .ref (ad 0) :: rest)) := va_calli (vx_runSW (As := [.ref (ad 0), .int (nI k), .ref o9]) (rest := rest) ⟨hx, hb, hml, hown, hts⟩ (h_paymentState_ok (cJ := cJ) (o9 := o9) (fo := fo) (dC := dC) (dI := dI) (cI := cI) (cZ := cZ) (ad := ad) (sm := sm) (fe := fe) (ex := ex) (dy := dy) (gp := gp) (gc := gc) (op := op) (gr := gr) (st := st) (dl := dl) (wo := wo) (n := n) (yc := yc) (ya := ya) (ys := ys) (yd := yd) (q := q) (zc := zc) (zp := zp) (zr := zr) (zs := zs) (zf := zf) (z := z) (zm := zm) (zt := zt) (k := k) l hI ho hq hk) (vx_cwSW 3 hts hg9 rfl rfl rfl (by decide +kernel) hR9) ⟨fun a U g mk q => ⟨q.1, q.2.1, va_K.moved (u := U) (U := U.calling g mk a) (Vm.Alike.refl U.vm) q.2.2.1, q.2.2.2.1, va_K.moved (u := U) (U := U.calling g mk a) (Vm.Alike.refl U.vm) q.2.2.2.2⟩, fun U hU hW => ⟨rfl, by rw [hU]; exact hP, va_K.moved hW.alike hK, by rw [hU]; exact hPo, va_K.moved hW.alike hKJ⟩⟩ rfl rfl hl9 rfl (lv_room hw9) hdg hc9) hS (fun q _ h => hA q h) hA (fun r u t H1 locs1 ht _ hu hB hz hk hS1 => by subst hu; obtain ⟨hB1, f9, hf9, hB2⟩ := hB; rw [ht] at hB1 hB2; exact kk u H1 locs1 hB1 f9 hf9 hB2 hS1 hz hk)
end
