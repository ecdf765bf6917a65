/-! the class's places, and what they hold of the claims -/
def lg (L : List Nat) (i : Nat) : Nat := L.getD i 0
theorem lg_mem {L : List Nat} {i : Nat} (h : i < L.length) : lg L i ∈ L := getD_mem h
theorem lg_get {L : List Nat} {i : Nat} (h : i < L.length) : lg L i = L[i] := by unfold lg; simp [h]
theorem mem_lg {L : List Nat} {k : Nat} (h : k ∈ L) : ∃ i, i < L.length ∧ lg L i = k := by
  obtain ⟨i, hi, e⟩ := List.getElem_of_mem h
  exact ⟨i, hi, by rw [lg_get hi, e]⟩
def repL (p r : Nat → Nat) (L : List Nat) (zc zp zr : Nat → Int32) (z : Nat) : Prop := z = L.length ∧ ∀ i, i < z → zc i = nI (lg L i) ∧ zp i = nI (p (lg L i)) ∧ zr i = nI (r (lg L i))
def flA (L : List Nat) (A : Nat → Bool) (zf : Nat → Int32) (z : Nat) : Prop := ∀ i, i < z → zf i = nI (if A (lg L i) = true then 0 else 1)
theorem repL.b {p r : Nat → Nat} {L : List Nat} {zc zp zr : Nat → Int32} {z i : Nat} (h : repL p r L zc zp zr z) (hb : bndL p r L) (hi : i < z) : lg L i < 24 ∧ 1 ≤ p (lg L i) ∧ p (lg L i) ≤ 100 ∧ r (lg L i) ≤ 1000000 := hb.2 _ (lg_mem (by rw [← h.1]; exact hi))
theorem repL.z {p r : Nat → Nat} {L : List Nat} {zc zp zr : Nat → Int32} {z : Nat} (h : repL p r L zc zp zr z) (hb : bndL p r L) : z ≤ 24 := by rw [h.1]; exact hb.1
theorem zz_ifn0 {b : Bool} (h : (if b = true then 0 else 1) = 0) : b = true := by cases b <;> simp_all
theorem zz_ifn1 {b : Bool} (h : (if b = true then 0 else 1) ≠ 0) : b = false := by cases b <;> simp_all
theorem zz_pm {a b x y : Nat} (h1 : a ≤ x) (h2 : b ≤ y) (h : x * y < 2 ^ 63) : a * b < 2 ^ 63 := Nat.lt_of_le_of_lt (Nat.mul_le_mul h1 h2) h
theorem zz_lS {x : Int64} {a b : Nat} (h : x = lN a) (hb : b ≤ a) : x - lN b = lN (a - b) := by rw [h]; exact lN_sub hb
theorem upd_at (f : Nat → Int32) (k : Nat) (x : Int32) : upd f k x k = x := pk_us
def cntB (A : Nat → Bool) (k : Nat) (L : List Nat) : Nat := wsum (fun _ => 1) (fun j => A j && decide (j < k)) L
theorem cntB_s {A : Nat → Bool} {k i : Nat} {L : List Nat} (h : i < L.length) : cntB A k (L.take (i + 1)) = cntB A k (L.take i) + (if (A (lg L i) && decide (lg L i < k)) = true then 1 else 0) := wsum_take _ _ _ h
theorem cntB_le (A : Nat → Bool) (k : Nat) (L : List Nat) : cntB A k L ≤ L.length := wsum_len _ L
theorem take_all {L : List Nat} {i z : Nat} (h : z = L.length) (hi : z ≤ i) : L.take i = L := List.take_of_length_le (by omega)

theorem zz_min0 {L : List Nat} {sf : Nat → Nat} {i : Nat} (h : i = 0) : ∀ j, j < i + 1 → sf (lg L i) < sf (lg L j) ∨ (sf (lg L i) = sf (lg L j) ∧ lg L j ≤ lg L i) := by
  intro j hj
  have e : j = i := by omega
  subst e
  exact Or.inr ⟨rfl, Nat.le_refl _⟩
theorem zz_minN {L : List Nat} {sf : Nat → Nat} {i v : Nat} (h3 : ∀ j, j < i → sf (lg L v) < sf (lg L j) ∨ (sf (lg L v) = sf (lg L j) ∧ lg L j ≤ lg L v)) (h : sf (lg L i) < sf (lg L v) ∨ (sf (lg L i) = sf (lg L v) ∧ lg L v < lg L i)) :
    ∀ j, j < i + 1 → sf (lg L i) < sf (lg L j) ∨ (sf (lg L i) = sf (lg L j) ∧ lg L j ≤ lg L i) := by
  intro j hj
  rcases Nat.lt_or_ge j i with q | q
  · have := h3 j q; omega
  · have e : j = i := by omega
    subst e
    exact Or.inr ⟨rfl, Nat.le_refl _⟩
theorem zz_minO {L : List Nat} {sf : Nat → Nat} {i v : Nat} (h3 : ∀ j, j < i → sf (lg L v) < sf (lg L j) ∨ (sf (lg L v) = sf (lg L j) ∧ lg L j ≤ lg L v)) (h : sf (lg L v) < sf (lg L i) ∨ (sf (lg L v) = sf (lg L i) ∧ lg L i ≤ lg L v)) :
    ∀ j, j < i + 1 → sf (lg L v) < sf (lg L j) ∨ (sf (lg L v) = sf (lg L j) ∧ lg L j ≤ lg L v) := lt_s h3 h
theorem zz_mine {L : List Nat} {sf : Nat → Nat} {i z : Nat} {f : Int32} (h : z ≤ i) (hi : i ≤ z) (hf : (i = 0 ∧ f = (-1)) ∨ ∃ v, v < i ∧ f = nI v ∧ ∀ j, j < i → sf (lg L v) < sf (lg L j) ∨ (sf (lg L v) = sf (lg L j) ∧ lg L j ≤ lg L v)) :
    (z = 0 ∧ f = (-1)) ∨ ∃ m, m < z ∧ f = nI m ∧ ∀ j, j < z → sf (lg L m) < sf (lg L j) ∨ (sf (lg L m) = sf (lg L j) ∧ lg L j ≤ lg L m) := by
  have e : i = z := by omega
  subst e
  exact hf

set_option maxHeartbeats 4000000 in
set_option maxRecDepth 100000 in
theorem c_X2_clear (l : Launch) {dC : Nat → ClassId} {dI : Nat → Nat → Nat} {cI cZ : ClassId} {ad : Nat → Nat} {sm fe ex dy : Int32} {gp gc op gr st dl wo : Nat → Int32} {n : Nat} {yc ya ys yd : Nat → Int32} {q : Nat} {zc zp zr zs zf : Nat → Int32} {z : Nat} {zm zt : Int64}  (hI : iwC ad)  : Met l yX2_clear wsX2_clear { frames := 0, cells := 0, slots := 0, locals := 0 } (va_Pc [.ref (ad 14)] (fun U => va_P (dC, dI) vwCl (wC cI cZ ad sm fe ex dy gp gc op gr st dl wo n yc ya ys yd q zc zp zr zs zf z zm zt) U.heap ∧ va_K (dC, dI) vwCl [(cI, .int), (cZ, .boolean)] U)) (va_Qv (fun _ : Unit => True) (fun _ t => va_P (dC, dI) vwCl (wC cI cZ ad sm fe ex dy gp gc op gr st dl wo n yc ya ys yd q zc zp zr zs zf 0 zm zt) t.heap) (awC ad)) 0 0 (awC ad) := by
  refine Met.ofW (cc := cX2_clear) (maxL := 1) (ret := none) (by decide) rfl ?_
  intro p e s m args below meth c s₁ B hml hv
  obtain ⟨rfl, hP, hK⟩ := hv
  have hx := B.exec
  have hb := B.bytes
  have hr := B.returns
  have hts := atoms_spec (ws := wsX2_clear) B.pre
  have hown : s.vm.findClass RX2 = some m.cls := findClass_of_methodNamed B.named
  have hlocks := B.notSynchronized
  have hS : va_S (awC ad) s.heap s.heap [] := va_S.rf
  have hl := lv_entry ([.ref (ad 14)]) (n := 1) (Nat.le_of_ble_eq_true rfl)
  rw [lg_entry_eq]
  generalize (lg_sl ([.ref (ad 14)]) ++ List.replicate (1 - (lg_sl ([.ref (ad 14)])).length) Slot.unset).toArray = ls at hl ⊢
  have hl : lv_has ls 1 [(0, .ref (ad 14))] := hl
  have hiX2 : ∀ w ∈ wsX20, w ∈ wsX2_clear := by decide +kernel
  have hf28 := hts (.fieldLink RX2 28 "SettlementFund$Sharing" "size" "I") (by decide +kernel)
  refine lv_aload_n hx hb dX2_clear_0 rfl (lv_at hl 0 rfl) ?_
  refine lv_iconst (v := nI 0) hx hb dX2_clear_1 (by decide) ?_
  refine uC_14_5 hx hb hts hiX2 hown hK hP hf28 hI (fun _ h => h) hS dX2_clear_2 (fun H locs hP hS => ?_)
  exact W.vret hx hb hr (fun t ht hW => ⟨⟨(), rfl, trivial, by (try dsimp only); rw [ht]; exact hP⟩, hS.F ht⟩) hS.2.2 dX2_clear_5
section
variable {p : Program} {e : Env} {R : Room} {s : State} {m : MethodId} {args : Array Value} {below : List Frame} {meth : Method} {c : Code} {H : Heap} {locs : List Loc} {cells slots : Nat} {Q : State → Prop} {cc : ByteArray} {pc : Nat} {ls : Array Slot} {rest : List Value} {own : String} {index nL : Nat} {Ts : List Cond} {H0 : Heap} {A0 : Nat → Prop}
theorem k_X2_clear (l : Launch) {dC : Nat → ClassId} {dI : Nat → Nat → Nat} {cI cZ : ClassId} {ad : Nat → Nat} {sm fe ex dy : Int32} {gp gc op gr st dl wo : Nat → Int32} {n : Nat} {yc ya ys yd : Nat → Int32} {q : Nat} {zc zp zr zs zf : Nat → Int32} {z : Nat} {zm zt : Int64}   (hx : p.tables.exec = Jvm.exec) (hb : c.code = cc) (hml : c.maxLocals = nL) (hown : s.vm.findClass own = some m.cls) (hts : ∀ w ∈ Ts, w.before args s = true) (hK : va_K (dC, dI) vwCl [(cI, .int), (cZ, .boolean)] s) (hP : va_P (dC, dI) vwCl (wC cI cZ ad sm fe ex dy gp gc op gr st dl wo n yc ya ys yd q zc zp zr zs zf z zm zt) H) (hg9 : GoodIn Ts (wsV own index RX2 yX2_clear wsX2_clear)) (hR9 : 0 + 1 ≤ R.frames ∧ 8 + (1 + 11) + 0 ≤ R.locals) (hc9 : cells ≤ R.cells ∧ slots ≤ R.slots) (hl9 : ls.size = nL) (hw9 : (rest.map fun v => v.category).sum ≤ 8) (hdg : decode cc pc = .ok (.invokevirtual index, 3)) (hI : iwC ad) (hA : ∀ x, awC ad x → A0 x) (hS : va_S A0 H0 H locs) (kk : ∀ (H1 : Heap) (locs1 : List Loc), va_P (dC, dI) vwCl (wC cI cZ ad sm fe ex dy gp gc op gr st dl wo n yc ya ys yd q zc zp zr zs zf 0 zm zt) H1 → va_S A0 H0 H1 locs1 → (∀ q : Nat, q < H.size → ¬ awC ad q → H1[q]? = H[q]?) → W p l e R s m args below meth c H1 locs1 cells slots Q (F0 m (pc + 3) ls (rest))) : W p l e R s m args below meth c H locs cells slots Q (F0 m pc ls (.ref (ad 14) :: rest)) := va_callv (va_runV (As := []) (rest := rest) ⟨hx, hb, hml, hown, hts⟩ (c_X2_clear (dC := dC) (dI := dI) (cI := cI) (cZ := cZ) (ad := ad) (sm := sm) (fe := fe) (ex := ex) (dy := dy) (gp := gp) (gc := gc) (op := op) (gr := gr) (st := st) (dl := dl) (wo := wo) (n := n) (yc := yc) (ya := ya) (ys := ys) (yd := yd) (q := q) (zc := zc) (zp := zp) (zr := zr) (zs := zs) (zf := zf) (z := z) (zm := zm) (zt := zt) l hI ) (cwV 0 hts hg9 rfl rfl rfl (by decide +kernel) hR9) ⟨fun a U g mk q => ⟨q.1, q.2.1, va_K.moved (u := U) (U := U.calling g mk a) (Vm.Alike.refl U.vm) q.2.2⟩, rC_14 hK hP, fun U hU hW => ⟨rfl, by rw [hU]; exact hP, va_K.moved hW.alike hK⟩⟩ rfl rfl hl9 rfl (lv_room hw9) hdg hc9) hS (fun q _ h => hA q h) hA (fun u t H1 locs1 ht _ hu hB hz hk hS1 => kk H1 locs1 (by rw [ht] at hB; exact hB) hS1 hk)
end
set_option maxHeartbeats 4000000 in
set_option maxRecDepth 100000 in
theorem c_X2_add (l : Launch) {dC : Nat → ClassId} {dI : Nat → Nat → Nat} {cI cZ : ClassId} {ad : Nat → Nat} {sm fe ex dy : Int32} {gp gc op gr st dl wo : Nat → Int32} {n : Nat} {yc ya ys yd : Nat → Int32} {q : Nat} {zc zp zr zs zf : Nat → Int32} {z : Nat} {zm zt : Int64} {x1 : Int32} {x2 : Int32} {x3 : Int32} (hI : iwC ad) (hz : z < 24) : Met l yX2_add wsX2_add { frames := 0, cells := 0, slots := 0, locals := 0 } (va_Pc [.ref (ad 14), .int x1, .int x2, .int x3] (fun U => va_P (dC, dI) vwCl (wC cI cZ ad sm fe ex dy gp gc op gr st dl wo n yc ya ys yd q zc zp zr zs zf z zm zt) U.heap ∧ va_K (dC, dI) vwCl [(cI, .int), (cZ, .boolean)] U)) (va_Qv (fun _ : Unit => True) (fun _ t => va_P (dC, dI) vwCl (wC cI cZ ad sm fe ex dy gp gc op gr st dl wo n yc ya ys yd q (upd zc z x1) (upd zp z x2) (upd zr z x3) zs zf (z + 1) zm zt) t.heap) (awC ad)) 0 0 (awC ad) := by
  refine Met.ofW (cc := cX2_add) (maxL := 4) (ret := none) (by decide) rfl ?_
  intro p e s m args below meth c s₁ B hml hv
  obtain ⟨rfl, hP, hK⟩ := hv
  have hx := B.exec
  have hb := B.bytes
  have hr := B.returns
  have hts := atoms_spec (ws := wsX2_add) B.pre
  have hown : s.vm.findClass RX2 = some m.cls := findClass_of_methodNamed B.named
  have hlocks := B.notSynchronized
  have hS : va_S (awC ad) s.heap s.heap [] := va_S.rf
  have hl := lv_entry ([.ref (ad 14), .int x1, .int x2, .int x3]) (n := 4) (Nat.le_of_ble_eq_true rfl)
  rw [lg_entry_eq]
  generalize (lg_sl ([.ref (ad 14), .int x1, .int x2, .int x3]) ++ List.replicate (4 - (lg_sl ([.ref (ad 14), .int x1, .int x2, .int x3])).length) Slot.unset).toArray = ls at hl ⊢
  have hl : lv_has ls 4 [(0, .ref (ad 14)), (1, .int x1), (2, .int x2), (3, .int x3)] := hl
  have hiX2 : ∀ w ∈ wsX20, w ∈ wsX2_add := by decide +kernel
  have hf28 := hts (.fieldLink RX2 28 "SettlementFund$Sharing" "size" "I") (by decide +kernel)
  have hf9 := hts (.fieldLink RX2 9 "SettlementFund$Sharing" "claim" "[I") (by decide +kernel)
  have hf15 := hts (.fieldLink RX2 15 "SettlementFund$Sharing" "points" "[I") (by decide +kernel)
  have hf18 := hts (.fieldLink RX2 18 "SettlementFund$Sharing" "room" "[I") (by decide +kernel)
  refine lv_aload_n hx hb dX2_add_0 rfl (lv_at hl 0 rfl) ?_
  refine gC_14_5 hx hb hts hiX2 hown hK hP hf28 dX2_add_1 ?_
  refine lv_bipush (v := nI 24) hx hb dX2_add_4 (by decide) ?_
  refine zb_ge (tgt := 49) hx hb (by omega) (by decide) dX2_add_6 (by decide) (fun c_6 => (show False by omega).elim) (fun c_6 => ?_)
  refine lv_aload_n hx hb dX2_add_9 rfl (lv_at hl 0 rfl) ?_
  refine gC_14_0 hx hb hts hiX2 hown hK hP hf9 dX2_add_10 ?_
  refine lv_aload_n hx hb dX2_add_13 rfl (lv_at hl 0 rfl) ?_
  refine gC_14_5 hx hb hts hiX2 hown hK hP hf28 dX2_add_14 ?_
  refine lv_iload_n hx hb dX2_add_17 rfl (lv_at hl 1 rfl) ?_
  refine sC_15 hx hb hK hP hI (fun _ h => h) hS (by omega) dX2_add_18 (fun H locs hP hS => ?_)
  refine lv_aload_n hx hb dX2_add_19 rfl (lv_at hl 0 rfl) ?_
  refine gC_14_1 hx hb hts hiX2 hown hK hP hf15 dX2_add_20 ?_
  refine lv_aload_n hx hb dX2_add_23 rfl (lv_at hl 0 rfl) ?_
  refine gC_14_5 hx hb hts hiX2 hown hK hP hf28 dX2_add_24 ?_
  refine lv_iload_n hx hb dX2_add_27 rfl (lv_at hl 2 rfl) ?_
  refine sC_16 hx hb hK hP hI (fun _ h => h) hS (by omega) dX2_add_28 (fun H locs hP hS => ?_)
  refine lv_aload_n hx hb dX2_add_29 rfl (lv_at hl 0 rfl) ?_
  refine gC_14_2 hx hb hts hiX2 hown hK hP hf18 dX2_add_30 ?_
  refine lv_aload_n hx hb dX2_add_33 rfl (lv_at hl 0 rfl) ?_
  refine gC_14_5 hx hb hts hiX2 hown hK hP hf28 dX2_add_34 ?_
  refine lv_iload_n hx hb dX2_add_37 rfl (lv_at hl 3 rfl) ?_
  refine sC_17 hx hb hK hP hI (fun _ h => h) hS (by omega) dX2_add_38 (fun H locs hP hS => ?_)
  refine lv_aload_n hx hb dX2_add_39 rfl (lv_at hl 0 rfl) ?_
  refine lv_dup hx hb dX2_add_40 rfl ?_
  refine gC_14_5 hx hb hts hiX2 hown hK hP hf28 dX2_add_41 ?_
  refine lv_iconst (v := nI 1) hx hb dX2_add_44 (by decide) ?_
  refine lv_iadd hx hb dX2_add_45 ?_
  refine zt_i (y := nI (z + 1)) (nI_add _ _) ?_
  refine uC_14_5 hx hb hts hiX2 hown hK hP hf28 hI (fun _ h => h) hS dX2_add_46 (fun H locs hP hS => ?_)
  exact W.vret hx hb hr (fun t ht hW => ⟨⟨(), rfl, trivial, by (try dsimp only); rw [ht]; exact hP⟩, hS.F ht⟩) hS.2.2 dX2_add_49
section
variable {p : Program} {e : Env} {R : Room} {s : State} {m : MethodId} {args : Array Value} {below : List Frame} {meth : Method} {c : Code} {H : Heap} {locs : List Loc} {cells slots : Nat} {Q : State → Prop} {cc : ByteArray} {pc : Nat} {ls : Array Slot} {rest : List Value} {own : String} {index nL : Nat} {Ts : List Cond} {H0 : Heap} {A0 : Nat → Prop}
theorem k_X2_add (l : Launch) {dC : Nat → ClassId} {dI : Nat → Nat → Nat} {cI cZ : ClassId} {ad : Nat → Nat} {sm fe ex dy : Int32} {gp gc op gr st dl wo : Nat → Int32} {n : Nat} {yc ya ys yd : Nat → Int32} {q : Nat} {zc zp zr zs zf : Nat → Int32} {z : Nat} {zm zt : Int64} {x1 : Int32} {x2 : Int32} {x3 : Int32} (hz : z < 24) (hx : p.tables.exec = Jvm.exec) (hb : c.code = cc) (hml : c.maxLocals = nL) (hown : s.vm.findClass own = some m.cls) (hts : ∀ w ∈ Ts, w.before args s = true) (hK : va_K (dC, dI) vwCl [(cI, .int), (cZ, .boolean)] s) (hP : va_P (dC, dI) vwCl (wC cI cZ ad sm fe ex dy gp gc op gr st dl wo n yc ya ys yd q zc zp zr zs zf z zm zt) H) (hg9 : GoodIn Ts (wsV own index RX2 yX2_add wsX2_add)) (hR9 : 0 + 1 ≤ R.frames ∧ 8 + (4 + 11) + 0 ≤ R.locals) (hc9 : cells ≤ R.cells ∧ slots ≤ R.slots) (hl9 : ls.size = nL) (hw9 : (rest.map fun v => v.category).sum ≤ 8) (hdg : decode cc pc = .ok (.invokevirtual index, 3)) (hI : iwC ad) (hA : ∀ x, awC ad x → A0 x) (hS : va_S A0 H0 H locs) (kk : ∀ (H1 : Heap) (locs1 : List Loc), va_P (dC, dI) vwCl (wC cI cZ ad sm fe ex dy gp gc op gr st dl wo n yc ya ys yd q (upd zc z x1) (upd zp z x2) (upd zr z x3) zs zf (z + 1) zm zt) H1 → va_S A0 H0 H1 locs1 → (∀ q : Nat, q < H.size → ¬ awC ad q → H1[q]? = H[q]?) → W p l e R s m args below meth c H1 locs1 cells slots Q (F0 m (pc + 3) ls (rest))) : W p l e R s m args below meth c H locs cells slots Q (F0 m pc ls (.int x3 :: .int x2 :: .int x1 :: .ref (ad 14) :: rest)) := va_callv (va_runV (As := [.int x1, .int x2, .int x3]) (rest := rest) ⟨hx, hb, hml, hown, hts⟩ (c_X2_add (dC := dC) (dI := dI) (cI := cI) (cZ := cZ) (ad := ad) (sm := sm) (fe := fe) (ex := ex) (dy := dy) (gp := gp) (gc := gc) (op := op) (gr := gr) (st := st) (dl := dl) (wo := wo) (n := n) (yc := yc) (ya := ya) (ys := ys) (yd := yd) (q := q) (zc := zc) (zp := zp) (zr := zr) (zs := zs) (zf := zf) (z := z) (zm := zm) (zt := zt) (x1 := x1) (x2 := x2) (x3 := x3) l hI hz) (cwV 3 hts hg9 rfl rfl rfl (by decide +kernel) hR9) ⟨fun a U g mk q => ⟨q.1, q.2.1, va_K.moved (u := U) (U := U.calling g mk a) (Vm.Alike.refl U.vm) q.2.2⟩, rC_14 hK hP, fun U hU hW => ⟨rfl, by rw [hU]; exact hP, va_K.moved hW.alike hK⟩⟩ rfl rfl hl9 rfl (lv_room hw9) hdg hc9) hS (fun q _ h => hA q h) hA (fun u t H1 locs1 ht _ hu hB hz hk hS1 => kk H1 locs1 (by rw [ht] at hB; exact hB) hS1 hk)
end
set_option maxHeartbeats 4000000 in
set_option maxRecDepth 100000 in
theorem c_X2_copyPlace (l : Launch) {dC : Nat → ClassId} {dI : Nat → Nat → Nat} {cI cZ : ClassId} {ad : Nat → Nat} {sm fe ex dy : Int32} {gp gc op gr st dl wo : Nat → Int32} {n : Nat} {yc ya ys yd : Nat → Int32} {q : Nat} {zc zp zr zs zf : Nat → Int32} {z : Nat} {zm zt : Int64} {i1 : Nat} {i2 : Nat} (hI : iwC ad) (hi1 : i1 < 24) (hi2 : i2 < 24) : Met l yX2_copyPlace wsX2_copyPlace { frames := 0, cells := 0, slots := 0, locals := 0 } (va_Pc [.ref (ad 14), .int (nI i1), .int (nI i2)] (fun U => va_P (dC, dI) vwCl (wC cI cZ ad sm fe ex dy gp gc op gr st dl wo n yc ya ys yd q zc zp zr zs zf z zm zt) U.heap ∧ va_K (dC, dI) vwCl [(cI, .int), (cZ, .boolean)] U)) (va_Qv (fun _ : Unit => True) (fun _ t => va_P (dC, dI) vwCl (wC cI cZ ad sm fe ex dy gp gc op gr st dl wo n yc ya ys yd q (upd zc i2 (zc i1)) (upd zp i2 (zp i1)) (upd zr i2 (zr i1)) zs zf z zm zt) t.heap) (awC ad)) 0 0 (awC ad) := by
  refine Met.ofW (cc := cX2_copyPlace) (maxL := 3) (ret := none) (by decide) rfl ?_
  intro p e s m args below meth c s₁ B hml hv
  obtain ⟨rfl, hP, hK⟩ := hv
  have hx := B.exec
  have hb := B.bytes
  have hr := B.returns
  have hts := atoms_spec (ws := wsX2_copyPlace) B.pre
  have hown : s.vm.findClass RX2 = some m.cls := findClass_of_methodNamed B.named
  have hlocks := B.notSynchronized
  have hS : va_S (awC ad) s.heap s.heap [] := va_S.rf
  have hl := lv_entry ([.ref (ad 14), .int (nI i1), .int (nI i2)]) (n := 3) (Nat.le_of_ble_eq_true rfl)
  rw [lg_entry_eq]
  generalize (lg_sl ([.ref (ad 14), .int (nI i1), .int (nI i2)]) ++ List.replicate (3 - (lg_sl ([.ref (ad 14), .int (nI i1), .int (nI i2)])).length) Slot.unset).toArray = ls at hl ⊢
  have hl : lv_has ls 3 [(0, .ref (ad 14)), (1, .int (nI i1)), (2, .int (nI i2))] := hl
  have hiX2 : ∀ w ∈ wsX20, w ∈ wsX2_copyPlace := by decide +kernel
  have hf9 := hts (.fieldLink RX2 9 "SettlementFund$Sharing" "claim" "[I") (by decide +kernel)
  have hf15 := hts (.fieldLink RX2 15 "SettlementFund$Sharing" "points" "[I") (by decide +kernel)
  have hf18 := hts (.fieldLink RX2 18 "SettlementFund$Sharing" "room" "[I") (by decide +kernel)
  refine lv_aload_n hx hb dX2_copyPlace_0 rfl (lv_at hl 0 rfl) ?_
  refine gC_14_0 hx hb hts hiX2 hown hK hP hf9 dX2_copyPlace_1 ?_
  refine lv_iload_n hx hb dX2_copyPlace_4 rfl (lv_at hl 2 rfl) ?_
  refine lv_aload_n hx hb dX2_copyPlace_5 rfl (lv_at hl 0 rfl) ?_
  refine gC_14_0 hx hb hts hiX2 hown hK hP hf9 dX2_copyPlace_6 ?_
  refine lv_iload_n hx hb dX2_copyPlace_9 rfl (lv_at hl 1 rfl) ?_
  refine lC_15 hx hb hK hP (by omega) dX2_copyPlace_10 ?_
  refine sC_15 hx hb hK hP hI (fun _ h => h) hS (by omega) dX2_copyPlace_11 (fun H locs hP hS => ?_)
  refine lv_aload_n hx hb dX2_copyPlace_12 rfl (lv_at hl 0 rfl) ?_
  refine gC_14_1 hx hb hts hiX2 hown hK hP hf15 dX2_copyPlace_13 ?_
  refine lv_iload_n hx hb dX2_copyPlace_16 rfl (lv_at hl 2 rfl) ?_
  refine lv_aload_n hx hb dX2_copyPlace_17 rfl (lv_at hl 0 rfl) ?_
  refine gC_14_1 hx hb hts hiX2 hown hK hP hf15 dX2_copyPlace_18 ?_
  refine lv_iload_n hx hb dX2_copyPlace_21 rfl (lv_at hl 1 rfl) ?_
  refine lC_16 hx hb hK hP (by omega) dX2_copyPlace_22 ?_
  refine sC_16 hx hb hK hP hI (fun _ h => h) hS (by omega) dX2_copyPlace_23 (fun H locs hP hS => ?_)
  refine lv_aload_n hx hb dX2_copyPlace_24 rfl (lv_at hl 0 rfl) ?_
  refine gC_14_2 hx hb hts hiX2 hown hK hP hf18 dX2_copyPlace_25 ?_
  refine lv_iload_n hx hb dX2_copyPlace_28 rfl (lv_at hl 2 rfl) ?_
  refine lv_aload_n hx hb dX2_copyPlace_29 rfl (lv_at hl 0 rfl) ?_
  refine gC_14_2 hx hb hts hiX2 hown hK hP hf18 dX2_copyPlace_30 ?_
  refine lv_iload_n hx hb dX2_copyPlace_33 rfl (lv_at hl 1 rfl) ?_
  refine lC_17 hx hb hK hP (by omega) dX2_copyPlace_34 ?_
  refine sC_17 hx hb hK hP hI (fun _ h => h) hS (by omega) dX2_copyPlace_35 (fun H locs hP hS => ?_)
  exact W.vret hx hb hr (fun t ht hW => ⟨⟨(), rfl, trivial, by (try dsimp only); rw [ht]; exact hP⟩, hS.F ht⟩) hS.2.2 dX2_copyPlace_36
section
variable {p : Program} {e : Env} {R : Room} {s : State} {m : MethodId} {args : Array Value} {below : List Frame} {meth : Method} {c : Code} {H : Heap} {locs : List Loc} {cells slots : Nat} {Q : State → Prop} {cc : ByteArray} {pc : Nat} {ls : Array Slot} {rest : List Value} {own : String} {index nL : Nat} {Ts : List Cond} {H0 : Heap} {A0 : Nat → Prop}
theorem k_X2_copyPlace (l : Launch) {dC : Nat → ClassId} {dI : Nat → Nat → Nat} {cI cZ : ClassId} {ad : Nat → Nat} {sm fe ex dy : Int32} {gp gc op gr st dl wo : Nat → Int32} {n : Nat} {yc ya ys yd : Nat → Int32} {q : Nat} {zc zp zr zs zf : Nat → Int32} {z : Nat} {zm zt : Int64} {i1 : Nat} {i2 : Nat} (hi1 : i1 < 24) (hi2 : i2 < 24) (hx : p.tables.exec = Jvm.exec) (hb : c.code = cc) (hml : c.maxLocals = nL) (hown : s.vm.findClass own = some m.cls) (hts : ∀ w ∈ Ts, w.before args s = true) (hK : va_K (dC, dI) vwCl [(cI, .int), (cZ, .boolean)] s) (hP : va_P (dC, dI) vwCl (wC cI cZ ad sm fe ex dy gp gc op gr st dl wo n yc ya ys yd q zc zp zr zs zf z zm zt) H) (hg9 : GoodIn Ts (wsV own index RX2 yX2_copyPlace wsX2_copyPlace)) (hR9 : 0 + 1 ≤ R.frames ∧ 8 + (3 + 11) + 0 ≤ R.locals) (hc9 : cells ≤ R.cells ∧ slots ≤ R.slots) (hl9 : ls.size = nL) (hw9 : (rest.map fun v => v.category).sum ≤ 8) (hdg : decode cc pc = .ok (.invokevirtual index, 3)) (hI : iwC ad) (hA : ∀ x, awC ad x → A0 x) (hS : va_S A0 H0 H locs) (kk : ∀ (H1 : Heap) (locs1 : List Loc), va_P (dC, dI) vwCl (wC cI cZ ad sm fe ex dy gp gc op gr st dl wo n yc ya ys yd q (upd zc i2 (zc i1)) (upd zp i2 (zp i1)) (upd zr i2 (zr i1)) zs zf z zm zt) H1 → va_S A0 H0 H1 locs1 → (∀ q : Nat, q < H.size → ¬ awC ad q → H1[q]? = H[q]?) → W p l e R s m args below meth c H1 locs1 cells slots Q (F0 m (pc + 3) ls (rest))) : W p l e R s m args below meth c H locs cells slots Q (F0 m pc ls (.int (nI i2) :: .int (nI i1) :: .ref (ad 14) :: rest)) := va_callv (va_runV (As := [.int (nI i1), .int (nI i2)]) (rest := rest) ⟨hx, hb, hml, hown, hts⟩ (c_X2_copyPlace (dC := dC) (dI := dI) (cI := cI) (cZ := cZ) (ad := ad) (sm := sm) (fe := fe) (ex := ex) (dy := dy) (gp := gp) (gc := gc) (op := op) (gr := gr) (st := st) (dl := dl) (wo := wo) (n := n) (yc := yc) (ya := ya) (ys := ys) (yd := yd) (q := q) (zc := zc) (zp := zp) (zr := zr) (zs := zs) (zf := zf) (z := z) (zm := zm) (zt := zt) (i1 := i1) (i2 := i2) l hI hi1 hi2) (cwV 2 hts hg9 rfl rfl rfl (by decide +kernel) hR9) ⟨fun a U g mk q => ⟨q.1, q.2.1, va_K.moved (u := U) (U := U.calling g mk a) (Vm.Alike.refl U.vm) q.2.2⟩, rC_14 hK hP, fun U hU hW => ⟨rfl, by rw [hU]; exact hP, va_K.moved hW.alike hK⟩⟩ rfl rfl hl9 rfl (lv_room hw9) hdg hc9) hS (fun q _ h => hA q h) hA (fun u t H1 locs1 ht _ hu hB hz hk hS1 => kk H1 locs1 (by rw [ht] at hB; exact hB) hS1 hk)
end
set_option maxHeartbeats 4000000 in
set_option maxRecDepth 100000 in
theorem c_X2_swapPlaces (l : Launch) {dC : Nat → ClassId} {dI : Nat → Nat → Nat} {cI cZ : ClassId} {ad : Nat → Nat} {sm fe ex dy : Int32} {gp gc op gr st dl wo : Nat → Int32} {n : Nat} {yc ya ys yd : Nat → Int32} {q : Nat} {zc zp zr zs zf : Nat → Int32} {z : Nat} {zm zt : Int64} {i1 : Nat} {i2 : Nat} (hI : iwC ad) (hi1 : i1 < 24) (hi2 : i2 < 24) : Met l yX2_swapPlaces wsX2_swapPlaces { frames := 1, cells := 0, slots := 0, locals := 22 } (va_Pc [.ref (ad 14), .int (nI i1), .int (nI i2)] (fun U => va_P (dC, dI) vwCl (wC cI cZ ad sm fe ex dy gp gc op gr st dl wo n yc ya ys yd q zc zp zr zs zf z zm zt) U.heap ∧ va_K (dC, dI) vwCl [(cI, .int), (cZ, .boolean)] U)) (va_Qv (fun _ : Unit => True) (fun _ t => va_P (dC, dI) vwCl (wC cI cZ ad sm fe ex dy gp gc op gr st dl wo n yc ya ys yd q (upd (upd zc i1 (zc i2)) i2 (zc i1)) (upd (upd zp i1 (zp i2)) i2 (zp i1)) (upd (upd zr i1 (zr i2)) i2 (zr i1)) zs zf z zm zt) t.heap) (awC ad)) 0 0 (awC ad) := by
  refine Met.ofW (cc := cX2_swapPlaces) (maxL := 6) (ret := none) (by decide) rfl ?_
  intro p e s m args below meth c s₁ B hml hv
  obtain ⟨rfl, hP, hK⟩ := hv
  have hx := B.exec
  have hb := B.bytes
  have hr := B.returns
  have hts := atoms_spec (ws := wsX2_swapPlaces) B.pre
  have hown : s.vm.findClass RX2 = some m.cls := findClass_of_methodNamed B.named
  have hlocks := B.notSynchronized
  have hS : va_S (awC ad) s.heap s.heap [] := va_S.rf
  have hl := lv_entry ([.ref (ad 14), .int (nI i1), .int (nI i2)]) (n := 6) (Nat.le_of_ble_eq_true rfl)
  rw [lg_entry_eq]
  generalize (lg_sl ([.ref (ad 14), .int (nI i1), .int (nI i2)]) ++ List.replicate (6 - (lg_sl ([.ref (ad 14), .int (nI i1), .int (nI i2)])).length) Slot.unset).toArray = ls at hl ⊢
  have hl : lv_has ls 6 [(0, .ref (ad 14)), (1, .int (nI i1)), (2, .int (nI i2))] := hl
  have hiX2 : ∀ w ∈ wsX20, w ∈ wsX2_swapPlaces := by decide +kernel
  have hf9 := hts (.fieldLink RX2 9 "SettlementFund$Sharing" "claim" "[I") (by decide +kernel)
  have hf15 := hts (.fieldLink RX2 15 "SettlementFund$Sharing" "points" "[I") (by decide +kernel)
  have hf18 := hts (.fieldLink RX2 18 "SettlementFund$Sharing" "room" "[I") (by decide +kernel)
  refine lv_aload_n hx hb dX2_swapPlaces_0 rfl (lv_at hl 0 rfl) ?_
  refine gC_14_0 hx hb hts hiX2 hown hK hP hf9 dX2_swapPlaces_1 ?_
  refine lv_iload_n hx hb dX2_swapPlaces_4 rfl (lv_at hl 1 rfl) ?_
  refine lC_15 hx hb hK hP (by omega) dX2_swapPlaces_5 ?_
  refine lv_istore_n (lv' := [(3, .int (zc i1)), (0, .ref (ad 14)), (1, .int (nI i1)), (2, .int (nI i2))]) hx hb dX2_swapPlaces_6 rfl hl (by decide) rfl (fun ls hl => ?_)
  refine lv_aload_n hx hb dX2_swapPlaces_7 rfl (lv_at hl 1 rfl) ?_
  refine gC_14_1 hx hb hts hiX2 hown hK hP hf15 dX2_swapPlaces_8 ?_
  refine lv_iload_n hx hb dX2_swapPlaces_11 rfl (lv_at hl 2 rfl) ?_
  refine lC_16 hx hb hK hP (by omega) dX2_swapPlaces_12 ?_
  refine lv_istore (lv' := [(4, .int (zp i1)), (3, .int (zc i1)), (0, .ref (ad 14)), (1, .int (nI i1)), (2, .int (nI i2))]) hx hb dX2_swapPlaces_13 hl (by decide) rfl (fun ls hl => ?_)
  refine lv_aload_n hx hb dX2_swapPlaces_15 rfl (lv_at hl 2 rfl) ?_
  refine gC_14_2 hx hb hts hiX2 hown hK hP hf18 dX2_swapPlaces_16 ?_
  refine lv_iload_n hx hb dX2_swapPlaces_19 rfl (lv_at hl 3 rfl) ?_
  refine lC_17 hx hb hK hP (by omega) dX2_swapPlaces_20 ?_
  refine lv_istore (lv' := [(5, .int (zr i1)), (4, .int (zp i1)), (3, .int (zc i1)), (0, .ref (ad 14)), (1, .int (nI i1)), (2, .int (nI i2))]) hx hb dX2_swapPlaces_21 hl (by decide) rfl (fun ls hl => ?_)
  refine lv_aload_n hx hb dX2_swapPlaces_23 rfl (lv_at hl 3 rfl) ?_
  refine lv_iload_n hx hb dX2_swapPlaces_24 rfl (lv_at hl 5 rfl) ?_
  refine lv_iload_n hx hb dX2_swapPlaces_25 rfl (lv_at hl 4 rfl) ?_
  refine k_X2_copyPlace l (i1 := i2) (i2 := i1) (hi1 := hi2) (hi2 := hi1) hx hb hml hown hts hK hP gX2_swapPlaces_X2_copyPlace ⟨Nat.le_of_ble_eq_true rfl, Nat.le_of_ble_eq_true rfl⟩ ⟨Nat.le_of_ble_eq_true rfl, Nat.le_of_ble_eq_true rfl⟩ hl.1 (Nat.le_of_ble_eq_true rfl) dX2_swapPlaces_26 hI (fun _ h => h) hS (fun H locs hP hS _ => ?_)
  refine lv_aload_n hx hb dX2_swapPlaces_29 rfl (lv_at hl 3 rfl) ?_
  refine gC_14_0 hx hb hts hiX2 hown hK hP hf9 dX2_swapPlaces_30 ?_
  refine lv_iload_n hx hb dX2_swapPlaces_33 rfl (lv_at hl 5 rfl) ?_
  refine lv_iload_n hx hb dX2_swapPlaces_34 rfl (lv_at hl 2 rfl) ?_
  refine sC_15 hx hb hK hP hI (fun _ h => h) hS (by omega) dX2_swapPlaces_35 (fun H locs hP hS => ?_)
  refine lv_aload_n hx hb dX2_swapPlaces_36 rfl (lv_at hl 3 rfl) ?_
  refine gC_14_1 hx hb hts hiX2 hown hK hP hf15 dX2_swapPlaces_37 ?_
  refine lv_iload_n hx hb dX2_swapPlaces_40 rfl (lv_at hl 5 rfl) ?_
  refine lv_iload hx hb dX2_swapPlaces_41 (lv_at hl 1 rfl) ?_
  refine sC_16 hx hb hK hP hI (fun _ h => h) hS (by omega) dX2_swapPlaces_43 (fun H locs hP hS => ?_)
  refine lv_aload_n hx hb dX2_swapPlaces_44 rfl (lv_at hl 3 rfl) ?_
  refine gC_14_2 hx hb hts hiX2 hown hK hP hf18 dX2_swapPlaces_45 ?_
  refine lv_iload_n hx hb dX2_swapPlaces_48 rfl (lv_at hl 5 rfl) ?_
  refine lv_iload hx hb dX2_swapPlaces_49 (lv_at hl 0 rfl) ?_
  refine sC_17 hx hb hK hP hI (fun _ h => h) hS (by omega) dX2_swapPlaces_51 (fun H locs hP hS => ?_)
  exact W.vret hx hb hr (fun t ht hW => ⟨⟨(), rfl, trivial, by (try dsimp only); rw [ht]; exact hP⟩, hS.F ht⟩) hS.2.2 dX2_swapPlaces_52
section
variable {p : Program} {e : Env} {R : Room} {s : State} {m : MethodId} {args : Array Value} {below : List Frame} {meth : Method} {c : Code} {H : Heap} {locs : List Loc} {cells slots : Nat} {Q : State → Prop} {cc : ByteArray} {pc : Nat} {ls : Array Slot} {rest : List Value} {own : String} {index nL : Nat} {Ts : List Cond} {H0 : Heap} {A0 : Nat → Prop}
theorem k_X2_swapPlaces (l : Launch) {dC : Nat → ClassId} {dI : Nat → Nat → Nat} {cI cZ : ClassId} {ad : Nat → Nat} {sm fe ex dy : Int32} {gp gc op gr st dl wo : Nat → Int32} {n : Nat} {yc ya ys yd : Nat → Int32} {q : Nat} {zc zp zr zs zf : Nat → Int32} {z : Nat} {zm zt : Int64} {i1 : Nat} {i2 : Nat} (hi1 : i1 < 24) (hi2 : i2 < 24) (hx : p.tables.exec = Jvm.exec) (hb : c.code = cc) (hml : c.maxLocals = nL) (hown : s.vm.findClass own = some m.cls) (hts : ∀ w ∈ Ts, w.before args s = true) (hK : va_K (dC, dI) vwCl [(cI, .int), (cZ, .boolean)] s) (hP : va_P (dC, dI) vwCl (wC cI cZ ad sm fe ex dy gp gc op gr st dl wo n yc ya ys yd q zc zp zr zs zf z zm zt) H) (hg9 : GoodIn Ts (wsV own index RX2 yX2_swapPlaces wsX2_swapPlaces)) (hR9 : 1 + 1 ≤ R.frames ∧ 8 + (6 + 11) + 22 ≤ R.locals) (hc9 : cells ≤ R.cells ∧ slots ≤ R.slots) (hl9 : ls.size = nL) (hw9 : (rest.map fun v => v.category).sum ≤ 8) (hdg : decode cc pc = .ok (.invokevirtual index, 3)) (hI : iwC ad) (hA : ∀ x, awC ad x → A0 x) (hS : va_S A0 H0 H locs) (kk : ∀ (H1 : Heap) (locs1 : List Loc), va_P (dC, dI) vwCl (wC cI cZ ad sm fe ex dy gp gc op gr st dl wo n yc ya ys yd q (upd (upd zc i1 (zc i2)) i2 (zc i1)) (upd (upd zp i1 (zp i2)) i2 (zp i1)) (upd (upd zr i1 (zr i2)) i2 (zr i1)) zs zf z zm zt) H1 → va_S A0 H0 H1 locs1 → (∀ q : Nat, q < H.size → ¬ awC ad q → H1[q]? = H[q]?) → W p l e R s m args below meth c H1 locs1 cells slots Q (F0 m (pc + 3) ls (rest))) : W p l e R s m args below meth c H locs cells slots Q (F0 m pc ls (.int (nI i2) :: .int (nI i1) :: .ref (ad 14) :: rest)) := va_callv (va_runV (As := [.int (nI i1), .int (nI i2)]) (rest := rest) ⟨hx, hb, hml, hown, hts⟩ (c_X2_swapPlaces (dC := dC) (dI := dI) (cI := cI) (cZ := cZ) (ad := ad) (sm := sm) (fe := fe) (ex := ex) (dy := dy) (gp := gp) (gc := gc) (op := op) (gr := gr) (st := st) (dl := dl) (wo := wo) (n := n) (yc := yc) (ya := ya) (ys := ys) (yd := yd) (q := q) (zc := zc) (zp := zp) (zr := zr) (zs := zs) (zf := zf) (z := z) (zm := zm) (zt := zt) (i1 := i1) (i2 := i2) l hI hi1 hi2) (cwV 2 hts hg9 rfl rfl rfl (by decide +kernel) hR9) ⟨fun a U g mk q => ⟨q.1, q.2.1, va_K.moved (u := U) (U := U.calling g mk a) (Vm.Alike.refl U.vm) q.2.2⟩, rC_14 hK hP, fun U hU hW => ⟨rfl, by rw [hU]; exact hP, va_K.moved hW.alike hK⟩⟩ rfl rfl hl9 rfl (lv_room hw9) hdg hc9) hS (fun q _ h => hA q h) hA (fun u t H1 locs1 ht _ hu hB hz hk hS1 => kk H1 locs1 (by rw [ht] at hB; exact hB) hS1 hk)
end
set_option maxHeartbeats 4000000 in
set_option maxRecDepth 100000 in
theorem c_X2_hasLess (l : Launch) {dC : Nat → ClassId} {dI : Nat → Nat → Nat} {cI cZ : ClassId} {ad : Nat → Nat} {sm fe ex dy : Int32} {gp gc op gr st dl wo : Nat → Int32} {n : Nat} {yc ya ys yd : Nat → Int32} {q : Nat} {zc zp zr zs zf : Nat → Int32} {z : Nat} {zm zt : Int64} {i1 : Nat} {i2 : Nat} {r1 : Nat} {p1 : Nat} {r2 : Nat} {p2 : Nat} (hi1 : i1 < 24) (hi2 : i2 < 24) (hr1 : zr i1 = nI r1) (hp1 : zp i1 = nI p1) (hr2 : zr i2 = nI r2) (hp2 : zp i2 = nI p2) (hb1 : r1 ≤ 1000000) (hb2 : p1 ≤ 100) (hb3 : r2 ≤ 1000000) (hb4 : p2 ≤ 100) : Met l yX2_hasLessRoomPerPoint wsX2_hasLessRoomPerPoint { frames := 0, cells := 0, slots := 0, locals := 0 } (va_Pc [.ref (ad 14), .int (nI i1), .int (nI i2)] (fun U => va_P (dC, dI) vwCl (wC cI cZ ad sm fe ex dy gp gc op gr st dl wo n yc ya ys yd q zc zp zr zs zf z zm zt) U.heap ∧ va_K (dC, dI) vwCl [(cI, .int), (cZ, .boolean)] U)) (vp_Si (fun r => r = nI (if r1 * p2 < r2 * p1 then 1 else 0))) 0 0 (fun _ => False) := by
  refine Met.ofW (cc := cX2_hasLessRoomPerPoint) (maxL := 3) (ret := (some .boolean)) (by decide) rfl ?_
  intro p e s m args below meth c s₁ B hml hv
  obtain ⟨rfl, hP, hK⟩ := hv
  have hx := B.exec
  have hb := B.bytes
  have hr := B.returns
  have hts := atoms_spec (ws := wsX2_hasLessRoomPerPoint) B.pre
  have hown : s.vm.findClass RX2 = some m.cls := findClass_of_methodNamed B.named
  have hlocks := B.notSynchronized
  have hl := lv_entry ([.ref (ad 14), .int (nI i1), .int (nI i2)]) (n := 3) (Nat.le_of_ble_eq_true rfl)
  rw [lg_entry_eq]
  generalize (lg_sl ([.ref (ad 14), .int (nI i1), .int (nI i2)]) ++ List.replicate (3 - (lg_sl ([.ref (ad 14), .int (nI i1), .int (nI i2)])).length) Slot.unset).toArray = ls at hl ⊢
  have hl : lv_has ls 3 [(0, .ref (ad 14)), (1, .int (nI i1)), (2, .int (nI i2))] := hl
  have hiX2 : ∀ w ∈ wsX20, w ∈ wsX2_hasLessRoomPerPoint := by decide +kernel
  have hf18 := hts (.fieldLink RX2 18 "SettlementFund$Sharing" "room" "[I") (by decide +kernel)
  have hf15 := hts (.fieldLink RX2 15 "SettlementFund$Sharing" "points" "[I") (by decide +kernel)
  refine lv_aload_n hx hb dX2_hasLessRoomPerPoint_0 rfl (lv_at hl 0 rfl) ?_
  refine gC_14_2 hx hb hts hiX2 hown hK hP hf18 dX2_hasLessRoomPerPoint_1 ?_
  refine lv_iload_n hx hb dX2_hasLessRoomPerPoint_4 rfl (lv_at hl 1 rfl) ?_
  refine lC_17 hx hb hK hP (by omega) dX2_hasLessRoomPerPoint_5 ?_
  refine zt_i (y := nI r1) (hr1) ?_
  refine lv_i2l (v := lN r1) hx hb dX2_hasLessRoomPerPoint_6 (nI_l (by omega)) ?_
  refine lv_aload_n hx hb dX2_hasLessRoomPerPoint_7 rfl (lv_at hl 0 rfl) ?_
  refine gC_14_1 hx hb hts hiX2 hown hK hP hf15 dX2_hasLessRoomPerPoint_8 ?_
  refine lv_iload_n hx hb dX2_hasLessRoomPerPoint_11 rfl (lv_at hl 2 rfl) ?_
  refine lC_16 hx hb hK hP (by omega) dX2_hasLessRoomPerPoint_12 ?_
  refine zt_i (y := nI p2) (hp2) ?_
  refine lv_i2l (v := lN p2) hx hb dX2_hasLessRoomPerPoint_13 (nI_l (by omega)) ?_
  refine lv_lmul hx hb dX2_hasLessRoomPerPoint_14 ?_
  refine zt_l (y := lN (r1 * p2)) (lN_mul _ _) ?_
  refine lv_aload_n hx hb dX2_hasLessRoomPerPoint_15 rfl (lv_at hl 0 rfl) ?_
  refine gC_14_2 hx hb hts hiX2 hown hK hP hf18 dX2_hasLessRoomPerPoint_16 ?_
  refine lv_iload_n hx hb dX2_hasLessRoomPerPoint_19 rfl (lv_at hl 2 rfl) ?_
  refine lC_17 hx hb hK hP (by omega) dX2_hasLessRoomPerPoint_20 ?_
  refine zt_i (y := nI r2) (hr2) ?_
  refine lv_i2l (v := lN r2) hx hb dX2_hasLessRoomPerPoint_21 (nI_l (by omega)) ?_
  refine lv_aload_n hx hb dX2_hasLessRoomPerPoint_22 rfl (lv_at hl 0 rfl) ?_
  refine gC_14_1 hx hb hts hiX2 hown hK hP hf15 dX2_hasLessRoomPerPoint_23 ?_
  refine lv_iload_n hx hb dX2_hasLessRoomPerPoint_26 rfl (lv_at hl 1 rfl) ?_
  refine lC_16 hx hb hK hP (by omega) dX2_hasLessRoomPerPoint_27 ?_
  refine zt_i (y := nI p1) (hp1) ?_
  refine lv_i2l (v := lN p1) hx hb dX2_hasLessRoomPerPoint_28 (nI_l (by omega)) ?_
  refine lv_lmul hx hb dX2_hasLessRoomPerPoint_29 ?_
  refine zt_l (y := lN (r2 * p1)) (lN_mul _ _) ?_
  refine W.lcmp hx hb dX2_hasLessRoomPerPoint_30 ?_
  refine zg_ge (tgt := 38) hx hb dX2_hasLessRoomPerPoint_31 (by decide) (fun c_31 => ?_) (fun c_31 => ?_)
  · refine lv_iconst (v := nI 0) hx hb dX2_hasLessRoomPerPoint_38 (by decide) ?_
    exact W.zret (v := nI 0) hx hb hr (rfl) (fun t ht hW => ⟨nI 0, rfl, by rw [if_neg (fun h => (Nat.not_lt.mpr ((pk_lLE (zz_pm hb3 hb2 (by decide)) (zz_pm hb1 hb4 (by decide))).mp c_31)) h)], ht⟩) (fun _ h => nomatch h) dX2_hasLessRoomPerPoint_39
  · refine lv_iconst (v := nI 1) hx hb dX2_hasLessRoomPerPoint_34 (by decide) ?_
    refine lv_goto (tgt := 39) hx hb dX2_hasLessRoomPerPoint_35 (by decide) ?_
    exact W.zret (v := nI 1) hx hb hr (rfl) (fun t ht hW => ⟨nI 1, rfl, by rw [if_pos (Nat.lt_of_not_le (fun h => c_31 ((pk_lLE (zz_pm hb3 hb2 (by decide)) (zz_pm hb1 hb4 (by decide))).mpr h)))], ht⟩) (fun _ h => nomatch h) dX2_hasLessRoomPerPoint_39
section
variable {p : Program} {e : Env} {R : Room} {s : State} {m : MethodId} {args : Array Value} {below : List Frame} {meth : Method} {c : Code} {H : Heap} {locs : List Loc} {cells slots : Nat} {Q : State → Prop} {cc : ByteArray} {pc : Nat} {ls : Array Slot} {rest : List Value} {own : String} {index nL : Nat} {Ts : List Cond} {H0 : Heap} {A0 : Nat → Prop}
theorem k_X2_hasLess (l : Launch) {dC : Nat → ClassId} {dI : Nat → Nat → Nat} {cI cZ : ClassId} {ad : Nat → Nat} {sm fe ex dy : Int32} {gp gc op gr st dl wo : Nat → Int32} {n : Nat} {yc ya ys yd : Nat → Int32} {q : Nat} {zc zp zr zs zf : Nat → Int32} {z : Nat} {zm zt : Int64} {i1 : Nat} {i2 : Nat} {r1 : Nat} {p1 : Nat} {r2 : Nat} {p2 : Nat} (hi1 : i1 < 24) (hi2 : i2 < 24) (hr1 : zr i1 = nI r1) (hp1 : zp i1 = nI p1) (hr2 : zr i2 = nI r2) (hp2 : zp i2 = nI p2) (hb1 : r1 ≤ 1000000) (hb2 : p1 ≤ 100) (hb3 : r2 ≤ 1000000) (hb4 : p2 ≤ 100) (hx : p.tables.exec = Jvm.exec) (hb : c.code = cc) (hml : c.maxLocals = nL) (hown : s.vm.findClass own = some m.cls) (hts : ∀ w ∈ Ts, w.before args s = true) (hK : va_K (dC, dI) vwCl [(cI, .int), (cZ, .boolean)] s) (hP : va_P (dC, dI) vwCl (wC cI cZ ad sm fe ex dy gp gc op gr st dl wo n yc ya ys yd q zc zp zr zs zf z zm zt) H) (hg9 : GoodIn Ts (wsV own index RX2 yX2_hasLessRoomPerPoint wsX2_hasLessRoomPerPoint)) (hR9 : 0 + 1 ≤ R.frames ∧ 8 + (3 + 11) + 0 ≤ R.locals) (hc9 : cells ≤ R.cells ∧ slots ≤ R.slots) (hl9 : ls.size = nL) (hw9 : (rest.map fun v => v.category).sum ≤ 8) (hdg : decode cc pc = .ok (.invokevirtual index, 3)) (kk : W p l e R s m args below meth c H locs cells slots Q (F0 m (pc + 3) ls (.int (nI (if r1 * p2 < r2 * p1 then 1 else 0)) :: rest))) : W p l e R s m args below meth c H locs cells slots Q (F0 m pc ls (.int (nI i2) :: .int (nI i1) :: .ref (ad 14) :: rest)) := zc_ro (W.runV (As := [.int (nI i1), .int (nI i2)]) (rest := rest) ⟨hx, hb, hml, hown, hts⟩ (c_X2_hasLess (dC := dC) (dI := dI) (cI := cI) (cZ := cZ) (ad := ad) (sm := sm) (fe := fe) (ex := ex) (dy := dy) (gp := gp) (gc := gc) (op := op) (gr := gr) (st := st) (dl := dl) (wo := wo) (n := n) (yc := yc) (ya := ya) (ys := ys) (yd := yd) (q := q) (zc := zc) (zp := zp) (zr := zr) (zs := zs) (zf := zf) (z := z) (zm := zm) (zt := zt) (i1 := i1) (i2 := i2) (r1 := r1) (p1 := p1) (r2 := r2) (p2 := p2) l hi1 hi2 hr1 hp1 hr2 hp2 hb1 hb2 hb3 hb4) (cwV 2 hts hg9 rfl rfl rfl (by decide +kernel) hR9) ⟨fun a U g mk q => ⟨q.1, q.2.1, va_K.moved (u := U) (U := U.calling g mk a) (Vm.Alike.refl U.vm) q.2.2⟩, rC_14 hK hP, fun U hU hW => ⟨rfl, by rw [hU]; exact hP, va_K.moved hW.alike hK⟩⟩ rfl rfl hl9 rfl (lv_room hw9) hdg hc9) (fun r h => by subst h; exact kk)
end
set_option maxHeartbeats 4000000 in
set_option maxRecDepth 100000 in
theorem c_X2_reachesRoom (l : Launch) {dC : Nat → ClassId} {dI : Nat → Nat → Nat} {cI cZ : ClassId} {ad : Nat → Nat} {sm fe ex dy : Int32} {gp gc op gr st dl wo : Nat → Int32} {n : Nat} {yc ya ys yd : Nat → Int32} {q : Nat} {zc zp zr zs zf : Nat → Int32} {z : Nat} {zm zt : Int64} {k : Nat} {rk : Nat} {pk : Nat} {mm : Nat} {tt : Nat} (hk : k < 24) (hr1 : zr k = nI rk) (hp1 : zp k = nI pk) (hb1 : rk ≤ 1000000) (hb2 : pk ≤ 100) (hmm : mm ≤ 10000000) (htt : tt ≤ 2400) : Met l yX2_reachesRoom wsX2_reachesRoom { frames := 0, cells := 0, slots := 0, locals := 0 } (va_Pc [.ref (ad 14), .int (nI k), .long (lN mm), .long (lN tt)] (fun U => va_P (dC, dI) vwCl (wC cI cZ ad sm fe ex dy gp gc op gr st dl wo n yc ya ys yd q zc zp zr zs zf z zm zt) U.heap ∧ va_K (dC, dI) vwCl [(cI, .int), (cZ, .boolean)] U)) (vp_Si (fun r => r = nI (if rk * tt ≤ pk * mm then 1 else 0))) 0 0 (fun _ => False) := by
  refine Met.ofW (cc := cX2_reachesRoom) (maxL := 6) (ret := (some .boolean)) (by decide) rfl ?_
  intro p e s m args below meth c s₁ B hml hv
  obtain ⟨rfl, hP, hK⟩ := hv
  have hx := B.exec
  have hb := B.bytes
  have hr := B.returns
  have hts := atoms_spec (ws := wsX2_reachesRoom) B.pre
  have hown : s.vm.findClass RX2 = some m.cls := findClass_of_methodNamed B.named
  have hlocks := B.notSynchronized
  have hl := lv_entry ([.ref (ad 14), .int (nI k), .long (lN mm), .long (lN tt)]) (n := 6) (Nat.le_of_ble_eq_true rfl)
  rw [lg_entry_eq]
  generalize (lg_sl ([.ref (ad 14), .int (nI k), .long (lN mm), .long (lN tt)]) ++ List.replicate (6 - (lg_sl ([.ref (ad 14), .int (nI k), .long (lN mm), .long (lN tt)])).length) Slot.unset).toArray = ls at hl ⊢
  have hl : lv_has ls 6 [(0, .ref (ad 14)), (1, .int (nI k)), (2, .long (lN mm)), (4, .long (lN tt))] := hl
  have hiX2 : ∀ w ∈ wsX20, w ∈ wsX2_reachesRoom := by decide +kernel
  have hf15 := hts (.fieldLink RX2 15 "SettlementFund$Sharing" "points" "[I") (by decide +kernel)
  have hf18 := hts (.fieldLink RX2 18 "SettlementFund$Sharing" "room" "[I") (by decide +kernel)
  refine lv_aload_n hx hb dX2_reachesRoom_0 rfl (lv_at hl 0 rfl) ?_
  refine gC_14_1 hx hb hts hiX2 hown hK hP hf15 dX2_reachesRoom_1 ?_
  refine lv_iload_n hx hb dX2_reachesRoom_4 rfl (lv_at hl 1 rfl) ?_
  refine lC_16 hx hb hK hP (by omega) dX2_reachesRoom_5 ?_
  refine zt_i (y := nI pk) (hp1) ?_
  refine lv_i2l (v := lN pk) hx hb dX2_reachesRoom_6 (nI_l (by omega)) ?_
  refine lv_lload_n hx hb dX2_reachesRoom_7 rfl (lv_at hl 2 rfl) ?_
  refine lv_lmul hx hb dX2_reachesRoom_8 ?_
  refine zt_l (y := lN (pk * mm)) (lN_mul _ _) ?_
  refine lv_aload_n hx hb dX2_reachesRoom_9 rfl (lv_at hl 0 rfl) ?_
  refine gC_14_2 hx hb hts hiX2 hown hK hP hf18 dX2_reachesRoom_10 ?_
  refine lv_iload_n hx hb dX2_reachesRoom_13 rfl (lv_at hl 1 rfl) ?_
  refine lC_17 hx hb hK hP (by omega) dX2_reachesRoom_14 ?_
  refine zt_i (y := nI rk) (hr1) ?_
  refine lv_i2l (v := lN rk) hx hb dX2_reachesRoom_15 (nI_l (by omega)) ?_
  refine lv_lload hx hb dX2_reachesRoom_16 (lv_at hl 3 rfl) ?_
  refine lv_lmul hx hb dX2_reachesRoom_18 ?_
  refine zt_l (y := lN (rk * tt)) (lN_mul _ _) ?_
  refine W.lcmp hx hb dX2_reachesRoom_19 ?_
  refine zg_lt (tgt := 27) hx hb dX2_reachesRoom_20 (by decide) (fun c_20 => ?_) (fun c_20 => ?_)
  · refine lv_iconst (v := nI 0) hx hb dX2_reachesRoom_27 (by decide) ?_
    exact W.zret (v := nI 0) hx hb hr (rfl) (fun t ht hW => ⟨nI 0, rfl, by rw [if_neg (Nat.not_le.mpr ((pk_lLT (zz_pm hb2 hmm (by decide)) (zz_pm hb1 htt (by decide))).mp c_20))], ht⟩) (fun _ h => nomatch h) dX2_reachesRoom_28
  · refine lv_iconst (v := nI 1) hx hb dX2_reachesRoom_23 (by decide) ?_
    refine lv_goto (tgt := 28) hx hb dX2_reachesRoom_24 (by decide) ?_
    exact W.zret (v := nI 1) hx hb hr (rfl) (fun t ht hW => ⟨nI 1, rfl, by rw [if_pos (Nat.le_of_not_lt (fun h => c_20 ((pk_lLT (zz_pm hb2 hmm (by decide)) (zz_pm hb1 htt (by decide))).mpr h)))], ht⟩) (fun _ h => nomatch h) dX2_reachesRoom_28
section
variable {p : Program} {e : Env} {R : Room} {s : State} {m : MethodId} {args : Array Value} {below : List Frame} {meth : Method} {c : Code} {H : Heap} {locs : List Loc} {cells slots : Nat} {Q : State → Prop} {cc : ByteArray} {pc : Nat} {ls : Array Slot} {rest : List Value} {own : String} {index nL : Nat} {Ts : List Cond} {H0 : Heap} {A0 : Nat → Prop}
theorem k_X2_reachesRoom (l : Launch) {dC : Nat → ClassId} {dI : Nat → Nat → Nat} {cI cZ : ClassId} {ad : Nat → Nat} {sm fe ex dy : Int32} {gp gc op gr st dl wo : Nat → Int32} {n : Nat} {yc ya ys yd : Nat → Int32} {q : Nat} {zc zp zr zs zf : Nat → Int32} {z : Nat} {zm zt : Int64} {k : Nat} {rk : Nat} {pk : Nat} {mm : Nat} {tt : Nat} (hk : k < 24) (hr1 : zr k = nI rk) (hp1 : zp k = nI pk) (hb1 : rk ≤ 1000000) (hb2 : pk ≤ 100) (hmm : mm ≤ 10000000) (htt : tt ≤ 2400) (hx : p.tables.exec = Jvm.exec) (hb : c.code = cc) (hml : c.maxLocals = nL) (hown : s.vm.findClass own = some m.cls) (hts : ∀ w ∈ Ts, w.before args s = true) (hK : va_K (dC, dI) vwCl [(cI, .int), (cZ, .boolean)] s) (hP : va_P (dC, dI) vwCl (wC cI cZ ad sm fe ex dy gp gc op gr st dl wo n yc ya ys yd q zc zp zr zs zf z zm zt) H) (hg9 : GoodIn Ts (wsV own index RX2 yX2_reachesRoom wsX2_reachesRoom)) (hR9 : 0 + 1 ≤ R.frames ∧ 8 + (6 + 11) + 0 ≤ R.locals) (hc9 : cells ≤ R.cells ∧ slots ≤ R.slots) (hl9 : ls.size = nL) (hw9 : (rest.map fun v => v.category).sum ≤ 8) (hdg : decode cc pc = .ok (.invokevirtual index, 3)) (kk : W p l e R s m args below meth c H locs cells slots Q (F0 m (pc + 3) ls (.int (nI (if rk * tt ≤ pk * mm then 1 else 0)) :: rest))) : W p l e R s m args below meth c H locs cells slots Q (F0 m pc ls (.long (lN tt) :: .long (lN mm) :: .int (nI k) :: .ref (ad 14) :: rest)) := zc_ro (W.runV (As := [.int (nI k), .long (lN mm), .long (lN tt)]) (rest := rest) ⟨hx, hb, hml, hown, hts⟩ (c_X2_reachesRoom (dC := dC) (dI := dI) (cI := cI) (cZ := cZ) (ad := ad) (sm := sm) (fe := fe) (ex := ex) (dy := dy) (gp := gp) (gc := gc) (op := op) (gr := gr) (st := st) (dl := dl) (wo := wo) (n := n) (yc := yc) (ya := ya) (ys := ys) (yd := yd) (q := q) (zc := zc) (zp := zp) (zr := zr) (zs := zs) (zf := zf) (z := z) (zm := zm) (zt := zt) (k := k) (rk := rk) (pk := pk) (mm := mm) (tt := tt) l hk hr1 hp1 hb1 hb2 hmm htt) (cwV 3 hts hg9 rfl rfl rfl (by decide +kernel) hR9) ⟨fun a U g mk q => ⟨q.1, q.2.1, va_K.moved (u := U) (U := U.calling g mk a) (Vm.Alike.refl U.vm) q.2.2⟩, rC_14 hK hP, fun U hU hW => ⟨rfl, by rw [hU]; exact hP, va_K.moved hW.alike hK⟩⟩ rfl rfl hl9 rfl (lv_room hw9) hdg hc9) (fun r h => by subst h; exact kk)
end
set_option maxHeartbeats 4000000 in
set_option maxRecDepth 100000 in
theorem c_X2_fill (l : Launch) {dC : Nat → ClassId} {dI : Nat → Nat → Nat} {cI cZ : ClassId} {ad : Nat → Nat} {sm fe ex dy : Int32} {gp gc op gr st dl wo : Nat → Int32} {n : Nat} {yc ya ys yd : Nat → Int32} {q : Nat} {zc zp zr zs zf : Nat → Int32} {z : Nat} {zm zt : Int64} {k : Nat} {rk : Nat} {pk : Nat} {mm : Nat} {tt : Nat} (hI : iwC ad) (hk : k < 24) (hr1 : zr k = nI rk) (hp1 : zp k = nI pk) (hb1 : rk ≤ 1000000) (hb2 : pk ≤ 100) (hm : zm = lN mm) (ht0 : zt = lN tt) (h1 : rk ≤ mm) (h2 : pk ≤ tt) : Met l yX2_fill wsX2_fill { frames := 0, cells := 0, slots := 0, locals := 0 } (va_Pc [.ref (ad 14), .int (nI k)] (fun U => va_P (dC, dI) vwCl (wC cI cZ ad sm fe ex dy gp gc op gr st dl wo n yc ya ys yd q zc zp zr zs zf z zm zt) U.heap ∧ va_K (dC, dI) vwCl [(cI, .int), (cZ, .boolean)] U)) (va_Qv (fun _ : Unit => True) (fun _ t => va_P (dC, dI) vwCl (wC cI cZ ad sm fe ex dy gp gc op gr st dl wo n yc ya ys yd q zc zp zr (upd zs k (nI rk)) (upd zf k (nI 1)) z (lN (mm - rk)) (lN (tt - pk))) t.heap) (awC ad)) 0 0 (awC ad) := by
  refine Met.ofW (cc := cX2_fill) (maxL := 2) (ret := none) (by decide) rfl ?_
  intro p e s m args below meth c s₁ B hml hv
  obtain ⟨rfl, hP, hK⟩ := hv
  have hx := B.exec
  have hb := B.bytes
  have hr := B.returns
  have hts := atoms_spec (ws := wsX2_fill) B.pre
  have hown : s.vm.findClass RX2 = some m.cls := findClass_of_methodNamed B.named
  have hlocks := B.notSynchronized
  have hS : va_S (awC ad) s.heap s.heap [] := va_S.rf
  have hl := lv_entry ([.ref (ad 14), .int (nI k)]) (n := 2) (Nat.le_of_ble_eq_true rfl)
  rw [lg_entry_eq]
  generalize (lg_sl ([.ref (ad 14), .int (nI k)]) ++ List.replicate (2 - (lg_sl ([.ref (ad 14), .int (nI k)])).length) Slot.unset).toArray = ls at hl ⊢
  have hl : lv_has ls 2 [(0, .ref (ad 14)), (1, .int (nI k))] := hl
  have hiX2 : ∀ w ∈ wsX20, w ∈ wsX2_fill := by decide +kernel
  have hf24 := hts (.fieldLink RX2 24 "SettlementFund$Sharing" "isFull" "[Z") (by decide +kernel)
  have hf21 := hts (.fieldLink RX2 21 "SettlementFund$Sharing" "share" "[I") (by decide +kernel)
  have hf18 := hts (.fieldLink RX2 18 "SettlementFund$Sharing" "room" "[I") (by decide +kernel)
  have hf47 := hts (.fieldLink RX2 47 "SettlementFund$Sharing" "restMoney" "J") (by decide +kernel)
  have hf51 := hts (.fieldLink RX2 51 "SettlementFund$Sharing" "restPoints" "J") (by decide +kernel)
  have hf15 := hts (.fieldLink RX2 15 "SettlementFund$Sharing" "points" "[I") (by decide +kernel)
  refine lv_aload_n hx hb dX2_fill_0 rfl (lv_at hl 0 rfl) ?_
  refine gC_14_4 hx hb hts hiX2 hown hK hP hf24 dX2_fill_1 ?_
  refine lv_iload_n hx hb dX2_fill_4 rfl (lv_at hl 1 rfl) ?_
  refine lv_iconst (v := nI 1) hx hb dX2_fill_5 (by decide) ?_
  refine sC_19 hx hb hK hP hI (fun _ h => h) hS (by omega) (rfl) dX2_fill_6 (fun H locs hP hS => ?_)
  refine lv_aload_n hx hb dX2_fill_7 rfl (lv_at hl 0 rfl) ?_
  refine gC_14_3 hx hb hts hiX2 hown hK hP hf21 dX2_fill_8 ?_
  refine lv_iload_n hx hb dX2_fill_11 rfl (lv_at hl 1 rfl) ?_
  refine lv_aload_n hx hb dX2_fill_12 rfl (lv_at hl 0 rfl) ?_
  refine gC_14_2 hx hb hts hiX2 hown hK hP hf18 dX2_fill_13 ?_
  refine lv_iload_n hx hb dX2_fill_16 rfl (lv_at hl 1 rfl) ?_
  refine lC_17 hx hb hK hP (by omega) dX2_fill_17 ?_
  refine zt_i (y := nI rk) (hr1) ?_
  refine sC_18 hx hb hK hP hI (fun _ h => h) hS (by omega) dX2_fill_18 (fun H locs hP hS => ?_)
  refine lv_aload_n hx hb dX2_fill_19 rfl (lv_at hl 0 rfl) ?_
  refine lv_dup hx hb dX2_fill_20 rfl ?_
  refine gC_14_6 hx hb hts hiX2 hown hK hP hf47 dX2_fill_21 ?_
  refine lv_aload_n hx hb dX2_fill_24 rfl (lv_at hl 0 rfl) ?_
  refine gC_14_2 hx hb hts hiX2 hown hK hP hf18 dX2_fill_25 ?_
  refine lv_iload_n hx hb dX2_fill_28 rfl (lv_at hl 1 rfl) ?_
  refine lC_17 hx hb hK hP (by omega) dX2_fill_29 ?_
  refine zt_i (y := nI rk) (hr1) ?_
  refine lv_i2l (v := lN rk) hx hb dX2_fill_30 (nI_l (by omega)) ?_
  refine lv_lsub hx hb dX2_fill_31 ?_
  refine zt_l (y := lN (mm - rk)) (zz_lS hm h1) ?_
  refine uC_14_6 hx hb hts hiX2 hown hK hP hf47 hI (fun _ h => h) hS dX2_fill_32 (fun H locs hP hS => ?_)
  refine lv_aload_n hx hb dX2_fill_35 rfl (lv_at hl 0 rfl) ?_
  refine lv_dup hx hb dX2_fill_36 rfl ?_
  refine gC_14_7 hx hb hts hiX2 hown hK hP hf51 dX2_fill_37 ?_
  refine lv_aload_n hx hb dX2_fill_40 rfl (lv_at hl 0 rfl) ?_
  refine gC_14_1 hx hb hts hiX2 hown hK hP hf15 dX2_fill_41 ?_
  refine lv_iload_n hx hb dX2_fill_44 rfl (lv_at hl 1 rfl) ?_
  refine lC_16 hx hb hK hP (by omega) dX2_fill_45 ?_
  refine zt_i (y := nI pk) (hp1) ?_
  refine lv_i2l (v := lN pk) hx hb dX2_fill_46 (nI_l (by omega)) ?_
  refine lv_lsub hx hb dX2_fill_47 ?_
  refine zt_l (y := lN (tt - pk)) (zz_lS ht0 h2) ?_
  refine uC_14_7 hx hb hts hiX2 hown hK hP hf51 hI (fun _ h => h) hS dX2_fill_48 (fun H locs hP hS => ?_)
  exact W.vret hx hb hr (fun t ht hW => ⟨⟨(), rfl, trivial, by (try dsimp only); rw [ht]; exact hP⟩, hS.F ht⟩) hS.2.2 dX2_fill_51
section
variable {p : Program} {e : Env} {R : Room} {s : State} {m : MethodId} {args : Array Value} {below : List Frame} {meth : Method} {c : Code} {H : Heap} {locs : List Loc} {cells slots : Nat} {Q : State → Prop} {cc : ByteArray} {pc : Nat} {ls : Array Slot} {rest : List Value} {own : String} {index nL : Nat} {Ts : List Cond} {H0 : Heap} {A0 : Nat → Prop}
theorem k_X2_fill (l : Launch) {dC : Nat → ClassId} {dI : Nat → Nat → Nat} {cI cZ : ClassId} {ad : Nat → Nat} {sm fe ex dy : Int32} {gp gc op gr st dl wo : Nat → Int32} {n : Nat} {yc ya ys yd : Nat → Int32} {q : Nat} {zc zp zr zs zf : Nat → Int32} {z : Nat} {zm zt : Int64} {k : Nat} {rk : Nat} {pk : Nat} {mm : Nat} {tt : Nat} (hk : k < 24) (hr1 : zr k = nI rk) (hp1 : zp k = nI pk) (hb1 : rk ≤ 1000000) (hb2 : pk ≤ 100) (hm : zm = lN mm) (ht0 : zt = lN tt) (h1 : rk ≤ mm) (h2 : pk ≤ tt) (hx : p.tables.exec = Jvm.exec) (hb : c.code = cc) (hml : c.maxLocals = nL) (hown : s.vm.findClass own = some m.cls) (hts : ∀ w ∈ Ts, w.before args s = true) (hK : va_K (dC, dI) vwCl [(cI, .int), (cZ, .boolean)] s) (hP : va_P (dC, dI) vwCl (wC cI cZ ad sm fe ex dy gp gc op gr st dl wo n yc ya ys yd q zc zp zr zs zf z zm zt) H) (hg9 : GoodIn Ts (wsV own index RX2 yX2_fill wsX2_fill)) (hR9 : 0 + 1 ≤ R.frames ∧ 8 + (2 + 11) + 0 ≤ R.locals) (hc9 : cells ≤ R.cells ∧ slots ≤ R.slots) (hl9 : ls.size = nL) (hw9 : (rest.map fun v => v.category).sum ≤ 8) (hdg : decode cc pc = .ok (.invokevirtual index, 3)) (hI : iwC ad) (hA : ∀ x, awC ad x → A0 x) (hS : va_S A0 H0 H locs) (kk : ∀ (H1 : Heap) (locs1 : List Loc), va_P (dC, dI) vwCl (wC cI cZ ad sm fe ex dy gp gc op gr st dl wo n yc ya ys yd q zc zp zr (upd zs k (nI rk)) (upd zf k (nI 1)) z (lN (mm - rk)) (lN (tt - pk))) H1 → va_S A0 H0 H1 locs1 → (∀ q : Nat, q < H.size → ¬ awC ad q → H1[q]? = H[q]?) → W p l e R s m args below meth c H1 locs1 cells slots Q (F0 m (pc + 3) ls (rest))) : W p l e R s m args below meth c H locs cells slots Q (F0 m pc ls (.int (nI k) :: .ref (ad 14) :: rest)) := va_callv (va_runV (As := [.int (nI k)]) (rest := rest) ⟨hx, hb, hml, hown, hts⟩ (c_X2_fill (dC := dC) (dI := dI) (cI := cI) (cZ := cZ) (ad := ad) (sm := sm) (fe := fe) (ex := ex) (dy := dy) (gp := gp) (gc := gc) (op := op) (gr := gr) (st := st) (dl := dl) (wo := wo) (n := n) (yc := yc) (ya := ya) (ys := ys) (yd := yd) (q := q) (zc := zc) (zp := zp) (zr := zr) (zs := zs) (zf := zf) (z := z) (zm := zm) (zt := zt) (k := k) (rk := rk) (pk := pk) (mm := mm) (tt := tt) l hI hk hr1 hp1 hb1 hb2 hm ht0 h1 h2) (cwV 1 hts hg9 rfl rfl rfl (by decide +kernel) hR9) ⟨fun a U g mk q => ⟨q.1, q.2.1, va_K.moved (u := U) (U := U.calling g mk a) (Vm.Alike.refl U.vm) q.2.2⟩, rC_14 hK hP, fun U hU hW => ⟨rfl, by rw [hU]; exact hP, va_K.moved hW.alike hK⟩⟩ rfl rfl hl9 rfl (lv_room hw9) hdg hc9) hS (fun q _ h => hA q h) hA (fun u t H1 locs1 ht _ hu hB hz hk hS1 => kk H1 locs1 (by rw [ht] at hB; exact hB) hS1 hk)
end
set_option maxHeartbeats 4000000 in
set_option maxRecDepth 100000 in
theorem c_X2_notFullBelow (l : Launch) {dC : Nat → ClassId} {dI : Nat → Nat → Nat} {cI cZ : ClassId} {ad : Nat → Nat} {sm fe ex dy : Int32} {gp gc op gr st dl wo : Nat → Int32} {n : Nat} {yc ya ys yd : Nat → Int32} {q : Nat} {zc zp zr zs zf : Nat → Int32} {z : Nat} {zm zt : Int64} {L : List Nat} {pf : Nat → Nat} {rf : Nat → Nat} {A : Nat → Bool} {k : Nat} (hR : repL pf rf L zc zp zr z) (hB : bndL pf rf L) (hF : flA L A zf z) (hk : k < 2 ^ 31) : Met l yX2_notFullBelow wsX2_notFullBelow { frames := 0, cells := 0, slots := 0, locals := 0 } (va_Pc [.ref (ad 14), .int (nI k)] (fun U => va_P (dC, dI) vwCl (wC cI cZ ad sm fe ex dy gp gc op gr st dl wo n yc ya ys yd q zc zp zr zs zf z zm zt) U.heap ∧ va_K (dC, dI) vwCl [(cI, .int), (cZ, .boolean)] U)) (vp_Si (fun r => r = nI (cntB A k L))) 0 0 (fun _ => False) := by
  refine Met.ofW (cc := cX2_notFullBelow) (maxL := 4) (ret := (some .int)) (by decide) rfl ?_
  intro p e s m args below meth c s₁ B hml hv
  obtain ⟨rfl, hP, hK⟩ := hv
  have hx := B.exec
  have hb := B.bytes
  have hr := B.returns
  have hts := atoms_spec (ws := wsX2_notFullBelow) B.pre
  have hown : s.vm.findClass RX2 = some m.cls := findClass_of_methodNamed B.named
  have hlocks := B.notSynchronized
  have hl := lv_entry ([.ref (ad 14), .int (nI k)]) (n := 4) (Nat.le_of_ble_eq_true rfl)
  rw [lg_entry_eq]
  generalize (lg_sl ([.ref (ad 14), .int (nI k)]) ++ List.replicate (4 - (lg_sl ([.ref (ad 14), .int (nI k)])).length) Slot.unset).toArray = ls at hl ⊢
  have hl : lv_has ls 4 [(0, .ref (ad 14)), (1, .int (nI k))] := hl
  have hz := hR.z hB
  have hzl := hR.1
  have hiX2 : ∀ w ∈ wsX20, w ∈ wsX2_notFullBelow := by decide +kernel
  have hf28 := hts (.fieldLink RX2 28 "SettlementFund$Sharing" "size" "I") (by decide +kernel)
  have hf24 := hts (.fieldLink RX2 24 "SettlementFund$Sharing" "isFull" "[Z") (by decide +kernel)
  have hf9 := hts (.fieldLink RX2 9 "SettlementFund$Sharing" "claim" "[I") (by decide +kernel)
  refine lv_iconst (v := nI 0) hx hb dX2_notFullBelow_0 (by decide) ?_
  refine lv_istore_n (lv' := [(2, .int (nI 0)), (0, .ref (ad 14)), (1, .int (nI k))]) hx hb dX2_notFullBelow_1 rfl hl (by decide) rfl (fun ls hl => ?_)
  refine lv_iconst (v := nI 0) hx hb dX2_notFullBelow_2 (by decide) ?_
  refine lv_istore_n (lv' := [(3, .int (nI 0)), (2, .int (nI 0)), (0, .ref (ad 14)), (1, .int (nI k))]) hx hb dX2_notFullBelow_3 rfl hl (by decide) rfl (fun ls hl => ?_)
  have e_1 : nI 0 = nI (cntB A k (L.take 0)) := rfl
  rw [e_1] at hl
  refine zl_ro (fun a9 : Nat => [(0, .ref (ad 14)), (1, .int (nI k)), (2, .int (nI (cntB A k (L.take a9)))), (3, .int (nI a9))]) (fun a9 : Nat => a9 ≤ z) (fun a9 : Nat => z - a9) 0 (Nat.zero_le _) (lv_sub hl [2, 3, 1, 0] rfl) ?_
  intro a9 hi_4 ih_4 ls hl
  obtain ⟨i, rfl⟩ : ∃ z, z = a9 := ⟨_, rfl⟩
  have hi_4 : i ≤ z := hi_4
  have hl : lv_has ls 4 [(0, .ref (ad 14)), (1, .int (nI k)), (2, .int (nI (cntB A k (L.take i)))), (3, .int (nI i))] := hl
  refine lv_iload_n hx hb dX2_notFullBelow_4 rfl (lv_at hl 3 rfl) ?_
  refine lv_aload_n hx hb dX2_notFullBelow_5 rfl (lv_at hl 0 rfl) ?_
  refine gC_14_5 hx hb hts hiX2 hown hK hP hf28 dX2_notFullBelow_6 ?_
  refine zb_ge (tgt := 40) hx hb (by omega) (by omega) dX2_notFullBelow_9 (by decide) (fun c_9 => ?_) (fun c_9 => ?_)
  · refine lv_iload_n hx hb dX2_notFullBelow_40 rfl (lv_at hl 2 rfl) ?_
    exact W.iret (v := nI (cntB A k (L.take i))) hx hb hr (fun t ht hW => ⟨nI (cntB A k (L.take i)), rfl, by rw [take_all hzl (by omega)], ht⟩) (fun _ h => nomatch h) dX2_notFullBelow_41
  · refine lv_aload_n hx hb dX2_notFullBelow_12 rfl (lv_at hl 0 rfl) ?_
    refine gC_14_4 hx hb hts hiX2 hown hK hP hf24 dX2_notFullBelow_13 ?_
    refine lv_iload_n hx hb dX2_notFullBelow_16 rfl (lv_at hl 3 rfl) ?_
    refine lC_19 hx hb hK hP (by omega) dX2_notFullBelow_17 ?_
    refine zt_i (y := nI (if A (lg L i) = true then 0 else 1)) (hF i (by omega)) ?_
    refine zi_ne (tgt := 34) hx hb (by split <;> decide) dX2_notFullBelow_18 (by decide) (fun c_18 => ?_) (fun c_18 => ?_)
    · refine lv_iinc (v := nI (i + 1)) (lv' := [(3, .int (nI (i + 1))), (0, .ref (ad 14)), (1, .int (nI k)), (2, .int (nI (cntB A k (L.take i))))]) hx hb dX2_notFullBelow_34 hl (k := 3) rfl (zz_inc _) (by decide) rfl (fun ls hl => ?_)
      refine lv_goto (tgt := 4) hx hb dX2_notFullBelow_37 (by decide) ?_
      have e_2 : nI (cntB A k (L.take i)) = nI (cntB A k (L.take (i + 1))) := by rw [cntB_s (by omega)]; simp [zz_ifn1 c_18]
      rw [e_2] at hl
      exact ih_4 (i + 1) (by omega) (by omega) ls (lv_sub hl [1, 2, 3, 0] rfl)
    · refine lv_aload_n hx hb dX2_notFullBelow_21 rfl (lv_at hl 0 rfl) ?_
      refine gC_14_0 hx hb hts hiX2 hown hK hP hf9 dX2_notFullBelow_22 ?_
      refine lv_iload_n hx hb dX2_notFullBelow_25 rfl (lv_at hl 3 rfl) ?_
      refine lC_15 hx hb hK hP (by omega) dX2_notFullBelow_26 ?_
      refine zt_i (y := nI (lg L i)) ((hR.2 i (by omega)).1) ?_
      have hlg := (hR.b hB (i := i) (by omega)).1
      refine lv_iload_n hx hb dX2_notFullBelow_27 rfl (lv_at hl 1 rfl) ?_
      refine zb_ge (tgt := 34) hx hb (by omega) (by omega) dX2_notFullBelow_28 (by decide) (fun c_28 => ?_) (fun c_28 => ?_)
      · refine lv_iinc (v := nI (i + 1)) (lv' := [(3, .int (nI (i + 1))), (0, .ref (ad 14)), (1, .int (nI k)), (2, .int (nI (cntB A k (L.take i))))]) hx hb dX2_notFullBelow_34 hl (k := 3) rfl (zz_inc _) (by decide) rfl (fun ls hl => ?_)
        refine lv_goto (tgt := 4) hx hb dX2_notFullBelow_37 (by decide) ?_
        have e_3 : nI (cntB A k (L.take i)) = nI (cntB A k (L.take (i + 1))) := by rw [cntB_s (by omega)]; simp [zz_ifn0 c_18, show ¬ lg L i < k by omega]
        rw [e_3] at hl
        exact ih_4 (i + 1) (by omega) (by omega) ls (lv_sub hl [1, 2, 3, 0] rfl)
      · refine lv_iinc (v := nI (cntB A k (L.take i) + 1)) (lv' := [(2, .int (nI (cntB A k (L.take i) + 1))), (0, .ref (ad 14)), (1, .int (nI k)), (3, .int (nI i))]) hx hb dX2_notFullBelow_31 hl (k := 2) rfl (zz_inc _) (by decide) rfl (fun ls hl => ?_)
        refine lv_iinc (v := nI (i + 1)) (lv' := [(3, .int (nI (i + 1))), (2, .int (nI (cntB A k (L.take i) + 1))), (0, .ref (ad 14)), (1, .int (nI k))]) hx hb dX2_notFullBelow_34 hl (k := 3) rfl (zz_inc _) (by decide) rfl (fun ls hl => ?_)
        refine lv_goto (tgt := 4) hx hb dX2_notFullBelow_37 (by decide) ?_
        have e_4 : nI (cntB A k (L.take i) + 1) = nI (cntB A k (L.take (i + 1))) := by rw [cntB_s (by omega)]; simp [zz_ifn0 c_18, show  lg L i < k by omega]
        rw [e_4] at hl
        exact ih_4 (i + 1) (by omega) (by omega) ls (lv_sub hl [2, 3, 1, 0] rfl)
section
variable {p : Program} {e : Env} {R : Room} {s : State} {m : MethodId} {args : Array Value} {below : List Frame} {meth : Method} {c : Code} {H : Heap} {locs : List Loc} {cells slots : Nat} {Q : State → Prop} {cc : ByteArray} {pc : Nat} {ls : Array Slot} {rest : List Value} {own : String} {index nL : Nat} {Ts : List Cond} {H0 : Heap} {A0 : Nat → Prop}
theorem k_X2_notFullBelow (l : Launch) {dC : Nat → ClassId} {dI : Nat → Nat → Nat} {cI cZ : ClassId} {ad : Nat → Nat} {sm fe ex dy : Int32} {gp gc op gr st dl wo : Nat → Int32} {n : Nat} {yc ya ys yd : Nat → Int32} {q : Nat} {zc zp zr zs zf : Nat → Int32} {z : Nat} {zm zt : Int64} {L : List Nat} {pf : Nat → Nat} {rf : Nat → Nat} {A : Nat → Bool} {k : Nat} (hR : repL pf rf L zc zp zr z) (hB : bndL pf rf L) (hF : flA L A zf z) (hk : k < 2 ^ 31) (hx : p.tables.exec = Jvm.exec) (hb : c.code = cc) (hml : c.maxLocals = nL) (hown : s.vm.findClass own = some m.cls) (hts : ∀ w ∈ Ts, w.before args s = true) (hK : va_K (dC, dI) vwCl [(cI, .int), (cZ, .boolean)] s) (hP : va_P (dC, dI) vwCl (wC cI cZ ad sm fe ex dy gp gc op gr st dl wo n yc ya ys yd q zc zp zr zs zf z zm zt) H) (hg9 : GoodIn Ts (wsV own index RX2 yX2_notFullBelow wsX2_notFullBelow)) (hR9 : 0 + 1 ≤ R.frames ∧ 8 + (4 + 11) + 0 ≤ R.locals) (hc9 : cells ≤ R.cells ∧ slots ≤ R.slots) (hl9 : ls.size = nL) (hw9 : (rest.map fun v => v.category).sum ≤ 8) (hdg : decode cc pc = .ok (.invokevirtual index, 3)) (kk : W p l e R s m args below meth c H locs cells slots Q (F0 m (pc + 3) ls (.int (nI (cntB A k L)) :: rest))) : W p l e R s m args below meth c H locs cells slots Q (F0 m pc ls (.int (nI k) :: .ref (ad 14) :: rest)) := zc_ro (W.runV (As := [.int (nI k)]) (rest := rest) ⟨hx, hb, hml, hown, hts⟩ (c_X2_notFullBelow (dC := dC) (dI := dI) (cI := cI) (cZ := cZ) (ad := ad) (sm := sm) (fe := fe) (ex := ex) (dy := dy) (gp := gp) (gc := gc) (op := op) (gr := gr) (st := st) (dl := dl) (wo := wo) (n := n) (yc := yc) (ya := ya) (ys := ys) (yd := yd) (q := q) (zc := zc) (zp := zp) (zr := zr) (zs := zs) (zf := zf) (z := z) (zm := zm) (zt := zt) (L := L) (pf := pf) (rf := rf) (A := A) (k := k) l hR hB hF hk) (cwV 1 hts hg9 rfl rfl rfl (by decide +kernel) hR9) ⟨fun a U g mk q => ⟨q.1, q.2.1, va_K.moved (u := U) (U := U.calling g mk a) (Vm.Alike.refl U.vm) q.2.2⟩, rC_14 hK hP, fun U hU hW => ⟨rfl, by rw [hU]; exact hP, va_K.moved hW.alike hK⟩⟩ rfl rfl hl9 rfl (lv_room hw9) hdg hc9) (fun r h => by subst h; exact kk)
end
set_option maxHeartbeats 4000000 in
set_option maxRecDepth 100000 in
theorem c_X2_shareGivenTo (l : Launch) {dC : Nat → ClassId} {dI : Nat → Nat → Nat} {cI cZ : ClassId} {ad : Nat → Nat} {sm fe ex dy : Int32} {gp gc op gr st dl wo : Nat → Int32} {n : Nat} {yc ya ys yd : Nat → Int32} {q : Nat} {zc zp zr zs zf : Nat → Int32} {z : Nat} {zm zt : Int64} {L : List Nat} {pf : Nat → Nat} {rf : Nat → Nat} {sf : Nat → Nat} {k : Nat} (hR : repL pf rf L zc zp zr z) (hB : bndL pf rf L) (hs : ∀ i, i < z → zs i = nI (sf (lg L i))) (hk : k < 2 ^ 31) : Met l yX2_shareGivenTo wsX2_shareGivenTo { frames := 0, cells := 0, slots := 0, locals := 0 } (va_Pc [.ref (ad 14), .int (nI k)] (fun U => va_P (dC, dI) vwCl (wC cI cZ ad sm fe ex dy gp gc op gr st dl wo n yc ya ys yd q zc zp zr zs zf z zm zt) U.heap ∧ va_K (dC, dI) vwCl [(cI, .int), (cZ, .boolean)] U)) (vp_Si (fun r => r = nI (if k ∈ L then sf k else 0))) 0 0 (fun _ => False) := by
  refine Met.ofW (cc := cX2_shareGivenTo) (maxL := 3) (ret := (some .int)) (by decide) rfl ?_
  intro p e s m args below meth c s₁ B hml hv
  obtain ⟨rfl, hP, hK⟩ := hv
  have hx := B.exec
  have hb := B.bytes
  have hr := B.returns
  have hts := atoms_spec (ws := wsX2_shareGivenTo) B.pre
  have hown : s.vm.findClass RX2 = some m.cls := findClass_of_methodNamed B.named
  have hlocks := B.notSynchronized
  have hl := lv_entry ([.ref (ad 14), .int (nI k)]) (n := 3) (Nat.le_of_ble_eq_true rfl)
  rw [lg_entry_eq]
  generalize (lg_sl ([.ref (ad 14), .int (nI k)]) ++ List.replicate (3 - (lg_sl ([.ref (ad 14), .int (nI k)])).length) Slot.unset).toArray = ls at hl ⊢
  have hl : lv_has ls 3 [(0, .ref (ad 14)), (1, .int (nI k))] := hl
  have hz := hR.z hB
  have hzl := hR.1
  have hiX2 : ∀ w ∈ wsX20, w ∈ wsX2_shareGivenTo := by decide +kernel
  have hf28 := hts (.fieldLink RX2 28 "SettlementFund$Sharing" "size" "I") (by decide +kernel)
  have hf9 := hts (.fieldLink RX2 9 "SettlementFund$Sharing" "claim" "[I") (by decide +kernel)
  have hf21 := hts (.fieldLink RX2 21 "SettlementFund$Sharing" "share" "[I") (by decide +kernel)
  refine lv_iconst (v := nI 0) hx hb dX2_shareGivenTo_0 (by decide) ?_
  refine lv_istore_n (lv' := [(2, .int (nI 0)), (0, .ref (ad 14)), (1, .int (nI k))]) hx hb dX2_shareGivenTo_1 rfl hl (by decide) rfl (fun ls hl => ?_)
  refine zl_ro (fun a9 : Nat => [(0, .ref (ad 14)), (1, .int (nI k)), (2, .int (nI a9))]) (fun a9 : Nat => a9 ≤ z ∧ ∀ j, j < a9 → lg L j ≠ k) (fun a9 : Nat => z - a9) 0 (⟨Nat.zero_le _, fun j h => absurd h (Nat.not_lt_zero j)⟩) (lv_sub hl [1, 2, 0] rfl) ?_
  intro a9 hi_2 ih_2 ls hl
  obtain ⟨i, rfl⟩ : ∃ z, z = a9 := ⟨_, rfl⟩
  have hi_2 : i ≤ z ∧ ∀ j, j < i → lg L j ≠ k := hi_2
  obtain ⟨hi, ho⟩ := hi_2
  have hl : lv_has ls 3 [(0, .ref (ad 14)), (1, .int (nI k)), (2, .int (nI i))] := hl
  refine lv_iload_n hx hb dX2_shareGivenTo_2 rfl (lv_at hl 2 rfl) ?_
  refine lv_aload_n hx hb dX2_shareGivenTo_3 rfl (lv_at hl 0 rfl) ?_
  refine gC_14_5 hx hb hts hiX2 hown hK hP hf28 dX2_shareGivenTo_4 ?_
  refine zb_ge (tgt := 33) hx hb (by omega) (by omega) dX2_shareGivenTo_7 (by decide) (fun c_7 => ?_) (fun c_7 => ?_)
  · refine lv_iconst (v := nI 0) hx hb dX2_shareGivenTo_33 (by decide) ?_
    exact W.iret (v := nI 0) hx hb hr (fun t ht hW => ⟨nI 0, rfl, by rw [if_neg (fun h => by obtain ⟨j, h1, h2⟩ := mem_lg h; exact ho j (by omega) h2)], ht⟩) (fun _ h => nomatch h) dX2_shareGivenTo_34
  · refine lv_aload_n hx hb dX2_shareGivenTo_10 rfl (lv_at hl 0 rfl) ?_
    refine gC_14_0 hx hb hts hiX2 hown hK hP hf9 dX2_shareGivenTo_11 ?_
    refine lv_iload_n hx hb dX2_shareGivenTo_14 rfl (lv_at hl 2 rfl) ?_
    refine lC_15 hx hb hK hP (by omega) dX2_shareGivenTo_15 ?_
    refine zt_i (y := nI (lg L i)) ((hR.2 i (by omega)).1) ?_
    have hlg := (hR.b hB (i := i) (by omega)).1
    refine lv_iload_n hx hb dX2_shareGivenTo_16 rfl (lv_at hl 1 rfl) ?_
    refine zb_ne (tgt := 27) hx hb (by omega) (by omega) dX2_shareGivenTo_17 (by decide) (fun c_17 => ?_) (fun c_17 => ?_)
    · refine lv_iinc (v := nI (i + 1)) (lv' := [(2, .int (nI (i + 1))), (0, .ref (ad 14)), (1, .int (nI k))]) hx hb dX2_shareGivenTo_27 hl (k := 2) rfl (zz_inc _) (by decide) rfl (fun ls hl => ?_)
      refine lv_goto (tgt := 2) hx hb dX2_shareGivenTo_30 (by decide) ?_
      exact ih_2 (i + 1) (⟨by omega, lt_s ho c_17⟩) (by omega) ls (lv_sub hl [1, 2, 0] rfl)
    · refine lv_aload_n hx hb dX2_shareGivenTo_20 rfl (lv_at hl 0 rfl) ?_
      refine gC_14_3 hx hb hts hiX2 hown hK hP hf21 dX2_shareGivenTo_21 ?_
      refine lv_iload_n hx hb dX2_shareGivenTo_24 rfl (lv_at hl 2 rfl) ?_
      refine lC_18 hx hb hK hP (by omega) dX2_shareGivenTo_25 ?_
      refine zt_i (y := nI (sf (lg L i))) (hs i (by omega)) ?_
      exact W.iret (v := nI (sf (lg L i))) hx hb hr (fun t ht hW => ⟨nI (sf (lg L i)), rfl, by rw [← c_17, if_pos (lg_mem (by omega))], ht⟩) (fun _ h => nomatch h) dX2_shareGivenTo_26
section
variable {p : Program} {e : Env} {R : Room} {s : State} {m : MethodId} {args : Array Value} {below : List Frame} {meth : Method} {c : Code} {H : Heap} {locs : List Loc} {cells slots : Nat} {Q : State → Prop} {cc : ByteArray} {pc : Nat} {ls : Array Slot} {rest : List Value} {own : String} {index nL : Nat} {Ts : List Cond} {H0 : Heap} {A0 : Nat → Prop}
theorem k_X2_shareGivenTo (l : Launch) {dC : Nat → ClassId} {dI : Nat → Nat → Nat} {cI cZ : ClassId} {ad : Nat → Nat} {sm fe ex dy : Int32} {gp gc op gr st dl wo : Nat → Int32} {n : Nat} {yc ya ys yd : Nat → Int32} {q : Nat} {zc zp zr zs zf : Nat → Int32} {z : Nat} {zm zt : Int64} {L : List Nat} {pf : Nat → Nat} {rf : Nat → Nat} {sf : Nat → Nat} {k : Nat} (hR : repL pf rf L zc zp zr z) (hB : bndL pf rf L) (hs : ∀ i, i < z → zs i = nI (sf (lg L i))) (hk : k < 2 ^ 31) (hx : p.tables.exec = Jvm.exec) (hb : c.code = cc) (hml : c.maxLocals = nL) (hown : s.vm.findClass own = some m.cls) (hts : ∀ w ∈ Ts, w.before args s = true) (hK : va_K (dC, dI) vwCl [(cI, .int), (cZ, .boolean)] s) (hP : va_P (dC, dI) vwCl (wC cI cZ ad sm fe ex dy gp gc op gr st dl wo n yc ya ys yd q zc zp zr zs zf z zm zt) H) (hg9 : GoodIn Ts (wsV own index RX2 yX2_shareGivenTo wsX2_shareGivenTo)) (hR9 : 0 + 1 ≤ R.frames ∧ 8 + (3 + 11) + 0 ≤ R.locals) (hc9 : cells ≤ R.cells ∧ slots ≤ R.slots) (hl9 : ls.size = nL) (hw9 : (rest.map fun v => v.category).sum ≤ 8) (hdg : decode cc pc = .ok (.invokevirtual index, 3)) (kk : W p l e R s m args below meth c H locs cells slots Q (F0 m (pc + 3) ls (.int (nI (if k ∈ L then sf k else 0)) :: rest))) : W p l e R s m args below meth c H locs cells slots Q (F0 m pc ls (.int (nI k) :: .ref (ad 14) :: rest)) := zc_ro (W.runV (As := [.int (nI k)]) (rest := rest) ⟨hx, hb, hml, hown, hts⟩ (c_X2_shareGivenTo (dC := dC) (dI := dI) (cI := cI) (cZ := cZ) (ad := ad) (sm := sm) (fe := fe) (ex := ex) (dy := dy) (gp := gp) (gc := gc) (op := op) (gr := gr) (st := st) (dl := dl) (wo := wo) (n := n) (yc := yc) (ya := ya) (ys := ys) (yd := yd) (q := q) (zc := zc) (zp := zp) (zr := zr) (zs := zs) (zf := zf) (z := z) (zm := zm) (zt := zt) (L := L) (pf := pf) (rf := rf) (sf := sf) (k := k) l hR hB hs hk) (cwV 1 hts hg9 rfl rfl rfl (by decide +kernel) hR9) ⟨fun a U g mk q => ⟨q.1, q.2.1, va_K.moved (u := U) (U := U.calling g mk a) (Vm.Alike.refl U.vm) q.2.2⟩, rC_14 hK hP, fun U hU hW => ⟨rfl, by rw [hU]; exact hP, va_K.moved hW.alike hK⟩⟩ rfl rfl hl9 rfl (lv_room hw9) hdg hc9) (fun r h => by subst h; exact kk)
end
set_option maxHeartbeats 4000000 in
set_option maxRecDepth 100000 in
theorem c_X2_gainers (l : Launch) {dC : Nat → ClassId} {dI : Nat → Nat → Nat} {cI cZ : ClassId} {ad : Nat → Nat} {sm fe ex dy : Int32} {gp gc op gr st dl wo : Nat → Int32} {n : Nat} {yc ya ys yd : Nat → Int32} {q : Nat} {zc zp zr zs zf : Nat → Int32} {z : Nat} {zm zt : Int64} {L : List Nat} {pf : Nat → Nat} {rf : Nat → Nat} {sf : Nat → Nat} (hR : repL pf rf L zc zp zr z) (hB : bndL pf rf L) (hs : ∀ i, i < z → zs i = nI (sf (lg L i)) ∧ sf (lg L i) < 2 ^ 31) : Met l yX2_gainers wsX2_gainers { frames := 0, cells := 0, slots := 0, locals := 0 } (va_Pc [.ref (ad 14)] (fun U => va_P (dC, dI) vwCl (wC cI cZ ad sm fe ex dy gp gc op gr st dl wo n yc ya ys yd q zc zp zr zs zf z zm zt) U.heap ∧ va_K (dC, dI) vwCl [(cI, .int), (cZ, .boolean)] U)) (vp_Si (fun r => r = nI (wsum (fun _ => 1) (fun k => decide (0 < sf k)) L))) 0 0 (fun _ => False) := by
  refine Met.ofW (cc := cX2_gainers) (maxL := 3) (ret := (some .int)) (by decide) rfl ?_
  intro p e s m args below meth c s₁ B hml hv
  obtain ⟨rfl, hP, hK⟩ := hv
  have hx := B.exec
  have hb := B.bytes
  have hr := B.returns
  have hts := atoms_spec (ws := wsX2_gainers) B.pre
  have hown : s.vm.findClass RX2 = some m.cls := findClass_of_methodNamed B.named
  have hlocks := B.notSynchronized
  have hl := lv_entry ([.ref (ad 14)]) (n := 3) (Nat.le_of_ble_eq_true rfl)
  rw [lg_entry_eq]
  generalize (lg_sl ([.ref (ad 14)]) ++ List.replicate (3 - (lg_sl ([.ref (ad 14)])).length) Slot.unset).toArray = ls at hl ⊢
  have hl : lv_has ls 3 [(0, .ref (ad 14))] := hl
  have hz := hR.z hB
  have hzl := hR.1
  have hiX2 : ∀ w ∈ wsX20, w ∈ wsX2_gainers := by decide +kernel
  have hf28 := hts (.fieldLink RX2 28 "SettlementFund$Sharing" "size" "I") (by decide +kernel)
  have hf21 := hts (.fieldLink RX2 21 "SettlementFund$Sharing" "share" "[I") (by decide +kernel)
  refine lv_iconst (v := nI 0) hx hb dX2_gainers_0 (by decide) ?_
  refine lv_istore_n (lv' := [(1, .int (nI 0)), (0, .ref (ad 14))]) hx hb dX2_gainers_1 rfl hl (by decide) rfl (fun ls hl => ?_)
  refine lv_iconst (v := nI 0) hx hb dX2_gainers_2 (by decide) ?_
  refine lv_istore_n (lv' := [(2, .int (nI 0)), (1, .int (nI 0)), (0, .ref (ad 14))]) hx hb dX2_gainers_3 rfl hl (by decide) rfl (fun ls hl => ?_)
  have e_1 : nI 0 = nI (wsum (fun _ => 1) (fun k => decide (0 < sf k)) (L.take 0)) := rfl
  rw [e_1] at hl
  refine zl_ro (fun a9 : Nat => [(0, .ref (ad 14)), (1, .int (nI (wsum (fun _ => 1) (fun k => decide (0 < sf k)) (L.take a9)))), (2, .int (nI a9))]) (fun a9 : Nat => a9 ≤ z) (fun a9 : Nat => z - a9) 0 (Nat.zero_le _) (lv_sub hl [2, 1, 0] rfl) ?_
  intro a9 hi_4 ih_4 ls hl
  obtain ⟨i, rfl⟩ : ∃ z, z = a9 := ⟨_, rfl⟩
  have hi_4 : i ≤ z := hi_4
  have hl : lv_has ls 3 [(0, .ref (ad 14)), (1, .int (nI (wsum (fun _ => 1) (fun k => decide (0 < sf k)) (L.take i)))), (2, .int (nI i))] := hl
  refine lv_iload_n hx hb dX2_gainers_4 rfl (lv_at hl 2 rfl) ?_
  refine lv_aload_n hx hb dX2_gainers_5 rfl (lv_at hl 0 rfl) ?_
  refine gC_14_5 hx hb hts hiX2 hown hK hP hf28 dX2_gainers_6 ?_
  refine zb_ge (tgt := 30) hx hb (by omega) (by omega) dX2_gainers_9 (by decide) (fun c_9 => ?_) (fun c_9 => ?_)
  · refine lv_iload_n hx hb dX2_gainers_30 rfl (lv_at hl 1 rfl) ?_
    exact W.iret (v := nI (wsum (fun _ => 1) (fun k => decide (0 < sf k)) (L.take i))) hx hb hr (fun t ht hW => ⟨nI (wsum (fun _ => 1) (fun k => decide (0 < sf k)) (L.take i)), rfl, by rw [take_all hzl (by omega)], ht⟩) (fun _ h => nomatch h) dX2_gainers_31
  · refine lv_aload_n hx hb dX2_gainers_12 rfl (lv_at hl 0 rfl) ?_
    refine gC_14_3 hx hb hts hiX2 hown hK hP hf21 dX2_gainers_13 ?_
    refine lv_iload_n hx hb dX2_gainers_16 rfl (lv_at hl 2 rfl) ?_
    refine lC_18 hx hb hK hP (by omega) dX2_gainers_17 ?_
    refine zt_i (y := nI (sf (lg L i))) ((hs i (by omega)).1) ?_
    refine zi_le (tgt := 24) hx hb ((hs i (by omega)).2) dX2_gainers_18 (by decide) (fun c_18 => ?_) (fun c_18 => ?_)
    · refine lv_iinc (v := nI (i + 1)) (lv' := [(2, .int (nI (i + 1))), (0, .ref (ad 14)), (1, .int (nI (wsum (fun _ => 1) (fun k => decide (0 < sf k)) (L.take i))))]) hx hb dX2_gainers_24 hl (k := 2) rfl (zz_inc _) (by decide) rfl (fun ls hl => ?_)
      refine lv_goto (tgt := 4) hx hb dX2_gainers_27 (by decide) ?_
      have e_2 : nI (wsum (fun _ => 1) (fun k => decide (0 < sf k)) (L.take i)) = nI (wsum (fun _ => 1) (fun k => decide (0 < sf k)) (L.take (i + 1))) := by rw [wsum_take _ _ _ (by omega)]; simp only [← show lg L i = L.getD i 0 from rfl]; simp [show ¬ 0 < sf (lg L i) by omega]
      rw [e_2] at hl
      exact ih_4 (i + 1) (by omega) (by omega) ls (lv_sub hl [1, 2, 0] rfl)
    · refine lv_iinc (v := nI (wsum (fun _ => 1) (fun k => decide (0 < sf k)) (L.take i) + 1)) (lv' := [(1, .int (nI (wsum (fun _ => 1) (fun k => decide (0 < sf k)) (L.take i) + 1))), (0, .ref (ad 14)), (2, .int (nI i))]) hx hb dX2_gainers_21 hl (k := 1) rfl (zz_inc _) (by decide) rfl (fun ls hl => ?_)
      refine lv_iinc (v := nI (i + 1)) (lv' := [(2, .int (nI (i + 1))), (1, .int (nI (wsum (fun _ => 1) (fun k => decide (0 < sf k)) (L.take i) + 1))), (0, .ref (ad 14))]) hx hb dX2_gainers_24 hl (k := 2) rfl (zz_inc _) (by decide) rfl (fun ls hl => ?_)
      refine lv_goto (tgt := 4) hx hb dX2_gainers_27 (by decide) ?_
      have e_3 : nI (wsum (fun _ => 1) (fun k => decide (0 < sf k)) (L.take i) + 1) = nI (wsum (fun _ => 1) (fun k => decide (0 < sf k)) (L.take (i + 1))) := by rw [wsum_take _ _ _ (by omega)]; simp only [← show lg L i = L.getD i 0 from rfl]; simp [show 0 < sf (lg L i) by omega]
      rw [e_3] at hl
      exact ih_4 (i + 1) (by omega) (by omega) ls (lv_sub hl [2, 1, 0] rfl)
section
variable {p : Program} {e : Env} {R : Room} {s : State} {m : MethodId} {args : Array Value} {below : List Frame} {meth : Method} {c : Code} {H : Heap} {locs : List Loc} {cells slots : Nat} {Q : State → Prop} {cc : ByteArray} {pc : Nat} {ls : Array Slot} {rest : List Value} {own : String} {index nL : Nat} {Ts : List Cond} {H0 : Heap} {A0 : Nat → Prop}
theorem k_X2_gainers (l : Launch) {dC : Nat → ClassId} {dI : Nat → Nat → Nat} {cI cZ : ClassId} {ad : Nat → Nat} {sm fe ex dy : Int32} {gp gc op gr st dl wo : Nat → Int32} {n : Nat} {yc ya ys yd : Nat → Int32} {q : Nat} {zc zp zr zs zf : Nat → Int32} {z : Nat} {zm zt : Int64} {L : List Nat} {pf : Nat → Nat} {rf : Nat → Nat} {sf : Nat → Nat} (hR : repL pf rf L zc zp zr z) (hB : bndL pf rf L) (hs : ∀ i, i < z → zs i = nI (sf (lg L i)) ∧ sf (lg L i) < 2 ^ 31) (hx : p.tables.exec = Jvm.exec) (hb : c.code = cc) (hml : c.maxLocals = nL) (hown : s.vm.findClass own = some m.cls) (hts : ∀ w ∈ Ts, w.before args s = true) (hK : va_K (dC, dI) vwCl [(cI, .int), (cZ, .boolean)] s) (hP : va_P (dC, dI) vwCl (wC cI cZ ad sm fe ex dy gp gc op gr st dl wo n yc ya ys yd q zc zp zr zs zf z zm zt) H) (hg9 : GoodIn Ts (wsV own index RX2 yX2_gainers wsX2_gainers)) (hR9 : 0 + 1 ≤ R.frames ∧ 8 + (3 + 11) + 0 ≤ R.locals) (hc9 : cells ≤ R.cells ∧ slots ≤ R.slots) (hl9 : ls.size = nL) (hw9 : (rest.map fun v => v.category).sum ≤ 8) (hdg : decode cc pc = .ok (.invokevirtual index, 3)) (kk : W p l e R s m args below meth c H locs cells slots Q (F0 m (pc + 3) ls (.int (nI (wsum (fun _ => 1) (fun k => decide (0 < sf k)) L)) :: rest))) : W p l e R s m args below meth c H locs cells slots Q (F0 m pc ls (.ref (ad 14) :: rest)) := zc_ro (W.runV (As := []) (rest := rest) ⟨hx, hb, hml, hown, hts⟩ (c_X2_gainers (dC := dC) (dI := dI) (cI := cI) (cZ := cZ) (ad := ad) (sm := sm) (fe := fe) (ex := ex) (dy := dy) (gp := gp) (gc := gc) (op := op) (gr := gr) (st := st) (dl := dl) (wo := wo) (n := n) (yc := yc) (ya := ya) (ys := ys) (yd := yd) (q := q) (zc := zc) (zp := zp) (zr := zr) (zs := zs) (zf := zf) (z := z) (zm := zm) (zt := zt) (L := L) (pf := pf) (rf := rf) (sf := sf) l hR hB hs) (cwV 0 hts hg9 rfl rfl rfl (by decide +kernel) hR9) ⟨fun a U g mk q => ⟨q.1, q.2.1, va_K.moved (u := U) (U := U.calling g mk a) (Vm.Alike.refl U.vm) q.2.2⟩, rC_14 hK hP, fun U hU hW => ⟨rfl, by rw [hU]; exact hP, va_K.moved hW.alike hK⟩⟩ rfl rfl hl9 rfl (lv_room hw9) hdg hc9) (fun r h => by subst h; exact kk)
end
set_option maxHeartbeats 4000000 in
set_option maxRecDepth 100000 in
theorem c_X2_placeOfSmallest (l : Launch) {dC : Nat → ClassId} {dI : Nat → Nat → Nat} {cI cZ : ClassId} {ad : Nat → Nat} {sm fe ex dy : Int32} {gp gc op gr st dl wo : Nat → Int32} {n : Nat} {yc ya ys yd : Nat → Int32} {q : Nat} {zc zp zr zs zf : Nat → Int32} {z : Nat} {zm zt : Int64} {L : List Nat} {pf : Nat → Nat} {rf : Nat → Nat} {sf : Nat → Nat} (hR : repL pf rf L zc zp zr z) (hB : bndL pf rf L) (hs : ∀ i, i < z → zs i = nI (sf (lg L i)) ∧ sf (lg L i) < 2 ^ 31) : Met l yX2_placeOfSmallest wsX2_placeOfSmallest { frames := 0, cells := 0, slots := 0, locals := 0 } (va_Pc [.ref (ad 14)] (fun U => va_P (dC, dI) vwCl (wC cI cZ ad sm fe ex dy gp gc op gr st dl wo n yc ya ys yd q zc zp zr zs zf z zm zt) U.heap ∧ va_K (dC, dI) vwCl [(cI, .int), (cZ, .boolean)] U)) (vp_Si (fun r => (z = 0 ∧ r = (-1)) ∨ ∃ v, v < z ∧ r = nI v ∧ ∀ j, j < z → sf (lg L v) < sf (lg L j) ∨ (sf (lg L v) = sf (lg L j) ∧ lg L j ≤ lg L v))) 0 0 (fun _ => False) := by
  refine Met.ofW (cc := cX2_placeOfSmallest) (maxL := 3) (ret := (some .int)) (by decide) rfl ?_
  intro p e s m args below meth c s₁ B hml hv
  obtain ⟨rfl, hP, hK⟩ := hv
  have hx := B.exec
  have hb := B.bytes
  have hr := B.returns
  have hts := atoms_spec (ws := wsX2_placeOfSmallest) B.pre
  have hown : s.vm.findClass RX2 = some m.cls := findClass_of_methodNamed B.named
  have hlocks := B.notSynchronized
  have hl := lv_entry ([.ref (ad 14)]) (n := 3) (Nat.le_of_ble_eq_true rfl)
  rw [lg_entry_eq]
  generalize (lg_sl ([.ref (ad 14)]) ++ List.replicate (3 - (lg_sl ([.ref (ad 14)])).length) Slot.unset).toArray = ls at hl ⊢
  have hl : lv_has ls 3 [(0, .ref (ad 14))] := hl
  have hz := hR.z hB
  have hzl := hR.1
  have hiX2 : ∀ w ∈ wsX20, w ∈ wsX2_placeOfSmallest := by decide +kernel
  have hf28 := hts (.fieldLink RX2 28 "SettlementFund$Sharing" "size" "I") (by decide +kernel)
  have hf21 := hts (.fieldLink RX2 21 "SettlementFund$Sharing" "share" "[I") (by decide +kernel)
  have hf9 := hts (.fieldLink RX2 9 "SettlementFund$Sharing" "claim" "[I") (by decide +kernel)
  refine lv_iconst (v := (-1)) hx hb dX2_placeOfSmallest_0 (by decide) ?_
  refine lv_istore_n (lv' := [(1, .int (-1)), (0, .ref (ad 14))]) hx hb dX2_placeOfSmallest_1 rfl hl (by decide) rfl (fun ls hl => ?_)
  refine lv_iconst (v := nI 0) hx hb dX2_placeOfSmallest_2 (by decide) ?_
  refine lv_istore_n (lv' := [(2, .int (nI 0)), (1, .int (-1)), (0, .ref (ad 14))]) hx hb dX2_placeOfSmallest_3 rfl hl (by decide) rfl (fun ls hl => ?_)
  refine zl_ro (fun a9 : Nat × Int32 => [(0, .ref (ad 14)), (1, .int a9.2), (2, .int (nI a9.1))]) (fun a9 : Nat × Int32 => a9.1 ≤ z ∧ ((a9.1 = 0 ∧ a9.2 = (-1)) ∨ ∃ v, v < a9.1 ∧ a9.2 = nI v ∧ ∀ j, j < a9.1 → sf (lg L v) < sf (lg L j) ∨ (sf (lg L v) = sf (lg L j) ∧ lg L j ≤ lg L v))) (fun a9 : Nat × Int32 => z - a9.1) (0, (-1)) (⟨Nat.zero_le _, Or.inl ⟨rfl, rfl⟩⟩) (lv_sub hl [2, 1, 0] rfl) ?_
  intro a9 hi_4 ih_4 ls hl
  obtain ⟨i, f⟩ := a9
  have hi_4 : i ≤ z ∧ ((i = 0 ∧ f = (-1)) ∨ ∃ v, v < i ∧ f = nI v ∧ ∀ j, j < i → sf (lg L v) < sf (lg L j) ∨ (sf (lg L v) = sf (lg L j) ∧ lg L j ≤ lg L v)) := hi_4
  obtain ⟨hi, hf⟩ := hi_4
  have hl : lv_has ls 3 [(0, .ref (ad 14)), (1, .int f), (2, .int (nI i))] := hl
  refine lv_iload_n hx hb dX2_placeOfSmallest_4 rfl (lv_at hl 2 rfl) ?_
  refine lv_aload_n hx hb dX2_placeOfSmallest_5 rfl (lv_at hl 0 rfl) ?_
  refine gC_14_5 hx hb hts hiX2 hown hK hP hf28 dX2_placeOfSmallest_6 ?_
  refine zb_ge (tgt := 70) hx hb (by omega) (by omega) dX2_placeOfSmallest_9 (by decide) (fun c_9 => ?_) (fun c_9 => ?_)
  · refine lv_iload_n hx hb dX2_placeOfSmallest_70 rfl (lv_at hl 1 rfl) ?_
    exact W.iret (v := f) hx hb hr (fun t ht hW => ⟨f, rfl, zz_mine (by omega) hi hf, ht⟩) (fun _ h => nomatch h) dX2_placeOfSmallest_71
  · refine lv_iload_n hx hb dX2_placeOfSmallest_12 rfl (lv_at hl 1 rfl) ?_
    refine lv_iconst (v := (-1)) hx hb dX2_placeOfSmallest_13 (by decide) ?_
    refine lv_icmp_eq (tgt := 62) hx hb dX2_placeOfSmallest_14 (by decide) (fun c_14 => ?_) (fun c_14 => ?_)
    · refine lv_iload_n hx hb dX2_placeOfSmallest_62 rfl (lv_at hl 2 rfl) ?_
      refine lv_istore_n (lv' := [(1, .int (nI i)), (0, .ref (ad 14)), (2, .int (nI i))]) hx hb dX2_placeOfSmallest_63 rfl hl (by decide) rfl (fun ls hl => ?_)
      refine lv_iinc (v := nI (i + 1)) (lv' := [(2, .int (nI (i + 1))), (1, .int (nI i)), (0, .ref (ad 14))]) hx hb dX2_placeOfSmallest_64 hl (k := 2) rfl (zz_inc _) (by decide) rfl (fun ls hl => ?_)
      refine lv_goto (tgt := 4) hx hb dX2_placeOfSmallest_67 (by decide) ?_
      have e_1 : nI i = (nI i) := by first | rfl | (simp [c_9, c_14]; done)
      rw [e_1] at hl
      exact ih_4 (i + 1, nI i) (⟨by omega, Or.inr ⟨i, by omega, rfl, zz_min0 (hf.elim (fun h => h.1) (fun h => by obtain ⟨v, _, h2, _⟩ := h; exact (zz_nm1 (by omega) (h2 ▸ c_14)).elim))⟩⟩) (by omega) ls (lv_sub hl [2, 1, 0] rfl)
    · obtain ⟨v, h1, h2, h3⟩ := hf.resolve_left (fun h => c_14 h.2)
      subst h2
      have hli := (hR.b hB (i := i) (by omega)).1
      have hlv := (hR.b hB (i := v) (by omega)).1
      refine lv_aload_n hx hb dX2_placeOfSmallest_17 rfl (lv_at hl 0 rfl) ?_
      refine gC_14_3 hx hb hts hiX2 hown hK hP hf21 dX2_placeOfSmallest_18 ?_
      refine lv_iload_n hx hb dX2_placeOfSmallest_21 rfl (lv_at hl 2 rfl) ?_
      refine lC_18 hx hb hK hP (by omega) dX2_placeOfSmallest_22 ?_
      refine zt_i (y := nI (sf (lg L i))) ((hs i (by omega)).1) ?_
      refine lv_aload_n hx hb dX2_placeOfSmallest_23 rfl (lv_at hl 0 rfl) ?_
      refine gC_14_3 hx hb hts hiX2 hown hK hP hf21 dX2_placeOfSmallest_24 ?_
      refine lv_iload_n hx hb dX2_placeOfSmallest_27 rfl (lv_at hl 1 rfl) ?_
      refine lC_18 hx hb hK hP (by omega) dX2_placeOfSmallest_28 ?_
      refine zt_i (y := nI (sf (lg L v))) ((hs v (by omega)).1) ?_
      refine zb_lt (tgt := 62) hx hb ((hs i (by omega)).2) ((hs v (by omega)).2) dX2_placeOfSmallest_29 (by decide) (fun c_29 => ?_) (fun c_29 => ?_)
      · refine lv_iload_n hx hb dX2_placeOfSmallest_62 rfl (lv_at hl 2 rfl) ?_
        refine lv_istore_n (lv' := [(1, .int (nI i)), (0, .ref (ad 14)), (2, .int (nI i))]) hx hb dX2_placeOfSmallest_63 rfl hl (by decide) rfl (fun ls hl => ?_)
        refine lv_iinc (v := nI (i + 1)) (lv' := [(2, .int (nI (i + 1))), (1, .int (nI i)), (0, .ref (ad 14))]) hx hb dX2_placeOfSmallest_64 hl (k := 2) rfl (zz_inc _) (by decide) rfl (fun ls hl => ?_)
        refine lv_goto (tgt := 4) hx hb dX2_placeOfSmallest_67 (by decide) ?_
        have e_2 : nI i = (nI i) := by first | rfl | (simp [c_9, c_14, c_29]; done)
        rw [e_2] at hl
        exact ih_4 (i + 1, nI i) (⟨by omega, Or.inr ⟨i, by omega, rfl, zz_minN h3 (Or.inl c_29)⟩⟩) (by omega) ls (lv_sub hl [2, 1, 0] rfl)
      · refine lv_aload_n hx hb dX2_placeOfSmallest_32 rfl (lv_at hl 0 rfl) ?_
        refine gC_14_3 hx hb hts hiX2 hown hK hP hf21 dX2_placeOfSmallest_33 ?_
        refine lv_iload_n hx hb dX2_placeOfSmallest_36 rfl (lv_at hl 2 rfl) ?_
        refine lC_18 hx hb hK hP (by omega) dX2_placeOfSmallest_37 ?_
        refine zt_i (y := nI (sf (lg L i))) ((hs i (by omega)).1) ?_
        refine lv_aload_n hx hb dX2_placeOfSmallest_38 rfl (lv_at hl 0 rfl) ?_
        refine gC_14_3 hx hb hts hiX2 hown hK hP hf21 dX2_placeOfSmallest_39 ?_
        refine lv_iload_n hx hb dX2_placeOfSmallest_42 rfl (lv_at hl 1 rfl) ?_
        refine lC_18 hx hb hK hP (by omega) dX2_placeOfSmallest_43 ?_
        refine zt_i (y := nI (sf (lg L v))) ((hs v (by omega)).1) ?_
        refine zb_ne (tgt := 64) hx hb ((hs i (by omega)).2) ((hs v (by omega)).2) dX2_placeOfSmallest_44 (by decide) (fun c_44 => ?_) (fun c_44 => ?_)
        · refine lv_iinc (v := nI (i + 1)) (lv' := [(2, .int (nI (i + 1))), (0, .ref (ad 14)), (1, .int (nI v))]) hx hb dX2_placeOfSmallest_64 hl (k := 2) rfl (zz_inc _) (by decide) rfl (fun ls hl => ?_)
          refine lv_goto (tgt := 4) hx hb dX2_placeOfSmallest_67 (by decide) ?_
          have e_3 : nI v = (nI v) := by first | rfl | (simp [c_9, c_14, c_29, c_44]; done)
          rw [e_3] at hl
          exact ih_4 (i + 1, nI v) (⟨by omega, Or.inr ⟨v, by omega, rfl, zz_minO h3 (by omega)⟩⟩) (by omega) ls (lv_sub hl [1, 2, 0] rfl)
        · refine lv_aload_n hx hb dX2_placeOfSmallest_47 rfl (lv_at hl 0 rfl) ?_
          refine gC_14_0 hx hb hts hiX2 hown hK hP hf9 dX2_placeOfSmallest_48 ?_
          refine lv_iload_n hx hb dX2_placeOfSmallest_51 rfl (lv_at hl 2 rfl) ?_
          refine lC_15 hx hb hK hP (by omega) dX2_placeOfSmallest_52 ?_
          refine zt_i (y := nI (lg L i)) ((hR.2 i (by omega)).1) ?_
          refine lv_aload_n hx hb dX2_placeOfSmallest_53 rfl (lv_at hl 0 rfl) ?_
          refine gC_14_0 hx hb hts hiX2 hown hK hP hf9 dX2_placeOfSmallest_54 ?_
          refine lv_iload_n hx hb dX2_placeOfSmallest_57 rfl (lv_at hl 1 rfl) ?_
          refine lC_15 hx hb hK hP (by omega) dX2_placeOfSmallest_58 ?_
          refine zt_i (y := nI (lg L v)) ((hR.2 v (by omega)).1) ?_
          refine zb_le (tgt := 64) hx hb (by omega) (by omega) dX2_placeOfSmallest_59 (by decide) (fun c_59 => ?_) (fun c_59 => ?_)
          · refine lv_iinc (v := nI (i + 1)) (lv' := [(2, .int (nI (i + 1))), (0, .ref (ad 14)), (1, .int (nI v))]) hx hb dX2_placeOfSmallest_64 hl (k := 2) rfl (zz_inc _) (by decide) rfl (fun ls hl => ?_)
            refine lv_goto (tgt := 4) hx hb dX2_placeOfSmallest_67 (by decide) ?_
            have e_4 : nI v = (nI v) := by first | rfl | (simp [c_9, c_14, c_29, c_44, c_59]; done)
            rw [e_4] at hl
            exact ih_4 (i + 1, nI v) (⟨by omega, Or.inr ⟨v, by omega, rfl, zz_minO h3 (by omega)⟩⟩) (by omega) ls (lv_sub hl [1, 2, 0] rfl)
          · refine lv_iload_n hx hb dX2_placeOfSmallest_62 rfl (lv_at hl 2 rfl) ?_
            refine lv_istore_n (lv' := [(1, .int (nI i)), (0, .ref (ad 14)), (2, .int (nI i))]) hx hb dX2_placeOfSmallest_63 rfl hl (by decide) rfl (fun ls hl => ?_)
            refine lv_iinc (v := nI (i + 1)) (lv' := [(2, .int (nI (i + 1))), (1, .int (nI i)), (0, .ref (ad 14))]) hx hb dX2_placeOfSmallest_64 hl (k := 2) rfl (zz_inc _) (by decide) rfl (fun ls hl => ?_)
            refine lv_goto (tgt := 4) hx hb dX2_placeOfSmallest_67 (by decide) ?_
            have e_5 : nI i = (nI i) := by first | rfl | (simp [c_9, c_14, c_29, c_44, c_59]; done)
            rw [e_5] at hl
            exact ih_4 (i + 1, nI i) (⟨by omega, Or.inr ⟨i, by omega, rfl, zz_minN h3 (Or.inr ⟨by omega, by omega⟩)⟩⟩) (by omega) ls (lv_sub hl [2, 1, 0] rfl)
section
variable {p : Program} {e : Env} {R : Room} {s : State} {m : MethodId} {args : Array Value} {below : List Frame} {meth : Method} {c : Code} {H : Heap} {locs : List Loc} {cells slots : Nat} {Q : State → Prop} {cc : ByteArray} {pc : Nat} {ls : Array Slot} {rest : List Value} {own : String} {index nL : Nat} {Ts : List Cond} {H0 : Heap} {A0 : Nat → Prop}
theorem k_X2_placeOfSmallest (l : Launch) {dC : Nat → ClassId} {dI : Nat → Nat → Nat} {cI cZ : ClassId} {ad : Nat → Nat} {sm fe ex dy : Int32} {gp gc op gr st dl wo : Nat → Int32} {n : Nat} {yc ya ys yd : Nat → Int32} {q : Nat} {zc zp zr zs zf : Nat → Int32} {z : Nat} {zm zt : Int64} {L : List Nat} {pf : Nat → Nat} {rf : Nat → Nat} {sf : Nat → Nat} (hR : repL pf rf L zc zp zr z) (hB : bndL pf rf L) (hs : ∀ i, i < z → zs i = nI (sf (lg L i)) ∧ sf (lg L i) < 2 ^ 31) (hx : p.tables.exec = Jvm.exec) (hb : c.code = cc) (hml : c.maxLocals = nL) (hown : s.vm.findClass own = some m.cls) (hts : ∀ w ∈ Ts, w.before args s = true) (hK : va_K (dC, dI) vwCl [(cI, .int), (cZ, .boolean)] s) (hP : va_P (dC, dI) vwCl (wC cI cZ ad sm fe ex dy gp gc op gr st dl wo n yc ya ys yd q zc zp zr zs zf z zm zt) H) (hg9 : GoodIn Ts (wsV own index RX2 yX2_placeOfSmallest wsX2_placeOfSmallest)) (hR9 : 0 + 1 ≤ R.frames ∧ 8 + (3 + 11) + 0 ≤ R.locals) (hc9 : cells ≤ R.cells ∧ slots ≤ R.slots) (hl9 : ls.size = nL) (hw9 : (rest.map fun v => v.category).sum ≤ 8) (hdg : decode cc pc = .ok (.invokevirtual index, 3)) (kk : ∀ r : Int32, ((z = 0 ∧ r = (-1)) ∨ ∃ v, v < z ∧ r = nI v ∧ ∀ j, j < z → sf (lg L v) < sf (lg L j) ∨ (sf (lg L v) = sf (lg L j) ∧ lg L j ≤ lg L v)) → W p l e R s m args below meth c H locs cells slots Q (F0 m (pc + 3) ls (.int r :: rest))) : W p l e R s m args below meth c H locs cells slots Q (F0 m pc ls (.ref (ad 14) :: rest)) := zc_ro (W.runV (As := []) (rest := rest) ⟨hx, hb, hml, hown, hts⟩ (c_X2_placeOfSmallest (dC := dC) (dI := dI) (cI := cI) (cZ := cZ) (ad := ad) (sm := sm) (fe := fe) (ex := ex) (dy := dy) (gp := gp) (gc := gc) (op := op) (gr := gr) (st := st) (dl := dl) (wo := wo) (n := n) (yc := yc) (ya := ya) (ys := ys) (yd := yd) (q := q) (zc := zc) (zp := zp) (zr := zr) (zs := zs) (zf := zf) (z := z) (zm := zm) (zt := zt) (L := L) (pf := pf) (rf := rf) (sf := sf) l hR hB hs) (cwV 0 hts hg9 rfl rfl rfl (by decide +kernel) hR9) ⟨fun a U g mk q => ⟨q.1, q.2.1, va_K.moved (u := U) (U := U.calling g mk a) (Vm.Alike.refl U.vm) q.2.2⟩, rC_14 hK hP, fun U hU hW => ⟨rfl, by rw [hU]; exact hP, va_K.moved hW.alike hK⟩⟩ rfl rfl hl9 rfl (lv_room hw9) hdg hc9) kk
end
