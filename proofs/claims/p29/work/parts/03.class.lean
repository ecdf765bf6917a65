/-! plain functions: the claims' book -/
def tallyN (st : Nat → Int32) (w : Int32) : Nat → Nat
  | 0 => 0
  | i + 1 => tallyN st w i + (if st i = w then 1 else 0)
theorem tallyN_le (st : Nat → Int32) (w : Int32) : ∀ i, tallyN st w i ≤ i
  | 0 => Nat.le_refl _
  | i + 1 => by
    have h := tallyN_le st w i
    show tallyN st w i + _ ≤ i + 1
    split <;> omega
def denyF (st dl : Nat → Int32) (d : Int32) : Nat → (Nat → Int32)
  | 0 => st
  | i + 1 => if denyF st dl d i i = nI 1 ∧ ¬ d ≤ dl i then upd (denyF st dl d i) i (nI 2) else denyF st dl d i
def maxI (a b : Int32) : Int32 := if a < b then b else a
def joinS (st : Nat → Int32) (k : Nat) (b : Int32) : Nat → Int32 := if b = 0 ∧ (st k = nI 1 ∨ st k = nI 2) then upd st k (nI 0) else st
theorem zz_out {x : Int32} {n : Nat} (hn : n < 2 ^ 31) (h : ¬ vp_in x n) (h1 : ¬ x < 0) (h2 : ¬ nI n ≤ x) : False := by
  rcases pk_ix x hn with q | q | ⟨j, q1, q2⟩
  · exact h1 q
  · exact h2 q
  · exact h (by rw [q2]; exact vp_in_nI q1 hn)
/-! plain functions: the payments' book -/
def anyB (p : Nat → Bool) : Nat → Bool
  | 0 => false
  | i + 1 => anyB p i || p i
theorem anyB_of {p : Nat → Bool} : ∀ {n i : Nat}, i < n → p i = true → anyB p n = true
  | 0, _, h, _ => absurd h (Nat.not_lt_zero _)
  | n + 1, i, h, hp => by
    show (anyB p n || p n) = true
    rcases Nat.lt_or_ge i n with q | q
    · rw [anyB_of q hp]; rfl
    · have e : i = n := by omega
      subst e
      rw [hp, Bool.or_true]
def voidF (ys yd : Nat → Int32) (d : Int32) : Nat → (Nat → Int32)
  | 0 => ys
  | i + 1 => if voidF ys yd d i i = 0 ∧ ¬ d - yd i ≤ nI 30 then upd (voidF ys yd d i) i (nI 2) else voidF ys yd d i
def sumForI (yc ya ys : Nat → Int32) (w : Int32) : Nat → Int32
  | 0 => nI 0
  | i + 1 => if yc i = w ∧ ¬ ys i = nI 2 then sumForI yc ya ys w i + ya i else sumForI yc ya ys w i
def sumAllI (ya ys : Nat → Int32) : Nat → Int32
  | 0 => nI 0
  | i + 1 => if ¬ ys i = nI 2 then sumAllI ya ys i + ya i else sumAllI ya ys i
def openB (ys : Nat → Int32) (q : Nat) : Bool := anyB (fun k => decide (ys k = 0)) q
def vdB (yc ys : Nat → Int32) (w : Int32) (q : Nat) : Bool := anyB (fun k => decide (yc k = w) && decide (ys k = nI 2)) q
/-! plain functions: the fund -/
theorem zz_if_f {b : Bool} (h : (if b = true then 1 else 0) = 0) : b = false := by cases b <;> simp_all
theorem zz_if_t {b : Bool} (h : (if b = true then 1 else 0) ≠ 0) : b = true := by cases b <;> simp_all
def outN (x a b : Int32) : Nat := if x < a then 1 else if x ≤ b then 0 else 1
theorem outN_lt (x a b : Int32) : outN x a b < 2 ^ 31 := by unfold outN; split <;> (try split) <;> decide
def gN (gr : Nat → Int32) (k : Nat) : Nat := (gr k).toNatClampNeg
def feeF (sm fe : Int32) : Int32 := (sm.toInt64 * fe.toInt64 / lN 1000).toInt32
def leftF (sm fe ex : Int32) (ya ys : Nat → Int32) (q : Nat) : Int32 := sm - feeF sm fe - ex - sumAllI ya ys q
def roomF (gc gr yc ya ys : Nat → Int32) (q k : Nat) : Int32 := if 0 ≤ gc (gN gr k) - sumForI yc ya ys (nI k) q then gc (gN gr k) - sumForI yc ya ys (nI k) q else nI 0
def takeB (gc gr st yc ya ys : Nat → Int32) (q k : Nat) : Bool := decide (st k = 0) && (decide (¬ roomF gc gr yc ya ys q k ≤ 0) && !vdB yc ys (nI k) q)
def faultS (b : Int32) : Int32 := if b = 0 then nI 0 else nI 1
def goodS (b : Int32) : Int32 := if b = 0 then nI 2 else nI 0

set_option maxHeartbeats 4000000 in
set_option maxRecDepth 100000 in
theorem c_X0_has_no (l : Launch) {dC : Nat → ClassId} {dI : Nat → Nat → Nat} {cI cZ : ClassId} {ad : Nat → Nat} {sm fe ex dy : Int32} {gp gc op gr st dl wo : Nat → Int32} {n : Nat} {yc ya ys yd : Nat → Int32} {q : Nat} {zc zp zr zs zf : Nat → Int32} {z : Nat} {zm zt : Int64} {x : Int32} (hn : n ≤ 24) (hk : ¬ vp_in x n) : Met l yX0_has wsX0_has { frames := 0, cells := 0, slots := 0, locals := 0 } (va_Pc [.ref (ad 3), .int x] (fun U => va_P (dC, dI) vwCl (wC cI cZ ad sm fe ex dy gp gc op gr st dl wo n yc ya ys yd q zc zp zr zs zf z zm zt) U.heap ∧ va_K (dC, dI) vwCl [(cI, .int), (cZ, .boolean)] U)) (vp_Si (fun r => r = nI 0)) 0 0 (fun _ => False) := by
  refine Met.ofW (cc := cX0_has) (maxL := 2) (ret := (some .boolean)) (by decide) rfl ?_
  intro p e s m args below meth c s₁ B hml hv
  obtain ⟨rfl, hP, hK⟩ := hv
  have hx := B.exec
  have hb := B.bytes
  have hr := B.returns
  have hts := atoms_spec (ws := wsX0_has) B.pre
  have hown : s.vm.findClass RX0 = some m.cls := findClass_of_methodNamed B.named
  have hlocks := B.notSynchronized
  have hl := lv_entry ([.ref (ad 3), .int x]) (n := 2) (Nat.le_of_ble_eq_true rfl)
  rw [lg_entry_eq]
  generalize (lg_sl ([.ref (ad 3), .int x]) ++ List.replicate (2 - (lg_sl ([.ref (ad 3), .int x])).length) Slot.unset).toArray = ls at hl ⊢
  have hl : lv_has ls 2 [(0, .ref (ad 3)), (1, .int x)] := hl
  have hiX0 : ∀ w ∈ wsX00, w ∈ wsX0_has := by decide +kernel
  have hf28 := hts (.fieldLink RX0 28 "SettlementFund$ClaimBook" "size" "I") (by decide +kernel)
  refine lv_iload_n hx hb dX0_has_0 rfl (lv_at hl 1 rfl) ?_
  refine lv_if_lt (tgt := 16) hx hb dX0_has_1 (by decide) (fun c_1 => ?_) (fun c_1 => ?_)
  · refine lv_iconst (v := nI 0) hx hb dX0_has_16 (by decide) ?_
    exact W.zret (v := nI 0) hx hb hr (rfl) (fun t ht hW => ⟨nI 0, rfl, rfl, ht⟩) (fun _ h => nomatch h) dX0_has_17
  · refine lv_iload_n hx hb dX0_has_4 rfl (lv_at hl 1 rfl) ?_
    refine lv_aload_n hx hb dX0_has_5 rfl (lv_at hl 0 rfl) ?_
    refine gC_3_5 hx hb hts hiX0 hown hK hP hf28 dX0_has_6 ?_
    refine lv_icmp_ge (tgt := 16) hx hb dX0_has_9 (by decide) (fun c_9 => ?_) (fun c_9 => (show False by exact zz_out (by omega) hk c_1 c_9).elim)
    refine lv_iconst (v := nI 0) hx hb dX0_has_16 (by decide) ?_
    exact W.zret (v := nI 0) hx hb hr (rfl) (fun t ht hW => ⟨nI 0, rfl, rfl, ht⟩) (fun _ h => nomatch h) dX0_has_17
section
variable {p : Program} {e : Env} {R : Room} {s : State} {m : MethodId} {args : Array Value} {below : List Frame} {meth : Method} {c : Code} {H : Heap} {locs : List Loc} {cells slots : Nat} {Q : State → Prop} {cc : ByteArray} {pc : Nat} {ls : Array Slot} {rest : List Value} {own : String} {index nL : Nat} {Ts : List Cond} {H0 : Heap} {A0 : Nat → Prop}
theorem k_X0_has_no (l : Launch) {dC : Nat → ClassId} {dI : Nat → Nat → Nat} {cI cZ : ClassId} {ad : Nat → Nat} {sm fe ex dy : Int32} {gp gc op gr st dl wo : Nat → Int32} {n : Nat} {yc ya ys yd : Nat → Int32} {q : Nat} {zc zp zr zs zf : Nat → Int32} {z : Nat} {zm zt : Int64} {x : Int32} (hn : n ≤ 24) (hk : ¬ vp_in x n) (hx : p.tables.exec = Jvm.exec) (hb : c.code = cc) (hml : c.maxLocals = nL) (hown : s.vm.findClass own = some m.cls) (hts : ∀ w ∈ Ts, w.before args s = true) (hK : va_K (dC, dI) vwCl [(cI, .int), (cZ, .boolean)] s) (hP : va_P (dC, dI) vwCl (wC cI cZ ad sm fe ex dy gp gc op gr st dl wo n yc ya ys yd q zc zp zr zs zf z zm zt) H) (hg9 : GoodIn Ts (wsV own index RX0 yX0_has wsX0_has)) (hR9 : 0 + 1 ≤ R.frames ∧ 8 + (2 + 11) + 0 ≤ R.locals) (hc9 : cells ≤ R.cells ∧ slots ≤ R.slots) (hl9 : ls.size = nL) (hw9 : (rest.map fun v => v.category).sum ≤ 8) (hdg : decode cc pc = .ok (.invokevirtual index, 3)) (kk : W p l e R s m args below meth c H locs cells slots Q (F0 m (pc + 3) ls (.int (nI 0) :: rest))) : W p l e R s m args below meth c H locs cells slots Q (F0 m pc ls (.int x :: .ref (ad 3) :: rest)) := zc_ro (W.runV (As := [.int x]) (rest := rest) ⟨hx, hb, hml, hown, hts⟩ (c_X0_has_no (dC := dC) (dI := dI) (cI := cI) (cZ := cZ) (ad := ad) (sm := sm) (fe := fe) (ex := ex) (dy := dy) (gp := gp) (gc := gc) (op := op) (gr := gr) (st := st) (dl := dl) (wo := wo) (n := n) (yc := yc) (ya := ya) (ys := ys) (yd := yd) (q := q) (zc := zc) (zp := zp) (zr := zr) (zs := zs) (zf := zf) (z := z) (zm := zm) (zt := zt) (x := x) l hn hk) (cwV 1 hts hg9 rfl rfl rfl (by decide +kernel) hR9) ⟨fun a U g mk q => ⟨q.1, q.2.1, va_K.moved (u := U) (U := U.calling g mk a) (Vm.Alike.refl U.vm) q.2.2⟩, rC_3 hK hP, fun U hU hW => ⟨rfl, by rw [hU]; exact hP, va_K.moved hW.alike hK⟩⟩ rfl rfl hl9 rfl (lv_room hw9) hdg hc9) (fun r h => by subst h; exact kk)
end
set_option maxHeartbeats 4000000 in
set_option maxRecDepth 100000 in
theorem c_X0_tally (l : Launch) {dC : Nat → ClassId} {dI : Nat → Nat → Nat} {cI cZ : ClassId} {ad : Nat → Nat} {sm fe ex dy : Int32} {gp gc op gr st dl wo : Nat → Int32} {n : Nat} {yc ya ys yd : Nat → Int32} {q : Nat} {zc zp zr zs zf : Nat → Int32} {z : Nat} {zm zt : Int64} {w : Int32} (hn : n ≤ 24) : Met l yX0_tally wsX0_tally { frames := 0, cells := 0, slots := 0, locals := 0 } (va_Pc [.ref (ad 3), .int w] (fun U => va_P (dC, dI) vwCl (wC cI cZ ad sm fe ex dy gp gc op gr st dl wo n yc ya ys yd q zc zp zr zs zf z zm zt) U.heap ∧ va_K (dC, dI) vwCl [(cI, .int), (cZ, .boolean)] U)) (vp_Si (fun r => r = nI (tallyN st w n))) 0 0 (fun _ => False) := by
  refine Met.ofW (cc := cX0_tally) (maxL := 4) (ret := (some .int)) (by decide) rfl ?_
  intro p e s m args below meth c s₁ B hml hv
  obtain ⟨rfl, hP, hK⟩ := hv
  have hx := B.exec
  have hb := B.bytes
  have hr := B.returns
  have hts := atoms_spec (ws := wsX0_tally) B.pre
  have hown : s.vm.findClass RX0 = some m.cls := findClass_of_methodNamed B.named
  have hlocks := B.notSynchronized
  have hl := lv_entry ([.ref (ad 3), .int w]) (n := 4) (Nat.le_of_ble_eq_true rfl)
  rw [lg_entry_eq]
  generalize (lg_sl ([.ref (ad 3), .int w]) ++ List.replicate (4 - (lg_sl ([.ref (ad 3), .int w])).length) Slot.unset).toArray = ls at hl ⊢
  have hl : lv_has ls 4 [(0, .ref (ad 3)), (1, .int w)] := hl
  have hiX0 : ∀ w ∈ wsX00, w ∈ wsX0_tally := by decide +kernel
  have hf28 := hts (.fieldLink RX0 28 "SettlementFund$ClaimBook" "size" "I") (by decide +kernel)
  have hf18 := hts (.fieldLink RX0 18 "SettlementFund$ClaimBook" "state" "[I") (by decide +kernel)
  refine lv_iconst (v := nI 0) hx hb dX0_tally_0 (by decide) ?_
  refine lv_istore_n (lv' := [(2, .int (nI 0)), (0, .ref (ad 3)), (1, .int w)]) hx hb dX0_tally_1 rfl hl (by decide) rfl (fun ls hl => ?_)
  refine lv_iconst (v := nI 0) hx hb dX0_tally_2 (by decide) ?_
  refine lv_istore_n (lv' := [(3, .int (nI 0)), (2, .int (nI 0)), (0, .ref (ad 3)), (1, .int w)]) hx hb dX0_tally_3 rfl hl (by decide) rfl (fun ls hl => ?_)
  have e_1 : nI 0 = nI (tallyN st w 0) := by first | rfl | (simp [tallyN]; done)
  rw [e_1] at hl
  refine zl_ro (fun a9 : Nat => [(0, .ref (ad 3)), (1, .int w), (2, .int (nI (tallyN st w a9))), (3, .int (nI a9))]) (fun a9 : Nat => a9 ≤ n) (fun a9 : Nat => n - a9) 0 (Nat.zero_le _) (lv_sub hl [2, 3, 1, 0] rfl) ?_
  intro a9 hi_4 ih_4 ls hl
  obtain ⟨i, rfl⟩ : ∃ z, z = a9 := ⟨_, rfl⟩
  have hi_4 : i ≤ n := hi_4
  have hl : lv_has ls 4 [(0, .ref (ad 3)), (1, .int w), (2, .int (nI (tallyN st w i))), (3, .int (nI i))] := hl
  refine lv_iload_n hx hb dX0_tally_4 rfl (lv_at hl 3 rfl) ?_
  refine lv_aload_n hx hb dX0_tally_5 rfl (lv_at hl 0 rfl) ?_
  refine gC_3_5 hx hb hts hiX0 hown hK hP hf28 dX0_tally_6 ?_
  refine zb_ge (tgt := 31) hx hb (by omega) (by omega) dX0_tally_9 (by decide) (fun c_9 => ?_) (fun c_9 => ?_)
  · refine lv_iload_n hx hb dX0_tally_31 rfl (lv_at hl 2 rfl) ?_
    exact W.iret (v := nI (tallyN st w i)) hx hb hr (fun t ht hW => ⟨nI (tallyN st w i), rfl, by rw [show n = i by omega], ht⟩) (fun _ h => nomatch h) dX0_tally_32
  · refine lv_aload_n hx hb dX0_tally_12 rfl (lv_at hl 0 rfl) ?_
    refine gC_3_2 hx hb hts hiX0 hown hK hP hf18 dX0_tally_13 ?_
    refine lv_iload_n hx hb dX0_tally_16 rfl (lv_at hl 3 rfl) ?_
    refine lC_6 hx hb hK hP (by omega) dX0_tally_17 ?_
    refine lv_iload_n hx hb dX0_tally_18 rfl (lv_at hl 1 rfl) ?_
    refine lv_icmp_ne (tgt := 25) hx hb dX0_tally_19 (by decide) (fun c_19 => ?_) (fun c_19 => ?_)
    · refine lv_iinc (v := nI (i + 1)) (lv' := [(3, .int (nI (i + 1))), (0, .ref (ad 3)), (1, .int w), (2, .int (nI (tallyN st w i)))]) hx hb dX0_tally_25 hl (k := 3) rfl (zz_inc _) (by decide) rfl (fun ls hl => ?_)
      refine lv_goto (tgt := 4) hx hb dX0_tally_28 (by decide) ?_
      have e_2 : nI (tallyN st w i) = nI (tallyN st w (i + 1)) := by first | rfl | (simp [tallyN, c_9, c_19]; done)
      rw [e_2] at hl
      exact ih_4 (i + 1) (by omega) (by omega) ls (lv_sub hl [1, 2, 3, 0] rfl)
    · refine lv_iinc (v := nI (tallyN st w i + 1)) (lv' := [(2, .int (nI (tallyN st w i + 1))), (0, .ref (ad 3)), (1, .int w), (3, .int (nI i))]) hx hb dX0_tally_22 hl (k := 2) rfl (zz_inc _) (by decide) rfl (fun ls hl => ?_)
      refine lv_iinc (v := nI (i + 1)) (lv' := [(3, .int (nI (i + 1))), (2, .int (nI (tallyN st w i + 1))), (0, .ref (ad 3)), (1, .int w)]) hx hb dX0_tally_25 hl (k := 3) rfl (zz_inc _) (by decide) rfl (fun ls hl => ?_)
      refine lv_goto (tgt := 4) hx hb dX0_tally_28 (by decide) ?_
      have e_3 : nI (tallyN st w i + 1) = nI (tallyN st w (i + 1)) := by first | rfl | (simp [tallyN, c_9, c_19]; done)
      rw [e_3] at hl
      exact ih_4 (i + 1) (by omega) (by omega) ls (lv_sub hl [2, 3, 1, 0] rfl)
section
variable {p : Program} {e : Env} {R : Room} {s : State} {m : MethodId} {args : Array Value} {below : List Frame} {meth : Method} {c : Code} {H : Heap} {locs : List Loc} {cells slots : Nat} {Q : State → Prop} {cc : ByteArray} {pc : Nat} {ls : Array Slot} {rest : List Value} {own : String} {index nL : Nat} {Ts : List Cond} {H0 : Heap} {A0 : Nat → Prop}
theorem k_X0_tally (l : Launch) {dC : Nat → ClassId} {dI : Nat → Nat → Nat} {cI cZ : ClassId} {ad : Nat → Nat} {sm fe ex dy : Int32} {gp gc op gr st dl wo : Nat → Int32} {n : Nat} {yc ya ys yd : Nat → Int32} {q : Nat} {zc zp zr zs zf : Nat → Int32} {z : Nat} {zm zt : Int64} {w : Int32} (hn : n ≤ 24) (hx : p.tables.exec = Jvm.exec) (hb : c.code = cc) (hml : c.maxLocals = nL) (hown : s.vm.findClass own = some m.cls) (hts : ∀ w ∈ Ts, w.before args s = true) (hK : va_K (dC, dI) vwCl [(cI, .int), (cZ, .boolean)] s) (hP : va_P (dC, dI) vwCl (wC cI cZ ad sm fe ex dy gp gc op gr st dl wo n yc ya ys yd q zc zp zr zs zf z zm zt) H) (hg9 : GoodIn Ts (wsV own index RX0 yX0_tally wsX0_tally)) (hR9 : 0 + 1 ≤ R.frames ∧ 8 + (4 + 11) + 0 ≤ R.locals) (hc9 : cells ≤ R.cells ∧ slots ≤ R.slots) (hl9 : ls.size = nL) (hw9 : (rest.map fun v => v.category).sum ≤ 8) (hdg : decode cc pc = .ok (.invokevirtual index, 3)) (kk : W p l e R s m args below meth c H locs cells slots Q (F0 m (pc + 3) ls (.int (nI (tallyN st w n)) :: rest))) : W p l e R s m args below meth c H locs cells slots Q (F0 m pc ls (.int w :: .ref (ad 3) :: rest)) := zc_ro (W.runV (As := [.int w]) (rest := rest) ⟨hx, hb, hml, hown, hts⟩ (c_X0_tally (dC := dC) (dI := dI) (cI := cI) (cZ := cZ) (ad := ad) (sm := sm) (fe := fe) (ex := ex) (dy := dy) (gp := gp) (gc := gc) (op := op) (gr := gr) (st := st) (dl := dl) (wo := wo) (n := n) (yc := yc) (ya := ya) (ys := ys) (yd := yd) (q := q) (zc := zc) (zp := zp) (zr := zr) (zs := zs) (zf := zf) (z := z) (zm := zm) (zt := zt) (w := w) l hn) (cwV 1 hts hg9 rfl rfl rfl (by decide +kernel) hR9) ⟨fun a U g mk q => ⟨q.1, q.2.1, va_K.moved (u := U) (U := U.calling g mk a) (Vm.Alike.refl U.vm) q.2.2⟩, rC_3 hK hP, fun U hU hW => ⟨rfl, by rw [hU]; exact hP, va_K.moved hW.alike hK⟩⟩ rfl rfl hl9 rfl (lv_room hw9) hdg hc9) (fun r h => by subst h; exact kk)
end
set_option maxHeartbeats 4000000 in
set_option maxRecDepth 100000 in
theorem c_X1_has_no (l : Launch) {dC : Nat → ClassId} {dI : Nat → Nat → Nat} {cI cZ : ClassId} {ad : Nat → Nat} {sm fe ex dy : Int32} {gp gc op gr st dl wo : Nat → Int32} {n : Nat} {yc ya ys yd : Nat → Int32} {q : Nat} {zc zp zr zs zf : Nat → Int32} {z : Nat} {zm zt : Int64} {x : Int32} (hq : q ≤ 100) (hk : ¬ vp_in x q) : Met l yX1_has wsX1_has { frames := 0, cells := 0, slots := 0, locals := 0 } (va_Pc [.ref (ad 9), .int x] (fun U => va_P (dC, dI) vwCl (wC cI cZ ad sm fe ex dy gp gc op gr st dl wo n yc ya ys yd q zc zp zr zs zf z zm zt) U.heap ∧ va_K (dC, dI) vwCl [(cI, .int), (cZ, .boolean)] U)) (vp_Si (fun r => r = nI 0)) 0 0 (fun _ => False) := by
  refine Met.ofW (cc := cX1_has) (maxL := 2) (ret := (some .boolean)) (by decide) rfl ?_
  intro p e s m args below meth c s₁ B hml hv
  obtain ⟨rfl, hP, hK⟩ := hv
  have hx := B.exec
  have hb := B.bytes
  have hr := B.returns
  have hts := atoms_spec (ws := wsX1_has) B.pre
  have hown : s.vm.findClass RX1 = some m.cls := findClass_of_methodNamed B.named
  have hlocks := B.notSynchronized
  have hl := lv_entry ([.ref (ad 9), .int x]) (n := 2) (Nat.le_of_ble_eq_true rfl)
  rw [lg_entry_eq]
  generalize (lg_sl ([.ref (ad 9), .int x]) ++ List.replicate (2 - (lg_sl ([.ref (ad 9), .int x])).length) Slot.unset).toArray = ls at hl ⊢
  have hl : lv_has ls 2 [(0, .ref (ad 9)), (1, .int x)] := hl
  have hiX1 : ∀ w ∈ wsX10, w ∈ wsX1_has := by decide +kernel
  have hf24 := hts (.fieldLink RX1 24 "SettlementFund$PaymentBook" "size" "I") (by decide +kernel)
  refine lv_iload_n hx hb dX1_has_0 rfl (lv_at hl 1 rfl) ?_
  refine lv_if_lt (tgt := 16) hx hb dX1_has_1 (by decide) (fun c_1 => ?_) (fun c_1 => ?_)
  · refine lv_iconst (v := nI 0) hx hb dX1_has_16 (by decide) ?_
    exact W.zret (v := nI 0) hx hb hr (rfl) (fun t ht hW => ⟨nI 0, rfl, rfl, ht⟩) (fun _ h => nomatch h) dX1_has_17
  · refine lv_iload_n hx hb dX1_has_4 rfl (lv_at hl 1 rfl) ?_
    refine lv_aload_n hx hb dX1_has_5 rfl (lv_at hl 0 rfl) ?_
    refine gC_9_4 hx hb hts hiX1 hown hK hP hf24 dX1_has_6 ?_
    refine lv_icmp_ge (tgt := 16) hx hb dX1_has_9 (by decide) (fun c_9 => ?_) (fun c_9 => (show False by exact zz_out (by omega) hk c_1 c_9).elim)
    refine lv_iconst (v := nI 0) hx hb dX1_has_16 (by decide) ?_
    exact W.zret (v := nI 0) hx hb hr (rfl) (fun t ht hW => ⟨nI 0, rfl, rfl, ht⟩) (fun _ h => nomatch h) dX1_has_17
section
variable {p : Program} {e : Env} {R : Room} {s : State} {m : MethodId} {args : Array Value} {below : List Frame} {meth : Method} {c : Code} {H : Heap} {locs : List Loc} {cells slots : Nat} {Q : State → Prop} {cc : ByteArray} {pc : Nat} {ls : Array Slot} {rest : List Value} {own : String} {index nL : Nat} {Ts : List Cond} {H0 : Heap} {A0 : Nat → Prop}
theorem k_X1_has_no (l : Launch) {dC : Nat → ClassId} {dI : Nat → Nat → Nat} {cI cZ : ClassId} {ad : Nat → Nat} {sm fe ex dy : Int32} {gp gc op gr st dl wo : Nat → Int32} {n : Nat} {yc ya ys yd : Nat → Int32} {q : Nat} {zc zp zr zs zf : Nat → Int32} {z : Nat} {zm zt : Int64} {x : Int32} (hq : q ≤ 100) (hk : ¬ vp_in x q) (hx : p.tables.exec = Jvm.exec) (hb : c.code = cc) (hml : c.maxLocals = nL) (hown : s.vm.findClass own = some m.cls) (hts : ∀ w ∈ Ts, w.before args s = true) (hK : va_K (dC, dI) vwCl [(cI, .int), (cZ, .boolean)] s) (hP : va_P (dC, dI) vwCl (wC cI cZ ad sm fe ex dy gp gc op gr st dl wo n yc ya ys yd q zc zp zr zs zf z zm zt) H) (hg9 : GoodIn Ts (wsV own index RX1 yX1_has wsX1_has)) (hR9 : 0 + 1 ≤ R.frames ∧ 8 + (2 + 11) + 0 ≤ R.locals) (hc9 : cells ≤ R.cells ∧ slots ≤ R.slots) (hl9 : ls.size = nL) (hw9 : (rest.map fun v => v.category).sum ≤ 8) (hdg : decode cc pc = .ok (.invokevirtual index, 3)) (kk : W p l e R s m args below meth c H locs cells slots Q (F0 m (pc + 3) ls (.int (nI 0) :: rest))) : W p l e R s m args below meth c H locs cells slots Q (F0 m pc ls (.int x :: .ref (ad 9) :: rest)) := zc_ro (W.runV (As := [.int x]) (rest := rest) ⟨hx, hb, hml, hown, hts⟩ (c_X1_has_no (dC := dC) (dI := dI) (cI := cI) (cZ := cZ) (ad := ad) (sm := sm) (fe := fe) (ex := ex) (dy := dy) (gp := gp) (gc := gc) (op := op) (gr := gr) (st := st) (dl := dl) (wo := wo) (n := n) (yc := yc) (ya := ya) (ys := ys) (yd := yd) (q := q) (zc := zc) (zp := zp) (zr := zr) (zs := zs) (zf := zf) (z := z) (zm := zm) (zt := zt) (x := x) l hq hk) (cwV 1 hts hg9 rfl rfl rfl (by decide +kernel) hR9) ⟨fun a U g mk q => ⟨q.1, q.2.1, va_K.moved (u := U) (U := U.calling g mk a) (Vm.Alike.refl U.vm) q.2.2⟩, rC_9 hK hP, fun U hU hW => ⟨rfl, by rw [hU]; exact hP, va_K.moved hW.alike hK⟩⟩ rfl rfl hl9 rfl (lv_room hw9) hdg hc9) (fun r h => by subst h; exact kk)
end
set_option maxHeartbeats 4000000 in
set_option maxRecDepth 100000 in
theorem c_X1_sumOfAll (l : Launch) {dC : Nat → ClassId} {dI : Nat → Nat → Nat} {cI cZ : ClassId} {ad : Nat → Nat} {sm fe ex dy : Int32} {gp gc op gr st dl wo : Nat → Int32} {n : Nat} {yc ya ys yd : Nat → Int32} {q : Nat} {zc zp zr zs zf : Nat → Int32} {z : Nat} {zm zt : Int64}  (hq : q ≤ 100) : Met l yX1_sumOfAll wsX1_sumOfAll { frames := 0, cells := 0, slots := 0, locals := 0 } (va_Pc [.ref (ad 9)] (fun U => va_P (dC, dI) vwCl (wC cI cZ ad sm fe ex dy gp gc op gr st dl wo n yc ya ys yd q zc zp zr zs zf z zm zt) U.heap ∧ va_K (dC, dI) vwCl [(cI, .int), (cZ, .boolean)] U)) (vp_Si (fun r => r = sumAllI ya ys q)) 0 0 (fun _ => False) := by
  refine Met.ofW (cc := cX1_sumOfAll) (maxL := 3) (ret := (some .int)) (by decide) rfl ?_
  intro p e s m args below meth c s₁ B hml hv
  obtain ⟨rfl, hP, hK⟩ := hv
  have hx := B.exec
  have hb := B.bytes
  have hr := B.returns
  have hts := atoms_spec (ws := wsX1_sumOfAll) B.pre
  have hown : s.vm.findClass RX1 = some m.cls := findClass_of_methodNamed B.named
  have hlocks := B.notSynchronized
  have hl := lv_entry ([.ref (ad 9)]) (n := 3) (Nat.le_of_ble_eq_true rfl)
  rw [lg_entry_eq]
  generalize (lg_sl ([.ref (ad 9)]) ++ List.replicate (3 - (lg_sl ([.ref (ad 9)])).length) Slot.unset).toArray = ls at hl ⊢
  have hl : lv_has ls 3 [(0, .ref (ad 9))] := hl
  have hiX1 : ∀ w ∈ wsX10, w ∈ wsX1_sumOfAll := by decide +kernel
  have hf24 := hts (.fieldLink RX1 24 "SettlementFund$PaymentBook" "size" "I") (by decide +kernel)
  have hf18 := hts (.fieldLink RX1 18 "SettlementFund$PaymentBook" "state" "[I") (by decide +kernel)
  have hf15 := hts (.fieldLink RX1 15 "SettlementFund$PaymentBook" "amount" "[I") (by decide +kernel)
  refine lv_iconst (v := nI 0) hx hb dX1_sumOfAll_0 (by decide) ?_
  refine lv_istore_n (lv' := [(1, .int (nI 0)), (0, .ref (ad 9))]) hx hb dX1_sumOfAll_1 rfl hl (by decide) rfl (fun ls hl => ?_)
  refine lv_iconst (v := nI 0) hx hb dX1_sumOfAll_2 (by decide) ?_
  refine lv_istore_n (lv' := [(2, .int (nI 0)), (1, .int (nI 0)), (0, .ref (ad 9))]) hx hb dX1_sumOfAll_3 rfl hl (by decide) rfl (fun ls hl => ?_)
  have e_1 : nI 0 = sumAllI ya ys 0 := by first | rfl | (simp [sumAllI]; done)
  rw [e_1] at hl
  refine zl_ro (fun a9 : Nat => [(0, .ref (ad 9)), (1, .int (sumAllI ya ys a9)), (2, .int (nI a9))]) (fun a9 : Nat => a9 ≤ q) (fun a9 : Nat => q - a9) 0 (Nat.zero_le _) (lv_sub hl [2, 1, 0] rfl) ?_
  intro a9 hi_4 ih_4 ls hl
  obtain ⟨i, rfl⟩ : ∃ z, z = a9 := ⟨_, rfl⟩
  have hi_4 : i ≤ q := hi_4
  have hl : lv_has ls 3 [(0, .ref (ad 9)), (1, .int (sumAllI ya ys i)), (2, .int (nI i))] := hl
  refine lv_iload_n hx hb dX1_sumOfAll_4 rfl (lv_at hl 2 rfl) ?_
  refine lv_aload_n hx hb dX1_sumOfAll_5 rfl (lv_at hl 0 rfl) ?_
  refine gC_9_4 hx hb hts hiX1 hown hK hP hf24 dX1_sumOfAll_6 ?_
  refine zb_ge (tgt := 37) hx hb (by omega) (by omega) dX1_sumOfAll_9 (by decide) (fun c_9 => ?_) (fun c_9 => ?_)
  · refine lv_iload_n hx hb dX1_sumOfAll_37 rfl (lv_at hl 1 rfl) ?_
    exact W.iret (v := sumAllI ya ys i) hx hb hr (fun t ht hW => ⟨sumAllI ya ys i, rfl, by rw [show q = i by omega], ht⟩) (fun _ h => nomatch h) dX1_sumOfAll_38
  · refine lv_aload_n hx hb dX1_sumOfAll_12 rfl (lv_at hl 0 rfl) ?_
    refine gC_9_2 hx hb hts hiX1 hown hK hP hf18 dX1_sumOfAll_13 ?_
    refine lv_iload_n hx hb dX1_sumOfAll_16 rfl (lv_at hl 2 rfl) ?_
    refine lC_12 hx hb hK hP (by omega) dX1_sumOfAll_17 ?_
    refine lv_iconst (v := nI 2) hx hb dX1_sumOfAll_18 (by decide) ?_
    refine lv_icmp_eq (tgt := 31) hx hb dX1_sumOfAll_19 (by decide) (fun c_19 => ?_) (fun c_19 => ?_)
    · refine lv_iinc (v := nI (i + 1)) (lv' := [(2, .int (nI (i + 1))), (0, .ref (ad 9)), (1, .int (sumAllI ya ys i))]) hx hb dX1_sumOfAll_31 hl (k := 2) rfl (zz_inc _) (by decide) rfl (fun ls hl => ?_)
      refine lv_goto (tgt := 4) hx hb dX1_sumOfAll_34 (by decide) ?_
      have e_2 : sumAllI ya ys i = sumAllI ya ys (i + 1) := by first | rfl | (simp [sumAllI, c_9, c_19]; done)
      rw [e_2] at hl
      exact ih_4 (i + 1) (by omega) (by omega) ls (lv_sub hl [1, 2, 0] rfl)
    · refine lv_iload_n hx hb dX1_sumOfAll_22 rfl (lv_at hl 1 rfl) ?_
      refine lv_aload_n hx hb dX1_sumOfAll_23 rfl (lv_at hl 0 rfl) ?_
      refine gC_9_1 hx hb hts hiX1 hown hK hP hf15 dX1_sumOfAll_24 ?_
      refine lv_iload_n hx hb dX1_sumOfAll_27 rfl (lv_at hl 2 rfl) ?_
      refine lC_11 hx hb hK hP (by omega) dX1_sumOfAll_28 ?_
      refine lv_iadd hx hb dX1_sumOfAll_29 ?_
      refine lv_istore_n (lv' := [(1, .int ((sumAllI ya ys i) + (ya i))), (0, .ref (ad 9)), (2, .int (nI i))]) hx hb dX1_sumOfAll_30 rfl hl (by decide) rfl (fun ls hl => ?_)
      refine lv_iinc (v := nI (i + 1)) (lv' := [(2, .int (nI (i + 1))), (1, .int ((sumAllI ya ys i) + (ya i))), (0, .ref (ad 9))]) hx hb dX1_sumOfAll_31 hl (k := 2) rfl (zz_inc _) (by decide) rfl (fun ls hl => ?_)
      refine lv_goto (tgt := 4) hx hb dX1_sumOfAll_34 (by decide) ?_
      have e_3 : (sumAllI ya ys i) + (ya i) = sumAllI ya ys (i + 1) := by first | rfl | (simp [sumAllI, c_9, c_19]; done)
      rw [e_3] at hl
      exact ih_4 (i + 1) (by omega) (by omega) ls (lv_sub hl [2, 1, 0] rfl)
section
variable {p : Program} {e : Env} {R : Room} {s : State} {m : MethodId} {args : Array Value} {below : List Frame} {meth : Method} {c : Code} {H : Heap} {locs : List Loc} {cells slots : Nat} {Q : State → Prop} {cc : ByteArray} {pc : Nat} {ls : Array Slot} {rest : List Value} {own : String} {index nL : Nat} {Ts : List Cond} {H0 : Heap} {A0 : Nat → Prop}
theorem k_X1_sumOfAll (l : Launch) {dC : Nat → ClassId} {dI : Nat → Nat → Nat} {cI cZ : ClassId} {ad : Nat → Nat} {sm fe ex dy : Int32} {gp gc op gr st dl wo : Nat → Int32} {n : Nat} {yc ya ys yd : Nat → Int32} {q : Nat} {zc zp zr zs zf : Nat → Int32} {z : Nat} {zm zt : Int64}  (hq : q ≤ 100) (hx : p.tables.exec = Jvm.exec) (hb : c.code = cc) (hml : c.maxLocals = nL) (hown : s.vm.findClass own = some m.cls) (hts : ∀ w ∈ Ts, w.before args s = true) (hK : va_K (dC, dI) vwCl [(cI, .int), (cZ, .boolean)] s) (hP : va_P (dC, dI) vwCl (wC cI cZ ad sm fe ex dy gp gc op gr st dl wo n yc ya ys yd q zc zp zr zs zf z zm zt) H) (hg9 : GoodIn Ts (wsV own index RX1 yX1_sumOfAll wsX1_sumOfAll)) (hR9 : 0 + 1 ≤ R.frames ∧ 8 + (3 + 11) + 0 ≤ R.locals) (hc9 : cells ≤ R.cells ∧ slots ≤ R.slots) (hl9 : ls.size = nL) (hw9 : (rest.map fun v => v.category).sum ≤ 8) (hdg : decode cc pc = .ok (.invokevirtual index, 3)) (kk : W p l e R s m args below meth c H locs cells slots Q (F0 m (pc + 3) ls (.int (sumAllI ya ys q) :: rest))) : W p l e R s m args below meth c H locs cells slots Q (F0 m pc ls (.ref (ad 9) :: rest)) := zc_ro (W.runV (As := []) (rest := rest) ⟨hx, hb, hml, hown, hts⟩ (c_X1_sumOfAll (dC := dC) (dI := dI) (cI := cI) (cZ := cZ) (ad := ad) (sm := sm) (fe := fe) (ex := ex) (dy := dy) (gp := gp) (gc := gc) (op := op) (gr := gr) (st := st) (dl := dl) (wo := wo) (n := n) (yc := yc) (ya := ya) (ys := ys) (yd := yd) (q := q) (zc := zc) (zp := zp) (zr := zr) (zs := zs) (zf := zf) (z := z) (zm := zm) (zt := zt) l hq) (cwV 0 hts hg9 rfl rfl rfl (by decide +kernel) hR9) ⟨fun a U g mk q => ⟨q.1, q.2.1, va_K.moved (u := U) (U := U.calling g mk a) (Vm.Alike.refl U.vm) q.2.2⟩, rC_9 hK hP, fun U hU hW => ⟨rfl, by rw [hU]; exact hP, va_K.moved hW.alike hK⟩⟩ rfl rfl hl9 rfl (lv_room hw9) hdg hc9) (fun r h => by subst h; exact kk)
end
set_option maxHeartbeats 4000000 in
set_option maxRecDepth 100000 in
theorem c_X3_isOutside (l : Launch) {x : Int32} {a : Int32} {b : Int32}  : Met l yX3_isOutside wsX3_isOutside { frames := 0, cells := 0, slots := 0, locals := 0 } (va_Pc [.int x, .int a, .int b] (fun _ => True)) (vp_Si (fun r => r = nI (outN x a b))) 0 0 (fun _ => False) := by
  refine Met.ofW (cc := cX3_isOutside) (maxL := 3) (ret := (some .boolean)) (by decide) rfl ?_
  intro p e s m args below meth c s₁ B hml hv
  obtain ⟨rfl, -⟩ := hv
  have hx := B.exec
  have hb := B.bytes
  have hr := B.returns
  have hts := atoms_spec (ws := wsX3_isOutside) B.pre
  have hown : s.vm.findClass RX3 = some m.cls := findClass_of_methodNamed B.named
  have hlocks := B.notSynchronized
  have hl := lv_entry ([.int x, .int a, .int b]) (n := 3) (Nat.le_of_ble_eq_true rfl)
  rw [lg_entry_eq]
  generalize (lg_sl ([.int x, .int a, .int b]) ++ List.replicate (3 - (lg_sl ([.int x, .int a, .int b])).length) Slot.unset).toArray = ls at hl ⊢
  have hl : lv_has ls 3 [(0, .int x), (1, .int a), (2, .int b)] := hl
  refine lv_iload_n hx hb dX3_isOutside_0 rfl (lv_at hl 0 rfl) ?_
  refine lv_iload_n hx hb dX3_isOutside_1 rfl (lv_at hl 1 rfl) ?_
  refine lv_icmp_lt (tgt := 10) hx hb dX3_isOutside_2 (by decide) (fun c_2 => ?_) (fun c_2 => ?_)
  · refine lv_iconst (v := nI 1) hx hb dX3_isOutside_10 (by decide) ?_
    refine lv_goto (tgt := 15) hx hb dX3_isOutside_11 (by decide) ?_
    exact W.zret (v := nI 1) hx hb hr (rfl) (fun t ht hW => ⟨nI 1, rfl, by first | rfl | (rw [if_pos (by omega)]; done) | (rw [if_neg (by omega)]; done) | (simp [outN, c_2]; done), ht⟩) (fun _ h => nomatch h) dX3_isOutside_15
  · refine lv_iload_n hx hb dX3_isOutside_5 rfl (lv_at hl 0 rfl) ?_
    refine lv_iload_n hx hb dX3_isOutside_6 rfl (lv_at hl 2 rfl) ?_
    refine lv_icmp_le (tgt := 14) hx hb dX3_isOutside_7 (by decide) (fun c_7 => ?_) (fun c_7 => ?_)
    · refine lv_iconst (v := nI 0) hx hb dX3_isOutside_14 (by decide) ?_
      exact W.zret (v := nI 0) hx hb hr (rfl) (fun t ht hW => ⟨nI 0, rfl, by first | rfl | (rw [if_pos (by omega)]; done) | (rw [if_neg (by omega)]; done) | (simp [outN, c_2, c_7]; done), ht⟩) (fun _ h => nomatch h) dX3_isOutside_15
    · refine lv_iconst (v := nI 1) hx hb dX3_isOutside_10 (by decide) ?_
      refine lv_goto (tgt := 15) hx hb dX3_isOutside_11 (by decide) ?_
      exact W.zret (v := nI 1) hx hb hr (rfl) (fun t ht hW => ⟨nI 1, rfl, by first | rfl | (rw [if_pos (by omega)]; done) | (rw [if_neg (by omega)]; done) | (simp [outN, c_2, c_7]; done), ht⟩) (fun _ h => nomatch h) dX3_isOutside_15
section
variable {p : Program} {e : Env} {R : Room} {s : State} {m : MethodId} {args : Array Value} {below : List Frame} {meth : Method} {c : Code} {H : Heap} {locs : List Loc} {cells slots : Nat} {Q : State → Prop} {cc : ByteArray} {pc : Nat} {ls : Array Slot} {rest : List Value} {own : String} {index nL : Nat} {Ts : List Cond} {H0 : Heap} {A0 : Nat → Prop}
theorem k_X3_isOutside (l : Launch) {x : Int32} {a : Int32} {b : Int32}  (hx : p.tables.exec = Jvm.exec) (hb : c.code = cc) (hml : c.maxLocals = nL) (hown : s.vm.findClass own = some m.cls) (hts : ∀ w ∈ Ts, w.before args s = true) (hg9 : GoodIn Ts (va_wsS own index yX3_isOutside wsX3_isOutside)) (hR9 : 0 + 1 ≤ R.frames ∧ 8 + (3 + 11) + 0 ≤ R.locals) (hc9 : cells ≤ R.cells ∧ slots ≤ R.slots) (hl9 : ls.size = nL) (hw9 : (rest.map fun v => v.category).sum ≤ 8) (hdg : decode cc pc = .ok (.invokestatic index, 3)) (kk : W p l e R s m args below meth c H locs cells slots Q (F0 m (pc + 3) ls (.int (nI (outN x a b)) :: rest))) : W p l e R s m args below meth c H locs cells slots Q (F0 m pc ls (.int b :: .int a :: .int x :: rest)) := zc_ro (W.runS (As := [.int x, .int a, .int b]) (rest := rest) ⟨hx, hb, hml, hown, hts⟩ (c_X3_isOutside (x := x) (a := a) (b := b) l ) (va_cwS 3 hts hg9 rfl rfl rfl (by decide +kernel) hR9) ⟨fun a U g mk q => q, fun U hU hW => ⟨rfl, trivial⟩⟩ rfl rfl hl9 rfl (lv_room hw9) hdg hc9) (fun r h => by subst h; exact kk)
end
set_option maxHeartbeats 4000000 in
set_option maxRecDepth 100000 in
theorem c_X3_fee (l : Launch) {dC : Nat → ClassId} {dI : Nat → Nat → Nat} {cI cZ : ClassId} {ad : Nat → Nat} {sm fe ex dy : Int32} {gp gc op gr st dl wo : Nat → Int32} {n : Nat} {yc ya ys yd : Nat → Int32} {q : Nat} {zc zp zr zs zf : Nat → Int32} {z : Nat} {zm zt : Int64}   : Met l yX3_fee wsX3_fee { frames := 0, cells := 0, slots := 0, locals := 0 } (va_Pc [.ref (ad 0)] (fun U => va_P (dC, dI) vwCl (wC cI cZ ad sm fe ex dy gp gc op gr st dl wo n yc ya ys yd q zc zp zr zs zf z zm zt) U.heap ∧ va_K (dC, dI) vwCl [(cI, .int), (cZ, .boolean)] U)) (vp_Si (fun r => r = feeF sm fe)) 0 0 (fun _ => False) := by
  refine Met.ofW (cc := cX3_fee) (maxL := 1) (ret := (some .int)) (by decide) rfl ?_
  intro p e s m args below meth c s₁ B hml hv
  obtain ⟨rfl, hP, hK⟩ := hv
  have hx := B.exec
  have hb := B.bytes
  have hr := B.returns
  have hts := atoms_spec (ws := wsX3_fee) B.pre
  have hown : s.vm.findClass RX3 = some m.cls := findClass_of_methodNamed B.named
  have hlocks := B.notSynchronized
  have hl := lv_entry ([.ref (ad 0)]) (n := 1) (Nat.le_of_ble_eq_true rfl)
  rw [lg_entry_eq]
  generalize (lg_sl ([.ref (ad 0)]) ++ List.replicate (1 - (lg_sl ([.ref (ad 0)])).length) Slot.unset).toArray = ls at hl ⊢
  have hl : lv_has ls 1 [(0, .ref (ad 0))] := hl
  have hiX3 : ∀ w ∈ wsX30, w ∈ wsX3_fee := by decide +kernel
  have hf53 := hts (.fieldLink RX3 53 "SettlementFund" "sum" "I") (by decide +kernel)
  have hf57 := hts (.fieldLink RX3 57 "SettlementFund" "feeInThousandths" "I") (by decide +kernel)
  have hk196 := hts (.constantLong RX3 196 1000) (by decide +kernel)
  refine lv_aload_n hx hb dX3_fee_0 rfl (lv_at hl 0 rfl) ?_
  refine gC_0_0 hx hb hts hiX3 hown hK hP hf53 dX3_fee_1 ?_
  refine lv_i2l (v := sm.toInt64) hx hb dX3_fee_4 rfl ?_
  refine lv_aload_n hx hb dX3_fee_5 rfl (lv_at hl 0 rfl) ?_
  refine gC_0_1 hx hb hts hiX3 hown hK hP hf57 dX3_fee_6 ?_
  refine lv_i2l (v := fe.toInt64) hx hb dX3_fee_9 rfl ?_
  refine lv_lmul hx hb dX3_fee_10 ?_
  refine lv_ldc2 hx hb hown hk196 dX3_fee_11 ?_
  refine zt_l (y := lN 1000) rfl ?_
  refine lv_ldiv hx hb dX3_fee_14 (by decide) ?_
  refine lv_l2i (v := ((sm.toInt64 * fe.toInt64) / (lN 1000)).toInt32) hx hb dX3_fee_15 rfl ?_
  exact W.iret (v := ((sm.toInt64 * fe.toInt64) / (lN 1000)).toInt32) hx hb hr (fun t ht hW => ⟨((sm.toInt64 * fe.toInt64) / (lN 1000)).toInt32, rfl, by first | rfl | (rw [if_pos (by omega)]; done) | (rw [if_neg (by omega)]; done) | (simp []; done), ht⟩) (fun _ h => nomatch h) dX3_fee_16
section
variable {p : Program} {e : Env} {R : Room} {s : State} {m : MethodId} {args : Array Value} {below : List Frame} {meth : Method} {c : Code} {H : Heap} {locs : List Loc} {cells slots : Nat} {Q : State → Prop} {cc : ByteArray} {pc : Nat} {ls : Array Slot} {rest : List Value} {own : String} {index nL : Nat} {Ts : List Cond} {H0 : Heap} {A0 : Nat → Prop}
theorem k_X3_fee (l : Launch) {dC : Nat → ClassId} {dI : Nat → Nat → Nat} {cI cZ : ClassId} {ad : Nat → Nat} {sm fe ex dy : Int32} {gp gc op gr st dl wo : Nat → Int32} {n : Nat} {yc ya ys yd : Nat → Int32} {q : Nat} {zc zp zr zs zf : Nat → Int32} {z : Nat} {zm zt : Int64}   (hx : p.tables.exec = Jvm.exec) (hb : c.code = cc) (hml : c.maxLocals = nL) (hown : s.vm.findClass own = some m.cls) (hts : ∀ w ∈ Ts, w.before args s = true) (hK : va_K (dC, dI) vwCl [(cI, .int), (cZ, .boolean)] s) (hP : va_P (dC, dI) vwCl (wC cI cZ ad sm fe ex dy gp gc op gr st dl wo n yc ya ys yd q zc zp zr zs zf z zm zt) H) (hg9 : GoodIn Ts (wsV own index RX3 yX3_fee wsX3_fee)) (hR9 : 0 + 1 ≤ R.frames ∧ 8 + (1 + 11) + 0 ≤ R.locals) (hc9 : cells ≤ R.cells ∧ slots ≤ R.slots) (hl9 : ls.size = nL) (hw9 : (rest.map fun v => v.category).sum ≤ 8) (hdg : decode cc pc = .ok (.invokevirtual index, 3)) (kk : W p l e R s m args below meth c H locs cells slots Q (F0 m (pc + 3) ls (.int (feeF sm fe) :: rest))) : W p l e R s m args below meth c H locs cells slots Q (F0 m pc ls (.ref (ad 0) :: rest)) := zc_ro (W.runV (As := []) (rest := rest) ⟨hx, hb, hml, hown, hts⟩ (c_X3_fee (dC := dC) (dI := dI) (cI := cI) (cZ := cZ) (ad := ad) (sm := sm) (fe := fe) (ex := ex) (dy := dy) (gp := gp) (gc := gc) (op := op) (gr := gr) (st := st) (dl := dl) (wo := wo) (n := n) (yc := yc) (ya := ya) (ys := ys) (yd := yd) (q := q) (zc := zc) (zp := zp) (zr := zr) (zs := zs) (zf := zf) (z := z) (zm := zm) (zt := zt) l ) (cwV 0 hts hg9 rfl rfl rfl (by decide +kernel) hR9) ⟨fun a U g mk q => ⟨q.1, q.2.1, va_K.moved (u := U) (U := U.calling g mk a) (Vm.Alike.refl U.vm) q.2.2⟩, rC_0 hK hP, fun U hU hW => ⟨rfl, by rw [hU]; exact hP, va_K.moved hW.alike hK⟩⟩ rfl rfl hl9 rfl (lv_room hw9) hdg hc9) (fun r h => by subst h; exact kk)
end
set_option maxHeartbeats 4000000 in
set_option maxRecDepth 100000 in
theorem c_X3_moneyLeft (l : Launch) {dC : Nat → ClassId} {dI : Nat → Nat → Nat} {cI cZ : ClassId} {ad : Nat → Nat} {sm fe ex dy : Int32} {gp gc op gr st dl wo : Nat → Int32} {n : Nat} {yc ya ys yd : Nat → Int32} {q : Nat} {zc zp zr zs zf : Nat → Int32} {z : Nat} {zm zt : Int64}  (hq : q ≤ 100) : Met l yX3_moneyLeft wsX3_moneyLeft { frames := 1, cells := 0, slots := 0, locals := 22 } (va_Pc [.ref (ad 0)] (fun U => va_P (dC, dI) vwCl (wC cI cZ ad sm fe ex dy gp gc op gr st dl wo n yc ya ys yd q zc zp zr zs zf z zm zt) U.heap ∧ va_K (dC, dI) vwCl [(cI, .int), (cZ, .boolean)] U)) (vp_Si (fun r => r = leftF sm fe ex ya ys q)) 0 0 (fun _ => False) := by
  refine Met.ofW (cc := cX3_moneyLeft) (maxL := 1) (ret := (some .int)) (by decide) rfl ?_
  intro p e s m args below meth c s₁ B hml hv
  obtain ⟨rfl, hP, hK⟩ := hv
  have hx := B.exec
  have hb := B.bytes
  have hr := B.returns
  have hts := atoms_spec (ws := wsX3_moneyLeft) B.pre
  have hown : s.vm.findClass RX3 = some m.cls := findClass_of_methodNamed B.named
  have hlocks := B.notSynchronized
  have hl := lv_entry ([.ref (ad 0)]) (n := 1) (Nat.le_of_ble_eq_true rfl)
  rw [lg_entry_eq]
  generalize (lg_sl ([.ref (ad 0)]) ++ List.replicate (1 - (lg_sl ([.ref (ad 0)])).length) Slot.unset).toArray = ls at hl ⊢
  have hl : lv_has ls 1 [(0, .ref (ad 0))] := hl
  have hiX3 : ∀ w ∈ wsX30, w ∈ wsX3_moneyLeft := by decide +kernel
  have hf53 := hts (.fieldLink RX3 53 "SettlementFund" "sum" "I") (by decide +kernel)
  have hf60 := hts (.fieldLink RX3 60 "SettlementFund" "expenses" "I") (by decide +kernel)
  have hf26 := hts (.fieldLink RX3 26 "SettlementFund" "paymentBook" "LSettlementFund$PaymentBook;") (by decide +kernel)
  refine lv_aload_n hx hb dX3_moneyLeft_0 rfl (lv_at hl 0 rfl) ?_
  refine gC_0_0 hx hb hts hiX3 hown hK hP hf53 dX3_moneyLeft_1 ?_
  refine lv_aload_n hx hb dX3_moneyLeft_4 rfl (lv_at hl 0 rfl) ?_
  refine k_X3_fee l  hx hb hml hown hts hK hP gX3_moneyLeft_X3_fee ⟨Nat.le_of_ble_eq_true rfl, Nat.le_of_ble_eq_true rfl⟩ ⟨Nat.le_of_ble_eq_true rfl, Nat.le_of_ble_eq_true rfl⟩ hl.1 (Nat.le_of_ble_eq_true rfl) dX3_moneyLeft_5 ?_
  refine lv_isub hx hb dX3_moneyLeft_8 ?_
  refine lv_aload_n hx hb dX3_moneyLeft_9 rfl (lv_at hl 0 rfl) ?_
  refine gC_0_2 hx hb hts hiX3 hown hK hP hf60 dX3_moneyLeft_10 ?_
  refine lv_isub hx hb dX3_moneyLeft_13 ?_
  refine lv_aload_n hx hb dX3_moneyLeft_14 rfl (lv_at hl 0 rfl) ?_
  refine gC_0_7 hx hb hts hiX3 hown hK hP hf26 dX3_moneyLeft_15 ?_
  refine k_X1_sumOfAll l (hq := hq) hx hb hml hown hts hK hP gX3_moneyLeft_X1_sumOfAll ⟨Nat.le_of_ble_eq_true rfl, Nat.le_of_ble_eq_true rfl⟩ ⟨Nat.le_of_ble_eq_true rfl, Nat.le_of_ble_eq_true rfl⟩ hl.1 (Nat.le_of_ble_eq_true rfl) dX3_moneyLeft_18 ?_
  refine lv_isub hx hb dX3_moneyLeft_21 ?_
  exact W.iret (v := ((sm - (feeF sm fe)) - ex) - (sumAllI ya ys q)) hx hb hr (fun t ht hW => ⟨((sm - (feeF sm fe)) - ex) - (sumAllI ya ys q), rfl, by first | rfl | (rw [if_pos (by omega)]; done) | (rw [if_neg (by omega)]; done) | (simp []; done), ht⟩) (fun _ h => nomatch h) dX3_moneyLeft_22
section
variable {p : Program} {e : Env} {R : Room} {s : State} {m : MethodId} {args : Array Value} {below : List Frame} {meth : Method} {c : Code} {H : Heap} {locs : List Loc} {cells slots : Nat} {Q : State → Prop} {cc : ByteArray} {pc : Nat} {ls : Array Slot} {rest : List Value} {own : String} {index nL : Nat} {Ts : List Cond} {H0 : Heap} {A0 : Nat → Prop}
theorem k_X3_moneyLeft (l : Launch) {dC : Nat → ClassId} {dI : Nat → Nat → Nat} {cI cZ : ClassId} {ad : Nat → Nat} {sm fe ex dy : Int32} {gp gc op gr st dl wo : Nat → Int32} {n : Nat} {yc ya ys yd : Nat → Int32} {q : Nat} {zc zp zr zs zf : Nat → Int32} {z : Nat} {zm zt : Int64}  (hq : q ≤ 100) (hx : p.tables.exec = Jvm.exec) (hb : c.code = cc) (hml : c.maxLocals = nL) (hown : s.vm.findClass own = some m.cls) (hts : ∀ w ∈ Ts, w.before args s = true) (hK : va_K (dC, dI) vwCl [(cI, .int), (cZ, .boolean)] s) (hP : va_P (dC, dI) vwCl (wC cI cZ ad sm fe ex dy gp gc op gr st dl wo n yc ya ys yd q zc zp zr zs zf z zm zt) H) (hg9 : GoodIn Ts (wsV own index RX3 yX3_moneyLeft wsX3_moneyLeft)) (hR9 : 1 + 1 ≤ R.frames ∧ 8 + (1 + 11) + 22 ≤ R.locals) (hc9 : cells ≤ R.cells ∧ slots ≤ R.slots) (hl9 : ls.size = nL) (hw9 : (rest.map fun v => v.category).sum ≤ 8) (hdg : decode cc pc = .ok (.invokevirtual index, 3)) (kk : W p l e R s m args below meth c H locs cells slots Q (F0 m (pc + 3) ls (.int (leftF sm fe ex ya ys q) :: rest))) : W p l e R s m args below meth c H locs cells slots Q (F0 m pc ls (.ref (ad 0) :: rest)) := zc_ro (W.runV (As := []) (rest := rest) ⟨hx, hb, hml, hown, hts⟩ (c_X3_moneyLeft (dC := dC) (dI := dI) (cI := cI) (cZ := cZ) (ad := ad) (sm := sm) (fe := fe) (ex := ex) (dy := dy) (gp := gp) (gc := gc) (op := op) (gr := gr) (st := st) (dl := dl) (wo := wo) (n := n) (yc := yc) (ya := ya) (ys := ys) (yd := yd) (q := q) (zc := zc) (zp := zp) (zr := zr) (zs := zs) (zf := zf) (z := z) (zm := zm) (zt := zt) l hq) (cwV 0 hts hg9 rfl rfl rfl (by decide +kernel) hR9) ⟨fun a U g mk q => ⟨q.1, q.2.1, va_K.moved (u := U) (U := U.calling g mk a) (Vm.Alike.refl U.vm) q.2.2⟩, rC_0 hK hP, fun U hU hW => ⟨rfl, by rw [hU]; exact hP, va_K.moved hW.alike hK⟩⟩ rfl rfl hl9 rfl (lv_room hw9) hdg hc9) (fun r h => by subst h; exact kk)
end
set_option maxHeartbeats 4000000 in
set_option maxRecDepth 100000 in
theorem c_X3_mustBeClaim_no (l : Launch) (hfl : l.stackTraces = false) {dC : Nat → ClassId} {dI : Nat → Nat → Nat} {cI cZ : ClassId} {ad : Nat → Nat} {sm fe ex dy : Int32} {gp gc op gr st dl wo : Nat → Int32} {n : Nat} {yc ya ys yd : Nat → Int32} {q : Nat} {zc zp zr zs zf : Nat → Int32} {z : Nat} {zm zt : Int64} {x : Int32} (hn : n ≤ 24) (hk : ¬ vp_in x n) : vx_Met l yX3_mustBeClaim wsX3_mustBeClaim { frames := 6, cells := 1, slots := 6, locals := 90 } (va_Pc [.ref (ad 0), .int x] (fun U => va_P (dC, dI) vwCl (wC cI cZ ad sm fe ex dy gp gc op gr st dl wo n yc ya ys yd q zc zp zr zs zf z zm zt) U.heap ∧ va_K (dC, dI) vwCl [(cI, .int), (cZ, .boolean)] U ∧ tX (fun _ => False) U U.heap)) (fun _ _ _ _ => False) (xT "java/lang/IndexOutOfBoundsException") 1 6 (fun _ => False) := by
  refine vx_ofW (cc := cX3_mustBeClaim) (maxL := 2) (ret := none) (by decide) rfl ?_
  intro p e s m args below meth c s₁ B hml ht hv
  obtain ⟨rfl, hP, hK, hT⟩ := hv
  have hx := B.exec
  have hb := B.bytes
  have hr := B.returns
  have hts := atoms_spec (ws := wsX3_mustBeClaim) B.pre
  have hown : s.vm.findClass RX3 = some m.cls := findClass_of_methodNamed B.named
  have hlocks := B.notSynchronized
  have hl := lv_entry ([.ref (ad 0), .int x]) (n := 2) (Nat.le_of_ble_eq_true rfl)
  rw [lg_entry_eq]
  generalize (lg_sl ([.ref (ad 0), .int x]) ++ List.replicate (2 - (lg_sl ([.ref (ad 0), .int x])).length) Slot.unset).toArray = ls at hl ⊢
  have hl : lv_has ls 2 [(0, .ref (ad 0)), (1, .int x)] := hl
  have hiX3 : ∀ w ∈ wsX30, w ∈ wsX3_mustBeClaim := by decide +kernel
  have hf19 := hts (.fieldLink RX3 19 "SettlementFund" "claimBook" "LSettlementFund$ClaimBook;") (by decide +kernel)
  refine lv_aload_n hx hb dX3_mustBeClaim_0 rfl (lv_at hl 0 rfl) ?_
  refine gC_0_6 hx hb hts hiX3 hown hK hP hf19 dX3_mustBeClaim_1 ?_
  refine lv_iload_n hx hb dX3_mustBeClaim_4 rfl (lv_at hl 1 rfl) ?_
  refine k_X0_has_no l (x := x) (hn := hn) (hk := hk) hx hb hml hown hts hK hP gX3_mustBeClaim_X0_has ⟨Nat.le_of_ble_eq_true rfl, Nat.le_of_ble_eq_true rfl⟩ ⟨Nat.le_of_ble_eq_true rfl, Nat.le_of_ble_eq_true rfl⟩ hl.1 (Nat.le_of_ble_eq_true rfl) dX3_mustBeClaim_5 ?_
  refine zi_ne (tgt := 21) hx hb (by decide) dX3_mustBeClaim_8 (by decide) (fun c_8 => (show False by exact absurd rfl c_8).elim) (fun c_8 => ?_)
  exact zx_IndexOutOfBoundsException (is := 206) (text := "there is no such claim") hx hb hfl hown hts hT (by decide +kernel) (by decide +kernel) (by decide +kernel) (by decide +kernel) (hl.1.trans hml.symm) dX3_mustBeClaim_11 dX3_mustBeClaim_14 dX3_mustBeClaim_15 dX3_mustBeClaim_17 dX3_mustBeClaim_20 ht hlocks (Nat.le_of_ble_eq_true rfl) (Nat.le_of_ble_eq_true rfl) (Nat.le_of_ble_eq_true rfl) (Nat.le_of_ble_eq_true rfl)
section
variable {p : Program} {e : Env} {R : Room} {s : State} {m : MethodId} {args : Array Value} {below : List Frame} {meth : Method} {c : Code} {H : Heap} {locs : List Loc} {cells slots : Nat} {Q : State → Prop} {cc : ByteArray} {pc : Nat} {ls : Array Slot} {rest : List Value} {own : String} {index nL : Nat} {Ts : List Cond} {H0 : Heap} {A0 : Nat → Prop}
theorem kr_X3_mustBeClaim_no (l : Launch) (hfl : l.stackTraces = false) {dC : Nat → ClassId} {dI : Nat → Nat → Nat} {cI cZ : ClassId} {ad : Nat → Nat} {sm fe ex dy : Int32} {gp gc op gr st dl wo : Nat → Int32} {n : Nat} {yc ya ys yd : Nat → Int32} {q : Nat} {zc zp zr zs zf : Nat → Int32} {z : Nat} {zm zt : Int64} {x : Int32} (hn : n ≤ 24) (hk : ¬ vp_in x n) (hx : p.tables.exec = Jvm.exec) (hb : c.code = cc) (hml : c.maxLocals = nL) (hown : s.vm.findClass own = some m.cls) (hts : ∀ w ∈ Ts, w.before args s = true) (hK : va_K (dC, dI) vwCl [(cI, .int), (cZ, .boolean)] s) (hP : va_P (dC, dI) vwCl (wC cI cZ ad sm fe ex dy gp gc op gr st dl wo n yc ya ys yd q zc zp zr zs zf z zm zt) H) (hg9 : GoodIn Ts (wsV own index RX3 yX3_mustBeClaim wsX3_mustBeClaim)) (hR9 : 6 + 1 ≤ R.frames ∧ 8 + (2 + 11) + 90 ≤ R.locals) (hc9 : cells + 1 ≤ R.cells ∧ slots + 6 ≤ R.slots) (hl9 : ls.size = nL) (hw9 : (rest.map fun v => v.category).sum ≤ 8) (hdg : decode cc pc = .ok (.invokevirtual index, 3)) (hT : tX (fun _ => False) s H) : vx_Run p l e R s m args below meth c H locs cells slots 1 6 (F0 m pc ls (.int x :: .ref (ad 0) :: rest)) rest (fun _ _ _ => False) (xT "java/lang/IndexOutOfBoundsException") (fun _ => False) := vx_runV (As := [.int x]) (rest := rest) ⟨hx, hb, hml, hown, hts⟩ (c_X3_mustBeClaim_no (dC := dC) (dI := dI) (cI := cI) (cZ := cZ) (ad := ad) (sm := sm) (fe := fe) (ex := ex) (dy := dy) (gp := gp) (gc := gc) (op := op) (gr := gr) (st := st) (dl := dl) (wo := wo) (n := n) (yc := yc) (ya := ya) (ys := ys) (yd := yd) (q := q) (zc := zc) (zp := zp) (zr := zr) (zs := zs) (zf := zf) (z := z) (zm := zm) (zt := zt) (x := x) l hfl hn hk) (cwV 1 hts hg9 rfl rfl rfl (by decide +kernel) hR9) ⟨fun a U g mk q => ⟨q.1, q.2.1, va_K.moved (u := U) (U := U.calling g mk a) (Vm.Alike.refl U.vm) q.2.2.1, tX.same (u := U) (U := U.calling g mk a) rfl q.2.2.2⟩, rC_0 hK hP, fun U hU hW => ⟨rfl, by rw [hU]; exact hP, va_K.moved hW.alike hK, by rw [hU]; exact tX.warm hW hT⟩⟩ rfl rfl hl9 rfl (lv_room hw9) hdg hc9
end
set_option maxHeartbeats 4000000 in
set_option maxRecDepth 100000 in
theorem c_X3_mustBePayment_no (l : Launch) (hfl : l.stackTraces = false) {dC : Nat → ClassId} {dI : Nat → Nat → Nat} {cI cZ : ClassId} {ad : Nat → Nat} {sm fe ex dy : Int32} {gp gc op gr st dl wo : Nat → Int32} {n : Nat} {yc ya ys yd : Nat → Int32} {q : Nat} {zc zp zr zs zf : Nat → Int32} {z : Nat} {zm zt : Int64} {x : Int32} (hq : q ≤ 100) (hk : ¬ vp_in x q) : vx_Met l yX3_mustBePayment wsX3_mustBePayment { frames := 6, cells := 1, slots := 6, locals := 90 } (va_Pc [.ref (ad 0), .int x] (fun U => va_P (dC, dI) vwCl (wC cI cZ ad sm fe ex dy gp gc op gr st dl wo n yc ya ys yd q zc zp zr zs zf z zm zt) U.heap ∧ va_K (dC, dI) vwCl [(cI, .int), (cZ, .boolean)] U ∧ tX (fun _ => False) U U.heap)) (fun _ _ _ _ => False) (xT "java/lang/IndexOutOfBoundsException") 1 6 (fun _ => False) := by
  refine vx_ofW (cc := cX3_mustBePayment) (maxL := 2) (ret := none) (by decide) rfl ?_
  intro p e s m args below meth c s₁ B hml ht hv
  obtain ⟨rfl, hP, hK, hT⟩ := hv
  have hx := B.exec
  have hb := B.bytes
  have hr := B.returns
  have hts := atoms_spec (ws := wsX3_mustBePayment) B.pre
  have hown : s.vm.findClass RX3 = some m.cls := findClass_of_methodNamed B.named
  have hlocks := B.notSynchronized
  have hl := lv_entry ([.ref (ad 0), .int x]) (n := 2) (Nat.le_of_ble_eq_true rfl)
  rw [lg_entry_eq]
  generalize (lg_sl ([.ref (ad 0), .int x]) ++ List.replicate (2 - (lg_sl ([.ref (ad 0), .int x])).length) Slot.unset).toArray = ls at hl ⊢
  have hl : lv_has ls 2 [(0, .ref (ad 0)), (1, .int x)] := hl
  have hiX3 : ∀ w ∈ wsX30, w ∈ wsX3_mustBePayment := by decide +kernel
  have hf26 := hts (.fieldLink RX3 26 "SettlementFund" "paymentBook" "LSettlementFund$PaymentBook;") (by decide +kernel)
  refine lv_aload_n hx hb dX3_mustBePayment_0 rfl (lv_at hl 0 rfl) ?_
  refine gC_0_7 hx hb hts hiX3 hown hK hP hf26 dX3_mustBePayment_1 ?_
  refine lv_iload_n hx hb dX3_mustBePayment_4 rfl (lv_at hl 1 rfl) ?_
  refine k_X1_has_no l (x := x) (hq := hq) (hk := hk) hx hb hml hown hts hK hP gX3_mustBePayment_X1_has ⟨Nat.le_of_ble_eq_true rfl, Nat.le_of_ble_eq_true rfl⟩ ⟨Nat.le_of_ble_eq_true rfl, Nat.le_of_ble_eq_true rfl⟩ hl.1 (Nat.le_of_ble_eq_true rfl) dX3_mustBePayment_5 ?_
  refine zi_ne (tgt := 21) hx hb (by decide) dX3_mustBePayment_8 (by decide) (fun c_8 => (show False by exact absurd rfl c_8).elim) (fun c_8 => ?_)
  exact zx_IndexOutOfBoundsException (is := 209) (text := "there is no such payment") hx hb hfl hown hts hT (by decide +kernel) (by decide +kernel) (by decide +kernel) (by decide +kernel) (hl.1.trans hml.symm) dX3_mustBePayment_11 dX3_mustBePayment_14 dX3_mustBePayment_15 dX3_mustBePayment_17 dX3_mustBePayment_20 ht hlocks (Nat.le_of_ble_eq_true rfl) (Nat.le_of_ble_eq_true rfl) (Nat.le_of_ble_eq_true rfl) (Nat.le_of_ble_eq_true rfl)
section
variable {p : Program} {e : Env} {R : Room} {s : State} {m : MethodId} {args : Array Value} {below : List Frame} {meth : Method} {c : Code} {H : Heap} {locs : List Loc} {cells slots : Nat} {Q : State → Prop} {cc : ByteArray} {pc : Nat} {ls : Array Slot} {rest : List Value} {own : String} {index nL : Nat} {Ts : List Cond} {H0 : Heap} {A0 : Nat → Prop}
theorem kr_X3_mustBePayment_no (l : Launch) (hfl : l.stackTraces = false) {dC : Nat → ClassId} {dI : Nat → Nat → Nat} {cI cZ : ClassId} {ad : Nat → Nat} {sm fe ex dy : Int32} {gp gc op gr st dl wo : Nat → Int32} {n : Nat} {yc ya ys yd : Nat → Int32} {q : Nat} {zc zp zr zs zf : Nat → Int32} {z : Nat} {zm zt : Int64} {x : Int32} (hq : q ≤ 100) (hk : ¬ vp_in x q) (hx : p.tables.exec = Jvm.exec) (hb : c.code = cc) (hml : c.maxLocals = nL) (hown : s.vm.findClass own = some m.cls) (hts : ∀ w ∈ Ts, w.before args s = true) (hK : va_K (dC, dI) vwCl [(cI, .int), (cZ, .boolean)] s) (hP : va_P (dC, dI) vwCl (wC cI cZ ad sm fe ex dy gp gc op gr st dl wo n yc ya ys yd q zc zp zr zs zf z zm zt) H) (hg9 : GoodIn Ts (wsV own index RX3 yX3_mustBePayment wsX3_mustBePayment)) (hR9 : 6 + 1 ≤ R.frames ∧ 8 + (2 + 11) + 90 ≤ R.locals) (hc9 : cells + 1 ≤ R.cells ∧ slots + 6 ≤ R.slots) (hl9 : ls.size = nL) (hw9 : (rest.map fun v => v.category).sum ≤ 8) (hdg : decode cc pc = .ok (.invokevirtual index, 3)) (hT : tX (fun _ => False) s H) : vx_Run p l e R s m args below meth c H locs cells slots 1 6 (F0 m pc ls (.int x :: .ref (ad 0) :: rest)) rest (fun _ _ _ => False) (xT "java/lang/IndexOutOfBoundsException") (fun _ => False) := vx_runV (As := [.int x]) (rest := rest) ⟨hx, hb, hml, hown, hts⟩ (c_X3_mustBePayment_no (dC := dC) (dI := dI) (cI := cI) (cZ := cZ) (ad := ad) (sm := sm) (fe := fe) (ex := ex) (dy := dy) (gp := gp) (gc := gc) (op := op) (gr := gr) (st := st) (dl := dl) (wo := wo) (n := n) (yc := yc) (ya := ya) (ys := ys) (yd := yd) (q := q) (zc := zc) (zp := zp) (zr := zr) (zs := zs) (zf := zf) (z := z) (zm := zm) (zt := zt) (x := x) l hfl hq hk) (cwV 1 hts hg9 rfl rfl rfl (by decide +kernel) hR9) ⟨fun a U g mk q => ⟨q.1, q.2.1, va_K.moved (u := U) (U := U.calling g mk a) (Vm.Alike.refl U.vm) q.2.2.1, tX.same (u := U) (U := U.calling g mk a) rfl q.2.2.2⟩, rC_0 hK hP, fun U hU hW => ⟨rfl, by rw [hU]; exact hP, va_K.moved hW.alike hK, by rw [hU]; exact tX.warm hW hT⟩⟩ rfl rfl hl9 rfl (lv_room hw9) hdg hc9
end
set_option maxHeartbeats 4000000 in
set_option maxRecDepth 100000 in
theorem c_X3_mustBeLeast_no (l : Launch) (hfl : l.stackTraces = false) {dC : Nat → ClassId} {dI : Nat → Nat → Nat} {cI cZ : ClassId} {ad : Nat → Nat} {sm fe ex dy : Int32} {gp gc op gr st dl wo : Nat → Int32} {n : Nat} {yc ya ys yd : Nat → Int32} {q : Nat} {zc zp zr zs zf : Nat → Int32} {z : Nat} {zm zt : Int64} {x : Int32} (h1 : ¬ outN x (nI 0) (nI 100000) = 0) : vx_Met l yX3_mustBeLeast wsX3_mustBeLeast { frames := 6, cells := 1, slots := 6, locals := 90 } (va_Pc [.ref (ad 0), .int x] (fun U => va_P (dC, dI) vwCl (wC cI cZ ad sm fe ex dy gp gc op gr st dl wo n yc ya ys yd q zc zp zr zs zf z zm zt) U.heap ∧ va_K (dC, dI) vwCl [(cI, .int), (cZ, .boolean)] U ∧ tX (fun _ => False) U U.heap)) (fun _ _ _ _ => False) (xT "java/lang/IllegalArgumentException") 1 6 (fun _ => False) := by
  refine vx_ofW (cc := cX3_mustBeLeast) (maxL := 2) (ret := none) (by decide) rfl ?_
  intro p e s m args below meth c s₁ B hml ht hv
  obtain ⟨rfl, hP, hK, hT⟩ := hv
  have hx := B.exec
  have hb := B.bytes
  have hr := B.returns
  have hts := atoms_spec (ws := wsX3_mustBeLeast) B.pre
  have hown : s.vm.findClass RX3 = some m.cls := findClass_of_methodNamed B.named
  have hlocks := B.notSynchronized
  have hl := lv_entry ([.ref (ad 0), .int x]) (n := 2) (Nat.le_of_ble_eq_true rfl)
  rw [lg_entry_eq]
  generalize (lg_sl ([.ref (ad 0), .int x]) ++ List.replicate (2 - (lg_sl ([.ref (ad 0), .int x])).length) Slot.unset).toArray = ls at hl ⊢
  have hl : lv_has ls 2 [(0, .ref (ad 0)), (1, .int x)] := hl
  have hk211 := hts (.constant RX3 211 (100000)) (by decide +kernel)
  refine lv_iload_n hx hb dX3_mustBeLeast_0 rfl (lv_at hl 1 rfl) ?_
  refine lv_iconst (v := nI 0) hx hb dX3_mustBeLeast_1 (by decide) ?_
  refine lv_ldc hx hb hown hk211 dX3_mustBeLeast_2 ?_
  refine zt_i (y := nI 100000) rfl ?_
  refine k_X3_isOutside l (x := x) (a := nI 0) (b := nI 100000) hx hb hml hown hts  gX3_mustBeLeast_X3_isOutside ⟨Nat.le_of_ble_eq_true rfl, Nat.le_of_ble_eq_true rfl⟩ ⟨Nat.le_of_ble_eq_true rfl, Nat.le_of_ble_eq_true rfl⟩ hl.1 (Nat.le_of_ble_eq_true rfl) dX3_mustBeLeast_4 ?_
  refine zi_eq (tgt := 20) hx hb (outN_lt _ _ _) dX3_mustBeLeast_7 (by decide) (fun c_7 => (show False by exact h1 c_7).elim) (fun c_7 => ?_)
  exact zx_IllegalArgumentException (is := 212) (text := "least is out of range") hx hb hfl hown hts hT (by decide +kernel) (by decide +kernel) (by decide +kernel) (by decide +kernel) (hl.1.trans hml.symm) dX3_mustBeLeast_10 dX3_mustBeLeast_13 dX3_mustBeLeast_14 dX3_mustBeLeast_16 dX3_mustBeLeast_19 ht hlocks (Nat.le_of_ble_eq_true rfl) (Nat.le_of_ble_eq_true rfl) (Nat.le_of_ble_eq_true rfl) (Nat.le_of_ble_eq_true rfl)
section
variable {p : Program} {e : Env} {R : Room} {s : State} {m : MethodId} {args : Array Value} {below : List Frame} {meth : Method} {c : Code} {H : Heap} {locs : List Loc} {cells slots : Nat} {Q : State → Prop} {cc : ByteArray} {pc : Nat} {ls : Array Slot} {rest : List Value} {own : String} {index nL : Nat} {Ts : List Cond} {H0 : Heap} {A0 : Nat → Prop}
theorem kr_X3_mustBeLeast_no (l : Launch) (hfl : l.stackTraces = false) {dC : Nat → ClassId} {dI : Nat → Nat → Nat} {cI cZ : ClassId} {ad : Nat → Nat} {sm fe ex dy : Int32} {gp gc op gr st dl wo : Nat → Int32} {n : Nat} {yc ya ys yd : Nat → Int32} {q : Nat} {zc zp zr zs zf : Nat → Int32} {z : Nat} {zm zt : Int64} {x : Int32} (h1 : ¬ outN x (nI 0) (nI 100000) = 0) (hx : p.tables.exec = Jvm.exec) (hb : c.code = cc) (hml : c.maxLocals = nL) (hown : s.vm.findClass own = some m.cls) (hts : ∀ w ∈ Ts, w.before args s = true) (hK : va_K (dC, dI) vwCl [(cI, .int), (cZ, .boolean)] s) (hP : va_P (dC, dI) vwCl (wC cI cZ ad sm fe ex dy gp gc op gr st dl wo n yc ya ys yd q zc zp zr zs zf z zm zt) H) (hg9 : GoodIn Ts (wsV own index RX3 yX3_mustBeLeast wsX3_mustBeLeast)) (hR9 : 6 + 1 ≤ R.frames ∧ 8 + (2 + 11) + 90 ≤ R.locals) (hc9 : cells + 1 ≤ R.cells ∧ slots + 6 ≤ R.slots) (hl9 : ls.size = nL) (hw9 : (rest.map fun v => v.category).sum ≤ 8) (hdg : decode cc pc = .ok (.invokevirtual index, 3)) (hT : tX (fun _ => False) s H) : vx_Run p l e R s m args below meth c H locs cells slots 1 6 (F0 m pc ls (.int x :: .ref (ad 0) :: rest)) rest (fun _ _ _ => False) (xT "java/lang/IllegalArgumentException") (fun _ => False) := vx_runV (As := [.int x]) (rest := rest) ⟨hx, hb, hml, hown, hts⟩ (c_X3_mustBeLeast_no (dC := dC) (dI := dI) (cI := cI) (cZ := cZ) (ad := ad) (sm := sm) (fe := fe) (ex := ex) (dy := dy) (gp := gp) (gc := gc) (op := op) (gr := gr) (st := st) (dl := dl) (wo := wo) (n := n) (yc := yc) (ya := ya) (ys := ys) (yd := yd) (q := q) (zc := zc) (zp := zp) (zr := zr) (zs := zs) (zf := zf) (z := z) (zm := zm) (zt := zt) (x := x) l hfl h1) (cwV 1 hts hg9 rfl rfl rfl (by decide +kernel) hR9) ⟨fun a U g mk q => ⟨q.1, q.2.1, va_K.moved (u := U) (U := U.calling g mk a) (Vm.Alike.refl U.vm) q.2.2.1, tX.same (u := U) (U := U.calling g mk a) rfl q.2.2.2⟩, rC_0 hK hP, fun U hU hW => ⟨rfl, by rw [hU]; exact hP, va_K.moved hW.alike hK, by rw [hU]; exact tX.warm hW hT⟩⟩ rfl rfl hl9 rfl (lv_room hw9) hdg hc9
end
set_option maxHeartbeats 4000000 in
set_option maxRecDepth 100000 in
theorem c_X3_mustHaveNoPayments_ok (l : Launch) {dC : Nat → ClassId} {dI : Nat → Nat → Nat} {cI cZ : ClassId} {ad : Nat → Nat} {sm fe ex dy : Int32} {gp gc op gr st dl wo : Nat → Int32} {n : Nat} {yc ya ys yd : Nat → Int32} {q : Nat} {zc zp zr zs zf : Nat → Int32} {z : Nat} {zm zt : Int64}  (h0 : q = 0) : Met l yX3_mustHaveNoPayments wsX3_mustHaveNoPayments { frames := 0, cells := 0, slots := 0, locals := 0 } (va_Pc [.ref (ad 0)] (fun U => va_P (dC, dI) vwCl (wC cI cZ ad sm fe ex dy gp gc op gr st dl wo n yc ya ys yd q zc zp zr zs zf z zm zt) U.heap ∧ va_K (dC, dI) vwCl [(cI, .int), (cZ, .boolean)] U)) (va_Sv (fun _ => True)) 0 0 (fun _ => False) := by
  refine Met.ofW (cc := cX3_mustHaveNoPayments) (maxL := 1) (ret := none) (by decide) rfl ?_
  intro p e s m args below meth c s₁ B hml hv
  obtain ⟨rfl, hP, hK⟩ := hv
  have hx := B.exec
  have hb := B.bytes
  have hr := B.returns
  have hts := atoms_spec (ws := wsX3_mustHaveNoPayments) B.pre
  have hown : s.vm.findClass RX3 = some m.cls := findClass_of_methodNamed B.named
  have hlocks := B.notSynchronized
  have hl := lv_entry ([.ref (ad 0)]) (n := 1) (Nat.le_of_ble_eq_true rfl)
  rw [lg_entry_eq]
  generalize (lg_sl ([.ref (ad 0)]) ++ List.replicate (1 - (lg_sl ([.ref (ad 0)])).length) Slot.unset).toArray = ls at hl ⊢
  have hl : lv_has ls 1 [(0, .ref (ad 0))] := hl
  have hiX3 : ∀ w ∈ wsX30, w ∈ wsX3_mustHaveNoPayments := by decide +kernel
  have hf26 := hts (.fieldLink RX3 26 "SettlementFund" "paymentBook" "LSettlementFund$PaymentBook;") (by decide +kernel)
  have hiX1 : ∀ w ∈ wsX10, w ∈ wsX3_mustHaveNoPayments := by decide +kernel
  have hf198 := hts (.fieldLink RX3 198 "SettlementFund$PaymentBook" "size" "I") (by decide +kernel)
  refine lv_aload_n hx hb dX3_mustHaveNoPayments_0 rfl (lv_at hl 0 rfl) ?_
  refine gC_0_7 hx hb hts hiX3 hown hK hP hf26 dX3_mustHaveNoPayments_1 ?_
  refine gC_9_4 hx hb hts hiX1 hown hK hP hf198 dX3_mustHaveNoPayments_4 ?_
  refine zi_le (tgt := 20) hx hb (by omega) dX3_mustHaveNoPayments_7 (by decide) (fun c_7 => ?_) (fun c_7 => (show False by omega).elim)
  exact W.vret hx hb hr (fun t ht hW => ⟨rfl, trivial, ht⟩) (fun _ h => nomatch h) dX3_mustHaveNoPayments_20
section
variable {p : Program} {e : Env} {R : Room} {s : State} {m : MethodId} {args : Array Value} {below : List Frame} {meth : Method} {c : Code} {H : Heap} {locs : List Loc} {cells slots : Nat} {Q : State → Prop} {cc : ByteArray} {pc : Nat} {ls : Array Slot} {rest : List Value} {own : String} {index nL : Nat} {Ts : List Cond} {H0 : Heap} {A0 : Nat → Prop}
theorem k_X3_mustHaveNoPayments_ok (l : Launch) {dC : Nat → ClassId} {dI : Nat → Nat → Nat} {cI cZ : ClassId} {ad : Nat → Nat} {sm fe ex dy : Int32} {gp gc op gr st dl wo : Nat → Int32} {n : Nat} {yc ya ys yd : Nat → Int32} {q : Nat} {zc zp zr zs zf : Nat → Int32} {z : Nat} {zm zt : Int64}  (h0 : q = 0) (hx : p.tables.exec = Jvm.exec) (hb : c.code = cc) (hml : c.maxLocals = nL) (hown : s.vm.findClass own = some m.cls) (hts : ∀ w ∈ Ts, w.before args s = true) (hK : va_K (dC, dI) vwCl [(cI, .int), (cZ, .boolean)] s) (hP : va_P (dC, dI) vwCl (wC cI cZ ad sm fe ex dy gp gc op gr st dl wo n yc ya ys yd q zc zp zr zs zf z zm zt) H) (hg9 : GoodIn Ts (wsV own index RX3 yX3_mustHaveNoPayments wsX3_mustHaveNoPayments)) (hR9 : 0 + 1 ≤ R.frames ∧ 8 + (1 + 11) + 0 ≤ R.locals) (hc9 : cells ≤ R.cells ∧ slots ≤ R.slots) (hl9 : ls.size = nL) (hw9 : (rest.map fun v => v.category).sum ≤ 8) (hdg : decode cc pc = .ok (.invokevirtual index, 3)) (kk : W p l e R s m args below meth c H locs cells slots Q (F0 m (pc + 3) ls rest)) : W p l e R s m args below meth c H locs cells slots Q (F0 m pc ls (.ref (ad 0) :: rest)) := va_csv (W.runV (As := []) (rest := rest) ⟨hx, hb, hml, hown, hts⟩ (c_X3_mustHaveNoPayments_ok (dC := dC) (dI := dI) (cI := cI) (cZ := cZ) (ad := ad) (sm := sm) (fe := fe) (ex := ex) (dy := dy) (gp := gp) (gc := gc) (op := op) (gr := gr) (st := st) (dl := dl) (wo := wo) (n := n) (yc := yc) (ya := ya) (ys := ys) (yd := yd) (q := q) (zc := zc) (zp := zp) (zr := zr) (zs := zs) (zf := zf) (z := z) (zm := zm) (zt := zt) l h0) (cwV 0 hts hg9 rfl rfl rfl (by decide +kernel) hR9) ⟨fun a U g mk q => ⟨q.1, q.2.1, va_K.moved (u := U) (U := U.calling g mk a) (Vm.Alike.refl U.vm) q.2.2⟩, rC_0 hK hP, fun U hU hW => ⟨rfl, by rw [hU]; exact hP, va_K.moved hW.alike hK⟩⟩ rfl rfl hl9 rfl (lv_room hw9) hdg hc9) (fun _ => kk)
end
set_option maxHeartbeats 4000000 in
set_option maxRecDepth 100000 in
theorem c_X3_stateOf_no (l : Launch) (hfl : l.stackTraces = false) {dC : Nat → ClassId} {dI : Nat → Nat → Nat} {cI cZ : ClassId} {ad : Nat → Nat} {sm fe ex dy : Int32} {gp gc op gr st dl wo : Nat → Int32} {n : Nat} {yc ya ys yd : Nat → Int32} {q : Nat} {zc zp zr zs zf : Nat → Int32} {z : Nat} {zm zt : Int64} {x : Int32} (hn : n ≤ 24) (hk : ¬ vp_in x n) : vx_Met l yX3_stateOf wsX3_stateOf { frames := 7, cells := 1, slots := 6, locals := 111 } (va_Pc [.ref (ad 0), .int x] (fun U => va_P (dC, dI) vwCl (wC cI cZ ad sm fe ex dy gp gc op gr st dl wo n yc ya ys yd q zc zp zr zs zf z zm zt) U.heap ∧ va_K (dC, dI) vwCl [(cI, .int), (cZ, .boolean)] U ∧ tX (fun _ => False) U U.heap)) (fun _ _ _ _ => False) (xT "java/lang/IndexOutOfBoundsException") 1 6 (fun _ => False) := by
  refine vx_ofW (cc := cX3_stateOf) (maxL := 2) (ret := (some .int)) (by decide) rfl ?_
  intro p e s m args below meth c s₁ B hml ht hv
  obtain ⟨rfl, hP, hK, hT⟩ := hv
  have hx := B.exec
  have hb := B.bytes
  have hr := B.returns
  have hts := atoms_spec (ws := wsX3_stateOf) B.pre
  have hown : s.vm.findClass RX3 = some m.cls := findClass_of_methodNamed B.named
  have hlocks := B.notSynchronized
  have hl := lv_entry ([.ref (ad 0), .int x]) (n := 2) (Nat.le_of_ble_eq_true rfl)
  rw [lg_entry_eq]
  generalize (lg_sl ([.ref (ad 0), .int x]) ++ List.replicate (2 - (lg_sl ([.ref (ad 0), .int x])).length) Slot.unset).toArray = ls at hl ⊢
  have hl : lv_has ls 2 [(0, .ref (ad 0)), (1, .int x)] := hl
  refine lv_aload_n hx hb dX3_stateOf_0 rfl (lv_at hl 0 rfl) ?_
  refine lv_iload_n hx hb dX3_stateOf_1 rfl (lv_at hl 1 rfl) ?_
  exact zx_on (kr_X3_mustBeClaim_no l hfl (x := x) (hn := hn) (hk := hk) hx hb hml hown hts hK hP gX3_stateOf_X3_mustBeClaim ⟨Nat.le_of_ble_eq_true rfl, Nat.le_of_ble_eq_true rfl⟩ ⟨Nat.le_of_ble_eq_true rfl, Nat.le_of_ble_eq_true rfl⟩ hl.1 (Nat.le_of_ble_eq_true rfl) dX3_stateOf_2 hT) ht hlocks
section
variable {p : Program} {e : Env} {R : Room} {s : State} {m : MethodId} {args : Array Value} {below : List Frame} {meth : Method} {c : Code} {H : Heap} {locs : List Loc} {cells slots : Nat} {Q : State → Prop} {cc : ByteArray} {pc : Nat} {ls : Array Slot} {rest : List Value} {own : String} {index nL : Nat} {Ts : List Cond} {H0 : Heap} {A0 : Nat → Prop}
theorem kr_X3_stateOf_no (l : Launch) (hfl : l.stackTraces = false) {dC : Nat → ClassId} {dI : Nat → Nat → Nat} {cI cZ : ClassId} {ad : Nat → Nat} {sm fe ex dy : Int32} {gp gc op gr st dl wo : Nat → Int32} {n : Nat} {yc ya ys yd : Nat → Int32} {q : Nat} {zc zp zr zs zf : Nat → Int32} {z : Nat} {zm zt : Int64} {x : Int32} (hn : n ≤ 24) (hk : ¬ vp_in x n) (hx : p.tables.exec = Jvm.exec) (hb : c.code = cc) (hml : c.maxLocals = nL) (hown : s.vm.findClass own = some m.cls) (hts : ∀ w ∈ Ts, w.before args s = true) (hK : va_K (dC, dI) vwCl [(cI, .int), (cZ, .boolean)] s) (hP : va_P (dC, dI) vwCl (wC cI cZ ad sm fe ex dy gp gc op gr st dl wo n yc ya ys yd q zc zp zr zs zf z zm zt) H) (hg9 : GoodIn Ts (wsV own index RX3 yX3_stateOf wsX3_stateOf)) (hR9 : 7 + 1 ≤ R.frames ∧ 8 + (2 + 11) + 111 ≤ R.locals) (hc9 : cells + 1 ≤ R.cells ∧ slots + 6 ≤ R.slots) (hl9 : ls.size = nL) (hw9 : (rest.map fun v => v.category).sum ≤ 8) (hdg : decode cc pc = .ok (.invokevirtual index, 3)) (hT : tX (fun _ => False) s H) : vx_Run p l e R s m args below meth c H locs cells slots 1 6 (F0 m pc ls (.int x :: .ref (ad 0) :: rest)) rest (fun _ _ _ => False) (xT "java/lang/IndexOutOfBoundsException") (fun _ => False) := vx_runV (As := [.int x]) (rest := rest) ⟨hx, hb, hml, hown, hts⟩ (c_X3_stateOf_no (dC := dC) (dI := dI) (cI := cI) (cZ := cZ) (ad := ad) (sm := sm) (fe := fe) (ex := ex) (dy := dy) (gp := gp) (gc := gc) (op := op) (gr := gr) (st := st) (dl := dl) (wo := wo) (n := n) (yc := yc) (ya := ya) (ys := ys) (yd := yd) (q := q) (zc := zc) (zp := zp) (zr := zr) (zs := zs) (zf := zf) (z := z) (zm := zm) (zt := zt) (x := x) l hfl hn hk) (cwV 1 hts hg9 rfl rfl rfl (by decide +kernel) hR9) ⟨fun a U g mk q => ⟨q.1, q.2.1, va_K.moved (u := U) (U := U.calling g mk a) (Vm.Alike.refl U.vm) q.2.2.1, tX.same (u := U) (U := U.calling g mk a) rfl q.2.2.2⟩, rC_0 hK hP, fun U hU hW => ⟨rfl, by rw [hU]; exact hP, va_K.moved hW.alike hK, by rw [hU]; exact tX.warm hW hT⟩⟩ rfl rfl hl9 rfl (lv_room hw9) hdg hc9
end
set_option maxHeartbeats 4000000 in
set_option maxRecDepth 100000 in
theorem c_X3_gradeOf_no (l : Launch) (hfl : l.stackTraces = false) {dC : Nat → ClassId} {dI : Nat → Nat → Nat} {cI cZ : ClassId} {ad : Nat → Nat} {sm fe ex dy : Int32} {gp gc op gr st dl wo : Nat → Int32} {n : Nat} {yc ya ys yd : Nat → Int32} {q : Nat} {zc zp zr zs zf : Nat → Int32} {z : Nat} {zm zt : Int64} {x : Int32} (hn : n ≤ 24) (hk : ¬ vp_in x n) : vx_Met l yX3_gradeOf wsX3_gradeOf { frames := 7, cells := 1, slots := 6, locals := 111 } (va_Pc [.ref (ad 0), .int x] (fun U => va_P (dC, dI) vwCl (wC cI cZ ad sm fe ex dy gp gc op gr st dl wo n yc ya ys yd q zc zp zr zs zf z zm zt) U.heap ∧ va_K (dC, dI) vwCl [(cI, .int), (cZ, .boolean)] U ∧ tX (fun _ => False) U U.heap)) (fun _ _ _ _ => False) (xT "java/lang/IndexOutOfBoundsException") 1 6 (fun _ => False) := by
  refine vx_ofW (cc := cX3_gradeOf) (maxL := 2) (ret := (some .int)) (by decide) rfl ?_
  intro p e s m args below meth c s₁ B hml ht hv
  obtain ⟨rfl, hP, hK, hT⟩ := hv
  have hx := B.exec
  have hb := B.bytes
  have hr := B.returns
  have hts := atoms_spec (ws := wsX3_gradeOf) B.pre
  have hown : s.vm.findClass RX3 = some m.cls := findClass_of_methodNamed B.named
  have hlocks := B.notSynchronized
  have hl := lv_entry ([.ref (ad 0), .int x]) (n := 2) (Nat.le_of_ble_eq_true rfl)
  rw [lg_entry_eq]
  generalize (lg_sl ([.ref (ad 0), .int x]) ++ List.replicate (2 - (lg_sl ([.ref (ad 0), .int x])).length) Slot.unset).toArray = ls at hl ⊢
  have hl : lv_has ls 2 [(0, .ref (ad 0)), (1, .int x)] := hl
  refine lv_aload_n hx hb dX3_gradeOf_0 rfl (lv_at hl 0 rfl) ?_
  refine lv_iload_n hx hb dX3_gradeOf_1 rfl (lv_at hl 1 rfl) ?_
  exact zx_on (kr_X3_mustBeClaim_no l hfl (x := x) (hn := hn) (hk := hk) hx hb hml hown hts hK hP gX3_gradeOf_X3_mustBeClaim ⟨Nat.le_of_ble_eq_true rfl, Nat.le_of_ble_eq_true rfl⟩ ⟨Nat.le_of_ble_eq_true rfl, Nat.le_of_ble_eq_true rfl⟩ hl.1 (Nat.le_of_ble_eq_true rfl) dX3_gradeOf_2 hT) ht hlocks
section
variable {p : Program} {e : Env} {R : Room} {s : State} {m : MethodId} {args : Array Value} {below : List Frame} {meth : Method} {c : Code} {H : Heap} {locs : List Loc} {cells slots : Nat} {Q : State → Prop} {cc : ByteArray} {pc : Nat} {ls : Array Slot} {rest : List Value} {own : String} {index nL : Nat} {Ts : List Cond} {H0 : Heap} {A0 : Nat → Prop}
theorem kr_X3_gradeOf_no (l : Launch) (hfl : l.stackTraces = false) {dC : Nat → ClassId} {dI : Nat → Nat → Nat} {cI cZ : ClassId} {ad : Nat → Nat} {sm fe ex dy : Int32} {gp gc op gr st dl wo : Nat → Int32} {n : Nat} {yc ya ys yd : Nat → Int32} {q : Nat} {zc zp zr zs zf : Nat → Int32} {z : Nat} {zm zt : Int64} {x : Int32} (hn : n ≤ 24) (hk : ¬ vp_in x n) (hx : p.tables.exec = Jvm.exec) (hb : c.code = cc) (hml : c.maxLocals = nL) (hown : s.vm.findClass own = some m.cls) (hts : ∀ w ∈ Ts, w.before args s = true) (hK : va_K (dC, dI) vwCl [(cI, .int), (cZ, .boolean)] s) (hP : va_P (dC, dI) vwCl (wC cI cZ ad sm fe ex dy gp gc op gr st dl wo n yc ya ys yd q zc zp zr zs zf z zm zt) H) (hg9 : GoodIn Ts (wsV own index RX3 yX3_gradeOf wsX3_gradeOf)) (hR9 : 7 + 1 ≤ R.frames ∧ 8 + (2 + 11) + 111 ≤ R.locals) (hc9 : cells + 1 ≤ R.cells ∧ slots + 6 ≤ R.slots) (hl9 : ls.size = nL) (hw9 : (rest.map fun v => v.category).sum ≤ 8) (hdg : decode cc pc = .ok (.invokevirtual index, 3)) (hT : tX (fun _ => False) s H) : vx_Run p l e R s m args below meth c H locs cells slots 1 6 (F0 m pc ls (.int x :: .ref (ad 0) :: rest)) rest (fun _ _ _ => False) (xT "java/lang/IndexOutOfBoundsException") (fun _ => False) := vx_runV (As := [.int x]) (rest := rest) ⟨hx, hb, hml, hown, hts⟩ (c_X3_gradeOf_no (dC := dC) (dI := dI) (cI := cI) (cZ := cZ) (ad := ad) (sm := sm) (fe := fe) (ex := ex) (dy := dy) (gp := gp) (gc := gc) (op := op) (gr := gr) (st := st) (dl := dl) (wo := wo) (n := n) (yc := yc) (ya := ya) (ys := ys) (yd := yd) (q := q) (zc := zc) (zp := zp) (zr := zr) (zs := zs) (zf := zf) (z := z) (zm := zm) (zt := zt) (x := x) l hfl hn hk) (cwV 1 hts hg9 rfl rfl rfl (by decide +kernel) hR9) ⟨fun a U g mk q => ⟨q.1, q.2.1, va_K.moved (u := U) (U := U.calling g mk a) (Vm.Alike.refl U.vm) q.2.2.1, tX.same (u := U) (U := U.calling g mk a) rfl q.2.2.2⟩, rC_0 hK hP, fun U hU hW => ⟨rfl, by rw [hU]; exact hP, va_K.moved hW.alike hK, by rw [hU]; exact tX.warm hW hT⟩⟩ rfl rfl hl9 rfl (lv_room hw9) hdg hc9
end
set_option maxHeartbeats 4000000 in
set_option maxRecDepth 100000 in
theorem c_X3_room_no (l : Launch) (hfl : l.stackTraces = false) {dC : Nat → ClassId} {dI : Nat → Nat → Nat} {cI cZ : ClassId} {ad : Nat → Nat} {sm fe ex dy : Int32} {gp gc op gr st dl wo : Nat → Int32} {n : Nat} {yc ya ys yd : Nat → Int32} {q : Nat} {zc zp zr zs zf : Nat → Int32} {z : Nat} {zm zt : Int64} {x : Int32} (hn : n ≤ 24) (hk : ¬ vp_in x n) : vx_Met l yX3_room wsX3_room { frames := 7, cells := 1, slots := 6, locals := 111 } (va_Pc [.ref (ad 0), .int x] (fun U => va_P (dC, dI) vwCl (wC cI cZ ad sm fe ex dy gp gc op gr st dl wo n yc ya ys yd q zc zp zr zs zf z zm zt) U.heap ∧ va_K (dC, dI) vwCl [(cI, .int), (cZ, .boolean)] U ∧ tX (fun _ => False) U U.heap)) (fun _ _ _ _ => False) (xT "java/lang/IndexOutOfBoundsException") 1 6 (fun _ => False) := by
  refine vx_ofW (cc := cX3_room) (maxL := 3) (ret := (some .int)) (by decide) rfl ?_
  intro p e s m args below meth c s₁ B hml ht hv
  obtain ⟨rfl, hP, hK, hT⟩ := hv
  have hx := B.exec
  have hb := B.bytes
  have hr := B.returns
  have hts := atoms_spec (ws := wsX3_room) B.pre
  have hown : s.vm.findClass RX3 = some m.cls := findClass_of_methodNamed B.named
  have hlocks := B.notSynchronized
  have hl := lv_entry ([.ref (ad 0), .int x]) (n := 3) (Nat.le_of_ble_eq_true rfl)
  rw [lg_entry_eq]
  generalize (lg_sl ([.ref (ad 0), .int x]) ++ List.replicate (3 - (lg_sl ([.ref (ad 0), .int x])).length) Slot.unset).toArray = ls at hl ⊢
  have hl : lv_has ls 3 [(0, .ref (ad 0)), (1, .int x)] := hl
  refine lv_aload_n hx hb dX3_room_0 rfl (lv_at hl 0 rfl) ?_
  refine lv_iload_n hx hb dX3_room_1 rfl (lv_at hl 1 rfl) ?_
  exact zx_on (kr_X3_mustBeClaim_no l hfl (x := x) (hn := hn) (hk := hk) hx hb hml hown hts hK hP gX3_room_X3_mustBeClaim ⟨Nat.le_of_ble_eq_true rfl, Nat.le_of_ble_eq_true rfl⟩ ⟨Nat.le_of_ble_eq_true rfl, Nat.le_of_ble_eq_true rfl⟩ hl.1 (Nat.le_of_ble_eq_true rfl) dX3_room_2 hT) ht hlocks
section
variable {p : Program} {e : Env} {R : Room} {s : State} {m : MethodId} {args : Array Value} {below : List Frame} {meth : Method} {c : Code} {H : Heap} {locs : List Loc} {cells slots : Nat} {Q : State → Prop} {cc : ByteArray} {pc : Nat} {ls : Array Slot} {rest : List Value} {own : String} {index nL : Nat} {Ts : List Cond} {H0 : Heap} {A0 : Nat → Prop}
theorem kr_X3_room_no (l : Launch) (hfl : l.stackTraces = false) {dC : Nat → ClassId} {dI : Nat → Nat → Nat} {cI cZ : ClassId} {ad : Nat → Nat} {sm fe ex dy : Int32} {gp gc op gr st dl wo : Nat → Int32} {n : Nat} {yc ya ys yd : Nat → Int32} {q : Nat} {zc zp zr zs zf : Nat → Int32} {z : Nat} {zm zt : Int64} {x : Int32} (hn : n ≤ 24) (hk : ¬ vp_in x n) (hx : p.tables.exec = Jvm.exec) (hb : c.code = cc) (hml : c.maxLocals = nL) (hown : s.vm.findClass own = some m.cls) (hts : ∀ w ∈ Ts, w.before args s = true) (hK : va_K (dC, dI) vwCl [(cI, .int), (cZ, .boolean)] s) (hP : va_P (dC, dI) vwCl (wC cI cZ ad sm fe ex dy gp gc op gr st dl wo n yc ya ys yd q zc zp zr zs zf z zm zt) H) (hg9 : GoodIn Ts (wsV own index RX3 yX3_room wsX3_room)) (hR9 : 7 + 1 ≤ R.frames ∧ 8 + (3 + 11) + 111 ≤ R.locals) (hc9 : cells + 1 ≤ R.cells ∧ slots + 6 ≤ R.slots) (hl9 : ls.size = nL) (hw9 : (rest.map fun v => v.category).sum ≤ 8) (hdg : decode cc pc = .ok (.invokevirtual index, 3)) (hT : tX (fun _ => False) s H) : vx_Run p l e R s m args below meth c H locs cells slots 1 6 (F0 m pc ls (.int x :: .ref (ad 0) :: rest)) rest (fun _ _ _ => False) (xT "java/lang/IndexOutOfBoundsException") (fun _ => False) := vx_runV (As := [.int x]) (rest := rest) ⟨hx, hb, hml, hown, hts⟩ (c_X3_room_no (dC := dC) (dI := dI) (cI := cI) (cZ := cZ) (ad := ad) (sm := sm) (fe := fe) (ex := ex) (dy := dy) (gp := gp) (gc := gc) (op := op) (gr := gr) (st := st) (dl := dl) (wo := wo) (n := n) (yc := yc) (ya := ya) (ys := ys) (yd := yd) (q := q) (zc := zc) (zp := zp) (zr := zr) (zs := zs) (zf := zf) (z := z) (zm := zm) (zt := zt) (x := x) l hfl hn hk) (cwV 1 hts hg9 rfl rfl rfl (by decide +kernel) hR9) ⟨fun a U g mk q => ⟨q.1, q.2.1, va_K.moved (u := U) (U := U.calling g mk a) (Vm.Alike.refl U.vm) q.2.2.1, tX.same (u := U) (U := U.calling g mk a) rfl q.2.2.2⟩, rC_0 hK hP, fun U hU hW => ⟨rfl, by rw [hU]; exact hP, va_K.moved hW.alike hK, by rw [hU]; exact tX.warm hW hT⟩⟩ rfl rfl hl9 rfl (lv_room hw9) hdg hc9
end
set_option maxHeartbeats 4000000 in
set_option maxRecDepth 100000 in
theorem c_X3_paidTo_no (l : Launch) (hfl : l.stackTraces = false) {dC : Nat → ClassId} {dI : Nat → Nat → Nat} {cI cZ : ClassId} {ad : Nat → Nat} {sm fe ex dy : Int32} {gp gc op gr st dl wo : Nat → Int32} {n : Nat} {yc ya ys yd : Nat → Int32} {q : Nat} {zc zp zr zs zf : Nat → Int32} {z : Nat} {zm zt : Int64} {x : Int32} (hn : n ≤ 24) (hk : ¬ vp_in x n) : vx_Met l yX3_paidTo wsX3_paidTo { frames := 7, cells := 1, slots := 6, locals := 111 } (va_Pc [.ref (ad 0), .int x] (fun U => va_P (dC, dI) vwCl (wC cI cZ ad sm fe ex dy gp gc op gr st dl wo n yc ya ys yd q zc zp zr zs zf z zm zt) U.heap ∧ va_K (dC, dI) vwCl [(cI, .int), (cZ, .boolean)] U ∧ tX (fun _ => False) U U.heap)) (fun _ _ _ _ => False) (xT "java/lang/IndexOutOfBoundsException") 1 6 (fun _ => False) := by
  refine vx_ofW (cc := cX3_paidTo) (maxL := 2) (ret := (some .int)) (by decide) rfl ?_
  intro p e s m args below meth c s₁ B hml ht hv
  obtain ⟨rfl, hP, hK, hT⟩ := hv
  have hx := B.exec
  have hb := B.bytes
  have hr := B.returns
  have hts := atoms_spec (ws := wsX3_paidTo) B.pre
  have hown : s.vm.findClass RX3 = some m.cls := findClass_of_methodNamed B.named
  have hlocks := B.notSynchronized
  have hl := lv_entry ([.ref (ad 0), .int x]) (n := 2) (Nat.le_of_ble_eq_true rfl)
  rw [lg_entry_eq]
  generalize (lg_sl ([.ref (ad 0), .int x]) ++ List.replicate (2 - (lg_sl ([.ref (ad 0), .int x])).length) Slot.unset).toArray = ls at hl ⊢
  have hl : lv_has ls 2 [(0, .ref (ad 0)), (1, .int x)] := hl
  refine lv_aload_n hx hb dX3_paidTo_0 rfl (lv_at hl 0 rfl) ?_
  refine lv_iload_n hx hb dX3_paidTo_1 rfl (lv_at hl 1 rfl) ?_
  exact zx_on (kr_X3_mustBeClaim_no l hfl (x := x) (hn := hn) (hk := hk) hx hb hml hown hts hK hP gX3_paidTo_X3_mustBeClaim ⟨Nat.le_of_ble_eq_true rfl, Nat.le_of_ble_eq_true rfl⟩ ⟨Nat.le_of_ble_eq_true rfl, Nat.le_of_ble_eq_true rfl⟩ hl.1 (Nat.le_of_ble_eq_true rfl) dX3_paidTo_2 hT) ht hlocks
section
variable {p : Program} {e : Env} {R : Room} {s : State} {m : MethodId} {args : Array Value} {below : List Frame} {meth : Method} {c : Code} {H : Heap} {locs : List Loc} {cells slots : Nat} {Q : State → Prop} {cc : ByteArray} {pc : Nat} {ls : Array Slot} {rest : List Value} {own : String} {index nL : Nat} {Ts : List Cond} {H0 : Heap} {A0 : Nat → Prop}
theorem kr_X3_paidTo_no (l : Launch) (hfl : l.stackTraces = false) {dC : Nat → ClassId} {dI : Nat → Nat → Nat} {cI cZ : ClassId} {ad : Nat → Nat} {sm fe ex dy : Int32} {gp gc op gr st dl wo : Nat → Int32} {n : Nat} {yc ya ys yd : Nat → Int32} {q : Nat} {zc zp zr zs zf : Nat → Int32} {z : Nat} {zm zt : Int64} {x : Int32} (hn : n ≤ 24) (hk : ¬ vp_in x n) (hx : p.tables.exec = Jvm.exec) (hb : c.code = cc) (hml : c.maxLocals = nL) (hown : s.vm.findClass own = some m.cls) (hts : ∀ w ∈ Ts, w.before args s = true) (hK : va_K (dC, dI) vwCl [(cI, .int), (cZ, .boolean)] s) (hP : va_P (dC, dI) vwCl (wC cI cZ ad sm fe ex dy gp gc op gr st dl wo n yc ya ys yd q zc zp zr zs zf z zm zt) H) (hg9 : GoodIn Ts (wsV own index RX3 yX3_paidTo wsX3_paidTo)) (hR9 : 7 + 1 ≤ R.frames ∧ 8 + (2 + 11) + 111 ≤ R.locals) (hc9 : cells + 1 ≤ R.cells ∧ slots + 6 ≤ R.slots) (hl9 : ls.size = nL) (hw9 : (rest.map fun v => v.category).sum ≤ 8) (hdg : decode cc pc = .ok (.invokevirtual index, 3)) (hT : tX (fun _ => False) s H) : vx_Run p l e R s m args below meth c H locs cells slots 1 6 (F0 m pc ls (.int x :: .ref (ad 0) :: rest)) rest (fun _ _ _ => False) (xT "java/lang/IndexOutOfBoundsException") (fun _ => False) := vx_runV (As := [.int x]) (rest := rest) ⟨hx, hb, hml, hown, hts⟩ (c_X3_paidTo_no (dC := dC) (dI := dI) (cI := cI) (cZ := cZ) (ad := ad) (sm := sm) (fe := fe) (ex := ex) (dy := dy) (gp := gp) (gc := gc) (op := op) (gr := gr) (st := st) (dl := dl) (wo := wo) (n := n) (yc := yc) (ya := ya) (ys := ys) (yd := yd) (q := q) (zc := zc) (zp := zp) (zr := zr) (zs := zs) (zf := zf) (z := z) (zm := zm) (zt := zt) (x := x) l hfl hn hk) (cwV 1 hts hg9 rfl rfl rfl (by decide +kernel) hR9) ⟨fun a U g mk q => ⟨q.1, q.2.1, va_K.moved (u := U) (U := U.calling g mk a) (Vm.Alike.refl U.vm) q.2.2.1, tX.same (u := U) (U := U.calling g mk a) rfl q.2.2.2⟩, rC_0 hK hP, fun U hU hW => ⟨rfl, by rw [hU]; exact hP, va_K.moved hW.alike hK, by rw [hU]; exact tX.warm hW hT⟩⟩ rfl rfl hl9 rfl (lv_room hw9) hdg hc9
end
set_option maxHeartbeats 4000000 in
set_option maxRecDepth 100000 in
theorem c_X3_cure_no (l : Launch) (hfl : l.stackTraces = false) {dC : Nat → ClassId} {dI : Nat → Nat → Nat} {cI cZ : ClassId} {ad : Nat → Nat} {sm fe ex dy : Int32} {gp gc op gr st dl wo : Nat → Int32} {n : Nat} {yc ya ys yd : Nat → Int32} {q : Nat} {zc zp zr zs zf : Nat → Int32} {z : Nat} {zm zt : Int64} {x : Int32} (hn : n ≤ 24) (hk : ¬ vp_in x n) : vx_Met l yX3_cure wsX3_cure { frames := 7, cells := 1, slots := 6, locals := 111 } (va_Pc [.ref (ad 0), .int x] (fun U => va_P (dC, dI) vwCl (wC cI cZ ad sm fe ex dy gp gc op gr st dl wo n yc ya ys yd q zc zp zr zs zf z zm zt) U.heap ∧ va_K (dC, dI) vwCl [(cI, .int), (cZ, .boolean)] U ∧ tX (fun _ => False) U U.heap)) (fun _ _ _ _ => False) (xT "java/lang/IndexOutOfBoundsException") 1 6 (fun _ => False) := by
  refine vx_ofW (cc := cX3_cure) (maxL := 2) (ret := (some .int)) (by decide) rfl ?_
  intro p e s m args below meth c s₁ B hml ht hv
  obtain ⟨rfl, hP, hK, hT⟩ := hv
  have hx := B.exec
  have hb := B.bytes
  have hr := B.returns
  have hts := atoms_spec (ws := wsX3_cure) B.pre
  have hown : s.vm.findClass RX3 = some m.cls := findClass_of_methodNamed B.named
  have hlocks := B.notSynchronized
  have hl := lv_entry ([.ref (ad 0), .int x]) (n := 2) (Nat.le_of_ble_eq_true rfl)
  rw [lg_entry_eq]
  generalize (lg_sl ([.ref (ad 0), .int x]) ++ List.replicate (2 - (lg_sl ([.ref (ad 0), .int x])).length) Slot.unset).toArray = ls at hl ⊢
  have hl : lv_has ls 2 [(0, .ref (ad 0)), (1, .int x)] := hl
  refine lv_aload_n hx hb dX3_cure_0 rfl (lv_at hl 0 rfl) ?_
  refine lv_iload_n hx hb dX3_cure_1 rfl (lv_at hl 1 rfl) ?_
  exact zx_on (kr_X3_mustBeClaim_no l hfl (x := x) (hn := hn) (hk := hk) hx hb hml hown hts hK hP gX3_cure_X3_mustBeClaim ⟨Nat.le_of_ble_eq_true rfl, Nat.le_of_ble_eq_true rfl⟩ ⟨Nat.le_of_ble_eq_true rfl, Nat.le_of_ble_eq_true rfl⟩ hl.1 (Nat.le_of_ble_eq_true rfl) dX3_cure_2 hT) ht hlocks
section
variable {p : Program} {e : Env} {R : Room} {s : State} {m : MethodId} {args : Array Value} {below : List Frame} {meth : Method} {c : Code} {H : Heap} {locs : List Loc} {cells slots : Nat} {Q : State → Prop} {cc : ByteArray} {pc : Nat} {ls : Array Slot} {rest : List Value} {own : String} {index nL : Nat} {Ts : List Cond} {H0 : Heap} {A0 : Nat → Prop}
theorem kr_X3_cure_no (l : Launch) (hfl : l.stackTraces = false) {dC : Nat → ClassId} {dI : Nat → Nat → Nat} {cI cZ : ClassId} {ad : Nat → Nat} {sm fe ex dy : Int32} {gp gc op gr st dl wo : Nat → Int32} {n : Nat} {yc ya ys yd : Nat → Int32} {q : Nat} {zc zp zr zs zf : Nat → Int32} {z : Nat} {zm zt : Int64} {x : Int32} (hn : n ≤ 24) (hk : ¬ vp_in x n) (hx : p.tables.exec = Jvm.exec) (hb : c.code = cc) (hml : c.maxLocals = nL) (hown : s.vm.findClass own = some m.cls) (hts : ∀ w ∈ Ts, w.before args s = true) (hK : va_K (dC, dI) vwCl [(cI, .int), (cZ, .boolean)] s) (hP : va_P (dC, dI) vwCl (wC cI cZ ad sm fe ex dy gp gc op gr st dl wo n yc ya ys yd q zc zp zr zs zf z zm zt) H) (hg9 : GoodIn Ts (wsV own index RX3 yX3_cure wsX3_cure)) (hR9 : 7 + 1 ≤ R.frames ∧ 8 + (2 + 11) + 111 ≤ R.locals) (hc9 : cells + 1 ≤ R.cells ∧ slots + 6 ≤ R.slots) (hl9 : ls.size = nL) (hw9 : (rest.map fun v => v.category).sum ≤ 8) (hdg : decode cc pc = .ok (.invokevirtual index, 3)) (hT : tX (fun _ => False) s H) : vx_Run p l e R s m args below meth c H locs cells slots 1 6 (F0 m pc ls (.int x :: .ref (ad 0) :: rest)) rest (fun _ _ _ => False) (xT "java/lang/IndexOutOfBoundsException") (fun _ => False) := vx_runV (As := [.int x]) (rest := rest) ⟨hx, hb, hml, hown, hts⟩ (c_X3_cure_no (dC := dC) (dI := dI) (cI := cI) (cZ := cZ) (ad := ad) (sm := sm) (fe := fe) (ex := ex) (dy := dy) (gp := gp) (gc := gc) (op := op) (gr := gr) (st := st) (dl := dl) (wo := wo) (n := n) (yc := yc) (ya := ya) (ys := ys) (yd := yd) (q := q) (zc := zc) (zp := zp) (zr := zr) (zs := zs) (zf := zf) (z := z) (zm := zm) (zt := zt) (x := x) l hfl hn hk) (cwV 1 hts hg9 rfl rfl rfl (by decide +kernel) hR9) ⟨fun a U g mk q => ⟨q.1, q.2.1, va_K.moved (u := U) (U := U.calling g mk a) (Vm.Alike.refl U.vm) q.2.2.1, tX.same (u := U) (U := U.calling g mk a) rfl q.2.2.2⟩, rC_0 hK hP, fun U hU hW => ⟨rfl, by rw [hU]; exact hP, va_K.moved hW.alike hK, by rw [hU]; exact tX.warm hW hT⟩⟩ rfl rfl hl9 rfl (lv_room hw9) hdg hc9
end
set_option maxHeartbeats 4000000 in
set_option maxRecDepth 100000 in
theorem c_X3_deny_no (l : Launch) (hfl : l.stackTraces = false) {dC : Nat → ClassId} {dI : Nat → Nat → Nat} {cI cZ : ClassId} {ad : Nat → Nat} {sm fe ex dy : Int32} {gp gc op gr st dl wo : Nat → Int32} {n : Nat} {yc ya ys yd : Nat → Int32} {q : Nat} {zc zp zr zs zf : Nat → Int32} {z : Nat} {zm zt : Int64} {x : Int32} (hn : n ≤ 24) (hk : ¬ vp_in x n) : vx_Met l yX3_deny wsX3_deny { frames := 7, cells := 1, slots := 6, locals := 111 } (va_Pc [.ref (ad 0), .int x] (fun U => va_P (dC, dI) vwCl (wC cI cZ ad sm fe ex dy gp gc op gr st dl wo n yc ya ys yd q zc zp zr zs zf z zm zt) U.heap ∧ va_K (dC, dI) vwCl [(cI, .int), (cZ, .boolean)] U ∧ tX (fun _ => False) U U.heap)) (fun _ _ _ _ => False) (xT "java/lang/IndexOutOfBoundsException") 1 6 (fun _ => False) := by
  refine vx_ofW (cc := cX3_deny) (maxL := 3) (ret := (some .int)) (by decide) rfl ?_
  intro p e s m args below meth c s₁ B hml ht hv
  obtain ⟨rfl, hP, hK, hT⟩ := hv
  have hx := B.exec
  have hb := B.bytes
  have hr := B.returns
  have hts := atoms_spec (ws := wsX3_deny) B.pre
  have hown : s.vm.findClass RX3 = some m.cls := findClass_of_methodNamed B.named
  have hlocks := B.notSynchronized
  have hl := lv_entry ([.ref (ad 0), .int x]) (n := 3) (Nat.le_of_ble_eq_true rfl)
  rw [lg_entry_eq]
  generalize (lg_sl ([.ref (ad 0), .int x]) ++ List.replicate (3 - (lg_sl ([.ref (ad 0), .int x])).length) Slot.unset).toArray = ls at hl ⊢
  have hl : lv_has ls 3 [(0, .ref (ad 0)), (1, .int x)] := hl
  refine lv_aload_n hx hb dX3_deny_0 rfl (lv_at hl 0 rfl) ?_
  refine lv_iload_n hx hb dX3_deny_1 rfl (lv_at hl 1 rfl) ?_
  exact zx_on (kr_X3_mustBeClaim_no l hfl (x := x) (hn := hn) (hk := hk) hx hb hml hown hts hK hP gX3_deny_X3_mustBeClaim ⟨Nat.le_of_ble_eq_true rfl, Nat.le_of_ble_eq_true rfl⟩ ⟨Nat.le_of_ble_eq_true rfl, Nat.le_of_ble_eq_true rfl⟩ hl.1 (Nat.le_of_ble_eq_true rfl) dX3_deny_2 hT) ht hlocks
section
variable {p : Program} {e : Env} {R : Room} {s : State} {m : MethodId} {args : Array Value} {below : List Frame} {meth : Method} {c : Code} {H : Heap} {locs : List Loc} {cells slots : Nat} {Q : State → Prop} {cc : ByteArray} {pc : Nat} {ls : Array Slot} {rest : List Value} {own : String} {index nL : Nat} {Ts : List Cond} {H0 : Heap} {A0 : Nat → Prop}
theorem kr_X3_deny_no (l : Launch) (hfl : l.stackTraces = false) {dC : Nat → ClassId} {dI : Nat → Nat → Nat} {cI cZ : ClassId} {ad : Nat → Nat} {sm fe ex dy : Int32} {gp gc op gr st dl wo : Nat → Int32} {n : Nat} {yc ya ys yd : Nat → Int32} {q : Nat} {zc zp zr zs zf : Nat → Int32} {z : Nat} {zm zt : Int64} {x : Int32} (hn : n ≤ 24) (hk : ¬ vp_in x n) (hx : p.tables.exec = Jvm.exec) (hb : c.code = cc) (hml : c.maxLocals = nL) (hown : s.vm.findClass own = some m.cls) (hts : ∀ w ∈ Ts, w.before args s = true) (hK : va_K (dC, dI) vwCl [(cI, .int), (cZ, .boolean)] s) (hP : va_P (dC, dI) vwCl (wC cI cZ ad sm fe ex dy gp gc op gr st dl wo n yc ya ys yd q zc zp zr zs zf z zm zt) H) (hg9 : GoodIn Ts (wsV own index RX3 yX3_deny wsX3_deny)) (hR9 : 7 + 1 ≤ R.frames ∧ 8 + (3 + 11) + 111 ≤ R.locals) (hc9 : cells + 1 ≤ R.cells ∧ slots + 6 ≤ R.slots) (hl9 : ls.size = nL) (hw9 : (rest.map fun v => v.category).sum ≤ 8) (hdg : decode cc pc = .ok (.invokevirtual index, 3)) (hT : tX (fun _ => False) s H) : vx_Run p l e R s m args below meth c H locs cells slots 1 6 (F0 m pc ls (.int x :: .ref (ad 0) :: rest)) rest (fun _ _ _ => False) (xT "java/lang/IndexOutOfBoundsException") (fun _ => False) := vx_runV (As := [.int x]) (rest := rest) ⟨hx, hb, hml, hown, hts⟩ (c_X3_deny_no (dC := dC) (dI := dI) (cI := cI) (cZ := cZ) (ad := ad) (sm := sm) (fe := fe) (ex := ex) (dy := dy) (gp := gp) (gc := gc) (op := op) (gr := gr) (st := st) (dl := dl) (wo := wo) (n := n) (yc := yc) (ya := ya) (ys := ys) (yd := yd) (q := q) (zc := zc) (zp := zp) (zr := zr) (zs := zs) (zf := zf) (z := z) (zm := zm) (zt := zt) (x := x) l hfl hn hk) (cwV 1 hts hg9 rfl rfl rfl (by decide +kernel) hR9) ⟨fun a U g mk q => ⟨q.1, q.2.1, va_K.moved (u := U) (U := U.calling g mk a) (Vm.Alike.refl U.vm) q.2.2.1, tX.same (u := U) (U := U.calling g mk a) rfl q.2.2.2⟩, rC_0 hK hP, fun U hU hW => ⟨rfl, by rw [hU]; exact hP, va_K.moved hW.alike hK, by rw [hU]; exact tX.warm hW hT⟩⟩ rfl rfl hl9 rfl (lv_room hw9) hdg hc9
end
set_option maxHeartbeats 4000000 in
set_option maxRecDepth 100000 in
theorem c_X3_object_no (l : Launch) (hfl : l.stackTraces = false) {dC : Nat → ClassId} {dI : Nat → Nat → Nat} {cI cZ : ClassId} {ad : Nat → Nat} {sm fe ex dy : Int32} {gp gc op gr st dl wo : Nat → Int32} {n : Nat} {yc ya ys yd : Nat → Int32} {q : Nat} {zc zp zr zs zf : Nat → Int32} {z : Nat} {zm zt : Int64} {x : Int32} (hn : n ≤ 24) (hk : ¬ vp_in x n) : vx_Met l yX3_object wsX3_object { frames := 7, cells := 1, slots := 6, locals := 111 } (va_Pc [.ref (ad 0), .int x] (fun U => va_P (dC, dI) vwCl (wC cI cZ ad sm fe ex dy gp gc op gr st dl wo n yc ya ys yd q zc zp zr zs zf z zm zt) U.heap ∧ va_K (dC, dI) vwCl [(cI, .int), (cZ, .boolean)] U ∧ tX (fun _ => False) U U.heap)) (fun _ _ _ _ => False) (xT "java/lang/IndexOutOfBoundsException") 1 6 (fun _ => False) := by
  refine vx_ofW (cc := cX3_object) (maxL := 2) (ret := (some .int)) (by decide) rfl ?_
  intro p e s m args below meth c s₁ B hml ht hv
  obtain ⟨rfl, hP, hK, hT⟩ := hv
  have hx := B.exec
  have hb := B.bytes
  have hr := B.returns
  have hts := atoms_spec (ws := wsX3_object) B.pre
  have hown : s.vm.findClass RX3 = some m.cls := findClass_of_methodNamed B.named
  have hlocks := B.notSynchronized
  have hl := lv_entry ([.ref (ad 0), .int x]) (n := 2) (Nat.le_of_ble_eq_true rfl)
  rw [lg_entry_eq]
  generalize (lg_sl ([.ref (ad 0), .int x]) ++ List.replicate (2 - (lg_sl ([.ref (ad 0), .int x])).length) Slot.unset).toArray = ls at hl ⊢
  have hl : lv_has ls 2 [(0, .ref (ad 0)), (1, .int x)] := hl
  refine lv_aload_n hx hb dX3_object_0 rfl (lv_at hl 0 rfl) ?_
  refine lv_iload_n hx hb dX3_object_1 rfl (lv_at hl 1 rfl) ?_
  exact zx_on (kr_X3_mustBeClaim_no l hfl (x := x) (hn := hn) (hk := hk) hx hb hml hown hts hK hP gX3_object_X3_mustBeClaim ⟨Nat.le_of_ble_eq_true rfl, Nat.le_of_ble_eq_true rfl⟩ ⟨Nat.le_of_ble_eq_true rfl, Nat.le_of_ble_eq_true rfl⟩ hl.1 (Nat.le_of_ble_eq_true rfl) dX3_object_2 hT) ht hlocks
section
variable {p : Program} {e : Env} {R : Room} {s : State} {m : MethodId} {args : Array Value} {below : List Frame} {meth : Method} {c : Code} {H : Heap} {locs : List Loc} {cells slots : Nat} {Q : State → Prop} {cc : ByteArray} {pc : Nat} {ls : Array Slot} {rest : List Value} {own : String} {index nL : Nat} {Ts : List Cond} {H0 : Heap} {A0 : Nat → Prop}
theorem kr_X3_object_no (l : Launch) (hfl : l.stackTraces = false) {dC : Nat → ClassId} {dI : Nat → Nat → Nat} {cI cZ : ClassId} {ad : Nat → Nat} {sm fe ex dy : Int32} {gp gc op gr st dl wo : Nat → Int32} {n : Nat} {yc ya ys yd : Nat → Int32} {q : Nat} {zc zp zr zs zf : Nat → Int32} {z : Nat} {zm zt : Int64} {x : Int32} (hn : n ≤ 24) (hk : ¬ vp_in x n) (hx : p.tables.exec = Jvm.exec) (hb : c.code = cc) (hml : c.maxLocals = nL) (hown : s.vm.findClass own = some m.cls) (hts : ∀ w ∈ Ts, w.before args s = true) (hK : va_K (dC, dI) vwCl [(cI, .int), (cZ, .boolean)] s) (hP : va_P (dC, dI) vwCl (wC cI cZ ad sm fe ex dy gp gc op gr st dl wo n yc ya ys yd q zc zp zr zs zf z zm zt) H) (hg9 : GoodIn Ts (wsV own index RX3 yX3_object wsX3_object)) (hR9 : 7 + 1 ≤ R.frames ∧ 8 + (2 + 11) + 111 ≤ R.locals) (hc9 : cells + 1 ≤ R.cells ∧ slots + 6 ≤ R.slots) (hl9 : ls.size = nL) (hw9 : (rest.map fun v => v.category).sum ≤ 8) (hdg : decode cc pc = .ok (.invokevirtual index, 3)) (hT : tX (fun _ => False) s H) : vx_Run p l e R s m args below meth c H locs cells slots 1 6 (F0 m pc ls (.int x :: .ref (ad 0) :: rest)) rest (fun _ _ _ => False) (xT "java/lang/IndexOutOfBoundsException") (fun _ => False) := vx_runV (As := [.int x]) (rest := rest) ⟨hx, hb, hml, hown, hts⟩ (c_X3_object_no (dC := dC) (dI := dI) (cI := cI) (cZ := cZ) (ad := ad) (sm := sm) (fe := fe) (ex := ex) (dy := dy) (gp := gp) (gc := gc) (op := op) (gr := gr) (st := st) (dl := dl) (wo := wo) (n := n) (yc := yc) (ya := ya) (ys := ys) (yd := yd) (q := q) (zc := zc) (zp := zp) (zr := zr) (zs := zs) (zf := zf) (z := z) (zm := zm) (zt := zt) (x := x) l hfl hn hk) (cwV 1 hts hg9 rfl rfl rfl (by decide +kernel) hR9) ⟨fun a U g mk q => ⟨q.1, q.2.1, va_K.moved (u := U) (U := U.calling g mk a) (Vm.Alike.refl U.vm) q.2.2.1, tX.same (u := U) (U := U.calling g mk a) rfl q.2.2.2⟩, rC_0 hK hP, fun U hU hW => ⟨rfl, by rw [hU]; exact hP, va_K.moved hW.alike hK, by rw [hU]; exact tX.warm hW hT⟩⟩ rfl rfl hl9 rfl (lv_room hw9) hdg hc9
end
set_option maxHeartbeats 4000000 in
set_option maxRecDepth 100000 in
theorem c_X3_decide_no (l : Launch) (hfl : l.stackTraces = false) {dC : Nat → ClassId} {dI : Nat → Nat → Nat} {cI cZ : ClassId} {ad : Nat → Nat} {sm fe ex dy : Int32} {gp gc op gr st dl wo : Nat → Int32} {n : Nat} {yc ya ys yd : Nat → Int32} {q : Nat} {zc zp zr zs zf : Nat → Int32} {z : Nat} {zm zt : Int64} {x : Int32} {b1 : Int32} (hn : n ≤ 24) (hk : ¬ vp_in x n) : vx_Met l yX3_decide wsX3_decide { frames := 7, cells := 1, slots := 6, locals := 111 } (va_Pc [.ref (ad 0), .int x, .int b1] (fun U => va_P (dC, dI) vwCl (wC cI cZ ad sm fe ex dy gp gc op gr st dl wo n yc ya ys yd q zc zp zr zs zf z zm zt) U.heap ∧ va_K (dC, dI) vwCl [(cI, .int), (cZ, .boolean)] U ∧ tX (fun _ => False) U U.heap)) (fun _ _ _ _ => False) (xT "java/lang/IndexOutOfBoundsException") 1 6 (fun _ => False) := by
  refine vx_ofW (cc := cX3_decide) (maxL := 3) (ret := (some .int)) (by decide) rfl ?_
  intro p e s m args below meth c s₁ B hml ht hv
  obtain ⟨rfl, hP, hK, hT⟩ := hv
  have hx := B.exec
  have hb := B.bytes
  have hr := B.returns
  have hts := atoms_spec (ws := wsX3_decide) B.pre
  have hown : s.vm.findClass RX3 = some m.cls := findClass_of_methodNamed B.named
  have hlocks := B.notSynchronized
  have hl := lv_entry ([.ref (ad 0), .int x, .int b1]) (n := 3) (Nat.le_of_ble_eq_true rfl)
  rw [lg_entry_eq]
  generalize (lg_sl ([.ref (ad 0), .int x, .int b1]) ++ List.replicate (3 - (lg_sl ([.ref (ad 0), .int x, .int b1])).length) Slot.unset).toArray = ls at hl ⊢
  have hl : lv_has ls 3 [(0, .ref (ad 0)), (1, .int x), (2, .int b1)] := hl
  refine lv_aload_n hx hb dX3_decide_0 rfl (lv_at hl 0 rfl) ?_
  refine lv_iload_n hx hb dX3_decide_1 rfl (lv_at hl 1 rfl) ?_
  exact zx_on (kr_X3_mustBeClaim_no l hfl (x := x) (hn := hn) (hk := hk) hx hb hml hown hts hK hP gX3_decide_X3_mustBeClaim ⟨Nat.le_of_ble_eq_true rfl, Nat.le_of_ble_eq_true rfl⟩ ⟨Nat.le_of_ble_eq_true rfl, Nat.le_of_ble_eq_true rfl⟩ hl.1 (Nat.le_of_ble_eq_true rfl) dX3_decide_2 hT) ht hlocks
section
variable {p : Program} {e : Env} {R : Room} {s : State} {m : MethodId} {args : Array Value} {below : List Frame} {meth : Method} {c : Code} {H : Heap} {locs : List Loc} {cells slots : Nat} {Q : State → Prop} {cc : ByteArray} {pc : Nat} {ls : Array Slot} {rest : List Value} {own : String} {index nL : Nat} {Ts : List Cond} {H0 : Heap} {A0 : Nat → Prop}
theorem kr_X3_decide_no (l : Launch) (hfl : l.stackTraces = false) {dC : Nat → ClassId} {dI : Nat → Nat → Nat} {cI cZ : ClassId} {ad : Nat → Nat} {sm fe ex dy : Int32} {gp gc op gr st dl wo : Nat → Int32} {n : Nat} {yc ya ys yd : Nat → Int32} {q : Nat} {zc zp zr zs zf : Nat → Int32} {z : Nat} {zm zt : Int64} {x : Int32} {b1 : Int32} (hn : n ≤ 24) (hk : ¬ vp_in x n) (hx : p.tables.exec = Jvm.exec) (hb : c.code = cc) (hml : c.maxLocals = nL) (hown : s.vm.findClass own = some m.cls) (hts : ∀ w ∈ Ts, w.before args s = true) (hK : va_K (dC, dI) vwCl [(cI, .int), (cZ, .boolean)] s) (hP : va_P (dC, dI) vwCl (wC cI cZ ad sm fe ex dy gp gc op gr st dl wo n yc ya ys yd q zc zp zr zs zf z zm zt) H) (hg9 : GoodIn Ts (wsV own index RX3 yX3_decide wsX3_decide)) (hR9 : 7 + 1 ≤ R.frames ∧ 8 + (3 + 11) + 111 ≤ R.locals) (hc9 : cells + 1 ≤ R.cells ∧ slots + 6 ≤ R.slots) (hl9 : ls.size = nL) (hw9 : (rest.map fun v => v.category).sum ≤ 8) (hdg : decode cc pc = .ok (.invokevirtual index, 3)) (hT : tX (fun _ => False) s H) : vx_Run p l e R s m args below meth c H locs cells slots 1 6 (F0 m pc ls (.int b1 :: .int x :: .ref (ad 0) :: rest)) rest (fun _ _ _ => False) (xT "java/lang/IndexOutOfBoundsException") (fun _ => False) := vx_runV (As := [.int x, .int b1]) (rest := rest) ⟨hx, hb, hml, hown, hts⟩ (c_X3_decide_no (dC := dC) (dI := dI) (cI := cI) (cZ := cZ) (ad := ad) (sm := sm) (fe := fe) (ex := ex) (dy := dy) (gp := gp) (gc := gc) (op := op) (gr := gr) (st := st) (dl := dl) (wo := wo) (n := n) (yc := yc) (ya := ya) (ys := ys) (yd := yd) (q := q) (zc := zc) (zp := zp) (zr := zr) (zs := zs) (zf := zf) (z := z) (zm := zm) (zt := zt) (x := x) (b1 := b1) l hfl hn hk) (cwV 2 hts hg9 rfl rfl rfl (by decide +kernel) hR9) ⟨fun a U g mk q => ⟨q.1, q.2.1, va_K.moved (u := U) (U := U.calling g mk a) (Vm.Alike.refl U.vm) q.2.2.1, tX.same (u := U) (U := U.calling g mk a) rfl q.2.2.2⟩, rC_0 hK hP, fun U hU hW => ⟨rfl, by rw [hU]; exact hP, va_K.moved hW.alike hK, by rw [hU]; exact tX.warm hW hT⟩⟩ rfl rfl hl9 rfl (lv_room hw9) hdg hc9
end
set_option maxHeartbeats 4000000 in
set_option maxRecDepth 100000 in
theorem c_X3_paymentTo_no (l : Launch) (hfl : l.stackTraces = false) {dC : Nat → ClassId} {dI : Nat → Nat → Nat} {cI cZ : ClassId} {ad : Nat → Nat} {sm fe ex dy : Int32} {gp gc op gr st dl wo : Nat → Int32} {n : Nat} {yc ya ys yd : Nat → Int32} {q : Nat} {zc zp zr zs zf : Nat → Int32} {z : Nat} {zm zt : Int64} {x : Int32} (hq : q ≤ 100) (hk : ¬ vp_in x q) : vx_Met l yX3_paymentTo wsX3_paymentTo { frames := 7, cells := 1, slots := 6, locals := 111 } (va_Pc [.ref (ad 0), .int x] (fun U => va_P (dC, dI) vwCl (wC cI cZ ad sm fe ex dy gp gc op gr st dl wo n yc ya ys yd q zc zp zr zs zf z zm zt) U.heap ∧ va_K (dC, dI) vwCl [(cI, .int), (cZ, .boolean)] U ∧ tX (fun _ => False) U U.heap)) (fun _ _ _ _ => False) (xT "java/lang/IndexOutOfBoundsException") 1 6 (fun _ => False) := by
  refine vx_ofW (cc := cX3_paymentTo) (maxL := 2) (ret := (some .int)) (by decide) rfl ?_
  intro p e s m args below meth c s₁ B hml ht hv
  obtain ⟨rfl, hP, hK, hT⟩ := hv
  have hx := B.exec
  have hb := B.bytes
  have hr := B.returns
  have hts := atoms_spec (ws := wsX3_paymentTo) B.pre
  have hown : s.vm.findClass RX3 = some m.cls := findClass_of_methodNamed B.named
  have hlocks := B.notSynchronized
  have hl := lv_entry ([.ref (ad 0), .int x]) (n := 2) (Nat.le_of_ble_eq_true rfl)
  rw [lg_entry_eq]
  generalize (lg_sl ([.ref (ad 0), .int x]) ++ List.replicate (2 - (lg_sl ([.ref (ad 0), .int x])).length) Slot.unset).toArray = ls at hl ⊢
  have hl : lv_has ls 2 [(0, .ref (ad 0)), (1, .int x)] := hl
  refine lv_aload_n hx hb dX3_paymentTo_0 rfl (lv_at hl 0 rfl) ?_
  refine lv_iload_n hx hb dX3_paymentTo_1 rfl (lv_at hl 1 rfl) ?_
  exact zx_on (kr_X3_mustBePayment_no l hfl (x := x) (hq := hq) (hk := hk) hx hb hml hown hts hK hP gX3_paymentTo_X3_mustBePayment ⟨Nat.le_of_ble_eq_true rfl, Nat.le_of_ble_eq_true rfl⟩ ⟨Nat.le_of_ble_eq_true rfl, Nat.le_of_ble_eq_true rfl⟩ hl.1 (Nat.le_of_ble_eq_true rfl) dX3_paymentTo_2 hT) ht hlocks
section
variable {p : Program} {e : Env} {R : Room} {s : State} {m : MethodId} {args : Array Value} {below : List Frame} {meth : Method} {c : Code} {H : Heap} {locs : List Loc} {cells slots : Nat} {Q : State → Prop} {cc : ByteArray} {pc : Nat} {ls : Array Slot} {rest : List Value} {own : String} {index nL : Nat} {Ts : List Cond} {H0 : Heap} {A0 : Nat → Prop}
theorem kr_X3_paymentTo_no (l : Launch) (hfl : l.stackTraces = false) {dC : Nat → ClassId} {dI : Nat → Nat → Nat} {cI cZ : ClassId} {ad : Nat → Nat} {sm fe ex dy : Int32} {gp gc op gr st dl wo : Nat → Int32} {n : Nat} {yc ya ys yd : Nat → Int32} {q : Nat} {zc zp zr zs zf : Nat → Int32} {z : Nat} {zm zt : Int64} {x : Int32} (hq : q ≤ 100) (hk : ¬ vp_in x q) (hx : p.tables.exec = Jvm.exec) (hb : c.code = cc) (hml : c.maxLocals = nL) (hown : s.vm.findClass own = some m.cls) (hts : ∀ w ∈ Ts, w.before args s = true) (hK : va_K (dC, dI) vwCl [(cI, .int), (cZ, .boolean)] s) (hP : va_P (dC, dI) vwCl (wC cI cZ ad sm fe ex dy gp gc op gr st dl wo n yc ya ys yd q zc zp zr zs zf z zm zt) H) (hg9 : GoodIn Ts (wsV own index RX3 yX3_paymentTo wsX3_paymentTo)) (hR9 : 7 + 1 ≤ R.frames ∧ 8 + (2 + 11) + 111 ≤ R.locals) (hc9 : cells + 1 ≤ R.cells ∧ slots + 6 ≤ R.slots) (hl9 : ls.size = nL) (hw9 : (rest.map fun v => v.category).sum ≤ 8) (hdg : decode cc pc = .ok (.invokevirtual index, 3)) (hT : tX (fun _ => False) s H) : vx_Run p l e R s m args below meth c H locs cells slots 1 6 (F0 m pc ls (.int x :: .ref (ad 0) :: rest)) rest (fun _ _ _ => False) (xT "java/lang/IndexOutOfBoundsException") (fun _ => False) := vx_runV (As := [.int x]) (rest := rest) ⟨hx, hb, hml, hown, hts⟩ (c_X3_paymentTo_no (dC := dC) (dI := dI) (cI := cI) (cZ := cZ) (ad := ad) (sm := sm) (fe := fe) (ex := ex) (dy := dy) (gp := gp) (gc := gc) (op := op) (gr := gr) (st := st) (dl := dl) (wo := wo) (n := n) (yc := yc) (ya := ya) (ys := ys) (yd := yd) (q := q) (zc := zc) (zp := zp) (zr := zr) (zs := zs) (zf := zf) (z := z) (zm := zm) (zt := zt) (x := x) l hfl hq hk) (cwV 1 hts hg9 rfl rfl rfl (by decide +kernel) hR9) ⟨fun a U g mk q => ⟨q.1, q.2.1, va_K.moved (u := U) (U := U.calling g mk a) (Vm.Alike.refl U.vm) q.2.2.1, tX.same (u := U) (U := U.calling g mk a) rfl q.2.2.2⟩, rC_0 hK hP, fun U hU hW => ⟨rfl, by rw [hU]; exact hP, va_K.moved hW.alike hK, by rw [hU]; exact tX.warm hW hT⟩⟩ rfl rfl hl9 rfl (lv_room hw9) hdg hc9
end
set_option maxHeartbeats 4000000 in
set_option maxRecDepth 100000 in
theorem c_X3_amountOf_no (l : Launch) (hfl : l.stackTraces = false) {dC : Nat → ClassId} {dI : Nat → Nat → Nat} {cI cZ : ClassId} {ad : Nat → Nat} {sm fe ex dy : Int32} {gp gc op gr st dl wo : Nat → Int32} {n : Nat} {yc ya ys yd : Nat → Int32} {q : Nat} {zc zp zr zs zf : Nat → Int32} {z : Nat} {zm zt : Int64} {x : Int32} (hq : q ≤ 100) (hk : ¬ vp_in x q) : vx_Met l yX3_amountOf wsX3_amountOf { frames := 7, cells := 1, slots := 6, locals := 111 } (va_Pc [.ref (ad 0), .int x] (fun U => va_P (dC, dI) vwCl (wC cI cZ ad sm fe ex dy gp gc op gr st dl wo n yc ya ys yd q zc zp zr zs zf z zm zt) U.heap ∧ va_K (dC, dI) vwCl [(cI, .int), (cZ, .boolean)] U ∧ tX (fun _ => False) U U.heap)) (fun _ _ _ _ => False) (xT "java/lang/IndexOutOfBoundsException") 1 6 (fun _ => False) := by
  refine vx_ofW (cc := cX3_amountOf) (maxL := 2) (ret := (some .int)) (by decide) rfl ?_
  intro p e s m args below meth c s₁ B hml ht hv
  obtain ⟨rfl, hP, hK, hT⟩ := hv
  have hx := B.exec
  have hb := B.bytes
  have hr := B.returns
  have hts := atoms_spec (ws := wsX3_amountOf) B.pre
  have hown : s.vm.findClass RX3 = some m.cls := findClass_of_methodNamed B.named
  have hlocks := B.notSynchronized
  have hl := lv_entry ([.ref (ad 0), .int x]) (n := 2) (Nat.le_of_ble_eq_true rfl)
  rw [lg_entry_eq]
  generalize (lg_sl ([.ref (ad 0), .int x]) ++ List.replicate (2 - (lg_sl ([.ref (ad 0), .int x])).length) Slot.unset).toArray = ls at hl ⊢
  have hl : lv_has ls 2 [(0, .ref (ad 0)), (1, .int x)] := hl
  refine lv_aload_n hx hb dX3_amountOf_0 rfl (lv_at hl 0 rfl) ?_
  refine lv_iload_n hx hb dX3_amountOf_1 rfl (lv_at hl 1 rfl) ?_
  exact zx_on (kr_X3_mustBePayment_no l hfl (x := x) (hq := hq) (hk := hk) hx hb hml hown hts hK hP gX3_amountOf_X3_mustBePayment ⟨Nat.le_of_ble_eq_true rfl, Nat.le_of_ble_eq_true rfl⟩ ⟨Nat.le_of_ble_eq_true rfl, Nat.le_of_ble_eq_true rfl⟩ hl.1 (Nat.le_of_ble_eq_true rfl) dX3_amountOf_2 hT) ht hlocks
section
variable {p : Program} {e : Env} {R : Room} {s : State} {m : MethodId} {args : Array Value} {below : List Frame} {meth : Method} {c : Code} {H : Heap} {locs : List Loc} {cells slots : Nat} {Q : State → Prop} {cc : ByteArray} {pc : Nat} {ls : Array Slot} {rest : List Value} {own : String} {index nL : Nat} {Ts : List Cond} {H0 : Heap} {A0 : Nat → Prop}
theorem kr_X3_amountOf_no (l : Launch) (hfl : l.stackTraces = false) {dC : Nat → ClassId} {dI : Nat → Nat → Nat} {cI cZ : ClassId} {ad : Nat → Nat} {sm fe ex dy : Int32} {gp gc op gr st dl wo : Nat → Int32} {n : Nat} {yc ya ys yd : Nat → Int32} {q : Nat} {zc zp zr zs zf : Nat → Int32} {z : Nat} {zm zt : Int64} {x : Int32} (hq : q ≤ 100) (hk : ¬ vp_in x q) (hx : p.tables.exec = Jvm.exec) (hb : c.code = cc) (hml : c.maxLocals = nL) (hown : s.vm.findClass own = some m.cls) (hts : ∀ w ∈ Ts, w.before args s = true) (hK : va_K (dC, dI) vwCl [(cI, .int), (cZ, .boolean)] s) (hP : va_P (dC, dI) vwCl (wC cI cZ ad sm fe ex dy gp gc op gr st dl wo n yc ya ys yd q zc zp zr zs zf z zm zt) H) (hg9 : GoodIn Ts (wsV own index RX3 yX3_amountOf wsX3_amountOf)) (hR9 : 7 + 1 ≤ R.frames ∧ 8 + (2 + 11) + 111 ≤ R.locals) (hc9 : cells + 1 ≤ R.cells ∧ slots + 6 ≤ R.slots) (hl9 : ls.size = nL) (hw9 : (rest.map fun v => v.category).sum ≤ 8) (hdg : decode cc pc = .ok (.invokevirtual index, 3)) (hT : tX (fun _ => False) s H) : vx_Run p l e R s m args below meth c H locs cells slots 1 6 (F0 m pc ls (.int x :: .ref (ad 0) :: rest)) rest (fun _ _ _ => False) (xT "java/lang/IndexOutOfBoundsException") (fun _ => False) := vx_runV (As := [.int x]) (rest := rest) ⟨hx, hb, hml, hown, hts⟩ (c_X3_amountOf_no (dC := dC) (dI := dI) (cI := cI) (cZ := cZ) (ad := ad) (sm := sm) (fe := fe) (ex := ex) (dy := dy) (gp := gp) (gc := gc) (op := op) (gr := gr) (st := st) (dl := dl) (wo := wo) (n := n) (yc := yc) (ya := ya) (ys := ys) (yd := yd) (q := q) (zc := zc) (zp := zp) (zr := zr) (zs := zs) (zf := zf) (z := z) (zm := zm) (zt := zt) (x := x) l hfl hq hk) (cwV 1 hts hg9 rfl rfl rfl (by decide +kernel) hR9) ⟨fun a U g mk q => ⟨q.1, q.2.1, va_K.moved (u := U) (U := U.calling g mk a) (Vm.Alike.refl U.vm) q.2.2.1, tX.same (u := U) (U := U.calling g mk a) rfl q.2.2.2⟩, rC_0 hK hP, fun U hU hW => ⟨rfl, by rw [hU]; exact hP, va_K.moved hW.alike hK, by rw [hU]; exact tX.warm hW hT⟩⟩ rfl rfl hl9 rfl (lv_room hw9) hdg hc9
end
set_option maxHeartbeats 4000000 in
set_option maxRecDepth 100000 in
theorem c_X3_paymentState_no (l : Launch) (hfl : l.stackTraces = false) {dC : Nat → ClassId} {dI : Nat → Nat → Nat} {cI cZ : ClassId} {ad : Nat → Nat} {sm fe ex dy : Int32} {gp gc op gr st dl wo : Nat → Int32} {n : Nat} {yc ya ys yd : Nat → Int32} {q : Nat} {zc zp zr zs zf : Nat → Int32} {z : Nat} {zm zt : Int64} {x : Int32} (hq : q ≤ 100) (hk : ¬ vp_in x q) : vx_Met l yX3_paymentState wsX3_paymentState { frames := 7, cells := 1, slots := 6, locals := 111 } (va_Pc [.ref (ad 0), .int x] (fun U => va_P (dC, dI) vwCl (wC cI cZ ad sm fe ex dy gp gc op gr st dl wo n yc ya ys yd q zc zp zr zs zf z zm zt) U.heap ∧ va_K (dC, dI) vwCl [(cI, .int), (cZ, .boolean)] U ∧ tX (fun _ => False) U U.heap)) (fun _ _ _ _ => False) (xT "java/lang/IndexOutOfBoundsException") 1 6 (fun _ => False) := by
  refine vx_ofW (cc := cX3_paymentState) (maxL := 2) (ret := (some .int)) (by decide) rfl ?_
  intro p e s m args below meth c s₁ B hml ht hv
  obtain ⟨rfl, hP, hK, hT⟩ := hv
  have hx := B.exec
  have hb := B.bytes
  have hr := B.returns
  have hts := atoms_spec (ws := wsX3_paymentState) B.pre
  have hown : s.vm.findClass RX3 = some m.cls := findClass_of_methodNamed B.named
  have hlocks := B.notSynchronized
  have hl := lv_entry ([.ref (ad 0), .int x]) (n := 2) (Nat.le_of_ble_eq_true rfl)
  rw [lg_entry_eq]
  generalize (lg_sl ([.ref (ad 0), .int x]) ++ List.replicate (2 - (lg_sl ([.ref (ad 0), .int x])).length) Slot.unset).toArray = ls at hl ⊢
  have hl : lv_has ls 2 [(0, .ref (ad 0)), (1, .int x)] := hl
  refine lv_aload_n hx hb dX3_paymentState_0 rfl (lv_at hl 0 rfl) ?_
  refine lv_iload_n hx hb dX3_paymentState_1 rfl (lv_at hl 1 rfl) ?_
  exact zx_on (kr_X3_mustBePayment_no l hfl (x := x) (hq := hq) (hk := hk) hx hb hml hown hts hK hP gX3_paymentState_X3_mustBePayment ⟨Nat.le_of_ble_eq_true rfl, Nat.le_of_ble_eq_true rfl⟩ ⟨Nat.le_of_ble_eq_true rfl, Nat.le_of_ble_eq_true rfl⟩ hl.1 (Nat.le_of_ble_eq_true rfl) dX3_paymentState_2 hT) ht hlocks
section
variable {p : Program} {e : Env} {R : Room} {s : State} {m : MethodId} {args : Array Value} {below : List Frame} {meth : Method} {c : Code} {H : Heap} {locs : List Loc} {cells slots : Nat} {Q : State → Prop} {cc : ByteArray} {pc : Nat} {ls : Array Slot} {rest : List Value} {own : String} {index nL : Nat} {Ts : List Cond} {H0 : Heap} {A0 : Nat → Prop}
theorem kr_X3_paymentState_no (l : Launch) (hfl : l.stackTraces = false) {dC : Nat → ClassId} {dI : Nat → Nat → Nat} {cI cZ : ClassId} {ad : Nat → Nat} {sm fe ex dy : Int32} {gp gc op gr st dl wo : Nat → Int32} {n : Nat} {yc ya ys yd : Nat → Int32} {q : Nat} {zc zp zr zs zf : Nat → Int32} {z : Nat} {zm zt : Int64} {x : Int32} (hq : q ≤ 100) (hk : ¬ vp_in x q) (hx : p.tables.exec = Jvm.exec) (hb : c.code = cc) (hml : c.maxLocals = nL) (hown : s.vm.findClass own = some m.cls) (hts : ∀ w ∈ Ts, w.before args s = true) (hK : va_K (dC, dI) vwCl [(cI, .int), (cZ, .boolean)] s) (hP : va_P (dC, dI) vwCl (wC cI cZ ad sm fe ex dy gp gc op gr st dl wo n yc ya ys yd q zc zp zr zs zf z zm zt) H) (hg9 : GoodIn Ts (wsV own index RX3 yX3_paymentState wsX3_paymentState)) (hR9 : 7 + 1 ≤ R.frames ∧ 8 + (2 + 11) + 111 ≤ R.locals) (hc9 : cells + 1 ≤ R.cells ∧ slots + 6 ≤ R.slots) (hl9 : ls.size = nL) (hw9 : (rest.map fun v => v.category).sum ≤ 8) (hdg : decode cc pc = .ok (.invokevirtual index, 3)) (hT : tX (fun _ => False) s H) : vx_Run p l e R s m args below meth c H locs cells slots 1 6 (F0 m pc ls (.int x :: .ref (ad 0) :: rest)) rest (fun _ _ _ => False) (xT "java/lang/IndexOutOfBoundsException") (fun _ => False) := vx_runV (As := [.int x]) (rest := rest) ⟨hx, hb, hml, hown, hts⟩ (c_X3_paymentState_no (dC := dC) (dI := dI) (cI := cI) (cZ := cZ) (ad := ad) (sm := sm) (fe := fe) (ex := ex) (dy := dy) (gp := gp) (gc := gc) (op := op) (gr := gr) (st := st) (dl := dl) (wo := wo) (n := n) (yc := yc) (ya := ya) (ys := ys) (yd := yd) (q := q) (zc := zc) (zp := zp) (zr := zr) (zs := zs) (zf := zf) (z := z) (zm := zm) (zt := zt) (x := x) l hfl hq hk) (cwV 1 hts hg9 rfl rfl rfl (by decide +kernel) hR9) ⟨fun a U g mk q => ⟨q.1, q.2.1, va_K.moved (u := U) (U := U.calling g mk a) (Vm.Alike.refl U.vm) q.2.2.1, tX.same (u := U) (U := U.calling g mk a) rfl q.2.2.2⟩, rC_0 hK hP, fun U hU hW => ⟨rfl, by rw [hU]; exact hP, va_K.moved hW.alike hK, by rw [hU]; exact tX.warm hW hT⟩⟩ rfl rfl hl9 rfl (lv_room hw9) hdg hc9
end
set_option maxHeartbeats 4000000 in
set_option maxRecDepth 100000 in
theorem c_X3_cash_no (l : Launch) (hfl : l.stackTraces = false) {dC : Nat → ClassId} {dI : Nat → Nat → Nat} {cI cZ : ClassId} {ad : Nat → Nat} {sm fe ex dy : Int32} {gp gc op gr st dl wo : Nat → Int32} {n : Nat} {yc ya ys yd : Nat → Int32} {q : Nat} {zc zp zr zs zf : Nat → Int32} {z : Nat} {zm zt : Int64} {x : Int32} (hq : q ≤ 100) (hk : ¬ vp_in x q) : vx_Met l yX3_cash wsX3_cash { frames := 7, cells := 1, slots := 6, locals := 111 } (va_Pc [.ref (ad 0), .int x] (fun U => va_P (dC, dI) vwCl (wC cI cZ ad sm fe ex dy gp gc op gr st dl wo n yc ya ys yd q zc zp zr zs zf z zm zt) U.heap ∧ va_K (dC, dI) vwCl [(cI, .int), (cZ, .boolean)] U ∧ tX (fun _ => False) U U.heap)) (fun _ _ _ _ => False) (xT "java/lang/IndexOutOfBoundsException") 1 6 (fun _ => False) := by
  refine vx_ofW (cc := cX3_cash) (maxL := 2) (ret := (some .int)) (by decide) rfl ?_
  intro p e s m args below meth c s₁ B hml ht hv
  obtain ⟨rfl, hP, hK, hT⟩ := hv
  have hx := B.exec
  have hb := B.bytes
  have hr := B.returns
  have hts := atoms_spec (ws := wsX3_cash) B.pre
  have hown : s.vm.findClass RX3 = some m.cls := findClass_of_methodNamed B.named
  have hlocks := B.notSynchronized
  have hl := lv_entry ([.ref (ad 0), .int x]) (n := 2) (Nat.le_of_ble_eq_true rfl)
  rw [lg_entry_eq]
  generalize (lg_sl ([.ref (ad 0), .int x]) ++ List.replicate (2 - (lg_sl ([.ref (ad 0), .int x])).length) Slot.unset).toArray = ls at hl ⊢
  have hl : lv_has ls 2 [(0, .ref (ad 0)), (1, .int x)] := hl
  refine lv_aload_n hx hb dX3_cash_0 rfl (lv_at hl 0 rfl) ?_
  refine lv_iload_n hx hb dX3_cash_1 rfl (lv_at hl 1 rfl) ?_
  exact zx_on (kr_X3_mustBePayment_no l hfl (x := x) (hq := hq) (hk := hk) hx hb hml hown hts hK hP gX3_cash_X3_mustBePayment ⟨Nat.le_of_ble_eq_true rfl, Nat.le_of_ble_eq_true rfl⟩ ⟨Nat.le_of_ble_eq_true rfl, Nat.le_of_ble_eq_true rfl⟩ hl.1 (Nat.le_of_ble_eq_true rfl) dX3_cash_2 hT) ht hlocks
section
variable {p : Program} {e : Env} {R : Room} {s : State} {m : MethodId} {args : Array Value} {below : List Frame} {meth : Method} {c : Code} {H : Heap} {locs : List Loc} {cells slots : Nat} {Q : State → Prop} {cc : ByteArray} {pc : Nat} {ls : Array Slot} {rest : List Value} {own : String} {index nL : Nat} {Ts : List Cond} {H0 : Heap} {A0 : Nat → Prop}
theorem kr_X3_cash_no (l : Launch) (hfl : l.stackTraces = false) {dC : Nat → ClassId} {dI : Nat → Nat → Nat} {cI cZ : ClassId} {ad : Nat → Nat} {sm fe ex dy : Int32} {gp gc op gr st dl wo : Nat → Int32} {n : Nat} {yc ya ys yd : Nat → Int32} {q : Nat} {zc zp zr zs zf : Nat → Int32} {z : Nat} {zm zt : Int64} {x : Int32} (hq : q ≤ 100) (hk : ¬ vp_in x q) (hx : p.tables.exec = Jvm.exec) (hb : c.code = cc) (hml : c.maxLocals = nL) (hown : s.vm.findClass own = some m.cls) (hts : ∀ w ∈ Ts, w.before args s = true) (hK : va_K (dC, dI) vwCl [(cI, .int), (cZ, .boolean)] s) (hP : va_P (dC, dI) vwCl (wC cI cZ ad sm fe ex dy gp gc op gr st dl wo n yc ya ys yd q zc zp zr zs zf z zm zt) H) (hg9 : GoodIn Ts (wsV own index RX3 yX3_cash wsX3_cash)) (hR9 : 7 + 1 ≤ R.frames ∧ 8 + (2 + 11) + 111 ≤ R.locals) (hc9 : cells + 1 ≤ R.cells ∧ slots + 6 ≤ R.slots) (hl9 : ls.size = nL) (hw9 : (rest.map fun v => v.category).sum ≤ 8) (hdg : decode cc pc = .ok (.invokevirtual index, 3)) (hT : tX (fun _ => False) s H) : vx_Run p l e R s m args below meth c H locs cells slots 1 6 (F0 m pc ls (.int x :: .ref (ad 0) :: rest)) rest (fun _ _ _ => False) (xT "java/lang/IndexOutOfBoundsException") (fun _ => False) := vx_runV (As := [.int x]) (rest := rest) ⟨hx, hb, hml, hown, hts⟩ (c_X3_cash_no (dC := dC) (dI := dI) (cI := cI) (cZ := cZ) (ad := ad) (sm := sm) (fe := fe) (ex := ex) (dy := dy) (gp := gp) (gc := gc) (op := op) (gr := gr) (st := st) (dl := dl) (wo := wo) (n := n) (yc := yc) (ya := ya) (ys := ys) (yd := yd) (q := q) (zc := zc) (zp := zp) (zr := zr) (zs := zs) (zf := zf) (z := z) (zm := zm) (zt := zt) (x := x) l hfl hq hk) (cwV 1 hts hg9 rfl rfl rfl (by decide +kernel) hR9) ⟨fun a U g mk q => ⟨q.1, q.2.1, va_K.moved (u := U) (U := U.calling g mk a) (Vm.Alike.refl U.vm) q.2.2.1, tX.same (u := U) (U := U.calling g mk a) rfl q.2.2.2⟩, rC_0 hK hP, fun U hU hW => ⟨rfl, by rw [hU]; exact hP, va_K.moved hW.alike hK, by rw [hU]; exact tX.warm hW hT⟩⟩ rfl rfl hl9 rfl (lv_room hw9) hdg hc9
end
set_option maxHeartbeats 4000000 in
set_option maxRecDepth 100000 in
theorem c_X3_today (l : Launch) {dC : Nat → ClassId} {dI : Nat → Nat → Nat} {cI cZ : ClassId} {ad : Nat → Nat} {sm fe ex dy : Int32} {gp gc op gr st dl wo : Nat → Int32} {n : Nat} {yc ya ys yd : Nat → Int32} {q : Nat} {zc zp zr zs zf : Nat → Int32} {z : Nat} {zm zt : Int64}   : Met l yX3_today wsX3_today { frames := 0, cells := 0, slots := 0, locals := 0 } (va_Pc [.ref (ad 0)] (fun U => va_P (dC, dI) vwCl (wC cI cZ ad sm fe ex dy gp gc op gr st dl wo n yc ya ys yd q zc zp zr zs zf z zm zt) U.heap ∧ va_K (dC, dI) vwCl [(cI, .int), (cZ, .boolean)] U)) (vp_Si (fun r => r = dy)) 0 0 (fun _ => False) := by
  refine Met.ofW (cc := cX3_today) (maxL := 1) (ret := (some .int)) (by decide) rfl ?_
  intro p e s m args below meth c s₁ B hml hv
  obtain ⟨rfl, hP, hK⟩ := hv
  have hx := B.exec
  have hb := B.bytes
  have hr := B.returns
  have hts := atoms_spec (ws := wsX3_today) B.pre
  have hown : s.vm.findClass RX3 = some m.cls := findClass_of_methodNamed B.named
  have hlocks := B.notSynchronized
  have hl := lv_entry ([.ref (ad 0)]) (n := 1) (Nat.le_of_ble_eq_true rfl)
  rw [lg_entry_eq]
  generalize (lg_sl ([.ref (ad 0)]) ++ List.replicate (1 - (lg_sl ([.ref (ad 0)])).length) Slot.unset).toArray = ls at hl ⊢
  have hl : lv_has ls 1 [(0, .ref (ad 0))] := hl
  have hiX3 : ∀ w ∈ wsX30, w ∈ wsX3_today := by decide +kernel
  have hf76 := hts (.fieldLink RX3 76 "SettlementFund" "day" "I") (by decide +kernel)
  refine lv_aload_n hx hb dX3_today_0 rfl (lv_at hl 0 rfl) ?_
  refine gC_0_3 hx hb hts hiX3 hown hK hP hf76 dX3_today_1 ?_
  exact W.iret (v := dy) hx hb hr (fun t ht hW => ⟨dy, rfl, rfl, ht⟩) (fun _ h => nomatch h) dX3_today_4
section
variable {p : Program} {e : Env} {R : Room} {s : State} {m : MethodId} {args : Array Value} {below : List Frame} {meth : Method} {c : Code} {H : Heap} {locs : List Loc} {cells slots : Nat} {Q : State → Prop} {cc : ByteArray} {pc : Nat} {ls : Array Slot} {rest : List Value} {own : String} {index nL : Nat} {Ts : List Cond} {H0 : Heap} {A0 : Nat → Prop}
theorem k_X3_today (l : Launch) {dC : Nat → ClassId} {dI : Nat → Nat → Nat} {cI cZ : ClassId} {ad : Nat → Nat} {sm fe ex dy : Int32} {gp gc op gr st dl wo : Nat → Int32} {n : Nat} {yc ya ys yd : Nat → Int32} {q : Nat} {zc zp zr zs zf : Nat → Int32} {z : Nat} {zm zt : Int64}   (hx : p.tables.exec = Jvm.exec) (hb : c.code = cc) (hml : c.maxLocals = nL) (hown : s.vm.findClass own = some m.cls) (hts : ∀ w ∈ Ts, w.before args s = true) (hK : va_K (dC, dI) vwCl [(cI, .int), (cZ, .boolean)] s) (hP : va_P (dC, dI) vwCl (wC cI cZ ad sm fe ex dy gp gc op gr st dl wo n yc ya ys yd q zc zp zr zs zf z zm zt) H) (hg9 : GoodIn Ts (wsV own index RX3 yX3_today wsX3_today)) (hR9 : 0 + 1 ≤ R.frames ∧ 8 + (1 + 11) + 0 ≤ R.locals) (hc9 : cells ≤ R.cells ∧ slots ≤ R.slots) (hl9 : ls.size = nL) (hw9 : (rest.map fun v => v.category).sum ≤ 8) (hdg : decode cc pc = .ok (.invokevirtual index, 3)) (kk : W p l e R s m args below meth c H locs cells slots Q (F0 m (pc + 3) ls (.int dy :: rest))) : W p l e R s m args below meth c H locs cells slots Q (F0 m pc ls (.ref (ad 0) :: rest)) := zc_ro (W.runV (As := []) (rest := rest) ⟨hx, hb, hml, hown, hts⟩ (c_X3_today (dC := dC) (dI := dI) (cI := cI) (cZ := cZ) (ad := ad) (sm := sm) (fe := fe) (ex := ex) (dy := dy) (gp := gp) (gc := gc) (op := op) (gr := gr) (st := st) (dl := dl) (wo := wo) (n := n) (yc := yc) (ya := ya) (ys := ys) (yd := yd) (q := q) (zc := zc) (zp := zp) (zr := zr) (zs := zs) (zf := zf) (z := z) (zm := zm) (zt := zt) l ) (cwV 0 hts hg9 rfl rfl rfl (by decide +kernel) hR9) ⟨fun a U g mk q => ⟨q.1, q.2.1, va_K.moved (u := U) (U := U.calling g mk a) (Vm.Alike.refl U.vm) q.2.2⟩, rC_0 hK hP, fun U hU hW => ⟨rfl, by rw [hU]; exact hP, va_K.moved hW.alike hK⟩⟩ rfl rfl hl9 rfl (lv_room hw9) hdg hc9) (fun r h => by subst h; exact kk)
end
set_option maxHeartbeats 4000000 in
set_option maxRecDepth 100000 in
theorem c_X3_claims (l : Launch) {dC : Nat → ClassId} {dI : Nat → Nat → Nat} {cI cZ : ClassId} {ad : Nat → Nat} {sm fe ex dy : Int32} {gp gc op gr st dl wo : Nat → Int32} {n : Nat} {yc ya ys yd : Nat → Int32} {q : Nat} {zc zp zr zs zf : Nat → Int32} {z : Nat} {zm zt : Int64}   : Met l yX3_claims wsX3_claims { frames := 0, cells := 0, slots := 0, locals := 0 } (va_Pc [.ref (ad 0)] (fun U => va_P (dC, dI) vwCl (wC cI cZ ad sm fe ex dy gp gc op gr st dl wo n yc ya ys yd q zc zp zr zs zf z zm zt) U.heap ∧ va_K (dC, dI) vwCl [(cI, .int), (cZ, .boolean)] U)) (vp_Si (fun r => r = nI n)) 0 0 (fun _ => False) := by
  refine Met.ofW (cc := cX3_claims) (maxL := 1) (ret := (some .int)) (by decide) rfl ?_
  intro p e s m args below meth c s₁ B hml hv
  obtain ⟨rfl, hP, hK⟩ := hv
  have hx := B.exec
  have hb := B.bytes
  have hr := B.returns
  have hts := atoms_spec (ws := wsX3_claims) B.pre
  have hown : s.vm.findClass RX3 = some m.cls := findClass_of_methodNamed B.named
  have hlocks := B.notSynchronized
  have hl := lv_entry ([.ref (ad 0)]) (n := 1) (Nat.le_of_ble_eq_true rfl)
  rw [lg_entry_eq]
  generalize (lg_sl ([.ref (ad 0)]) ++ List.replicate (1 - (lg_sl ([.ref (ad 0)])).length) Slot.unset).toArray = ls at hl ⊢
  have hl : lv_has ls 1 [(0, .ref (ad 0))] := hl
  have hiX3 : ∀ w ∈ wsX30, w ∈ wsX3_claims := by decide +kernel
  have hf19 := hts (.fieldLink RX3 19 "SettlementFund" "claimBook" "LSettlementFund$ClaimBook;") (by decide +kernel)
  have hiX0 : ∀ w ∈ wsX00, w ∈ wsX3_claims := by decide +kernel
  have hf173 := hts (.fieldLink RX3 173 "SettlementFund$ClaimBook" "size" "I") (by decide +kernel)
  refine lv_aload_n hx hb dX3_claims_0 rfl (lv_at hl 0 rfl) ?_
  refine gC_0_6 hx hb hts hiX3 hown hK hP hf19 dX3_claims_1 ?_
  refine gC_3_5 hx hb hts hiX0 hown hK hP hf173 dX3_claims_4 ?_
  exact W.iret (v := nI n) hx hb hr (fun t ht hW => ⟨nI n, rfl, rfl, ht⟩) (fun _ h => nomatch h) dX3_claims_7
section
variable {p : Program} {e : Env} {R : Room} {s : State} {m : MethodId} {args : Array Value} {below : List Frame} {meth : Method} {c : Code} {H : Heap} {locs : List Loc} {cells slots : Nat} {Q : State → Prop} {cc : ByteArray} {pc : Nat} {ls : Array Slot} {rest : List Value} {own : String} {index nL : Nat} {Ts : List Cond} {H0 : Heap} {A0 : Nat → Prop}
theorem k_X3_claims (l : Launch) {dC : Nat → ClassId} {dI : Nat → Nat → Nat} {cI cZ : ClassId} {ad : Nat → Nat} {sm fe ex dy : Int32} {gp gc op gr st dl wo : Nat → Int32} {n : Nat} {yc ya ys yd : Nat → Int32} {q : Nat} {zc zp zr zs zf : Nat → Int32} {z : Nat} {zm zt : Int64}   (hx : p.tables.exec = Jvm.exec) (hb : c.code = cc) (hml : c.maxLocals = nL) (hown : s.vm.findClass own = some m.cls) (hts : ∀ w ∈ Ts, w.before args s = true) (hK : va_K (dC, dI) vwCl [(cI, .int), (cZ, .boolean)] s) (hP : va_P (dC, dI) vwCl (wC cI cZ ad sm fe ex dy gp gc op gr st dl wo n yc ya ys yd q zc zp zr zs zf z zm zt) H) (hg9 : GoodIn Ts (wsV own index RX3 yX3_claims wsX3_claims)) (hR9 : 0 + 1 ≤ R.frames ∧ 8 + (1 + 11) + 0 ≤ R.locals) (hc9 : cells ≤ R.cells ∧ slots ≤ R.slots) (hl9 : ls.size = nL) (hw9 : (rest.map fun v => v.category).sum ≤ 8) (hdg : decode cc pc = .ok (.invokevirtual index, 3)) (kk : W p l e R s m args below meth c H locs cells slots Q (F0 m (pc + 3) ls (.int (nI n) :: rest))) : W p l e R s m args below meth c H locs cells slots Q (F0 m pc ls (.ref (ad 0) :: rest)) := zc_ro (W.runV (As := []) (rest := rest) ⟨hx, hb, hml, hown, hts⟩ (c_X3_claims (dC := dC) (dI := dI) (cI := cI) (cZ := cZ) (ad := ad) (sm := sm) (fe := fe) (ex := ex) (dy := dy) (gp := gp) (gc := gc) (op := op) (gr := gr) (st := st) (dl := dl) (wo := wo) (n := n) (yc := yc) (ya := ya) (ys := ys) (yd := yd) (q := q) (zc := zc) (zp := zp) (zr := zr) (zs := zs) (zf := zf) (z := z) (zm := zm) (zt := zt) l ) (cwV 0 hts hg9 rfl rfl rfl (by decide +kernel) hR9) ⟨fun a U g mk q => ⟨q.1, q.2.1, va_K.moved (u := U) (U := U.calling g mk a) (Vm.Alike.refl U.vm) q.2.2⟩, rC_0 hK hP, fun U hU hW => ⟨rfl, by rw [hU]; exact hP, va_K.moved hW.alike hK⟩⟩ rfl rfl hl9 rfl (lv_room hw9) hdg hc9) (fun r h => by subst h; exact kk)
end
set_option maxHeartbeats 4000000 in
set_option maxRecDepth 100000 in
theorem c_X3_payments (l : Launch) {dC : Nat → ClassId} {dI : Nat → Nat → Nat} {cI cZ : ClassId} {ad : Nat → Nat} {sm fe ex dy : Int32} {gp gc op gr st dl wo : Nat → Int32} {n : Nat} {yc ya ys yd : Nat → Int32} {q : Nat} {zc zp zr zs zf : Nat → Int32} {z : Nat} {zm zt : Int64}   : Met l yX3_payments wsX3_payments { frames := 0, cells := 0, slots := 0, locals := 0 } (va_Pc [.ref (ad 0)] (fun U => va_P (dC, dI) vwCl (wC cI cZ ad sm fe ex dy gp gc op gr st dl wo n yc ya ys yd q zc zp zr zs zf z zm zt) U.heap ∧ va_K (dC, dI) vwCl [(cI, .int), (cZ, .boolean)] U)) (vp_Si (fun r => r = nI q)) 0 0 (fun _ => False) := by
  refine Met.ofW (cc := cX3_payments) (maxL := 1) (ret := (some .int)) (by decide) rfl ?_
  intro p e s m args below meth c s₁ B hml hv
  obtain ⟨rfl, hP, hK⟩ := hv
  have hx := B.exec
  have hb := B.bytes
  have hr := B.returns
  have hts := atoms_spec (ws := wsX3_payments) B.pre
  have hown : s.vm.findClass RX3 = some m.cls := findClass_of_methodNamed B.named
  have hlocks := B.notSynchronized
  have hl := lv_entry ([.ref (ad 0)]) (n := 1) (Nat.le_of_ble_eq_true rfl)
  rw [lg_entry_eq]
  generalize (lg_sl ([.ref (ad 0)]) ++ List.replicate (1 - (lg_sl ([.ref (ad 0)])).length) Slot.unset).toArray = ls at hl ⊢
  have hl : lv_has ls 1 [(0, .ref (ad 0))] := hl
  have hiX3 : ∀ w ∈ wsX30, w ∈ wsX3_payments := by decide +kernel
  have hf26 := hts (.fieldLink RX3 26 "SettlementFund" "paymentBook" "LSettlementFund$PaymentBook;") (by decide +kernel)
  have hiX1 : ∀ w ∈ wsX10, w ∈ wsX3_payments := by decide +kernel
  have hf198 := hts (.fieldLink RX3 198 "SettlementFund$PaymentBook" "size" "I") (by decide +kernel)
  refine lv_aload_n hx hb dX3_payments_0 rfl (lv_at hl 0 rfl) ?_
  refine gC_0_7 hx hb hts hiX3 hown hK hP hf26 dX3_payments_1 ?_
  refine gC_9_4 hx hb hts hiX1 hown hK hP hf198 dX3_payments_4 ?_
  exact W.iret (v := nI q) hx hb hr (fun t ht hW => ⟨nI q, rfl, rfl, ht⟩) (fun _ h => nomatch h) dX3_payments_7
section
variable {p : Program} {e : Env} {R : Room} {s : State} {m : MethodId} {args : Array Value} {below : List Frame} {meth : Method} {c : Code} {H : Heap} {locs : List Loc} {cells slots : Nat} {Q : State → Prop} {cc : ByteArray} {pc : Nat} {ls : Array Slot} {rest : List Value} {own : String} {index nL : Nat} {Ts : List Cond} {H0 : Heap} {A0 : Nat → Prop}
theorem k_X3_payments (l : Launch) {dC : Nat → ClassId} {dI : Nat → Nat → Nat} {cI cZ : ClassId} {ad : Nat → Nat} {sm fe ex dy : Int32} {gp gc op gr st dl wo : Nat → Int32} {n : Nat} {yc ya ys yd : Nat → Int32} {q : Nat} {zc zp zr zs zf : Nat → Int32} {z : Nat} {zm zt : Int64}   (hx : p.tables.exec = Jvm.exec) (hb : c.code = cc) (hml : c.maxLocals = nL) (hown : s.vm.findClass own = some m.cls) (hts : ∀ w ∈ Ts, w.before args s = true) (hK : va_K (dC, dI) vwCl [(cI, .int), (cZ, .boolean)] s) (hP : va_P (dC, dI) vwCl (wC cI cZ ad sm fe ex dy gp gc op gr st dl wo n yc ya ys yd q zc zp zr zs zf z zm zt) H) (hg9 : GoodIn Ts (wsV own index RX3 yX3_payments wsX3_payments)) (hR9 : 0 + 1 ≤ R.frames ∧ 8 + (1 + 11) + 0 ≤ R.locals) (hc9 : cells ≤ R.cells ∧ slots ≤ R.slots) (hl9 : ls.size = nL) (hw9 : (rest.map fun v => v.category).sum ≤ 8) (hdg : decode cc pc = .ok (.invokevirtual index, 3)) (kk : W p l e R s m args below meth c H locs cells slots Q (F0 m (pc + 3) ls (.int (nI q) :: rest))) : W p l e R s m args below meth c H locs cells slots Q (F0 m pc ls (.ref (ad 0) :: rest)) := zc_ro (W.runV (As := []) (rest := rest) ⟨hx, hb, hml, hown, hts⟩ (c_X3_payments (dC := dC) (dI := dI) (cI := cI) (cZ := cZ) (ad := ad) (sm := sm) (fe := fe) (ex := ex) (dy := dy) (gp := gp) (gc := gc) (op := op) (gr := gr) (st := st) (dl := dl) (wo := wo) (n := n) (yc := yc) (ya := ya) (ys := ys) (yd := yd) (q := q) (zc := zc) (zp := zp) (zr := zr) (zs := zs) (zf := zf) (z := z) (zm := zm) (zt := zt) l ) (cwV 0 hts hg9 rfl rfl rfl (by decide +kernel) hR9) ⟨fun a U g mk q => ⟨q.1, q.2.1, va_K.moved (u := U) (U := U.calling g mk a) (Vm.Alike.refl U.vm) q.2.2⟩, rC_0 hK hP, fun U hU hW => ⟨rfl, by rw [hU]; exact hP, va_K.moved hW.alike hK⟩⟩ rfl rfl hl9 rfl (lv_room hw9) hdg hc9) (fun r h => by subst h; exact kk)
end
set_option maxHeartbeats 4000000 in
set_option maxRecDepth 100000 in
theorem c_X3_claimOf_no (l : Launch) (hfl : l.stackTraces = false) {dC : Nat → ClassId} {dI : Nat → Nat → Nat} {cI cZ : ClassId} {ad : Nat → Nat} {sm fe ex dy : Int32} {gp gc op gr st dl wo : Nat → Int32} {n : Nat} {yc ya ys yd : Nat → Int32} {q : Nat} {zc zp zr zs zf : Nat → Int32} {z : Nat} {zm zt : Int64} {x : Int32} (h1 : ¬ outN x (nI 0) (nI 29) = 0) : vx_Met l yX3_claimOf wsX3_claimOf { frames := 6, cells := 1, slots := 6, locals := 90 } (va_Pc [.ref (ad 0), .int x] (fun U => va_P (dC, dI) vwCl (wC cI cZ ad sm fe ex dy gp gc op gr st dl wo n yc ya ys yd q zc zp zr zs zf z zm zt) U.heap ∧ va_K (dC, dI) vwCl [(cI, .int), (cZ, .boolean)] U ∧ tX (fun _ => False) U U.heap)) (fun _ _ _ _ => False) (xT "java/lang/IndexOutOfBoundsException") 1 6 (fun _ => False) := by
  refine vx_ofW (cc := cX3_claimOf) (maxL := 2) (ret := (some .int)) (by decide) rfl ?_
  intro p e s m args below meth c s₁ B hml ht hv
  obtain ⟨rfl, hP, hK, hT⟩ := hv
  have hx := B.exec
  have hb := B.bytes
  have hr := B.returns
  have hts := atoms_spec (ws := wsX3_claimOf) B.pre
  have hown : s.vm.findClass RX3 = some m.cls := findClass_of_methodNamed B.named
  have hlocks := B.notSynchronized
  have hl := lv_entry ([.ref (ad 0), .int x]) (n := 2) (Nat.le_of_ble_eq_true rfl)
  rw [lg_entry_eq]
  generalize (lg_sl ([.ref (ad 0), .int x]) ++ List.replicate (2 - (lg_sl ([.ref (ad 0), .int x])).length) Slot.unset).toArray = ls at hl ⊢
  have hl : lv_has ls 2 [(0, .ref (ad 0)), (1, .int x)] := hl
  refine lv_iload_n hx hb dX3_claimOf_0 rfl (lv_at hl 1 rfl) ?_
  refine lv_iconst (v := nI 0) hx hb dX3_claimOf_1 (by decide) ?_
  refine lv_bipush (v := nI 29) hx hb dX3_claimOf_2 (by decide) ?_
  refine k_X3_isOutside l (x := x) (a := nI 0) (b := nI 29) hx hb hml hown hts  gX3_claimOf_X3_isOutside ⟨Nat.le_of_ble_eq_true rfl, Nat.le_of_ble_eq_true rfl⟩ ⟨Nat.le_of_ble_eq_true rfl, Nat.le_of_ble_eq_true rfl⟩ hl.1 (Nat.le_of_ble_eq_true rfl) dX3_claimOf_4 ?_
  refine zi_eq (tgt := 20) hx hb (outN_lt _ _ _) dX3_claimOf_7 (by decide) (fun c_7 => (show False by exact h1 c_7).elim) (fun c_7 => ?_)
  exact zx_IndexOutOfBoundsException (is := 176) (text := "there is no such person") hx hb hfl hown hts hT (by decide +kernel) (by decide +kernel) (by decide +kernel) (by decide +kernel) (hl.1.trans hml.symm) dX3_claimOf_10 dX3_claimOf_13 dX3_claimOf_14 dX3_claimOf_16 dX3_claimOf_19 ht hlocks (Nat.le_of_ble_eq_true rfl) (Nat.le_of_ble_eq_true rfl) (Nat.le_of_ble_eq_true rfl) (Nat.le_of_ble_eq_true rfl)
section
variable {p : Program} {e : Env} {R : Room} {s : State} {m : MethodId} {args : Array Value} {below : List Frame} {meth : Method} {c : Code} {H : Heap} {locs : List Loc} {cells slots : Nat} {Q : State → Prop} {cc : ByteArray} {pc : Nat} {ls : Array Slot} {rest : List Value} {own : String} {index nL : Nat} {Ts : List Cond} {H0 : Heap} {A0 : Nat → Prop}
theorem kr_X3_claimOf_no (l : Launch) (hfl : l.stackTraces = false) {dC : Nat → ClassId} {dI : Nat → Nat → Nat} {cI cZ : ClassId} {ad : Nat → Nat} {sm fe ex dy : Int32} {gp gc op gr st dl wo : Nat → Int32} {n : Nat} {yc ya ys yd : Nat → Int32} {q : Nat} {zc zp zr zs zf : Nat → Int32} {z : Nat} {zm zt : Int64} {x : Int32} (h1 : ¬ outN x (nI 0) (nI 29) = 0) (hx : p.tables.exec = Jvm.exec) (hb : c.code = cc) (hml : c.maxLocals = nL) (hown : s.vm.findClass own = some m.cls) (hts : ∀ w ∈ Ts, w.before args s = true) (hK : va_K (dC, dI) vwCl [(cI, .int), (cZ, .boolean)] s) (hP : va_P (dC, dI) vwCl (wC cI cZ ad sm fe ex dy gp gc op gr st dl wo n yc ya ys yd q zc zp zr zs zf z zm zt) H) (hg9 : GoodIn Ts (wsV own index RX3 yX3_claimOf wsX3_claimOf)) (hR9 : 6 + 1 ≤ R.frames ∧ 8 + (2 + 11) + 90 ≤ R.locals) (hc9 : cells + 1 ≤ R.cells ∧ slots + 6 ≤ R.slots) (hl9 : ls.size = nL) (hw9 : (rest.map fun v => v.category).sum ≤ 8) (hdg : decode cc pc = .ok (.invokevirtual index, 3)) (hT : tX (fun _ => False) s H) : vx_Run p l e R s m args below meth c H locs cells slots 1 6 (F0 m pc ls (.int x :: .ref (ad 0) :: rest)) rest (fun _ _ _ => False) (xT "java/lang/IndexOutOfBoundsException") (fun _ => False) := vx_runV (As := [.int x]) (rest := rest) ⟨hx, hb, hml, hown, hts⟩ (c_X3_claimOf_no (dC := dC) (dI := dI) (cI := cI) (cZ := cZ) (ad := ad) (sm := sm) (fe := fe) (ex := ex) (dy := dy) (gp := gp) (gc := gc) (op := op) (gr := gr) (st := st) (dl := dl) (wo := wo) (n := n) (yc := yc) (ya := ya) (ys := ys) (yd := yd) (q := q) (zc := zc) (zp := zp) (zr := zr) (zs := zs) (zf := zf) (z := z) (zm := zm) (zt := zt) (x := x) l hfl h1) (cwV 1 hts hg9 rfl rfl rfl (by decide +kernel) hR9) ⟨fun a U g mk q => ⟨q.1, q.2.1, va_K.moved (u := U) (U := U.calling g mk a) (Vm.Alike.refl U.vm) q.2.2.1, tX.same (u := U) (U := U.calling g mk a) rfl q.2.2.2⟩, rC_0 hK hP, fun U hU hW => ⟨rfl, by rw [hU]; exact hP, va_K.moved hW.alike hK, by rw [hU]; exact tX.warm hW hT⟩⟩ rfl rfl hl9 rfl (lv_room hw9) hdg hc9
end
set_option maxHeartbeats 4000000 in
set_option maxRecDepth 100000 in
theorem c_X3_count_ok (l : Launch) {dC : Nat → ClassId} {dI : Nat → Nat → Nat} {cI cZ : ClassId} {ad : Nat → Nat} {sm fe ex dy : Int32} {gp gc op gr st dl wo : Nat → Int32} {n : Nat} {yc ya ys yd : Nat → Int32} {q : Nat} {zc zp zr zs zf : Nat → Int32} {z : Nat} {zm zt : Int64} {x : Int32} (hn : n ≤ 24) (h1 : outN x (nI 0) (nI 3) = 0) : Met l yX3_count wsX3_count { frames := 1, cells := 0, slots := 0, locals := 23 } (va_Pc [.ref (ad 0), .int x] (fun U => va_P (dC, dI) vwCl (wC cI cZ ad sm fe ex dy gp gc op gr st dl wo n yc ya ys yd q zc zp zr zs zf z zm zt) U.heap ∧ va_K (dC, dI) vwCl [(cI, .int), (cZ, .boolean)] U)) (vp_Si (fun r => r = nI (tallyN st x n))) 0 0 (fun _ => False) := by
  refine Met.ofW (cc := cX3_count) (maxL := 2) (ret := (some .int)) (by decide) rfl ?_
  intro p e s m args below meth c s₁ B hml hv
  obtain ⟨rfl, hP, hK⟩ := hv
  have hx := B.exec
  have hb := B.bytes
  have hr := B.returns
  have hts := atoms_spec (ws := wsX3_count) B.pre
  have hown : s.vm.findClass RX3 = some m.cls := findClass_of_methodNamed B.named
  have hlocks := B.notSynchronized
  have hl := lv_entry ([.ref (ad 0), .int x]) (n := 2) (Nat.le_of_ble_eq_true rfl)
  rw [lg_entry_eq]
  generalize (lg_sl ([.ref (ad 0), .int x]) ++ List.replicate (2 - (lg_sl ([.ref (ad 0), .int x])).length) Slot.unset).toArray = ls at hl ⊢
  have hl : lv_has ls 2 [(0, .ref (ad 0)), (1, .int x)] := hl
  have hiX3 : ∀ w ∈ wsX30, w ∈ wsX3_count := by decide +kernel
  have hf19 := hts (.fieldLink RX3 19 "SettlementFund" "claimBook" "LSettlementFund$ClaimBook;") (by decide +kernel)
  refine lv_iload_n hx hb dX3_count_0 rfl (lv_at hl 1 rfl) ?_
  refine lv_iconst (v := nI 0) hx hb dX3_count_1 (by decide) ?_
  refine lv_iconst (v := nI 3) hx hb dX3_count_2 (by decide) ?_
  refine k_X3_isOutside l (x := x) (a := nI 0) (b := nI 3) hx hb hml hown hts  gX3_count_X3_isOutside ⟨Nat.le_of_ble_eq_true rfl, Nat.le_of_ble_eq_true rfl⟩ ⟨Nat.le_of_ble_eq_true rfl, Nat.le_of_ble_eq_true rfl⟩ hl.1 (Nat.le_of_ble_eq_true rfl) dX3_count_3 ?_
  refine zi_eq (tgt := 19) hx hb (outN_lt _ _ _) dX3_count_6 (by decide) (fun c_6 => ?_) (fun c_6 => (show False by exact c_6 h1).elim)
  refine lv_aload_n hx hb dX3_count_19 rfl (lv_at hl 0 rfl) ?_
  refine gC_0_6 hx hb hts hiX3 hown hK hP hf19 dX3_count_20 ?_
  refine lv_iload_n hx hb dX3_count_23 rfl (lv_at hl 1 rfl) ?_
  refine k_X0_tally l (w := x) (hn := hn) hx hb hml hown hts hK hP gX3_count_X0_tally ⟨Nat.le_of_ble_eq_true rfl, Nat.le_of_ble_eq_true rfl⟩ ⟨Nat.le_of_ble_eq_true rfl, Nat.le_of_ble_eq_true rfl⟩ hl.1 (Nat.le_of_ble_eq_true rfl) dX3_count_24 ?_
  exact W.iret (v := nI (tallyN st x n)) hx hb hr (fun t ht hW => ⟨nI (tallyN st x n), rfl, rfl, ht⟩) (fun _ h => nomatch h) dX3_count_27
section
variable {p : Program} {e : Env} {R : Room} {s : State} {m : MethodId} {args : Array Value} {below : List Frame} {meth : Method} {c : Code} {H : Heap} {locs : List Loc} {cells slots : Nat} {Q : State → Prop} {cc : ByteArray} {pc : Nat} {ls : Array Slot} {rest : List Value} {own : String} {index nL : Nat} {Ts : List Cond} {H0 : Heap} {A0 : Nat → Prop}
theorem k_X3_count_ok (l : Launch) {dC : Nat → ClassId} {dI : Nat → Nat → Nat} {cI cZ : ClassId} {ad : Nat → Nat} {sm fe ex dy : Int32} {gp gc op gr st dl wo : Nat → Int32} {n : Nat} {yc ya ys yd : Nat → Int32} {q : Nat} {zc zp zr zs zf : Nat → Int32} {z : Nat} {zm zt : Int64} {x : Int32} (hn : n ≤ 24) (h1 : outN x (nI 0) (nI 3) = 0) (hx : p.tables.exec = Jvm.exec) (hb : c.code = cc) (hml : c.maxLocals = nL) (hown : s.vm.findClass own = some m.cls) (hts : ∀ w ∈ Ts, w.before args s = true) (hK : va_K (dC, dI) vwCl [(cI, .int), (cZ, .boolean)] s) (hP : va_P (dC, dI) vwCl (wC cI cZ ad sm fe ex dy gp gc op gr st dl wo n yc ya ys yd q zc zp zr zs zf z zm zt) H) (hg9 : GoodIn Ts (wsV own index RX3 yX3_count wsX3_count)) (hR9 : 1 + 1 ≤ R.frames ∧ 8 + (2 + 11) + 23 ≤ R.locals) (hc9 : cells ≤ R.cells ∧ slots ≤ R.slots) (hl9 : ls.size = nL) (hw9 : (rest.map fun v => v.category).sum ≤ 8) (hdg : decode cc pc = .ok (.invokevirtual index, 3)) (kk : W p l e R s m args below meth c H locs cells slots Q (F0 m (pc + 3) ls (.int (nI (tallyN st x n)) :: rest))) : W p l e R s m args below meth c H locs cells slots Q (F0 m pc ls (.int x :: .ref (ad 0) :: rest)) := zc_ro (W.runV (As := [.int x]) (rest := rest) ⟨hx, hb, hml, hown, hts⟩ (c_X3_count_ok (dC := dC) (dI := dI) (cI := cI) (cZ := cZ) (ad := ad) (sm := sm) (fe := fe) (ex := ex) (dy := dy) (gp := gp) (gc := gc) (op := op) (gr := gr) (st := st) (dl := dl) (wo := wo) (n := n) (yc := yc) (ya := ya) (ys := ys) (yd := yd) (q := q) (zc := zc) (zp := zp) (zr := zr) (zs := zs) (zf := zf) (z := z) (zm := zm) (zt := zt) (x := x) l hn h1) (cwV 1 hts hg9 rfl rfl rfl (by decide +kernel) hR9) ⟨fun a U g mk q => ⟨q.1, q.2.1, va_K.moved (u := U) (U := U.calling g mk a) (Vm.Alike.refl U.vm) q.2.2⟩, rC_0 hK hP, fun U hU hW => ⟨rfl, by rw [hU]; exact hP, va_K.moved hW.alike hK⟩⟩ rfl rfl hl9 rfl (lv_room hw9) hdg hc9) (fun r h => by subst h; exact kk)
end
set_option maxHeartbeats 4000000 in
set_option maxRecDepth 100000 in
theorem c_X3_count_no (l : Launch) (hfl : l.stackTraces = false) {dC : Nat → ClassId} {dI : Nat → Nat → Nat} {cI cZ : ClassId} {ad : Nat → Nat} {sm fe ex dy : Int32} {gp gc op gr st dl wo : Nat → Int32} {n : Nat} {yc ya ys yd : Nat → Int32} {q : Nat} {zc zp zr zs zf : Nat → Int32} {z : Nat} {zm zt : Int64} {x : Int32} (h1 : ¬ outN x (nI 0) (nI 3) = 0) : vx_Met l yX3_count wsX3_count { frames := 6, cells := 1, slots := 6, locals := 90 } (va_Pc [.ref (ad 0), .int x] (fun U => va_P (dC, dI) vwCl (wC cI cZ ad sm fe ex dy gp gc op gr st dl wo n yc ya ys yd q zc zp zr zs zf z zm zt) U.heap ∧ va_K (dC, dI) vwCl [(cI, .int), (cZ, .boolean)] U ∧ tX (fun _ => False) U U.heap)) (fun _ _ _ _ => False) (xT "java/lang/IllegalArgumentException") 1 6 (fun _ => False) := by
  refine vx_ofW (cc := cX3_count) (maxL := 2) (ret := (some .int)) (by decide) rfl ?_
  intro p e s m args below meth c s₁ B hml ht hv
  obtain ⟨rfl, hP, hK, hT⟩ := hv
  have hx := B.exec
  have hb := B.bytes
  have hr := B.returns
  have hts := atoms_spec (ws := wsX3_count) B.pre
  have hown : s.vm.findClass RX3 = some m.cls := findClass_of_methodNamed B.named
  have hlocks := B.notSynchronized
  have hl := lv_entry ([.ref (ad 0), .int x]) (n := 2) (Nat.le_of_ble_eq_true rfl)
  rw [lg_entry_eq]
  generalize (lg_sl ([.ref (ad 0), .int x]) ++ List.replicate (2 - (lg_sl ([.ref (ad 0), .int x])).length) Slot.unset).toArray = ls at hl ⊢
  have hl : lv_has ls 2 [(0, .ref (ad 0)), (1, .int x)] := hl
  refine lv_iload_n hx hb dX3_count_0 rfl (lv_at hl 1 rfl) ?_
  refine lv_iconst (v := nI 0) hx hb dX3_count_1 (by decide) ?_
  refine lv_iconst (v := nI 3) hx hb dX3_count_2 (by decide) ?_
  refine k_X3_isOutside l (x := x) (a := nI 0) (b := nI 3) hx hb hml hown hts  gX3_count_X3_isOutside ⟨Nat.le_of_ble_eq_true rfl, Nat.le_of_ble_eq_true rfl⟩ ⟨Nat.le_of_ble_eq_true rfl, Nat.le_of_ble_eq_true rfl⟩ hl.1 (Nat.le_of_ble_eq_true rfl) dX3_count_3 ?_
  refine zi_eq (tgt := 19) hx hb (outN_lt _ _ _) dX3_count_6 (by decide) (fun c_6 => (show False by exact h1 c_6).elim) (fun c_6 => ?_)
  exact zx_IllegalArgumentException (is := 188) (text := "state is out of range") hx hb hfl hown hts hT (by decide +kernel) (by decide +kernel) (by decide +kernel) (by decide +kernel) (hl.1.trans hml.symm) dX3_count_9 dX3_count_12 dX3_count_13 dX3_count_15 dX3_count_18 ht hlocks (Nat.le_of_ble_eq_true rfl) (Nat.le_of_ble_eq_true rfl) (Nat.le_of_ble_eq_true rfl) (Nat.le_of_ble_eq_true rfl)
section
variable {p : Program} {e : Env} {R : Room} {s : State} {m : MethodId} {args : Array Value} {below : List Frame} {meth : Method} {c : Code} {H : Heap} {locs : List Loc} {cells slots : Nat} {Q : State → Prop} {cc : ByteArray} {pc : Nat} {ls : Array Slot} {rest : List Value} {own : String} {index nL : Nat} {Ts : List Cond} {H0 : Heap} {A0 : Nat → Prop}
theorem kr_X3_count_no (l : Launch) (hfl : l.stackTraces = false) {dC : Nat → ClassId} {dI : Nat → Nat → Nat} {cI cZ : ClassId} {ad : Nat → Nat} {sm fe ex dy : Int32} {gp gc op gr st dl wo : Nat → Int32} {n : Nat} {yc ya ys yd : Nat → Int32} {q : Nat} {zc zp zr zs zf : Nat → Int32} {z : Nat} {zm zt : Int64} {x : Int32} (h1 : ¬ outN x (nI 0) (nI 3) = 0) (hx : p.tables.exec = Jvm.exec) (hb : c.code = cc) (hml : c.maxLocals = nL) (hown : s.vm.findClass own = some m.cls) (hts : ∀ w ∈ Ts, w.before args s = true) (hK : va_K (dC, dI) vwCl [(cI, .int), (cZ, .boolean)] s) (hP : va_P (dC, dI) vwCl (wC cI cZ ad sm fe ex dy gp gc op gr st dl wo n yc ya ys yd q zc zp zr zs zf z zm zt) H) (hg9 : GoodIn Ts (wsV own index RX3 yX3_count wsX3_count)) (hR9 : 6 + 1 ≤ R.frames ∧ 8 + (2 + 11) + 90 ≤ R.locals) (hc9 : cells + 1 ≤ R.cells ∧ slots + 6 ≤ R.slots) (hl9 : ls.size = nL) (hw9 : (rest.map fun v => v.category).sum ≤ 8) (hdg : decode cc pc = .ok (.invokevirtual index, 3)) (hT : tX (fun _ => False) s H) : vx_Run p l e R s m args below meth c H locs cells slots 1 6 (F0 m pc ls (.int x :: .ref (ad 0) :: rest)) rest (fun _ _ _ => False) (xT "java/lang/IllegalArgumentException") (fun _ => False) := vx_runV (As := [.int x]) (rest := rest) ⟨hx, hb, hml, hown, hts⟩ (c_X3_count_no (dC := dC) (dI := dI) (cI := cI) (cZ := cZ) (ad := ad) (sm := sm) (fe := fe) (ex := ex) (dy := dy) (gp := gp) (gc := gc) (op := op) (gr := gr) (st := st) (dl := dl) (wo := wo) (n := n) (yc := yc) (ya := ya) (ys := ys) (yd := yd) (q := q) (zc := zc) (zp := zp) (zr := zr) (zs := zs) (zf := zf) (z := z) (zm := zm) (zt := zt) (x := x) l hfl h1) (cwV 1 hts hg9 rfl rfl rfl (by decide +kernel) hR9) ⟨fun a U g mk q => ⟨q.1, q.2.1, va_K.moved (u := U) (U := U.calling g mk a) (Vm.Alike.refl U.vm) q.2.2.1, tX.same (u := U) (U := U.calling g mk a) rfl q.2.2.2⟩, rC_0 hK hP, fun U hU hW => ⟨rfl, by rw [hU]; exact hP, va_K.moved hW.alike hK, by rw [hU]; exact tX.warm hW hT⟩⟩ rfl rfl hl9 rfl (lv_room hw9) hdg hc9
end
set_option maxHeartbeats 4000000 in
set_option maxRecDepth 100000 in
theorem c_X3_setFund_ok (l : Launch) {dC : Nat → ClassId} {dI : Nat → Nat → Nat} {cI cZ : ClassId} {ad : Nat → Nat} {sm fe ex dy : Int32} {gp gc op gr st dl wo : Nat → Int32} {n : Nat} {yc ya ys yd : Nat → Int32} {q : Nat} {zc zp zr zs zf : Nat → Int32} {z : Nat} {zm zt : Int64} {x1 : Int32} {x2 : Int32} {x3 : Int32} (hI : iwC ad) (h1 : outN x1 (nI 0) (nI 10000000) = 0) (h2 : outN x2 (nI 0) (nI 500) = 0) (h3 : outN x3 (nI 0) (nI 1000000) = 0) (h0 : q = 0) : Met l yX3_setFund wsX3_setFund { frames := 2, cells := 0, slots := 0, locals := 42 } (va_Pc [.ref (ad 0), .int x1, .int x2, .int x3] (fun U => va_P (dC, dI) vwCl (wC cI cZ ad sm fe ex dy gp gc op gr st dl wo n yc ya ys yd q zc zp zr zs zf z zm zt) U.heap ∧ va_K (dC, dI) vwCl [(cI, .int), (cZ, .boolean)] U)) (va_Qi (fun r (_ : Unit) => r = leftF x1 x2 x3 ya ys q) (fun _ t => va_P (dC, dI) vwCl (wC cI cZ ad x1 x2 x3 dy gp gc op gr st dl wo n yc ya ys yd q zc zp zr zs zf z zm zt) t.heap) (awC ad)) 0 0 (awC ad) := by
  refine Met.ofW (cc := cX3_setFund) (maxL := 4) (ret := (some .int)) (by decide) rfl ?_
  intro p e s m args below meth c s₁ B hml hv
  obtain ⟨rfl, hP, hK⟩ := hv
  have hx := B.exec
  have hb := B.bytes
  have hr := B.returns
  have hts := atoms_spec (ws := wsX3_setFund) B.pre
  have hown : s.vm.findClass RX3 = some m.cls := findClass_of_methodNamed B.named
  have hlocks := B.notSynchronized
  have hS : va_S (awC ad) s.heap s.heap [] := va_S.rf
  have hl := lv_entry ([.ref (ad 0), .int x1, .int x2, .int x3]) (n := 4) (Nat.le_of_ble_eq_true rfl)
  rw [lg_entry_eq]
  generalize (lg_sl ([.ref (ad 0), .int x1, .int x2, .int x3]) ++ List.replicate (4 - (lg_sl ([.ref (ad 0), .int x1, .int x2, .int x3])).length) Slot.unset).toArray = ls at hl ⊢
  have hl : lv_has ls 4 [(0, .ref (ad 0)), (1, .int x1), (2, .int x2), (3, .int x3)] := hl
  have hk38 := hts (.constant RX3 38 (10000000)) (by decide +kernel)
  have hk37 := hts (.constant RX3 37 (1000000)) (by decide +kernel)
  have hiX3 : ∀ w ∈ wsX30, w ∈ wsX3_setFund := by decide +kernel
  have hf53 := hts (.fieldLink RX3 53 "SettlementFund" "sum" "I") (by decide +kernel)
  have hf57 := hts (.fieldLink RX3 57 "SettlementFund" "feeInThousandths" "I") (by decide +kernel)
  have hf60 := hts (.fieldLink RX3 60 "SettlementFund" "expenses" "I") (by decide +kernel)
  refine lv_iload_n hx hb dX3_setFund_0 rfl (lv_at hl 1 rfl) ?_
  refine lv_iconst (v := nI 0) hx hb dX3_setFund_1 (by decide) ?_
  refine lv_ldc hx hb hown hk38 dX3_setFund_2 ?_
  refine zt_i (y := nI 10000000) rfl ?_
  refine k_X3_isOutside l (x := x1) (a := nI 0) (b := nI 10000000) hx hb hml hown hts  gX3_setFund_X3_isOutside ⟨Nat.le_of_ble_eq_true rfl, Nat.le_of_ble_eq_true rfl⟩ ⟨Nat.le_of_ble_eq_true rfl, Nat.le_of_ble_eq_true rfl⟩ hl.1 (Nat.le_of_ble_eq_true rfl) dX3_setFund_4 ?_
  refine zi_ne (tgt := 31) hx hb (outN_lt _ _ _) dX3_setFund_7 (by decide) (fun c_7 => (show False by exact c_7 h1).elim) (fun c_7 => ?_)
  refine lv_iload_n hx hb dX3_setFund_10 rfl (lv_at hl 2 rfl) ?_
  refine lv_iconst (v := nI 0) hx hb dX3_setFund_11 (by decide) ?_
  refine lv_sipush (v := nI 500) hx hb dX3_setFund_12 (by decide) ?_
  refine k_X3_isOutside l (x := x2) (a := nI 0) (b := nI 500) hx hb hml hown hts  gX3_setFund_X3_isOutside ⟨Nat.le_of_ble_eq_true rfl, Nat.le_of_ble_eq_true rfl⟩ ⟨Nat.le_of_ble_eq_true rfl, Nat.le_of_ble_eq_true rfl⟩ hl.1 (Nat.le_of_ble_eq_true rfl) dX3_setFund_15 ?_
  refine zi_ne (tgt := 31) hx hb (outN_lt _ _ _) dX3_setFund_18 (by decide) (fun c_18 => (show False by exact c_18 h2).elim) (fun c_18 => ?_)
  refine lv_iload_n hx hb dX3_setFund_21 rfl (lv_at hl 3 rfl) ?_
  refine lv_iconst (v := nI 0) hx hb dX3_setFund_22 (by decide) ?_
  refine lv_ldc hx hb hown hk37 dX3_setFund_23 ?_
  refine zt_i (y := nI 1000000) rfl ?_
  refine k_X3_isOutside l (x := x3) (a := nI 0) (b := nI 1000000) hx hb hml hown hts  gX3_setFund_X3_isOutside ⟨Nat.le_of_ble_eq_true rfl, Nat.le_of_ble_eq_true rfl⟩ ⟨Nat.le_of_ble_eq_true rfl, Nat.le_of_ble_eq_true rfl⟩ hl.1 (Nat.le_of_ble_eq_true rfl) dX3_setFund_25 ?_
  refine zi_eq (tgt := 41) hx hb (outN_lt _ _ _) dX3_setFund_28 (by decide) (fun c_28 => ?_) (fun c_28 => (show False by exact c_28 h3).elim)
  refine lv_aload_n hx hb dX3_setFund_41 rfl (lv_at hl 0 rfl) ?_
  refine k_X3_mustHaveNoPayments_ok l (h0 := h0) hx hb hml hown hts hK hP gX3_setFund_X3_mustHaveNoPayments ⟨Nat.le_of_ble_eq_true rfl, Nat.le_of_ble_eq_true rfl⟩ ⟨Nat.le_of_ble_eq_true rfl, Nat.le_of_ble_eq_true rfl⟩ hl.1 (Nat.le_of_ble_eq_true rfl) dX3_setFund_42 ?_
  refine lv_aload_n hx hb dX3_setFund_45 rfl (lv_at hl 0 rfl) ?_
  refine lv_iload_n hx hb dX3_setFund_46 rfl (lv_at hl 1 rfl) ?_
  refine uC_0_0 hx hb hts hiX3 hown hK hP hf53 hI (fun _ h => h) hS dX3_setFund_47 (fun H locs hP hS => ?_)
  refine lv_aload_n hx hb dX3_setFund_50 rfl (lv_at hl 0 rfl) ?_
  refine lv_iload_n hx hb dX3_setFund_51 rfl (lv_at hl 2 rfl) ?_
  refine uC_0_1 hx hb hts hiX3 hown hK hP hf57 hI (fun _ h => h) hS dX3_setFund_52 (fun H locs hP hS => ?_)
  refine lv_aload_n hx hb dX3_setFund_55 rfl (lv_at hl 0 rfl) ?_
  refine lv_iload_n hx hb dX3_setFund_56 rfl (lv_at hl 3 rfl) ?_
  refine uC_0_2 hx hb hts hiX3 hown hK hP hf60 hI (fun _ h => h) hS dX3_setFund_57 (fun H locs hP hS => ?_)
  refine lv_aload_n hx hb dX3_setFund_60 rfl (lv_at hl 0 rfl) ?_
  refine k_X3_moneyLeft l (hq := (by omega)) hx hb hml hown hts hK hP gX3_setFund_X3_moneyLeft ⟨Nat.le_of_ble_eq_true rfl, Nat.le_of_ble_eq_true rfl⟩ ⟨Nat.le_of_ble_eq_true rfl, Nat.le_of_ble_eq_true rfl⟩ hl.1 (Nat.le_of_ble_eq_true rfl) dX3_setFund_61 ?_
  exact W.iret (v := leftF x1 x2 x3 ya ys q) hx hb hr (fun t ht hW => ⟨⟨leftF x1 x2 x3 ya ys q, (), rfl, rfl, by (try dsimp only); rw [ht]; exact hP⟩, hS.F ht⟩) hS.2.2 dX3_setFund_64
section
variable {p : Program} {e : Env} {R : Room} {s : State} {m : MethodId} {args : Array Value} {below : List Frame} {meth : Method} {c : Code} {H : Heap} {locs : List Loc} {cells slots : Nat} {Q : State → Prop} {cc : ByteArray} {pc : Nat} {ls : Array Slot} {rest : List Value} {own : String} {index nL : Nat} {Ts : List Cond} {H0 : Heap} {A0 : Nat → Prop}
theorem k_X3_setFund_ok (l : Launch) {dC : Nat → ClassId} {dI : Nat → Nat → Nat} {cI cZ : ClassId} {ad : Nat → Nat} {sm fe ex dy : Int32} {gp gc op gr st dl wo : Nat → Int32} {n : Nat} {yc ya ys yd : Nat → Int32} {q : Nat} {zc zp zr zs zf : Nat → Int32} {z : Nat} {zm zt : Int64} {x1 : Int32} {x2 : Int32} {x3 : Int32} (h1 : outN x1 (nI 0) (nI 10000000) = 0) (h2 : outN x2 (nI 0) (nI 500) = 0) (h3 : outN x3 (nI 0) (nI 1000000) = 0) (h0 : q = 0) (hx : p.tables.exec = Jvm.exec) (hb : c.code = cc) (hml : c.maxLocals = nL) (hown : s.vm.findClass own = some m.cls) (hts : ∀ w ∈ Ts, w.before args s = true) (hK : va_K (dC, dI) vwCl [(cI, .int), (cZ, .boolean)] s) (hP : va_P (dC, dI) vwCl (wC cI cZ ad sm fe ex dy gp gc op gr st dl wo n yc ya ys yd q zc zp zr zs zf z zm zt) H) (hg9 : GoodIn Ts (wsV own index RX3 yX3_setFund wsX3_setFund)) (hR9 : 2 + 1 ≤ R.frames ∧ 8 + (4 + 11) + 42 ≤ R.locals) (hc9 : cells ≤ R.cells ∧ slots ≤ R.slots) (hl9 : ls.size = nL) (hw9 : (rest.map fun v => v.category).sum ≤ 8) (hdg : decode cc pc = .ok (.invokevirtual index, 3)) (hI : iwC ad) (hA : ∀ x, awC ad x → A0 x) (hS : va_S A0 H0 H locs) (kk : ∀ (H1 : Heap) (locs1 : List Loc), va_P (dC, dI) vwCl (wC cI cZ ad x1 x2 x3 dy gp gc op gr st dl wo n yc ya ys yd q zc zp zr zs zf z zm zt) H1 → va_S A0 H0 H1 locs1 → (∀ q : Nat, q < H.size → ¬ awC ad q → H1[q]? = H[q]?) → W p l e R s m args below meth c H1 locs1 cells slots Q (F0 m (pc + 3) ls (.int (leftF x1 x2 x3 ya ys q) :: rest))) : W p l e R s m args below meth c H locs cells slots Q (F0 m pc ls (.int x3 :: .int x2 :: .int x1 :: .ref (ad 0) :: rest)) := va_calli (va_runV (As := [.int x1, .int x2, .int x3]) (rest := rest) ⟨hx, hb, hml, hown, hts⟩ (c_X3_setFund_ok (dC := dC) (dI := dI) (cI := cI) (cZ := cZ) (ad := ad) (sm := sm) (fe := fe) (ex := ex) (dy := dy) (gp := gp) (gc := gc) (op := op) (gr := gr) (st := st) (dl := dl) (wo := wo) (n := n) (yc := yc) (ya := ya) (ys := ys) (yd := yd) (q := q) (zc := zc) (zp := zp) (zr := zr) (zs := zs) (zf := zf) (z := z) (zm := zm) (zt := zt) (x1 := x1) (x2 := x2) (x3 := x3) l hI h1 h2 h3 h0) (cwV 3 hts hg9 rfl rfl rfl (by decide +kernel) hR9) ⟨fun a U g mk q => ⟨q.1, q.2.1, va_K.moved (u := U) (U := U.calling g mk a) (Vm.Alike.refl U.vm) q.2.2⟩, rC_0 hK hP, fun U hU hW => ⟨rfl, by rw [hU]; exact hP, va_K.moved hW.alike hK⟩⟩ rfl rfl hl9 rfl (lv_room hw9) hdg hc9) hS (fun q _ h => hA q h) hA (fun r u t H1 locs1 ht _ hu hB hz hk hS1 => by subst hu; exact kk H1 locs1 (by rw [ht] at hB; exact hB) hS1 hk)
end
set_option maxHeartbeats 4000000 in
set_option maxRecDepth 100000 in
theorem c_X3_setFund_iae (l : Launch) (hfl : l.stackTraces = false) {dC : Nat → ClassId} {dI : Nat → Nat → Nat} {cI cZ : ClassId} {ad : Nat → Nat} {sm fe ex dy : Int32} {gp gc op gr st dl wo : Nat → Int32} {n : Nat} {yc ya ys yd : Nat → Int32} {q : Nat} {zc zp zr zs zf : Nat → Int32} {z : Nat} {zm zt : Int64} {x1 : Int32} {x2 : Int32} {x3 : Int32} (h1 : ¬ (outN x1 (nI 0) (nI 10000000) = 0 ∧ outN x2 (nI 0) (nI 500) = 0 ∧ outN x3 (nI 0) (nI 1000000) = 0)) : vx_Met l yX3_setFund wsX3_setFund { frames := 6, cells := 1, slots := 6, locals := 90 } (va_Pc [.ref (ad 0), .int x1, .int x2, .int x3] (fun U => va_P (dC, dI) vwCl (wC cI cZ ad sm fe ex dy gp gc op gr st dl wo n yc ya ys yd q zc zp zr zs zf z zm zt) U.heap ∧ va_K (dC, dI) vwCl [(cI, .int), (cZ, .boolean)] U ∧ tX (fun _ => False) U U.heap)) (fun _ _ _ _ => False) (xT "java/lang/IllegalArgumentException") 1 6 (fun _ => False) := by
  refine vx_ofW (cc := cX3_setFund) (maxL := 4) (ret := (some .int)) (by decide) rfl ?_
  intro p e s m args below meth c s₁ B hml ht hv
  obtain ⟨rfl, hP, hK, hT⟩ := hv
  have hx := B.exec
  have hb := B.bytes
  have hr := B.returns
  have hts := atoms_spec (ws := wsX3_setFund) B.pre
  have hown : s.vm.findClass RX3 = some m.cls := findClass_of_methodNamed B.named
  have hlocks := B.notSynchronized
  have hl := lv_entry ([.ref (ad 0), .int x1, .int x2, .int x3]) (n := 4) (Nat.le_of_ble_eq_true rfl)
  rw [lg_entry_eq]
  generalize (lg_sl ([.ref (ad 0), .int x1, .int x2, .int x3]) ++ List.replicate (4 - (lg_sl ([.ref (ad 0), .int x1, .int x2, .int x3])).length) Slot.unset).toArray = ls at hl ⊢
  have hl : lv_has ls 4 [(0, .ref (ad 0)), (1, .int x1), (2, .int x2), (3, .int x3)] := hl
  have hk38 := hts (.constant RX3 38 (10000000)) (by decide +kernel)
  have hk37 := hts (.constant RX3 37 (1000000)) (by decide +kernel)
  refine lv_iload_n hx hb dX3_setFund_0 rfl (lv_at hl 1 rfl) ?_
  refine lv_iconst (v := nI 0) hx hb dX3_setFund_1 (by decide) ?_
  refine lv_ldc hx hb hown hk38 dX3_setFund_2 ?_
  refine zt_i (y := nI 10000000) rfl ?_
  refine k_X3_isOutside l (x := x1) (a := nI 0) (b := nI 10000000) hx hb hml hown hts  gX3_setFund_X3_isOutside ⟨Nat.le_of_ble_eq_true rfl, Nat.le_of_ble_eq_true rfl⟩ ⟨Nat.le_of_ble_eq_true rfl, Nat.le_of_ble_eq_true rfl⟩ hl.1 (Nat.le_of_ble_eq_true rfl) dX3_setFund_4 ?_
  refine zi_ne (tgt := 31) hx hb (outN_lt _ _ _) dX3_setFund_7 (by decide) (fun c_7 => ?_) (fun c_7 => ?_)
  · exact zx_IllegalArgumentException (is := 45) (text := "sum, fee or expenses is out of range") hx hb hfl hown hts hT (by decide +kernel) (by decide +kernel) (by decide +kernel) (by decide +kernel) (hl.1.trans hml.symm) dX3_setFund_31 dX3_setFund_34 dX3_setFund_35 dX3_setFund_37 dX3_setFund_40 ht hlocks (Nat.le_of_ble_eq_true rfl) (Nat.le_of_ble_eq_true rfl) (Nat.le_of_ble_eq_true rfl) (Nat.le_of_ble_eq_true rfl)
  · refine lv_iload_n hx hb dX3_setFund_10 rfl (lv_at hl 2 rfl) ?_
    refine lv_iconst (v := nI 0) hx hb dX3_setFund_11 (by decide) ?_
    refine lv_sipush (v := nI 500) hx hb dX3_setFund_12 (by decide) ?_
    refine k_X3_isOutside l (x := x2) (a := nI 0) (b := nI 500) hx hb hml hown hts  gX3_setFund_X3_isOutside ⟨Nat.le_of_ble_eq_true rfl, Nat.le_of_ble_eq_true rfl⟩ ⟨Nat.le_of_ble_eq_true rfl, Nat.le_of_ble_eq_true rfl⟩ hl.1 (Nat.le_of_ble_eq_true rfl) dX3_setFund_15 ?_
    refine zi_ne (tgt := 31) hx hb (outN_lt _ _ _) dX3_setFund_18 (by decide) (fun c_18 => ?_) (fun c_18 => ?_)
    · exact zx_IllegalArgumentException (is := 45) (text := "sum, fee or expenses is out of range") hx hb hfl hown hts hT (by decide +kernel) (by decide +kernel) (by decide +kernel) (by decide +kernel) (hl.1.trans hml.symm) dX3_setFund_31 dX3_setFund_34 dX3_setFund_35 dX3_setFund_37 dX3_setFund_40 ht hlocks (Nat.le_of_ble_eq_true rfl) (Nat.le_of_ble_eq_true rfl) (Nat.le_of_ble_eq_true rfl) (Nat.le_of_ble_eq_true rfl)
    · refine lv_iload_n hx hb dX3_setFund_21 rfl (lv_at hl 3 rfl) ?_
      refine lv_iconst (v := nI 0) hx hb dX3_setFund_22 (by decide) ?_
      refine lv_ldc hx hb hown hk37 dX3_setFund_23 ?_
      refine zt_i (y := nI 1000000) rfl ?_
      refine k_X3_isOutside l (x := x3) (a := nI 0) (b := nI 1000000) hx hb hml hown hts  gX3_setFund_X3_isOutside ⟨Nat.le_of_ble_eq_true rfl, Nat.le_of_ble_eq_true rfl⟩ ⟨Nat.le_of_ble_eq_true rfl, Nat.le_of_ble_eq_true rfl⟩ hl.1 (Nat.le_of_ble_eq_true rfl) dX3_setFund_25 ?_
      refine zi_eq (tgt := 41) hx hb (outN_lt _ _ _) dX3_setFund_28 (by decide) (fun c_28 => (show False by exact h1 ⟨c_7, c_18, c_28⟩).elim) (fun c_28 => ?_)
      exact zx_IllegalArgumentException (is := 45) (text := "sum, fee or expenses is out of range") hx hb hfl hown hts hT (by decide +kernel) (by decide +kernel) (by decide +kernel) (by decide +kernel) (hl.1.trans hml.symm) dX3_setFund_31 dX3_setFund_34 dX3_setFund_35 dX3_setFund_37 dX3_setFund_40 ht hlocks (Nat.le_of_ble_eq_true rfl) (Nat.le_of_ble_eq_true rfl) (Nat.le_of_ble_eq_true rfl) (Nat.le_of_ble_eq_true rfl)
section
variable {p : Program} {e : Env} {R : Room} {s : State} {m : MethodId} {args : Array Value} {below : List Frame} {meth : Method} {c : Code} {H : Heap} {locs : List Loc} {cells slots : Nat} {Q : State → Prop} {cc : ByteArray} {pc : Nat} {ls : Array Slot} {rest : List Value} {own : String} {index nL : Nat} {Ts : List Cond} {H0 : Heap} {A0 : Nat → Prop}
theorem kr_X3_setFund_iae (l : Launch) (hfl : l.stackTraces = false) {dC : Nat → ClassId} {dI : Nat → Nat → Nat} {cI cZ : ClassId} {ad : Nat → Nat} {sm fe ex dy : Int32} {gp gc op gr st dl wo : Nat → Int32} {n : Nat} {yc ya ys yd : Nat → Int32} {q : Nat} {zc zp zr zs zf : Nat → Int32} {z : Nat} {zm zt : Int64} {x1 : Int32} {x2 : Int32} {x3 : Int32} (h1 : ¬ (outN x1 (nI 0) (nI 10000000) = 0 ∧ outN x2 (nI 0) (nI 500) = 0 ∧ outN x3 (nI 0) (nI 1000000) = 0)) (hx : p.tables.exec = Jvm.exec) (hb : c.code = cc) (hml : c.maxLocals = nL) (hown : s.vm.findClass own = some m.cls) (hts : ∀ w ∈ Ts, w.before args s = true) (hK : va_K (dC, dI) vwCl [(cI, .int), (cZ, .boolean)] s) (hP : va_P (dC, dI) vwCl (wC cI cZ ad sm fe ex dy gp gc op gr st dl wo n yc ya ys yd q zc zp zr zs zf z zm zt) H) (hg9 : GoodIn Ts (wsV own index RX3 yX3_setFund wsX3_setFund)) (hR9 : 6 + 1 ≤ R.frames ∧ 8 + (4 + 11) + 90 ≤ R.locals) (hc9 : cells + 1 ≤ R.cells ∧ slots + 6 ≤ R.slots) (hl9 : ls.size = nL) (hw9 : (rest.map fun v => v.category).sum ≤ 8) (hdg : decode cc pc = .ok (.invokevirtual index, 3)) (hT : tX (fun _ => False) s H) : vx_Run p l e R s m args below meth c H locs cells slots 1 6 (F0 m pc ls (.int x3 :: .int x2 :: .int x1 :: .ref (ad 0) :: rest)) rest (fun _ _ _ => False) (xT "java/lang/IllegalArgumentException") (fun _ => False) := vx_runV (As := [.int x1, .int x2, .int x3]) (rest := rest) ⟨hx, hb, hml, hown, hts⟩ (c_X3_setFund_iae (dC := dC) (dI := dI) (cI := cI) (cZ := cZ) (ad := ad) (sm := sm) (fe := fe) (ex := ex) (dy := dy) (gp := gp) (gc := gc) (op := op) (gr := gr) (st := st) (dl := dl) (wo := wo) (n := n) (yc := yc) (ya := ya) (ys := ys) (yd := yd) (q := q) (zc := zc) (zp := zp) (zr := zr) (zs := zs) (zf := zf) (z := z) (zm := zm) (zt := zt) (x1 := x1) (x2 := x2) (x3 := x3) l hfl h1) (cwV 3 hts hg9 rfl rfl rfl (by decide +kernel) hR9) ⟨fun a U g mk q => ⟨q.1, q.2.1, va_K.moved (u := U) (U := U.calling g mk a) (Vm.Alike.refl U.vm) q.2.2.1, tX.same (u := U) (U := U.calling g mk a) rfl q.2.2.2⟩, rC_0 hK hP, fun U hU hW => ⟨rfl, by rw [hU]; exact hP, va_K.moved hW.alike hK, by rw [hU]; exact tX.warm hW hT⟩⟩ rfl rfl hl9 rfl (lv_room hw9) hdg hc9
end
set_option maxHeartbeats 4000000 in
set_option maxRecDepth 100000 in
theorem c_X3_setGrade_ioobe (l : Launch) (hfl : l.stackTraces = false) {dC : Nat → ClassId} {dI : Nat → Nat → Nat} {cI cZ : ClassId} {ad : Nat → Nat} {sm fe ex dy : Int32} {gp gc op gr st dl wo : Nat → Int32} {n : Nat} {yc ya ys yd : Nat → Int32} {q : Nat} {zc zp zr zs zf : Nat → Int32} {z : Nat} {zm zt : Int64} {x1 : Int32} {x2 : Int32} {x3 : Int32} (h1 : ¬ outN x1 (nI 0) (nI 4) = 0) : vx_Met l yX3_setGrade wsX3_setGrade { frames := 6, cells := 1, slots := 6, locals := 90 } (va_Pc [.ref (ad 0), .int x1, .int x2, .int x3] (fun U => va_P (dC, dI) vwCl (wC cI cZ ad sm fe ex dy gp gc op gr st dl wo n yc ya ys yd q zc zp zr zs zf z zm zt) U.heap ∧ va_K (dC, dI) vwCl [(cI, .int), (cZ, .boolean)] U ∧ tX (fun _ => False) U U.heap)) (fun _ _ _ _ => False) (xT "java/lang/IndexOutOfBoundsException") 1 6 (fun _ => False) := by
  refine vx_ofW (cc := cX3_setGrade) (maxL := 4) (ret := none) (by decide) rfl ?_
  intro p e s m args below meth c s₁ B hml ht hv
  obtain ⟨rfl, hP, hK, hT⟩ := hv
  have hx := B.exec
  have hb := B.bytes
  have hr := B.returns
  have hts := atoms_spec (ws := wsX3_setGrade) B.pre
  have hown : s.vm.findClass RX3 = some m.cls := findClass_of_methodNamed B.named
  have hlocks := B.notSynchronized
  have hl := lv_entry ([.ref (ad 0), .int x1, .int x2, .int x3]) (n := 4) (Nat.le_of_ble_eq_true rfl)
  rw [lg_entry_eq]
  generalize (lg_sl ([.ref (ad 0), .int x1, .int x2, .int x3]) ++ List.replicate (4 - (lg_sl ([.ref (ad 0), .int x1, .int x2, .int x3])).length) Slot.unset).toArray = ls at hl ⊢
  have hl : lv_has ls 4 [(0, .ref (ad 0)), (1, .int x1), (2, .int x2), (3, .int x3)] := hl
  refine lv_iload_n hx hb dX3_setGrade_0 rfl (lv_at hl 1 rfl) ?_
  refine lv_iconst (v := nI 0) hx hb dX3_setGrade_1 (by decide) ?_
  refine lv_iconst (v := nI 4) hx hb dX3_setGrade_2 (by decide) ?_
  refine k_X3_isOutside l (x := x1) (a := nI 0) (b := nI 4) hx hb hml hown hts  gX3_setGrade_X3_isOutside ⟨Nat.le_of_ble_eq_true rfl, Nat.le_of_ble_eq_true rfl⟩ ⟨Nat.le_of_ble_eq_true rfl, Nat.le_of_ble_eq_true rfl⟩ hl.1 (Nat.le_of_ble_eq_true rfl) dX3_setGrade_3 ?_
  refine zi_eq (tgt := 19) hx hb (outN_lt _ _ _) dX3_setGrade_6 (by decide) (fun c_6 => (show False by exact h1 c_6).elim) (fun c_6 => ?_)
  exact zx_IndexOutOfBoundsException (is := 69) (text := "there is no such grade") hx hb hfl hown hts hT (by decide +kernel) (by decide +kernel) (by decide +kernel) (by decide +kernel) (hl.1.trans hml.symm) dX3_setGrade_9 dX3_setGrade_12 dX3_setGrade_13 dX3_setGrade_15 dX3_setGrade_18 ht hlocks (Nat.le_of_ble_eq_true rfl) (Nat.le_of_ble_eq_true rfl) (Nat.le_of_ble_eq_true rfl) (Nat.le_of_ble_eq_true rfl)
section
variable {p : Program} {e : Env} {R : Room} {s : State} {m : MethodId} {args : Array Value} {below : List Frame} {meth : Method} {c : Code} {H : Heap} {locs : List Loc} {cells slots : Nat} {Q : State → Prop} {cc : ByteArray} {pc : Nat} {ls : Array Slot} {rest : List Value} {own : String} {index nL : Nat} {Ts : List Cond} {H0 : Heap} {A0 : Nat → Prop}
theorem kr_X3_setGrade_ioobe (l : Launch) (hfl : l.stackTraces = false) {dC : Nat → ClassId} {dI : Nat → Nat → Nat} {cI cZ : ClassId} {ad : Nat → Nat} {sm fe ex dy : Int32} {gp gc op gr st dl wo : Nat → Int32} {n : Nat} {yc ya ys yd : Nat → Int32} {q : Nat} {zc zp zr zs zf : Nat → Int32} {z : Nat} {zm zt : Int64} {x1 : Int32} {x2 : Int32} {x3 : Int32} (h1 : ¬ outN x1 (nI 0) (nI 4) = 0) (hx : p.tables.exec = Jvm.exec) (hb : c.code = cc) (hml : c.maxLocals = nL) (hown : s.vm.findClass own = some m.cls) (hts : ∀ w ∈ Ts, w.before args s = true) (hK : va_K (dC, dI) vwCl [(cI, .int), (cZ, .boolean)] s) (hP : va_P (dC, dI) vwCl (wC cI cZ ad sm fe ex dy gp gc op gr st dl wo n yc ya ys yd q zc zp zr zs zf z zm zt) H) (hg9 : GoodIn Ts (wsV own index RX3 yX3_setGrade wsX3_setGrade)) (hR9 : 6 + 1 ≤ R.frames ∧ 8 + (4 + 11) + 90 ≤ R.locals) (hc9 : cells + 1 ≤ R.cells ∧ slots + 6 ≤ R.slots) (hl9 : ls.size = nL) (hw9 : (rest.map fun v => v.category).sum ≤ 8) (hdg : decode cc pc = .ok (.invokevirtual index, 3)) (hT : tX (fun _ => False) s H) : vx_Run p l e R s m args below meth c H locs cells slots 1 6 (F0 m pc ls (.int x3 :: .int x2 :: .int x1 :: .ref (ad 0) :: rest)) rest (fun _ _ _ => False) (xT "java/lang/IndexOutOfBoundsException") (fun _ => False) := vx_runV (As := [.int x1, .int x2, .int x3]) (rest := rest) ⟨hx, hb, hml, hown, hts⟩ (c_X3_setGrade_ioobe (dC := dC) (dI := dI) (cI := cI) (cZ := cZ) (ad := ad) (sm := sm) (fe := fe) (ex := ex) (dy := dy) (gp := gp) (gc := gc) (op := op) (gr := gr) (st := st) (dl := dl) (wo := wo) (n := n) (yc := yc) (ya := ya) (ys := ys) (yd := yd) (q := q) (zc := zc) (zp := zp) (zr := zr) (zs := zs) (zf := zf) (z := z) (zm := zm) (zt := zt) (x1 := x1) (x2 := x2) (x3 := x3) l hfl h1) (cwV 3 hts hg9 rfl rfl rfl (by decide +kernel) hR9) ⟨fun a U g mk q => ⟨q.1, q.2.1, va_K.moved (u := U) (U := U.calling g mk a) (Vm.Alike.refl U.vm) q.2.2.1, tX.same (u := U) (U := U.calling g mk a) rfl q.2.2.2⟩, rC_0 hK hP, fun U hU hW => ⟨rfl, by rw [hU]; exact hP, va_K.moved hW.alike hK, by rw [hU]; exact tX.warm hW hT⟩⟩ rfl rfl hl9 rfl (lv_room hw9) hdg hc9
end
set_option maxHeartbeats 4000000 in
set_option maxRecDepth 100000 in
theorem c_X3_setGrade_iae (l : Launch) (hfl : l.stackTraces = false) {dC : Nat → ClassId} {dI : Nat → Nat → Nat} {cI cZ : ClassId} {ad : Nat → Nat} {sm fe ex dy : Int32} {gp gc op gr st dl wo : Nat → Int32} {n : Nat} {yc ya ys yd : Nat → Int32} {q : Nat} {zc zp zr zs zf : Nat → Int32} {z : Nat} {zm zt : Int64} {k : Nat} {x2 : Int32} {x3 : Int32} (h1 : outN (nI k) (nI 0) (nI 4) = 0) (h2 : ¬ (outN x2 (nI 1) (nI 100) = 0 ∧ outN x3 (nI 1) (nI 1000000) = 0)) : vx_Met l yX3_setGrade wsX3_setGrade { frames := 6, cells := 1, slots := 6, locals := 90 } (va_Pc [.ref (ad 0), .int (nI k), .int x2, .int x3] (fun U => va_P (dC, dI) vwCl (wC cI cZ ad sm fe ex dy gp gc op gr st dl wo n yc ya ys yd q zc zp zr zs zf z zm zt) U.heap ∧ va_K (dC, dI) vwCl [(cI, .int), (cZ, .boolean)] U ∧ tX (fun _ => False) U U.heap)) (fun _ _ _ _ => False) (xT "java/lang/IllegalArgumentException") 1 6 (fun _ => False) := by
  refine vx_ofW (cc := cX3_setGrade) (maxL := 4) (ret := none) (by decide) rfl ?_
  intro p e s m args below meth c s₁ B hml ht hv
  obtain ⟨rfl, hP, hK, hT⟩ := hv
  have hx := B.exec
  have hb := B.bytes
  have hr := B.returns
  have hts := atoms_spec (ws := wsX3_setGrade) B.pre
  have hown : s.vm.findClass RX3 = some m.cls := findClass_of_methodNamed B.named
  have hlocks := B.notSynchronized
  have hl := lv_entry ([.ref (ad 0), .int (nI k), .int x2, .int x3]) (n := 4) (Nat.le_of_ble_eq_true rfl)
  rw [lg_entry_eq]
  generalize (lg_sl ([.ref (ad 0), .int (nI k), .int x2, .int x3]) ++ List.replicate (4 - (lg_sl ([.ref (ad 0), .int (nI k), .int x2, .int x3])).length) Slot.unset).toArray = ls at hl ⊢
  have hl : lv_has ls 4 [(0, .ref (ad 0)), (1, .int (nI k)), (2, .int x2), (3, .int x3)] := hl
  have hk37 := hts (.constant RX3 37 (1000000)) (by decide +kernel)
  refine lv_iload_n hx hb dX3_setGrade_0 rfl (lv_at hl 1 rfl) ?_
  refine lv_iconst (v := nI 0) hx hb dX3_setGrade_1 (by decide) ?_
  refine lv_iconst (v := nI 4) hx hb dX3_setGrade_2 (by decide) ?_
  refine k_X3_isOutside l (x := nI k) (a := nI 0) (b := nI 4) hx hb hml hown hts  gX3_setGrade_X3_isOutside ⟨Nat.le_of_ble_eq_true rfl, Nat.le_of_ble_eq_true rfl⟩ ⟨Nat.le_of_ble_eq_true rfl, Nat.le_of_ble_eq_true rfl⟩ hl.1 (Nat.le_of_ble_eq_true rfl) dX3_setGrade_3 ?_
  refine zi_eq (tgt := 19) hx hb (outN_lt _ _ _) dX3_setGrade_6 (by decide) (fun c_6 => ?_) (fun c_6 => (show False by exact c_6 h1).elim)
  refine lv_iload_n hx hb dX3_setGrade_19 rfl (lv_at hl 2 rfl) ?_
  refine lv_iconst (v := nI 1) hx hb dX3_setGrade_20 (by decide) ?_
  refine lv_bipush (v := nI 100) hx hb dX3_setGrade_21 (by decide) ?_
  refine k_X3_isOutside l (x := x2) (a := nI 1) (b := nI 100) hx hb hml hown hts  gX3_setGrade_X3_isOutside ⟨Nat.le_of_ble_eq_true rfl, Nat.le_of_ble_eq_true rfl⟩ ⟨Nat.le_of_ble_eq_true rfl, Nat.le_of_ble_eq_true rfl⟩ hl.1 (Nat.le_of_ble_eq_true rfl) dX3_setGrade_23 ?_
  refine zi_ne (tgt := 39) hx hb (outN_lt _ _ _) dX3_setGrade_26 (by decide) (fun c_26 => ?_) (fun c_26 => ?_)
  · exact zx_IllegalArgumentException (is := 72) (text := "points or cap is out of range") hx hb hfl hown hts hT (by decide +kernel) (by decide +kernel) (by decide +kernel) (by decide +kernel) (hl.1.trans hml.symm) dX3_setGrade_39 dX3_setGrade_42 dX3_setGrade_43 dX3_setGrade_45 dX3_setGrade_48 ht hlocks (Nat.le_of_ble_eq_true rfl) (Nat.le_of_ble_eq_true rfl) (Nat.le_of_ble_eq_true rfl) (Nat.le_of_ble_eq_true rfl)
  · refine lv_iload_n hx hb dX3_setGrade_29 rfl (lv_at hl 3 rfl) ?_
    refine lv_iconst (v := nI 1) hx hb dX3_setGrade_30 (by decide) ?_
    refine lv_ldc hx hb hown hk37 dX3_setGrade_31 ?_
    refine zt_i (y := nI 1000000) rfl ?_
    refine k_X3_isOutside l (x := x3) (a := nI 1) (b := nI 1000000) hx hb hml hown hts  gX3_setGrade_X3_isOutside ⟨Nat.le_of_ble_eq_true rfl, Nat.le_of_ble_eq_true rfl⟩ ⟨Nat.le_of_ble_eq_true rfl, Nat.le_of_ble_eq_true rfl⟩ hl.1 (Nat.le_of_ble_eq_true rfl) dX3_setGrade_33 ?_
    refine zi_eq (tgt := 49) hx hb (outN_lt _ _ _) dX3_setGrade_36 (by decide) (fun c_36 => (show False by exact h2 ⟨c_26, c_36⟩).elim) (fun c_36 => ?_)
    exact zx_IllegalArgumentException (is := 72) (text := "points or cap is out of range") hx hb hfl hown hts hT (by decide +kernel) (by decide +kernel) (by decide +kernel) (by decide +kernel) (hl.1.trans hml.symm) dX3_setGrade_39 dX3_setGrade_42 dX3_setGrade_43 dX3_setGrade_45 dX3_setGrade_48 ht hlocks (Nat.le_of_ble_eq_true rfl) (Nat.le_of_ble_eq_true rfl) (Nat.le_of_ble_eq_true rfl) (Nat.le_of_ble_eq_true rfl)
section
variable {p : Program} {e : Env} {R : Room} {s : State} {m : MethodId} {args : Array Value} {below : List Frame} {meth : Method} {c : Code} {H : Heap} {locs : List Loc} {cells slots : Nat} {Q : State → Prop} {cc : ByteArray} {pc : Nat} {ls : Array Slot} {rest : List Value} {own : String} {index nL : Nat} {Ts : List Cond} {H0 : Heap} {A0 : Nat → Prop}
theorem kr_X3_setGrade_iae (l : Launch) (hfl : l.stackTraces = false) {dC : Nat → ClassId} {dI : Nat → Nat → Nat} {cI cZ : ClassId} {ad : Nat → Nat} {sm fe ex dy : Int32} {gp gc op gr st dl wo : Nat → Int32} {n : Nat} {yc ya ys yd : Nat → Int32} {q : Nat} {zc zp zr zs zf : Nat → Int32} {z : Nat} {zm zt : Int64} {k : Nat} {x2 : Int32} {x3 : Int32} (h1 : outN (nI k) (nI 0) (nI 4) = 0) (h2 : ¬ (outN x2 (nI 1) (nI 100) = 0 ∧ outN x3 (nI 1) (nI 1000000) = 0)) (hx : p.tables.exec = Jvm.exec) (hb : c.code = cc) (hml : c.maxLocals = nL) (hown : s.vm.findClass own = some m.cls) (hts : ∀ w ∈ Ts, w.before args s = true) (hK : va_K (dC, dI) vwCl [(cI, .int), (cZ, .boolean)] s) (hP : va_P (dC, dI) vwCl (wC cI cZ ad sm fe ex dy gp gc op gr st dl wo n yc ya ys yd q zc zp zr zs zf z zm zt) H) (hg9 : GoodIn Ts (wsV own index RX3 yX3_setGrade wsX3_setGrade)) (hR9 : 6 + 1 ≤ R.frames ∧ 8 + (4 + 11) + 90 ≤ R.locals) (hc9 : cells + 1 ≤ R.cells ∧ slots + 6 ≤ R.slots) (hl9 : ls.size = nL) (hw9 : (rest.map fun v => v.category).sum ≤ 8) (hdg : decode cc pc = .ok (.invokevirtual index, 3)) (hT : tX (fun _ => False) s H) : vx_Run p l e R s m args below meth c H locs cells slots 1 6 (F0 m pc ls (.int x3 :: .int x2 :: .int (nI k) :: .ref (ad 0) :: rest)) rest (fun _ _ _ => False) (xT "java/lang/IllegalArgumentException") (fun _ => False) := vx_runV (As := [.int (nI k), .int x2, .int x3]) (rest := rest) ⟨hx, hb, hml, hown, hts⟩ (c_X3_setGrade_iae (dC := dC) (dI := dI) (cI := cI) (cZ := cZ) (ad := ad) (sm := sm) (fe := fe) (ex := ex) (dy := dy) (gp := gp) (gc := gc) (op := op) (gr := gr) (st := st) (dl := dl) (wo := wo) (n := n) (yc := yc) (ya := ya) (ys := ys) (yd := yd) (q := q) (zc := zc) (zp := zp) (zr := zr) (zs := zs) (zf := zf) (z := z) (zm := zm) (zt := zt) (k := k) (x2 := x2) (x3 := x3) l hfl h1 h2) (cwV 3 hts hg9 rfl rfl rfl (by decide +kernel) hR9) ⟨fun a U g mk q => ⟨q.1, q.2.1, va_K.moved (u := U) (U := U.calling g mk a) (Vm.Alike.refl U.vm) q.2.2.1, tX.same (u := U) (U := U.calling g mk a) rfl q.2.2.2⟩, rC_0 hK hP, fun U hU hW => ⟨rfl, by rw [hU]; exact hP, va_K.moved hW.alike hK, by rw [hU]; exact tX.warm hW hT⟩⟩ rfl rfl hl9 rfl (lv_room hw9) hdg hc9
end
set_option maxHeartbeats 4000000 in
set_option maxRecDepth 100000 in
theorem c_X3_pass_no (l : Launch) (hfl : l.stackTraces = false) {dC : Nat → ClassId} {dI : Nat → Nat → Nat} {cI cZ : ClassId} {ad : Nat → Nat} {sm fe ex dy : Int32} {gp gc op gr st dl wo : Nat → Int32} {n : Nat} {yc ya ys yd : Nat → Int32} {q : Nat} {zc zp zr zs zf : Nat → Int32} {z : Nat} {zm zt : Int64} {x : Int32} (h1 : ¬ outN x (nI 1) (nI 200) = 0) : vx_Met l yX3_pass wsX3_pass { frames := 6, cells := 1, slots := 6, locals := 90 } (va_Pc [.ref (ad 0), .int x] (fun U => va_P (dC, dI) vwCl (wC cI cZ ad sm fe ex dy gp gc op gr st dl wo n yc ya ys yd q zc zp zr zs zf z zm zt) U.heap ∧ va_K (dC, dI) vwCl [(cI, .int), (cZ, .boolean)] U ∧ tX (fun _ => False) U U.heap)) (fun _ _ _ _ => False) (xT "java/lang/IllegalArgumentException") 1 6 (fun _ => False) := by
  refine vx_ofW (cc := cX3_pass) (maxL := 2) (ret := (some .int)) (by decide) rfl ?_
  intro p e s m args below meth c s₁ B hml ht hv
  obtain ⟨rfl, hP, hK, hT⟩ := hv
  have hx := B.exec
  have hb := B.bytes
  have hr := B.returns
  have hts := atoms_spec (ws := wsX3_pass) B.pre
  have hown : s.vm.findClass RX3 = some m.cls := findClass_of_methodNamed B.named
  have hlocks := B.notSynchronized
  have hl := lv_entry ([.ref (ad 0), .int x]) (n := 2) (Nat.le_of_ble_eq_true rfl)
  rw [lg_entry_eq]
  generalize (lg_sl ([.ref (ad 0), .int x]) ++ List.replicate (2 - (lg_sl ([.ref (ad 0), .int x])).length) Slot.unset).toArray = ls at hl ⊢
  have hl : lv_has ls 2 [(0, .ref (ad 0)), (1, .int x)] := hl
  refine lv_iload_n hx hb dX3_pass_0 rfl (lv_at hl 1 rfl) ?_
  refine lv_iconst (v := nI 1) hx hb dX3_pass_1 (by decide) ?_
  refine lv_sipush (v := nI 200) hx hb dX3_pass_2 (by decide) ?_
  refine k_X3_isOutside l (x := x) (a := nI 1) (b := nI 200) hx hb hml hown hts  gX3_pass_X3_isOutside ⟨Nat.le_of_ble_eq_true rfl, Nat.le_of_ble_eq_true rfl⟩ ⟨Nat.le_of_ble_eq_true rfl, Nat.le_of_ble_eq_true rfl⟩ hl.1 (Nat.le_of_ble_eq_true rfl) dX3_pass_5 ?_
  refine zi_eq (tgt := 21) hx hb (outN_lt _ _ _) dX3_pass_8 (by decide) (fun c_8 => (show False by exact h1 c_8).elim) (fun c_8 => ?_)
  exact zx_IllegalArgumentException (is := 74) (text := "days is out of range") hx hb hfl hown hts hT (by decide +kernel) (by decide +kernel) (by decide +kernel) (by decide +kernel) (hl.1.trans hml.symm) dX3_pass_11 dX3_pass_14 dX3_pass_15 dX3_pass_17 dX3_pass_20 ht hlocks (Nat.le_of_ble_eq_true rfl) (Nat.le_of_ble_eq_true rfl) (Nat.le_of_ble_eq_true rfl) (Nat.le_of_ble_eq_true rfl)
section
variable {p : Program} {e : Env} {R : Room} {s : State} {m : MethodId} {args : Array Value} {below : List Frame} {meth : Method} {c : Code} {H : Heap} {locs : List Loc} {cells slots : Nat} {Q : State → Prop} {cc : ByteArray} {pc : Nat} {ls : Array Slot} {rest : List Value} {own : String} {index nL : Nat} {Ts : List Cond} {H0 : Heap} {A0 : Nat → Prop}
theorem kr_X3_pass_no (l : Launch) (hfl : l.stackTraces = false) {dC : Nat → ClassId} {dI : Nat → Nat → Nat} {cI cZ : ClassId} {ad : Nat → Nat} {sm fe ex dy : Int32} {gp gc op gr st dl wo : Nat → Int32} {n : Nat} {yc ya ys yd : Nat → Int32} {q : Nat} {zc zp zr zs zf : Nat → Int32} {z : Nat} {zm zt : Int64} {x : Int32} (h1 : ¬ outN x (nI 1) (nI 200) = 0) (hx : p.tables.exec = Jvm.exec) (hb : c.code = cc) (hml : c.maxLocals = nL) (hown : s.vm.findClass own = some m.cls) (hts : ∀ w ∈ Ts, w.before args s = true) (hK : va_K (dC, dI) vwCl [(cI, .int), (cZ, .boolean)] s) (hP : va_P (dC, dI) vwCl (wC cI cZ ad sm fe ex dy gp gc op gr st dl wo n yc ya ys yd q zc zp zr zs zf z zm zt) H) (hg9 : GoodIn Ts (wsV own index RX3 yX3_pass wsX3_pass)) (hR9 : 6 + 1 ≤ R.frames ∧ 8 + (2 + 11) + 90 ≤ R.locals) (hc9 : cells + 1 ≤ R.cells ∧ slots + 6 ≤ R.slots) (hl9 : ls.size = nL) (hw9 : (rest.map fun v => v.category).sum ≤ 8) (hdg : decode cc pc = .ok (.invokevirtual index, 3)) (hT : tX (fun _ => False) s H) : vx_Run p l e R s m args below meth c H locs cells slots 1 6 (F0 m pc ls (.int x :: .ref (ad 0) :: rest)) rest (fun _ _ _ => False) (xT "java/lang/IllegalArgumentException") (fun _ => False) := vx_runV (As := [.int x]) (rest := rest) ⟨hx, hb, hml, hown, hts⟩ (c_X3_pass_no (dC := dC) (dI := dI) (cI := cI) (cZ := cZ) (ad := ad) (sm := sm) (fe := fe) (ex := ex) (dy := dy) (gp := gp) (gc := gc) (op := op) (gr := gr) (st := st) (dl := dl) (wo := wo) (n := n) (yc := yc) (ya := ya) (ys := ys) (yd := yd) (q := q) (zc := zc) (zp := zp) (zr := zr) (zs := zs) (zf := zf) (z := z) (zm := zm) (zt := zt) (x := x) l hfl h1) (cwV 1 hts hg9 rfl rfl rfl (by decide +kernel) hR9) ⟨fun a U g mk q => ⟨q.1, q.2.1, va_K.moved (u := U) (U := U.calling g mk a) (Vm.Alike.refl U.vm) q.2.2.1, tX.same (u := U) (U := U.calling g mk a) rfl q.2.2.2⟩, rC_0 hK hP, fun U hU hW => ⟨rfl, by rw [hU]; exact hP, va_K.moved hW.alike hK, by rw [hU]; exact tX.warm hW hT⟩⟩ rfl rfl hl9 rfl (lv_room hw9) hdg hc9
end
set_option maxHeartbeats 4000000 in
set_option maxRecDepth 100000 in
theorem c_X3_claim_ioobe (l : Launch) (hfl : l.stackTraces = false) {dC : Nat → ClassId} {dI : Nat → Nat → Nat} {cI cZ : ClassId} {ad : Nat → Nat} {sm fe ex dy : Int32} {gp gc op gr st dl wo : Nat → Int32} {n : Nat} {yc ya ys yd : Nat → Int32} {q : Nat} {zc zp zr zs zf : Nat → Int32} {z : Nat} {zm zt : Int64} {x1 : Int32} {g : Int32} {b : Int32} {d : Int32} (h1 : ¬ (outN x1 (nI 0) (nI 29) = 0 ∧ outN g (nI 0) (nI 4) = 0)) : vx_Met l yX3_claim wsX3_claim { frames := 6, cells := 1, slots := 6, locals := 90 } (va_Pc [.ref (ad 0), .int x1, .int g, .int b, .int d] (fun U => va_P (dC, dI) vwCl (wC cI cZ ad sm fe ex dy gp gc op gr st dl wo n yc ya ys yd q zc zp zr zs zf z zm zt) U.heap ∧ va_K (dC, dI) vwCl [(cI, .int), (cZ, .boolean)] U ∧ tX (fun _ => False) U U.heap)) (fun _ _ _ _ => False) (xT "java/lang/IndexOutOfBoundsException") 1 6 (fun _ => False) := by
  refine vx_ofW (cc := cX3_claim) (maxL := 6) (ret := (some .int)) (by decide) rfl ?_
  intro p e s m args below meth c s₁ B hml ht hv
  obtain ⟨rfl, hP, hK, hT⟩ := hv
  have hx := B.exec
  have hb := B.bytes
  have hr := B.returns
  have hts := atoms_spec (ws := wsX3_claim) B.pre
  have hown : s.vm.findClass RX3 = some m.cls := findClass_of_methodNamed B.named
  have hlocks := B.notSynchronized
  have hl := lv_entry ([.ref (ad 0), .int x1, .int g, .int b, .int d]) (n := 6) (Nat.le_of_ble_eq_true rfl)
  rw [lg_entry_eq]
  generalize (lg_sl ([.ref (ad 0), .int x1, .int g, .int b, .int d]) ++ List.replicate (6 - (lg_sl ([.ref (ad 0), .int x1, .int g, .int b, .int d])).length) Slot.unset).toArray = ls at hl ⊢
  have hl : lv_has ls 6 [(0, .ref (ad 0)), (1, .int x1), (2, .int g), (3, .int b), (4, .int d)] := hl
  refine lv_iload_n hx hb dX3_claim_0 rfl (lv_at hl 1 rfl) ?_
  refine lv_iconst (v := nI 0) hx hb dX3_claim_1 (by decide) ?_
  refine lv_bipush (v := nI 29) hx hb dX3_claim_2 (by decide) ?_
  refine k_X3_isOutside l (x := x1) (a := nI 0) (b := nI 29) hx hb hml hown hts  gX3_claim_X3_isOutside ⟨Nat.le_of_ble_eq_true rfl, Nat.le_of_ble_eq_true rfl⟩ ⟨Nat.le_of_ble_eq_true rfl, Nat.le_of_ble_eq_true rfl⟩ hl.1 (Nat.le_of_ble_eq_true rfl) dX3_claim_4 ?_
  refine zi_ne (tgt := 19) hx hb (outN_lt _ _ _) dX3_claim_7 (by decide) (fun c_7 => ?_) (fun c_7 => ?_)
  · exact zx_IndexOutOfBoundsException (is := 86) (text := "there is no such person or grade") hx hb hfl hown hts hT (by decide +kernel) (by decide +kernel) (by decide +kernel) (by decide +kernel) (hl.1.trans hml.symm) dX3_claim_19 dX3_claim_22 dX3_claim_23 dX3_claim_25 dX3_claim_28 ht hlocks (Nat.le_of_ble_eq_true rfl) (Nat.le_of_ble_eq_true rfl) (Nat.le_of_ble_eq_true rfl) (Nat.le_of_ble_eq_true rfl)
  · refine lv_iload_n hx hb dX3_claim_10 rfl (lv_at hl 2 rfl) ?_
    refine lv_iconst (v := nI 0) hx hb dX3_claim_11 (by decide) ?_
    refine lv_iconst (v := nI 4) hx hb dX3_claim_12 (by decide) ?_
    refine k_X3_isOutside l (x := g) (a := nI 0) (b := nI 4) hx hb hml hown hts  gX3_claim_X3_isOutside ⟨Nat.le_of_ble_eq_true rfl, Nat.le_of_ble_eq_true rfl⟩ ⟨Nat.le_of_ble_eq_true rfl, Nat.le_of_ble_eq_true rfl⟩ hl.1 (Nat.le_of_ble_eq_true rfl) dX3_claim_13 ?_
    refine zi_eq (tgt := 29) hx hb (outN_lt _ _ _) dX3_claim_16 (by decide) (fun c_16 => (show False by exact h1 ⟨c_7, c_16⟩).elim) (fun c_16 => ?_)
    exact zx_IndexOutOfBoundsException (is := 86) (text := "there is no such person or grade") hx hb hfl hown hts hT (by decide +kernel) (by decide +kernel) (by decide +kernel) (by decide +kernel) (hl.1.trans hml.symm) dX3_claim_19 dX3_claim_22 dX3_claim_23 dX3_claim_25 dX3_claim_28 ht hlocks (Nat.le_of_ble_eq_true rfl) (Nat.le_of_ble_eq_true rfl) (Nat.le_of_ble_eq_true rfl) (Nat.le_of_ble_eq_true rfl)
section
variable {p : Program} {e : Env} {R : Room} {s : State} {m : MethodId} {args : Array Value} {below : List Frame} {meth : Method} {c : Code} {H : Heap} {locs : List Loc} {cells slots : Nat} {Q : State → Prop} {cc : ByteArray} {pc : Nat} {ls : Array Slot} {rest : List Value} {own : String} {index nL : Nat} {Ts : List Cond} {H0 : Heap} {A0 : Nat → Prop}
theorem kr_X3_claim_ioobe (l : Launch) (hfl : l.stackTraces = false) {dC : Nat → ClassId} {dI : Nat → Nat → Nat} {cI cZ : ClassId} {ad : Nat → Nat} {sm fe ex dy : Int32} {gp gc op gr st dl wo : Nat → Int32} {n : Nat} {yc ya ys yd : Nat → Int32} {q : Nat} {zc zp zr zs zf : Nat → Int32} {z : Nat} {zm zt : Int64} {x1 : Int32} {g : Int32} {b : Int32} {d : Int32} (h1 : ¬ (outN x1 (nI 0) (nI 29) = 0 ∧ outN g (nI 0) (nI 4) = 0)) (hx : p.tables.exec = Jvm.exec) (hb : c.code = cc) (hml : c.maxLocals = nL) (hown : s.vm.findClass own = some m.cls) (hts : ∀ w ∈ Ts, w.before args s = true) (hK : va_K (dC, dI) vwCl [(cI, .int), (cZ, .boolean)] s) (hP : va_P (dC, dI) vwCl (wC cI cZ ad sm fe ex dy gp gc op gr st dl wo n yc ya ys yd q zc zp zr zs zf z zm zt) H) (hg9 : GoodIn Ts (wsV own index RX3 yX3_claim wsX3_claim)) (hR9 : 6 + 1 ≤ R.frames ∧ 8 + (6 + 11) + 90 ≤ R.locals) (hc9 : cells + 1 ≤ R.cells ∧ slots + 6 ≤ R.slots) (hl9 : ls.size = nL) (hw9 : (rest.map fun v => v.category).sum ≤ 8) (hdg : decode cc pc = .ok (.invokevirtual index, 3)) (hT : tX (fun _ => False) s H) : vx_Run p l e R s m args below meth c H locs cells slots 1 6 (F0 m pc ls (.int d :: .int b :: .int g :: .int x1 :: .ref (ad 0) :: rest)) rest (fun _ _ _ => False) (xT "java/lang/IndexOutOfBoundsException") (fun _ => False) := vx_runV (As := [.int x1, .int g, .int b, .int d]) (rest := rest) ⟨hx, hb, hml, hown, hts⟩ (c_X3_claim_ioobe (dC := dC) (dI := dI) (cI := cI) (cZ := cZ) (ad := ad) (sm := sm) (fe := fe) (ex := ex) (dy := dy) (gp := gp) (gc := gc) (op := op) (gr := gr) (st := st) (dl := dl) (wo := wo) (n := n) (yc := yc) (ya := ya) (ys := ys) (yd := yd) (q := q) (zc := zc) (zp := zp) (zr := zr) (zs := zs) (zf := zf) (z := z) (zm := zm) (zt := zt) (x1 := x1) (g := g) (b := b) (d := d) l hfl h1) (cwV 4 hts hg9 rfl rfl rfl (by decide +kernel) hR9) ⟨fun a U g mk q => ⟨q.1, q.2.1, va_K.moved (u := U) (U := U.calling g mk a) (Vm.Alike.refl U.vm) q.2.2.1, tX.same (u := U) (U := U.calling g mk a) rfl q.2.2.2⟩, rC_0 hK hP, fun U hU hW => ⟨rfl, by rw [hU]; exact hP, va_K.moved hW.alike hK, by rw [hU]; exact tX.warm hW hT⟩⟩ rfl rfl hl9 rfl (lv_room hw9) hdg hc9
end
set_option maxHeartbeats 4000000 in
set_option maxRecDepth 100000 in
theorem c_X3_claim_iae (l : Launch) (hfl : l.stackTraces = false) {dC : Nat → ClassId} {dI : Nat → Nat → Nat} {cI cZ : ClassId} {ad : Nat → Nat} {sm fe ex dy : Int32} {gp gc op gr st dl wo : Nat → Int32} {n : Nat} {yc ya ys yd : Nat → Int32} {q : Nat} {zc zp zr zs zf : Nat → Int32} {z : Nat} {zm zt : Int64} {x1 : Int32} {g : Int32} {b : Int32} {d : Int32} (h1 : outN x1 (nI 0) (nI 29) = 0) (h2 : outN g (nI 0) (nI 4) = 0) (h3 : ¬ outN d (nI 0) (nI 100) = 0) : vx_Met l yX3_claim wsX3_claim { frames := 6, cells := 1, slots := 6, locals := 90 } (va_Pc [.ref (ad 0), .int x1, .int g, .int b, .int d] (fun U => va_P (dC, dI) vwCl (wC cI cZ ad sm fe ex dy gp gc op gr st dl wo n yc ya ys yd q zc zp zr zs zf z zm zt) U.heap ∧ va_K (dC, dI) vwCl [(cI, .int), (cZ, .boolean)] U ∧ tX (fun _ => False) U U.heap)) (fun _ _ _ _ => False) (xT "java/lang/IllegalArgumentException") 1 6 (fun _ => False) := by
  refine vx_ofW (cc := cX3_claim) (maxL := 6) (ret := (some .int)) (by decide) rfl ?_
  intro p e s m args below meth c s₁ B hml ht hv
  obtain ⟨rfl, hP, hK, hT⟩ := hv
  have hx := B.exec
  have hb := B.bytes
  have hr := B.returns
  have hts := atoms_spec (ws := wsX3_claim) B.pre
  have hown : s.vm.findClass RX3 = some m.cls := findClass_of_methodNamed B.named
  have hlocks := B.notSynchronized
  have hl := lv_entry ([.ref (ad 0), .int x1, .int g, .int b, .int d]) (n := 6) (Nat.le_of_ble_eq_true rfl)
  rw [lg_entry_eq]
  generalize (lg_sl ([.ref (ad 0), .int x1, .int g, .int b, .int d]) ++ List.replicate (6 - (lg_sl ([.ref (ad 0), .int x1, .int g, .int b, .int d])).length) Slot.unset).toArray = ls at hl ⊢
  have hl : lv_has ls 6 [(0, .ref (ad 0)), (1, .int x1), (2, .int g), (3, .int b), (4, .int d)] := hl
  refine lv_iload_n hx hb dX3_claim_0 rfl (lv_at hl 1 rfl) ?_
  refine lv_iconst (v := nI 0) hx hb dX3_claim_1 (by decide) ?_
  refine lv_bipush (v := nI 29) hx hb dX3_claim_2 (by decide) ?_
  refine k_X3_isOutside l (x := x1) (a := nI 0) (b := nI 29) hx hb hml hown hts  gX3_claim_X3_isOutside ⟨Nat.le_of_ble_eq_true rfl, Nat.le_of_ble_eq_true rfl⟩ ⟨Nat.le_of_ble_eq_true rfl, Nat.le_of_ble_eq_true rfl⟩ hl.1 (Nat.le_of_ble_eq_true rfl) dX3_claim_4 ?_
  refine zi_ne (tgt := 19) hx hb (outN_lt _ _ _) dX3_claim_7 (by decide) (fun c_7 => (show False by exact c_7 h1).elim) (fun c_7 => ?_)
  refine lv_iload_n hx hb dX3_claim_10 rfl (lv_at hl 2 rfl) ?_
  refine lv_iconst (v := nI 0) hx hb dX3_claim_11 (by decide) ?_
  refine lv_iconst (v := nI 4) hx hb dX3_claim_12 (by decide) ?_
  refine k_X3_isOutside l (x := g) (a := nI 0) (b := nI 4) hx hb hml hown hts  gX3_claim_X3_isOutside ⟨Nat.le_of_ble_eq_true rfl, Nat.le_of_ble_eq_true rfl⟩ ⟨Nat.le_of_ble_eq_true rfl, Nat.le_of_ble_eq_true rfl⟩ hl.1 (Nat.le_of_ble_eq_true rfl) dX3_claim_13 ?_
  refine zi_eq (tgt := 29) hx hb (outN_lt _ _ _) dX3_claim_16 (by decide) (fun c_16 => ?_) (fun c_16 => (show False by exact c_16 h2).elim)
  refine lv_iload hx hb dX3_claim_29 (lv_at hl 4 rfl) ?_
  refine lv_iconst (v := nI 0) hx hb dX3_claim_31 (by decide) ?_
  refine lv_bipush (v := nI 100) hx hb dX3_claim_32 (by decide) ?_
  refine k_X3_isOutside l (x := d) (a := nI 0) (b := nI 100) hx hb hml hown hts  gX3_claim_X3_isOutside ⟨Nat.le_of_ble_eq_true rfl, Nat.le_of_ble_eq_true rfl⟩ ⟨Nat.le_of_ble_eq_true rfl, Nat.le_of_ble_eq_true rfl⟩ hl.1 (Nat.le_of_ble_eq_true rfl) dX3_claim_34 ?_
  refine zi_eq (tgt := 50) hx hb (outN_lt _ _ _) dX3_claim_37 (by decide) (fun c_37 => (show False by exact h3 c_37).elim) (fun c_37 => ?_)
  exact zx_IllegalArgumentException (is := 74) (text := "days is out of range") hx hb hfl hown hts hT (by decide +kernel) (by decide +kernel) (by decide +kernel) (by decide +kernel) (hl.1.trans hml.symm) dX3_claim_40 dX3_claim_43 dX3_claim_44 dX3_claim_46 dX3_claim_49 ht hlocks (Nat.le_of_ble_eq_true rfl) (Nat.le_of_ble_eq_true rfl) (Nat.le_of_ble_eq_true rfl) (Nat.le_of_ble_eq_true rfl)
section
variable {p : Program} {e : Env} {R : Room} {s : State} {m : MethodId} {args : Array Value} {below : List Frame} {meth : Method} {c : Code} {H : Heap} {locs : List Loc} {cells slots : Nat} {Q : State → Prop} {cc : ByteArray} {pc : Nat} {ls : Array Slot} {rest : List Value} {own : String} {index nL : Nat} {Ts : List Cond} {H0 : Heap} {A0 : Nat → Prop}
theorem kr_X3_claim_iae (l : Launch) (hfl : l.stackTraces = false) {dC : Nat → ClassId} {dI : Nat → Nat → Nat} {cI cZ : ClassId} {ad : Nat → Nat} {sm fe ex dy : Int32} {gp gc op gr st dl wo : Nat → Int32} {n : Nat} {yc ya ys yd : Nat → Int32} {q : Nat} {zc zp zr zs zf : Nat → Int32} {z : Nat} {zm zt : Int64} {x1 : Int32} {g : Int32} {b : Int32} {d : Int32} (h1 : outN x1 (nI 0) (nI 29) = 0) (h2 : outN g (nI 0) (nI 4) = 0) (h3 : ¬ outN d (nI 0) (nI 100) = 0) (hx : p.tables.exec = Jvm.exec) (hb : c.code = cc) (hml : c.maxLocals = nL) (hown : s.vm.findClass own = some m.cls) (hts : ∀ w ∈ Ts, w.before args s = true) (hK : va_K (dC, dI) vwCl [(cI, .int), (cZ, .boolean)] s) (hP : va_P (dC, dI) vwCl (wC cI cZ ad sm fe ex dy gp gc op gr st dl wo n yc ya ys yd q zc zp zr zs zf z zm zt) H) (hg9 : GoodIn Ts (wsV own index RX3 yX3_claim wsX3_claim)) (hR9 : 6 + 1 ≤ R.frames ∧ 8 + (6 + 11) + 90 ≤ R.locals) (hc9 : cells + 1 ≤ R.cells ∧ slots + 6 ≤ R.slots) (hl9 : ls.size = nL) (hw9 : (rest.map fun v => v.category).sum ≤ 8) (hdg : decode cc pc = .ok (.invokevirtual index, 3)) (hT : tX (fun _ => False) s H) : vx_Run p l e R s m args below meth c H locs cells slots 1 6 (F0 m pc ls (.int d :: .int b :: .int g :: .int x1 :: .ref (ad 0) :: rest)) rest (fun _ _ _ => False) (xT "java/lang/IllegalArgumentException") (fun _ => False) := vx_runV (As := [.int x1, .int g, .int b, .int d]) (rest := rest) ⟨hx, hb, hml, hown, hts⟩ (c_X3_claim_iae (dC := dC) (dI := dI) (cI := cI) (cZ := cZ) (ad := ad) (sm := sm) (fe := fe) (ex := ex) (dy := dy) (gp := gp) (gc := gc) (op := op) (gr := gr) (st := st) (dl := dl) (wo := wo) (n := n) (yc := yc) (ya := ya) (ys := ys) (yd := yd) (q := q) (zc := zc) (zp := zp) (zr := zr) (zs := zs) (zf := zf) (z := z) (zm := zm) (zt := zt) (x1 := x1) (g := g) (b := b) (d := d) l hfl h1 h2 h3) (cwV 4 hts hg9 rfl rfl rfl (by decide +kernel) hR9) ⟨fun a U g mk q => ⟨q.1, q.2.1, va_K.moved (u := U) (U := U.calling g mk a) (Vm.Alike.refl U.vm) q.2.2.1, tX.same (u := U) (U := U.calling g mk a) rfl q.2.2.2⟩, rC_0 hK hP, fun U hU hW => ⟨rfl, by rw [hU]; exact hP, va_K.moved hW.alike hK, by rw [hU]; exact tX.warm hW hT⟩⟩ rfl rfl hl9 rfl (lv_room hw9) hdg hc9
end
set_option maxHeartbeats 4000000 in
set_option maxRecDepth 100000 in
theorem c_X3_shareFor_no (l : Launch) (hfl : l.stackTraces = false) {dC : Nat → ClassId} {dI : Nat → Nat → Nat} {cI cZ : ClassId} {ad : Nat → Nat} {sm fe ex dy : Int32} {gp gc op gr st dl wo : Nat → Int32} {n : Nat} {yc ya ys yd : Nat → Int32} {q : Nat} {zc zp zr zs zf : Nat → Int32} {z : Nat} {zm zt : Int64} {x : Int32} {le : Int32} {b : Int32} (hn : n ≤ 24) (hk : ¬ vp_in x n) : vx_Met l yX3_shareFor wsX3_shareFor { frames := 7, cells := 1, slots := 6, locals := 111 } (va_Pc [.ref (ad 0), .int x, .int le, .int b] (fun U => va_P (dC, dI) vwCl (wC cI cZ ad sm fe ex dy gp gc op gr st dl wo n yc ya ys yd q zc zp zr zs zf z zm zt) U.heap ∧ va_K (dC, dI) vwCl [(cI, .int), (cZ, .boolean)] U ∧ tX (fun _ => False) U U.heap)) (fun _ _ _ _ => False) (xT "java/lang/IndexOutOfBoundsException") 1 6 (fun _ => False) := by
  refine vx_ofW (cc := cX3_shareFor) (maxL := 4) (ret := (some .int)) (by decide) rfl ?_
  intro p e s m args below meth c s₁ B hml ht hv
  obtain ⟨rfl, hP, hK, hT⟩ := hv
  have hx := B.exec
  have hb := B.bytes
  have hr := B.returns
  have hts := atoms_spec (ws := wsX3_shareFor) B.pre
  have hown : s.vm.findClass RX3 = some m.cls := findClass_of_methodNamed B.named
  have hlocks := B.notSynchronized
  have hl := lv_entry ([.ref (ad 0), .int x, .int le, .int b]) (n := 4) (Nat.le_of_ble_eq_true rfl)
  rw [lg_entry_eq]
  generalize (lg_sl ([.ref (ad 0), .int x, .int le, .int b]) ++ List.replicate (4 - (lg_sl ([.ref (ad 0), .int x, .int le, .int b])).length) Slot.unset).toArray = ls at hl ⊢
  have hl : lv_has ls 4 [(0, .ref (ad 0)), (1, .int x), (2, .int le), (3, .int b)] := hl
  refine lv_aload_n hx hb dX3_shareFor_0 rfl (lv_at hl 0 rfl) ?_
  refine lv_iload_n hx hb dX3_shareFor_1 rfl (lv_at hl 1 rfl) ?_
  exact zx_on (kr_X3_mustBeClaim_no l hfl (x := x) (hn := hn) (hk := hk) hx hb hml hown hts hK hP gX3_shareFor_X3_mustBeClaim ⟨Nat.le_of_ble_eq_true rfl, Nat.le_of_ble_eq_true rfl⟩ ⟨Nat.le_of_ble_eq_true rfl, Nat.le_of_ble_eq_true rfl⟩ hl.1 (Nat.le_of_ble_eq_true rfl) dX3_shareFor_2 hT) ht hlocks
section
variable {p : Program} {e : Env} {R : Room} {s : State} {m : MethodId} {args : Array Value} {below : List Frame} {meth : Method} {c : Code} {H : Heap} {locs : List Loc} {cells slots : Nat} {Q : State → Prop} {cc : ByteArray} {pc : Nat} {ls : Array Slot} {rest : List Value} {own : String} {index nL : Nat} {Ts : List Cond} {H0 : Heap} {A0 : Nat → Prop}
theorem kr_X3_shareFor_no (l : Launch) (hfl : l.stackTraces = false) {dC : Nat → ClassId} {dI : Nat → Nat → Nat} {cI cZ : ClassId} {ad : Nat → Nat} {sm fe ex dy : Int32} {gp gc op gr st dl wo : Nat → Int32} {n : Nat} {yc ya ys yd : Nat → Int32} {q : Nat} {zc zp zr zs zf : Nat → Int32} {z : Nat} {zm zt : Int64} {x : Int32} {le : Int32} {b : Int32} (hn : n ≤ 24) (hk : ¬ vp_in x n) (hx : p.tables.exec = Jvm.exec) (hb : c.code = cc) (hml : c.maxLocals = nL) (hown : s.vm.findClass own = some m.cls) (hts : ∀ w ∈ Ts, w.before args s = true) (hK : va_K (dC, dI) vwCl [(cI, .int), (cZ, .boolean)] s) (hP : va_P (dC, dI) vwCl (wC cI cZ ad sm fe ex dy gp gc op gr st dl wo n yc ya ys yd q zc zp zr zs zf z zm zt) H) (hg9 : GoodIn Ts (wsV own index RX3 yX3_shareFor wsX3_shareFor)) (hR9 : 7 + 1 ≤ R.frames ∧ 8 + (4 + 11) + 111 ≤ R.locals) (hc9 : cells + 1 ≤ R.cells ∧ slots + 6 ≤ R.slots) (hl9 : ls.size = nL) (hw9 : (rest.map fun v => v.category).sum ≤ 8) (hdg : decode cc pc = .ok (.invokevirtual index, 3)) (hT : tX (fun _ => False) s H) : vx_Run p l e R s m args below meth c H locs cells slots 1 6 (F0 m pc ls (.int b :: .int le :: .int x :: .ref (ad 0) :: rest)) rest (fun _ _ _ => False) (xT "java/lang/IndexOutOfBoundsException") (fun _ => False) := vx_runV (As := [.int x, .int le, .int b]) (rest := rest) ⟨hx, hb, hml, hown, hts⟩ (c_X3_shareFor_no (dC := dC) (dI := dI) (cI := cI) (cZ := cZ) (ad := ad) (sm := sm) (fe := fe) (ex := ex) (dy := dy) (gp := gp) (gc := gc) (op := op) (gr := gr) (st := st) (dl := dl) (wo := wo) (n := n) (yc := yc) (ya := ya) (ys := ys) (yd := yd) (q := q) (zc := zc) (zp := zp) (zr := zr) (zs := zs) (zf := zf) (z := z) (zm := zm) (zt := zt) (x := x) (le := le) (b := b) l hfl hn hk) (cwV 3 hts hg9 rfl rfl rfl (by decide +kernel) hR9) ⟨fun a U g mk q => ⟨q.1, q.2.1, va_K.moved (u := U) (U := U.calling g mk a) (Vm.Alike.refl U.vm) q.2.2.1, tX.same (u := U) (U := U.calling g mk a) rfl q.2.2.2⟩, rC_0 hK hP, fun U hU hW => ⟨rfl, by rw [hU]; exact hP, va_K.moved hW.alike hK, by rw [hU]; exact tX.warm hW hT⟩⟩ rfl rfl hl9 rfl (lv_room hw9) hdg hc9
end
set_option maxHeartbeats 4000000 in
set_option maxRecDepth 100000 in
theorem c_X3_shareOf_no (l : Launch) (hfl : l.stackTraces = false) {dC : Nat → ClassId} {dI : Nat → Nat → Nat} {cI cZ : ClassId} {ad : Nat → Nat} {sm fe ex dy : Int32} {gp gc op gr st dl wo : Nat → Int32} {n : Nat} {yc ya ys yd : Nat → Int32} {q : Nat} {zc zp zr zs zf : Nat → Int32} {z : Nat} {zm zt : Int64} {x : Int32} {le : Int32} (hn : n ≤ 24) (hk : ¬ vp_in x n) : vx_Met l yX3_shareOf wsX3_shareOf { frames := 8, cells := 1, slots := 6, locals := 134 } (va_Pc [.ref (ad 0), .int x, .int le] (fun U => va_P (dC, dI) vwCl (wC cI cZ ad sm fe ex dy gp gc op gr st dl wo n yc ya ys yd q zc zp zr zs zf z zm zt) U.heap ∧ va_K (dC, dI) vwCl [(cI, .int), (cZ, .boolean)] U ∧ tX (fun _ => False) U U.heap)) (fun _ _ _ _ => False) (xT "java/lang/IndexOutOfBoundsException") 1 6 (fun _ => False) := by
  refine vx_ofW (cc := cX3_shareOf) (maxL := 3) (ret := (some .int)) (by decide) rfl ?_
  intro p e s m args below meth c s₁ B hml ht hv
  obtain ⟨rfl, hP, hK, hT⟩ := hv
  have hx := B.exec
  have hb := B.bytes
  have hr := B.returns
  have hts := atoms_spec (ws := wsX3_shareOf) B.pre
  have hown : s.vm.findClass RX3 = some m.cls := findClass_of_methodNamed B.named
  have hlocks := B.notSynchronized
  have hl := lv_entry ([.ref (ad 0), .int x, .int le]) (n := 3) (Nat.le_of_ble_eq_true rfl)
  rw [lg_entry_eq]
  generalize (lg_sl ([.ref (ad 0), .int x, .int le]) ++ List.replicate (3 - (lg_sl ([.ref (ad 0), .int x, .int le])).length) Slot.unset).toArray = ls at hl ⊢
  have hl : lv_has ls 3 [(0, .ref (ad 0)), (1, .int x), (2, .int le)] := hl
  refine lv_aload_n hx hb dX3_shareOf_0 rfl (lv_at hl 0 rfl) ?_
  refine lv_iload_n hx hb dX3_shareOf_1 rfl (lv_at hl 1 rfl) ?_
  refine lv_iload_n hx hb dX3_shareOf_2 rfl (lv_at hl 2 rfl) ?_
  refine lv_iconst (v := nI 0) hx hb dX3_shareOf_3 (by decide) ?_
  exact zx_on (kr_X3_shareFor_no l hfl (x := x) (le := le) (b := nI 0) (hn := hn) (hk := hk) hx hb hml hown hts hK hP gX3_shareOf_X3_shareFor ⟨Nat.le_of_ble_eq_true rfl, Nat.le_of_ble_eq_true rfl⟩ ⟨Nat.le_of_ble_eq_true rfl, Nat.le_of_ble_eq_true rfl⟩ hl.1 (Nat.le_of_ble_eq_true rfl) dX3_shareOf_4 hT) ht hlocks
section
variable {p : Program} {e : Env} {R : Room} {s : State} {m : MethodId} {args : Array Value} {below : List Frame} {meth : Method} {c : Code} {H : Heap} {locs : List Loc} {cells slots : Nat} {Q : State → Prop} {cc : ByteArray} {pc : Nat} {ls : Array Slot} {rest : List Value} {own : String} {index nL : Nat} {Ts : List Cond} {H0 : Heap} {A0 : Nat → Prop}
theorem kr_X3_shareOf_no (l : Launch) (hfl : l.stackTraces = false) {dC : Nat → ClassId} {dI : Nat → Nat → Nat} {cI cZ : ClassId} {ad : Nat → Nat} {sm fe ex dy : Int32} {gp gc op gr st dl wo : Nat → Int32} {n : Nat} {yc ya ys yd : Nat → Int32} {q : Nat} {zc zp zr zs zf : Nat → Int32} {z : Nat} {zm zt : Int64} {x : Int32} {le : Int32} (hn : n ≤ 24) (hk : ¬ vp_in x n) (hx : p.tables.exec = Jvm.exec) (hb : c.code = cc) (hml : c.maxLocals = nL) (hown : s.vm.findClass own = some m.cls) (hts : ∀ w ∈ Ts, w.before args s = true) (hK : va_K (dC, dI) vwCl [(cI, .int), (cZ, .boolean)] s) (hP : va_P (dC, dI) vwCl (wC cI cZ ad sm fe ex dy gp gc op gr st dl wo n yc ya ys yd q zc zp zr zs zf z zm zt) H) (hg9 : GoodIn Ts (wsV own index RX3 yX3_shareOf wsX3_shareOf)) (hR9 : 8 + 1 ≤ R.frames ∧ 8 + (3 + 11) + 134 ≤ R.locals) (hc9 : cells + 1 ≤ R.cells ∧ slots + 6 ≤ R.slots) (hl9 : ls.size = nL) (hw9 : (rest.map fun v => v.category).sum ≤ 8) (hdg : decode cc pc = .ok (.invokevirtual index, 3)) (hT : tX (fun _ => False) s H) : vx_Run p l e R s m args below meth c H locs cells slots 1 6 (F0 m pc ls (.int le :: .int x :: .ref (ad 0) :: rest)) rest (fun _ _ _ => False) (xT "java/lang/IndexOutOfBoundsException") (fun _ => False) := vx_runV (As := [.int x, .int le]) (rest := rest) ⟨hx, hb, hml, hown, hts⟩ (c_X3_shareOf_no (dC := dC) (dI := dI) (cI := cI) (cZ := cZ) (ad := ad) (sm := sm) (fe := fe) (ex := ex) (dy := dy) (gp := gp) (gc := gc) (op := op) (gr := gr) (st := st) (dl := dl) (wo := wo) (n := n) (yc := yc) (ya := ya) (ys := ys) (yd := yd) (q := q) (zc := zc) (zp := zp) (zr := zr) (zs := zs) (zf := zf) (z := z) (zm := zm) (zt := zt) (x := x) (le := le) l hfl hn hk) (cwV 2 hts hg9 rfl rfl rfl (by decide +kernel) hR9) ⟨fun a U g mk q => ⟨q.1, q.2.1, va_K.moved (u := U) (U := U.calling g mk a) (Vm.Alike.refl U.vm) q.2.2.1, tX.same (u := U) (U := U.calling g mk a) rfl q.2.2.2⟩, rC_0 hK hP, fun U hU hW => ⟨rfl, by rw [hU]; exact hP, va_K.moved hW.alike hK, by rw [hU]; exact tX.warm hW hT⟩⟩ rfl rfl hl9 rfl (lv_room hw9) hdg hc9
end
set_option maxHeartbeats 4000000 in
set_option maxRecDepth 100000 in
theorem c_X3_shareBySorting_no (l : Launch) (hfl : l.stackTraces = false) {dC : Nat → ClassId} {dI : Nat → Nat → Nat} {cI cZ : ClassId} {ad : Nat → Nat} {sm fe ex dy : Int32} {gp gc op gr st dl wo : Nat → Int32} {n : Nat} {yc ya ys yd : Nat → Int32} {q : Nat} {zc zp zr zs zf : Nat → Int32} {z : Nat} {zm zt : Int64} {x : Int32} {le : Int32} (hn : n ≤ 24) (hk : ¬ vp_in x n) : vx_Met l yX3_shareBySorting wsX3_shareBySorting { frames := 8, cells := 1, slots := 6, locals := 134 } (va_Pc [.ref (ad 0), .int x, .int le] (fun U => va_P (dC, dI) vwCl (wC cI cZ ad sm fe ex dy gp gc op gr st dl wo n yc ya ys yd q zc zp zr zs zf z zm zt) U.heap ∧ va_K (dC, dI) vwCl [(cI, .int), (cZ, .boolean)] U ∧ tX (fun _ => False) U U.heap)) (fun _ _ _ _ => False) (xT "java/lang/IndexOutOfBoundsException") 1 6 (fun _ => False) := by
  refine vx_ofW (cc := cX3_shareBySorting) (maxL := 3) (ret := (some .int)) (by decide) rfl ?_
  intro p e s m args below meth c s₁ B hml ht hv
  obtain ⟨rfl, hP, hK, hT⟩ := hv
  have hx := B.exec
  have hb := B.bytes
  have hr := B.returns
  have hts := atoms_spec (ws := wsX3_shareBySorting) B.pre
  have hown : s.vm.findClass RX3 = some m.cls := findClass_of_methodNamed B.named
  have hlocks := B.notSynchronized
  have hl := lv_entry ([.ref (ad 0), .int x, .int le]) (n := 3) (Nat.le_of_ble_eq_true rfl)
  rw [lg_entry_eq]
  generalize (lg_sl ([.ref (ad 0), .int x, .int le]) ++ List.replicate (3 - (lg_sl ([.ref (ad 0), .int x, .int le])).length) Slot.unset).toArray = ls at hl ⊢
  have hl : lv_has ls 3 [(0, .ref (ad 0)), (1, .int x), (2, .int le)] := hl
  refine lv_aload_n hx hb dX3_shareBySorting_0 rfl (lv_at hl 0 rfl) ?_
  refine lv_iload_n hx hb dX3_shareBySorting_1 rfl (lv_at hl 1 rfl) ?_
  refine lv_iload_n hx hb dX3_shareBySorting_2 rfl (lv_at hl 2 rfl) ?_
  refine lv_iconst (v := nI 1) hx hb dX3_shareBySorting_3 (by decide) ?_
  exact zx_on (kr_X3_shareFor_no l hfl (x := x) (le := le) (b := nI 1) (hn := hn) (hk := hk) hx hb hml hown hts hK hP gX3_shareBySorting_X3_shareFor ⟨Nat.le_of_ble_eq_true rfl, Nat.le_of_ble_eq_true rfl⟩ ⟨Nat.le_of_ble_eq_true rfl, Nat.le_of_ble_eq_true rfl⟩ hl.1 (Nat.le_of_ble_eq_true rfl) dX3_shareBySorting_4 hT) ht hlocks
section
variable {p : Program} {e : Env} {R : Room} {s : State} {m : MethodId} {args : Array Value} {below : List Frame} {meth : Method} {c : Code} {H : Heap} {locs : List Loc} {cells slots : Nat} {Q : State → Prop} {cc : ByteArray} {pc : Nat} {ls : Array Slot} {rest : List Value} {own : String} {index nL : Nat} {Ts : List Cond} {H0 : Heap} {A0 : Nat → Prop}
theorem kr_X3_shareBySorting_no (l : Launch) (hfl : l.stackTraces = false) {dC : Nat → ClassId} {dI : Nat → Nat → Nat} {cI cZ : ClassId} {ad : Nat → Nat} {sm fe ex dy : Int32} {gp gc op gr st dl wo : Nat → Int32} {n : Nat} {yc ya ys yd : Nat → Int32} {q : Nat} {zc zp zr zs zf : Nat → Int32} {z : Nat} {zm zt : Int64} {x : Int32} {le : Int32} (hn : n ≤ 24) (hk : ¬ vp_in x n) (hx : p.tables.exec = Jvm.exec) (hb : c.code = cc) (hml : c.maxLocals = nL) (hown : s.vm.findClass own = some m.cls) (hts : ∀ w ∈ Ts, w.before args s = true) (hK : va_K (dC, dI) vwCl [(cI, .int), (cZ, .boolean)] s) (hP : va_P (dC, dI) vwCl (wC cI cZ ad sm fe ex dy gp gc op gr st dl wo n yc ya ys yd q zc zp zr zs zf z zm zt) H) (hg9 : GoodIn Ts (wsV own index RX3 yX3_shareBySorting wsX3_shareBySorting)) (hR9 : 8 + 1 ≤ R.frames ∧ 8 + (3 + 11) + 134 ≤ R.locals) (hc9 : cells + 1 ≤ R.cells ∧ slots + 6 ≤ R.slots) (hl9 : ls.size = nL) (hw9 : (rest.map fun v => v.category).sum ≤ 8) (hdg : decode cc pc = .ok (.invokevirtual index, 3)) (hT : tX (fun _ => False) s H) : vx_Run p l e R s m args below meth c H locs cells slots 1 6 (F0 m pc ls (.int le :: .int x :: .ref (ad 0) :: rest)) rest (fun _ _ _ => False) (xT "java/lang/IndexOutOfBoundsException") (fun _ => False) := vx_runV (As := [.int x, .int le]) (rest := rest) ⟨hx, hb, hml, hown, hts⟩ (c_X3_shareBySorting_no (dC := dC) (dI := dI) (cI := cI) (cZ := cZ) (ad := ad) (sm := sm) (fe := fe) (ex := ex) (dy := dy) (gp := gp) (gc := gc) (op := op) (gr := gr) (st := st) (dl := dl) (wo := wo) (n := n) (yc := yc) (ya := ya) (ys := ys) (yd := yd) (q := q) (zc := zc) (zp := zp) (zr := zr) (zs := zs) (zf := zf) (z := z) (zm := zm) (zt := zt) (x := x) (le := le) l hfl hn hk) (cwV 2 hts hg9 rfl rfl rfl (by decide +kernel) hR9) ⟨fun a U g mk q => ⟨q.1, q.2.1, va_K.moved (u := U) (U := U.calling g mk a) (Vm.Alike.refl U.vm) q.2.2.1, tX.same (u := U) (U := U.calling g mk a) rfl q.2.2.2⟩, rC_0 hK hP, fun U hU hW => ⟨rfl, by rw [hU]; exact hP, va_K.moved hW.alike hK, by rw [hU]; exact tX.warm hW hT⟩⟩ rfl rfl hl9 rfl (lv_room hw9) hdg hc9
end
set_option maxHeartbeats 4000000 in
set_option maxRecDepth 100000 in
theorem c_X3_round_iae (l : Launch) (hfl : l.stackTraces = false) {dC : Nat → ClassId} {dI : Nat → Nat → Nat} {cI cZ : ClassId} {ad : Nat → Nat} {sm fe ex dy : Int32} {gp gc op gr st dl wo : Nat → Int32} {n : Nat} {yc ya ys yd : Nat → Int32} {q : Nat} {zc zp zr zs zf : Nat → Int32} {z : Nat} {zm zt : Int64} {le : Int32} (h1 : ¬ outN le (nI 0) (nI 100000) = 0) : vx_Met l yX3_round wsX3_round { frames := 7, cells := 1, slots := 6, locals := 111 } (va_Pc [.ref (ad 0), .int le] (fun U => va_P (dC, dI) vwCl (wC cI cZ ad sm fe ex dy gp gc op gr st dl wo n yc ya ys yd q zc zp zr zs zf z zm zt) U.heap ∧ va_K (dC, dI) vwCl [(cI, .int), (cZ, .boolean)] U ∧ tX (fun _ => False) U U.heap)) (fun _ _ _ _ => False) (xT "java/lang/IllegalArgumentException") 1 6 (fun _ => False) := by
  refine vx_ofW (cc := cX3_round) (maxL := 3) (ret := (some .int)) (by decide) rfl ?_
  intro p e s m args below meth c s₁ B hml ht hv
  obtain ⟨rfl, hP, hK, hT⟩ := hv
  have hx := B.exec
  have hb := B.bytes
  have hr := B.returns
  have hts := atoms_spec (ws := wsX3_round) B.pre
  have hown : s.vm.findClass RX3 = some m.cls := findClass_of_methodNamed B.named
  have hlocks := B.notSynchronized
  have hl := lv_entry ([.ref (ad 0), .int le]) (n := 3) (Nat.le_of_ble_eq_true rfl)
  rw [lg_entry_eq]
  generalize (lg_sl ([.ref (ad 0), .int le]) ++ List.replicate (3 - (lg_sl ([.ref (ad 0), .int le])).length) Slot.unset).toArray = ls at hl ⊢
  have hl : lv_has ls 3 [(0, .ref (ad 0)), (1, .int le)] := hl
  refine lv_aload_n hx hb dX3_round_0 rfl (lv_at hl 0 rfl) ?_
  refine lv_iload_n hx hb dX3_round_1 rfl (lv_at hl 1 rfl) ?_
  exact zx_on (kr_X3_mustBeLeast_no l hfl (x := le) (h1 := h1) hx hb hml hown hts hK hP gX3_round_X3_mustBeLeast ⟨Nat.le_of_ble_eq_true rfl, Nat.le_of_ble_eq_true rfl⟩ ⟨Nat.le_of_ble_eq_true rfl, Nat.le_of_ble_eq_true rfl⟩ hl.1 (Nat.le_of_ble_eq_true rfl) dX3_round_2 hT) ht hlocks
section
variable {p : Program} {e : Env} {R : Room} {s : State} {m : MethodId} {args : Array Value} {below : List Frame} {meth : Method} {c : Code} {H : Heap} {locs : List Loc} {cells slots : Nat} {Q : State → Prop} {cc : ByteArray} {pc : Nat} {ls : Array Slot} {rest : List Value} {own : String} {index nL : Nat} {Ts : List Cond} {H0 : Heap} {A0 : Nat → Prop}
theorem kr_X3_round_iae (l : Launch) (hfl : l.stackTraces = false) {dC : Nat → ClassId} {dI : Nat → Nat → Nat} {cI cZ : ClassId} {ad : Nat → Nat} {sm fe ex dy : Int32} {gp gc op gr st dl wo : Nat → Int32} {n : Nat} {yc ya ys yd : Nat → Int32} {q : Nat} {zc zp zr zs zf : Nat → Int32} {z : Nat} {zm zt : Int64} {le : Int32} (h1 : ¬ outN le (nI 0) (nI 100000) = 0) (hx : p.tables.exec = Jvm.exec) (hb : c.code = cc) (hml : c.maxLocals = nL) (hown : s.vm.findClass own = some m.cls) (hts : ∀ w ∈ Ts, w.before args s = true) (hK : va_K (dC, dI) vwCl [(cI, .int), (cZ, .boolean)] s) (hP : va_P (dC, dI) vwCl (wC cI cZ ad sm fe ex dy gp gc op gr st dl wo n yc ya ys yd q zc zp zr zs zf z zm zt) H) (hg9 : GoodIn Ts (wsV own index RX3 yX3_round wsX3_round)) (hR9 : 7 + 1 ≤ R.frames ∧ 8 + (3 + 11) + 111 ≤ R.locals) (hc9 : cells + 1 ≤ R.cells ∧ slots + 6 ≤ R.slots) (hl9 : ls.size = nL) (hw9 : (rest.map fun v => v.category).sum ≤ 8) (hdg : decode cc pc = .ok (.invokevirtual index, 3)) (hT : tX (fun _ => False) s H) : vx_Run p l e R s m args below meth c H locs cells slots 1 6 (F0 m pc ls (.int le :: .ref (ad 0) :: rest)) rest (fun _ _ _ => False) (xT "java/lang/IllegalArgumentException") (fun _ => False) := vx_runV (As := [.int le]) (rest := rest) ⟨hx, hb, hml, hown, hts⟩ (c_X3_round_iae (dC := dC) (dI := dI) (cI := cI) (cZ := cZ) (ad := ad) (sm := sm) (fe := fe) (ex := ex) (dy := dy) (gp := gp) (gc := gc) (op := op) (gr := gr) (st := st) (dl := dl) (wo := wo) (n := n) (yc := yc) (ya := ya) (ys := ys) (yd := yd) (q := q) (zc := zc) (zp := zp) (zr := zr) (zs := zs) (zf := zf) (z := z) (zm := zm) (zt := zt) (le := le) l hfl h1) (cwV 1 hts hg9 rfl rfl rfl (by decide +kernel) hR9) ⟨fun a U g mk q => ⟨q.1, q.2.1, va_K.moved (u := U) (U := U.calling g mk a) (Vm.Alike.refl U.vm) q.2.2.1, tX.same (u := U) (U := U.calling g mk a) rfl q.2.2.2⟩, rC_0 hK hP, fun U hU hW => ⟨rfl, by rw [hU]; exact hP, va_K.moved hW.alike hK, by rw [hU]; exact tX.warm hW hT⟩⟩ rfl rfl hl9 rfl (lv_room hw9) hdg hc9
end
