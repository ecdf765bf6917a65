/-! plain functions: the reference -/
def ofP (pe : Nat → Int32) (x : Int32) : Nat → Int32
  | 0 => (-1)
  | i + 1 => if pe i = x then nI i else ofP pe x i
def passS (st dl : Nat → Int32) (n D d : Nat) : Nat → Int32 := fun k => if 0 < d ∧ k < n ∧ st k = nI 1 ∧ dl k < nI (D + d) then nI 2 else st k
def passV (ys yd : Nat → Int32) (q D d : Nat) : Nat → Int32 := fun k => if 0 < d ∧ k < q ∧ ys k = 0 ∧ ¬ nI (D + d) - yd k ≤ nI 30 then nI 2 else ys k
def mixF (f g : Nat → Int32) (i : Nat) : Nat → Int32 := fun k => if k < i then f k else g k
theorem mixF_0 (f g : Nat → Int32) : mixF f g 0 = g := funext fun k => if_neg (Nat.not_lt_zero k)
theorem mixF_s {f g : Nat → Int32} {i : Nat} {x : Int32} (h : x = f i) : upd (mixF f g i) i x = mixF f g (i + 1) := by
  funext k
  unfold upd mixF
  by_cases e : k = i
  · subst e; rw [if_pos rfl, if_pos (Nat.lt_succ_self _)]; exact h
  · rw [if_neg e]
    by_cases l : k < i
    · rw [if_pos l, if_pos (by omega)]
    · rw [if_neg l, if_neg (by omega)]
theorem mixF_at (f g : Nat → Int32) (i : Nat) : mixF f g i i = g i := if_neg (Nat.lt_irrefl i)
theorem mixF_all {f g : Nat → Int32} {n : Nat} (h : ∀ k, n ≤ k → f k = g k) : mixF f g n = f := by
  funext k
  unfold mixF
  by_cases l : k < n
  · rw [if_pos l]
  · rw [if_neg l]; exact (h k (by omega)).symm
theorem upd_self {f : Nat → Int32} {k : Nat} {x : Int32} (h : f k = x) : upd f k x = f := by
  funext j
  unfold upd
  by_cases e : j = k
  · subst e; rw [if_pos rfl, h]
  · rw [if_neg e]
theorem passS_0 (st dl : Nat → Int32) (n D : Nat) : passS st dl n D 0 = st := funext fun k => if_neg (fun h => Nat.lt_irrefl 0 h.1)
theorem passV_0 (ys yd : Nat → Int32) (q D : Nat) : passV ys yd q D 0 = ys := funext fun k => if_neg (fun h => Nat.lt_irrefl 0 h.1)
theorem passS_out {st dl : Nat → Int32} {n D d k : Nat} (h : n ≤ k) : passS st dl n D d k = st k := if_neg (fun q => by omega)
theorem passV_out {ys yd : Nat → Int32} {q D d k : Nat} (h : q ≤ k) : passV ys yd q D d k = ys k := if_neg (fun z => by omega)
theorem passS_y {st dl : Nat → Int32} {n D d k : Nat} (hk : k < n) (hD : D + d + 1 < 2 ^ 31) (h1 : passS st dl n D d k = nI 1) (h2 : dl k < nI (D + d + 1)) : nI 2 = passS st dl n D (d + 1) k := by
  unfold passS at h1 ⊢
  by_cases c : 0 < d ∧ k < n ∧ st k = nI 1 ∧ dl k < nI (D + d)
  · rw [if_pos c] at h1; exact absurd h1 (by decide)
  · rw [if_neg c] at h1
    rw [if_pos ⟨by omega, hk, h1, h2⟩]
theorem passS_n {st dl : Nat → Int32} {n D d k : Nat} (hk : k < n) (hD : D + d + 1 < 2 ^ 31) (h : ¬ (passS st dl n D d k = nI 1 ∧ dl k < nI (D + d + 1))) : passS st dl n D d k = passS st dl n D (d + 1) k := by
  unfold passS at h ⊢
  by_cases c : 0 < d ∧ k < n ∧ st k = nI 1 ∧ dl k < nI (D + d)
  · rw [if_pos c, if_pos ⟨by omega, hk, c.2.2.1, Int32.lt_trans c.2.2.2 (nI_lt (by omega) (by omega))⟩]
  · rw [if_neg c] at h
    rw [if_neg c, if_neg (fun q => h ⟨q.2.2.1, q.2.2.2⟩)]
theorem passV_y {ys yd : Nat → Int32} {q D d k : Nat} (hk : k < q) (h1 : passV ys yd q D d k = 0) (h2 : ¬ nI (D + d + 1) - yd k ≤ nI 30) : nI 2 = passV ys yd q D (d + 1) k := by
  unfold passV at h1 ⊢
  by_cases c : 0 < d ∧ k < q ∧ ys k = 0 ∧ ¬ nI (D + d) - yd k ≤ nI 30
  · rw [if_pos c] at h1; exact absurd h1 (by decide)
  · rw [if_neg c] at h1
    rw [if_pos ⟨by omega, hk, h1, h2⟩]
theorem passV_n {ys yd : Nat → Int32} {q D d k : Nat} (hk : k < q) (hD : D + d + 1 < 2 ^ 31) (hy : ∃ y, y ≤ D ∧ yd k = nI y) (h : ¬ (passV ys yd q D d k = 0 ∧ ¬ nI (D + d + 1) - yd k ≤ nI 30)) : passV ys yd q D d k = passV ys yd q D (d + 1) k := by
  obtain ⟨y, hy, e⟩ := hy
  unfold passV at h ⊢
  by_cases c : 0 < d ∧ k < q ∧ ys k = 0 ∧ ¬ nI (D + d) - yd k ≤ nI 30
  · have c4 := c.2.2.2
    rw [e, pk_sub (by omega), nI_leI (by omega) (by omega)] at c4
    rw [if_pos c, if_pos ⟨by omega, hk, c.2.2.1, by rw [e, pk_sub (by omega), nI_leI (by omega) (by omega)]; omega⟩]
  · rw [if_neg c] at h
    rw [if_neg c, if_neg (fun z => h ⟨z.2.2.1, z.2.2.2⟩)]
theorem denyF_eq (st dl : Nat → Int32) (d : Int32) : ∀ (i k : Nat), denyF st dl d i k = if k < i ∧ st k = nI 1 ∧ dl k < d then nI 2 else st k
  | 0, k => by rw [if_neg (fun h => Nat.not_lt_zero _ h.1)]; rfl
  | i + 1, k => by
    have ih := denyF_eq st dl d i
    have hi : denyF st dl d i i = st i := by rw [ih, if_neg (fun h => Nat.lt_irrefl _ h.1)]
    show (if denyF st dl d i i = nI 1 ∧ ¬ d ≤ dl i then upd (denyF st dl d i) i (nI 2) else denyF st dl d i) k = _
    rw [hi]
    by_cases e : k = i
    · subst e
      by_cases c : st k = nI 1 ∧ ¬ d ≤ dl k
      · rw [if_pos c, if_pos ⟨Nat.lt_succ_self _, c.1, Int32.not_le.mp c.2⟩]; unfold upd; rw [if_pos rfl]
      · rw [if_neg c, hi, if_neg (fun z => c ⟨z.2.1, Int32.not_le.mpr z.2.2⟩)]
    · have l : (k < i + 1) ↔ (k < i) := by omega
      simp only [l]
      by_cases c : st i = nI 1 ∧ ¬ d ≤ dl i
      · rw [if_pos c]; unfold upd; rw [if_neg e]; exact ih k
      · rw [if_neg c]; exact ih k
theorem voidF_eq (ys yd : Nat → Int32) (d : Int32) : ∀ (i k : Nat), voidF ys yd d i k = if k < i ∧ ys k = 0 ∧ ¬ d - yd k ≤ nI 30 then nI 2 else ys k
  | 0, k => by rw [if_neg (fun h => Nat.not_lt_zero _ h.1)]; rfl
  | i + 1, k => by
    have ih := voidF_eq ys yd d i
    have hi : voidF ys yd d i i = ys i := by rw [ih, if_neg (fun h => Nat.lt_irrefl _ h.1)]
    show (if voidF ys yd d i i = 0 ∧ ¬ d - yd i ≤ nI 30 then upd (voidF ys yd d i) i (nI 2) else voidF ys yd d i) k = _
    rw [hi]
    by_cases e : k = i
    · subst e
      by_cases c : ys k = 0 ∧ ¬ d - yd k ≤ nI 30
      · rw [if_pos c, if_pos ⟨Nat.lt_succ_self _, c.1, c.2⟩]; unfold upd; rw [if_pos rfl]
      · rw [if_neg c, hi, if_neg (fun z => c ⟨z.2.1, z.2.2⟩)]
    · have l : (k < i + 1) ↔ (k < i) := by omega
      simp only [l]
      by_cases c : ys i = 0 ∧ ¬ d - yd i ≤ nI 30
      · rw [if_pos c]; unfold upd; rw [if_neg e]; exact ih k
      · rw [if_neg c]; exact ih k
theorem passS_deny {st dl : Nat → Int32} {n D d : Nat} (h : 0 < d) : passS st dl n D d = denyF st dl (nI (D + d)) n := by
  funext k
  rw [denyF_eq]
  unfold passS
  by_cases c : k < n ∧ st k = nI 1 ∧ dl k < nI (D + d)
  · rw [if_pos ⟨h, c⟩, if_pos c]
  · rw [if_neg (fun z => c z.2), if_neg c]
theorem passV_void {ys yd : Nat → Int32} {q D d : Nat} (h : 0 < d) : passV ys yd q D d = voidF ys yd (nI (D + d)) q := by
  funext k
  rw [voidF_eq]
  unfold passV
  by_cases c : k < q ∧ ys k = 0 ∧ ¬ nI (D + d) - yd k ≤ nI 30
  · rw [if_pos ⟨h, c⟩, if_pos c]
  · rw [if_neg (fun z => c z.2), if_neg c]
theorem oc_ok {k n : Nat} (hk : k < n) (hn : n ≤ 100) : outN (nI k) (nI 0) (nI n - nI 1) = 0 := by
  unfold outN
  rw [pk_sub (by omega), if_neg (nI_nlt (Nat.zero_le _) (by omega)), if_pos (nI_le (by omega) (by omega))]
theorem oc_no {x : Int32} {n : Nat} (h : ¬ vp_in x n) (hn : n ≤ 100) : outN x (nI 0) (nI n - nI 1) = 1 := by
  unfold outN
  rcases pk_ix x (n := n) (by omega) with q | q | ⟨j, q1, q2⟩
  · rw [if_pos (by rw [nI_0]; exact q)]
  · by_cases l : x < nI 0
    · rw [if_pos l]
    · rw [if_neg l, if_neg]
      intro h2
      rcases Nat.eq_zero_or_pos n with e | e
      · subst e
        have h3 : nI 0 - nI 1 = (-1 : Int32) := by decide
        rw [h3] at h2
        exact absurd (Int32.le_trans q h2) (by decide)
      · rw [pk_sub (by omega)] at h2
        exact absurd (Int32.le_trans q h2) (nI_ge (by omega) (by omega))
  · exact absurd (by rw [q2]; exact vp_in_nI q1 (by omega)) h
theorem zz_nm1 {j : Nat} (h : j < 2 ^ 30) (e : nI j = (-1)) : False := by
  have h1 := nI_pos (n := j) (by omega)
  rw [e] at h1
  exact h1 (by decide)
theorem zz_ss (a b d : Int32) : a - (b + d) = a - b - d := by
  rw [Int32.sub_eq_add_neg, Int32.sub_eq_add_neg, Int32.sub_eq_add_neg, Int32.neg_add, Int32.add_assoc, Int32.sub_eq_add_neg]
theorem zz_s0 (a : Int32) : a - nI 0 = a := by rw [nI_0]; exact Int32.sub_zero a
theorem zz_a0 (a : Int32) : a + nI 0 = a := by rw [nI_0]; exact Int32.add_zero a
def leftI (a : Int32) (ya ys : Nat → Int32) (i : Nat) : Int32 := a - sumAllI ya ys i
theorem leftI_y {a : Int32} {ya ys : Nat → Int32} {i : Nat} (h : ys i = nI 2) : leftI a ya ys i - nI 0 = leftI a ya ys (i + 1) := by
  unfold leftI
  rw [zz_s0, show sumAllI ya ys (i + 1) = sumAllI ya ys i by simp [sumAllI, h]]
theorem leftI_n {a : Int32} {ya ys : Nat → Int32} {i : Nat} (h : ¬ ys i = nI 2) : leftI a ya ys i - ya i = leftI a ya ys (i + 1) := by
  unfold leftI
  rw [show sumAllI ya ys (i + 1) = sumAllI ya ys i + ya i by simp [sumAllI, h], zz_ss]

theorem zz_ltle {x b : Int32} (h : b < x) : ¬ x ≤ b := Int32.not_le.mpr h
theorem zz_nltle {x b : Int32} (h : ¬ b < x) : x ≤ b := Int32.not_lt.mp h
theorem zz_max {a g : Int32} (h : g ≤ a) : maxI a g = a := if_neg (Int32.not_lt.mpr h)
theorem zz_max' {a g : Int32} (h : ¬ g ≤ a) : maxI a g = g := if_pos (Int32.not_le.mp h)
theorem vdB_s (yc ys : Nat → Int32) (w : Int32) (i : Nat) : vdB yc ys w (i + 1) = (vdB yc ys w i || (decide (yc i = w) && decide (ys i = nI 2))) := rfl
theorem openB_s (ys : Nat → Int32) (i : Nat) : openB ys (i + 1) = (openB ys i || decide (ys i = 0)) := rfl

set_option maxHeartbeats 4000000 in
set_option maxRecDepth 100000 in
theorem c_X4_isIn (l : Launch) {x : Int32} {a : Int32} {b : Int32}  : Met l yX4_isIn wsX4_isIn { frames := 0, cells := 0, slots := 0, locals := 0 } (va_Pc [.int x, .int a, .int b] (fun _ => True)) (vp_Si (fun r => r = nI (1 - outN x a b))) 0 0 (fun _ => False) := by
  refine Met.ofW (cc := cX4_isIn) (maxL := 3) (ret := (some .boolean)) (by decide) rfl ?_
  intro p e s m args below meth c s₁ B hml hv
  obtain ⟨rfl, -⟩ := hv
  have hx := B.exec
  have hb := B.bytes
  have hr := B.returns
  have hts := atoms_spec (ws := wsX4_isIn) B.pre
  have hown : s.vm.findClass RX4 = some m.cls := findClass_of_methodNamed B.named
  have hlocks := B.notSynchronized
  have hl := lv_entry ([.int x, .int a, .int b]) (n := 3) (Nat.le_of_ble_eq_true rfl)
  rw [lg_entry_eq]
  generalize (lg_sl ([.int x, .int a, .int b]) ++ List.replicate (3 - (lg_sl ([.int x, .int a, .int b])).length) Slot.unset).toArray = ls at hl ⊢
  have hl : lv_has ls 3 [(0, .int x), (1, .int a), (2, .int b)] := hl
  refine lv_iload_n hx hb dX4_isIn_0 rfl (lv_at hl 0 rfl) ?_
  refine lv_iload_n hx hb dX4_isIn_1 rfl (lv_at hl 1 rfl) ?_
  refine lv_icmp_lt (tgt := 14) hx hb dX4_isIn_2 (by decide) (fun c_2 => ?_) (fun c_2 => ?_)
  · refine lv_iconst (v := nI 0) hx hb dX4_isIn_14 (by decide) ?_
    exact W.zret (v := nI 0) hx hb hr (rfl) (fun t ht hW => ⟨nI 0, rfl, by unfold outN; simp [c_2], ht⟩) (fun _ h => nomatch h) dX4_isIn_15
  · refine lv_iload_n hx hb dX4_isIn_5 rfl (lv_at hl 0 rfl) ?_
    refine lv_iload_n hx hb dX4_isIn_6 rfl (lv_at hl 2 rfl) ?_
    refine lv_icmp_gt (tgt := 14) hx hb dX4_isIn_7 (by decide) (fun c_7 => ?_) (fun c_7 => ?_)
    · refine lv_iconst (v := nI 0) hx hb dX4_isIn_14 (by decide) ?_
      exact W.zret (v := nI 0) hx hb hr (rfl) (fun t ht hW => ⟨nI 0, rfl, by unfold outN; simp [c_2, zz_ltle c_7], ht⟩) (fun _ h => nomatch h) dX4_isIn_15
    · refine lv_iconst (v := nI 1) hx hb dX4_isIn_10 (by decide) ?_
      refine lv_goto (tgt := 15) hx hb dX4_isIn_11 (by decide) ?_
      exact W.zret (v := nI 1) hx hb hr (rfl) (fun t ht hW => ⟨nI 1, rfl, by unfold outN; simp [c_2, zz_nltle c_7], ht⟩) (fun _ h => nomatch h) dX4_isIn_15
section
variable {p : Program} {e : Env} {R : Room} {s : State} {m : MethodId} {args : Array Value} {below : List Frame} {meth : Method} {c : Code} {H : Heap} {locs : List Loc} {cells slots : Nat} {Q : State → Prop} {cc : ByteArray} {pc : Nat} {ls : Array Slot} {rest : List Value} {own : String} {index nL : Nat} {Ts : List Cond} {H0 : Heap} {A0 : Nat → Prop}
theorem k_X4_isIn (l : Launch) {x : Int32} {a : Int32} {b : Int32}  (hx : p.tables.exec = Jvm.exec) (hb : c.code = cc) (hml : c.maxLocals = nL) (hown : s.vm.findClass own = some m.cls) (hts : ∀ w ∈ Ts, w.before args s = true) (hg9 : GoodIn Ts (va_wsS own index yX4_isIn wsX4_isIn)) (hR9 : 0 + 1 ≤ R.frames ∧ 8 + (3 + 11) + 0 ≤ R.locals) (hc9 : cells ≤ R.cells ∧ slots ≤ R.slots) (hl9 : ls.size = nL) (hw9 : (rest.map fun v => v.category).sum ≤ 8) (hdg : decode cc pc = .ok (.invokestatic index, 3)) (kk : W p l e R s m args below meth c H locs cells slots Q (F0 m (pc + 3) ls (.int (nI (1 - outN x a b)) :: rest))) : W p l e R s m args below meth c H locs cells slots Q (F0 m pc ls (.int b :: .int a :: .int x :: rest)) := zc_ro (W.runS (As := [.int x, .int a, .int b]) (rest := rest) ⟨hx, hb, hml, hown, hts⟩ (c_X4_isIn (x := x) (a := a) (b := b) l ) (va_cwS 3 hts hg9 rfl rfl rfl (by decide +kernel) hR9) ⟨fun a U g mk q => q, fun U hU hW => ⟨rfl, trivial⟩⟩ rfl rfl hl9 rfl (lv_room hw9) hdg hc9) (fun r h => by subst h; exact kk)
end
set_option maxHeartbeats 4000000 in
set_option maxRecDepth 100000 in
theorem c_X4_goes_0 (l : Launch) {dC : Nat → ClassId} {dI : Nat → Nat → Nat} {cI cZ : ClassId} {am : Nat → Nat} {sm fe ex : Int32} {gp gc : Nat → Int32} {dy : Int32} {n : Nat} {pe gr st dl wo : Nat → Int32} {q : Nat} {yc ya yd ys tp fu sh ro : Nat → Int32} {th : Int32}  (hI : iwM am)  : Met l yX4_goes wsX4_goes { frames := 0, cells := 0, slots := 0, locals := 0 } (va_Pc [.ref (am 0), .int (nI 0)] (fun U => va_P (dC, dI) vwCl (wM cI cZ am sm fe ex gp gc dy n pe gr st dl wo q yc ya yd ys tp fu sh ro th) U.heap ∧ va_K (dC, dI) vwCl [(cI, .int), (cZ, .boolean)] U)) (va_Qi (fun r (_ : Unit) => r = nI 1) (fun _ t => va_P (dC, dI) vwCl (wM cI cZ am sm fe ex gp gc dy n pe gr st dl wo q yc ya yd ys tp fu sh ro (nI 0)) t.heap) (awM am)) 0 0 (awM am) := by
  refine Met.ofW (cc := cX4_goes) (maxL := 2) (ret := (some .boolean)) (by decide) rfl ?_
  intro p e s m args below meth c s₁ B hml hv
  obtain ⟨rfl, hP, hK⟩ := hv
  have hx := B.exec
  have hb := B.bytes
  have hr := B.returns
  have hts := atoms_spec (ws := wsX4_goes) B.pre
  have hown : s.vm.findClass RX4 = some m.cls := findClass_of_methodNamed B.named
  have hlocks := B.notSynchronized
  have hS : va_S (awM am) s.heap s.heap [] := va_S.rf
  have hl := lv_entry ([.ref (am 0), .int (nI 0)]) (n := 2) (Nat.le_of_ble_eq_true rfl)
  rw [lg_entry_eq]
  generalize (lg_sl ([.ref (am 0), .int (nI 0)]) ++ List.replicate (2 - (lg_sl ([.ref (am 0), .int (nI 0)])).length) Slot.unset).toArray = ls at hl ⊢
  have hl : lv_has ls 2 [(0, .ref (am 0)), (1, .int (nI 0))] := hl
  have hiX4 : ∀ w ∈ wsX40, w ∈ wsX4_goes := by decide +kernel
  have hf57 := hts (.fieldLink RX4 57 "SettlementFundModel" "thrown" "I") (by decide +kernel)
  refine lv_aload_n hx hb dX4_goes_0 rfl (lv_at hl 0 rfl) ?_
  refine lv_iload_n hx hb dX4_goes_1 rfl (lv_at hl 1 rfl) ?_
  refine uM_0_21 hx hb hts hiX4 hown hK hP hf57 hI (fun _ h => h) hS dX4_goes_2 (fun H locs hP hS => ?_)
  refine lv_iload_n hx hb dX4_goes_5 rfl (lv_at hl 1 rfl) ?_
  refine zi_ne (tgt := 13) hx hb (by decide) dX4_goes_6 (by decide) (fun c_6 => (show False by omega).elim) (fun c_6 => ?_)
  refine lv_iconst (v := nI 1) hx hb dX4_goes_9 (by decide) ?_
  refine lv_goto (tgt := 14) hx hb dX4_goes_10 (by decide) ?_
  exact W.zret (v := nI 1) hx hb hr (rfl) (fun t ht hW => ⟨⟨nI 1, (), rfl, rfl, by (try dsimp only); rw [ht]; exact hP⟩, hS.F ht⟩) hS.2.2 dX4_goes_14
section
variable {p : Program} {e : Env} {R : Room} {s : State} {m : MethodId} {args : Array Value} {below : List Frame} {meth : Method} {c : Code} {H : Heap} {locs : List Loc} {cells slots : Nat} {Q : State → Prop} {cc : ByteArray} {pc : Nat} {ls : Array Slot} {rest : List Value} {own : String} {index nL : Nat} {Ts : List Cond} {H0 : Heap} {A0 : Nat → Prop}
theorem k_X4_goes_0 (l : Launch) {dC : Nat → ClassId} {dI : Nat → Nat → Nat} {cI cZ : ClassId} {am : Nat → Nat} {sm fe ex : Int32} {gp gc : Nat → Int32} {dy : Int32} {n : Nat} {pe gr st dl wo : Nat → Int32} {q : Nat} {yc ya yd ys tp fu sh ro : Nat → Int32} {th : Int32}   (hx : p.tables.exec = Jvm.exec) (hb : c.code = cc) (hml : c.maxLocals = nL) (hown : s.vm.findClass own = some m.cls) (hts : ∀ w ∈ Ts, w.before args s = true) (hK : va_K (dC, dI) vwCl [(cI, .int), (cZ, .boolean)] s) (hP : va_P (dC, dI) vwCl (wM cI cZ am sm fe ex gp gc dy n pe gr st dl wo q yc ya yd ys tp fu sh ro th) H) (hg9 : GoodIn Ts (wsV own index RX4 yX4_goes wsX4_goes)) (hR9 : 0 + 1 ≤ R.frames ∧ 8 + (2 + 11) + 0 ≤ R.locals) (hc9 : cells ≤ R.cells ∧ slots ≤ R.slots) (hl9 : ls.size = nL) (hw9 : (rest.map fun v => v.category).sum ≤ 8) (hdg : decode cc pc = .ok (.invokevirtual index, 3)) (hI : iwM am) (hA : ∀ x, awM am x → A0 x) (hS : va_S A0 H0 H locs) (kk : ∀ (H1 : Heap) (locs1 : List Loc), va_P (dC, dI) vwCl (wM cI cZ am sm fe ex gp gc dy n pe gr st dl wo q yc ya yd ys tp fu sh ro (nI 0)) H1 → va_S A0 H0 H1 locs1 → (∀ q : Nat, q < H.size → ¬ awM am q → H1[q]? = H[q]?) → W p l e R s m args below meth c H1 locs1 cells slots Q (F0 m (pc + 3) ls (.int (nI 1) :: rest))) : W p l e R s m args below meth c H locs cells slots Q (F0 m pc ls (.int (nI 0) :: .ref (am 0) :: rest)) := va_calli (va_runV (As := [.int (nI 0)]) (rest := rest) ⟨hx, hb, hml, hown, hts⟩ (c_X4_goes_0 (dC := dC) (dI := dI) (cI := cI) (cZ := cZ) (am := am) (sm := sm) (fe := fe) (ex := ex) (gp := gp) (gc := gc) (dy := dy) (n := n) (pe := pe) (gr := gr) (st := st) (dl := dl) (wo := wo) (q := q) (yc := yc) (ya := ya) (yd := yd) (ys := ys) (tp := tp) (fu := fu) (sh := sh) (ro := ro) (th := th) l hI ) (cwV 1 hts hg9 rfl rfl rfl (by decide +kernel) hR9) ⟨fun a U g mk q => ⟨q.1, q.2.1, va_K.moved (u := U) (U := U.calling g mk a) (Vm.Alike.refl U.vm) q.2.2⟩, rM_0 hK hP, fun U hU hW => ⟨rfl, by rw [hU]; exact hP, va_K.moved hW.alike hK⟩⟩ rfl rfl hl9 rfl (lv_room hw9) hdg hc9) hS (fun q _ h => hA q h) hA (fun r u t H1 locs1 ht _ hu hB hz hk hS1 => by subst hu; exact kk H1 locs1 (by rw [ht] at hB; exact hB) hS1 hk)
end
set_option maxHeartbeats 4000000 in
set_option maxRecDepth 100000 in
theorem c_X4_goes_k (l : Launch) {dC : Nat → ClassId} {dI : Nat → Nat → Nat} {cI cZ : ClassId} {am : Nat → Nat} {sm fe ex : Int32} {gp gc : Nat → Int32} {dy : Int32} {n : Nat} {pe gr st dl wo : Nat → Int32} {q : Nat} {yc ya yd ys tp fu sh ro : Nat → Int32} {th : Int32} {k : Nat} (hI : iwM am) (hk : 0 < k) (h2 : k < 100) : Met l yX4_goes wsX4_goes { frames := 0, cells := 0, slots := 0, locals := 0 } (va_Pc [.ref (am 0), .int (nI k)] (fun U => va_P (dC, dI) vwCl (wM cI cZ am sm fe ex gp gc dy n pe gr st dl wo q yc ya yd ys tp fu sh ro th) U.heap ∧ va_K (dC, dI) vwCl [(cI, .int), (cZ, .boolean)] U)) (va_Qi (fun r (_ : Unit) => r = nI 0) (fun _ t => va_P (dC, dI) vwCl (wM cI cZ am sm fe ex gp gc dy n pe gr st dl wo q yc ya yd ys tp fu sh ro (nI k)) t.heap) (awM am)) 0 0 (awM am) := by
  refine Met.ofW (cc := cX4_goes) (maxL := 2) (ret := (some .boolean)) (by decide) rfl ?_
  intro p e s m args below meth c s₁ B hml hv
  obtain ⟨rfl, hP, hK⟩ := hv
  have hx := B.exec
  have hb := B.bytes
  have hr := B.returns
  have hts := atoms_spec (ws := wsX4_goes) B.pre
  have hown : s.vm.findClass RX4 = some m.cls := findClass_of_methodNamed B.named
  have hlocks := B.notSynchronized
  have hS : va_S (awM am) s.heap s.heap [] := va_S.rf
  have hl := lv_entry ([.ref (am 0), .int (nI k)]) (n := 2) (Nat.le_of_ble_eq_true rfl)
  rw [lg_entry_eq]
  generalize (lg_sl ([.ref (am 0), .int (nI k)]) ++ List.replicate (2 - (lg_sl ([.ref (am 0), .int (nI k)])).length) Slot.unset).toArray = ls at hl ⊢
  have hl : lv_has ls 2 [(0, .ref (am 0)), (1, .int (nI k))] := hl
  have hiX4 : ∀ w ∈ wsX40, w ∈ wsX4_goes := by decide +kernel
  have hf57 := hts (.fieldLink RX4 57 "SettlementFundModel" "thrown" "I") (by decide +kernel)
  refine lv_aload_n hx hb dX4_goes_0 rfl (lv_at hl 0 rfl) ?_
  refine lv_iload_n hx hb dX4_goes_1 rfl (lv_at hl 1 rfl) ?_
  refine uM_0_21 hx hb hts hiX4 hown hK hP hf57 hI (fun _ h => h) hS dX4_goes_2 (fun H locs hP hS => ?_)
  refine lv_iload_n hx hb dX4_goes_5 rfl (lv_at hl 1 rfl) ?_
  refine zi_ne (tgt := 13) hx hb (by omega) dX4_goes_6 (by decide) (fun c_6 => ?_) (fun c_6 => (show False by omega).elim)
  refine lv_iconst (v := nI 0) hx hb dX4_goes_13 (by decide) ?_
  exact W.zret (v := nI 0) hx hb hr (rfl) (fun t ht hW => ⟨⟨nI 0, (), rfl, rfl, by (try dsimp only); rw [ht]; exact hP⟩, hS.F ht⟩) hS.2.2 dX4_goes_14
section
variable {p : Program} {e : Env} {R : Room} {s : State} {m : MethodId} {args : Array Value} {below : List Frame} {meth : Method} {c : Code} {H : Heap} {locs : List Loc} {cells slots : Nat} {Q : State → Prop} {cc : ByteArray} {pc : Nat} {ls : Array Slot} {rest : List Value} {own : String} {index nL : Nat} {Ts : List Cond} {H0 : Heap} {A0 : Nat → Prop}
theorem k_X4_goes_k (l : Launch) {dC : Nat → ClassId} {dI : Nat → Nat → Nat} {cI cZ : ClassId} {am : Nat → Nat} {sm fe ex : Int32} {gp gc : Nat → Int32} {dy : Int32} {n : Nat} {pe gr st dl wo : Nat → Int32} {q : Nat} {yc ya yd ys tp fu sh ro : Nat → Int32} {th : Int32} {k : Nat} (hk : 0 < k) (h2 : k < 100) (hx : p.tables.exec = Jvm.exec) (hb : c.code = cc) (hml : c.maxLocals = nL) (hown : s.vm.findClass own = some m.cls) (hts : ∀ w ∈ Ts, w.before args s = true) (hK : va_K (dC, dI) vwCl [(cI, .int), (cZ, .boolean)] s) (hP : va_P (dC, dI) vwCl (wM cI cZ am sm fe ex gp gc dy n pe gr st dl wo q yc ya yd ys tp fu sh ro th) H) (hg9 : GoodIn Ts (wsV own index RX4 yX4_goes wsX4_goes)) (hR9 : 0 + 1 ≤ R.frames ∧ 8 + (2 + 11) + 0 ≤ R.locals) (hc9 : cells ≤ R.cells ∧ slots ≤ R.slots) (hl9 : ls.size = nL) (hw9 : (rest.map fun v => v.category).sum ≤ 8) (hdg : decode cc pc = .ok (.invokevirtual index, 3)) (hI : iwM am) (hA : ∀ x, awM am x → A0 x) (hS : va_S A0 H0 H locs) (kk : ∀ (H1 : Heap) (locs1 : List Loc), va_P (dC, dI) vwCl (wM cI cZ am sm fe ex gp gc dy n pe gr st dl wo q yc ya yd ys tp fu sh ro (nI k)) H1 → va_S A0 H0 H1 locs1 → (∀ q : Nat, q < H.size → ¬ awM am q → H1[q]? = H[q]?) → W p l e R s m args below meth c H1 locs1 cells slots Q (F0 m (pc + 3) ls (.int (nI 0) :: rest))) : W p l e R s m args below meth c H locs cells slots Q (F0 m pc ls (.int (nI k) :: .ref (am 0) :: rest)) := va_calli (va_runV (As := [.int (nI k)]) (rest := rest) ⟨hx, hb, hml, hown, hts⟩ (c_X4_goes_k (dC := dC) (dI := dI) (cI := cI) (cZ := cZ) (am := am) (sm := sm) (fe := fe) (ex := ex) (gp := gp) (gc := gc) (dy := dy) (n := n) (pe := pe) (gr := gr) (st := st) (dl := dl) (wo := wo) (q := q) (yc := yc) (ya := ya) (yd := yd) (ys := ys) (tp := tp) (fu := fu) (sh := sh) (ro := ro) (th := th) (k := k) l hI hk h2) (cwV 1 hts hg9 rfl rfl rfl (by decide +kernel) hR9) ⟨fun a U g mk q => ⟨q.1, q.2.1, va_K.moved (u := U) (U := U.calling g mk a) (Vm.Alike.refl U.vm) q.2.2⟩, rM_0 hK hP, fun U hU hW => ⟨rfl, by rw [hU]; exact hP, va_K.moved hW.alike hK⟩⟩ rfl rfl hl9 rfl (lv_room hw9) hdg hc9) hS (fun q _ h => hA q h) hA (fun r u t H1 locs1 ht _ hu hB hz hk hS1 => by subst hu; exact kk H1 locs1 (by rw [ht] at hB; exact hB) hS1 hk)
end
set_option maxHeartbeats 4000000 in
set_option maxRecDepth 100000 in
theorem c_X4_isClaim_ok (l : Launch) {dC : Nat → ClassId} {dI : Nat → Nat → Nat} {cI cZ : ClassId} {am : Nat → Nat} {sm fe ex : Int32} {gp gc : Nat → Int32} {dy : Int32} {n : Nat} {pe gr st dl wo : Nat → Int32} {q : Nat} {yc ya yd ys tp fu sh ro : Nat → Int32} {th : Int32} {k : Nat} (hn : n ≤ 24) (hk : k < n) : Met l yX4_isClaim wsX4_isClaim { frames := 1, cells := 0, slots := 0, locals := 22 } (va_Pc [.ref (am 0), .int (nI k)] (fun U => va_P (dC, dI) vwCl (wM cI cZ am sm fe ex gp gc dy n pe gr st dl wo q yc ya yd ys tp fu sh ro th) U.heap ∧ va_K (dC, dI) vwCl [(cI, .int), (cZ, .boolean)] U)) (vp_Si (fun r => r = nI 1)) 0 0 (fun _ => False) := by
  refine Met.ofW (cc := cX4_isClaim) (maxL := 2) (ret := (some .boolean)) (by decide) rfl ?_
  intro p e s m args below meth c s₁ B hml hv
  obtain ⟨rfl, hP, hK⟩ := hv
  have hx := B.exec
  have hb := B.bytes
  have hr := B.returns
  have hts := atoms_spec (ws := wsX4_isClaim) B.pre
  have hown : s.vm.findClass RX4 = some m.cls := findClass_of_methodNamed B.named
  have hlocks := B.notSynchronized
  have hl := lv_entry ([.ref (am 0), .int (nI k)]) (n := 2) (Nat.le_of_ble_eq_true rfl)
  rw [lg_entry_eq]
  generalize (lg_sl ([.ref (am 0), .int (nI k)]) ++ List.replicate (2 - (lg_sl ([.ref (am 0), .int (nI k)])).length) Slot.unset).toArray = ls at hl ⊢
  have hl : lv_has ls 2 [(0, .ref (am 0)), (1, .int (nI k))] := hl
  have hiX4 : ∀ w ∈ wsX40, w ∈ wsX4_isClaim := by decide +kernel
  have hf61 := hts (.fieldLink RX4 61 "SettlementFundModel" "claims" "I") (by decide +kernel)
  refine lv_iload_n hx hb dX4_isClaim_0 rfl (lv_at hl 1 rfl) ?_
  refine lv_iconst (v := nI 0) hx hb dX4_isClaim_1 (by decide) ?_
  refine lv_aload_n hx hb dX4_isClaim_2 rfl (lv_at hl 0 rfl) ?_
  refine gM_0_6 hx hb hts hiX4 hown hK hP hf61 dX4_isClaim_3 ?_
  refine lv_iconst (v := nI 1) hx hb dX4_isClaim_6 (by decide) ?_
  refine lv_isub hx hb dX4_isClaim_7 ?_
  refine k_X4_isIn l (x := nI k) (a := nI 0) (b := (nI n) - (nI 1)) hx hb hml hown hts  gX4_isClaim_X4_isIn ⟨Nat.le_of_ble_eq_true rfl, Nat.le_of_ble_eq_true rfl⟩ ⟨Nat.le_of_ble_eq_true rfl, Nat.le_of_ble_eq_true rfl⟩ hl.1 (Nat.le_of_ble_eq_true rfl) dX4_isClaim_8 ?_
  refine zt_i (y := nI 1) (by rw [oc_ok hk (by omega)]) ?_
  exact W.zret (v := nI 1) hx hb hr (rfl) (fun t ht hW => ⟨nI 1, rfl, rfl, ht⟩) (fun _ h => nomatch h) dX4_isClaim_11
section
variable {p : Program} {e : Env} {R : Room} {s : State} {m : MethodId} {args : Array Value} {below : List Frame} {meth : Method} {c : Code} {H : Heap} {locs : List Loc} {cells slots : Nat} {Q : State → Prop} {cc : ByteArray} {pc : Nat} {ls : Array Slot} {rest : List Value} {own : String} {index nL : Nat} {Ts : List Cond} {H0 : Heap} {A0 : Nat → Prop}
theorem k_X4_isClaim_ok (l : Launch) {dC : Nat → ClassId} {dI : Nat → Nat → Nat} {cI cZ : ClassId} {am : Nat → Nat} {sm fe ex : Int32} {gp gc : Nat → Int32} {dy : Int32} {n : Nat} {pe gr st dl wo : Nat → Int32} {q : Nat} {yc ya yd ys tp fu sh ro : Nat → Int32} {th : Int32} {k : Nat} (hn : n ≤ 24) (hk : k < n) (hx : p.tables.exec = Jvm.exec) (hb : c.code = cc) (hml : c.maxLocals = nL) (hown : s.vm.findClass own = some m.cls) (hts : ∀ w ∈ Ts, w.before args s = true) (hK : va_K (dC, dI) vwCl [(cI, .int), (cZ, .boolean)] s) (hP : va_P (dC, dI) vwCl (wM cI cZ am sm fe ex gp gc dy n pe gr st dl wo q yc ya yd ys tp fu sh ro th) H) (hg9 : GoodIn Ts (wsV own index RX4 yX4_isClaim wsX4_isClaim)) (hR9 : 1 + 1 ≤ R.frames ∧ 8 + (2 + 11) + 22 ≤ R.locals) (hc9 : cells ≤ R.cells ∧ slots ≤ R.slots) (hl9 : ls.size = nL) (hw9 : (rest.map fun v => v.category).sum ≤ 8) (hdg : decode cc pc = .ok (.invokevirtual index, 3)) (kk : W p l e R s m args below meth c H locs cells slots Q (F0 m (pc + 3) ls (.int (nI 1) :: rest))) : W p l e R s m args below meth c H locs cells slots Q (F0 m pc ls (.int (nI k) :: .ref (am 0) :: rest)) := zc_ro (W.runV (As := [.int (nI k)]) (rest := rest) ⟨hx, hb, hml, hown, hts⟩ (c_X4_isClaim_ok (dC := dC) (dI := dI) (cI := cI) (cZ := cZ) (am := am) (sm := sm) (fe := fe) (ex := ex) (gp := gp) (gc := gc) (dy := dy) (n := n) (pe := pe) (gr := gr) (st := st) (dl := dl) (wo := wo) (q := q) (yc := yc) (ya := ya) (yd := yd) (ys := ys) (tp := tp) (fu := fu) (sh := sh) (ro := ro) (th := th) (k := k) l hn hk) (cwV 1 hts hg9 rfl rfl rfl (by decide +kernel) hR9) ⟨fun a U g mk q => ⟨q.1, q.2.1, va_K.moved (u := U) (U := U.calling g mk a) (Vm.Alike.refl U.vm) q.2.2⟩, rM_0 hK hP, fun U hU hW => ⟨rfl, by rw [hU]; exact hP, va_K.moved hW.alike hK⟩⟩ rfl rfl hl9 rfl (lv_room hw9) hdg hc9) (fun r h => by subst h; exact kk)
end
set_option maxHeartbeats 4000000 in
set_option maxRecDepth 100000 in
theorem c_X4_isClaim_no (l : Launch) {dC : Nat → ClassId} {dI : Nat → Nat → Nat} {cI cZ : ClassId} {am : Nat → Nat} {sm fe ex : Int32} {gp gc : Nat → Int32} {dy : Int32} {n : Nat} {pe gr st dl wo : Nat → Int32} {q : Nat} {yc ya yd ys tp fu sh ro : Nat → Int32} {th : Int32} {x : Int32} (hn : n ≤ 24) (hk : ¬ vp_in x n) : Met l yX4_isClaim wsX4_isClaim { frames := 1, cells := 0, slots := 0, locals := 22 } (va_Pc [.ref (am 0), .int x] (fun U => va_P (dC, dI) vwCl (wM cI cZ am sm fe ex gp gc dy n pe gr st dl wo q yc ya yd ys tp fu sh ro th) U.heap ∧ va_K (dC, dI) vwCl [(cI, .int), (cZ, .boolean)] U)) (vp_Si (fun r => r = nI 0)) 0 0 (fun _ => False) := by
  refine Met.ofW (cc := cX4_isClaim) (maxL := 2) (ret := (some .boolean)) (by decide) rfl ?_
  intro p e s m args below meth c s₁ B hml hv
  obtain ⟨rfl, hP, hK⟩ := hv
  have hx := B.exec
  have hb := B.bytes
  have hr := B.returns
  have hts := atoms_spec (ws := wsX4_isClaim) B.pre
  have hown : s.vm.findClass RX4 = some m.cls := findClass_of_methodNamed B.named
  have hlocks := B.notSynchronized
  have hl := lv_entry ([.ref (am 0), .int x]) (n := 2) (Nat.le_of_ble_eq_true rfl)
  rw [lg_entry_eq]
  generalize (lg_sl ([.ref (am 0), .int x]) ++ List.replicate (2 - (lg_sl ([.ref (am 0), .int x])).length) Slot.unset).toArray = ls at hl ⊢
  have hl : lv_has ls 2 [(0, .ref (am 0)), (1, .int x)] := hl
  have hiX4 : ∀ w ∈ wsX40, w ∈ wsX4_isClaim := by decide +kernel
  have hf61 := hts (.fieldLink RX4 61 "SettlementFundModel" "claims" "I") (by decide +kernel)
  refine lv_iload_n hx hb dX4_isClaim_0 rfl (lv_at hl 1 rfl) ?_
  refine lv_iconst (v := nI 0) hx hb dX4_isClaim_1 (by decide) ?_
  refine lv_aload_n hx hb dX4_isClaim_2 rfl (lv_at hl 0 rfl) ?_
  refine gM_0_6 hx hb hts hiX4 hown hK hP hf61 dX4_isClaim_3 ?_
  refine lv_iconst (v := nI 1) hx hb dX4_isClaim_6 (by decide) ?_
  refine lv_isub hx hb dX4_isClaim_7 ?_
  refine k_X4_isIn l (x := x) (a := nI 0) (b := (nI n) - (nI 1)) hx hb hml hown hts  gX4_isClaim_X4_isIn ⟨Nat.le_of_ble_eq_true rfl, Nat.le_of_ble_eq_true rfl⟩ ⟨Nat.le_of_ble_eq_true rfl, Nat.le_of_ble_eq_true rfl⟩ hl.1 (Nat.le_of_ble_eq_true rfl) dX4_isClaim_8 ?_
  refine zt_i (y := nI 0) (by rw [oc_no hk (by omega)]) ?_
  exact W.zret (v := nI 0) hx hb hr (rfl) (fun t ht hW => ⟨nI 0, rfl, rfl, ht⟩) (fun _ h => nomatch h) dX4_isClaim_11
section
variable {p : Program} {e : Env} {R : Room} {s : State} {m : MethodId} {args : Array Value} {below : List Frame} {meth : Method} {c : Code} {H : Heap} {locs : List Loc} {cells slots : Nat} {Q : State → Prop} {cc : ByteArray} {pc : Nat} {ls : Array Slot} {rest : List Value} {own : String} {index nL : Nat} {Ts : List Cond} {H0 : Heap} {A0 : Nat → Prop}
theorem k_X4_isClaim_no (l : Launch) {dC : Nat → ClassId} {dI : Nat → Nat → Nat} {cI cZ : ClassId} {am : Nat → Nat} {sm fe ex : Int32} {gp gc : Nat → Int32} {dy : Int32} {n : Nat} {pe gr st dl wo : Nat → Int32} {q : Nat} {yc ya yd ys tp fu sh ro : Nat → Int32} {th : Int32} {x : Int32} (hn : n ≤ 24) (hk : ¬ vp_in x n) (hx : p.tables.exec = Jvm.exec) (hb : c.code = cc) (hml : c.maxLocals = nL) (hown : s.vm.findClass own = some m.cls) (hts : ∀ w ∈ Ts, w.before args s = true) (hK : va_K (dC, dI) vwCl [(cI, .int), (cZ, .boolean)] s) (hP : va_P (dC, dI) vwCl (wM cI cZ am sm fe ex gp gc dy n pe gr st dl wo q yc ya yd ys tp fu sh ro th) H) (hg9 : GoodIn Ts (wsV own index RX4 yX4_isClaim wsX4_isClaim)) (hR9 : 1 + 1 ≤ R.frames ∧ 8 + (2 + 11) + 22 ≤ R.locals) (hc9 : cells ≤ R.cells ∧ slots ≤ R.slots) (hl9 : ls.size = nL) (hw9 : (rest.map fun v => v.category).sum ≤ 8) (hdg : decode cc pc = .ok (.invokevirtual index, 3)) (kk : W p l e R s m args below meth c H locs cells slots Q (F0 m (pc + 3) ls (.int (nI 0) :: rest))) : W p l e R s m args below meth c H locs cells slots Q (F0 m pc ls (.int x :: .ref (am 0) :: rest)) := zc_ro (W.runV (As := [.int x]) (rest := rest) ⟨hx, hb, hml, hown, hts⟩ (c_X4_isClaim_no (dC := dC) (dI := dI) (cI := cI) (cZ := cZ) (am := am) (sm := sm) (fe := fe) (ex := ex) (gp := gp) (gc := gc) (dy := dy) (n := n) (pe := pe) (gr := gr) (st := st) (dl := dl) (wo := wo) (q := q) (yc := yc) (ya := ya) (yd := yd) (ys := ys) (tp := tp) (fu := fu) (sh := sh) (ro := ro) (th := th) (x := x) l hn hk) (cwV 1 hts hg9 rfl rfl rfl (by decide +kernel) hR9) ⟨fun a U g mk q => ⟨q.1, q.2.1, va_K.moved (u := U) (U := U.calling g mk a) (Vm.Alike.refl U.vm) q.2.2⟩, rM_0 hK hP, fun U hU hW => ⟨rfl, by rw [hU]; exact hP, va_K.moved hW.alike hK⟩⟩ rfl rfl hl9 rfl (lv_room hw9) hdg hc9) (fun r h => by subst h; exact kk)
end
set_option maxHeartbeats 4000000 in
set_option maxRecDepth 100000 in
theorem c_X4_isPayment_ok (l : Launch) {dC : Nat → ClassId} {dI : Nat → Nat → Nat} {cI cZ : ClassId} {am : Nat → Nat} {sm fe ex : Int32} {gp gc : Nat → Int32} {dy : Int32} {n : Nat} {pe gr st dl wo : Nat → Int32} {q : Nat} {yc ya yd ys tp fu sh ro : Nat → Int32} {th : Int32} {k : Nat} (hq : q ≤ 100) (hk : k < q) : Met l yX4_isPayment wsX4_isPayment { frames := 1, cells := 0, slots := 0, locals := 22 } (va_Pc [.ref (am 0), .int (nI k)] (fun U => va_P (dC, dI) vwCl (wM cI cZ am sm fe ex gp gc dy n pe gr st dl wo q yc ya yd ys tp fu sh ro th) U.heap ∧ va_K (dC, dI) vwCl [(cI, .int), (cZ, .boolean)] U)) (vp_Si (fun r => r = nI 1)) 0 0 (fun _ => False) := by
  refine Met.ofW (cc := cX4_isPayment) (maxL := 2) (ret := (some .boolean)) (by decide) rfl ?_
  intro p e s m args below meth c s₁ B hml hv
  obtain ⟨rfl, hP, hK⟩ := hv
  have hx := B.exec
  have hb := B.bytes
  have hr := B.returns
  have hts := atoms_spec (ws := wsX4_isPayment) B.pre
  have hown : s.vm.findClass RX4 = some m.cls := findClass_of_methodNamed B.named
  have hlocks := B.notSynchronized
  have hl := lv_entry ([.ref (am 0), .int (nI k)]) (n := 2) (Nat.le_of_ble_eq_true rfl)
  rw [lg_entry_eq]
  generalize (lg_sl ([.ref (am 0), .int (nI k)]) ++ List.replicate (2 - (lg_sl ([.ref (am 0), .int (nI k)])).length) Slot.unset).toArray = ls at hl ⊢
  have hl : lv_has ls 2 [(0, .ref (am 0)), (1, .int (nI k))] := hl
  have hiX4 : ∀ w ∈ wsX40, w ∈ wsX4_isPayment := by decide +kernel
  have hf68 := hts (.fieldLink RX4 68 "SettlementFundModel" "payments" "I") (by decide +kernel)
  refine lv_iload_n hx hb dX4_isPayment_0 rfl (lv_at hl 1 rfl) ?_
  refine lv_iconst (v := nI 0) hx hb dX4_isPayment_1 (by decide) ?_
  refine lv_aload_n hx hb dX4_isPayment_2 rfl (lv_at hl 0 rfl) ?_
  refine gM_0_12 hx hb hts hiX4 hown hK hP hf68 dX4_isPayment_3 ?_
  refine lv_iconst (v := nI 1) hx hb dX4_isPayment_6 (by decide) ?_
  refine lv_isub hx hb dX4_isPayment_7 ?_
  refine k_X4_isIn l (x := nI k) (a := nI 0) (b := (nI q) - (nI 1)) hx hb hml hown hts  gX4_isPayment_X4_isIn ⟨Nat.le_of_ble_eq_true rfl, Nat.le_of_ble_eq_true rfl⟩ ⟨Nat.le_of_ble_eq_true rfl, Nat.le_of_ble_eq_true rfl⟩ hl.1 (Nat.le_of_ble_eq_true rfl) dX4_isPayment_8 ?_
  refine zt_i (y := nI 1) (by rw [oc_ok hk (by omega)]) ?_
  exact W.zret (v := nI 1) hx hb hr (rfl) (fun t ht hW => ⟨nI 1, rfl, rfl, ht⟩) (fun _ h => nomatch h) dX4_isPayment_11
section
variable {p : Program} {e : Env} {R : Room} {s : State} {m : MethodId} {args : Array Value} {below : List Frame} {meth : Method} {c : Code} {H : Heap} {locs : List Loc} {cells slots : Nat} {Q : State → Prop} {cc : ByteArray} {pc : Nat} {ls : Array Slot} {rest : List Value} {own : String} {index nL : Nat} {Ts : List Cond} {H0 : Heap} {A0 : Nat → Prop}
theorem k_X4_isPayment_ok (l : Launch) {dC : Nat → ClassId} {dI : Nat → Nat → Nat} {cI cZ : ClassId} {am : Nat → Nat} {sm fe ex : Int32} {gp gc : Nat → Int32} {dy : Int32} {n : Nat} {pe gr st dl wo : Nat → Int32} {q : Nat} {yc ya yd ys tp fu sh ro : Nat → Int32} {th : Int32} {k : Nat} (hq : q ≤ 100) (hk : k < q) (hx : p.tables.exec = Jvm.exec) (hb : c.code = cc) (hml : c.maxLocals = nL) (hown : s.vm.findClass own = some m.cls) (hts : ∀ w ∈ Ts, w.before args s = true) (hK : va_K (dC, dI) vwCl [(cI, .int), (cZ, .boolean)] s) (hP : va_P (dC, dI) vwCl (wM cI cZ am sm fe ex gp gc dy n pe gr st dl wo q yc ya yd ys tp fu sh ro th) H) (hg9 : GoodIn Ts (wsV own index RX4 yX4_isPayment wsX4_isPayment)) (hR9 : 1 + 1 ≤ R.frames ∧ 8 + (2 + 11) + 22 ≤ R.locals) (hc9 : cells ≤ R.cells ∧ slots ≤ R.slots) (hl9 : ls.size = nL) (hw9 : (rest.map fun v => v.category).sum ≤ 8) (hdg : decode cc pc = .ok (.invokevirtual index, 3)) (kk : W p l e R s m args below meth c H locs cells slots Q (F0 m (pc + 3) ls (.int (nI 1) :: rest))) : W p l e R s m args below meth c H locs cells slots Q (F0 m pc ls (.int (nI k) :: .ref (am 0) :: rest)) := zc_ro (W.runV (As := [.int (nI k)]) (rest := rest) ⟨hx, hb, hml, hown, hts⟩ (c_X4_isPayment_ok (dC := dC) (dI := dI) (cI := cI) (cZ := cZ) (am := am) (sm := sm) (fe := fe) (ex := ex) (gp := gp) (gc := gc) (dy := dy) (n := n) (pe := pe) (gr := gr) (st := st) (dl := dl) (wo := wo) (q := q) (yc := yc) (ya := ya) (yd := yd) (ys := ys) (tp := tp) (fu := fu) (sh := sh) (ro := ro) (th := th) (k := k) l hq hk) (cwV 1 hts hg9 rfl rfl rfl (by decide +kernel) hR9) ⟨fun a U g mk q => ⟨q.1, q.2.1, va_K.moved (u := U) (U := U.calling g mk a) (Vm.Alike.refl U.vm) q.2.2⟩, rM_0 hK hP, fun U hU hW => ⟨rfl, by rw [hU]; exact hP, va_K.moved hW.alike hK⟩⟩ rfl rfl hl9 rfl (lv_room hw9) hdg hc9) (fun r h => by subst h; exact kk)
end
set_option maxHeartbeats 4000000 in
set_option maxRecDepth 100000 in
theorem c_X4_isPayment_no (l : Launch) {dC : Nat → ClassId} {dI : Nat → Nat → Nat} {cI cZ : ClassId} {am : Nat → Nat} {sm fe ex : Int32} {gp gc : Nat → Int32} {dy : Int32} {n : Nat} {pe gr st dl wo : Nat → Int32} {q : Nat} {yc ya yd ys tp fu sh ro : Nat → Int32} {th : Int32} {x : Int32} (hq : q ≤ 100) (hk : ¬ vp_in x q) : Met l yX4_isPayment wsX4_isPayment { frames := 1, cells := 0, slots := 0, locals := 22 } (va_Pc [.ref (am 0), .int x] (fun U => va_P (dC, dI) vwCl (wM cI cZ am sm fe ex gp gc dy n pe gr st dl wo q yc ya yd ys tp fu sh ro th) U.heap ∧ va_K (dC, dI) vwCl [(cI, .int), (cZ, .boolean)] U)) (vp_Si (fun r => r = nI 0)) 0 0 (fun _ => False) := by
  refine Met.ofW (cc := cX4_isPayment) (maxL := 2) (ret := (some .boolean)) (by decide) rfl ?_
  intro p e s m args below meth c s₁ B hml hv
  obtain ⟨rfl, hP, hK⟩ := hv
  have hx := B.exec
  have hb := B.bytes
  have hr := B.returns
  have hts := atoms_spec (ws := wsX4_isPayment) B.pre
  have hown : s.vm.findClass RX4 = some m.cls := findClass_of_methodNamed B.named
  have hlocks := B.notSynchronized
  have hl := lv_entry ([.ref (am 0), .int x]) (n := 2) (Nat.le_of_ble_eq_true rfl)
  rw [lg_entry_eq]
  generalize (lg_sl ([.ref (am 0), .int x]) ++ List.replicate (2 - (lg_sl ([.ref (am 0), .int x])).length) Slot.unset).toArray = ls at hl ⊢
  have hl : lv_has ls 2 [(0, .ref (am 0)), (1, .int x)] := hl
  have hiX4 : ∀ w ∈ wsX40, w ∈ wsX4_isPayment := by decide +kernel
  have hf68 := hts (.fieldLink RX4 68 "SettlementFundModel" "payments" "I") (by decide +kernel)
  refine lv_iload_n hx hb dX4_isPayment_0 rfl (lv_at hl 1 rfl) ?_
  refine lv_iconst (v := nI 0) hx hb dX4_isPayment_1 (by decide) ?_
  refine lv_aload_n hx hb dX4_isPayment_2 rfl (lv_at hl 0 rfl) ?_
  refine gM_0_12 hx hb hts hiX4 hown hK hP hf68 dX4_isPayment_3 ?_
  refine lv_iconst (v := nI 1) hx hb dX4_isPayment_6 (by decide) ?_
  refine lv_isub hx hb dX4_isPayment_7 ?_
  refine k_X4_isIn l (x := x) (a := nI 0) (b := (nI q) - (nI 1)) hx hb hml hown hts  gX4_isPayment_X4_isIn ⟨Nat.le_of_ble_eq_true rfl, Nat.le_of_ble_eq_true rfl⟩ ⟨Nat.le_of_ble_eq_true rfl, Nat.le_of_ble_eq_true rfl⟩ hl.1 (Nat.le_of_ble_eq_true rfl) dX4_isPayment_8 ?_
  refine zt_i (y := nI 0) (by rw [oc_no hk (by omega)]) ?_
  exact W.zret (v := nI 0) hx hb hr (rfl) (fun t ht hW => ⟨nI 0, rfl, rfl, ht⟩) (fun _ h => nomatch h) dX4_isPayment_11
section
variable {p : Program} {e : Env} {R : Room} {s : State} {m : MethodId} {args : Array Value} {below : List Frame} {meth : Method} {c : Code} {H : Heap} {locs : List Loc} {cells slots : Nat} {Q : State → Prop} {cc : ByteArray} {pc : Nat} {ls : Array Slot} {rest : List Value} {own : String} {index nL : Nat} {Ts : List Cond} {H0 : Heap} {A0 : Nat → Prop}
theorem k_X4_isPayment_no (l : Launch) {dC : Nat → ClassId} {dI : Nat → Nat → Nat} {cI cZ : ClassId} {am : Nat → Nat} {sm fe ex : Int32} {gp gc : Nat → Int32} {dy : Int32} {n : Nat} {pe gr st dl wo : Nat → Int32} {q : Nat} {yc ya yd ys tp fu sh ro : Nat → Int32} {th : Int32} {x : Int32} (hq : q ≤ 100) (hk : ¬ vp_in x q) (hx : p.tables.exec = Jvm.exec) (hb : c.code = cc) (hml : c.maxLocals = nL) (hown : s.vm.findClass own = some m.cls) (hts : ∀ w ∈ Ts, w.before args s = true) (hK : va_K (dC, dI) vwCl [(cI, .int), (cZ, .boolean)] s) (hP : va_P (dC, dI) vwCl (wM cI cZ am sm fe ex gp gc dy n pe gr st dl wo q yc ya yd ys tp fu sh ro th) H) (hg9 : GoodIn Ts (wsV own index RX4 yX4_isPayment wsX4_isPayment)) (hR9 : 1 + 1 ≤ R.frames ∧ 8 + (2 + 11) + 22 ≤ R.locals) (hc9 : cells ≤ R.cells ∧ slots ≤ R.slots) (hl9 : ls.size = nL) (hw9 : (rest.map fun v => v.category).sum ≤ 8) (hdg : decode cc pc = .ok (.invokevirtual index, 3)) (kk : W p l e R s m args below meth c H locs cells slots Q (F0 m (pc + 3) ls (.int (nI 0) :: rest))) : W p l e R s m args below meth c H locs cells slots Q (F0 m pc ls (.int x :: .ref (am 0) :: rest)) := zc_ro (W.runV (As := [.int x]) (rest := rest) ⟨hx, hb, hml, hown, hts⟩ (c_X4_isPayment_no (dC := dC) (dI := dI) (cI := cI) (cZ := cZ) (am := am) (sm := sm) (fe := fe) (ex := ex) (gp := gp) (gc := gc) (dy := dy) (n := n) (pe := pe) (gr := gr) (st := st) (dl := dl) (wo := wo) (q := q) (yc := yc) (ya := ya) (yd := yd) (ys := ys) (tp := tp) (fu := fu) (sh := sh) (ro := ro) (th := th) (x := x) l hq hk) (cwV 1 hts hg9 rfl rfl rfl (by decide +kernel) hR9) ⟨fun a U g mk q => ⟨q.1, q.2.1, va_K.moved (u := U) (U := U.calling g mk a) (Vm.Alike.refl U.vm) q.2.2⟩, rM_0 hK hP, fun U hU hW => ⟨rfl, by rw [hU]; exact hP, va_K.moved hW.alike hK⟩⟩ rfl rfl hl9 rfl (lv_room hw9) hdg hc9) (fun r h => by subst h; exact kk)
end
set_option maxHeartbeats 4000000 in
set_option maxRecDepth 100000 in
theorem c_X4_feeNow (l : Launch) {dC : Nat → ClassId} {dI : Nat → Nat → Nat} {cI cZ : ClassId} {am : Nat → Nat} {sm fe ex : Int32} {gp gc : Nat → Int32} {dy : Int32} {n : Nat} {pe gr st dl wo : Nat → Int32} {q : Nat} {yc ya yd ys tp fu sh ro : Nat → Int32} {th : Int32}   : Met l yX4_feeNow wsX4_feeNow { frames := 0, cells := 0, slots := 0, locals := 0 } (va_Pc [.ref (am 0)] (fun U => va_P (dC, dI) vwCl (wM cI cZ am sm fe ex gp gc dy n pe gr st dl wo q yc ya yd ys tp fu sh ro th) U.heap ∧ va_K (dC, dI) vwCl [(cI, .int), (cZ, .boolean)] U)) (vp_Si (fun r => r = feeF sm fe)) 0 0 (fun _ => False) := by
  refine Met.ofW (cc := cX4_feeNow) (maxL := 1) (ret := (some .int)) (by decide) rfl ?_
  intro p e s m args below meth c s₁ B hml hv
  obtain ⟨rfl, hP, hK⟩ := hv
  have hx := B.exec
  have hb := B.bytes
  have hr := B.returns
  have hts := atoms_spec (ws := wsX4_feeNow) B.pre
  have hown : s.vm.findClass RX4 = some m.cls := findClass_of_methodNamed B.named
  have hlocks := B.notSynchronized
  have hl := lv_entry ([.ref (am 0)]) (n := 1) (Nat.le_of_ble_eq_true rfl)
  rw [lg_entry_eq]
  generalize (lg_sl ([.ref (am 0)]) ++ List.replicate (1 - (lg_sl ([.ref (am 0)])).length) Slot.unset).toArray = ls at hl ⊢
  have hl : lv_has ls 1 [(0, .ref (am 0))] := hl
  have hiX4 : ∀ w ∈ wsX40, w ∈ wsX4_feeNow := by decide +kernel
  have hf71 := hts (.fieldLink RX4 71 "SettlementFundModel" "sum" "I") (by decide +kernel)
  have hf74 := hts (.fieldLink RX4 74 "SettlementFundModel" "fee" "I") (by decide +kernel)
  have hk77 := hts (.constantLong RX4 77 1000) (by decide +kernel)
  refine lv_aload_n hx hb dX4_feeNow_0 rfl (lv_at hl 0 rfl) ?_
  refine gM_0_0 hx hb hts hiX4 hown hK hP hf71 dX4_feeNow_1 ?_
  refine lv_i2l (v := sm.toInt64) hx hb dX4_feeNow_4 rfl ?_
  refine lv_aload_n hx hb dX4_feeNow_5 rfl (lv_at hl 0 rfl) ?_
  refine gM_0_1 hx hb hts hiX4 hown hK hP hf74 dX4_feeNow_6 ?_
  refine lv_i2l (v := fe.toInt64) hx hb dX4_feeNow_9 rfl ?_
  refine lv_lmul hx hb dX4_feeNow_10 ?_
  refine lv_ldc2 hx hb hown hk77 dX4_feeNow_11 ?_
  refine zt_l (y := lN 1000) rfl ?_
  refine lv_ldiv hx hb dX4_feeNow_14 (by decide) ?_
  refine lv_l2i (v := ((sm.toInt64 * fe.toInt64) / (lN 1000)).toInt32) hx hb dX4_feeNow_15 rfl ?_
  exact W.iret (v := ((sm.toInt64 * fe.toInt64) / (lN 1000)).toInt32) hx hb hr (fun t ht hW => ⟨((sm.toInt64 * fe.toInt64) / (lN 1000)).toInt32, rfl, by first | rfl | (rw [if_pos (by omega)]; done) | (rw [if_neg (by omega)]; done) | (simp []; done), ht⟩) (fun _ h => nomatch h) dX4_feeNow_16
section
variable {p : Program} {e : Env} {R : Room} {s : State} {m : MethodId} {args : Array Value} {below : List Frame} {meth : Method} {c : Code} {H : Heap} {locs : List Loc} {cells slots : Nat} {Q : State → Prop} {cc : ByteArray} {pc : Nat} {ls : Array Slot} {rest : List Value} {own : String} {index nL : Nat} {Ts : List Cond} {H0 : Heap} {A0 : Nat → Prop}
theorem k_X4_feeNow (l : Launch) {dC : Nat → ClassId} {dI : Nat → Nat → Nat} {cI cZ : ClassId} {am : Nat → Nat} {sm fe ex : Int32} {gp gc : Nat → Int32} {dy : Int32} {n : Nat} {pe gr st dl wo : Nat → Int32} {q : Nat} {yc ya yd ys tp fu sh ro : Nat → Int32} {th : Int32}   (hx : p.tables.exec = Jvm.exec) (hb : c.code = cc) (hml : c.maxLocals = nL) (hown : s.vm.findClass own = some m.cls) (hts : ∀ w ∈ Ts, w.before args s = true) (hK : va_K (dC, dI) vwCl [(cI, .int), (cZ, .boolean)] s) (hP : va_P (dC, dI) vwCl (wM cI cZ am sm fe ex gp gc dy n pe gr st dl wo q yc ya yd ys tp fu sh ro th) H) (hg9 : GoodIn Ts (wsV own index RX4 yX4_feeNow wsX4_feeNow)) (hR9 : 0 + 1 ≤ R.frames ∧ 8 + (1 + 11) + 0 ≤ R.locals) (hc9 : cells ≤ R.cells ∧ slots ≤ R.slots) (hl9 : ls.size = nL) (hw9 : (rest.map fun v => v.category).sum ≤ 8) (hdg : decode cc pc = .ok (.invokevirtual index, 3)) (kk : W p l e R s m args below meth c H locs cells slots Q (F0 m (pc + 3) ls (.int (feeF sm fe) :: rest))) : W p l e R s m args below meth c H locs cells slots Q (F0 m pc ls (.ref (am 0) :: rest)) := zc_ro (W.runV (As := []) (rest := rest) ⟨hx, hb, hml, hown, hts⟩ (c_X4_feeNow (dC := dC) (dI := dI) (cI := cI) (cZ := cZ) (am := am) (sm := sm) (fe := fe) (ex := ex) (gp := gp) (gc := gc) (dy := dy) (n := n) (pe := pe) (gr := gr) (st := st) (dl := dl) (wo := wo) (q := q) (yc := yc) (ya := ya) (yd := yd) (ys := ys) (tp := tp) (fu := fu) (sh := sh) (ro := ro) (th := th) l ) (cwV 0 hts hg9 rfl rfl rfl (by decide +kernel) hR9) ⟨fun a U g mk q => ⟨q.1, q.2.1, va_K.moved (u := U) (U := U.calling g mk a) (Vm.Alike.refl U.vm) q.2.2⟩, rM_0 hK hP, fun U hU hW => ⟨rfl, by rw [hU]; exact hP, va_K.moved hW.alike hK⟩⟩ rfl rfl hl9 rfl (lv_room hw9) hdg hc9) (fun r h => by subst h; exact kk)
end
set_option maxHeartbeats 4000000 in
set_option maxRecDepth 100000 in
theorem c_X4_left (l : Launch) {dC : Nat → ClassId} {dI : Nat → Nat → Nat} {cI cZ : ClassId} {am : Nat → Nat} {sm fe ex : Int32} {gp gc : Nat → Int32} {dy : Int32} {n : Nat} {pe gr st dl wo : Nat → Int32} {q : Nat} {yc ya yd ys tp fu sh ro : Nat → Int32} {th : Int32}  (hq : q ≤ 100) : Met l yX4_left wsX4_left { frames := 1, cells := 0, slots := 0, locals := 20 } (va_Pc [.ref (am 0)] (fun U => va_P (dC, dI) vwCl (wM cI cZ am sm fe ex gp gc dy n pe gr st dl wo q yc ya yd ys tp fu sh ro th) U.heap ∧ va_K (dC, dI) vwCl [(cI, .int), (cZ, .boolean)] U)) (vp_Si (fun r => r = leftF sm fe ex ya ys q)) 0 0 (fun _ => False) := by
  refine Met.ofW (cc := cX4_left) (maxL := 3) (ret := (some .int)) (by decide) rfl ?_
  intro p e s m args below meth c s₁ B hml hv
  obtain ⟨rfl, hP, hK⟩ := hv
  have hx := B.exec
  have hb := B.bytes
  have hr := B.returns
  have hts := atoms_spec (ws := wsX4_left) B.pre
  have hown : s.vm.findClass RX4 = some m.cls := findClass_of_methodNamed B.named
  have hlocks := B.notSynchronized
  have hl := lv_entry ([.ref (am 0)]) (n := 3) (Nat.le_of_ble_eq_true rfl)
  rw [lg_entry_eq]
  generalize (lg_sl ([.ref (am 0)]) ++ List.replicate (3 - (lg_sl ([.ref (am 0)])).length) Slot.unset).toArray = ls at hl ⊢
  have hl : lv_has ls 3 [(0, .ref (am 0))] := hl
  have hiX4 : ∀ w ∈ wsX40, w ∈ wsX4_left := by decide +kernel
  have hf71 := hts (.fieldLink RX4 71 "SettlementFundModel" "sum" "I") (by decide +kernel)
  have hf83 := hts (.fieldLink RX4 83 "SettlementFundModel" "expenses" "I") (by decide +kernel)
  have hf68 := hts (.fieldLink RX4 68 "SettlementFundModel" "payments" "I") (by decide +kernel)
  have hf41 := hts (.fieldLink RX4 41 "SettlementFundModel" "paymentStates" "[I") (by decide +kernel)
  have hf35 := hts (.fieldLink RX4 35 "SettlementFundModel" "amounts" "[I") (by decide +kernel)
  refine lv_aload_n hx hb dX4_left_0 rfl (lv_at hl 0 rfl) ?_
  refine gM_0_0 hx hb hts hiX4 hown hK hP hf71 dX4_left_1 ?_
  refine lv_aload_n hx hb dX4_left_4 rfl (lv_at hl 0 rfl) ?_
  refine k_X4_feeNow l  hx hb hml hown hts hK hP gX4_left_X4_feeNow ⟨Nat.le_of_ble_eq_true rfl, Nat.le_of_ble_eq_true rfl⟩ ⟨Nat.le_of_ble_eq_true rfl, Nat.le_of_ble_eq_true rfl⟩ hl.1 (Nat.le_of_ble_eq_true rfl) dX4_left_5 ?_
  refine lv_isub hx hb dX4_left_8 ?_
  refine lv_aload_n hx hb dX4_left_9 rfl (lv_at hl 0 rfl) ?_
  refine gM_0_2 hx hb hts hiX4 hown hK hP hf83 dX4_left_10 ?_
  refine lv_isub hx hb dX4_left_13 ?_
  refine zt_i (y := leftI (sm - feeF sm fe - ex) ya ys 0) ((zz_s0 _).symm) ?_
  refine lv_istore_n (lv' := [(1, .int (leftI (sm - feeF sm fe - ex) ya ys 0)), (0, .ref (am 0))]) hx hb dX4_left_14 rfl hl (by decide) rfl (fun ls hl => ?_)
  refine lv_iconst (v := nI 0) hx hb dX4_left_15 (by decide) ?_
  refine lv_istore_n (lv' := [(2, .int (nI 0)), (1, .int (leftI (sm - feeF sm fe - ex) ya ys 0)), (0, .ref (am 0))]) hx hb dX4_left_16 rfl hl (by decide) rfl (fun ls hl => ?_)
  refine zl_ro (fun a9 : Nat => [(0, .ref (am 0)), (1, .int (leftI (sm - feeF sm fe - ex) ya ys a9)), (2, .int (nI a9))]) (fun a9 : Nat => a9 ≤ q) (fun a9 : Nat => q - a9) 0 (Nat.zero_le _) (lv_sub hl [2, 1, 0] rfl) ?_
  intro a9 hi_17 ih_17 ls hl
  obtain ⟨i, rfl⟩ : ∃ z, z = a9 := ⟨_, rfl⟩
  have hi_17 : i ≤ q := hi_17
  have hl : lv_has ls 3 [(0, .ref (am 0)), (1, .int (leftI (sm - feeF sm fe - ex) ya ys i)), (2, .int (nI i))] := hl
  refine lv_iload_n hx hb dX4_left_17 rfl (lv_at hl 2 rfl) ?_
  refine lv_aload_n hx hb dX4_left_18 rfl (lv_at hl 0 rfl) ?_
  refine gM_0_12 hx hb hts hiX4 hown hK hP hf68 dX4_left_19 ?_
  refine zb_ge (tgt := 54) hx hb (by omega) (by omega) dX4_left_22 (by decide) (fun c_22 => ?_) (fun c_22 => ?_)
  · refine lv_iload_n hx hb dX4_left_54 rfl (lv_at hl 1 rfl) ?_
    exact W.iret (v := leftI (sm - feeF sm fe - ex) ya ys i) hx hb hr (fun t ht hW => ⟨leftI (sm - feeF sm fe - ex) ya ys i, rfl, by rw [show i = q by omega]; rfl, ht⟩) (fun _ h => nomatch h) dX4_left_55
  · refine lv_iload_n hx hb dX4_left_25 rfl (lv_at hl 1 rfl) ?_
    refine lv_aload_n hx hb dX4_left_26 rfl (lv_at hl 0 rfl) ?_
    refine gM_0_16 hx hb hts hiX4 hown hK hP hf41 dX4_left_27 ?_
    refine lv_iload_n hx hb dX4_left_30 rfl (lv_at hl 2 rfl) ?_
    refine lM_11 hx hb hK hP (by omega) dX4_left_31 ?_
    refine lv_iconst (v := nI 2) hx hb dX4_left_32 (by decide) ?_
    refine lv_icmp_ne (tgt := 40) hx hb dX4_left_33 (by decide) (fun c_33 => ?_) (fun c_33 => ?_)
    · refine lv_aload_n hx hb dX4_left_40 rfl (lv_at hl 0 rfl) ?_
      refine gM_0_14 hx hb hts hiX4 hown hK hP hf35 dX4_left_41 ?_
      refine lv_iload_n hx hb dX4_left_44 rfl (lv_at hl 2 rfl) ?_
      refine lM_9 hx hb hK hP (by omega) dX4_left_45 ?_
      refine lv_isub hx hb dX4_left_46 ?_
      refine zt_i (y := leftI (sm - feeF sm fe - ex) ya ys (i + 1)) (leftI_n c_33) ?_
      refine lv_istore_n (lv' := [(1, .int (leftI (sm - feeF sm fe - ex) ya ys (i + 1))), (0, .ref (am 0)), (2, .int (nI i))]) hx hb dX4_left_47 rfl hl (by decide) rfl (fun ls hl => ?_)
      refine lv_iinc (v := nI (i + 1)) (lv' := [(2, .int (nI (i + 1))), (1, .int (leftI (sm - feeF sm fe - ex) ya ys (i + 1))), (0, .ref (am 0))]) hx hb dX4_left_48 hl (k := 2) rfl (zz_inc _) (by decide) rfl (fun ls hl => ?_)
      refine lv_goto (tgt := 17) hx hb dX4_left_51 (by decide) ?_
      exact ih_17 (i + 1) (by omega) (by omega) ls (lv_sub hl [2, 1, 0] rfl)
    · refine lv_iconst (v := nI 0) hx hb dX4_left_36 (by decide) ?_
      refine lv_goto (tgt := 46) hx hb dX4_left_37 (by decide) ?_
      refine lv_isub hx hb dX4_left_46 ?_
      refine zt_i (y := leftI (sm - feeF sm fe - ex) ya ys (i + 1)) (leftI_y c_33) ?_
      refine lv_istore_n (lv' := [(1, .int (leftI (sm - feeF sm fe - ex) ya ys (i + 1))), (0, .ref (am 0)), (2, .int (nI i))]) hx hb dX4_left_47 rfl hl (by decide) rfl (fun ls hl => ?_)
      refine lv_iinc (v := nI (i + 1)) (lv' := [(2, .int (nI (i + 1))), (1, .int (leftI (sm - feeF sm fe - ex) ya ys (i + 1))), (0, .ref (am 0))]) hx hb dX4_left_48 hl (k := 2) rfl (zz_inc _) (by decide) rfl (fun ls hl => ?_)
      refine lv_goto (tgt := 17) hx hb dX4_left_51 (by decide) ?_
      exact ih_17 (i + 1) (by omega) (by omega) ls (lv_sub hl [2, 1, 0] rfl)
section
variable {p : Program} {e : Env} {R : Room} {s : State} {m : MethodId} {args : Array Value} {below : List Frame} {meth : Method} {c : Code} {H : Heap} {locs : List Loc} {cells slots : Nat} {Q : State → Prop} {cc : ByteArray} {pc : Nat} {ls : Array Slot} {rest : List Value} {own : String} {index nL : Nat} {Ts : List Cond} {H0 : Heap} {A0 : Nat → Prop}
theorem k_X4_left (l : Launch) {dC : Nat → ClassId} {dI : Nat → Nat → Nat} {cI cZ : ClassId} {am : Nat → Nat} {sm fe ex : Int32} {gp gc : Nat → Int32} {dy : Int32} {n : Nat} {pe gr st dl wo : Nat → Int32} {q : Nat} {yc ya yd ys tp fu sh ro : Nat → Int32} {th : Int32}  (hq : q ≤ 100) (hx : p.tables.exec = Jvm.exec) (hb : c.code = cc) (hml : c.maxLocals = nL) (hown : s.vm.findClass own = some m.cls) (hts : ∀ w ∈ Ts, w.before args s = true) (hK : va_K (dC, dI) vwCl [(cI, .int), (cZ, .boolean)] s) (hP : va_P (dC, dI) vwCl (wM cI cZ am sm fe ex gp gc dy n pe gr st dl wo q yc ya yd ys tp fu sh ro th) H) (hg9 : GoodIn Ts (wsV own index RX4 yX4_left wsX4_left)) (hR9 : 1 + 1 ≤ R.frames ∧ 8 + (3 + 11) + 20 ≤ R.locals) (hc9 : cells ≤ R.cells ∧ slots ≤ R.slots) (hl9 : ls.size = nL) (hw9 : (rest.map fun v => v.category).sum ≤ 8) (hdg : decode cc pc = .ok (.invokevirtual index, 3)) (kk : W p l e R s m args below meth c H locs cells slots Q (F0 m (pc + 3) ls (.int (leftF sm fe ex ya ys q) :: rest))) : W p l e R s m args below meth c H locs cells slots Q (F0 m pc ls (.ref (am 0) :: rest)) := zc_ro (W.runV (As := []) (rest := rest) ⟨hx, hb, hml, hown, hts⟩ (c_X4_left (dC := dC) (dI := dI) (cI := cI) (cZ := cZ) (am := am) (sm := sm) (fe := fe) (ex := ex) (gp := gp) (gc := gc) (dy := dy) (n := n) (pe := pe) (gr := gr) (st := st) (dl := dl) (wo := wo) (q := q) (yc := yc) (ya := ya) (yd := yd) (ys := ys) (tp := tp) (fu := fu) (sh := sh) (ro := ro) (th := th) l hq) (cwV 0 hts hg9 rfl rfl rfl (by decide +kernel) hR9) ⟨fun a U g mk q => ⟨q.1, q.2.1, va_K.moved (u := U) (U := U.calling g mk a) (Vm.Alike.refl U.vm) q.2.2⟩, rM_0 hK hP, fun U hU hW => ⟨rfl, by rw [hU]; exact hP, va_K.moved hW.alike hK⟩⟩ rfl rfl hl9 rfl (lv_room hw9) hdg hc9) (fun r h => by subst h; exact kk)
end
set_option maxHeartbeats 4000000 in
set_option maxRecDepth 100000 in
theorem c_X4_setFund_ok (l : Launch) {dC : Nat → ClassId} {dI : Nat → Nat → Nat} {cI cZ : ClassId} {am : Nat → Nat} {sm fe ex : Int32} {gp gc : Nat → Int32} {dy : Int32} {n : Nat} {pe gr st dl wo : Nat → Int32} {q : Nat} {yc ya yd ys tp fu sh ro : Nat → Int32} {th : Int32} {x1 : Int32} {x2 : Int32} {x3 : Int32} (hI : iwM am) (h1 : outN x1 (nI 0) (nI 10000000) = 0) (h2 : outN x2 (nI 0) (nI 500) = 0) (h3 : outN x3 (nI 0) (nI 1000000) = 0) (h0 : q = 0) : Met l yX4_setFund wsX4_setFund { frames := 2, cells := 0, slots := 0, locals := 42 } (va_Pc [.ref (am 0), .int x1, .int x2, .int x3] (fun U => va_P (dC, dI) vwCl (wM cI cZ am sm fe ex gp gc dy n pe gr st dl wo q yc ya yd ys tp fu sh ro th) U.heap ∧ va_K (dC, dI) vwCl [(cI, .int), (cZ, .boolean)] U)) (va_Qi (fun r (_ : Unit) => r = leftF x1 x2 x3 ya ys q) (fun _ t => va_P (dC, dI) vwCl (wM cI cZ am x1 x2 x3 gp gc dy n pe gr st dl wo q yc ya yd ys tp fu sh ro (nI 0)) t.heap) (awM am)) 0 0 (awM am) := by
  refine Met.ofW (cc := cX4_setFund) (maxL := 5) (ret := (some .int)) (by decide) rfl ?_
  intro p e s m args below meth c s₁ B hml hv
  obtain ⟨rfl, hP, hK⟩ := hv
  have hx := B.exec
  have hb := B.bytes
  have hr := B.returns
  have hts := atoms_spec (ws := wsX4_setFund) B.pre
  have hown : s.vm.findClass RX4 = some m.cls := findClass_of_methodNamed B.named
  have hlocks := B.notSynchronized
  have hS : va_S (awM am) s.heap s.heap [] := va_S.rf
  have hl := lv_entry ([.ref (am 0), .int x1, .int x2, .int x3]) (n := 5) (Nat.le_of_ble_eq_true rfl)
  rw [lg_entry_eq]
  generalize (lg_sl ([.ref (am 0), .int x1, .int x2, .int x3]) ++ List.replicate (5 - (lg_sl ([.ref (am 0), .int x1, .int x2, .int x3])).length) Slot.unset).toArray = ls at hl ⊢
  have hl : lv_has ls 5 [(0, .ref (am 0)), (1, .int x1), (2, .int x2), (3, .int x3)] := hl
  have hk86 := hts (.constant RX4 86 10000000) (by decide +kernel)
  have hk56 := hts (.constant RX4 56 1000000) (by decide +kernel)
  have hiX4 : ∀ w ∈ wsX40, w ∈ wsX4_setFund := by decide +kernel
  have hf68 := hts (.fieldLink RX4 68 "SettlementFundModel" "payments" "I") (by decide +kernel)
  have hf71 := hts (.fieldLink RX4 71 "SettlementFundModel" "sum" "I") (by decide +kernel)
  have hf74 := hts (.fieldLink RX4 74 "SettlementFundModel" "fee" "I") (by decide +kernel)
  have hf83 := hts (.fieldLink RX4 83 "SettlementFundModel" "expenses" "I") (by decide +kernel)
  refine lv_iload_n hx hb dX4_setFund_0 rfl (lv_at hl 1 rfl) ?_
  refine lv_iconst (v := nI 0) hx hb dX4_setFund_1 (by decide) ?_
  refine lv_ldc hx hb hown hk86 dX4_setFund_2 ?_
  refine zt_i (y := nI 10000000) rfl ?_
  refine k_X4_isIn l (x := x1) (a := nI 0) (b := nI 10000000) hx hb hml hown hts  gX4_setFund_X4_isIn ⟨Nat.le_of_ble_eq_true rfl, Nat.le_of_ble_eq_true rfl⟩ ⟨Nat.le_of_ble_eq_true rfl, Nat.le_of_ble_eq_true rfl⟩ hl.1 (Nat.le_of_ble_eq_true rfl) dX4_setFund_4 ?_
  refine zi_eq (tgt := 35) hx hb (by omega) dX4_setFund_7 (by decide) (fun c_7 => (show False by omega).elim) (fun c_7 => ?_)
  refine lv_iload_n hx hb dX4_setFund_10 rfl (lv_at hl 2 rfl) ?_
  refine lv_iconst (v := nI 0) hx hb dX4_setFund_11 (by decide) ?_
  refine lv_sipush (v := nI 500) hx hb dX4_setFund_12 (by decide) ?_
  refine k_X4_isIn l (x := x2) (a := nI 0) (b := nI 500) hx hb hml hown hts  gX4_setFund_X4_isIn ⟨Nat.le_of_ble_eq_true rfl, Nat.le_of_ble_eq_true rfl⟩ ⟨Nat.le_of_ble_eq_true rfl, Nat.le_of_ble_eq_true rfl⟩ hl.1 (Nat.le_of_ble_eq_true rfl) dX4_setFund_15 ?_
  refine zi_eq (tgt := 35) hx hb (by omega) dX4_setFund_18 (by decide) (fun c_18 => (show False by omega).elim) (fun c_18 => ?_)
  refine lv_iload_n hx hb dX4_setFund_21 rfl (lv_at hl 3 rfl) ?_
  refine lv_iconst (v := nI 0) hx hb dX4_setFund_22 (by decide) ?_
  refine lv_ldc hx hb hown hk56 dX4_setFund_23 ?_
  refine zt_i (y := nI 1000000) rfl ?_
  refine k_X4_isIn l (x := x3) (a := nI 0) (b := nI 1000000) hx hb hml hown hts  gX4_setFund_X4_isIn ⟨Nat.le_of_ble_eq_true rfl, Nat.le_of_ble_eq_true rfl⟩ ⟨Nat.le_of_ble_eq_true rfl, Nat.le_of_ble_eq_true rfl⟩ hl.1 (Nat.le_of_ble_eq_true rfl) dX4_setFund_25 ?_
  refine zi_eq (tgt := 35) hx hb (by omega) dX4_setFund_28 (by decide) (fun c_28 => (show False by omega).elim) (fun c_28 => ?_)
  refine lv_iconst (v := nI 1) hx hb dX4_setFund_31 (by decide) ?_
  refine lv_goto (tgt := 36) hx hb dX4_setFund_32 (by decide) ?_
  refine lv_istore (lv' := [(4, .int (nI 1)), (0, .ref (am 0)), (1, .int x1), (2, .int x2), (3, .int x3)]) hx hb dX4_setFund_36 hl (by decide) rfl (fun ls hl => ?_)
  refine lv_aload_n hx hb dX4_setFund_38 rfl (lv_at hl 1 rfl) ?_
  refine lv_iload hx hb dX4_setFund_39 (lv_at hl 0 rfl) ?_
  refine zi_ne (tgt := 48) hx hb (by decide) dX4_setFund_41 (by decide) (fun c_41 => ?_) (fun c_41 => (show False by omega).elim)
  refine lv_aload_n hx hb dX4_setFund_48 rfl (lv_at hl 1 rfl) ?_
  refine gM_0_12 hx hb hts hiX4 hown hK hP hf68 dX4_setFund_49 ?_
  refine zi_le (tgt := 59) hx hb (by omega) dX4_setFund_52 (by decide) (fun c_52 => ?_) (fun c_52 => (show False by omega).elim)
  refine lv_iconst (v := nI 0) hx hb dX4_setFund_59 (by decide) ?_
  refine k_X4_goes_0 l  hx hb hml hown hts hK hP gX4_setFund_X4_goes ⟨Nat.le_of_ble_eq_true rfl, Nat.le_of_ble_eq_true rfl⟩ ⟨Nat.le_of_ble_eq_true rfl, Nat.le_of_ble_eq_true rfl⟩ hl.1 (Nat.le_of_ble_eq_true rfl) dX4_setFund_60 hI (fun _ h => h) hS (fun H locs hP hS _ => ?_)
  refine zi_ne (tgt := 68) hx hb (by decide) dX4_setFund_63 (by decide) (fun c_63 => ?_) (fun c_63 => (show False by omega).elim)
  refine lv_aload_n hx hb dX4_setFund_68 rfl (lv_at hl 1 rfl) ?_
  refine lv_iload_n hx hb dX4_setFund_69 rfl (lv_at hl 2 rfl) ?_
  refine uM_0_0 hx hb hts hiX4 hown hK hP hf71 hI (fun _ h => h) hS dX4_setFund_70 (fun H locs hP hS => ?_)
  refine lv_aload_n hx hb dX4_setFund_73 rfl (lv_at hl 1 rfl) ?_
  refine lv_iload_n hx hb dX4_setFund_74 rfl (lv_at hl 3 rfl) ?_
  refine uM_0_1 hx hb hts hiX4 hown hK hP hf74 hI (fun _ h => h) hS dX4_setFund_75 (fun H locs hP hS => ?_)
  refine lv_aload_n hx hb dX4_setFund_78 rfl (lv_at hl 1 rfl) ?_
  refine lv_iload_n hx hb dX4_setFund_79 rfl (lv_at hl 4 rfl) ?_
  refine uM_0_2 hx hb hts hiX4 hown hK hP hf83 hI (fun _ h => h) hS dX4_setFund_80 (fun H locs hP hS => ?_)
  refine lv_aload_n hx hb dX4_setFund_83 rfl (lv_at hl 1 rfl) ?_
  refine k_X4_left l (hq := (by omega)) hx hb hml hown hts hK hP gX4_setFund_X4_left ⟨Nat.le_of_ble_eq_true rfl, Nat.le_of_ble_eq_true rfl⟩ ⟨Nat.le_of_ble_eq_true rfl, Nat.le_of_ble_eq_true rfl⟩ hl.1 (Nat.le_of_ble_eq_true rfl) dX4_setFund_84 ?_
  exact W.iret (v := leftF x1 x2 x3 ya ys q) hx hb hr (fun t ht hW => ⟨⟨leftF x1 x2 x3 ya ys q, (), rfl, rfl, by (try dsimp only); rw [ht]; exact hP⟩, hS.F ht⟩) hS.2.2 dX4_setFund_87
section
variable {p : Program} {e : Env} {R : Room} {s : State} {m : MethodId} {args : Array Value} {below : List Frame} {meth : Method} {c : Code} {H : Heap} {locs : List Loc} {cells slots : Nat} {Q : State → Prop} {cc : ByteArray} {pc : Nat} {ls : Array Slot} {rest : List Value} {own : String} {index nL : Nat} {Ts : List Cond} {H0 : Heap} {A0 : Nat → Prop}
theorem k_X4_setFund_ok (l : Launch) {dC : Nat → ClassId} {dI : Nat → Nat → Nat} {cI cZ : ClassId} {am : Nat → Nat} {sm fe ex : Int32} {gp gc : Nat → Int32} {dy : Int32} {n : Nat} {pe gr st dl wo : Nat → Int32} {q : Nat} {yc ya yd ys tp fu sh ro : Nat → Int32} {th : Int32} {x1 : Int32} {x2 : Int32} {x3 : Int32} (h1 : outN x1 (nI 0) (nI 10000000) = 0) (h2 : outN x2 (nI 0) (nI 500) = 0) (h3 : outN x3 (nI 0) (nI 1000000) = 0) (h0 : q = 0) (hx : p.tables.exec = Jvm.exec) (hb : c.code = cc) (hml : c.maxLocals = nL) (hown : s.vm.findClass own = some m.cls) (hts : ∀ w ∈ Ts, w.before args s = true) (hK : va_K (dC, dI) vwCl [(cI, .int), (cZ, .boolean)] s) (hP : va_P (dC, dI) vwCl (wM cI cZ am sm fe ex gp gc dy n pe gr st dl wo q yc ya yd ys tp fu sh ro th) H) (hg9 : GoodIn Ts (wsV own index RX4 yX4_setFund wsX4_setFund)) (hR9 : 2 + 1 ≤ R.frames ∧ 8 + (5 + 11) + 42 ≤ R.locals) (hc9 : cells ≤ R.cells ∧ slots ≤ R.slots) (hl9 : ls.size = nL) (hw9 : (rest.map fun v => v.category).sum ≤ 8) (hdg : decode cc pc = .ok (.invokevirtual index, 3)) (hI : iwM am) (hA : ∀ x, awM am x → A0 x) (hS : va_S A0 H0 H locs) (kk : ∀ (H1 : Heap) (locs1 : List Loc), va_P (dC, dI) vwCl (wM cI cZ am x1 x2 x3 gp gc dy n pe gr st dl wo q yc ya yd ys tp fu sh ro (nI 0)) H1 → va_S A0 H0 H1 locs1 → (∀ q : Nat, q < H.size → ¬ awM am q → H1[q]? = H[q]?) → W p l e R s m args below meth c H1 locs1 cells slots Q (F0 m (pc + 3) ls (.int (leftF x1 x2 x3 ya ys q) :: rest))) : W p l e R s m args below meth c H locs cells slots Q (F0 m pc ls (.int x3 :: .int x2 :: .int x1 :: .ref (am 0) :: rest)) := va_calli (va_runV (As := [.int x1, .int x2, .int x3]) (rest := rest) ⟨hx, hb, hml, hown, hts⟩ (c_X4_setFund_ok (dC := dC) (dI := dI) (cI := cI) (cZ := cZ) (am := am) (sm := sm) (fe := fe) (ex := ex) (gp := gp) (gc := gc) (dy := dy) (n := n) (pe := pe) (gr := gr) (st := st) (dl := dl) (wo := wo) (q := q) (yc := yc) (ya := ya) (yd := yd) (ys := ys) (tp := tp) (fu := fu) (sh := sh) (ro := ro) (th := th) (x1 := x1) (x2 := x2) (x3 := x3) l hI h1 h2 h3 h0) (cwV 3 hts hg9 rfl rfl rfl (by decide +kernel) hR9) ⟨fun a U g mk q => ⟨q.1, q.2.1, va_K.moved (u := U) (U := U.calling g mk a) (Vm.Alike.refl U.vm) q.2.2⟩, rM_0 hK hP, fun U hU hW => ⟨rfl, by rw [hU]; exact hP, va_K.moved hW.alike hK⟩⟩ rfl rfl hl9 rfl (lv_room hw9) hdg hc9) hS (fun q _ h => hA q h) hA (fun r u t H1 locs1 ht _ hu hB hz hk hS1 => by subst hu; exact kk H1 locs1 (by rw [ht] at hB; exact hB) hS1 hk)
end
set_option maxHeartbeats 4000000 in
set_option maxRecDepth 100000 in
theorem c_X4_setFund_1 (l : Launch) {dC : Nat → ClassId} {dI : Nat → Nat → Nat} {cI cZ : ClassId} {am : Nat → Nat} {sm fe ex : Int32} {gp gc : Nat → Int32} {dy : Int32} {n : Nat} {pe gr st dl wo : Nat → Int32} {q : Nat} {yc ya yd ys tp fu sh ro : Nat → Int32} {th : Int32} {x1 : Int32} {x2 : Int32} {x3 : Int32} (hI : iwM am) (h1 : ¬ (outN x1 (nI 0) (nI 10000000) = 0 ∧ outN x2 (nI 0) (nI 500) = 0 ∧ outN x3 (nI 0) (nI 1000000) = 0)) : Met l yX4_setFund wsX4_setFund { frames := 1, cells := 0, slots := 0, locals := 22 } (va_Pc [.ref (am 0), .int x1, .int x2, .int x3] (fun U => va_P (dC, dI) vwCl (wM cI cZ am sm fe ex gp gc dy n pe gr st dl wo q yc ya yd ys tp fu sh ro th) U.heap ∧ va_K (dC, dI) vwCl [(cI, .int), (cZ, .boolean)] U)) (va_Qi (fun r (_ : Unit) => r = nI 0) (fun _ t => va_P (dC, dI) vwCl (wM cI cZ am sm fe ex gp gc dy n pe gr st dl wo q yc ya yd ys tp fu sh ro (nI 1)) t.heap) (awM am)) 0 0 (awM am) := by
  refine Met.ofW (cc := cX4_setFund) (maxL := 5) (ret := (some .int)) (by decide) rfl ?_
  intro p e s m args below meth c s₁ B hml hv
  obtain ⟨rfl, hP, hK⟩ := hv
  have hx := B.exec
  have hb := B.bytes
  have hr := B.returns
  have hts := atoms_spec (ws := wsX4_setFund) B.pre
  have hown : s.vm.findClass RX4 = some m.cls := findClass_of_methodNamed B.named
  have hlocks := B.notSynchronized
  have hS : va_S (awM am) s.heap s.heap [] := va_S.rf
  have hl := lv_entry ([.ref (am 0), .int x1, .int x2, .int x3]) (n := 5) (Nat.le_of_ble_eq_true rfl)
  rw [lg_entry_eq]
  generalize (lg_sl ([.ref (am 0), .int x1, .int x2, .int x3]) ++ List.replicate (5 - (lg_sl ([.ref (am 0), .int x1, .int x2, .int x3])).length) Slot.unset).toArray = ls at hl ⊢
  have hl : lv_has ls 5 [(0, .ref (am 0)), (1, .int x1), (2, .int x2), (3, .int x3)] := hl
  have hk86 := hts (.constant RX4 86 10000000) (by decide +kernel)
  have hk56 := hts (.constant RX4 56 1000000) (by decide +kernel)
  refine lv_iload_n hx hb dX4_setFund_0 rfl (lv_at hl 1 rfl) ?_
  refine lv_iconst (v := nI 0) hx hb dX4_setFund_1 (by decide) ?_
  refine lv_ldc hx hb hown hk86 dX4_setFund_2 ?_
  refine zt_i (y := nI 10000000) rfl ?_
  refine k_X4_isIn l (x := x1) (a := nI 0) (b := nI 10000000) hx hb hml hown hts  gX4_setFund_X4_isIn ⟨Nat.le_of_ble_eq_true rfl, Nat.le_of_ble_eq_true rfl⟩ ⟨Nat.le_of_ble_eq_true rfl, Nat.le_of_ble_eq_true rfl⟩ hl.1 (Nat.le_of_ble_eq_true rfl) dX4_setFund_4 ?_
  refine zi_eq (tgt := 35) hx hb (by omega) dX4_setFund_7 (by decide) (fun c_7 => ?_) (fun c_7 => ?_)
  · refine lv_iconst (v := nI 0) hx hb dX4_setFund_35 (by decide) ?_
    refine lv_istore (lv' := [(4, .int (nI 0)), (0, .ref (am 0)), (1, .int x1), (2, .int x2), (3, .int x3)]) hx hb dX4_setFund_36 hl (by decide) rfl (fun ls hl => ?_)
    refine lv_aload_n hx hb dX4_setFund_38 rfl (lv_at hl 1 rfl) ?_
    refine lv_iload hx hb dX4_setFund_39 (lv_at hl 0 rfl) ?_
    refine zi_ne (tgt := 48) hx hb (by decide) dX4_setFund_41 (by decide) (fun c_41 => (show False by omega).elim) (fun c_41 => ?_)
    refine lv_iconst (v := nI 1) hx hb dX4_setFund_44 (by decide) ?_
    refine lv_goto (tgt := 60) hx hb dX4_setFund_45 (by decide) ?_
    refine k_X4_goes_k l (k := 1) (hk := by decide) (h2 := by decide) hx hb hml hown hts hK hP gX4_setFund_X4_goes ⟨Nat.le_of_ble_eq_true rfl, Nat.le_of_ble_eq_true rfl⟩ ⟨Nat.le_of_ble_eq_true rfl, Nat.le_of_ble_eq_true rfl⟩ hl.1 (Nat.le_of_ble_eq_true rfl) dX4_setFund_60 hI (fun _ h => h) hS (fun H locs hP hS _ => ?_)
    refine zi_ne (tgt := 68) hx hb (by decide) dX4_setFund_63 (by decide) (fun c_63 => (show False by omega).elim) (fun c_63 => ?_)
    refine lv_iconst (v := nI 0) hx hb dX4_setFund_66 (by decide) ?_
    exact W.iret (v := nI 0) hx hb hr (fun t ht hW => ⟨⟨nI 0, (), rfl, rfl, by (try dsimp only); rw [ht]; exact hP⟩, hS.F ht⟩) hS.2.2 dX4_setFund_67
  · refine lv_iload_n hx hb dX4_setFund_10 rfl (lv_at hl 2 rfl) ?_
    refine lv_iconst (v := nI 0) hx hb dX4_setFund_11 (by decide) ?_
    refine lv_sipush (v := nI 500) hx hb dX4_setFund_12 (by decide) ?_
    refine k_X4_isIn l (x := x2) (a := nI 0) (b := nI 500) hx hb hml hown hts  gX4_setFund_X4_isIn ⟨Nat.le_of_ble_eq_true rfl, Nat.le_of_ble_eq_true rfl⟩ ⟨Nat.le_of_ble_eq_true rfl, Nat.le_of_ble_eq_true rfl⟩ hl.1 (Nat.le_of_ble_eq_true rfl) dX4_setFund_15 ?_
    refine zi_eq (tgt := 35) hx hb (by omega) dX4_setFund_18 (by decide) (fun c_18 => ?_) (fun c_18 => ?_)
    · refine lv_iconst (v := nI 0) hx hb dX4_setFund_35 (by decide) ?_
      refine lv_istore (lv' := [(4, .int (nI 0)), (0, .ref (am 0)), (1, .int x1), (2, .int x2), (3, .int x3)]) hx hb dX4_setFund_36 hl (by decide) rfl (fun ls hl => ?_)
      refine lv_aload_n hx hb dX4_setFund_38 rfl (lv_at hl 1 rfl) ?_
      refine lv_iload hx hb dX4_setFund_39 (lv_at hl 0 rfl) ?_
      refine zi_ne (tgt := 48) hx hb (by decide) dX4_setFund_41 (by decide) (fun c_41 => (show False by omega).elim) (fun c_41 => ?_)
      refine lv_iconst (v := nI 1) hx hb dX4_setFund_44 (by decide) ?_
      refine lv_goto (tgt := 60) hx hb dX4_setFund_45 (by decide) ?_
      refine k_X4_goes_k l (k := 1) (hk := by decide) (h2 := by decide) hx hb hml hown hts hK hP gX4_setFund_X4_goes ⟨Nat.le_of_ble_eq_true rfl, Nat.le_of_ble_eq_true rfl⟩ ⟨Nat.le_of_ble_eq_true rfl, Nat.le_of_ble_eq_true rfl⟩ hl.1 (Nat.le_of_ble_eq_true rfl) dX4_setFund_60 hI (fun _ h => h) hS (fun H locs hP hS _ => ?_)
      refine zi_ne (tgt := 68) hx hb (by decide) dX4_setFund_63 (by decide) (fun c_63 => (show False by omega).elim) (fun c_63 => ?_)
      refine lv_iconst (v := nI 0) hx hb dX4_setFund_66 (by decide) ?_
      exact W.iret (v := nI 0) hx hb hr (fun t ht hW => ⟨⟨nI 0, (), rfl, rfl, by (try dsimp only); rw [ht]; exact hP⟩, hS.F ht⟩) hS.2.2 dX4_setFund_67
    · refine lv_iload_n hx hb dX4_setFund_21 rfl (lv_at hl 3 rfl) ?_
      refine lv_iconst (v := nI 0) hx hb dX4_setFund_22 (by decide) ?_
      refine lv_ldc hx hb hown hk56 dX4_setFund_23 ?_
      refine zt_i (y := nI 1000000) rfl ?_
      refine k_X4_isIn l (x := x3) (a := nI 0) (b := nI 1000000) hx hb hml hown hts  gX4_setFund_X4_isIn ⟨Nat.le_of_ble_eq_true rfl, Nat.le_of_ble_eq_true rfl⟩ ⟨Nat.le_of_ble_eq_true rfl, Nat.le_of_ble_eq_true rfl⟩ hl.1 (Nat.le_of_ble_eq_true rfl) dX4_setFund_25 ?_
      refine zi_eq (tgt := 35) hx hb (by omega) dX4_setFund_28 (by decide) (fun c_28 => ?_) (fun c_28 => (show False by exact h1 ⟨by omega, by omega, by omega⟩).elim)
      refine lv_iconst (v := nI 0) hx hb dX4_setFund_35 (by decide) ?_
      refine lv_istore (lv' := [(4, .int (nI 0)), (0, .ref (am 0)), (1, .int x1), (2, .int x2), (3, .int x3)]) hx hb dX4_setFund_36 hl (by decide) rfl (fun ls hl => ?_)
      refine lv_aload_n hx hb dX4_setFund_38 rfl (lv_at hl 1 rfl) ?_
      refine lv_iload hx hb dX4_setFund_39 (lv_at hl 0 rfl) ?_
      refine zi_ne (tgt := 48) hx hb (by decide) dX4_setFund_41 (by decide) (fun c_41 => (show False by omega).elim) (fun c_41 => ?_)
      refine lv_iconst (v := nI 1) hx hb dX4_setFund_44 (by decide) ?_
      refine lv_goto (tgt := 60) hx hb dX4_setFund_45 (by decide) ?_
      refine k_X4_goes_k l (k := 1) (hk := by decide) (h2 := by decide) hx hb hml hown hts hK hP gX4_setFund_X4_goes ⟨Nat.le_of_ble_eq_true rfl, Nat.le_of_ble_eq_true rfl⟩ ⟨Nat.le_of_ble_eq_true rfl, Nat.le_of_ble_eq_true rfl⟩ hl.1 (Nat.le_of_ble_eq_true rfl) dX4_setFund_60 hI (fun _ h => h) hS (fun H locs hP hS _ => ?_)
      refine zi_ne (tgt := 68) hx hb (by decide) dX4_setFund_63 (by decide) (fun c_63 => (show False by omega).elim) (fun c_63 => ?_)
      refine lv_iconst (v := nI 0) hx hb dX4_setFund_66 (by decide) ?_
      exact W.iret (v := nI 0) hx hb hr (fun t ht hW => ⟨⟨nI 0, (), rfl, rfl, by (try dsimp only); rw [ht]; exact hP⟩, hS.F ht⟩) hS.2.2 dX4_setFund_67
section
variable {p : Program} {e : Env} {R : Room} {s : State} {m : MethodId} {args : Array Value} {below : List Frame} {meth : Method} {c : Code} {H : Heap} {locs : List Loc} {cells slots : Nat} {Q : State → Prop} {cc : ByteArray} {pc : Nat} {ls : Array Slot} {rest : List Value} {own : String} {index nL : Nat} {Ts : List Cond} {H0 : Heap} {A0 : Nat → Prop}
theorem k_X4_setFund_1 (l : Launch) {dC : Nat → ClassId} {dI : Nat → Nat → Nat} {cI cZ : ClassId} {am : Nat → Nat} {sm fe ex : Int32} {gp gc : Nat → Int32} {dy : Int32} {n : Nat} {pe gr st dl wo : Nat → Int32} {q : Nat} {yc ya yd ys tp fu sh ro : Nat → Int32} {th : Int32} {x1 : Int32} {x2 : Int32} {x3 : Int32} (h1 : ¬ (outN x1 (nI 0) (nI 10000000) = 0 ∧ outN x2 (nI 0) (nI 500) = 0 ∧ outN x3 (nI 0) (nI 1000000) = 0)) (hx : p.tables.exec = Jvm.exec) (hb : c.code = cc) (hml : c.maxLocals = nL) (hown : s.vm.findClass own = some m.cls) (hts : ∀ w ∈ Ts, w.before args s = true) (hK : va_K (dC, dI) vwCl [(cI, .int), (cZ, .boolean)] s) (hP : va_P (dC, dI) vwCl (wM cI cZ am sm fe ex gp gc dy n pe gr st dl wo q yc ya yd ys tp fu sh ro th) H) (hg9 : GoodIn Ts (wsV own index RX4 yX4_setFund wsX4_setFund)) (hR9 : 1 + 1 ≤ R.frames ∧ 8 + (5 + 11) + 22 ≤ R.locals) (hc9 : cells ≤ R.cells ∧ slots ≤ R.slots) (hl9 : ls.size = nL) (hw9 : (rest.map fun v => v.category).sum ≤ 8) (hdg : decode cc pc = .ok (.invokevirtual index, 3)) (hI : iwM am) (hA : ∀ x, awM am x → A0 x) (hS : va_S A0 H0 H locs) (kk : ∀ (H1 : Heap) (locs1 : List Loc), va_P (dC, dI) vwCl (wM cI cZ am sm fe ex gp gc dy n pe gr st dl wo q yc ya yd ys tp fu sh ro (nI 1)) H1 → va_S A0 H0 H1 locs1 → (∀ q : Nat, q < H.size → ¬ awM am q → H1[q]? = H[q]?) → W p l e R s m args below meth c H1 locs1 cells slots Q (F0 m (pc + 3) ls (.int (nI 0) :: rest))) : W p l e R s m args below meth c H locs cells slots Q (F0 m pc ls (.int x3 :: .int x2 :: .int x1 :: .ref (am 0) :: rest)) := va_calli (va_runV (As := [.int x1, .int x2, .int x3]) (rest := rest) ⟨hx, hb, hml, hown, hts⟩ (c_X4_setFund_1 (dC := dC) (dI := dI) (cI := cI) (cZ := cZ) (am := am) (sm := sm) (fe := fe) (ex := ex) (gp := gp) (gc := gc) (dy := dy) (n := n) (pe := pe) (gr := gr) (st := st) (dl := dl) (wo := wo) (q := q) (yc := yc) (ya := ya) (yd := yd) (ys := ys) (tp := tp) (fu := fu) (sh := sh) (ro := ro) (th := th) (x1 := x1) (x2 := x2) (x3 := x3) l hI h1) (cwV 3 hts hg9 rfl rfl rfl (by decide +kernel) hR9) ⟨fun a U g mk q => ⟨q.1, q.2.1, va_K.moved (u := U) (U := U.calling g mk a) (Vm.Alike.refl U.vm) q.2.2⟩, rM_0 hK hP, fun U hU hW => ⟨rfl, by rw [hU]; exact hP, va_K.moved hW.alike hK⟩⟩ rfl rfl hl9 rfl (lv_room hw9) hdg hc9) hS (fun q _ h => hA q h) hA (fun r u t H1 locs1 ht _ hu hB hz hk hS1 => by subst hu; exact kk H1 locs1 (by rw [ht] at hB; exact hB) hS1 hk)
end
set_option maxHeartbeats 4000000 in
set_option maxRecDepth 100000 in
theorem c_X4_setFund_2 (l : Launch) {dC : Nat → ClassId} {dI : Nat → Nat → Nat} {cI cZ : ClassId} {am : Nat → Nat} {sm fe ex : Int32} {gp gc : Nat → Int32} {dy : Int32} {n : Nat} {pe gr st dl wo : Nat → Int32} {q : Nat} {yc ya yd ys tp fu sh ro : Nat → Int32} {th : Int32} {x1 : Int32} {x2 : Int32} {x3 : Int32} (hI : iwM am) (h1 : outN x1 (nI 0) (nI 10000000) = 0) (h2 : outN x2 (nI 0) (nI 500) = 0) (h3 : outN x3 (nI 0) (nI 1000000) = 0) (hq : q ≤ 100) (h0 : ¬ q = 0) : Met l yX4_setFund wsX4_setFund { frames := 1, cells := 0, slots := 0, locals := 22 } (va_Pc [.ref (am 0), .int x1, .int x2, .int x3] (fun U => va_P (dC, dI) vwCl (wM cI cZ am sm fe ex gp gc dy n pe gr st dl wo q yc ya yd ys tp fu sh ro th) U.heap ∧ va_K (dC, dI) vwCl [(cI, .int), (cZ, .boolean)] U)) (va_Qi (fun r (_ : Unit) => r = nI 0) (fun _ t => va_P (dC, dI) vwCl (wM cI cZ am sm fe ex gp gc dy n pe gr st dl wo q yc ya yd ys tp fu sh ro (nI 2)) t.heap) (awM am)) 0 0 (awM am) := by
  refine Met.ofW (cc := cX4_setFund) (maxL := 5) (ret := (some .int)) (by decide) rfl ?_
  intro p e s m args below meth c s₁ B hml hv
  obtain ⟨rfl, hP, hK⟩ := hv
  have hx := B.exec
  have hb := B.bytes
  have hr := B.returns
  have hts := atoms_spec (ws := wsX4_setFund) B.pre
  have hown : s.vm.findClass RX4 = some m.cls := findClass_of_methodNamed B.named
  have hlocks := B.notSynchronized
  have hS : va_S (awM am) s.heap s.heap [] := va_S.rf
  have hl := lv_entry ([.ref (am 0), .int x1, .int x2, .int x3]) (n := 5) (Nat.le_of_ble_eq_true rfl)
  rw [lg_entry_eq]
  generalize (lg_sl ([.ref (am 0), .int x1, .int x2, .int x3]) ++ List.replicate (5 - (lg_sl ([.ref (am 0), .int x1, .int x2, .int x3])).length) Slot.unset).toArray = ls at hl ⊢
  have hl : lv_has ls 5 [(0, .ref (am 0)), (1, .int x1), (2, .int x2), (3, .int x3)] := hl
  have hk86 := hts (.constant RX4 86 10000000) (by decide +kernel)
  have hk56 := hts (.constant RX4 56 1000000) (by decide +kernel)
  have hiX4 : ∀ w ∈ wsX40, w ∈ wsX4_setFund := by decide +kernel
  have hf68 := hts (.fieldLink RX4 68 "SettlementFundModel" "payments" "I") (by decide +kernel)
  refine lv_iload_n hx hb dX4_setFund_0 rfl (lv_at hl 1 rfl) ?_
  refine lv_iconst (v := nI 0) hx hb dX4_setFund_1 (by decide) ?_
  refine lv_ldc hx hb hown hk86 dX4_setFund_2 ?_
  refine zt_i (y := nI 10000000) rfl ?_
  refine k_X4_isIn l (x := x1) (a := nI 0) (b := nI 10000000) hx hb hml hown hts  gX4_setFund_X4_isIn ⟨Nat.le_of_ble_eq_true rfl, Nat.le_of_ble_eq_true rfl⟩ ⟨Nat.le_of_ble_eq_true rfl, Nat.le_of_ble_eq_true rfl⟩ hl.1 (Nat.le_of_ble_eq_true rfl) dX4_setFund_4 ?_
  refine zi_eq (tgt := 35) hx hb (by omega) dX4_setFund_7 (by decide) (fun c_7 => (show False by omega).elim) (fun c_7 => ?_)
  refine lv_iload_n hx hb dX4_setFund_10 rfl (lv_at hl 2 rfl) ?_
  refine lv_iconst (v := nI 0) hx hb dX4_setFund_11 (by decide) ?_
  refine lv_sipush (v := nI 500) hx hb dX4_setFund_12 (by decide) ?_
  refine k_X4_isIn l (x := x2) (a := nI 0) (b := nI 500) hx hb hml hown hts  gX4_setFund_X4_isIn ⟨Nat.le_of_ble_eq_true rfl, Nat.le_of_ble_eq_true rfl⟩ ⟨Nat.le_of_ble_eq_true rfl, Nat.le_of_ble_eq_true rfl⟩ hl.1 (Nat.le_of_ble_eq_true rfl) dX4_setFund_15 ?_
  refine zi_eq (tgt := 35) hx hb (by omega) dX4_setFund_18 (by decide) (fun c_18 => (show False by omega).elim) (fun c_18 => ?_)
  refine lv_iload_n hx hb dX4_setFund_21 rfl (lv_at hl 3 rfl) ?_
  refine lv_iconst (v := nI 0) hx hb dX4_setFund_22 (by decide) ?_
  refine lv_ldc hx hb hown hk56 dX4_setFund_23 ?_
  refine zt_i (y := nI 1000000) rfl ?_
  refine k_X4_isIn l (x := x3) (a := nI 0) (b := nI 1000000) hx hb hml hown hts  gX4_setFund_X4_isIn ⟨Nat.le_of_ble_eq_true rfl, Nat.le_of_ble_eq_true rfl⟩ ⟨Nat.le_of_ble_eq_true rfl, Nat.le_of_ble_eq_true rfl⟩ hl.1 (Nat.le_of_ble_eq_true rfl) dX4_setFund_25 ?_
  refine zi_eq (tgt := 35) hx hb (by omega) dX4_setFund_28 (by decide) (fun c_28 => (show False by omega).elim) (fun c_28 => ?_)
  refine lv_iconst (v := nI 1) hx hb dX4_setFund_31 (by decide) ?_
  refine lv_goto (tgt := 36) hx hb dX4_setFund_32 (by decide) ?_
  refine lv_istore (lv' := [(4, .int (nI 1)), (0, .ref (am 0)), (1, .int x1), (2, .int x2), (3, .int x3)]) hx hb dX4_setFund_36 hl (by decide) rfl (fun ls hl => ?_)
  refine lv_aload_n hx hb dX4_setFund_38 rfl (lv_at hl 1 rfl) ?_
  refine lv_iload hx hb dX4_setFund_39 (lv_at hl 0 rfl) ?_
  refine zi_ne (tgt := 48) hx hb (by decide) dX4_setFund_41 (by decide) (fun c_41 => ?_) (fun c_41 => (show False by omega).elim)
  refine lv_aload_n hx hb dX4_setFund_48 rfl (lv_at hl 1 rfl) ?_
  refine gM_0_12 hx hb hts hiX4 hown hK hP hf68 dX4_setFund_49 ?_
  refine zi_le (tgt := 59) hx hb (by omega) dX4_setFund_52 (by decide) (fun c_52 => (show False by omega).elim) (fun c_52 => ?_)
  refine lv_iconst (v := nI 2) hx hb dX4_setFund_55 (by decide) ?_
  refine lv_goto (tgt := 60) hx hb dX4_setFund_56 (by decide) ?_
  refine k_X4_goes_k l (k := 2) (hk := by decide) (h2 := by decide) hx hb hml hown hts hK hP gX4_setFund_X4_goes ⟨Nat.le_of_ble_eq_true rfl, Nat.le_of_ble_eq_true rfl⟩ ⟨Nat.le_of_ble_eq_true rfl, Nat.le_of_ble_eq_true rfl⟩ hl.1 (Nat.le_of_ble_eq_true rfl) dX4_setFund_60 hI (fun _ h => h) hS (fun H locs hP hS _ => ?_)
  refine zi_ne (tgt := 68) hx hb (by decide) dX4_setFund_63 (by decide) (fun c_63 => (show False by omega).elim) (fun c_63 => ?_)
  refine lv_iconst (v := nI 0) hx hb dX4_setFund_66 (by decide) ?_
  exact W.iret (v := nI 0) hx hb hr (fun t ht hW => ⟨⟨nI 0, (), rfl, rfl, by (try dsimp only); rw [ht]; exact hP⟩, hS.F ht⟩) hS.2.2 dX4_setFund_67
section
variable {p : Program} {e : Env} {R : Room} {s : State} {m : MethodId} {args : Array Value} {below : List Frame} {meth : Method} {c : Code} {H : Heap} {locs : List Loc} {cells slots : Nat} {Q : State → Prop} {cc : ByteArray} {pc : Nat} {ls : Array Slot} {rest : List Value} {own : String} {index nL : Nat} {Ts : List Cond} {H0 : Heap} {A0 : Nat → Prop}
theorem k_X4_setFund_2 (l : Launch) {dC : Nat → ClassId} {dI : Nat → Nat → Nat} {cI cZ : ClassId} {am : Nat → Nat} {sm fe ex : Int32} {gp gc : Nat → Int32} {dy : Int32} {n : Nat} {pe gr st dl wo : Nat → Int32} {q : Nat} {yc ya yd ys tp fu sh ro : Nat → Int32} {th : Int32} {x1 : Int32} {x2 : Int32} {x3 : Int32} (h1 : outN x1 (nI 0) (nI 10000000) = 0) (h2 : outN x2 (nI 0) (nI 500) = 0) (h3 : outN x3 (nI 0) (nI 1000000) = 0) (hq : q ≤ 100) (h0 : ¬ q = 0) (hx : p.tables.exec = Jvm.exec) (hb : c.code = cc) (hml : c.maxLocals = nL) (hown : s.vm.findClass own = some m.cls) (hts : ∀ w ∈ Ts, w.before args s = true) (hK : va_K (dC, dI) vwCl [(cI, .int), (cZ, .boolean)] s) (hP : va_P (dC, dI) vwCl (wM cI cZ am sm fe ex gp gc dy n pe gr st dl wo q yc ya yd ys tp fu sh ro th) H) (hg9 : GoodIn Ts (wsV own index RX4 yX4_setFund wsX4_setFund)) (hR9 : 1 + 1 ≤ R.frames ∧ 8 + (5 + 11) + 22 ≤ R.locals) (hc9 : cells ≤ R.cells ∧ slots ≤ R.slots) (hl9 : ls.size = nL) (hw9 : (rest.map fun v => v.category).sum ≤ 8) (hdg : decode cc pc = .ok (.invokevirtual index, 3)) (hI : iwM am) (hA : ∀ x, awM am x → A0 x) (hS : va_S A0 H0 H locs) (kk : ∀ (H1 : Heap) (locs1 : List Loc), va_P (dC, dI) vwCl (wM cI cZ am sm fe ex gp gc dy n pe gr st dl wo q yc ya yd ys tp fu sh ro (nI 2)) H1 → va_S A0 H0 H1 locs1 → (∀ q : Nat, q < H.size → ¬ awM am q → H1[q]? = H[q]?) → W p l e R s m args below meth c H1 locs1 cells slots Q (F0 m (pc + 3) ls (.int (nI 0) :: rest))) : W p l e R s m args below meth c H locs cells slots Q (F0 m pc ls (.int x3 :: .int x2 :: .int x1 :: .ref (am 0) :: rest)) := va_calli (va_runV (As := [.int x1, .int x2, .int x3]) (rest := rest) ⟨hx, hb, hml, hown, hts⟩ (c_X4_setFund_2 (dC := dC) (dI := dI) (cI := cI) (cZ := cZ) (am := am) (sm := sm) (fe := fe) (ex := ex) (gp := gp) (gc := gc) (dy := dy) (n := n) (pe := pe) (gr := gr) (st := st) (dl := dl) (wo := wo) (q := q) (yc := yc) (ya := ya) (yd := yd) (ys := ys) (tp := tp) (fu := fu) (sh := sh) (ro := ro) (th := th) (x1 := x1) (x2 := x2) (x3 := x3) l hI h1 h2 h3 hq h0) (cwV 3 hts hg9 rfl rfl rfl (by decide +kernel) hR9) ⟨fun a U g mk q => ⟨q.1, q.2.1, va_K.moved (u := U) (U := U.calling g mk a) (Vm.Alike.refl U.vm) q.2.2⟩, rM_0 hK hP, fun U hU hW => ⟨rfl, by rw [hU]; exact hP, va_K.moved hW.alike hK⟩⟩ rfl rfl hl9 rfl (lv_room hw9) hdg hc9) hS (fun q _ h => hA q h) hA (fun r u t H1 locs1 ht _ hu hB hz hk hS1 => by subst hu; exact kk H1 locs1 (by rw [ht] at hB; exact hB) hS1 hk)
end
set_option maxHeartbeats 4000000 in
set_option maxRecDepth 100000 in
theorem c_X4_setGrade_ok (l : Launch) {dC : Nat → ClassId} {dI : Nat → Nat → Nat} {cI cZ : ClassId} {am : Nat → Nat} {sm fe ex : Int32} {gp gc : Nat → Int32} {dy : Int32} {n : Nat} {pe gr st dl wo : Nat → Int32} {q : Nat} {yc ya yd ys tp fu sh ro : Nat → Int32} {th : Int32} {k : Nat} {x2 : Int32} {x3 : Int32} (hI : iwM am) (hk : k < 5) (h1 : outN (nI k) (nI 0) (nI 4) = 0) (h2 : outN x2 (nI 1) (nI 100) = 0) (h3 : outN x3 (nI 1) (nI 1000000) = 0) (h0 : q = 0) : Met l yX4_setGrade wsX4_setGrade { frames := 1, cells := 0, slots := 0, locals := 22 } (va_Pc [.ref (am 0), .int (nI k), .int x2, .int x3] (fun U => va_P (dC, dI) vwCl (wM cI cZ am sm fe ex gp gc dy n pe gr st dl wo q yc ya yd ys tp fu sh ro th) U.heap ∧ va_K (dC, dI) vwCl [(cI, .int), (cZ, .boolean)] U)) (va_Qv (fun _ : Unit => True) (fun _ t => va_P (dC, dI) vwCl (wM cI cZ am sm fe ex (upd gp k x2) (upd gc k x3) dy n pe gr st dl wo q yc ya yd ys tp fu sh ro (nI 0)) t.heap) (awM am)) 0 0 (awM am) := by
  refine Met.ofW (cc := cX4_setGrade) (maxL := 5) (ret := none) (by decide) rfl ?_
  intro p e s m args below meth c s₁ B hml hv
  obtain ⟨rfl, hP, hK⟩ := hv
  have hx := B.exec
  have hb := B.bytes
  have hr := B.returns
  have hts := atoms_spec (ws := wsX4_setGrade) B.pre
  have hown : s.vm.findClass RX4 = some m.cls := findClass_of_methodNamed B.named
  have hlocks := B.notSynchronized
  have hS : va_S (awM am) s.heap s.heap [] := va_S.rf
  have hl := lv_entry ([.ref (am 0), .int (nI k), .int x2, .int x3]) (n := 5) (Nat.le_of_ble_eq_true rfl)
  rw [lg_entry_eq]
  generalize (lg_sl ([.ref (am 0), .int (nI k), .int x2, .int x3]) ++ List.replicate (5 - (lg_sl ([.ref (am 0), .int (nI k), .int x2, .int x3])).length) Slot.unset).toArray = ls at hl ⊢
  have hl : lv_has ls 5 [(0, .ref (am 0)), (1, .int (nI k)), (2, .int x2), (3, .int x3)] := hl
  have hk56 := hts (.constant RX4 56 1000000) (by decide +kernel)
  have hiX4 : ∀ w ∈ wsX40, w ∈ wsX4_setGrade := by decide +kernel
  have hf68 := hts (.fieldLink RX4 68 "SettlementFundModel" "payments" "I") (by decide +kernel)
  have hf7 := hts (.fieldLink RX4 7 "SettlementFundModel" "points" "[I") (by decide +kernel)
  have hf13 := hts (.fieldLink RX4 13 "SettlementFundModel" "caps" "[I") (by decide +kernel)
  refine lv_iload_n hx hb dX4_setGrade_0 rfl (lv_at hl 2 rfl) ?_
  refine lv_iconst (v := nI 1) hx hb dX4_setGrade_1 (by decide) ?_
  refine lv_bipush (v := nI 100) hx hb dX4_setGrade_2 (by decide) ?_
  refine k_X4_isIn l (x := x2) (a := nI 1) (b := nI 100) hx hb hml hown hts  gX4_setGrade_X4_isIn ⟨Nat.le_of_ble_eq_true rfl, Nat.le_of_ble_eq_true rfl⟩ ⟨Nat.le_of_ble_eq_true rfl, Nat.le_of_ble_eq_true rfl⟩ hl.1 (Nat.le_of_ble_eq_true rfl) dX4_setGrade_4 ?_
  refine zi_eq (tgt := 24) hx hb (by omega) dX4_setGrade_7 (by decide) (fun c_7 => (show False by omega).elim) (fun c_7 => ?_)
  refine lv_iload_n hx hb dX4_setGrade_10 rfl (lv_at hl 3 rfl) ?_
  refine lv_iconst (v := nI 1) hx hb dX4_setGrade_11 (by decide) ?_
  refine lv_ldc hx hb hown hk56 dX4_setGrade_12 ?_
  refine zt_i (y := nI 1000000) rfl ?_
  refine k_X4_isIn l (x := x3) (a := nI 1) (b := nI 1000000) hx hb hml hown hts  gX4_setGrade_X4_isIn ⟨Nat.le_of_ble_eq_true rfl, Nat.le_of_ble_eq_true rfl⟩ ⟨Nat.le_of_ble_eq_true rfl, Nat.le_of_ble_eq_true rfl⟩ hl.1 (Nat.le_of_ble_eq_true rfl) dX4_setGrade_14 ?_
  refine zi_eq (tgt := 24) hx hb (by omega) dX4_setGrade_17 (by decide) (fun c_17 => (show False by omega).elim) (fun c_17 => ?_)
  refine lv_iconst (v := nI 1) hx hb dX4_setGrade_20 (by decide) ?_
  refine lv_goto (tgt := 25) hx hb dX4_setGrade_21 (by decide) ?_
  refine lv_istore (lv' := [(4, .int (nI 1)), (0, .ref (am 0)), (1, .int (nI k)), (2, .int x2), (3, .int x3)]) hx hb dX4_setGrade_25 hl (by decide) rfl (fun ls hl => ?_)
  refine lv_aload_n hx hb dX4_setGrade_27 rfl (lv_at hl 1 rfl) ?_
  refine lv_iload_n hx hb dX4_setGrade_28 rfl (lv_at hl 2 rfl) ?_
  refine lv_iconst (v := nI 0) hx hb dX4_setGrade_29 (by decide) ?_
  refine lv_iconst (v := nI 4) hx hb dX4_setGrade_30 (by decide) ?_
  refine k_X4_isIn l (x := nI k) (a := nI 0) (b := nI 4) hx hb hml hown hts  gX4_setGrade_X4_isIn ⟨Nat.le_of_ble_eq_true rfl, Nat.le_of_ble_eq_true rfl⟩ ⟨Nat.le_of_ble_eq_true rfl, Nat.le_of_ble_eq_true rfl⟩ hl.1 (Nat.le_of_ble_eq_true rfl) dX4_setGrade_31 ?_
  refine zi_ne (tgt := 41) hx hb (by omega) dX4_setGrade_34 (by decide) (fun c_34 => ?_) (fun c_34 => (show False by omega).elim)
  refine lv_iload hx hb dX4_setGrade_41 (lv_at hl 0 rfl) ?_
  refine zi_ne (tgt := 50) hx hb (by decide) dX4_setGrade_43 (by decide) (fun c_43 => ?_) (fun c_43 => (show False by omega).elim)
  refine lv_aload_n hx hb dX4_setGrade_50 rfl (lv_at hl 1 rfl) ?_
  refine gM_0_12 hx hb hts hiX4 hown hK hP hf68 dX4_setGrade_51 ?_
  refine zi_le (tgt := 61) hx hb (by omega) dX4_setGrade_54 (by decide) (fun c_54 => ?_) (fun c_54 => (show False by omega).elim)
  refine lv_iconst (v := nI 0) hx hb dX4_setGrade_61 (by decide) ?_
  refine k_X4_goes_0 l  hx hb hml hown hts hK hP gX4_setGrade_X4_goes ⟨Nat.le_of_ble_eq_true rfl, Nat.le_of_ble_eq_true rfl⟩ ⟨Nat.le_of_ble_eq_true rfl, Nat.le_of_ble_eq_true rfl⟩ hl.1 (Nat.le_of_ble_eq_true rfl) dX4_setGrade_62 hI (fun _ h => h) hS (fun H locs hP hS _ => ?_)
  refine zi_eq (tgt := 82) hx hb (by decide) dX4_setGrade_65 (by decide) (fun c_65 => (show False by omega).elim) (fun c_65 => ?_)
  refine lv_aload_n hx hb dX4_setGrade_68 rfl (lv_at hl 1 rfl) ?_
  refine gM_0_3 hx hb hts hiX4 hown hK hP hf7 dX4_setGrade_69 ?_
  refine lv_iload_n hx hb dX4_setGrade_72 rfl (lv_at hl 2 rfl) ?_
  refine lv_iload_n hx hb dX4_setGrade_73 rfl (lv_at hl 3 rfl) ?_
  refine sM_1 hx hb hK hP hI (fun _ h => h) hS (by omega) dX4_setGrade_74 (fun H locs hP hS => ?_)
  refine lv_aload_n hx hb dX4_setGrade_75 rfl (lv_at hl 1 rfl) ?_
  refine gM_0_4 hx hb hts hiX4 hown hK hP hf13 dX4_setGrade_76 ?_
  refine lv_iload_n hx hb dX4_setGrade_79 rfl (lv_at hl 2 rfl) ?_
  refine lv_iload_n hx hb dX4_setGrade_80 rfl (lv_at hl 4 rfl) ?_
  refine sM_2 hx hb hK hP hI (fun _ h => h) hS (by omega) dX4_setGrade_81 (fun H locs hP hS => ?_)
  exact W.vret hx hb hr (fun t ht hW => ⟨⟨(), rfl, trivial, by (try dsimp only); rw [ht]; exact hP⟩, hS.F ht⟩) hS.2.2 dX4_setGrade_82
section
variable {p : Program} {e : Env} {R : Room} {s : State} {m : MethodId} {args : Array Value} {below : List Frame} {meth : Method} {c : Code} {H : Heap} {locs : List Loc} {cells slots : Nat} {Q : State → Prop} {cc : ByteArray} {pc : Nat} {ls : Array Slot} {rest : List Value} {own : String} {index nL : Nat} {Ts : List Cond} {H0 : Heap} {A0 : Nat → Prop}
theorem k_X4_setGrade_ok (l : Launch) {dC : Nat → ClassId} {dI : Nat → Nat → Nat} {cI cZ : ClassId} {am : Nat → Nat} {sm fe ex : Int32} {gp gc : Nat → Int32} {dy : Int32} {n : Nat} {pe gr st dl wo : Nat → Int32} {q : Nat} {yc ya yd ys tp fu sh ro : Nat → Int32} {th : Int32} {k : Nat} {x2 : Int32} {x3 : Int32} (hk : k < 5) (h1 : outN (nI k) (nI 0) (nI 4) = 0) (h2 : outN x2 (nI 1) (nI 100) = 0) (h3 : outN x3 (nI 1) (nI 1000000) = 0) (h0 : q = 0) (hx : p.tables.exec = Jvm.exec) (hb : c.code = cc) (hml : c.maxLocals = nL) (hown : s.vm.findClass own = some m.cls) (hts : ∀ w ∈ Ts, w.before args s = true) (hK : va_K (dC, dI) vwCl [(cI, .int), (cZ, .boolean)] s) (hP : va_P (dC, dI) vwCl (wM cI cZ am sm fe ex gp gc dy n pe gr st dl wo q yc ya yd ys tp fu sh ro th) H) (hg9 : GoodIn Ts (wsV own index RX4 yX4_setGrade wsX4_setGrade)) (hR9 : 1 + 1 ≤ R.frames ∧ 8 + (5 + 11) + 22 ≤ R.locals) (hc9 : cells ≤ R.cells ∧ slots ≤ R.slots) (hl9 : ls.size = nL) (hw9 : (rest.map fun v => v.category).sum ≤ 8) (hdg : decode cc pc = .ok (.invokevirtual index, 3)) (hI : iwM am) (hA : ∀ x, awM am x → A0 x) (hS : va_S A0 H0 H locs) (kk : ∀ (H1 : Heap) (locs1 : List Loc), va_P (dC, dI) vwCl (wM cI cZ am sm fe ex (upd gp k x2) (upd gc k x3) dy n pe gr st dl wo q yc ya yd ys tp fu sh ro (nI 0)) H1 → va_S A0 H0 H1 locs1 → (∀ q : Nat, q < H.size → ¬ awM am q → H1[q]? = H[q]?) → W p l e R s m args below meth c H1 locs1 cells slots Q (F0 m (pc + 3) ls (rest))) : W p l e R s m args below meth c H locs cells slots Q (F0 m pc ls (.int x3 :: .int x2 :: .int (nI k) :: .ref (am 0) :: rest)) := va_callv (va_runV (As := [.int (nI k), .int x2, .int x3]) (rest := rest) ⟨hx, hb, hml, hown, hts⟩ (c_X4_setGrade_ok (dC := dC) (dI := dI) (cI := cI) (cZ := cZ) (am := am) (sm := sm) (fe := fe) (ex := ex) (gp := gp) (gc := gc) (dy := dy) (n := n) (pe := pe) (gr := gr) (st := st) (dl := dl) (wo := wo) (q := q) (yc := yc) (ya := ya) (yd := yd) (ys := ys) (tp := tp) (fu := fu) (sh := sh) (ro := ro) (th := th) (k := k) (x2 := x2) (x3 := x3) l hI hk h1 h2 h3 h0) (cwV 3 hts hg9 rfl rfl rfl (by decide +kernel) hR9) ⟨fun a U g mk q => ⟨q.1, q.2.1, va_K.moved (u := U) (U := U.calling g mk a) (Vm.Alike.refl U.vm) q.2.2⟩, rM_0 hK hP, fun U hU hW => ⟨rfl, by rw [hU]; exact hP, va_K.moved hW.alike hK⟩⟩ rfl rfl hl9 rfl (lv_room hw9) hdg hc9) hS (fun q _ h => hA q h) hA (fun u t H1 locs1 ht _ hu hB hz hk hS1 => kk H1 locs1 (by rw [ht] at hB; exact hB) hS1 hk)
end
set_option maxHeartbeats 4000000 in
set_option maxRecDepth 100000 in
theorem c_X4_setGrade_1 (l : Launch) {dC : Nat → ClassId} {dI : Nat → Nat → Nat} {cI cZ : ClassId} {am : Nat → Nat} {sm fe ex : Int32} {gp gc : Nat → Int32} {dy : Int32} {n : Nat} {pe gr st dl wo : Nat → Int32} {q : Nat} {yc ya yd ys tp fu sh ro : Nat → Int32} {th : Int32} {x1 : Int32} {x2 : Int32} {x3 : Int32} (hI : iwM am) (h1 : ¬ outN x1 (nI 0) (nI 4) = 0) : Met l yX4_setGrade wsX4_setGrade { frames := 1, cells := 0, slots := 0, locals := 22 } (va_Pc [.ref (am 0), .int x1, .int x2, .int x3] (fun U => va_P (dC, dI) vwCl (wM cI cZ am sm fe ex gp gc dy n pe gr st dl wo q yc ya yd ys tp fu sh ro th) U.heap ∧ va_K (dC, dI) vwCl [(cI, .int), (cZ, .boolean)] U)) (va_Qv (fun _ : Unit => True) (fun _ t => va_P (dC, dI) vwCl (wM cI cZ am sm fe ex gp gc dy n pe gr st dl wo q yc ya yd ys tp fu sh ro (nI 1)) t.heap) (awM am)) 0 0 (awM am) := by
  refine Met.ofW (cc := cX4_setGrade) (maxL := 5) (ret := none) (by decide) rfl ?_
  intro p e s m args below meth c s₁ B hml hv
  obtain ⟨rfl, hP, hK⟩ := hv
  have hx := B.exec
  have hb := B.bytes
  have hr := B.returns
  have hts := atoms_spec (ws := wsX4_setGrade) B.pre
  have hown : s.vm.findClass RX4 = some m.cls := findClass_of_methodNamed B.named
  have hlocks := B.notSynchronized
  have hS : va_S (awM am) s.heap s.heap [] := va_S.rf
  have hl := lv_entry ([.ref (am 0), .int x1, .int x2, .int x3]) (n := 5) (Nat.le_of_ble_eq_true rfl)
  rw [lg_entry_eq]
  generalize (lg_sl ([.ref (am 0), .int x1, .int x2, .int x3]) ++ List.replicate (5 - (lg_sl ([.ref (am 0), .int x1, .int x2, .int x3])).length) Slot.unset).toArray = ls at hl ⊢
  have hl : lv_has ls 5 [(0, .ref (am 0)), (1, .int x1), (2, .int x2), (3, .int x3)] := hl
  have hk56 := hts (.constant RX4 56 1000000) (by decide +kernel)
  refine lv_iload_n hx hb dX4_setGrade_0 rfl (lv_at hl 2 rfl) ?_
  refine lv_iconst (v := nI 1) hx hb dX4_setGrade_1 (by decide) ?_
  refine lv_bipush (v := nI 100) hx hb dX4_setGrade_2 (by decide) ?_
  refine k_X4_isIn l (x := x2) (a := nI 1) (b := nI 100) hx hb hml hown hts  gX4_setGrade_X4_isIn ⟨Nat.le_of_ble_eq_true rfl, Nat.le_of_ble_eq_true rfl⟩ ⟨Nat.le_of_ble_eq_true rfl, Nat.le_of_ble_eq_true rfl⟩ hl.1 (Nat.le_of_ble_eq_true rfl) dX4_setGrade_4 ?_
  refine zi_eq (tgt := 24) hx hb (by omega) dX4_setGrade_7 (by decide) (fun c_7 => ?_) (fun c_7 => ?_)
  · refine lv_iconst (v := nI 0) hx hb dX4_setGrade_24 (by decide) ?_
    refine lv_istore (lv' := [(4, .int (nI 0)), (0, .ref (am 0)), (1, .int x1), (2, .int x2), (3, .int x3)]) hx hb dX4_setGrade_25 hl (by decide) rfl (fun ls hl => ?_)
    refine lv_aload_n hx hb dX4_setGrade_27 rfl (lv_at hl 1 rfl) ?_
    refine lv_iload_n hx hb dX4_setGrade_28 rfl (lv_at hl 2 rfl) ?_
    refine lv_iconst (v := nI 0) hx hb dX4_setGrade_29 (by decide) ?_
    refine lv_iconst (v := nI 4) hx hb dX4_setGrade_30 (by decide) ?_
    refine k_X4_isIn l (x := x1) (a := nI 0) (b := nI 4) hx hb hml hown hts  gX4_setGrade_X4_isIn ⟨Nat.le_of_ble_eq_true rfl, Nat.le_of_ble_eq_true rfl⟩ ⟨Nat.le_of_ble_eq_true rfl, Nat.le_of_ble_eq_true rfl⟩ hl.1 (Nat.le_of_ble_eq_true rfl) dX4_setGrade_31 ?_
    refine zi_ne (tgt := 41) hx hb (by omega) dX4_setGrade_34 (by decide) (fun c_34 => (show False by omega).elim) (fun c_34 => ?_)
    refine lv_iconst (v := nI 1) hx hb dX4_setGrade_37 (by decide) ?_
    refine lv_goto (tgt := 62) hx hb dX4_setGrade_38 (by decide) ?_
    refine k_X4_goes_k l (k := 1) (hk := by decide) (h2 := by decide) hx hb hml hown hts hK hP gX4_setGrade_X4_goes ⟨Nat.le_of_ble_eq_true rfl, Nat.le_of_ble_eq_true rfl⟩ ⟨Nat.le_of_ble_eq_true rfl, Nat.le_of_ble_eq_true rfl⟩ hl.1 (Nat.le_of_ble_eq_true rfl) dX4_setGrade_62 hI (fun _ h => h) hS (fun H locs hP hS _ => ?_)
    refine zi_eq (tgt := 82) hx hb (by decide) dX4_setGrade_65 (by decide) (fun c_65 => ?_) (fun c_65 => (show False by omega).elim)
    exact W.vret hx hb hr (fun t ht hW => ⟨⟨(), rfl, trivial, by (try dsimp only); rw [ht]; exact hP⟩, hS.F ht⟩) hS.2.2 dX4_setGrade_82
  · refine lv_iload_n hx hb dX4_setGrade_10 rfl (lv_at hl 3 rfl) ?_
    refine lv_iconst (v := nI 1) hx hb dX4_setGrade_11 (by decide) ?_
    refine lv_ldc hx hb hown hk56 dX4_setGrade_12 ?_
    refine zt_i (y := nI 1000000) rfl ?_
    refine k_X4_isIn l (x := x3) (a := nI 1) (b := nI 1000000) hx hb hml hown hts  gX4_setGrade_X4_isIn ⟨Nat.le_of_ble_eq_true rfl, Nat.le_of_ble_eq_true rfl⟩ ⟨Nat.le_of_ble_eq_true rfl, Nat.le_of_ble_eq_true rfl⟩ hl.1 (Nat.le_of_ble_eq_true rfl) dX4_setGrade_14 ?_
    refine zi_eq (tgt := 24) hx hb (by omega) dX4_setGrade_17 (by decide) (fun c_17 => ?_) (fun c_17 => ?_)
    · refine lv_iconst (v := nI 0) hx hb dX4_setGrade_24 (by decide) ?_
      refine lv_istore (lv' := [(4, .int (nI 0)), (0, .ref (am 0)), (1, .int x1), (2, .int x2), (3, .int x3)]) hx hb dX4_setGrade_25 hl (by decide) rfl (fun ls hl => ?_)
      refine lv_aload_n hx hb dX4_setGrade_27 rfl (lv_at hl 1 rfl) ?_
      refine lv_iload_n hx hb dX4_setGrade_28 rfl (lv_at hl 2 rfl) ?_
      refine lv_iconst (v := nI 0) hx hb dX4_setGrade_29 (by decide) ?_
      refine lv_iconst (v := nI 4) hx hb dX4_setGrade_30 (by decide) ?_
      refine k_X4_isIn l (x := x1) (a := nI 0) (b := nI 4) hx hb hml hown hts  gX4_setGrade_X4_isIn ⟨Nat.le_of_ble_eq_true rfl, Nat.le_of_ble_eq_true rfl⟩ ⟨Nat.le_of_ble_eq_true rfl, Nat.le_of_ble_eq_true rfl⟩ hl.1 (Nat.le_of_ble_eq_true rfl) dX4_setGrade_31 ?_
      refine zi_ne (tgt := 41) hx hb (by omega) dX4_setGrade_34 (by decide) (fun c_34 => (show False by omega).elim) (fun c_34 => ?_)
      refine lv_iconst (v := nI 1) hx hb dX4_setGrade_37 (by decide) ?_
      refine lv_goto (tgt := 62) hx hb dX4_setGrade_38 (by decide) ?_
      refine k_X4_goes_k l (k := 1) (hk := by decide) (h2 := by decide) hx hb hml hown hts hK hP gX4_setGrade_X4_goes ⟨Nat.le_of_ble_eq_true rfl, Nat.le_of_ble_eq_true rfl⟩ ⟨Nat.le_of_ble_eq_true rfl, Nat.le_of_ble_eq_true rfl⟩ hl.1 (Nat.le_of_ble_eq_true rfl) dX4_setGrade_62 hI (fun _ h => h) hS (fun H locs hP hS _ => ?_)
      refine zi_eq (tgt := 82) hx hb (by decide) dX4_setGrade_65 (by decide) (fun c_65 => ?_) (fun c_65 => (show False by omega).elim)
      exact W.vret hx hb hr (fun t ht hW => ⟨⟨(), rfl, trivial, by (try dsimp only); rw [ht]; exact hP⟩, hS.F ht⟩) hS.2.2 dX4_setGrade_82
    · refine lv_iconst (v := nI 1) hx hb dX4_setGrade_20 (by decide) ?_
      refine lv_goto (tgt := 25) hx hb dX4_setGrade_21 (by decide) ?_
      refine lv_istore (lv' := [(4, .int (nI 1)), (0, .ref (am 0)), (1, .int x1), (2, .int x2), (3, .int x3)]) hx hb dX4_setGrade_25 hl (by decide) rfl (fun ls hl => ?_)
      refine lv_aload_n hx hb dX4_setGrade_27 rfl (lv_at hl 1 rfl) ?_
      refine lv_iload_n hx hb dX4_setGrade_28 rfl (lv_at hl 2 rfl) ?_
      refine lv_iconst (v := nI 0) hx hb dX4_setGrade_29 (by decide) ?_
      refine lv_iconst (v := nI 4) hx hb dX4_setGrade_30 (by decide) ?_
      refine k_X4_isIn l (x := x1) (a := nI 0) (b := nI 4) hx hb hml hown hts  gX4_setGrade_X4_isIn ⟨Nat.le_of_ble_eq_true rfl, Nat.le_of_ble_eq_true rfl⟩ ⟨Nat.le_of_ble_eq_true rfl, Nat.le_of_ble_eq_true rfl⟩ hl.1 (Nat.le_of_ble_eq_true rfl) dX4_setGrade_31 ?_
      refine zi_ne (tgt := 41) hx hb (by omega) dX4_setGrade_34 (by decide) (fun c_34 => (show False by omega).elim) (fun c_34 => ?_)
      refine lv_iconst (v := nI 1) hx hb dX4_setGrade_37 (by decide) ?_
      refine lv_goto (tgt := 62) hx hb dX4_setGrade_38 (by decide) ?_
      refine k_X4_goes_k l (k := 1) (hk := by decide) (h2 := by decide) hx hb hml hown hts hK hP gX4_setGrade_X4_goes ⟨Nat.le_of_ble_eq_true rfl, Nat.le_of_ble_eq_true rfl⟩ ⟨Nat.le_of_ble_eq_true rfl, Nat.le_of_ble_eq_true rfl⟩ hl.1 (Nat.le_of_ble_eq_true rfl) dX4_setGrade_62 hI (fun _ h => h) hS (fun H locs hP hS _ => ?_)
      refine zi_eq (tgt := 82) hx hb (by decide) dX4_setGrade_65 (by decide) (fun c_65 => ?_) (fun c_65 => (show False by omega).elim)
      exact W.vret hx hb hr (fun t ht hW => ⟨⟨(), rfl, trivial, by (try dsimp only); rw [ht]; exact hP⟩, hS.F ht⟩) hS.2.2 dX4_setGrade_82
section
variable {p : Program} {e : Env} {R : Room} {s : State} {m : MethodId} {args : Array Value} {below : List Frame} {meth : Method} {c : Code} {H : Heap} {locs : List Loc} {cells slots : Nat} {Q : State → Prop} {cc : ByteArray} {pc : Nat} {ls : Array Slot} {rest : List Value} {own : String} {index nL : Nat} {Ts : List Cond} {H0 : Heap} {A0 : Nat → Prop}
theorem k_X4_setGrade_1 (l : Launch) {dC : Nat → ClassId} {dI : Nat → Nat → Nat} {cI cZ : ClassId} {am : Nat → Nat} {sm fe ex : Int32} {gp gc : Nat → Int32} {dy : Int32} {n : Nat} {pe gr st dl wo : Nat → Int32} {q : Nat} {yc ya yd ys tp fu sh ro : Nat → Int32} {th : Int32} {x1 : Int32} {x2 : Int32} {x3 : Int32} (h1 : ¬ outN x1 (nI 0) (nI 4) = 0) (hx : p.tables.exec = Jvm.exec) (hb : c.code = cc) (hml : c.maxLocals = nL) (hown : s.vm.findClass own = some m.cls) (hts : ∀ w ∈ Ts, w.before args s = true) (hK : va_K (dC, dI) vwCl [(cI, .int), (cZ, .boolean)] s) (hP : va_P (dC, dI) vwCl (wM cI cZ am sm fe ex gp gc dy n pe gr st dl wo q yc ya yd ys tp fu sh ro th) H) (hg9 : GoodIn Ts (wsV own index RX4 yX4_setGrade wsX4_setGrade)) (hR9 : 1 + 1 ≤ R.frames ∧ 8 + (5 + 11) + 22 ≤ R.locals) (hc9 : cells ≤ R.cells ∧ slots ≤ R.slots) (hl9 : ls.size = nL) (hw9 : (rest.map fun v => v.category).sum ≤ 8) (hdg : decode cc pc = .ok (.invokevirtual index, 3)) (hI : iwM am) (hA : ∀ x, awM am x → A0 x) (hS : va_S A0 H0 H locs) (kk : ∀ (H1 : Heap) (locs1 : List Loc), va_P (dC, dI) vwCl (wM cI cZ am sm fe ex gp gc dy n pe gr st dl wo q yc ya yd ys tp fu sh ro (nI 1)) H1 → va_S A0 H0 H1 locs1 → (∀ q : Nat, q < H.size → ¬ awM am q → H1[q]? = H[q]?) → W p l e R s m args below meth c H1 locs1 cells slots Q (F0 m (pc + 3) ls (rest))) : W p l e R s m args below meth c H locs cells slots Q (F0 m pc ls (.int x3 :: .int x2 :: .int x1 :: .ref (am 0) :: rest)) := va_callv (va_runV (As := [.int x1, .int x2, .int x3]) (rest := rest) ⟨hx, hb, hml, hown, hts⟩ (c_X4_setGrade_1 (dC := dC) (dI := dI) (cI := cI) (cZ := cZ) (am := am) (sm := sm) (fe := fe) (ex := ex) (gp := gp) (gc := gc) (dy := dy) (n := n) (pe := pe) (gr := gr) (st := st) (dl := dl) (wo := wo) (q := q) (yc := yc) (ya := ya) (yd := yd) (ys := ys) (tp := tp) (fu := fu) (sh := sh) (ro := ro) (th := th) (x1 := x1) (x2 := x2) (x3 := x3) l hI h1) (cwV 3 hts hg9 rfl rfl rfl (by decide +kernel) hR9) ⟨fun a U g mk q => ⟨q.1, q.2.1, va_K.moved (u := U) (U := U.calling g mk a) (Vm.Alike.refl U.vm) q.2.2⟩, rM_0 hK hP, fun U hU hW => ⟨rfl, by rw [hU]; exact hP, va_K.moved hW.alike hK⟩⟩ rfl rfl hl9 rfl (lv_room hw9) hdg hc9) hS (fun q _ h => hA q h) hA (fun u t H1 locs1 ht _ hu hB hz hk hS1 => kk H1 locs1 (by rw [ht] at hB; exact hB) hS1 hk)
end
set_option maxHeartbeats 4000000 in
set_option maxRecDepth 100000 in
theorem c_X4_setGrade_2 (l : Launch) {dC : Nat → ClassId} {dI : Nat → Nat → Nat} {cI cZ : ClassId} {am : Nat → Nat} {sm fe ex : Int32} {gp gc : Nat → Int32} {dy : Int32} {n : Nat} {pe gr st dl wo : Nat → Int32} {q : Nat} {yc ya yd ys tp fu sh ro : Nat → Int32} {th : Int32} {k : Nat} {x2 : Int32} {x3 : Int32} (hI : iwM am) (h1 : outN (nI k) (nI 0) (nI 4) = 0) (h2 : ¬ (outN x2 (nI 1) (nI 100) = 0 ∧ outN x3 (nI 1) (nI 1000000) = 0)) : Met l yX4_setGrade wsX4_setGrade { frames := 1, cells := 0, slots := 0, locals := 22 } (va_Pc [.ref (am 0), .int (nI k), .int x2, .int x3] (fun U => va_P (dC, dI) vwCl (wM cI cZ am sm fe ex gp gc dy n pe gr st dl wo q yc ya yd ys tp fu sh ro th) U.heap ∧ va_K (dC, dI) vwCl [(cI, .int), (cZ, .boolean)] U)) (va_Qv (fun _ : Unit => True) (fun _ t => va_P (dC, dI) vwCl (wM cI cZ am sm fe ex gp gc dy n pe gr st dl wo q yc ya yd ys tp fu sh ro (nI 2)) t.heap) (awM am)) 0 0 (awM am) := by
  refine Met.ofW (cc := cX4_setGrade) (maxL := 5) (ret := none) (by decide) rfl ?_
  intro p e s m args below meth c s₁ B hml hv
  obtain ⟨rfl, hP, hK⟩ := hv
  have hx := B.exec
  have hb := B.bytes
  have hr := B.returns
  have hts := atoms_spec (ws := wsX4_setGrade) B.pre
  have hown : s.vm.findClass RX4 = some m.cls := findClass_of_methodNamed B.named
  have hlocks := B.notSynchronized
  have hS : va_S (awM am) s.heap s.heap [] := va_S.rf
  have hl := lv_entry ([.ref (am 0), .int (nI k), .int x2, .int x3]) (n := 5) (Nat.le_of_ble_eq_true rfl)
  rw [lg_entry_eq]
  generalize (lg_sl ([.ref (am 0), .int (nI k), .int x2, .int x3]) ++ List.replicate (5 - (lg_sl ([.ref (am 0), .int (nI k), .int x2, .int x3])).length) Slot.unset).toArray = ls at hl ⊢
  have hl : lv_has ls 5 [(0, .ref (am 0)), (1, .int (nI k)), (2, .int x2), (3, .int x3)] := hl
  have hk56 := hts (.constant RX4 56 1000000) (by decide +kernel)
  refine lv_iload_n hx hb dX4_setGrade_0 rfl (lv_at hl 2 rfl) ?_
  refine lv_iconst (v := nI 1) hx hb dX4_setGrade_1 (by decide) ?_
  refine lv_bipush (v := nI 100) hx hb dX4_setGrade_2 (by decide) ?_
  refine k_X4_isIn l (x := x2) (a := nI 1) (b := nI 100) hx hb hml hown hts  gX4_setGrade_X4_isIn ⟨Nat.le_of_ble_eq_true rfl, Nat.le_of_ble_eq_true rfl⟩ ⟨Nat.le_of_ble_eq_true rfl, Nat.le_of_ble_eq_true rfl⟩ hl.1 (Nat.le_of_ble_eq_true rfl) dX4_setGrade_4 ?_
  refine zi_eq (tgt := 24) hx hb (by omega) dX4_setGrade_7 (by decide) (fun c_7 => ?_) (fun c_7 => ?_)
  · refine lv_iconst (v := nI 0) hx hb dX4_setGrade_24 (by decide) ?_
    refine lv_istore (lv' := [(4, .int (nI 0)), (0, .ref (am 0)), (1, .int (nI k)), (2, .int x2), (3, .int x3)]) hx hb dX4_setGrade_25 hl (by decide) rfl (fun ls hl => ?_)
    refine lv_aload_n hx hb dX4_setGrade_27 rfl (lv_at hl 1 rfl) ?_
    refine lv_iload_n hx hb dX4_setGrade_28 rfl (lv_at hl 2 rfl) ?_
    refine lv_iconst (v := nI 0) hx hb dX4_setGrade_29 (by decide) ?_
    refine lv_iconst (v := nI 4) hx hb dX4_setGrade_30 (by decide) ?_
    refine k_X4_isIn l (x := nI k) (a := nI 0) (b := nI 4) hx hb hml hown hts  gX4_setGrade_X4_isIn ⟨Nat.le_of_ble_eq_true rfl, Nat.le_of_ble_eq_true rfl⟩ ⟨Nat.le_of_ble_eq_true rfl, Nat.le_of_ble_eq_true rfl⟩ hl.1 (Nat.le_of_ble_eq_true rfl) dX4_setGrade_31 ?_
    refine zi_ne (tgt := 41) hx hb (by omega) dX4_setGrade_34 (by decide) (fun c_34 => ?_) (fun c_34 => (show False by omega).elim)
    refine lv_iload hx hb dX4_setGrade_41 (lv_at hl 0 rfl) ?_
    refine zi_ne (tgt := 50) hx hb (by decide) dX4_setGrade_43 (by decide) (fun c_43 => (show False by omega).elim) (fun c_43 => ?_)
    refine lv_iconst (v := nI 2) hx hb dX4_setGrade_46 (by decide) ?_
    refine lv_goto (tgt := 62) hx hb dX4_setGrade_47 (by decide) ?_
    refine k_X4_goes_k l (k := 2) (hk := by decide) (h2 := by decide) hx hb hml hown hts hK hP gX4_setGrade_X4_goes ⟨Nat.le_of_ble_eq_true rfl, Nat.le_of_ble_eq_true rfl⟩ ⟨Nat.le_of_ble_eq_true rfl, Nat.le_of_ble_eq_true rfl⟩ hl.1 (Nat.le_of_ble_eq_true rfl) dX4_setGrade_62 hI (fun _ h => h) hS (fun H locs hP hS _ => ?_)
    refine zi_eq (tgt := 82) hx hb (by decide) dX4_setGrade_65 (by decide) (fun c_65 => ?_) (fun c_65 => (show False by omega).elim)
    exact W.vret hx hb hr (fun t ht hW => ⟨⟨(), rfl, trivial, by (try dsimp only); rw [ht]; exact hP⟩, hS.F ht⟩) hS.2.2 dX4_setGrade_82
  · refine lv_iload_n hx hb dX4_setGrade_10 rfl (lv_at hl 3 rfl) ?_
    refine lv_iconst (v := nI 1) hx hb dX4_setGrade_11 (by decide) ?_
    refine lv_ldc hx hb hown hk56 dX4_setGrade_12 ?_
    refine zt_i (y := nI 1000000) rfl ?_
    refine k_X4_isIn l (x := x3) (a := nI 1) (b := nI 1000000) hx hb hml hown hts  gX4_setGrade_X4_isIn ⟨Nat.le_of_ble_eq_true rfl, Nat.le_of_ble_eq_true rfl⟩ ⟨Nat.le_of_ble_eq_true rfl, Nat.le_of_ble_eq_true rfl⟩ hl.1 (Nat.le_of_ble_eq_true rfl) dX4_setGrade_14 ?_
    refine zi_eq (tgt := 24) hx hb (by omega) dX4_setGrade_17 (by decide) (fun c_17 => ?_) (fun c_17 => (show False by exact h2 ⟨by omega, by omega⟩).elim)
    refine lv_iconst (v := nI 0) hx hb dX4_setGrade_24 (by decide) ?_
    refine lv_istore (lv' := [(4, .int (nI 0)), (0, .ref (am 0)), (1, .int (nI k)), (2, .int x2), (3, .int x3)]) hx hb dX4_setGrade_25 hl (by decide) rfl (fun ls hl => ?_)
    refine lv_aload_n hx hb dX4_setGrade_27 rfl (lv_at hl 1 rfl) ?_
    refine lv_iload_n hx hb dX4_setGrade_28 rfl (lv_at hl 2 rfl) ?_
    refine lv_iconst (v := nI 0) hx hb dX4_setGrade_29 (by decide) ?_
    refine lv_iconst (v := nI 4) hx hb dX4_setGrade_30 (by decide) ?_
    refine k_X4_isIn l (x := nI k) (a := nI 0) (b := nI 4) hx hb hml hown hts  gX4_setGrade_X4_isIn ⟨Nat.le_of_ble_eq_true rfl, Nat.le_of_ble_eq_true rfl⟩ ⟨Nat.le_of_ble_eq_true rfl, Nat.le_of_ble_eq_true rfl⟩ hl.1 (Nat.le_of_ble_eq_true rfl) dX4_setGrade_31 ?_
    refine zi_ne (tgt := 41) hx hb (by omega) dX4_setGrade_34 (by decide) (fun c_34 => ?_) (fun c_34 => (show False by omega).elim)
    refine lv_iload hx hb dX4_setGrade_41 (lv_at hl 0 rfl) ?_
    refine zi_ne (tgt := 50) hx hb (by decide) dX4_setGrade_43 (by decide) (fun c_43 => (show False by omega).elim) (fun c_43 => ?_)
    refine lv_iconst (v := nI 2) hx hb dX4_setGrade_46 (by decide) ?_
    refine lv_goto (tgt := 62) hx hb dX4_setGrade_47 (by decide) ?_
    refine k_X4_goes_k l (k := 2) (hk := by decide) (h2 := by decide) hx hb hml hown hts hK hP gX4_setGrade_X4_goes ⟨Nat.le_of_ble_eq_true rfl, Nat.le_of_ble_eq_true rfl⟩ ⟨Nat.le_of_ble_eq_true rfl, Nat.le_of_ble_eq_true rfl⟩ hl.1 (Nat.le_of_ble_eq_true rfl) dX4_setGrade_62 hI (fun _ h => h) hS (fun H locs hP hS _ => ?_)
    refine zi_eq (tgt := 82) hx hb (by decide) dX4_setGrade_65 (by decide) (fun c_65 => ?_) (fun c_65 => (show False by omega).elim)
    exact W.vret hx hb hr (fun t ht hW => ⟨⟨(), rfl, trivial, by (try dsimp only); rw [ht]; exact hP⟩, hS.F ht⟩) hS.2.2 dX4_setGrade_82
section
variable {p : Program} {e : Env} {R : Room} {s : State} {m : MethodId} {args : Array Value} {below : List Frame} {meth : Method} {c : Code} {H : Heap} {locs : List Loc} {cells slots : Nat} {Q : State → Prop} {cc : ByteArray} {pc : Nat} {ls : Array Slot} {rest : List Value} {own : String} {index nL : Nat} {Ts : List Cond} {H0 : Heap} {A0 : Nat → Prop}
theorem k_X4_setGrade_2 (l : Launch) {dC : Nat → ClassId} {dI : Nat → Nat → Nat} {cI cZ : ClassId} {am : Nat → Nat} {sm fe ex : Int32} {gp gc : Nat → Int32} {dy : Int32} {n : Nat} {pe gr st dl wo : Nat → Int32} {q : Nat} {yc ya yd ys tp fu sh ro : Nat → Int32} {th : Int32} {k : Nat} {x2 : Int32} {x3 : Int32} (h1 : outN (nI k) (nI 0) (nI 4) = 0) (h2 : ¬ (outN x2 (nI 1) (nI 100) = 0 ∧ outN x3 (nI 1) (nI 1000000) = 0)) (hx : p.tables.exec = Jvm.exec) (hb : c.code = cc) (hml : c.maxLocals = nL) (hown : s.vm.findClass own = some m.cls) (hts : ∀ w ∈ Ts, w.before args s = true) (hK : va_K (dC, dI) vwCl [(cI, .int), (cZ, .boolean)] s) (hP : va_P (dC, dI) vwCl (wM cI cZ am sm fe ex gp gc dy n pe gr st dl wo q yc ya yd ys tp fu sh ro th) H) (hg9 : GoodIn Ts (wsV own index RX4 yX4_setGrade wsX4_setGrade)) (hR9 : 1 + 1 ≤ R.frames ∧ 8 + (5 + 11) + 22 ≤ R.locals) (hc9 : cells ≤ R.cells ∧ slots ≤ R.slots) (hl9 : ls.size = nL) (hw9 : (rest.map fun v => v.category).sum ≤ 8) (hdg : decode cc pc = .ok (.invokevirtual index, 3)) (hI : iwM am) (hA : ∀ x, awM am x → A0 x) (hS : va_S A0 H0 H locs) (kk : ∀ (H1 : Heap) (locs1 : List Loc), va_P (dC, dI) vwCl (wM cI cZ am sm fe ex gp gc dy n pe gr st dl wo q yc ya yd ys tp fu sh ro (nI 2)) H1 → va_S A0 H0 H1 locs1 → (∀ q : Nat, q < H.size → ¬ awM am q → H1[q]? = H[q]?) → W p l e R s m args below meth c H1 locs1 cells slots Q (F0 m (pc + 3) ls (rest))) : W p l e R s m args below meth c H locs cells slots Q (F0 m pc ls (.int x3 :: .int x2 :: .int (nI k) :: .ref (am 0) :: rest)) := va_callv (va_runV (As := [.int (nI k), .int x2, .int x3]) (rest := rest) ⟨hx, hb, hml, hown, hts⟩ (c_X4_setGrade_2 (dC := dC) (dI := dI) (cI := cI) (cZ := cZ) (am := am) (sm := sm) (fe := fe) (ex := ex) (gp := gp) (gc := gc) (dy := dy) (n := n) (pe := pe) (gr := gr) (st := st) (dl := dl) (wo := wo) (q := q) (yc := yc) (ya := ya) (yd := yd) (ys := ys) (tp := tp) (fu := fu) (sh := sh) (ro := ro) (th := th) (k := k) (x2 := x2) (x3 := x3) l hI h1 h2) (cwV 3 hts hg9 rfl rfl rfl (by decide +kernel) hR9) ⟨fun a U g mk q => ⟨q.1, q.2.1, va_K.moved (u := U) (U := U.calling g mk a) (Vm.Alike.refl U.vm) q.2.2⟩, rM_0 hK hP, fun U hU hW => ⟨rfl, by rw [hU]; exact hP, va_K.moved hW.alike hK⟩⟩ rfl rfl hl9 rfl (lv_room hw9) hdg hc9) hS (fun q _ h => hA q h) hA (fun u t H1 locs1 ht _ hu hB hz hk hS1 => kk H1 locs1 (by rw [ht] at hB; exact hB) hS1 hk)
end
set_option maxHeartbeats 4000000 in
set_option maxRecDepth 100000 in
theorem c_X4_setGrade_3 (l : Launch) {dC : Nat → ClassId} {dI : Nat → Nat → Nat} {cI cZ : ClassId} {am : Nat → Nat} {sm fe ex : Int32} {gp gc : Nat → Int32} {dy : Int32} {n : Nat} {pe gr st dl wo : Nat → Int32} {q : Nat} {yc ya yd ys tp fu sh ro : Nat → Int32} {th : Int32} {k : Nat} {x2 : Int32} {x3 : Int32} (hI : iwM am) (h1 : outN (nI k) (nI 0) (nI 4) = 0) (h2 : outN x2 (nI 1) (nI 100) = 0) (h3 : outN x3 (nI 1) (nI 1000000) = 0) (hq : q ≤ 100) (h0 : ¬ q = 0) : Met l yX4_setGrade wsX4_setGrade { frames := 1, cells := 0, slots := 0, locals := 22 } (va_Pc [.ref (am 0), .int (nI k), .int x2, .int x3] (fun U => va_P (dC, dI) vwCl (wM cI cZ am sm fe ex gp gc dy n pe gr st dl wo q yc ya yd ys tp fu sh ro th) U.heap ∧ va_K (dC, dI) vwCl [(cI, .int), (cZ, .boolean)] U)) (va_Qv (fun _ : Unit => True) (fun _ t => va_P (dC, dI) vwCl (wM cI cZ am sm fe ex gp gc dy n pe gr st dl wo q yc ya yd ys tp fu sh ro (nI 3)) t.heap) (awM am)) 0 0 (awM am) := by
  refine Met.ofW (cc := cX4_setGrade) (maxL := 5) (ret := none) (by decide) rfl ?_
  intro p e s m args below meth c s₁ B hml hv
  obtain ⟨rfl, hP, hK⟩ := hv
  have hx := B.exec
  have hb := B.bytes
  have hr := B.returns
  have hts := atoms_spec (ws := wsX4_setGrade) B.pre
  have hown : s.vm.findClass RX4 = some m.cls := findClass_of_methodNamed B.named
  have hlocks := B.notSynchronized
  have hS : va_S (awM am) s.heap s.heap [] := va_S.rf
  have hl := lv_entry ([.ref (am 0), .int (nI k), .int x2, .int x3]) (n := 5) (Nat.le_of_ble_eq_true rfl)
  rw [lg_entry_eq]
  generalize (lg_sl ([.ref (am 0), .int (nI k), .int x2, .int x3]) ++ List.replicate (5 - (lg_sl ([.ref (am 0), .int (nI k), .int x2, .int x3])).length) Slot.unset).toArray = ls at hl ⊢
  have hl : lv_has ls 5 [(0, .ref (am 0)), (1, .int (nI k)), (2, .int x2), (3, .int x3)] := hl
  have hk56 := hts (.constant RX4 56 1000000) (by decide +kernel)
  have hiX4 : ∀ w ∈ wsX40, w ∈ wsX4_setGrade := by decide +kernel
  have hf68 := hts (.fieldLink RX4 68 "SettlementFundModel" "payments" "I") (by decide +kernel)
  refine lv_iload_n hx hb dX4_setGrade_0 rfl (lv_at hl 2 rfl) ?_
  refine lv_iconst (v := nI 1) hx hb dX4_setGrade_1 (by decide) ?_
  refine lv_bipush (v := nI 100) hx hb dX4_setGrade_2 (by decide) ?_
  refine k_X4_isIn l (x := x2) (a := nI 1) (b := nI 100) hx hb hml hown hts  gX4_setGrade_X4_isIn ⟨Nat.le_of_ble_eq_true rfl, Nat.le_of_ble_eq_true rfl⟩ ⟨Nat.le_of_ble_eq_true rfl, Nat.le_of_ble_eq_true rfl⟩ hl.1 (Nat.le_of_ble_eq_true rfl) dX4_setGrade_4 ?_
  refine zi_eq (tgt := 24) hx hb (by omega) dX4_setGrade_7 (by decide) (fun c_7 => (show False by omega).elim) (fun c_7 => ?_)
  refine lv_iload_n hx hb dX4_setGrade_10 rfl (lv_at hl 3 rfl) ?_
  refine lv_iconst (v := nI 1) hx hb dX4_setGrade_11 (by decide) ?_
  refine lv_ldc hx hb hown hk56 dX4_setGrade_12 ?_
  refine zt_i (y := nI 1000000) rfl ?_
  refine k_X4_isIn l (x := x3) (a := nI 1) (b := nI 1000000) hx hb hml hown hts  gX4_setGrade_X4_isIn ⟨Nat.le_of_ble_eq_true rfl, Nat.le_of_ble_eq_true rfl⟩ ⟨Nat.le_of_ble_eq_true rfl, Nat.le_of_ble_eq_true rfl⟩ hl.1 (Nat.le_of_ble_eq_true rfl) dX4_setGrade_14 ?_
  refine zi_eq (tgt := 24) hx hb (by omega) dX4_setGrade_17 (by decide) (fun c_17 => (show False by omega).elim) (fun c_17 => ?_)
  refine lv_iconst (v := nI 1) hx hb dX4_setGrade_20 (by decide) ?_
  refine lv_goto (tgt := 25) hx hb dX4_setGrade_21 (by decide) ?_
  refine lv_istore (lv' := [(4, .int (nI 1)), (0, .ref (am 0)), (1, .int (nI k)), (2, .int x2), (3, .int x3)]) hx hb dX4_setGrade_25 hl (by decide) rfl (fun ls hl => ?_)
  refine lv_aload_n hx hb dX4_setGrade_27 rfl (lv_at hl 1 rfl) ?_
  refine lv_iload_n hx hb dX4_setGrade_28 rfl (lv_at hl 2 rfl) ?_
  refine lv_iconst (v := nI 0) hx hb dX4_setGrade_29 (by decide) ?_
  refine lv_iconst (v := nI 4) hx hb dX4_setGrade_30 (by decide) ?_
  refine k_X4_isIn l (x := nI k) (a := nI 0) (b := nI 4) hx hb hml hown hts  gX4_setGrade_X4_isIn ⟨Nat.le_of_ble_eq_true rfl, Nat.le_of_ble_eq_true rfl⟩ ⟨Nat.le_of_ble_eq_true rfl, Nat.le_of_ble_eq_true rfl⟩ hl.1 (Nat.le_of_ble_eq_true rfl) dX4_setGrade_31 ?_
  refine zi_ne (tgt := 41) hx hb (by omega) dX4_setGrade_34 (by decide) (fun c_34 => ?_) (fun c_34 => (show False by omega).elim)
  refine lv_iload hx hb dX4_setGrade_41 (lv_at hl 0 rfl) ?_
  refine zi_ne (tgt := 50) hx hb (by decide) dX4_setGrade_43 (by decide) (fun c_43 => ?_) (fun c_43 => (show False by omega).elim)
  refine lv_aload_n hx hb dX4_setGrade_50 rfl (lv_at hl 1 rfl) ?_
  refine gM_0_12 hx hb hts hiX4 hown hK hP hf68 dX4_setGrade_51 ?_
  refine zi_le (tgt := 61) hx hb (by omega) dX4_setGrade_54 (by decide) (fun c_54 => (show False by omega).elim) (fun c_54 => ?_)
  refine lv_iconst (v := nI 3) hx hb dX4_setGrade_57 (by decide) ?_
  refine lv_goto (tgt := 62) hx hb dX4_setGrade_58 (by decide) ?_
  refine k_X4_goes_k l (k := 3) (hk := by decide) (h2 := by decide) hx hb hml hown hts hK hP gX4_setGrade_X4_goes ⟨Nat.le_of_ble_eq_true rfl, Nat.le_of_ble_eq_true rfl⟩ ⟨Nat.le_of_ble_eq_true rfl, Nat.le_of_ble_eq_true rfl⟩ hl.1 (Nat.le_of_ble_eq_true rfl) dX4_setGrade_62 hI (fun _ h => h) hS (fun H locs hP hS _ => ?_)
  refine zi_eq (tgt := 82) hx hb (by decide) dX4_setGrade_65 (by decide) (fun c_65 => ?_) (fun c_65 => (show False by omega).elim)
  exact W.vret hx hb hr (fun t ht hW => ⟨⟨(), rfl, trivial, by (try dsimp only); rw [ht]; exact hP⟩, hS.F ht⟩) hS.2.2 dX4_setGrade_82
section
variable {p : Program} {e : Env} {R : Room} {s : State} {m : MethodId} {args : Array Value} {below : List Frame} {meth : Method} {c : Code} {H : Heap} {locs : List Loc} {cells slots : Nat} {Q : State → Prop} {cc : ByteArray} {pc : Nat} {ls : Array Slot} {rest : List Value} {own : String} {index nL : Nat} {Ts : List Cond} {H0 : Heap} {A0 : Nat → Prop}
theorem k_X4_setGrade_3 (l : Launch) {dC : Nat → ClassId} {dI : Nat → Nat → Nat} {cI cZ : ClassId} {am : Nat → Nat} {sm fe ex : Int32} {gp gc : Nat → Int32} {dy : Int32} {n : Nat} {pe gr st dl wo : Nat → Int32} {q : Nat} {yc ya yd ys tp fu sh ro : Nat → Int32} {th : Int32} {k : Nat} {x2 : Int32} {x3 : Int32} (h1 : outN (nI k) (nI 0) (nI 4) = 0) (h2 : outN x2 (nI 1) (nI 100) = 0) (h3 : outN x3 (nI 1) (nI 1000000) = 0) (hq : q ≤ 100) (h0 : ¬ q = 0) (hx : p.tables.exec = Jvm.exec) (hb : c.code = cc) (hml : c.maxLocals = nL) (hown : s.vm.findClass own = some m.cls) (hts : ∀ w ∈ Ts, w.before args s = true) (hK : va_K (dC, dI) vwCl [(cI, .int), (cZ, .boolean)] s) (hP : va_P (dC, dI) vwCl (wM cI cZ am sm fe ex gp gc dy n pe gr st dl wo q yc ya yd ys tp fu sh ro th) H) (hg9 : GoodIn Ts (wsV own index RX4 yX4_setGrade wsX4_setGrade)) (hR9 : 1 + 1 ≤ R.frames ∧ 8 + (5 + 11) + 22 ≤ R.locals) (hc9 : cells ≤ R.cells ∧ slots ≤ R.slots) (hl9 : ls.size = nL) (hw9 : (rest.map fun v => v.category).sum ≤ 8) (hdg : decode cc pc = .ok (.invokevirtual index, 3)) (hI : iwM am) (hA : ∀ x, awM am x → A0 x) (hS : va_S A0 H0 H locs) (kk : ∀ (H1 : Heap) (locs1 : List Loc), va_P (dC, dI) vwCl (wM cI cZ am sm fe ex gp gc dy n pe gr st dl wo q yc ya yd ys tp fu sh ro (nI 3)) H1 → va_S A0 H0 H1 locs1 → (∀ q : Nat, q < H.size → ¬ awM am q → H1[q]? = H[q]?) → W p l e R s m args below meth c H1 locs1 cells slots Q (F0 m (pc + 3) ls (rest))) : W p l e R s m args below meth c H locs cells slots Q (F0 m pc ls (.int x3 :: .int x2 :: .int (nI k) :: .ref (am 0) :: rest)) := va_callv (va_runV (As := [.int (nI k), .int x2, .int x3]) (rest := rest) ⟨hx, hb, hml, hown, hts⟩ (c_X4_setGrade_3 (dC := dC) (dI := dI) (cI := cI) (cZ := cZ) (am := am) (sm := sm) (fe := fe) (ex := ex) (gp := gp) (gc := gc) (dy := dy) (n := n) (pe := pe) (gr := gr) (st := st) (dl := dl) (wo := wo) (q := q) (yc := yc) (ya := ya) (yd := yd) (ys := ys) (tp := tp) (fu := fu) (sh := sh) (ro := ro) (th := th) (k := k) (x2 := x2) (x3 := x3) l hI h1 h2 h3 hq h0) (cwV 3 hts hg9 rfl rfl rfl (by decide +kernel) hR9) ⟨fun a U g mk q => ⟨q.1, q.2.1, va_K.moved (u := U) (U := U.calling g mk a) (Vm.Alike.refl U.vm) q.2.2⟩, rM_0 hK hP, fun U hU hW => ⟨rfl, by rw [hU]; exact hP, va_K.moved hW.alike hK⟩⟩ rfl rfl hl9 rfl (lv_room hw9) hdg hc9) hS (fun q _ h => hA q h) hA (fun u t H1 locs1 ht _ hu hB hz hk hS1 => kk H1 locs1 (by rw [ht] at hB; exact hB) hS1 hk)
end
set_option maxHeartbeats 4000000 in
set_option maxRecDepth 100000 in
theorem c_X4_ofPerson (l : Launch) {dC : Nat → ClassId} {dI : Nat → Nat → Nat} {cI cZ : ClassId} {am : Nat → Nat} {sm fe ex : Int32} {gp gc : Nat → Int32} {dy : Int32} {n : Nat} {pe gr st dl wo : Nat → Int32} {q : Nat} {yc ya yd ys tp fu sh ro : Nat → Int32} {th : Int32} {x : Int32} (hn : n ≤ 24) : Met l yX4_ofPerson wsX4_ofPerson { frames := 0, cells := 0, slots := 0, locals := 0 } (va_Pc [.ref (am 0), .int x] (fun U => va_P (dC, dI) vwCl (wM cI cZ am sm fe ex gp gc dy n pe gr st dl wo q yc ya yd ys tp fu sh ro th) U.heap ∧ va_K (dC, dI) vwCl [(cI, .int), (cZ, .boolean)] U)) (vp_Si (fun r => r = ofP pe x n)) 0 0 (fun _ => False) := by
  refine Met.ofW (cc := cX4_ofPerson) (maxL := 4) (ret := (some .int)) (by decide) rfl ?_
  intro p e s m args below meth c s₁ B hml hv
  obtain ⟨rfl, hP, hK⟩ := hv
  have hx := B.exec
  have hb := B.bytes
  have hr := B.returns
  have hts := atoms_spec (ws := wsX4_ofPerson) B.pre
  have hown : s.vm.findClass RX4 = some m.cls := findClass_of_methodNamed B.named
  have hlocks := B.notSynchronized
  have hl := lv_entry ([.ref (am 0), .int x]) (n := 4) (Nat.le_of_ble_eq_true rfl)
  rw [lg_entry_eq]
  generalize (lg_sl ([.ref (am 0), .int x]) ++ List.replicate (4 - (lg_sl ([.ref (am 0), .int x])).length) Slot.unset).toArray = ls at hl ⊢
  have hl : lv_has ls 4 [(0, .ref (am 0)), (1, .int x)] := hl
  have hiX4 : ∀ w ∈ wsX40, w ∈ wsX4_ofPerson := by decide +kernel
  have hf61 := hts (.fieldLink RX4 61 "SettlementFundModel" "claims" "I") (by decide +kernel)
  have hf16 := hts (.fieldLink RX4 16 "SettlementFundModel" "persons" "[I") (by decide +kernel)
  refine lv_iconst (v := (-1)) hx hb dX4_ofPerson_0 (by decide) ?_
  refine lv_istore_n (lv' := [(2, .int (-1)), (0, .ref (am 0)), (1, .int x)]) hx hb dX4_ofPerson_1 rfl hl (by decide) rfl (fun ls hl => ?_)
  refine lv_iconst (v := nI 0) hx hb dX4_ofPerson_2 (by decide) ?_
  refine lv_istore_n (lv' := [(3, .int (nI 0)), (2, .int (-1)), (0, .ref (am 0)), (1, .int x)]) hx hb dX4_ofPerson_3 rfl hl (by decide) rfl (fun ls hl => ?_)
  have e_1 : (-1) = ofP pe x 0 := by first | rfl | (simp [ofP]; done)
  rw [e_1] at hl
  refine zl_ro (fun a9 : Nat => [(0, .ref (am 0)), (1, .int x), (2, .int (ofP pe x a9)), (3, .int (nI a9))]) (fun a9 : Nat => a9 ≤ n) (fun a9 : Nat => n - a9) 0 (Nat.zero_le _) (lv_sub hl [2, 3, 1, 0] rfl) ?_
  intro a9 hi_4 ih_4 ls hl
  obtain ⟨i, rfl⟩ : ∃ z, z = a9 := ⟨_, rfl⟩
  have hi_4 : i ≤ n := hi_4
  have hl : lv_has ls 4 [(0, .ref (am 0)), (1, .int x), (2, .int (ofP pe x i)), (3, .int (nI i))] := hl
  refine lv_iload_n hx hb dX4_ofPerson_4 rfl (lv_at hl 3 rfl) ?_
  refine lv_aload_n hx hb dX4_ofPerson_5 rfl (lv_at hl 0 rfl) ?_
  refine gM_0_6 hx hb hts hiX4 hown hK hP hf61 dX4_ofPerson_6 ?_
  refine zb_ge (tgt := 34) hx hb (by omega) (by omega) dX4_ofPerson_9 (by decide) (fun c_9 => ?_) (fun c_9 => ?_)
  · refine lv_iload_n hx hb dX4_ofPerson_34 rfl (lv_at hl 2 rfl) ?_
    exact W.iret (v := ofP pe x i) hx hb hr (fun t ht hW => ⟨ofP pe x i, rfl, by rw [show n = i by omega], ht⟩) (fun _ h => nomatch h) dX4_ofPerson_35
  · refine lv_aload_n hx hb dX4_ofPerson_12 rfl (lv_at hl 0 rfl) ?_
    refine gM_0_7 hx hb hts hiX4 hown hK hP hf16 dX4_ofPerson_13 ?_
    refine lv_iload_n hx hb dX4_ofPerson_16 rfl (lv_at hl 3 rfl) ?_
    refine lM_3 hx hb hK hP (by omega) dX4_ofPerson_17 ?_
    refine lv_iload_n hx hb dX4_ofPerson_18 rfl (lv_at hl 1 rfl) ?_
    refine lv_icmp_ne (tgt := 26) hx hb dX4_ofPerson_19 (by decide) (fun c_19 => ?_) (fun c_19 => ?_)
    · refine lv_iload_n hx hb dX4_ofPerson_26 rfl (lv_at hl 2 rfl) ?_
      refine lv_istore_n (lv' := [(2, .int (ofP pe x i)), (0, .ref (am 0)), (1, .int x), (3, .int (nI i))]) hx hb dX4_ofPerson_27 rfl hl (by decide) rfl (fun ls hl => ?_)
      refine lv_iinc (v := nI (i + 1)) (lv' := [(3, .int (nI (i + 1))), (2, .int (ofP pe x i)), (0, .ref (am 0)), (1, .int x)]) hx hb dX4_ofPerson_28 hl (k := 3) rfl (zz_inc _) (by decide) rfl (fun ls hl => ?_)
      refine lv_goto (tgt := 4) hx hb dX4_ofPerson_31 (by decide) ?_
      have e_2 : ofP pe x i = ofP pe x (i + 1) := by first | rfl | (simp [ofP, c_9, c_19]; done)
      rw [e_2] at hl
      exact ih_4 (i + 1) (by omega) (by omega) ls (lv_sub hl [2, 3, 1, 0] rfl)
    · refine lv_iload_n hx hb dX4_ofPerson_22 rfl (lv_at hl 3 rfl) ?_
      refine lv_goto (tgt := 27) hx hb dX4_ofPerson_23 (by decide) ?_
      refine lv_istore_n (lv' := [(2, .int (nI i)), (0, .ref (am 0)), (1, .int x), (3, .int (nI i))]) hx hb dX4_ofPerson_27 rfl hl (by decide) rfl (fun ls hl => ?_)
      refine lv_iinc (v := nI (i + 1)) (lv' := [(3, .int (nI (i + 1))), (2, .int (nI i)), (0, .ref (am 0)), (1, .int x)]) hx hb dX4_ofPerson_28 hl (k := 3) rfl (zz_inc _) (by decide) rfl (fun ls hl => ?_)
      refine lv_goto (tgt := 4) hx hb dX4_ofPerson_31 (by decide) ?_
      have e_3 : nI i = ofP pe x (i + 1) := by first | rfl | (simp [ofP, c_9, c_19]; done)
      rw [e_3] at hl
      exact ih_4 (i + 1) (by omega) (by omega) ls (lv_sub hl [2, 3, 1, 0] rfl)
section
variable {p : Program} {e : Env} {R : Room} {s : State} {m : MethodId} {args : Array Value} {below : List Frame} {meth : Method} {c : Code} {H : Heap} {locs : List Loc} {cells slots : Nat} {Q : State → Prop} {cc : ByteArray} {pc : Nat} {ls : Array Slot} {rest : List Value} {own : String} {index nL : Nat} {Ts : List Cond} {H0 : Heap} {A0 : Nat → Prop}
theorem k_X4_ofPerson (l : Launch) {dC : Nat → ClassId} {dI : Nat → Nat → Nat} {cI cZ : ClassId} {am : Nat → Nat} {sm fe ex : Int32} {gp gc : Nat → Int32} {dy : Int32} {n : Nat} {pe gr st dl wo : Nat → Int32} {q : Nat} {yc ya yd ys tp fu sh ro : Nat → Int32} {th : Int32} {x : Int32} (hn : n ≤ 24) (hx : p.tables.exec = Jvm.exec) (hb : c.code = cc) (hml : c.maxLocals = nL) (hown : s.vm.findClass own = some m.cls) (hts : ∀ w ∈ Ts, w.before args s = true) (hK : va_K (dC, dI) vwCl [(cI, .int), (cZ, .boolean)] s) (hP : va_P (dC, dI) vwCl (wM cI cZ am sm fe ex gp gc dy n pe gr st dl wo q yc ya yd ys tp fu sh ro th) H) (hg9 : GoodIn Ts (wsV own index RX4 yX4_ofPerson wsX4_ofPerson)) (hR9 : 0 + 1 ≤ R.frames ∧ 8 + (4 + 11) + 0 ≤ R.locals) (hc9 : cells ≤ R.cells ∧ slots ≤ R.slots) (hl9 : ls.size = nL) (hw9 : (rest.map fun v => v.category).sum ≤ 8) (hdg : decode cc pc = .ok (.invokevirtual index, 3)) (kk : W p l e R s m args below meth c H locs cells slots Q (F0 m (pc + 3) ls (.int (ofP pe x n) :: rest))) : W p l e R s m args below meth c H locs cells slots Q (F0 m pc ls (.int x :: .ref (am 0) :: rest)) := zc_ro (W.runV (As := [.int x]) (rest := rest) ⟨hx, hb, hml, hown, hts⟩ (c_X4_ofPerson (dC := dC) (dI := dI) (cI := cI) (cZ := cZ) (am := am) (sm := sm) (fe := fe) (ex := ex) (gp := gp) (gc := gc) (dy := dy) (n := n) (pe := pe) (gr := gr) (st := st) (dl := dl) (wo := wo) (q := q) (yc := yc) (ya := ya) (yd := yd) (ys := ys) (tp := tp) (fu := fu) (sh := sh) (ro := ro) (th := th) (x := x) l hn) (cwV 1 hts hg9 rfl rfl rfl (by decide +kernel) hR9) ⟨fun a U g mk q => ⟨q.1, q.2.1, va_K.moved (u := U) (U := U.calling g mk a) (Vm.Alike.refl U.vm) q.2.2⟩, rM_0 hK hP, fun U hU hW => ⟨rfl, by rw [hU]; exact hP, va_K.moved hW.alike hK⟩⟩ rfl rfl hl9 rfl (lv_room hw9) hdg hc9) (fun r h => by subst h; exact kk)
end
set_option maxHeartbeats 4000000 in
set_option maxRecDepth 100000 in
theorem c_X4_claim_join (l : Launch) {dC : Nat → ClassId} {dI : Nat → Nat → Nat} {cI cZ : ClassId} {am : Nat → Nat} {sm fe ex : Int32} {gp gc : Nat → Int32} {dy : Int32} {n : Nat} {pe gr st dl wo : Nat → Int32} {q : Nat} {yc ya yd ys tp fu sh ro : Nat → Int32} {th : Int32} {k : Nat} {g : Int32} {b : Int32} {d : Int32} {j : Nat} (hI : iwM am) (hn : n ≤ 24) (h1 : outN (nI k) (nI 0) (nI 29) = 0) (h2 : outN g (nI 0) (nI 4) = 0) (h3 : outN d (nI 0) (nI 100) = 0) (hk : k < 30) (hj : j < n) (hop : ofP pe (nI k) n = nI j) : Met l yX4_claim wsX4_claim { frames := 1, cells := 0, slots := 0, locals := 23 } (va_Pc [.ref (am 0), .int (nI k), .int g, .int b, .int d] (fun U => va_P (dC, dI) vwCl (wM cI cZ am sm fe ex gp gc dy n pe gr st dl wo q yc ya yd ys tp fu sh ro th) U.heap ∧ va_K (dC, dI) vwCl [(cI, .int), (cZ, .boolean)] U)) (va_Qi (fun r (_ : Unit) => r = nI j) (fun _ t => va_P (dC, dI) vwCl (wM cI cZ am sm fe ex gp gc dy n pe (upd gr j (maxI (gr j) g)) (joinS st j b) dl wo q yc ya yd ys tp fu sh ro (nI 0)) t.heap) (awM am)) 0 0 (awM am) := by
  refine Met.ofW (cc := cX4_claim) (maxL := 7) (ret := (some .int)) (by decide) rfl ?_
  intro p e s m args below meth c s₁ B hml hv
  obtain ⟨rfl, hP, hK⟩ := hv
  have hx := B.exec
  have hb := B.bytes
  have hr := B.returns
  have hts := atoms_spec (ws := wsX4_claim) B.pre
  have hown : s.vm.findClass RX4 = some m.cls := findClass_of_methodNamed B.named
  have hlocks := B.notSynchronized
  have hS : va_S (awM am) s.heap s.heap [] := va_S.rf
  have hl := lv_entry ([.ref (am 0), .int (nI k), .int g, .int b, .int d]) (n := 7) (Nat.le_of_ble_eq_true rfl)
  rw [lg_entry_eq]
  generalize (lg_sl ([.ref (am 0), .int (nI k), .int g, .int b, .int d]) ++ List.replicate (7 - (lg_sl ([.ref (am 0), .int (nI k), .int g, .int b, .int d])).length) Slot.unset).toArray = ls at hl ⊢
  have hl : lv_has ls 7 [(0, .ref (am 0)), (1, .int (nI k)), (2, .int g), (3, .int b), (4, .int d)] := hl
  have hiX4 : ∀ w ∈ wsX40, w ∈ wsX4_claim := by decide +kernel
  have hf19 := hts (.fieldLink RX4 19 "SettlementFundModel" "grades" "[I") (by decide +kernel)
  have hf22 := hts (.fieldLink RX4 22 "SettlementFundModel" "states" "[I") (by decide +kernel)
  refine lv_iload_n hx hb dX4_claim_0 rfl (lv_at hl 1 rfl) ?_
  refine lv_iconst (v := nI 0) hx hb dX4_claim_1 (by decide) ?_
  refine lv_bipush (v := nI 29) hx hb dX4_claim_2 (by decide) ?_
  refine k_X4_isIn l (x := nI k) (a := nI 0) (b := nI 29) hx hb hml hown hts  gX4_claim_X4_isIn ⟨Nat.le_of_ble_eq_true rfl, Nat.le_of_ble_eq_true rfl⟩ ⟨Nat.le_of_ble_eq_true rfl, Nat.le_of_ble_eq_true rfl⟩ hl.1 (Nat.le_of_ble_eq_true rfl) dX4_claim_4 ?_
  refine zi_eq (tgt := 23) hx hb (by omega) dX4_claim_7 (by decide) (fun c_7 => (show False by omega).elim) (fun c_7 => ?_)
  refine lv_iload_n hx hb dX4_claim_10 rfl (lv_at hl 2 rfl) ?_
  refine lv_iconst (v := nI 0) hx hb dX4_claim_11 (by decide) ?_
  refine lv_iconst (v := nI 4) hx hb dX4_claim_12 (by decide) ?_
  refine k_X4_isIn l (x := g) (a := nI 0) (b := nI 4) hx hb hml hown hts  gX4_claim_X4_isIn ⟨Nat.le_of_ble_eq_true rfl, Nat.le_of_ble_eq_true rfl⟩ ⟨Nat.le_of_ble_eq_true rfl, Nat.le_of_ble_eq_true rfl⟩ hl.1 (Nat.le_of_ble_eq_true rfl) dX4_claim_13 ?_
  refine zi_eq (tgt := 23) hx hb (by omega) dX4_claim_16 (by decide) (fun c_16 => (show False by omega).elim) (fun c_16 => ?_)
  refine lv_iconst (v := nI 1) hx hb dX4_claim_19 (by decide) ?_
  refine lv_goto (tgt := 24) hx hb dX4_claim_20 (by decide) ?_
  refine lv_istore (lv' := [(5, .int (nI 1)), (0, .ref (am 0)), (1, .int (nI k)), (2, .int g), (3, .int b), (4, .int d)]) hx hb dX4_claim_24 hl (by decide) rfl (fun ls hl => ?_)
  refine lv_aload_n hx hb dX4_claim_26 rfl (lv_at hl 1 rfl) ?_
  refine lv_iload_n hx hb dX4_claim_27 rfl (lv_at hl 2 rfl) ?_
  refine k_X4_ofPerson l (x := nI k) (hn := hn) hx hb hml hown hts hK hP gX4_claim_X4_ofPerson ⟨Nat.le_of_ble_eq_true rfl, Nat.le_of_ble_eq_true rfl⟩ ⟨Nat.le_of_ble_eq_true rfl, Nat.le_of_ble_eq_true rfl⟩ hl.1 (Nat.le_of_ble_eq_true rfl) dX4_claim_28 ?_
  refine zt_i (y := nI j) (hop) ?_
  refine lv_istore (lv' := [(6, .int (nI j)), (5, .int (nI 1)), (0, .ref (am 0)), (1, .int (nI k)), (2, .int g), (3, .int b), (4, .int d)]) hx hb dX4_claim_31 hl (by decide) rfl (fun ls hl => ?_)
  refine lv_aload_n hx hb dX4_claim_33 rfl (lv_at hl 2 rfl) ?_
  refine lv_iload hx hb dX4_claim_34 (lv_at hl 1 rfl) ?_
  refine zi_ne (tgt := 43) hx hb (by decide) dX4_claim_36 (by decide) (fun c_36 => ?_) (fun c_36 => (show False by omega).elim)
  refine lv_iload hx hb dX4_claim_43 (lv_at hl 6 rfl) ?_
  refine lv_iconst (v := nI 0) hx hb dX4_claim_45 (by decide) ?_
  refine lv_bipush (v := nI 100) hx hb dX4_claim_46 (by decide) ?_
  refine k_X4_isIn l (x := d) (a := nI 0) (b := nI 100) hx hb hml hown hts  gX4_claim_X4_isIn ⟨Nat.le_of_ble_eq_true rfl, Nat.le_of_ble_eq_true rfl⟩ ⟨Nat.le_of_ble_eq_true rfl, Nat.le_of_ble_eq_true rfl⟩ hl.1 (Nat.le_of_ble_eq_true rfl) dX4_claim_48 ?_
  refine zi_ne (tgt := 58) hx hb (by omega) dX4_claim_51 (by decide) (fun c_51 => ?_) (fun c_51 => (show False by omega).elim)
  refine lv_iload hx hb dX4_claim_58 (lv_at hl 0 rfl) ?_
  refine lv_iconst (v := (-1)) hx hb dX4_claim_60 (by decide) ?_
  refine lv_icmp_ne (tgt := 77) hx hb dX4_claim_61 (by decide) (fun c_61 => ?_) (fun c_61 => (show False by exact zz_nm1 (by omega) c_61).elim)
  refine lv_iconst (v := nI 0) hx hb dX4_claim_77 (by decide) ?_
  refine k_X4_goes_0 l  hx hb hml hown hts hK hP gX4_claim_X4_goes ⟨Nat.le_of_ble_eq_true rfl, Nat.le_of_ble_eq_true rfl⟩ ⟨Nat.le_of_ble_eq_true rfl, Nat.le_of_ble_eq_true rfl⟩ hl.1 (Nat.le_of_ble_eq_true rfl) dX4_claim_78 hI (fun _ h => h) hS (fun H locs hP hS _ => ?_)
  refine zi_ne (tgt := 86) hx hb (by decide) dX4_claim_81 (by decide) (fun c_81 => ?_) (fun c_81 => (show False by omega).elim)
  refine lv_iload hx hb dX4_claim_86 (lv_at hl 0 rfl) ?_
  refine lv_iconst (v := (-1)) hx hb dX4_claim_88 (by decide) ?_
  refine lv_icmp_ne (tgt := 165) hx hb dX4_claim_89 (by decide) (fun c_89 => ?_) (fun c_89 => (show False by exact zz_nm1 (by omega) c_89).elim)
  refine lv_aload_n hx hb dX4_claim_165 rfl (lv_at hl 2 rfl) ?_
  refine gM_0_8 hx hb hts hiX4 hown hK hP hf19 dX4_claim_166 ?_
  refine lv_iload hx hb dX4_claim_169 (lv_at hl 0 rfl) ?_
  refine lv_iload_n hx hb dX4_claim_171 rfl (lv_at hl 4 rfl) ?_
  refine lv_aload_n hx hb dX4_claim_172 rfl (lv_at hl 2 rfl) ?_
  refine gM_0_8 hx hb hts hiX4 hown hK hP hf19 dX4_claim_173 ?_
  refine lv_iload hx hb dX4_claim_176 (lv_at hl 0 rfl) ?_
  refine lM_4 hx hb hK hP (by omega) dX4_claim_178 ?_
  refine lv_icmp_le (tgt := 186) hx hb dX4_claim_179 (by decide) (fun c_179 => ?_) (fun c_179 => ?_)
  · refine lv_aload_n hx hb dX4_claim_186 rfl (lv_at hl 2 rfl) ?_
    refine gM_0_8 hx hb hts hiX4 hown hK hP hf19 dX4_claim_187 ?_
    refine lv_iload hx hb dX4_claim_190 (lv_at hl 0 rfl) ?_
    refine lM_4 hx hb hK hP (by omega) dX4_claim_192 ?_
    refine sM_4 hx hb hK hP hI (fun _ h => h) hS (by omega) dX4_claim_193 (fun H locs hP hS => ?_)
    have e_1 : upd gr j (gr j) = upd gr j (maxI (gr j) g) := by rw [zz_max c_179]
    rw [e_1] at hP
    refine lv_aload_n hx hb dX4_claim_194 rfl (lv_at hl 2 rfl) ?_
    refine gM_0_9 hx hb hts hiX4 hown hK hP hf22 dX4_claim_195 ?_
    refine lv_iload hx hb dX4_claim_198 (lv_at hl 0 rfl) ?_
    refine lv_iload_n hx hb dX4_claim_200 rfl (lv_at hl 5 rfl) ?_
    refine lv_if_ne (tgt := 230) hx hb dX4_claim_201 (by decide) (fun c_201 => ?_) (fun c_201 => ?_)
    · refine lv_aload_n hx hb dX4_claim_230 rfl (lv_at hl 2 rfl) ?_
      refine gM_0_9 hx hb hts hiX4 hown hK hP hf22 dX4_claim_231 ?_
      refine lv_iload hx hb dX4_claim_234 (lv_at hl 0 rfl) ?_
      refine lM_5 hx hb hK hP (by omega) dX4_claim_236 ?_
      refine sM_5 hx hb hK hP hI (fun _ h => h) hS (by omega) dX4_claim_237 (fun H locs hP hS => ?_)
      refine lv_iload hx hb dX4_claim_238 (lv_at hl 0 rfl) ?_
      have e_2 : upd st j (st j) = joinS st j b := by rw [upd_self rfl]; simp [joinS, c_201]
      rw [e_2] at hP
      exact W.iret (v := nI j) hx hb hr (fun t ht hW => ⟨⟨nI j, (), rfl, rfl, by (try dsimp only); rw [ht]; exact hP⟩, hS.F ht⟩) hS.2.2 dX4_claim_240
    · refine lv_aload_n hx hb dX4_claim_204 rfl (lv_at hl 2 rfl) ?_
      refine gM_0_9 hx hb hts hiX4 hown hK hP hf22 dX4_claim_205 ?_
      refine lv_iload hx hb dX4_claim_208 (lv_at hl 0 rfl) ?_
      refine lM_5 hx hb hK hP (by omega) dX4_claim_210 ?_
      refine lv_iconst (v := nI 1) hx hb dX4_claim_211 (by decide) ?_
      refine lv_icmp_eq (tgt := 226) hx hb dX4_claim_212 (by decide) (fun c_212 => ?_) (fun c_212 => ?_)
      · refine lv_iconst (v := nI 0) hx hb dX4_claim_226 (by decide) ?_
        refine lv_goto (tgt := 237) hx hb dX4_claim_227 (by decide) ?_
        refine sM_5 hx hb hK hP hI (fun _ h => h) hS (by omega) dX4_claim_237 (fun H locs hP hS => ?_)
        refine lv_iload hx hb dX4_claim_238 (lv_at hl 0 rfl) ?_
        have e_3 : upd st j (nI 0) = joinS st j b := by simp [joinS, c_201, c_212]
        rw [e_3] at hP
        exact W.iret (v := nI j) hx hb hr (fun t ht hW => ⟨⟨nI j, (), rfl, rfl, by (try dsimp only); rw [ht]; exact hP⟩, hS.F ht⟩) hS.2.2 dX4_claim_240
      · refine lv_aload_n hx hb dX4_claim_215 rfl (lv_at hl 2 rfl) ?_
        refine gM_0_9 hx hb hts hiX4 hown hK hP hf22 dX4_claim_216 ?_
        refine lv_iload hx hb dX4_claim_219 (lv_at hl 0 rfl) ?_
        refine lM_5 hx hb hK hP (by omega) dX4_claim_221 ?_
        refine lv_iconst (v := nI 2) hx hb dX4_claim_222 (by decide) ?_
        refine lv_icmp_ne (tgt := 230) hx hb dX4_claim_223 (by decide) (fun c_223 => ?_) (fun c_223 => ?_)
        · refine lv_aload_n hx hb dX4_claim_230 rfl (lv_at hl 2 rfl) ?_
          refine gM_0_9 hx hb hts hiX4 hown hK hP hf22 dX4_claim_231 ?_
          refine lv_iload hx hb dX4_claim_234 (lv_at hl 0 rfl) ?_
          refine lM_5 hx hb hK hP (by omega) dX4_claim_236 ?_
          refine sM_5 hx hb hK hP hI (fun _ h => h) hS (by omega) dX4_claim_237 (fun H locs hP hS => ?_)
          refine lv_iload hx hb dX4_claim_238 (lv_at hl 0 rfl) ?_
          have e_4 : upd st j (st j) = joinS st j b := by rw [upd_self rfl]; simp [joinS, c_201, c_212, c_223]
          rw [e_4] at hP
          exact W.iret (v := nI j) hx hb hr (fun t ht hW => ⟨⟨nI j, (), rfl, rfl, by (try dsimp only); rw [ht]; exact hP⟩, hS.F ht⟩) hS.2.2 dX4_claim_240
        · refine lv_iconst (v := nI 0) hx hb dX4_claim_226 (by decide) ?_
          refine lv_goto (tgt := 237) hx hb dX4_claim_227 (by decide) ?_
          refine sM_5 hx hb hK hP hI (fun _ h => h) hS (by omega) dX4_claim_237 (fun H locs hP hS => ?_)
          refine lv_iload hx hb dX4_claim_238 (lv_at hl 0 rfl) ?_
          have e_5 : upd st j (nI 0) = joinS st j b := by simp [joinS, c_201, c_212, c_223]
          rw [e_5] at hP
          exact W.iret (v := nI j) hx hb hr (fun t ht hW => ⟨⟨nI j, (), rfl, rfl, by (try dsimp only); rw [ht]; exact hP⟩, hS.F ht⟩) hS.2.2 dX4_claim_240
  · refine lv_iload_n hx hb dX4_claim_182 rfl (lv_at hl 4 rfl) ?_
    refine lv_goto (tgt := 193) hx hb dX4_claim_183 (by decide) ?_
    refine sM_4 hx hb hK hP hI (fun _ h => h) hS (by omega) dX4_claim_193 (fun H locs hP hS => ?_)
    have e_6 : upd gr j g = upd gr j (maxI (gr j) g) := by rw [zz_max' c_179]
    rw [e_6] at hP
    refine lv_aload_n hx hb dX4_claim_194 rfl (lv_at hl 2 rfl) ?_
    refine gM_0_9 hx hb hts hiX4 hown hK hP hf22 dX4_claim_195 ?_
    refine lv_iload hx hb dX4_claim_198 (lv_at hl 0 rfl) ?_
    refine lv_iload_n hx hb dX4_claim_200 rfl (lv_at hl 5 rfl) ?_
    refine lv_if_ne (tgt := 230) hx hb dX4_claim_201 (by decide) (fun c_201 => ?_) (fun c_201 => ?_)
    · refine lv_aload_n hx hb dX4_claim_230 rfl (lv_at hl 2 rfl) ?_
      refine gM_0_9 hx hb hts hiX4 hown hK hP hf22 dX4_claim_231 ?_
      refine lv_iload hx hb dX4_claim_234 (lv_at hl 0 rfl) ?_
      refine lM_5 hx hb hK hP (by omega) dX4_claim_236 ?_
      refine sM_5 hx hb hK hP hI (fun _ h => h) hS (by omega) dX4_claim_237 (fun H locs hP hS => ?_)
      refine lv_iload hx hb dX4_claim_238 (lv_at hl 0 rfl) ?_
      have e_7 : upd st j (st j) = joinS st j b := by rw [upd_self rfl]; simp [joinS, c_201]
      rw [e_7] at hP
      exact W.iret (v := nI j) hx hb hr (fun t ht hW => ⟨⟨nI j, (), rfl, rfl, by (try dsimp only); rw [ht]; exact hP⟩, hS.F ht⟩) hS.2.2 dX4_claim_240
    · refine lv_aload_n hx hb dX4_claim_204 rfl (lv_at hl 2 rfl) ?_
      refine gM_0_9 hx hb hts hiX4 hown hK hP hf22 dX4_claim_205 ?_
      refine lv_iload hx hb dX4_claim_208 (lv_at hl 0 rfl) ?_
      refine lM_5 hx hb hK hP (by omega) dX4_claim_210 ?_
      refine lv_iconst (v := nI 1) hx hb dX4_claim_211 (by decide) ?_
      refine lv_icmp_eq (tgt := 226) hx hb dX4_claim_212 (by decide) (fun c_212 => ?_) (fun c_212 => ?_)
      · refine lv_iconst (v := nI 0) hx hb dX4_claim_226 (by decide) ?_
        refine lv_goto (tgt := 237) hx hb dX4_claim_227 (by decide) ?_
        refine sM_5 hx hb hK hP hI (fun _ h => h) hS (by omega) dX4_claim_237 (fun H locs hP hS => ?_)
        refine lv_iload hx hb dX4_claim_238 (lv_at hl 0 rfl) ?_
        have e_8 : upd st j (nI 0) = joinS st j b := by simp [joinS, c_201, c_212]
        rw [e_8] at hP
        exact W.iret (v := nI j) hx hb hr (fun t ht hW => ⟨⟨nI j, (), rfl, rfl, by (try dsimp only); rw [ht]; exact hP⟩, hS.F ht⟩) hS.2.2 dX4_claim_240
      · refine lv_aload_n hx hb dX4_claim_215 rfl (lv_at hl 2 rfl) ?_
        refine gM_0_9 hx hb hts hiX4 hown hK hP hf22 dX4_claim_216 ?_
        refine lv_iload hx hb dX4_claim_219 (lv_at hl 0 rfl) ?_
        refine lM_5 hx hb hK hP (by omega) dX4_claim_221 ?_
        refine lv_iconst (v := nI 2) hx hb dX4_claim_222 (by decide) ?_
        refine lv_icmp_ne (tgt := 230) hx hb dX4_claim_223 (by decide) (fun c_223 => ?_) (fun c_223 => ?_)
        · refine lv_aload_n hx hb dX4_claim_230 rfl (lv_at hl 2 rfl) ?_
          refine gM_0_9 hx hb hts hiX4 hown hK hP hf22 dX4_claim_231 ?_
          refine lv_iload hx hb dX4_claim_234 (lv_at hl 0 rfl) ?_
          refine lM_5 hx hb hK hP (by omega) dX4_claim_236 ?_
          refine sM_5 hx hb hK hP hI (fun _ h => h) hS (by omega) dX4_claim_237 (fun H locs hP hS => ?_)
          refine lv_iload hx hb dX4_claim_238 (lv_at hl 0 rfl) ?_
          have e_9 : upd st j (st j) = joinS st j b := by rw [upd_self rfl]; simp [joinS, c_201, c_212, c_223]
          rw [e_9] at hP
          exact W.iret (v := nI j) hx hb hr (fun t ht hW => ⟨⟨nI j, (), rfl, rfl, by (try dsimp only); rw [ht]; exact hP⟩, hS.F ht⟩) hS.2.2 dX4_claim_240
        · refine lv_iconst (v := nI 0) hx hb dX4_claim_226 (by decide) ?_
          refine lv_goto (tgt := 237) hx hb dX4_claim_227 (by decide) ?_
          refine sM_5 hx hb hK hP hI (fun _ h => h) hS (by omega) dX4_claim_237 (fun H locs hP hS => ?_)
          refine lv_iload hx hb dX4_claim_238 (lv_at hl 0 rfl) ?_
          have e_10 : upd st j (nI 0) = joinS st j b := by simp [joinS, c_201, c_212, c_223]
          rw [e_10] at hP
          exact W.iret (v := nI j) hx hb hr (fun t ht hW => ⟨⟨nI j, (), rfl, rfl, by (try dsimp only); rw [ht]; exact hP⟩, hS.F ht⟩) hS.2.2 dX4_claim_240
section
variable {p : Program} {e : Env} {R : Room} {s : State} {m : MethodId} {args : Array Value} {below : List Frame} {meth : Method} {c : Code} {H : Heap} {locs : List Loc} {cells slots : Nat} {Q : State → Prop} {cc : ByteArray} {pc : Nat} {ls : Array Slot} {rest : List Value} {own : String} {index nL : Nat} {Ts : List Cond} {H0 : Heap} {A0 : Nat → Prop}
theorem k_X4_claim_join (l : Launch) {dC : Nat → ClassId} {dI : Nat → Nat → Nat} {cI cZ : ClassId} {am : Nat → Nat} {sm fe ex : Int32} {gp gc : Nat → Int32} {dy : Int32} {n : Nat} {pe gr st dl wo : Nat → Int32} {q : Nat} {yc ya yd ys tp fu sh ro : Nat → Int32} {th : Int32} {k : Nat} {g : Int32} {b : Int32} {d : Int32} {j : Nat} (hn : n ≤ 24) (h1 : outN (nI k) (nI 0) (nI 29) = 0) (h2 : outN g (nI 0) (nI 4) = 0) (h3 : outN d (nI 0) (nI 100) = 0) (hk : k < 30) (hj : j < n) (hop : ofP pe (nI k) n = nI j) (hx : p.tables.exec = Jvm.exec) (hb : c.code = cc) (hml : c.maxLocals = nL) (hown : s.vm.findClass own = some m.cls) (hts : ∀ w ∈ Ts, w.before args s = true) (hK : va_K (dC, dI) vwCl [(cI, .int), (cZ, .boolean)] s) (hP : va_P (dC, dI) vwCl (wM cI cZ am sm fe ex gp gc dy n pe gr st dl wo q yc ya yd ys tp fu sh ro th) H) (hg9 : GoodIn Ts (wsV own index RX4 yX4_claim wsX4_claim)) (hR9 : 1 + 1 ≤ R.frames ∧ 8 + (7 + 11) + 23 ≤ R.locals) (hc9 : cells ≤ R.cells ∧ slots ≤ R.slots) (hl9 : ls.size = nL) (hw9 : (rest.map fun v => v.category).sum ≤ 8) (hdg : decode cc pc = .ok (.invokevirtual index, 3)) (hI : iwM am) (hA : ∀ x, awM am x → A0 x) (hS : va_S A0 H0 H locs) (kk : ∀ (H1 : Heap) (locs1 : List Loc), va_P (dC, dI) vwCl (wM cI cZ am sm fe ex gp gc dy n pe (upd gr j (maxI (gr j) g)) (joinS st j b) dl wo q yc ya yd ys tp fu sh ro (nI 0)) H1 → va_S A0 H0 H1 locs1 → (∀ q : Nat, q < H.size → ¬ awM am q → H1[q]? = H[q]?) → W p l e R s m args below meth c H1 locs1 cells slots Q (F0 m (pc + 3) ls (.int (nI j) :: rest))) : W p l e R s m args below meth c H locs cells slots Q (F0 m pc ls (.int d :: .int b :: .int g :: .int (nI k) :: .ref (am 0) :: rest)) := va_calli (va_runV (As := [.int (nI k), .int g, .int b, .int d]) (rest := rest) ⟨hx, hb, hml, hown, hts⟩ (c_X4_claim_join (dC := dC) (dI := dI) (cI := cI) (cZ := cZ) (am := am) (sm := sm) (fe := fe) (ex := ex) (gp := gp) (gc := gc) (dy := dy) (n := n) (pe := pe) (gr := gr) (st := st) (dl := dl) (wo := wo) (q := q) (yc := yc) (ya := ya) (yd := yd) (ys := ys) (tp := tp) (fu := fu) (sh := sh) (ro := ro) (th := th) (k := k) (g := g) (b := b) (d := d) (j := j) l hI hn h1 h2 h3 hk hj hop) (cwV 4 hts hg9 rfl rfl rfl (by decide +kernel) hR9) ⟨fun a U g mk q => ⟨q.1, q.2.1, va_K.moved (u := U) (U := U.calling g mk a) (Vm.Alike.refl U.vm) q.2.2⟩, rM_0 hK hP, fun U hU hW => ⟨rfl, by rw [hU]; exact hP, va_K.moved hW.alike hK⟩⟩ rfl rfl hl9 rfl (lv_room hw9) hdg hc9) hS (fun q _ h => hA q h) hA (fun r u t H1 locs1 ht _ hu hB hz hk hS1 => by subst hu; exact kk H1 locs1 (by rw [ht] at hB; exact hB) hS1 hk)
end
set_option maxHeartbeats 4000000 in
set_option maxRecDepth 100000 in
theorem c_X4_claim_enter (l : Launch) {dC : Nat → ClassId} {dI : Nat → Nat → Nat} {cI cZ : ClassId} {am : Nat → Nat} {sm fe ex : Int32} {gp gc : Nat → Int32} {dy : Int32} {n : Nat} {pe gr st dl wo : Nat → Int32} {q : Nat} {yc ya yd ys tp fu sh ro : Nat → Int32} {th : Int32} {k : Nat} {g : Int32} {b : Int32} {d : Int32} (hI : iwM am) (hn : n < 24) (h1 : outN (nI k) (nI 0) (nI 29) = 0) (h2 : outN g (nI 0) (nI 4) = 0) (h3 : outN d (nI 0) (nI 100) = 0) (hk : k < 30) (hop : ofP pe (nI k) n = (-1)) (hwo : wo n = nI 0) : Met l yX4_claim wsX4_claim { frames := 1, cells := 0, slots := 0, locals := 23 } (va_Pc [.ref (am 0), .int (nI k), .int g, .int b, .int d] (fun U => va_P (dC, dI) vwCl (wM cI cZ am sm fe ex gp gc dy n pe gr st dl wo q yc ya yd ys tp fu sh ro th) U.heap ∧ va_K (dC, dI) vwCl [(cI, .int), (cZ, .boolean)] U)) (va_Qi (fun r (_ : Unit) => r = nI n) (fun _ t => va_P (dC, dI) vwCl (wM cI cZ am sm fe ex gp gc dy (n + 1) (upd pe n (nI k)) (upd gr n g) (upd st n (faultS b)) (upd dl n (dy + d)) wo q yc ya yd ys tp fu sh ro (nI 0)) t.heap) (awM am)) 0 0 (awM am) := by
  refine Met.ofW (cc := cX4_claim) (maxL := 7) (ret := (some .int)) (by decide) rfl ?_
  intro p e s m args below meth c s₁ B hml hv
  obtain ⟨rfl, hP, hK⟩ := hv
  have hx := B.exec
  have hb := B.bytes
  have hr := B.returns
  have hts := atoms_spec (ws := wsX4_claim) B.pre
  have hown : s.vm.findClass RX4 = some m.cls := findClass_of_methodNamed B.named
  have hlocks := B.notSynchronized
  have hS : va_S (awM am) s.heap s.heap [] := va_S.rf
  have hl := lv_entry ([.ref (am 0), .int (nI k), .int g, .int b, .int d]) (n := 7) (Nat.le_of_ble_eq_true rfl)
  rw [lg_entry_eq]
  generalize (lg_sl ([.ref (am 0), .int (nI k), .int g, .int b, .int d]) ++ List.replicate (7 - (lg_sl ([.ref (am 0), .int (nI k), .int g, .int b, .int d])).length) Slot.unset).toArray = ls at hl ⊢
  have hl : lv_has ls 7 [(0, .ref (am 0)), (1, .int (nI k)), (2, .int g), (3, .int b), (4, .int d)] := hl
  have hiX4 : ∀ w ∈ wsX40, w ∈ wsX4_claim := by decide +kernel
  have hf61 := hts (.fieldLink RX4 61 "SettlementFundModel" "claims" "I") (by decide +kernel)
  have hf16 := hts (.fieldLink RX4 16 "SettlementFundModel" "persons" "[I") (by decide +kernel)
  have hf19 := hts (.fieldLink RX4 19 "SettlementFundModel" "grades" "[I") (by decide +kernel)
  have hf22 := hts (.fieldLink RX4 22 "SettlementFundModel" "states" "[I") (by decide +kernel)
  have hf25 := hts (.fieldLink RX4 25 "SettlementFundModel" "deadlines" "[I") (by decide +kernel)
  have hf94 := hts (.fieldLink RX4 94 "SettlementFundModel" "today" "I") (by decide +kernel)
  have hf28 := hts (.fieldLink RX4 28 "SettlementFundModel" "wasObjected" "[Z") (by decide +kernel)
  refine lv_iload_n hx hb dX4_claim_0 rfl (lv_at hl 1 rfl) ?_
  refine lv_iconst (v := nI 0) hx hb dX4_claim_1 (by decide) ?_
  refine lv_bipush (v := nI 29) hx hb dX4_claim_2 (by decide) ?_
  refine k_X4_isIn l (x := nI k) (a := nI 0) (b := nI 29) hx hb hml hown hts  gX4_claim_X4_isIn ⟨Nat.le_of_ble_eq_true rfl, Nat.le_of_ble_eq_true rfl⟩ ⟨Nat.le_of_ble_eq_true rfl, Nat.le_of_ble_eq_true rfl⟩ hl.1 (Nat.le_of_ble_eq_true rfl) dX4_claim_4 ?_
  refine zi_eq (tgt := 23) hx hb (by omega) dX4_claim_7 (by decide) (fun c_7 => (show False by omega).elim) (fun c_7 => ?_)
  refine lv_iload_n hx hb dX4_claim_10 rfl (lv_at hl 2 rfl) ?_
  refine lv_iconst (v := nI 0) hx hb dX4_claim_11 (by decide) ?_
  refine lv_iconst (v := nI 4) hx hb dX4_claim_12 (by decide) ?_
  refine k_X4_isIn l (x := g) (a := nI 0) (b := nI 4) hx hb hml hown hts  gX4_claim_X4_isIn ⟨Nat.le_of_ble_eq_true rfl, Nat.le_of_ble_eq_true rfl⟩ ⟨Nat.le_of_ble_eq_true rfl, Nat.le_of_ble_eq_true rfl⟩ hl.1 (Nat.le_of_ble_eq_true rfl) dX4_claim_13 ?_
  refine zi_eq (tgt := 23) hx hb (by omega) dX4_claim_16 (by decide) (fun c_16 => (show False by omega).elim) (fun c_16 => ?_)
  refine lv_iconst (v := nI 1) hx hb dX4_claim_19 (by decide) ?_
  refine lv_goto (tgt := 24) hx hb dX4_claim_20 (by decide) ?_
  refine lv_istore (lv' := [(5, .int (nI 1)), (0, .ref (am 0)), (1, .int (nI k)), (2, .int g), (3, .int b), (4, .int d)]) hx hb dX4_claim_24 hl (by decide) rfl (fun ls hl => ?_)
  refine lv_aload_n hx hb dX4_claim_26 rfl (lv_at hl 1 rfl) ?_
  refine lv_iload_n hx hb dX4_claim_27 rfl (lv_at hl 2 rfl) ?_
  refine k_X4_ofPerson l (x := nI k) (hn := (by omega)) hx hb hml hown hts hK hP gX4_claim_X4_ofPerson ⟨Nat.le_of_ble_eq_true rfl, Nat.le_of_ble_eq_true rfl⟩ ⟨Nat.le_of_ble_eq_true rfl, Nat.le_of_ble_eq_true rfl⟩ hl.1 (Nat.le_of_ble_eq_true rfl) dX4_claim_28 ?_
  refine zt_i (y := (-1)) (hop) ?_
  refine lv_istore (lv' := [(6, .int (-1)), (5, .int (nI 1)), (0, .ref (am 0)), (1, .int (nI k)), (2, .int g), (3, .int b), (4, .int d)]) hx hb dX4_claim_31 hl (by decide) rfl (fun ls hl => ?_)
  refine lv_aload_n hx hb dX4_claim_33 rfl (lv_at hl 2 rfl) ?_
  refine lv_iload hx hb dX4_claim_34 (lv_at hl 1 rfl) ?_
  refine zi_ne (tgt := 43) hx hb (by decide) dX4_claim_36 (by decide) (fun c_36 => ?_) (fun c_36 => (show False by omega).elim)
  refine lv_iload hx hb dX4_claim_43 (lv_at hl 6 rfl) ?_
  refine lv_iconst (v := nI 0) hx hb dX4_claim_45 (by decide) ?_
  refine lv_bipush (v := nI 100) hx hb dX4_claim_46 (by decide) ?_
  refine k_X4_isIn l (x := d) (a := nI 0) (b := nI 100) hx hb hml hown hts  gX4_claim_X4_isIn ⟨Nat.le_of_ble_eq_true rfl, Nat.le_of_ble_eq_true rfl⟩ ⟨Nat.le_of_ble_eq_true rfl, Nat.le_of_ble_eq_true rfl⟩ hl.1 (Nat.le_of_ble_eq_true rfl) dX4_claim_48 ?_
  refine zi_ne (tgt := 58) hx hb (by omega) dX4_claim_51 (by decide) (fun c_51 => ?_) (fun c_51 => (show False by omega).elim)
  refine lv_iload hx hb dX4_claim_58 (lv_at hl 0 rfl) ?_
  refine lv_iconst (v := (-1)) hx hb dX4_claim_60 (by decide) ?_
  refine lv_icmp_ne (tgt := 77) hx hb dX4_claim_61 (by decide) (fun c_61 => (show False by exact c_61 rfl).elim) (fun c_61 => ?_)
  refine lv_aload_n hx hb dX4_claim_64 rfl (lv_at hl 2 rfl) ?_
  refine gM_0_6 hx hb hts hiX4 hown hK hP hf61 dX4_claim_65 ?_
  refine lv_bipush (v := nI 24) hx hb dX4_claim_68 (by decide) ?_
  refine zb_ne (tgt := 77) hx hb (by omega) (by decide) dX4_claim_70 (by decide) (fun c_70 => ?_) (fun c_70 => (show False by omega).elim)
  refine lv_iconst (v := nI 0) hx hb dX4_claim_77 (by decide) ?_
  refine k_X4_goes_0 l  hx hb hml hown hts hK hP gX4_claim_X4_goes ⟨Nat.le_of_ble_eq_true rfl, Nat.le_of_ble_eq_true rfl⟩ ⟨Nat.le_of_ble_eq_true rfl, Nat.le_of_ble_eq_true rfl⟩ hl.1 (Nat.le_of_ble_eq_true rfl) dX4_claim_78 hI (fun _ h => h) hS (fun H locs hP hS _ => ?_)
  refine zi_ne (tgt := 86) hx hb (by decide) dX4_claim_81 (by decide) (fun c_81 => ?_) (fun c_81 => (show False by omega).elim)
  refine lv_iload hx hb dX4_claim_86 (lv_at hl 0 rfl) ?_
  refine lv_iconst (v := (-1)) hx hb dX4_claim_88 (by decide) ?_
  refine lv_icmp_ne (tgt := 165) hx hb dX4_claim_89 (by decide) (fun c_89 => (show False by exact c_89 rfl).elim) (fun c_89 => ?_)
  refine lv_aload_n hx hb dX4_claim_92 rfl (lv_at hl 2 rfl) ?_
  refine gM_0_6 hx hb hts hiX4 hown hK hP hf61 dX4_claim_93 ?_
  refine lv_istore (lv' := [(6, .int (nI n)), (5, .int (nI 1)), (0, .ref (am 0)), (1, .int (nI k)), (2, .int g), (3, .int b), (4, .int d)]) hx hb dX4_claim_96 hl (by decide) rfl (fun ls hl => ?_)
  refine lv_aload_n hx hb dX4_claim_98 rfl (lv_at hl 2 rfl) ?_
  refine lv_dup hx hb dX4_claim_99 rfl ?_
  refine gM_0_6 hx hb hts hiX4 hown hK hP hf61 dX4_claim_100 ?_
  refine lv_iconst (v := nI 1) hx hb dX4_claim_103 (by decide) ?_
  refine lv_iadd hx hb dX4_claim_104 ?_
  refine zt_i (y := nI (n + 1)) (nI_add _ _) ?_
  refine uM_0_6 hx hb hts hiX4 hown hK hP hf61 hI (fun _ h => h) hS dX4_claim_105 (fun H locs hP hS => ?_)
  refine lv_aload_n hx hb dX4_claim_108 rfl (lv_at hl 2 rfl) ?_
  refine gM_0_7 hx hb hts hiX4 hown hK hP hf16 dX4_claim_109 ?_
  refine lv_iload hx hb dX4_claim_112 (lv_at hl 0 rfl) ?_
  refine lv_iload_n hx hb dX4_claim_114 rfl (lv_at hl 3 rfl) ?_
  refine sM_3 hx hb hK hP hI (fun _ h => h) hS (by omega) dX4_claim_115 (fun H locs hP hS => ?_)
  refine lv_aload_n hx hb dX4_claim_116 rfl (lv_at hl 2 rfl) ?_
  refine gM_0_8 hx hb hts hiX4 hown hK hP hf19 dX4_claim_117 ?_
  refine lv_iload hx hb dX4_claim_120 (lv_at hl 0 rfl) ?_
  refine lv_iload_n hx hb dX4_claim_122 rfl (lv_at hl 4 rfl) ?_
  refine sM_4 hx hb hK hP hI (fun _ h => h) hS (by omega) dX4_claim_123 (fun H locs hP hS => ?_)
  refine lv_aload_n hx hb dX4_claim_124 rfl (lv_at hl 2 rfl) ?_
  refine gM_0_9 hx hb hts hiX4 hown hK hP hf22 dX4_claim_125 ?_
  refine lv_iload hx hb dX4_claim_128 (lv_at hl 0 rfl) ?_
  refine lv_iload_n hx hb dX4_claim_130 rfl (lv_at hl 5 rfl) ?_
  refine lv_if_eq (tgt := 138) hx hb dX4_claim_131 (by decide) (fun c_131 => ?_) (fun c_131 => ?_)
  · refine lv_iconst (v := nI 0) hx hb dX4_claim_138 (by decide) ?_
    refine sM_5 hx hb hK hP hI (fun _ h => h) hS (by omega) dX4_claim_139 (fun H locs hP hS => ?_)
    have e_1 : upd st n (nI 0) = upd st n (faultS b) := by simp [faultS, c_131]
    rw [e_1] at hP
    refine lv_aload_n hx hb dX4_claim_140 rfl (lv_at hl 2 rfl) ?_
    refine gM_0_10 hx hb hts hiX4 hown hK hP hf25 dX4_claim_141 ?_
    refine lv_iload hx hb dX4_claim_144 (lv_at hl 0 rfl) ?_
    refine lv_aload_n hx hb dX4_claim_146 rfl (lv_at hl 2 rfl) ?_
    refine gM_0_5 hx hb hts hiX4 hown hK hP hf94 dX4_claim_147 ?_
    refine lv_iload hx hb dX4_claim_150 (lv_at hl 6 rfl) ?_
    refine lv_iadd hx hb dX4_claim_152 ?_
    refine sM_6 hx hb hK hP hI (fun _ h => h) hS (by omega) dX4_claim_153 (fun H locs hP hS => ?_)
    refine lv_aload_n hx hb dX4_claim_154 rfl (lv_at hl 2 rfl) ?_
    refine gM_0_11 hx hb hts hiX4 hown hK hP hf28 dX4_claim_155 ?_
    refine lv_iload hx hb dX4_claim_158 (lv_at hl 0 rfl) ?_
    refine lv_iconst (v := nI 0) hx hb dX4_claim_160 (by decide) ?_
    refine sM_7 hx hb hK hP hI (fun _ h => h) hS (by omega) (rfl) dX4_claim_161 (fun H locs hP hS => ?_)
    have e_2 : upd wo n (nI 0) = wo := upd_self hwo
    rw [e_2] at hP
    refine lv_iload hx hb dX4_claim_162 (lv_at hl 0 rfl) ?_
    exact W.iret (v := nI n) hx hb hr (fun t ht hW => ⟨⟨nI n, (), rfl, rfl, by (try dsimp only); rw [ht]; exact hP⟩, hS.F ht⟩) hS.2.2 dX4_claim_164
  · refine lv_iconst (v := nI 1) hx hb dX4_claim_134 (by decide) ?_
    refine lv_goto (tgt := 139) hx hb dX4_claim_135 (by decide) ?_
    refine sM_5 hx hb hK hP hI (fun _ h => h) hS (by omega) dX4_claim_139 (fun H locs hP hS => ?_)
    have e_3 : upd st n (nI 1) = upd st n (faultS b) := by simp [faultS, c_131]
    rw [e_3] at hP
    refine lv_aload_n hx hb dX4_claim_140 rfl (lv_at hl 2 rfl) ?_
    refine gM_0_10 hx hb hts hiX4 hown hK hP hf25 dX4_claim_141 ?_
    refine lv_iload hx hb dX4_claim_144 (lv_at hl 0 rfl) ?_
    refine lv_aload_n hx hb dX4_claim_146 rfl (lv_at hl 2 rfl) ?_
    refine gM_0_5 hx hb hts hiX4 hown hK hP hf94 dX4_claim_147 ?_
    refine lv_iload hx hb dX4_claim_150 (lv_at hl 6 rfl) ?_
    refine lv_iadd hx hb dX4_claim_152 ?_
    refine sM_6 hx hb hK hP hI (fun _ h => h) hS (by omega) dX4_claim_153 (fun H locs hP hS => ?_)
    refine lv_aload_n hx hb dX4_claim_154 rfl (lv_at hl 2 rfl) ?_
    refine gM_0_11 hx hb hts hiX4 hown hK hP hf28 dX4_claim_155 ?_
    refine lv_iload hx hb dX4_claim_158 (lv_at hl 0 rfl) ?_
    refine lv_iconst (v := nI 0) hx hb dX4_claim_160 (by decide) ?_
    refine sM_7 hx hb hK hP hI (fun _ h => h) hS (by omega) (rfl) dX4_claim_161 (fun H locs hP hS => ?_)
    have e_4 : upd wo n (nI 0) = wo := upd_self hwo
    rw [e_4] at hP
    refine lv_iload hx hb dX4_claim_162 (lv_at hl 0 rfl) ?_
    exact W.iret (v := nI n) hx hb hr (fun t ht hW => ⟨⟨nI n, (), rfl, rfl, by (try dsimp only); rw [ht]; exact hP⟩, hS.F ht⟩) hS.2.2 dX4_claim_164
section
variable {p : Program} {e : Env} {R : Room} {s : State} {m : MethodId} {args : Array Value} {below : List Frame} {meth : Method} {c : Code} {H : Heap} {locs : List Loc} {cells slots : Nat} {Q : State → Prop} {cc : ByteArray} {pc : Nat} {ls : Array Slot} {rest : List Value} {own : String} {index nL : Nat} {Ts : List Cond} {H0 : Heap} {A0 : Nat → Prop}
theorem k_X4_claim_enter (l : Launch) {dC : Nat → ClassId} {dI : Nat → Nat → Nat} {cI cZ : ClassId} {am : Nat → Nat} {sm fe ex : Int32} {gp gc : Nat → Int32} {dy : Int32} {n : Nat} {pe gr st dl wo : Nat → Int32} {q : Nat} {yc ya yd ys tp fu sh ro : Nat → Int32} {th : Int32} {k : Nat} {g : Int32} {b : Int32} {d : Int32} (hn : n < 24) (h1 : outN (nI k) (nI 0) (nI 29) = 0) (h2 : outN g (nI 0) (nI 4) = 0) (h3 : outN d (nI 0) (nI 100) = 0) (hk : k < 30) (hop : ofP pe (nI k) n = (-1)) (hwo : wo n = nI 0) (hx : p.tables.exec = Jvm.exec) (hb : c.code = cc) (hml : c.maxLocals = nL) (hown : s.vm.findClass own = some m.cls) (hts : ∀ w ∈ Ts, w.before args s = true) (hK : va_K (dC, dI) vwCl [(cI, .int), (cZ, .boolean)] s) (hP : va_P (dC, dI) vwCl (wM cI cZ am sm fe ex gp gc dy n pe gr st dl wo q yc ya yd ys tp fu sh ro th) H) (hg9 : GoodIn Ts (wsV own index RX4 yX4_claim wsX4_claim)) (hR9 : 1 + 1 ≤ R.frames ∧ 8 + (7 + 11) + 23 ≤ R.locals) (hc9 : cells ≤ R.cells ∧ slots ≤ R.slots) (hl9 : ls.size = nL) (hw9 : (rest.map fun v => v.category).sum ≤ 8) (hdg : decode cc pc = .ok (.invokevirtual index, 3)) (hI : iwM am) (hA : ∀ x, awM am x → A0 x) (hS : va_S A0 H0 H locs) (kk : ∀ (H1 : Heap) (locs1 : List Loc), va_P (dC, dI) vwCl (wM cI cZ am sm fe ex gp gc dy (n + 1) (upd pe n (nI k)) (upd gr n g) (upd st n (faultS b)) (upd dl n (dy + d)) wo q yc ya yd ys tp fu sh ro (nI 0)) H1 → va_S A0 H0 H1 locs1 → (∀ q : Nat, q < H.size → ¬ awM am q → H1[q]? = H[q]?) → W p l e R s m args below meth c H1 locs1 cells slots Q (F0 m (pc + 3) ls (.int (nI n) :: rest))) : W p l e R s m args below meth c H locs cells slots Q (F0 m pc ls (.int d :: .int b :: .int g :: .int (nI k) :: .ref (am 0) :: rest)) := va_calli (va_runV (As := [.int (nI k), .int g, .int b, .int d]) (rest := rest) ⟨hx, hb, hml, hown, hts⟩ (c_X4_claim_enter (dC := dC) (dI := dI) (cI := cI) (cZ := cZ) (am := am) (sm := sm) (fe := fe) (ex := ex) (gp := gp) (gc := gc) (dy := dy) (n := n) (pe := pe) (gr := gr) (st := st) (dl := dl) (wo := wo) (q := q) (yc := yc) (ya := ya) (yd := yd) (ys := ys) (tp := tp) (fu := fu) (sh := sh) (ro := ro) (th := th) (k := k) (g := g) (b := b) (d := d) l hI hn h1 h2 h3 hk hop hwo) (cwV 4 hts hg9 rfl rfl rfl (by decide +kernel) hR9) ⟨fun a U g mk q => ⟨q.1, q.2.1, va_K.moved (u := U) (U := U.calling g mk a) (Vm.Alike.refl U.vm) q.2.2⟩, rM_0 hK hP, fun U hU hW => ⟨rfl, by rw [hU]; exact hP, va_K.moved hW.alike hK⟩⟩ rfl rfl hl9 rfl (lv_room hw9) hdg hc9) hS (fun q _ h => hA q h) hA (fun r u t H1 locs1 ht _ hu hB hz hk hS1 => by subst hu; exact kk H1 locs1 (by rw [ht] at hB; exact hB) hS1 hk)
end
set_option maxHeartbeats 4000000 in
set_option maxRecDepth 100000 in
theorem c_X4_claim_3 (l : Launch) {dC : Nat → ClassId} {dI : Nat → Nat → Nat} {cI cZ : ClassId} {am : Nat → Nat} {sm fe ex : Int32} {gp gc : Nat → Int32} {dy : Int32} {n : Nat} {pe gr st dl wo : Nat → Int32} {q : Nat} {yc ya yd ys tp fu sh ro : Nat → Int32} {th : Int32} {k : Nat} {g : Int32} {b : Int32} {d : Int32} (hI : iwM am) (hn : n = 24) (h1 : outN (nI k) (nI 0) (nI 29) = 0) (h2 : outN g (nI 0) (nI 4) = 0) (h3 : outN d (nI 0) (nI 100) = 0) (hk : k < 30) (hop : ofP pe (nI k) n = (-1)) : Met l yX4_claim wsX4_claim { frames := 1, cells := 0, slots := 0, locals := 23 } (va_Pc [.ref (am 0), .int (nI k), .int g, .int b, .int d] (fun U => va_P (dC, dI) vwCl (wM cI cZ am sm fe ex gp gc dy n pe gr st dl wo q yc ya yd ys tp fu sh ro th) U.heap ∧ va_K (dC, dI) vwCl [(cI, .int), (cZ, .boolean)] U)) (va_Qi (fun r (_ : Unit) => r = nI 0) (fun _ t => va_P (dC, dI) vwCl (wM cI cZ am sm fe ex gp gc dy n pe gr st dl wo q yc ya yd ys tp fu sh ro (nI 3)) t.heap) (awM am)) 0 0 (awM am) := by
  refine Met.ofW (cc := cX4_claim) (maxL := 7) (ret := (some .int)) (by decide) rfl ?_
  intro p e s m args below meth c s₁ B hml hv
  obtain ⟨rfl, hP, hK⟩ := hv
  have hx := B.exec
  have hb := B.bytes
  have hr := B.returns
  have hts := atoms_spec (ws := wsX4_claim) B.pre
  have hown : s.vm.findClass RX4 = some m.cls := findClass_of_methodNamed B.named
  have hlocks := B.notSynchronized
  have hS : va_S (awM am) s.heap s.heap [] := va_S.rf
  have hl := lv_entry ([.ref (am 0), .int (nI k), .int g, .int b, .int d]) (n := 7) (Nat.le_of_ble_eq_true rfl)
  rw [lg_entry_eq]
  generalize (lg_sl ([.ref (am 0), .int (nI k), .int g, .int b, .int d]) ++ List.replicate (7 - (lg_sl ([.ref (am 0), .int (nI k), .int g, .int b, .int d])).length) Slot.unset).toArray = ls at hl ⊢
  have hl : lv_has ls 7 [(0, .ref (am 0)), (1, .int (nI k)), (2, .int g), (3, .int b), (4, .int d)] := hl
  have hiX4 : ∀ w ∈ wsX40, w ∈ wsX4_claim := by decide +kernel
  have hf61 := hts (.fieldLink RX4 61 "SettlementFundModel" "claims" "I") (by decide +kernel)
  refine lv_iload_n hx hb dX4_claim_0 rfl (lv_at hl 1 rfl) ?_
  refine lv_iconst (v := nI 0) hx hb dX4_claim_1 (by decide) ?_
  refine lv_bipush (v := nI 29) hx hb dX4_claim_2 (by decide) ?_
  refine k_X4_isIn l (x := nI k) (a := nI 0) (b := nI 29) hx hb hml hown hts  gX4_claim_X4_isIn ⟨Nat.le_of_ble_eq_true rfl, Nat.le_of_ble_eq_true rfl⟩ ⟨Nat.le_of_ble_eq_true rfl, Nat.le_of_ble_eq_true rfl⟩ hl.1 (Nat.le_of_ble_eq_true rfl) dX4_claim_4 ?_
  refine zi_eq (tgt := 23) hx hb (by omega) dX4_claim_7 (by decide) (fun c_7 => (show False by omega).elim) (fun c_7 => ?_)
  refine lv_iload_n hx hb dX4_claim_10 rfl (lv_at hl 2 rfl) ?_
  refine lv_iconst (v := nI 0) hx hb dX4_claim_11 (by decide) ?_
  refine lv_iconst (v := nI 4) hx hb dX4_claim_12 (by decide) ?_
  refine k_X4_isIn l (x := g) (a := nI 0) (b := nI 4) hx hb hml hown hts  gX4_claim_X4_isIn ⟨Nat.le_of_ble_eq_true rfl, Nat.le_of_ble_eq_true rfl⟩ ⟨Nat.le_of_ble_eq_true rfl, Nat.le_of_ble_eq_true rfl⟩ hl.1 (Nat.le_of_ble_eq_true rfl) dX4_claim_13 ?_
  refine zi_eq (tgt := 23) hx hb (by omega) dX4_claim_16 (by decide) (fun c_16 => (show False by omega).elim) (fun c_16 => ?_)
  refine lv_iconst (v := nI 1) hx hb dX4_claim_19 (by decide) ?_
  refine lv_goto (tgt := 24) hx hb dX4_claim_20 (by decide) ?_
  refine lv_istore (lv' := [(5, .int (nI 1)), (0, .ref (am 0)), (1, .int (nI k)), (2, .int g), (3, .int b), (4, .int d)]) hx hb dX4_claim_24 hl (by decide) rfl (fun ls hl => ?_)
  refine lv_aload_n hx hb dX4_claim_26 rfl (lv_at hl 1 rfl) ?_
  refine lv_iload_n hx hb dX4_claim_27 rfl (lv_at hl 2 rfl) ?_
  refine k_X4_ofPerson l (x := nI k) (hn := (by omega)) hx hb hml hown hts hK hP gX4_claim_X4_ofPerson ⟨Nat.le_of_ble_eq_true rfl, Nat.le_of_ble_eq_true rfl⟩ ⟨Nat.le_of_ble_eq_true rfl, Nat.le_of_ble_eq_true rfl⟩ hl.1 (Nat.le_of_ble_eq_true rfl) dX4_claim_28 ?_
  refine zt_i (y := (-1)) (hop) ?_
  refine lv_istore (lv' := [(6, .int (-1)), (5, .int (nI 1)), (0, .ref (am 0)), (1, .int (nI k)), (2, .int g), (3, .int b), (4, .int d)]) hx hb dX4_claim_31 hl (by decide) rfl (fun ls hl => ?_)
  refine lv_aload_n hx hb dX4_claim_33 rfl (lv_at hl 2 rfl) ?_
  refine lv_iload hx hb dX4_claim_34 (lv_at hl 1 rfl) ?_
  refine zi_ne (tgt := 43) hx hb (by decide) dX4_claim_36 (by decide) (fun c_36 => ?_) (fun c_36 => (show False by omega).elim)
  refine lv_iload hx hb dX4_claim_43 (lv_at hl 6 rfl) ?_
  refine lv_iconst (v := nI 0) hx hb dX4_claim_45 (by decide) ?_
  refine lv_bipush (v := nI 100) hx hb dX4_claim_46 (by decide) ?_
  refine k_X4_isIn l (x := d) (a := nI 0) (b := nI 100) hx hb hml hown hts  gX4_claim_X4_isIn ⟨Nat.le_of_ble_eq_true rfl, Nat.le_of_ble_eq_true rfl⟩ ⟨Nat.le_of_ble_eq_true rfl, Nat.le_of_ble_eq_true rfl⟩ hl.1 (Nat.le_of_ble_eq_true rfl) dX4_claim_48 ?_
  refine zi_ne (tgt := 58) hx hb (by omega) dX4_claim_51 (by decide) (fun c_51 => ?_) (fun c_51 => (show False by omega).elim)
  refine lv_iload hx hb dX4_claim_58 (lv_at hl 0 rfl) ?_
  refine lv_iconst (v := (-1)) hx hb dX4_claim_60 (by decide) ?_
  refine lv_icmp_ne (tgt := 77) hx hb dX4_claim_61 (by decide) (fun c_61 => (show False by exact c_61 rfl).elim) (fun c_61 => ?_)
  refine lv_aload_n hx hb dX4_claim_64 rfl (lv_at hl 2 rfl) ?_
  refine gM_0_6 hx hb hts hiX4 hown hK hP hf61 dX4_claim_65 ?_
  refine lv_bipush (v := nI 24) hx hb dX4_claim_68 (by decide) ?_
  refine zb_ne (tgt := 77) hx hb (by omega) (by decide) dX4_claim_70 (by decide) (fun c_70 => (show False by omega).elim) (fun c_70 => ?_)
  refine lv_iconst (v := nI 3) hx hb dX4_claim_73 (by decide) ?_
  refine lv_goto (tgt := 78) hx hb dX4_claim_74 (by decide) ?_
  refine k_X4_goes_k l (k := 3) (hk := by decide) (h2 := by decide) hx hb hml hown hts hK hP gX4_claim_X4_goes ⟨Nat.le_of_ble_eq_true rfl, Nat.le_of_ble_eq_true rfl⟩ ⟨Nat.le_of_ble_eq_true rfl, Nat.le_of_ble_eq_true rfl⟩ hl.1 (Nat.le_of_ble_eq_true rfl) dX4_claim_78 hI (fun _ h => h) hS (fun H locs hP hS _ => ?_)
  refine zi_ne (tgt := 86) hx hb (by decide) dX4_claim_81 (by decide) (fun c_81 => (show False by omega).elim) (fun c_81 => ?_)
  refine lv_iconst (v := nI 0) hx hb dX4_claim_84 (by decide) ?_
  exact W.iret (v := nI 0) hx hb hr (fun t ht hW => ⟨⟨nI 0, (), rfl, rfl, by (try dsimp only); rw [ht]; exact hP⟩, hS.F ht⟩) hS.2.2 dX4_claim_85
section
variable {p : Program} {e : Env} {R : Room} {s : State} {m : MethodId} {args : Array Value} {below : List Frame} {meth : Method} {c : Code} {H : Heap} {locs : List Loc} {cells slots : Nat} {Q : State → Prop} {cc : ByteArray} {pc : Nat} {ls : Array Slot} {rest : List Value} {own : String} {index nL : Nat} {Ts : List Cond} {H0 : Heap} {A0 : Nat → Prop}
theorem k_X4_claim_3 (l : Launch) {dC : Nat → ClassId} {dI : Nat → Nat → Nat} {cI cZ : ClassId} {am : Nat → Nat} {sm fe ex : Int32} {gp gc : Nat → Int32} {dy : Int32} {n : Nat} {pe gr st dl wo : Nat → Int32} {q : Nat} {yc ya yd ys tp fu sh ro : Nat → Int32} {th : Int32} {k : Nat} {g : Int32} {b : Int32} {d : Int32} (hn : n = 24) (h1 : outN (nI k) (nI 0) (nI 29) = 0) (h2 : outN g (nI 0) (nI 4) = 0) (h3 : outN d (nI 0) (nI 100) = 0) (hk : k < 30) (hop : ofP pe (nI k) n = (-1)) (hx : p.tables.exec = Jvm.exec) (hb : c.code = cc) (hml : c.maxLocals = nL) (hown : s.vm.findClass own = some m.cls) (hts : ∀ w ∈ Ts, w.before args s = true) (hK : va_K (dC, dI) vwCl [(cI, .int), (cZ, .boolean)] s) (hP : va_P (dC, dI) vwCl (wM cI cZ am sm fe ex gp gc dy n pe gr st dl wo q yc ya yd ys tp fu sh ro th) H) (hg9 : GoodIn Ts (wsV own index RX4 yX4_claim wsX4_claim)) (hR9 : 1 + 1 ≤ R.frames ∧ 8 + (7 + 11) + 23 ≤ R.locals) (hc9 : cells ≤ R.cells ∧ slots ≤ R.slots) (hl9 : ls.size = nL) (hw9 : (rest.map fun v => v.category).sum ≤ 8) (hdg : decode cc pc = .ok (.invokevirtual index, 3)) (hI : iwM am) (hA : ∀ x, awM am x → A0 x) (hS : va_S A0 H0 H locs) (kk : ∀ (H1 : Heap) (locs1 : List Loc), va_P (dC, dI) vwCl (wM cI cZ am sm fe ex gp gc dy n pe gr st dl wo q yc ya yd ys tp fu sh ro (nI 3)) H1 → va_S A0 H0 H1 locs1 → (∀ q : Nat, q < H.size → ¬ awM am q → H1[q]? = H[q]?) → W p l e R s m args below meth c H1 locs1 cells slots Q (F0 m (pc + 3) ls (.int (nI 0) :: rest))) : W p l e R s m args below meth c H locs cells slots Q (F0 m pc ls (.int d :: .int b :: .int g :: .int (nI k) :: .ref (am 0) :: rest)) := va_calli (va_runV (As := [.int (nI k), .int g, .int b, .int d]) (rest := rest) ⟨hx, hb, hml, hown, hts⟩ (c_X4_claim_3 (dC := dC) (dI := dI) (cI := cI) (cZ := cZ) (am := am) (sm := sm) (fe := fe) (ex := ex) (gp := gp) (gc := gc) (dy := dy) (n := n) (pe := pe) (gr := gr) (st := st) (dl := dl) (wo := wo) (q := q) (yc := yc) (ya := ya) (yd := yd) (ys := ys) (tp := tp) (fu := fu) (sh := sh) (ro := ro) (th := th) (k := k) (g := g) (b := b) (d := d) l hI hn h1 h2 h3 hk hop) (cwV 4 hts hg9 rfl rfl rfl (by decide +kernel) hR9) ⟨fun a U g mk q => ⟨q.1, q.2.1, va_K.moved (u := U) (U := U.calling g mk a) (Vm.Alike.refl U.vm) q.2.2⟩, rM_0 hK hP, fun U hU hW => ⟨rfl, by rw [hU]; exact hP, va_K.moved hW.alike hK⟩⟩ rfl rfl hl9 rfl (lv_room hw9) hdg hc9) hS (fun q _ h => hA q h) hA (fun r u t H1 locs1 ht _ hu hB hz hk hS1 => by subst hu; exact kk H1 locs1 (by rw [ht] at hB; exact hB) hS1 hk)
end
set_option maxHeartbeats 4000000 in
set_option maxRecDepth 100000 in
theorem c_X4_claim_1 (l : Launch) {dC : Nat → ClassId} {dI : Nat → Nat → Nat} {cI cZ : ClassId} {am : Nat → Nat} {sm fe ex : Int32} {gp gc : Nat → Int32} {dy : Int32} {n : Nat} {pe gr st dl wo : Nat → Int32} {q : Nat} {yc ya yd ys tp fu sh ro : Nat → Int32} {th : Int32} {x1 : Int32} {g : Int32} {b : Int32} {d : Int32} (hI : iwM am) (hn : n ≤ 24) (h1 : ¬ (outN x1 (nI 0) (nI 29) = 0 ∧ outN g (nI 0) (nI 4) = 0)) : Met l yX4_claim wsX4_claim { frames := 1, cells := 0, slots := 0, locals := 23 } (va_Pc [.ref (am 0), .int x1, .int g, .int b, .int d] (fun U => va_P (dC, dI) vwCl (wM cI cZ am sm fe ex gp gc dy n pe gr st dl wo q yc ya yd ys tp fu sh ro th) U.heap ∧ va_K (dC, dI) vwCl [(cI, .int), (cZ, .boolean)] U)) (va_Qi (fun r (_ : Unit) => r = nI 0) (fun _ t => va_P (dC, dI) vwCl (wM cI cZ am sm fe ex gp gc dy n pe gr st dl wo q yc ya yd ys tp fu sh ro (nI 1)) t.heap) (awM am)) 0 0 (awM am) := by
  refine Met.ofW (cc := cX4_claim) (maxL := 7) (ret := (some .int)) (by decide) rfl ?_
  intro p e s m args below meth c s₁ B hml hv
  obtain ⟨rfl, hP, hK⟩ := hv
  have hx := B.exec
  have hb := B.bytes
  have hr := B.returns
  have hts := atoms_spec (ws := wsX4_claim) B.pre
  have hown : s.vm.findClass RX4 = some m.cls := findClass_of_methodNamed B.named
  have hlocks := B.notSynchronized
  have hS : va_S (awM am) s.heap s.heap [] := va_S.rf
  have hl := lv_entry ([.ref (am 0), .int x1, .int g, .int b, .int d]) (n := 7) (Nat.le_of_ble_eq_true rfl)
  rw [lg_entry_eq]
  generalize (lg_sl ([.ref (am 0), .int x1, .int g, .int b, .int d]) ++ List.replicate (7 - (lg_sl ([.ref (am 0), .int x1, .int g, .int b, .int d])).length) Slot.unset).toArray = ls at hl ⊢
  have hl : lv_has ls 7 [(0, .ref (am 0)), (1, .int x1), (2, .int g), (3, .int b), (4, .int d)] := hl
  refine lv_iload_n hx hb dX4_claim_0 rfl (lv_at hl 1 rfl) ?_
  refine lv_iconst (v := nI 0) hx hb dX4_claim_1 (by decide) ?_
  refine lv_bipush (v := nI 29) hx hb dX4_claim_2 (by decide) ?_
  refine k_X4_isIn l (x := x1) (a := nI 0) (b := nI 29) hx hb hml hown hts  gX4_claim_X4_isIn ⟨Nat.le_of_ble_eq_true rfl, Nat.le_of_ble_eq_true rfl⟩ ⟨Nat.le_of_ble_eq_true rfl, Nat.le_of_ble_eq_true rfl⟩ hl.1 (Nat.le_of_ble_eq_true rfl) dX4_claim_4 ?_
  refine zi_eq (tgt := 23) hx hb (by omega) dX4_claim_7 (by decide) (fun c_7 => ?_) (fun c_7 => ?_)
  · refine lv_iconst (v := nI 0) hx hb dX4_claim_23 (by decide) ?_
    refine lv_istore (lv' := [(5, .int (nI 0)), (0, .ref (am 0)), (1, .int x1), (2, .int g), (3, .int b), (4, .int d)]) hx hb dX4_claim_24 hl (by decide) rfl (fun ls hl => ?_)
    refine lv_aload_n hx hb dX4_claim_26 rfl (lv_at hl 1 rfl) ?_
    refine lv_iload_n hx hb dX4_claim_27 rfl (lv_at hl 2 rfl) ?_
    refine k_X4_ofPerson l (x := x1) (hn := hn) hx hb hml hown hts hK hP gX4_claim_X4_ofPerson ⟨Nat.le_of_ble_eq_true rfl, Nat.le_of_ble_eq_true rfl⟩ ⟨Nat.le_of_ble_eq_true rfl, Nat.le_of_ble_eq_true rfl⟩ hl.1 (Nat.le_of_ble_eq_true rfl) dX4_claim_28 ?_
    refine lv_istore (lv' := [(6, .int (ofP pe x1 n)), (5, .int (nI 0)), (0, .ref (am 0)), (1, .int x1), (2, .int g), (3, .int b), (4, .int d)]) hx hb dX4_claim_31 hl (by decide) rfl (fun ls hl => ?_)
    refine lv_aload_n hx hb dX4_claim_33 rfl (lv_at hl 2 rfl) ?_
    refine lv_iload hx hb dX4_claim_34 (lv_at hl 1 rfl) ?_
    refine zi_ne (tgt := 43) hx hb (by decide) dX4_claim_36 (by decide) (fun c_36 => (show False by omega).elim) (fun c_36 => ?_)
    refine lv_iconst (v := nI 1) hx hb dX4_claim_39 (by decide) ?_
    refine lv_goto (tgt := 78) hx hb dX4_claim_40 (by decide) ?_
    refine k_X4_goes_k l (k := 1) (hk := by decide) (h2 := by decide) hx hb hml hown hts hK hP gX4_claim_X4_goes ⟨Nat.le_of_ble_eq_true rfl, Nat.le_of_ble_eq_true rfl⟩ ⟨Nat.le_of_ble_eq_true rfl, Nat.le_of_ble_eq_true rfl⟩ hl.1 (Nat.le_of_ble_eq_true rfl) dX4_claim_78 hI (fun _ h => h) hS (fun H locs hP hS _ => ?_)
    refine zi_ne (tgt := 86) hx hb (by decide) dX4_claim_81 (by decide) (fun c_81 => (show False by omega).elim) (fun c_81 => ?_)
    refine lv_iconst (v := nI 0) hx hb dX4_claim_84 (by decide) ?_
    exact W.iret (v := nI 0) hx hb hr (fun t ht hW => ⟨⟨nI 0, (), rfl, rfl, by (try dsimp only); rw [ht]; exact hP⟩, hS.F ht⟩) hS.2.2 dX4_claim_85
  · refine lv_iload_n hx hb dX4_claim_10 rfl (lv_at hl 2 rfl) ?_
    refine lv_iconst (v := nI 0) hx hb dX4_claim_11 (by decide) ?_
    refine lv_iconst (v := nI 4) hx hb dX4_claim_12 (by decide) ?_
    refine k_X4_isIn l (x := g) (a := nI 0) (b := nI 4) hx hb hml hown hts  gX4_claim_X4_isIn ⟨Nat.le_of_ble_eq_true rfl, Nat.le_of_ble_eq_true rfl⟩ ⟨Nat.le_of_ble_eq_true rfl, Nat.le_of_ble_eq_true rfl⟩ hl.1 (Nat.le_of_ble_eq_true rfl) dX4_claim_13 ?_
    refine zi_eq (tgt := 23) hx hb (by omega) dX4_claim_16 (by decide) (fun c_16 => ?_) (fun c_16 => (show False by exact h1 ⟨by omega, by omega⟩).elim)
    refine lv_iconst (v := nI 0) hx hb dX4_claim_23 (by decide) ?_
    refine lv_istore (lv' := [(5, .int (nI 0)), (0, .ref (am 0)), (1, .int x1), (2, .int g), (3, .int b), (4, .int d)]) hx hb dX4_claim_24 hl (by decide) rfl (fun ls hl => ?_)
    refine lv_aload_n hx hb dX4_claim_26 rfl (lv_at hl 1 rfl) ?_
    refine lv_iload_n hx hb dX4_claim_27 rfl (lv_at hl 2 rfl) ?_
    refine k_X4_ofPerson l (x := x1) (hn := hn) hx hb hml hown hts hK hP gX4_claim_X4_ofPerson ⟨Nat.le_of_ble_eq_true rfl, Nat.le_of_ble_eq_true rfl⟩ ⟨Nat.le_of_ble_eq_true rfl, Nat.le_of_ble_eq_true rfl⟩ hl.1 (Nat.le_of_ble_eq_true rfl) dX4_claim_28 ?_
    refine lv_istore (lv' := [(6, .int (ofP pe x1 n)), (5, .int (nI 0)), (0, .ref (am 0)), (1, .int x1), (2, .int g), (3, .int b), (4, .int d)]) hx hb dX4_claim_31 hl (by decide) rfl (fun ls hl => ?_)
    refine lv_aload_n hx hb dX4_claim_33 rfl (lv_at hl 2 rfl) ?_
    refine lv_iload hx hb dX4_claim_34 (lv_at hl 1 rfl) ?_
    refine zi_ne (tgt := 43) hx hb (by decide) dX4_claim_36 (by decide) (fun c_36 => (show False by omega).elim) (fun c_36 => ?_)
    refine lv_iconst (v := nI 1) hx hb dX4_claim_39 (by decide) ?_
    refine lv_goto (tgt := 78) hx hb dX4_claim_40 (by decide) ?_
    refine k_X4_goes_k l (k := 1) (hk := by decide) (h2 := by decide) hx hb hml hown hts hK hP gX4_claim_X4_goes ⟨Nat.le_of_ble_eq_true rfl, Nat.le_of_ble_eq_true rfl⟩ ⟨Nat.le_of_ble_eq_true rfl, Nat.le_of_ble_eq_true rfl⟩ hl.1 (Nat.le_of_ble_eq_true rfl) dX4_claim_78 hI (fun _ h => h) hS (fun H locs hP hS _ => ?_)
    refine zi_ne (tgt := 86) hx hb (by decide) dX4_claim_81 (by decide) (fun c_81 => (show False by omega).elim) (fun c_81 => ?_)
    refine lv_iconst (v := nI 0) hx hb dX4_claim_84 (by decide) ?_
    exact W.iret (v := nI 0) hx hb hr (fun t ht hW => ⟨⟨nI 0, (), rfl, rfl, by (try dsimp only); rw [ht]; exact hP⟩, hS.F ht⟩) hS.2.2 dX4_claim_85
section
variable {p : Program} {e : Env} {R : Room} {s : State} {m : MethodId} {args : Array Value} {below : List Frame} {meth : Method} {c : Code} {H : Heap} {locs : List Loc} {cells slots : Nat} {Q : State → Prop} {cc : ByteArray} {pc : Nat} {ls : Array Slot} {rest : List Value} {own : String} {index nL : Nat} {Ts : List Cond} {H0 : Heap} {A0 : Nat → Prop}
theorem k_X4_claim_1 (l : Launch) {dC : Nat → ClassId} {dI : Nat → Nat → Nat} {cI cZ : ClassId} {am : Nat → Nat} {sm fe ex : Int32} {gp gc : Nat → Int32} {dy : Int32} {n : Nat} {pe gr st dl wo : Nat → Int32} {q : Nat} {yc ya yd ys tp fu sh ro : Nat → Int32} {th : Int32} {x1 : Int32} {g : Int32} {b : Int32} {d : Int32} (hn : n ≤ 24) (h1 : ¬ (outN x1 (nI 0) (nI 29) = 0 ∧ outN g (nI 0) (nI 4) = 0)) (hx : p.tables.exec = Jvm.exec) (hb : c.code = cc) (hml : c.maxLocals = nL) (hown : s.vm.findClass own = some m.cls) (hts : ∀ w ∈ Ts, w.before args s = true) (hK : va_K (dC, dI) vwCl [(cI, .int), (cZ, .boolean)] s) (hP : va_P (dC, dI) vwCl (wM cI cZ am sm fe ex gp gc dy n pe gr st dl wo q yc ya yd ys tp fu sh ro th) H) (hg9 : GoodIn Ts (wsV own index RX4 yX4_claim wsX4_claim)) (hR9 : 1 + 1 ≤ R.frames ∧ 8 + (7 + 11) + 23 ≤ R.locals) (hc9 : cells ≤ R.cells ∧ slots ≤ R.slots) (hl9 : ls.size = nL) (hw9 : (rest.map fun v => v.category).sum ≤ 8) (hdg : decode cc pc = .ok (.invokevirtual index, 3)) (hI : iwM am) (hA : ∀ x, awM am x → A0 x) (hS : va_S A0 H0 H locs) (kk : ∀ (H1 : Heap) (locs1 : List Loc), va_P (dC, dI) vwCl (wM cI cZ am sm fe ex gp gc dy n pe gr st dl wo q yc ya yd ys tp fu sh ro (nI 1)) H1 → va_S A0 H0 H1 locs1 → (∀ q : Nat, q < H.size → ¬ awM am q → H1[q]? = H[q]?) → W p l e R s m args below meth c H1 locs1 cells slots Q (F0 m (pc + 3) ls (.int (nI 0) :: rest))) : W p l e R s m args below meth c H locs cells slots Q (F0 m pc ls (.int d :: .int b :: .int g :: .int x1 :: .ref (am 0) :: rest)) := va_calli (va_runV (As := [.int x1, .int g, .int b, .int d]) (rest := rest) ⟨hx, hb, hml, hown, hts⟩ (c_X4_claim_1 (dC := dC) (dI := dI) (cI := cI) (cZ := cZ) (am := am) (sm := sm) (fe := fe) (ex := ex) (gp := gp) (gc := gc) (dy := dy) (n := n) (pe := pe) (gr := gr) (st := st) (dl := dl) (wo := wo) (q := q) (yc := yc) (ya := ya) (yd := yd) (ys := ys) (tp := tp) (fu := fu) (sh := sh) (ro := ro) (th := th) (x1 := x1) (g := g) (b := b) (d := d) l hI hn h1) (cwV 4 hts hg9 rfl rfl rfl (by decide +kernel) hR9) ⟨fun a U g mk q => ⟨q.1, q.2.1, va_K.moved (u := U) (U := U.calling g mk a) (Vm.Alike.refl U.vm) q.2.2⟩, rM_0 hK hP, fun U hU hW => ⟨rfl, by rw [hU]; exact hP, va_K.moved hW.alike hK⟩⟩ rfl rfl hl9 rfl (lv_room hw9) hdg hc9) hS (fun q _ h => hA q h) hA (fun r u t H1 locs1 ht _ hu hB hz hk hS1 => by subst hu; exact kk H1 locs1 (by rw [ht] at hB; exact hB) hS1 hk)
end
set_option maxHeartbeats 4000000 in
set_option maxRecDepth 100000 in
theorem c_X4_claim_2 (l : Launch) {dC : Nat → ClassId} {dI : Nat → Nat → Nat} {cI cZ : ClassId} {am : Nat → Nat} {sm fe ex : Int32} {gp gc : Nat → Int32} {dy : Int32} {n : Nat} {pe gr st dl wo : Nat → Int32} {q : Nat} {yc ya yd ys tp fu sh ro : Nat → Int32} {th : Int32} {x1 : Int32} {g : Int32} {b : Int32} {d : Int32} (hI : iwM am) (hn : n ≤ 24) (h1 : outN x1 (nI 0) (nI 29) = 0) (h2 : outN g (nI 0) (nI 4) = 0) (h3 : ¬ outN d (nI 0) (nI 100) = 0) : Met l yX4_claim wsX4_claim { frames := 1, cells := 0, slots := 0, locals := 23 } (va_Pc [.ref (am 0), .int x1, .int g, .int b, .int d] (fun U => va_P (dC, dI) vwCl (wM cI cZ am sm fe ex gp gc dy n pe gr st dl wo q yc ya yd ys tp fu sh ro th) U.heap ∧ va_K (dC, dI) vwCl [(cI, .int), (cZ, .boolean)] U)) (va_Qi (fun r (_ : Unit) => r = nI 0) (fun _ t => va_P (dC, dI) vwCl (wM cI cZ am sm fe ex gp gc dy n pe gr st dl wo q yc ya yd ys tp fu sh ro (nI 2)) t.heap) (awM am)) 0 0 (awM am) := by
  refine Met.ofW (cc := cX4_claim) (maxL := 7) (ret := (some .int)) (by decide) rfl ?_
  intro p e s m args below meth c s₁ B hml hv
  obtain ⟨rfl, hP, hK⟩ := hv
  have hx := B.exec
  have hb := B.bytes
  have hr := B.returns
  have hts := atoms_spec (ws := wsX4_claim) B.pre
  have hown : s.vm.findClass RX4 = some m.cls := findClass_of_methodNamed B.named
  have hlocks := B.notSynchronized
  have hS : va_S (awM am) s.heap s.heap [] := va_S.rf
  have hl := lv_entry ([.ref (am 0), .int x1, .int g, .int b, .int d]) (n := 7) (Nat.le_of_ble_eq_true rfl)
  rw [lg_entry_eq]
  generalize (lg_sl ([.ref (am 0), .int x1, .int g, .int b, .int d]) ++ List.replicate (7 - (lg_sl ([.ref (am 0), .int x1, .int g, .int b, .int d])).length) Slot.unset).toArray = ls at hl ⊢
  have hl : lv_has ls 7 [(0, .ref (am 0)), (1, .int x1), (2, .int g), (3, .int b), (4, .int d)] := hl
  refine lv_iload_n hx hb dX4_claim_0 rfl (lv_at hl 1 rfl) ?_
  refine lv_iconst (v := nI 0) hx hb dX4_claim_1 (by decide) ?_
  refine lv_bipush (v := nI 29) hx hb dX4_claim_2 (by decide) ?_
  refine k_X4_isIn l (x := x1) (a := nI 0) (b := nI 29) hx hb hml hown hts  gX4_claim_X4_isIn ⟨Nat.le_of_ble_eq_true rfl, Nat.le_of_ble_eq_true rfl⟩ ⟨Nat.le_of_ble_eq_true rfl, Nat.le_of_ble_eq_true rfl⟩ hl.1 (Nat.le_of_ble_eq_true rfl) dX4_claim_4 ?_
  refine zi_eq (tgt := 23) hx hb (by omega) dX4_claim_7 (by decide) (fun c_7 => (show False by omega).elim) (fun c_7 => ?_)
  refine lv_iload_n hx hb dX4_claim_10 rfl (lv_at hl 2 rfl) ?_
  refine lv_iconst (v := nI 0) hx hb dX4_claim_11 (by decide) ?_
  refine lv_iconst (v := nI 4) hx hb dX4_claim_12 (by decide) ?_
  refine k_X4_isIn l (x := g) (a := nI 0) (b := nI 4) hx hb hml hown hts  gX4_claim_X4_isIn ⟨Nat.le_of_ble_eq_true rfl, Nat.le_of_ble_eq_true rfl⟩ ⟨Nat.le_of_ble_eq_true rfl, Nat.le_of_ble_eq_true rfl⟩ hl.1 (Nat.le_of_ble_eq_true rfl) dX4_claim_13 ?_
  refine zi_eq (tgt := 23) hx hb (by omega) dX4_claim_16 (by decide) (fun c_16 => (show False by omega).elim) (fun c_16 => ?_)
  refine lv_iconst (v := nI 1) hx hb dX4_claim_19 (by decide) ?_
  refine lv_goto (tgt := 24) hx hb dX4_claim_20 (by decide) ?_
  refine lv_istore (lv' := [(5, .int (nI 1)), (0, .ref (am 0)), (1, .int x1), (2, .int g), (3, .int b), (4, .int d)]) hx hb dX4_claim_24 hl (by decide) rfl (fun ls hl => ?_)
  refine lv_aload_n hx hb dX4_claim_26 rfl (lv_at hl 1 rfl) ?_
  refine lv_iload_n hx hb dX4_claim_27 rfl (lv_at hl 2 rfl) ?_
  refine k_X4_ofPerson l (x := x1) (hn := hn) hx hb hml hown hts hK hP gX4_claim_X4_ofPerson ⟨Nat.le_of_ble_eq_true rfl, Nat.le_of_ble_eq_true rfl⟩ ⟨Nat.le_of_ble_eq_true rfl, Nat.le_of_ble_eq_true rfl⟩ hl.1 (Nat.le_of_ble_eq_true rfl) dX4_claim_28 ?_
  refine lv_istore (lv' := [(6, .int (ofP pe x1 n)), (5, .int (nI 1)), (0, .ref (am 0)), (1, .int x1), (2, .int g), (3, .int b), (4, .int d)]) hx hb dX4_claim_31 hl (by decide) rfl (fun ls hl => ?_)
  refine lv_aload_n hx hb dX4_claim_33 rfl (lv_at hl 2 rfl) ?_
  refine lv_iload hx hb dX4_claim_34 (lv_at hl 1 rfl) ?_
  refine zi_ne (tgt := 43) hx hb (by decide) dX4_claim_36 (by decide) (fun c_36 => ?_) (fun c_36 => (show False by omega).elim)
  refine lv_iload hx hb dX4_claim_43 (lv_at hl 6 rfl) ?_
  refine lv_iconst (v := nI 0) hx hb dX4_claim_45 (by decide) ?_
  refine lv_bipush (v := nI 100) hx hb dX4_claim_46 (by decide) ?_
  refine k_X4_isIn l (x := d) (a := nI 0) (b := nI 100) hx hb hml hown hts  gX4_claim_X4_isIn ⟨Nat.le_of_ble_eq_true rfl, Nat.le_of_ble_eq_true rfl⟩ ⟨Nat.le_of_ble_eq_true rfl, Nat.le_of_ble_eq_true rfl⟩ hl.1 (Nat.le_of_ble_eq_true rfl) dX4_claim_48 ?_
  refine zi_ne (tgt := 58) hx hb (by omega) dX4_claim_51 (by decide) (fun c_51 => (show False by omega).elim) (fun c_51 => ?_)
  refine lv_iconst (v := nI 2) hx hb dX4_claim_54 (by decide) ?_
  refine lv_goto (tgt := 78) hx hb dX4_claim_55 (by decide) ?_
  refine k_X4_goes_k l (k := 2) (hk := by decide) (h2 := by decide) hx hb hml hown hts hK hP gX4_claim_X4_goes ⟨Nat.le_of_ble_eq_true rfl, Nat.le_of_ble_eq_true rfl⟩ ⟨Nat.le_of_ble_eq_true rfl, Nat.le_of_ble_eq_true rfl⟩ hl.1 (Nat.le_of_ble_eq_true rfl) dX4_claim_78 hI (fun _ h => h) hS (fun H locs hP hS _ => ?_)
  refine zi_ne (tgt := 86) hx hb (by decide) dX4_claim_81 (by decide) (fun c_81 => (show False by omega).elim) (fun c_81 => ?_)
  refine lv_iconst (v := nI 0) hx hb dX4_claim_84 (by decide) ?_
  exact W.iret (v := nI 0) hx hb hr (fun t ht hW => ⟨⟨nI 0, (), rfl, rfl, by (try dsimp only); rw [ht]; exact hP⟩, hS.F ht⟩) hS.2.2 dX4_claim_85
section
variable {p : Program} {e : Env} {R : Room} {s : State} {m : MethodId} {args : Array Value} {below : List Frame} {meth : Method} {c : Code} {H : Heap} {locs : List Loc} {cells slots : Nat} {Q : State → Prop} {cc : ByteArray} {pc : Nat} {ls : Array Slot} {rest : List Value} {own : String} {index nL : Nat} {Ts : List Cond} {H0 : Heap} {A0 : Nat → Prop}
theorem k_X4_claim_2 (l : Launch) {dC : Nat → ClassId} {dI : Nat → Nat → Nat} {cI cZ : ClassId} {am : Nat → Nat} {sm fe ex : Int32} {gp gc : Nat → Int32} {dy : Int32} {n : Nat} {pe gr st dl wo : Nat → Int32} {q : Nat} {yc ya yd ys tp fu sh ro : Nat → Int32} {th : Int32} {x1 : Int32} {g : Int32} {b : Int32} {d : Int32} (hn : n ≤ 24) (h1 : outN x1 (nI 0) (nI 29) = 0) (h2 : outN g (nI 0) (nI 4) = 0) (h3 : ¬ outN d (nI 0) (nI 100) = 0) (hx : p.tables.exec = Jvm.exec) (hb : c.code = cc) (hml : c.maxLocals = nL) (hown : s.vm.findClass own = some m.cls) (hts : ∀ w ∈ Ts, w.before args s = true) (hK : va_K (dC, dI) vwCl [(cI, .int), (cZ, .boolean)] s) (hP : va_P (dC, dI) vwCl (wM cI cZ am sm fe ex gp gc dy n pe gr st dl wo q yc ya yd ys tp fu sh ro th) H) (hg9 : GoodIn Ts (wsV own index RX4 yX4_claim wsX4_claim)) (hR9 : 1 + 1 ≤ R.frames ∧ 8 + (7 + 11) + 23 ≤ R.locals) (hc9 : cells ≤ R.cells ∧ slots ≤ R.slots) (hl9 : ls.size = nL) (hw9 : (rest.map fun v => v.category).sum ≤ 8) (hdg : decode cc pc = .ok (.invokevirtual index, 3)) (hI : iwM am) (hA : ∀ x, awM am x → A0 x) (hS : va_S A0 H0 H locs) (kk : ∀ (H1 : Heap) (locs1 : List Loc), va_P (dC, dI) vwCl (wM cI cZ am sm fe ex gp gc dy n pe gr st dl wo q yc ya yd ys tp fu sh ro (nI 2)) H1 → va_S A0 H0 H1 locs1 → (∀ q : Nat, q < H.size → ¬ awM am q → H1[q]? = H[q]?) → W p l e R s m args below meth c H1 locs1 cells slots Q (F0 m (pc + 3) ls (.int (nI 0) :: rest))) : W p l e R s m args below meth c H locs cells slots Q (F0 m pc ls (.int d :: .int b :: .int g :: .int x1 :: .ref (am 0) :: rest)) := va_calli (va_runV (As := [.int x1, .int g, .int b, .int d]) (rest := rest) ⟨hx, hb, hml, hown, hts⟩ (c_X4_claim_2 (dC := dC) (dI := dI) (cI := cI) (cZ := cZ) (am := am) (sm := sm) (fe := fe) (ex := ex) (gp := gp) (gc := gc) (dy := dy) (n := n) (pe := pe) (gr := gr) (st := st) (dl := dl) (wo := wo) (q := q) (yc := yc) (ya := ya) (yd := yd) (ys := ys) (tp := tp) (fu := fu) (sh := sh) (ro := ro) (th := th) (x1 := x1) (g := g) (b := b) (d := d) l hI hn h1 h2 h3) (cwV 4 hts hg9 rfl rfl rfl (by decide +kernel) hR9) ⟨fun a U g mk q => ⟨q.1, q.2.1, va_K.moved (u := U) (U := U.calling g mk a) (Vm.Alike.refl U.vm) q.2.2⟩, rM_0 hK hP, fun U hU hW => ⟨rfl, by rw [hU]; exact hP, va_K.moved hW.alike hK⟩⟩ rfl rfl hl9 rfl (lv_room hw9) hdg hc9) hS (fun q _ h => hA q h) hA (fun r u t H1 locs1 ht _ hu hB hz hk hS1 => by subst hu; exact kk H1 locs1 (by rw [ht] at hB; exact hB) hS1 hk)
end
set_option maxHeartbeats 4000000 in
set_option maxRecDepth 100000 in
theorem c_X4_countOf (l : Launch) {dC : Nat → ClassId} {dI : Nat → Nat → Nat} {cI cZ : ClassId} {am : Nat → Nat} {sm fe ex : Int32} {gp gc : Nat → Int32} {dy : Int32} {n : Nat} {pe gr st dl wo : Nat → Int32} {q : Nat} {yc ya yd ys tp fu sh ro : Nat → Int32} {th : Int32} {w : Int32} (hn : n ≤ 24) : Met l yX4_countOf wsX4_countOf { frames := 0, cells := 0, slots := 0, locals := 0 } (va_Pc [.ref (am 0), .int w] (fun U => va_P (dC, dI) vwCl (wM cI cZ am sm fe ex gp gc dy n pe gr st dl wo q yc ya yd ys tp fu sh ro th) U.heap ∧ va_K (dC, dI) vwCl [(cI, .int), (cZ, .boolean)] U)) (vp_Si (fun r => r = nI (tallyN st w n))) 0 0 (fun _ => False) := by
  refine Met.ofW (cc := cX4_countOf) (maxL := 4) (ret := (some .int)) (by decide) rfl ?_
  intro p e s m args below meth c s₁ B hml hv
  obtain ⟨rfl, hP, hK⟩ := hv
  have hx := B.exec
  have hb := B.bytes
  have hr := B.returns
  have hts := atoms_spec (ws := wsX4_countOf) B.pre
  have hown : s.vm.findClass RX4 = some m.cls := findClass_of_methodNamed B.named
  have hlocks := B.notSynchronized
  have hl := lv_entry ([.ref (am 0), .int w]) (n := 4) (Nat.le_of_ble_eq_true rfl)
  rw [lg_entry_eq]
  generalize (lg_sl ([.ref (am 0), .int w]) ++ List.replicate (4 - (lg_sl ([.ref (am 0), .int w])).length) Slot.unset).toArray = ls at hl ⊢
  have hl : lv_has ls 4 [(0, .ref (am 0)), (1, .int w)] := hl
  have hiX4 : ∀ w ∈ wsX40, w ∈ wsX4_countOf := by decide +kernel
  have hf61 := hts (.fieldLink RX4 61 "SettlementFundModel" "claims" "I") (by decide +kernel)
  have hf22 := hts (.fieldLink RX4 22 "SettlementFundModel" "states" "[I") (by decide +kernel)
  refine lv_iconst (v := nI 0) hx hb dX4_countOf_0 (by decide) ?_
  refine lv_istore_n (lv' := [(2, .int (nI 0)), (0, .ref (am 0)), (1, .int w)]) hx hb dX4_countOf_1 rfl hl (by decide) rfl (fun ls hl => ?_)
  refine lv_iconst (v := nI 0) hx hb dX4_countOf_2 (by decide) ?_
  refine lv_istore_n (lv' := [(3, .int (nI 0)), (2, .int (nI 0)), (0, .ref (am 0)), (1, .int w)]) hx hb dX4_countOf_3 rfl hl (by decide) rfl (fun ls hl => ?_)
  have e_1 : nI 0 = nI (tallyN st w 0) := by first | rfl | (simp [tallyN]; done)
  rw [e_1] at hl
  refine zl_ro (fun a9 : Nat => [(0, .ref (am 0)), (1, .int w), (2, .int (nI (tallyN st w a9))), (3, .int (nI a9))]) (fun a9 : Nat => a9 ≤ n) (fun a9 : Nat => n - a9) 0 (Nat.zero_le _) (lv_sub hl [2, 3, 1, 0] rfl) ?_
  intro a9 hi_4 ih_4 ls hl
  obtain ⟨i, rfl⟩ : ∃ z, z = a9 := ⟨_, rfl⟩
  have hi_4 : i ≤ n := hi_4
  have hl : lv_has ls 4 [(0, .ref (am 0)), (1, .int w), (2, .int (nI (tallyN st w i))), (3, .int (nI i))] := hl
  refine lv_iload_n hx hb dX4_countOf_4 rfl (lv_at hl 3 rfl) ?_
  refine lv_aload_n hx hb dX4_countOf_5 rfl (lv_at hl 0 rfl) ?_
  refine gM_0_6 hx hb hts hiX4 hown hK hP hf61 dX4_countOf_6 ?_
  refine zb_ge (tgt := 36) hx hb (by omega) (by omega) dX4_countOf_9 (by decide) (fun c_9 => ?_) (fun c_9 => ?_)
  · refine lv_iload_n hx hb dX4_countOf_36 rfl (lv_at hl 2 rfl) ?_
    exact W.iret (v := nI (tallyN st w i)) hx hb hr (fun t ht hW => ⟨nI (tallyN st w i), rfl, by rw [show n = i by omega], ht⟩) (fun _ h => nomatch h) dX4_countOf_37
  · refine lv_iload_n hx hb dX4_countOf_12 rfl (lv_at hl 2 rfl) ?_
    refine lv_aload_n hx hb dX4_countOf_13 rfl (lv_at hl 0 rfl) ?_
    refine gM_0_9 hx hb hts hiX4 hown hK hP hf22 dX4_countOf_14 ?_
    refine lv_iload_n hx hb dX4_countOf_17 rfl (lv_at hl 3 rfl) ?_
    refine lM_5 hx hb hK hP (by omega) dX4_countOf_18 ?_
    refine lv_iload_n hx hb dX4_countOf_19 rfl (lv_at hl 1 rfl) ?_
    refine lv_icmp_ne (tgt := 27) hx hb dX4_countOf_20 (by decide) (fun c_20 => ?_) (fun c_20 => ?_)
    · refine lv_iconst (v := nI 0) hx hb dX4_countOf_27 (by decide) ?_
      refine lv_iadd hx hb dX4_countOf_28 ?_
      refine zt_i (y := nI ((tallyN st w i) + 0)) (nI_add _ _) ?_
      refine lv_istore_n (lv' := [(2, .int (nI ((tallyN st w i) + 0))), (0, .ref (am 0)), (1, .int w), (3, .int (nI i))]) hx hb dX4_countOf_29 rfl hl (by decide) rfl (fun ls hl => ?_)
      refine lv_iinc (v := nI (i + 1)) (lv' := [(3, .int (nI (i + 1))), (2, .int (nI ((tallyN st w i) + 0))), (0, .ref (am 0)), (1, .int w)]) hx hb dX4_countOf_30 hl (k := 3) rfl (zz_inc _) (by decide) rfl (fun ls hl => ?_)
      refine lv_goto (tgt := 4) hx hb dX4_countOf_33 (by decide) ?_
      have e_2 : nI ((tallyN st w i) + 0) = nI (tallyN st w (i + 1)) := by first | rfl | (simp [tallyN, c_9, c_20]; done)
      rw [e_2] at hl
      exact ih_4 (i + 1) (by omega) (by omega) ls (lv_sub hl [2, 3, 1, 0] rfl)
    · refine lv_iconst (v := nI 1) hx hb dX4_countOf_23 (by decide) ?_
      refine lv_goto (tgt := 28) hx hb dX4_countOf_24 (by decide) ?_
      refine lv_iadd hx hb dX4_countOf_28 ?_
      refine zt_i (y := nI ((tallyN st w i) + 1)) (nI_add _ _) ?_
      refine lv_istore_n (lv' := [(2, .int (nI ((tallyN st w i) + 1))), (0, .ref (am 0)), (1, .int w), (3, .int (nI i))]) hx hb dX4_countOf_29 rfl hl (by decide) rfl (fun ls hl => ?_)
      refine lv_iinc (v := nI (i + 1)) (lv' := [(3, .int (nI (i + 1))), (2, .int (nI ((tallyN st w i) + 1))), (0, .ref (am 0)), (1, .int w)]) hx hb dX4_countOf_30 hl (k := 3) rfl (zz_inc _) (by decide) rfl (fun ls hl => ?_)
      refine lv_goto (tgt := 4) hx hb dX4_countOf_33 (by decide) ?_
      have e_3 : nI ((tallyN st w i) + 1) = nI (tallyN st w (i + 1)) := by first | rfl | (simp [tallyN, c_9, c_20]; done)
      rw [e_3] at hl
      exact ih_4 (i + 1) (by omega) (by omega) ls (lv_sub hl [2, 3, 1, 0] rfl)
section
variable {p : Program} {e : Env} {R : Room} {s : State} {m : MethodId} {args : Array Value} {below : List Frame} {meth : Method} {c : Code} {H : Heap} {locs : List Loc} {cells slots : Nat} {Q : State → Prop} {cc : ByteArray} {pc : Nat} {ls : Array Slot} {rest : List Value} {own : String} {index nL : Nat} {Ts : List Cond} {H0 : Heap} {A0 : Nat → Prop}
theorem k_X4_countOf (l : Launch) {dC : Nat → ClassId} {dI : Nat → Nat → Nat} {cI cZ : ClassId} {am : Nat → Nat} {sm fe ex : Int32} {gp gc : Nat → Int32} {dy : Int32} {n : Nat} {pe gr st dl wo : Nat → Int32} {q : Nat} {yc ya yd ys tp fu sh ro : Nat → Int32} {th : Int32} {w : Int32} (hn : n ≤ 24) (hx : p.tables.exec = Jvm.exec) (hb : c.code = cc) (hml : c.maxLocals = nL) (hown : s.vm.findClass own = some m.cls) (hts : ∀ w ∈ Ts, w.before args s = true) (hK : va_K (dC, dI) vwCl [(cI, .int), (cZ, .boolean)] s) (hP : va_P (dC, dI) vwCl (wM cI cZ am sm fe ex gp gc dy n pe gr st dl wo q yc ya yd ys tp fu sh ro th) H) (hg9 : GoodIn Ts (wsV own index RX4 yX4_countOf wsX4_countOf)) (hR9 : 0 + 1 ≤ R.frames ∧ 8 + (4 + 11) + 0 ≤ R.locals) (hc9 : cells ≤ R.cells ∧ slots ≤ R.slots) (hl9 : ls.size = nL) (hw9 : (rest.map fun v => v.category).sum ≤ 8) (hdg : decode cc pc = .ok (.invokevirtual index, 3)) (kk : W p l e R s m args below meth c H locs cells slots Q (F0 m (pc + 3) ls (.int (nI (tallyN st w n)) :: rest))) : W p l e R s m args below meth c H locs cells slots Q (F0 m pc ls (.int w :: .ref (am 0) :: rest)) := zc_ro (W.runV (As := [.int w]) (rest := rest) ⟨hx, hb, hml, hown, hts⟩ (c_X4_countOf (dC := dC) (dI := dI) (cI := cI) (cZ := cZ) (am := am) (sm := sm) (fe := fe) (ex := ex) (gp := gp) (gc := gc) (dy := dy) (n := n) (pe := pe) (gr := gr) (st := st) (dl := dl) (wo := wo) (q := q) (yc := yc) (ya := ya) (yd := yd) (ys := ys) (tp := tp) (fu := fu) (sh := sh) (ro := ro) (th := th) (w := w) l hn) (cwV 1 hts hg9 rfl rfl rfl (by decide +kernel) hR9) ⟨fun a U g mk q => ⟨q.1, q.2.1, va_K.moved (u := U) (U := U.calling g mk a) (Vm.Alike.refl U.vm) q.2.2⟩, rM_0 hK hP, fun U hU hW => ⟨rfl, by rw [hU]; exact hP, va_K.moved hW.alike hK⟩⟩ rfl rfl hl9 rfl (lv_room hw9) hdg hc9) (fun r h => by subst h; exact kk)
end
set_option maxHeartbeats 4000000 in
set_option maxRecDepth 100000 in
theorem c_X4_cure_no (l : Launch) {dC : Nat → ClassId} {dI : Nat → Nat → Nat} {cI cZ : ClassId} {am : Nat → Nat} {sm fe ex : Int32} {gp gc : Nat → Int32} {dy : Int32} {n : Nat} {pe gr st dl wo : Nat → Int32} {q : Nat} {yc ya yd ys tp fu sh ro : Nat → Int32} {th : Int32} {x : Int32} (hI : iwM am) (hn : n ≤ 24) (hk : ¬ vp_in x n) : Met l yX4_cure wsX4_cure { frames := 2, cells := 0, slots := 0, locals := 43 } (va_Pc [.ref (am 0), .int x] (fun U => va_P (dC, dI) vwCl (wM cI cZ am sm fe ex gp gc dy n pe gr st dl wo q yc ya yd ys tp fu sh ro th) U.heap ∧ va_K (dC, dI) vwCl [(cI, .int), (cZ, .boolean)] U)) (va_Qi (fun r (_ : Unit) => r = nI 0) (fun _ t => va_P (dC, dI) vwCl (wM cI cZ am sm fe ex gp gc dy n pe gr st dl wo q yc ya yd ys tp fu sh ro (nI 1)) t.heap) (awM am)) 0 0 (awM am) := by
  refine Met.ofW (cc := cX4_cure) (maxL := 2) (ret := (some .int)) (by decide) rfl ?_
  intro p e s m args below meth c s₁ B hml hv
  obtain ⟨rfl, hP, hK⟩ := hv
  have hx := B.exec
  have hb := B.bytes
  have hr := B.returns
  have hts := atoms_spec (ws := wsX4_cure) B.pre
  have hown : s.vm.findClass RX4 = some m.cls := findClass_of_methodNamed B.named
  have hlocks := B.notSynchronized
  have hS : va_S (awM am) s.heap s.heap [] := va_S.rf
  have hl := lv_entry ([.ref (am 0), .int x]) (n := 2) (Nat.le_of_ble_eq_true rfl)
  rw [lg_entry_eq]
  generalize (lg_sl ([.ref (am 0), .int x]) ++ List.replicate (2 - (lg_sl ([.ref (am 0), .int x])).length) Slot.unset).toArray = ls at hl ⊢
  have hl : lv_has ls 2 [(0, .ref (am 0)), (1, .int x)] := hl
  refine lv_aload_n hx hb dX4_cure_0 rfl (lv_at hl 0 rfl) ?_
  refine lv_aload_n hx hb dX4_cure_1 rfl (lv_at hl 0 rfl) ?_
  refine lv_iload_n hx hb dX4_cure_2 rfl (lv_at hl 1 rfl) ?_
  refine k_X4_isClaim_no l (x := x) (hn := hn) (hk := hk) hx hb hml hown hts hK hP gX4_cure_X4_isClaim ⟨Nat.le_of_ble_eq_true rfl, Nat.le_of_ble_eq_true rfl⟩ ⟨Nat.le_of_ble_eq_true rfl, Nat.le_of_ble_eq_true rfl⟩ hl.1 (Nat.le_of_ble_eq_true rfl) dX4_cure_3 ?_
  refine zi_ne (tgt := 13) hx hb (by decide) dX4_cure_6 (by decide) (fun c_6 => (show False by omega).elim) (fun c_6 => ?_)
  refine lv_iconst (v := nI 1) hx hb dX4_cure_9 (by decide) ?_
  refine lv_goto (tgt := 28) hx hb dX4_cure_10 (by decide) ?_
  refine k_X4_goes_k l (k := 1) (hk := by decide) (h2 := by decide) hx hb hml hown hts hK hP gX4_cure_X4_goes ⟨Nat.le_of_ble_eq_true rfl, Nat.le_of_ble_eq_true rfl⟩ ⟨Nat.le_of_ble_eq_true rfl, Nat.le_of_ble_eq_true rfl⟩ hl.1 (Nat.le_of_ble_eq_true rfl) dX4_cure_28 hI (fun _ h => h) hS (fun H locs hP hS _ => ?_)
  refine zi_ne (tgt := 36) hx hb (by decide) dX4_cure_31 (by decide) (fun c_31 => (show False by omega).elim) (fun c_31 => ?_)
  refine lv_iconst (v := nI 0) hx hb dX4_cure_34 (by decide) ?_
  exact W.iret (v := nI 0) hx hb hr (fun t ht hW => ⟨⟨nI 0, (), rfl, rfl, by (try dsimp only); rw [ht]; exact hP⟩, hS.F ht⟩) hS.2.2 dX4_cure_35
section
variable {p : Program} {e : Env} {R : Room} {s : State} {m : MethodId} {args : Array Value} {below : List Frame} {meth : Method} {c : Code} {H : Heap} {locs : List Loc} {cells slots : Nat} {Q : State → Prop} {cc : ByteArray} {pc : Nat} {ls : Array Slot} {rest : List Value} {own : String} {index nL : Nat} {Ts : List Cond} {H0 : Heap} {A0 : Nat → Prop}
theorem k_X4_cure_no (l : Launch) {dC : Nat → ClassId} {dI : Nat → Nat → Nat} {cI cZ : ClassId} {am : Nat → Nat} {sm fe ex : Int32} {gp gc : Nat → Int32} {dy : Int32} {n : Nat} {pe gr st dl wo : Nat → Int32} {q : Nat} {yc ya yd ys tp fu sh ro : Nat → Int32} {th : Int32} {x : Int32} (hn : n ≤ 24) (hk : ¬ vp_in x n) (hx : p.tables.exec = Jvm.exec) (hb : c.code = cc) (hml : c.maxLocals = nL) (hown : s.vm.findClass own = some m.cls) (hts : ∀ w ∈ Ts, w.before args s = true) (hK : va_K (dC, dI) vwCl [(cI, .int), (cZ, .boolean)] s) (hP : va_P (dC, dI) vwCl (wM cI cZ am sm fe ex gp gc dy n pe gr st dl wo q yc ya yd ys tp fu sh ro th) H) (hg9 : GoodIn Ts (wsV own index RX4 yX4_cure wsX4_cure)) (hR9 : 2 + 1 ≤ R.frames ∧ 8 + (2 + 11) + 43 ≤ R.locals) (hc9 : cells ≤ R.cells ∧ slots ≤ R.slots) (hl9 : ls.size = nL) (hw9 : (rest.map fun v => v.category).sum ≤ 8) (hdg : decode cc pc = .ok (.invokevirtual index, 3)) (hI : iwM am) (hA : ∀ x, awM am x → A0 x) (hS : va_S A0 H0 H locs) (kk : ∀ (H1 : Heap) (locs1 : List Loc), va_P (dC, dI) vwCl (wM cI cZ am sm fe ex gp gc dy n pe gr st dl wo q yc ya yd ys tp fu sh ro (nI 1)) H1 → va_S A0 H0 H1 locs1 → (∀ q : Nat, q < H.size → ¬ awM am q → H1[q]? = H[q]?) → W p l e R s m args below meth c H1 locs1 cells slots Q (F0 m (pc + 3) ls (.int (nI 0) :: rest))) : W p l e R s m args below meth c H locs cells slots Q (F0 m pc ls (.int x :: .ref (am 0) :: rest)) := va_calli (va_runV (As := [.int x]) (rest := rest) ⟨hx, hb, hml, hown, hts⟩ (c_X4_cure_no (dC := dC) (dI := dI) (cI := cI) (cZ := cZ) (am := am) (sm := sm) (fe := fe) (ex := ex) (gp := gp) (gc := gc) (dy := dy) (n := n) (pe := pe) (gr := gr) (st := st) (dl := dl) (wo := wo) (q := q) (yc := yc) (ya := ya) (yd := yd) (ys := ys) (tp := tp) (fu := fu) (sh := sh) (ro := ro) (th := th) (x := x) l hI hn hk) (cwV 1 hts hg9 rfl rfl rfl (by decide +kernel) hR9) ⟨fun a U g mk q => ⟨q.1, q.2.1, va_K.moved (u := U) (U := U.calling g mk a) (Vm.Alike.refl U.vm) q.2.2⟩, rM_0 hK hP, fun U hU hW => ⟨rfl, by rw [hU]; exact hP, va_K.moved hW.alike hK⟩⟩ rfl rfl hl9 rfl (lv_room hw9) hdg hc9) hS (fun q _ h => hA q h) hA (fun r u t H1 locs1 ht _ hu hB hz hk hS1 => by subst hu; exact kk H1 locs1 (by rw [ht] at hB; exact hB) hS1 hk)
end
set_option maxHeartbeats 4000000 in
set_option maxRecDepth 100000 in
theorem c_X4_deny_no (l : Launch) {dC : Nat → ClassId} {dI : Nat → Nat → Nat} {cI cZ : ClassId} {am : Nat → Nat} {sm fe ex : Int32} {gp gc : Nat → Int32} {dy : Int32} {n : Nat} {pe gr st dl wo : Nat → Int32} {q : Nat} {yc ya yd ys tp fu sh ro : Nat → Int32} {th : Int32} {x : Int32} (hI : iwM am) (hn : n ≤ 24) (hk : ¬ vp_in x n) : Met l yX4_deny wsX4_deny { frames := 2, cells := 0, slots := 0, locals := 43 } (va_Pc [.ref (am 0), .int x] (fun U => va_P (dC, dI) vwCl (wM cI cZ am sm fe ex gp gc dy n pe gr st dl wo q yc ya yd ys tp fu sh ro th) U.heap ∧ va_K (dC, dI) vwCl [(cI, .int), (cZ, .boolean)] U)) (va_Qi (fun r (_ : Unit) => r = nI 0) (fun _ t => va_P (dC, dI) vwCl (wM cI cZ am sm fe ex gp gc dy n pe gr st dl wo q yc ya yd ys tp fu sh ro (nI 1)) t.heap) (awM am)) 0 0 (awM am) := by
  refine Met.ofW (cc := cX4_deny) (maxL := 3) (ret := (some .int)) (by decide) rfl ?_
  intro p e s m args below meth c s₁ B hml hv
  obtain ⟨rfl, hP, hK⟩ := hv
  have hx := B.exec
  have hb := B.bytes
  have hr := B.returns
  have hts := atoms_spec (ws := wsX4_deny) B.pre
  have hown : s.vm.findClass RX4 = some m.cls := findClass_of_methodNamed B.named
  have hlocks := B.notSynchronized
  have hS : va_S (awM am) s.heap s.heap [] := va_S.rf
  have hl := lv_entry ([.ref (am 0), .int x]) (n := 3) (Nat.le_of_ble_eq_true rfl)
  rw [lg_entry_eq]
  generalize (lg_sl ([.ref (am 0), .int x]) ++ List.replicate (3 - (lg_sl ([.ref (am 0), .int x])).length) Slot.unset).toArray = ls at hl ⊢
  have hl : lv_has ls 3 [(0, .ref (am 0)), (1, .int x)] := hl
  refine lv_aload_n hx hb dX4_deny_0 rfl (lv_at hl 0 rfl) ?_
  refine lv_aload_n hx hb dX4_deny_1 rfl (lv_at hl 0 rfl) ?_
  refine lv_iload_n hx hb dX4_deny_2 rfl (lv_at hl 1 rfl) ?_
  refine k_X4_isClaim_no l (x := x) (hn := hn) (hk := hk) hx hb hml hown hts hK hP gX4_deny_X4_isClaim ⟨Nat.le_of_ble_eq_true rfl, Nat.le_of_ble_eq_true rfl⟩ ⟨Nat.le_of_ble_eq_true rfl, Nat.le_of_ble_eq_true rfl⟩ hl.1 (Nat.le_of_ble_eq_true rfl) dX4_deny_3 ?_
  refine zi_ne (tgt := 13) hx hb (by decide) dX4_deny_6 (by decide) (fun c_6 => (show False by omega).elim) (fun c_6 => ?_)
  refine lv_iconst (v := nI 1) hx hb dX4_deny_9 (by decide) ?_
  refine lv_goto (tgt := 37) hx hb dX4_deny_10 (by decide) ?_
  refine k_X4_goes_k l (k := 1) (hk := by decide) (h2 := by decide) hx hb hml hown hts hK hP gX4_deny_X4_goes ⟨Nat.le_of_ble_eq_true rfl, Nat.le_of_ble_eq_true rfl⟩ ⟨Nat.le_of_ble_eq_true rfl, Nat.le_of_ble_eq_true rfl⟩ hl.1 (Nat.le_of_ble_eq_true rfl) dX4_deny_37 hI (fun _ h => h) hS (fun H locs hP hS _ => ?_)
  refine zi_ne (tgt := 45) hx hb (by decide) dX4_deny_40 (by decide) (fun c_40 => (show False by omega).elim) (fun c_40 => ?_)
  refine lv_iconst (v := nI 0) hx hb dX4_deny_43 (by decide) ?_
  exact W.iret (v := nI 0) hx hb hr (fun t ht hW => ⟨⟨nI 0, (), rfl, rfl, by (try dsimp only); rw [ht]; exact hP⟩, hS.F ht⟩) hS.2.2 dX4_deny_44
section
variable {p : Program} {e : Env} {R : Room} {s : State} {m : MethodId} {args : Array Value} {below : List Frame} {meth : Method} {c : Code} {H : Heap} {locs : List Loc} {cells slots : Nat} {Q : State → Prop} {cc : ByteArray} {pc : Nat} {ls : Array Slot} {rest : List Value} {own : String} {index nL : Nat} {Ts : List Cond} {H0 : Heap} {A0 : Nat → Prop}
theorem k_X4_deny_no (l : Launch) {dC : Nat → ClassId} {dI : Nat → Nat → Nat} {cI cZ : ClassId} {am : Nat → Nat} {sm fe ex : Int32} {gp gc : Nat → Int32} {dy : Int32} {n : Nat} {pe gr st dl wo : Nat → Int32} {q : Nat} {yc ya yd ys tp fu sh ro : Nat → Int32} {th : Int32} {x : Int32} (hn : n ≤ 24) (hk : ¬ vp_in x n) (hx : p.tables.exec = Jvm.exec) (hb : c.code = cc) (hml : c.maxLocals = nL) (hown : s.vm.findClass own = some m.cls) (hts : ∀ w ∈ Ts, w.before args s = true) (hK : va_K (dC, dI) vwCl [(cI, .int), (cZ, .boolean)] s) (hP : va_P (dC, dI) vwCl (wM cI cZ am sm fe ex gp gc dy n pe gr st dl wo q yc ya yd ys tp fu sh ro th) H) (hg9 : GoodIn Ts (wsV own index RX4 yX4_deny wsX4_deny)) (hR9 : 2 + 1 ≤ R.frames ∧ 8 + (3 + 11) + 43 ≤ R.locals) (hc9 : cells ≤ R.cells ∧ slots ≤ R.slots) (hl9 : ls.size = nL) (hw9 : (rest.map fun v => v.category).sum ≤ 8) (hdg : decode cc pc = .ok (.invokevirtual index, 3)) (hI : iwM am) (hA : ∀ x, awM am x → A0 x) (hS : va_S A0 H0 H locs) (kk : ∀ (H1 : Heap) (locs1 : List Loc), va_P (dC, dI) vwCl (wM cI cZ am sm fe ex gp gc dy n pe gr st dl wo q yc ya yd ys tp fu sh ro (nI 1)) H1 → va_S A0 H0 H1 locs1 → (∀ q : Nat, q < H.size → ¬ awM am q → H1[q]? = H[q]?) → W p l e R s m args below meth c H1 locs1 cells slots Q (F0 m (pc + 3) ls (.int (nI 0) :: rest))) : W p l e R s m args below meth c H locs cells slots Q (F0 m pc ls (.int x :: .ref (am 0) :: rest)) := va_calli (va_runV (As := [.int x]) (rest := rest) ⟨hx, hb, hml, hown, hts⟩ (c_X4_deny_no (dC := dC) (dI := dI) (cI := cI) (cZ := cZ) (am := am) (sm := sm) (fe := fe) (ex := ex) (gp := gp) (gc := gc) (dy := dy) (n := n) (pe := pe) (gr := gr) (st := st) (dl := dl) (wo := wo) (q := q) (yc := yc) (ya := ya) (yd := yd) (ys := ys) (tp := tp) (fu := fu) (sh := sh) (ro := ro) (th := th) (x := x) l hI hn hk) (cwV 1 hts hg9 rfl rfl rfl (by decide +kernel) hR9) ⟨fun a U g mk q => ⟨q.1, q.2.1, va_K.moved (u := U) (U := U.calling g mk a) (Vm.Alike.refl U.vm) q.2.2⟩, rM_0 hK hP, fun U hU hW => ⟨rfl, by rw [hU]; exact hP, va_K.moved hW.alike hK⟩⟩ rfl rfl hl9 rfl (lv_room hw9) hdg hc9) hS (fun q _ h => hA q h) hA (fun r u t H1 locs1 ht _ hu hB hz hk hS1 => by subst hu; exact kk H1 locs1 (by rw [ht] at hB; exact hB) hS1 hk)
end
set_option maxHeartbeats 4000000 in
set_option maxRecDepth 100000 in
theorem c_X4_object_no (l : Launch) {dC : Nat → ClassId} {dI : Nat → Nat → Nat} {cI cZ : ClassId} {am : Nat → Nat} {sm fe ex : Int32} {gp gc : Nat → Int32} {dy : Int32} {n : Nat} {pe gr st dl wo : Nat → Int32} {q : Nat} {yc ya yd ys tp fu sh ro : Nat → Int32} {th : Int32} {x : Int32} (hI : iwM am) (hn : n ≤ 24) (hk : ¬ vp_in x n) : Met l yX4_object wsX4_object { frames := 2, cells := 0, slots := 0, locals := 43 } (va_Pc [.ref (am 0), .int x] (fun U => va_P (dC, dI) vwCl (wM cI cZ am sm fe ex gp gc dy n pe gr st dl wo q yc ya yd ys tp fu sh ro th) U.heap ∧ va_K (dC, dI) vwCl [(cI, .int), (cZ, .boolean)] U)) (va_Qi (fun r (_ : Unit) => r = nI 0) (fun _ t => va_P (dC, dI) vwCl (wM cI cZ am sm fe ex gp gc dy n pe gr st dl wo q yc ya yd ys tp fu sh ro (nI 1)) t.heap) (awM am)) 0 0 (awM am) := by
  refine Met.ofW (cc := cX4_object) (maxL := 2) (ret := (some .int)) (by decide) rfl ?_
  intro p e s m args below meth c s₁ B hml hv
  obtain ⟨rfl, hP, hK⟩ := hv
  have hx := B.exec
  have hb := B.bytes
  have hr := B.returns
  have hts := atoms_spec (ws := wsX4_object) B.pre
  have hown : s.vm.findClass RX4 = some m.cls := findClass_of_methodNamed B.named
  have hlocks := B.notSynchronized
  have hS : va_S (awM am) s.heap s.heap [] := va_S.rf
  have hl := lv_entry ([.ref (am 0), .int x]) (n := 2) (Nat.le_of_ble_eq_true rfl)
  rw [lg_entry_eq]
  generalize (lg_sl ([.ref (am 0), .int x]) ++ List.replicate (2 - (lg_sl ([.ref (am 0), .int x])).length) Slot.unset).toArray = ls at hl ⊢
  have hl : lv_has ls 2 [(0, .ref (am 0)), (1, .int x)] := hl
  refine lv_aload_n hx hb dX4_object_0 rfl (lv_at hl 0 rfl) ?_
  refine lv_aload_n hx hb dX4_object_1 rfl (lv_at hl 0 rfl) ?_
  refine lv_iload_n hx hb dX4_object_2 rfl (lv_at hl 1 rfl) ?_
  refine k_X4_isClaim_no l (x := x) (hn := hn) (hk := hk) hx hb hml hown hts hK hP gX4_object_X4_isClaim ⟨Nat.le_of_ble_eq_true rfl, Nat.le_of_ble_eq_true rfl⟩ ⟨Nat.le_of_ble_eq_true rfl, Nat.le_of_ble_eq_true rfl⟩ hl.1 (Nat.le_of_ble_eq_true rfl) dX4_object_3 ?_
  refine zi_ne (tgt := 13) hx hb (by decide) dX4_object_6 (by decide) (fun c_6 => (show False by omega).elim) (fun c_6 => ?_)
  refine lv_iconst (v := nI 1) hx hb dX4_object_9 (by decide) ?_
  refine lv_goto (tgt := 37) hx hb dX4_object_10 (by decide) ?_
  refine k_X4_goes_k l (k := 1) (hk := by decide) (h2 := by decide) hx hb hml hown hts hK hP gX4_object_X4_goes ⟨Nat.le_of_ble_eq_true rfl, Nat.le_of_ble_eq_true rfl⟩ ⟨Nat.le_of_ble_eq_true rfl, Nat.le_of_ble_eq_true rfl⟩ hl.1 (Nat.le_of_ble_eq_true rfl) dX4_object_37 hI (fun _ h => h) hS (fun H locs hP hS _ => ?_)
  refine zi_ne (tgt := 45) hx hb (by decide) dX4_object_40 (by decide) (fun c_40 => (show False by omega).elim) (fun c_40 => ?_)
  refine lv_iconst (v := nI 0) hx hb dX4_object_43 (by decide) ?_
  exact W.iret (v := nI 0) hx hb hr (fun t ht hW => ⟨⟨nI 0, (), rfl, rfl, by (try dsimp only); rw [ht]; exact hP⟩, hS.F ht⟩) hS.2.2 dX4_object_44
section
variable {p : Program} {e : Env} {R : Room} {s : State} {m : MethodId} {args : Array Value} {below : List Frame} {meth : Method} {c : Code} {H : Heap} {locs : List Loc} {cells slots : Nat} {Q : State → Prop} {cc : ByteArray} {pc : Nat} {ls : Array Slot} {rest : List Value} {own : String} {index nL : Nat} {Ts : List Cond} {H0 : Heap} {A0 : Nat → Prop}
theorem k_X4_object_no (l : Launch) {dC : Nat → ClassId} {dI : Nat → Nat → Nat} {cI cZ : ClassId} {am : Nat → Nat} {sm fe ex : Int32} {gp gc : Nat → Int32} {dy : Int32} {n : Nat} {pe gr st dl wo : Nat → Int32} {q : Nat} {yc ya yd ys tp fu sh ro : Nat → Int32} {th : Int32} {x : Int32} (hn : n ≤ 24) (hk : ¬ vp_in x n) (hx : p.tables.exec = Jvm.exec) (hb : c.code = cc) (hml : c.maxLocals = nL) (hown : s.vm.findClass own = some m.cls) (hts : ∀ w ∈ Ts, w.before args s = true) (hK : va_K (dC, dI) vwCl [(cI, .int), (cZ, .boolean)] s) (hP : va_P (dC, dI) vwCl (wM cI cZ am sm fe ex gp gc dy n pe gr st dl wo q yc ya yd ys tp fu sh ro th) H) (hg9 : GoodIn Ts (wsV own index RX4 yX4_object wsX4_object)) (hR9 : 2 + 1 ≤ R.frames ∧ 8 + (2 + 11) + 43 ≤ R.locals) (hc9 : cells ≤ R.cells ∧ slots ≤ R.slots) (hl9 : ls.size = nL) (hw9 : (rest.map fun v => v.category).sum ≤ 8) (hdg : decode cc pc = .ok (.invokevirtual index, 3)) (hI : iwM am) (hA : ∀ x, awM am x → A0 x) (hS : va_S A0 H0 H locs) (kk : ∀ (H1 : Heap) (locs1 : List Loc), va_P (dC, dI) vwCl (wM cI cZ am sm fe ex gp gc dy n pe gr st dl wo q yc ya yd ys tp fu sh ro (nI 1)) H1 → va_S A0 H0 H1 locs1 → (∀ q : Nat, q < H.size → ¬ awM am q → H1[q]? = H[q]?) → W p l e R s m args below meth c H1 locs1 cells slots Q (F0 m (pc + 3) ls (.int (nI 0) :: rest))) : W p l e R s m args below meth c H locs cells slots Q (F0 m pc ls (.int x :: .ref (am 0) :: rest)) := va_calli (va_runV (As := [.int x]) (rest := rest) ⟨hx, hb, hml, hown, hts⟩ (c_X4_object_no (dC := dC) (dI := dI) (cI := cI) (cZ := cZ) (am := am) (sm := sm) (fe := fe) (ex := ex) (gp := gp) (gc := gc) (dy := dy) (n := n) (pe := pe) (gr := gr) (st := st) (dl := dl) (wo := wo) (q := q) (yc := yc) (ya := ya) (yd := yd) (ys := ys) (tp := tp) (fu := fu) (sh := sh) (ro := ro) (th := th) (x := x) l hI hn hk) (cwV 1 hts hg9 rfl rfl rfl (by decide +kernel) hR9) ⟨fun a U g mk q => ⟨q.1, q.2.1, va_K.moved (u := U) (U := U.calling g mk a) (Vm.Alike.refl U.vm) q.2.2⟩, rM_0 hK hP, fun U hU hW => ⟨rfl, by rw [hU]; exact hP, va_K.moved hW.alike hK⟩⟩ rfl rfl hl9 rfl (lv_room hw9) hdg hc9) hS (fun q _ h => hA q h) hA (fun r u t H1 locs1 ht _ hu hB hz hk hS1 => by subst hu; exact kk H1 locs1 (by rw [ht] at hB; exact hB) hS1 hk)
end
set_option maxHeartbeats 4000000 in
set_option maxRecDepth 100000 in
theorem c_X4_decide_no (l : Launch) {dC : Nat → ClassId} {dI : Nat → Nat → Nat} {cI cZ : ClassId} {am : Nat → Nat} {sm fe ex : Int32} {gp gc : Nat → Int32} {dy : Int32} {n : Nat} {pe gr st dl wo : Nat → Int32} {q : Nat} {yc ya yd ys tp fu sh ro : Nat → Int32} {th : Int32} {x : Int32} {b1 : Int32} (hI : iwM am) (hn : n ≤ 24) (hk : ¬ vp_in x n) : Met l yX4_decide wsX4_decide { frames := 2, cells := 0, slots := 0, locals := 43 } (va_Pc [.ref (am 0), .int x, .int b1] (fun U => va_P (dC, dI) vwCl (wM cI cZ am sm fe ex gp gc dy n pe gr st dl wo q yc ya yd ys tp fu sh ro th) U.heap ∧ va_K (dC, dI) vwCl [(cI, .int), (cZ, .boolean)] U)) (va_Qi (fun r (_ : Unit) => r = nI 0) (fun _ t => va_P (dC, dI) vwCl (wM cI cZ am sm fe ex gp gc dy n pe gr st dl wo q yc ya yd ys tp fu sh ro (nI 1)) t.heap) (awM am)) 0 0 (awM am) := by
  refine Met.ofW (cc := cX4_decide) (maxL := 3) (ret := (some .int)) (by decide) rfl ?_
  intro p e s m args below meth c s₁ B hml hv
  obtain ⟨rfl, hP, hK⟩ := hv
  have hx := B.exec
  have hb := B.bytes
  have hr := B.returns
  have hts := atoms_spec (ws := wsX4_decide) B.pre
  have hown : s.vm.findClass RX4 = some m.cls := findClass_of_methodNamed B.named
  have hlocks := B.notSynchronized
  have hS : va_S (awM am) s.heap s.heap [] := va_S.rf
  have hl := lv_entry ([.ref (am 0), .int x, .int b1]) (n := 3) (Nat.le_of_ble_eq_true rfl)
  rw [lg_entry_eq]
  generalize (lg_sl ([.ref (am 0), .int x, .int b1]) ++ List.replicate (3 - (lg_sl ([.ref (am 0), .int x, .int b1])).length) Slot.unset).toArray = ls at hl ⊢
  have hl : lv_has ls 3 [(0, .ref (am 0)), (1, .int x), (2, .int b1)] := hl
  refine lv_aload_n hx hb dX4_decide_0 rfl (lv_at hl 0 rfl) ?_
  refine lv_aload_n hx hb dX4_decide_1 rfl (lv_at hl 0 rfl) ?_
  refine lv_iload_n hx hb dX4_decide_2 rfl (lv_at hl 1 rfl) ?_
  refine k_X4_isClaim_no l (x := x) (hn := hn) (hk := hk) hx hb hml hown hts hK hP gX4_decide_X4_isClaim ⟨Nat.le_of_ble_eq_true rfl, Nat.le_of_ble_eq_true rfl⟩ ⟨Nat.le_of_ble_eq_true rfl, Nat.le_of_ble_eq_true rfl⟩ hl.1 (Nat.le_of_ble_eq_true rfl) dX4_decide_3 ?_
  refine zi_ne (tgt := 13) hx hb (by decide) dX4_decide_6 (by decide) (fun c_6 => (show False by omega).elim) (fun c_6 => ?_)
  refine lv_iconst (v := nI 1) hx hb dX4_decide_9 (by decide) ?_
  refine lv_goto (tgt := 28) hx hb dX4_decide_10 (by decide) ?_
  refine k_X4_goes_k l (k := 1) (hk := by decide) (h2 := by decide) hx hb hml hown hts hK hP gX4_decide_X4_goes ⟨Nat.le_of_ble_eq_true rfl, Nat.le_of_ble_eq_true rfl⟩ ⟨Nat.le_of_ble_eq_true rfl, Nat.le_of_ble_eq_true rfl⟩ hl.1 (Nat.le_of_ble_eq_true rfl) dX4_decide_28 hI (fun _ h => h) hS (fun H locs hP hS _ => ?_)
  refine zi_ne (tgt := 36) hx hb (by decide) dX4_decide_31 (by decide) (fun c_31 => (show False by omega).elim) (fun c_31 => ?_)
  refine lv_iconst (v := nI 0) hx hb dX4_decide_34 (by decide) ?_
  exact W.iret (v := nI 0) hx hb hr (fun t ht hW => ⟨⟨nI 0, (), rfl, rfl, by (try dsimp only); rw [ht]; exact hP⟩, hS.F ht⟩) hS.2.2 dX4_decide_35
section
variable {p : Program} {e : Env} {R : Room} {s : State} {m : MethodId} {args : Array Value} {below : List Frame} {meth : Method} {c : Code} {H : Heap} {locs : List Loc} {cells slots : Nat} {Q : State → Prop} {cc : ByteArray} {pc : Nat} {ls : Array Slot} {rest : List Value} {own : String} {index nL : Nat} {Ts : List Cond} {H0 : Heap} {A0 : Nat → Prop}
theorem k_X4_decide_no (l : Launch) {dC : Nat → ClassId} {dI : Nat → Nat → Nat} {cI cZ : ClassId} {am : Nat → Nat} {sm fe ex : Int32} {gp gc : Nat → Int32} {dy : Int32} {n : Nat} {pe gr st dl wo : Nat → Int32} {q : Nat} {yc ya yd ys tp fu sh ro : Nat → Int32} {th : Int32} {x : Int32} {b1 : Int32} (hn : n ≤ 24) (hk : ¬ vp_in x n) (hx : p.tables.exec = Jvm.exec) (hb : c.code = cc) (hml : c.maxLocals = nL) (hown : s.vm.findClass own = some m.cls) (hts : ∀ w ∈ Ts, w.before args s = true) (hK : va_K (dC, dI) vwCl [(cI, .int), (cZ, .boolean)] s) (hP : va_P (dC, dI) vwCl (wM cI cZ am sm fe ex gp gc dy n pe gr st dl wo q yc ya yd ys tp fu sh ro th) H) (hg9 : GoodIn Ts (wsV own index RX4 yX4_decide wsX4_decide)) (hR9 : 2 + 1 ≤ R.frames ∧ 8 + (3 + 11) + 43 ≤ R.locals) (hc9 : cells ≤ R.cells ∧ slots ≤ R.slots) (hl9 : ls.size = nL) (hw9 : (rest.map fun v => v.category).sum ≤ 8) (hdg : decode cc pc = .ok (.invokevirtual index, 3)) (hI : iwM am) (hA : ∀ x, awM am x → A0 x) (hS : va_S A0 H0 H locs) (kk : ∀ (H1 : Heap) (locs1 : List Loc), va_P (dC, dI) vwCl (wM cI cZ am sm fe ex gp gc dy n pe gr st dl wo q yc ya yd ys tp fu sh ro (nI 1)) H1 → va_S A0 H0 H1 locs1 → (∀ q : Nat, q < H.size → ¬ awM am q → H1[q]? = H[q]?) → W p l e R s m args below meth c H1 locs1 cells slots Q (F0 m (pc + 3) ls (.int (nI 0) :: rest))) : W p l e R s m args below meth c H locs cells slots Q (F0 m pc ls (.int b1 :: .int x :: .ref (am 0) :: rest)) := va_calli (va_runV (As := [.int x, .int b1]) (rest := rest) ⟨hx, hb, hml, hown, hts⟩ (c_X4_decide_no (dC := dC) (dI := dI) (cI := cI) (cZ := cZ) (am := am) (sm := sm) (fe := fe) (ex := ex) (gp := gp) (gc := gc) (dy := dy) (n := n) (pe := pe) (gr := gr) (st := st) (dl := dl) (wo := wo) (q := q) (yc := yc) (ya := ya) (yd := yd) (ys := ys) (tp := tp) (fu := fu) (sh := sh) (ro := ro) (th := th) (x := x) (b1 := b1) l hI hn hk) (cwV 2 hts hg9 rfl rfl rfl (by decide +kernel) hR9) ⟨fun a U g mk q => ⟨q.1, q.2.1, va_K.moved (u := U) (U := U.calling g mk a) (Vm.Alike.refl U.vm) q.2.2⟩, rM_0 hK hP, fun U hU hW => ⟨rfl, by rw [hU]; exact hP, va_K.moved hW.alike hK⟩⟩ rfl rfl hl9 rfl (lv_room hw9) hdg hc9) hS (fun q _ h => hA q h) hA (fun r u t H1 locs1 ht _ hu hB hz hk hS1 => by subst hu; exact kk H1 locs1 (by rw [ht] at hB; exact hB) hS1 hk)
end
set_option maxHeartbeats 4000000 in
set_option maxRecDepth 100000 in
theorem c_X4_cure_ok (l : Launch) {dC : Nat → ClassId} {dI : Nat → Nat → Nat} {cI cZ : ClassId} {am : Nat → Nat} {sm fe ex : Int32} {gp gc : Nat → Int32} {dy : Int32} {n : Nat} {pe gr st dl wo : Nat → Int32} {q : Nat} {yc ya yd ys tp fu sh ro : Nat → Int32} {th : Int32} {k : Nat} (hI : iwM am) (hn : n ≤ 24) (hk : k < n) (h1 : st k = nI 1) : Met l yX4_cure wsX4_cure { frames := 2, cells := 0, slots := 0, locals := 43 } (va_Pc [.ref (am 0), .int (nI k)] (fun U => va_P (dC, dI) vwCl (wM cI cZ am sm fe ex gp gc dy n pe gr st dl wo q yc ya yd ys tp fu sh ro th) U.heap ∧ va_K (dC, dI) vwCl [(cI, .int), (cZ, .boolean)] U)) (va_Qi (fun r (_ : Unit) => r = dl k - dy) (fun _ t => va_P (dC, dI) vwCl (wM cI cZ am sm fe ex gp gc dy n pe gr (upd st k (nI 0)) dl wo q yc ya yd ys tp fu sh ro (nI 0)) t.heap) (awM am)) 0 0 (awM am) := by
  refine Met.ofW (cc := cX4_cure) (maxL := 2) (ret := (some .int)) (by decide) rfl ?_
  intro p e s m args below meth c s₁ B hml hv
  obtain ⟨rfl, hP, hK⟩ := hv
  have hx := B.exec
  have hb := B.bytes
  have hr := B.returns
  have hts := atoms_spec (ws := wsX4_cure) B.pre
  have hown : s.vm.findClass RX4 = some m.cls := findClass_of_methodNamed B.named
  have hlocks := B.notSynchronized
  have hS : va_S (awM am) s.heap s.heap [] := va_S.rf
  have hl := lv_entry ([.ref (am 0), .int (nI k)]) (n := 2) (Nat.le_of_ble_eq_true rfl)
  rw [lg_entry_eq]
  generalize (lg_sl ([.ref (am 0), .int (nI k)]) ++ List.replicate (2 - (lg_sl ([.ref (am 0), .int (nI k)])).length) Slot.unset).toArray = ls at hl ⊢
  have hl : lv_has ls 2 [(0, .ref (am 0)), (1, .int (nI k))] := hl
  have hiX4 : ∀ w ∈ wsX40, w ∈ wsX4_cure := by decide +kernel
  have hf22 := hts (.fieldLink RX4 22 "SettlementFundModel" "states" "[I") (by decide +kernel)
  have hf25 := hts (.fieldLink RX4 25 "SettlementFundModel" "deadlines" "[I") (by decide +kernel)
  have hf94 := hts (.fieldLink RX4 94 "SettlementFundModel" "today" "I") (by decide +kernel)
  refine lv_aload_n hx hb dX4_cure_0 rfl (lv_at hl 0 rfl) ?_
  refine lv_aload_n hx hb dX4_cure_1 rfl (lv_at hl 0 rfl) ?_
  refine lv_iload_n hx hb dX4_cure_2 rfl (lv_at hl 1 rfl) ?_
  refine k_X4_isClaim_ok l (k := k) (hn := hn) (hk := hk) hx hb hml hown hts hK hP gX4_cure_X4_isClaim ⟨Nat.le_of_ble_eq_true rfl, Nat.le_of_ble_eq_true rfl⟩ ⟨Nat.le_of_ble_eq_true rfl, Nat.le_of_ble_eq_true rfl⟩ hl.1 (Nat.le_of_ble_eq_true rfl) dX4_cure_3 ?_
  refine zi_ne (tgt := 13) hx hb (by decide) dX4_cure_6 (by decide) (fun c_6 => ?_) (fun c_6 => (show False by omega).elim)
  refine lv_aload_n hx hb dX4_cure_13 rfl (lv_at hl 0 rfl) ?_
  refine gM_0_9 hx hb hts hiX4 hown hK hP hf22 dX4_cure_14 ?_
  refine lv_iload_n hx hb dX4_cure_17 rfl (lv_at hl 1 rfl) ?_
  refine lM_5 hx hb hK hP (by omega) dX4_cure_18 ?_
  refine lv_iconst (v := nI 1) hx hb dX4_cure_19 (by decide) ?_
  refine lv_icmp_ne (tgt := 27) hx hb dX4_cure_20 (by decide) (fun c_20 => (show False by exact c_20 h1).elim) (fun c_20 => ?_)
  refine lv_iconst (v := nI 0) hx hb dX4_cure_23 (by decide) ?_
  refine lv_goto (tgt := 28) hx hb dX4_cure_24 (by decide) ?_
  refine k_X4_goes_0 l  hx hb hml hown hts hK hP gX4_cure_X4_goes ⟨Nat.le_of_ble_eq_true rfl, Nat.le_of_ble_eq_true rfl⟩ ⟨Nat.le_of_ble_eq_true rfl, Nat.le_of_ble_eq_true rfl⟩ hl.1 (Nat.le_of_ble_eq_true rfl) dX4_cure_28 hI (fun _ h => h) hS (fun H locs hP hS _ => ?_)
  refine zi_ne (tgt := 36) hx hb (by decide) dX4_cure_31 (by decide) (fun c_31 => ?_) (fun c_31 => (show False by omega).elim)
  refine lv_aload_n hx hb dX4_cure_36 rfl (lv_at hl 0 rfl) ?_
  refine gM_0_9 hx hb hts hiX4 hown hK hP hf22 dX4_cure_37 ?_
  refine lv_iload_n hx hb dX4_cure_40 rfl (lv_at hl 1 rfl) ?_
  refine lv_iconst (v := nI 0) hx hb dX4_cure_41 (by decide) ?_
  refine sM_5 hx hb hK hP hI (fun _ h => h) hS (by omega) dX4_cure_42 (fun H locs hP hS => ?_)
  refine lv_aload_n hx hb dX4_cure_43 rfl (lv_at hl 0 rfl) ?_
  refine gM_0_10 hx hb hts hiX4 hown hK hP hf25 dX4_cure_44 ?_
  refine lv_iload_n hx hb dX4_cure_47 rfl (lv_at hl 1 rfl) ?_
  refine lM_6 hx hb hK hP (by omega) dX4_cure_48 ?_
  refine lv_aload_n hx hb dX4_cure_49 rfl (lv_at hl 0 rfl) ?_
  refine gM_0_5 hx hb hts hiX4 hown hK hP hf94 dX4_cure_50 ?_
  refine lv_isub hx hb dX4_cure_53 ?_
  exact W.iret (v := (dl k) - dy) hx hb hr (fun t ht hW => ⟨⟨(dl k) - dy, (), rfl, by first | rfl | (rw [if_pos (by omega)]; done) | (rw [if_neg (by omega)]; done) | (simp [c_6, c_20, c_31]; done), by (try dsimp only); rw [ht]; exact hP⟩, hS.F ht⟩) hS.2.2 dX4_cure_54
section
variable {p : Program} {e : Env} {R : Room} {s : State} {m : MethodId} {args : Array Value} {below : List Frame} {meth : Method} {c : Code} {H : Heap} {locs : List Loc} {cells slots : Nat} {Q : State → Prop} {cc : ByteArray} {pc : Nat} {ls : Array Slot} {rest : List Value} {own : String} {index nL : Nat} {Ts : List Cond} {H0 : Heap} {A0 : Nat → Prop}
theorem k_X4_cure_ok (l : Launch) {dC : Nat → ClassId} {dI : Nat → Nat → Nat} {cI cZ : ClassId} {am : Nat → Nat} {sm fe ex : Int32} {gp gc : Nat → Int32} {dy : Int32} {n : Nat} {pe gr st dl wo : Nat → Int32} {q : Nat} {yc ya yd ys tp fu sh ro : Nat → Int32} {th : Int32} {k : Nat} (hn : n ≤ 24) (hk : k < n) (h1 : st k = nI 1) (hx : p.tables.exec = Jvm.exec) (hb : c.code = cc) (hml : c.maxLocals = nL) (hown : s.vm.findClass own = some m.cls) (hts : ∀ w ∈ Ts, w.before args s = true) (hK : va_K (dC, dI) vwCl [(cI, .int), (cZ, .boolean)] s) (hP : va_P (dC, dI) vwCl (wM cI cZ am sm fe ex gp gc dy n pe gr st dl wo q yc ya yd ys tp fu sh ro th) H) (hg9 : GoodIn Ts (wsV own index RX4 yX4_cure wsX4_cure)) (hR9 : 2 + 1 ≤ R.frames ∧ 8 + (2 + 11) + 43 ≤ R.locals) (hc9 : cells ≤ R.cells ∧ slots ≤ R.slots) (hl9 : ls.size = nL) (hw9 : (rest.map fun v => v.category).sum ≤ 8) (hdg : decode cc pc = .ok (.invokevirtual index, 3)) (hI : iwM am) (hA : ∀ x, awM am x → A0 x) (hS : va_S A0 H0 H locs) (kk : ∀ (H1 : Heap) (locs1 : List Loc), va_P (dC, dI) vwCl (wM cI cZ am sm fe ex gp gc dy n pe gr (upd st k (nI 0)) dl wo q yc ya yd ys tp fu sh ro (nI 0)) H1 → va_S A0 H0 H1 locs1 → (∀ q : Nat, q < H.size → ¬ awM am q → H1[q]? = H[q]?) → W p l e R s m args below meth c H1 locs1 cells slots Q (F0 m (pc + 3) ls (.int (dl k - dy) :: rest))) : W p l e R s m args below meth c H locs cells slots Q (F0 m pc ls (.int (nI k) :: .ref (am 0) :: rest)) := va_calli (va_runV (As := [.int (nI k)]) (rest := rest) ⟨hx, hb, hml, hown, hts⟩ (c_X4_cure_ok (dC := dC) (dI := dI) (cI := cI) (cZ := cZ) (am := am) (sm := sm) (fe := fe) (ex := ex) (gp := gp) (gc := gc) (dy := dy) (n := n) (pe := pe) (gr := gr) (st := st) (dl := dl) (wo := wo) (q := q) (yc := yc) (ya := ya) (yd := yd) (ys := ys) (tp := tp) (fu := fu) (sh := sh) (ro := ro) (th := th) (k := k) l hI hn hk h1) (cwV 1 hts hg9 rfl rfl rfl (by decide +kernel) hR9) ⟨fun a U g mk q => ⟨q.1, q.2.1, va_K.moved (u := U) (U := U.calling g mk a) (Vm.Alike.refl U.vm) q.2.2⟩, rM_0 hK hP, fun U hU hW => ⟨rfl, by rw [hU]; exact hP, va_K.moved hW.alike hK⟩⟩ rfl rfl hl9 rfl (lv_room hw9) hdg hc9) hS (fun q _ h => hA q h) hA (fun r u t H1 locs1 ht _ hu hB hz hk hS1 => by subst hu; exact kk H1 locs1 (by rw [ht] at hB; exact hB) hS1 hk)
end
set_option maxHeartbeats 4000000 in
set_option maxRecDepth 100000 in
theorem c_X4_cure_2 (l : Launch) {dC : Nat → ClassId} {dI : Nat → Nat → Nat} {cI cZ : ClassId} {am : Nat → Nat} {sm fe ex : Int32} {gp gc : Nat → Int32} {dy : Int32} {n : Nat} {pe gr st dl wo : Nat → Int32} {q : Nat} {yc ya yd ys tp fu sh ro : Nat → Int32} {th : Int32} {k : Nat} (hI : iwM am) (hn : n ≤ 24) (hk : k < n) (h1 : ¬ st k = nI 1) : Met l yX4_cure wsX4_cure { frames := 2, cells := 0, slots := 0, locals := 43 } (va_Pc [.ref (am 0), .int (nI k)] (fun U => va_P (dC, dI) vwCl (wM cI cZ am sm fe ex gp gc dy n pe gr st dl wo q yc ya yd ys tp fu sh ro th) U.heap ∧ va_K (dC, dI) vwCl [(cI, .int), (cZ, .boolean)] U)) (va_Qi (fun r (_ : Unit) => r = nI 0) (fun _ t => va_P (dC, dI) vwCl (wM cI cZ am sm fe ex gp gc dy n pe gr st dl wo q yc ya yd ys tp fu sh ro (nI 2)) t.heap) (awM am)) 0 0 (awM am) := by
  refine Met.ofW (cc := cX4_cure) (maxL := 2) (ret := (some .int)) (by decide) rfl ?_
  intro p e s m args below meth c s₁ B hml hv
  obtain ⟨rfl, hP, hK⟩ := hv
  have hx := B.exec
  have hb := B.bytes
  have hr := B.returns
  have hts := atoms_spec (ws := wsX4_cure) B.pre
  have hown : s.vm.findClass RX4 = some m.cls := findClass_of_methodNamed B.named
  have hlocks := B.notSynchronized
  have hS : va_S (awM am) s.heap s.heap [] := va_S.rf
  have hl := lv_entry ([.ref (am 0), .int (nI k)]) (n := 2) (Nat.le_of_ble_eq_true rfl)
  rw [lg_entry_eq]
  generalize (lg_sl ([.ref (am 0), .int (nI k)]) ++ List.replicate (2 - (lg_sl ([.ref (am 0), .int (nI k)])).length) Slot.unset).toArray = ls at hl ⊢
  have hl : lv_has ls 2 [(0, .ref (am 0)), (1, .int (nI k))] := hl
  have hiX4 : ∀ w ∈ wsX40, w ∈ wsX4_cure := by decide +kernel
  have hf22 := hts (.fieldLink RX4 22 "SettlementFundModel" "states" "[I") (by decide +kernel)
  refine lv_aload_n hx hb dX4_cure_0 rfl (lv_at hl 0 rfl) ?_
  refine lv_aload_n hx hb dX4_cure_1 rfl (lv_at hl 0 rfl) ?_
  refine lv_iload_n hx hb dX4_cure_2 rfl (lv_at hl 1 rfl) ?_
  refine k_X4_isClaim_ok l (k := k) (hn := hn) (hk := hk) hx hb hml hown hts hK hP gX4_cure_X4_isClaim ⟨Nat.le_of_ble_eq_true rfl, Nat.le_of_ble_eq_true rfl⟩ ⟨Nat.le_of_ble_eq_true rfl, Nat.le_of_ble_eq_true rfl⟩ hl.1 (Nat.le_of_ble_eq_true rfl) dX4_cure_3 ?_
  refine zi_ne (tgt := 13) hx hb (by decide) dX4_cure_6 (by decide) (fun c_6 => ?_) (fun c_6 => (show False by omega).elim)
  refine lv_aload_n hx hb dX4_cure_13 rfl (lv_at hl 0 rfl) ?_
  refine gM_0_9 hx hb hts hiX4 hown hK hP hf22 dX4_cure_14 ?_
  refine lv_iload_n hx hb dX4_cure_17 rfl (lv_at hl 1 rfl) ?_
  refine lM_5 hx hb hK hP (by omega) dX4_cure_18 ?_
  refine lv_iconst (v := nI 1) hx hb dX4_cure_19 (by decide) ?_
  refine lv_icmp_ne (tgt := 27) hx hb dX4_cure_20 (by decide) (fun c_20 => ?_) (fun c_20 => (show False by exact h1 c_20).elim)
  refine lv_iconst (v := nI 2) hx hb dX4_cure_27 (by decide) ?_
  refine k_X4_goes_k l (k := 2) (hk := by decide) (h2 := by decide) hx hb hml hown hts hK hP gX4_cure_X4_goes ⟨Nat.le_of_ble_eq_true rfl, Nat.le_of_ble_eq_true rfl⟩ ⟨Nat.le_of_ble_eq_true rfl, Nat.le_of_ble_eq_true rfl⟩ hl.1 (Nat.le_of_ble_eq_true rfl) dX4_cure_28 hI (fun _ h => h) hS (fun H locs hP hS _ => ?_)
  refine zi_ne (tgt := 36) hx hb (by decide) dX4_cure_31 (by decide) (fun c_31 => (show False by omega).elim) (fun c_31 => ?_)
  refine lv_iconst (v := nI 0) hx hb dX4_cure_34 (by decide) ?_
  exact W.iret (v := nI 0) hx hb hr (fun t ht hW => ⟨⟨nI 0, (), rfl, rfl, by (try dsimp only); rw [ht]; exact hP⟩, hS.F ht⟩) hS.2.2 dX4_cure_35
section
variable {p : Program} {e : Env} {R : Room} {s : State} {m : MethodId} {args : Array Value} {below : List Frame} {meth : Method} {c : Code} {H : Heap} {locs : List Loc} {cells slots : Nat} {Q : State → Prop} {cc : ByteArray} {pc : Nat} {ls : Array Slot} {rest : List Value} {own : String} {index nL : Nat} {Ts : List Cond} {H0 : Heap} {A0 : Nat → Prop}
theorem k_X4_cure_2 (l : Launch) {dC : Nat → ClassId} {dI : Nat → Nat → Nat} {cI cZ : ClassId} {am : Nat → Nat} {sm fe ex : Int32} {gp gc : Nat → Int32} {dy : Int32} {n : Nat} {pe gr st dl wo : Nat → Int32} {q : Nat} {yc ya yd ys tp fu sh ro : Nat → Int32} {th : Int32} {k : Nat} (hn : n ≤ 24) (hk : k < n) (h1 : ¬ st k = nI 1) (hx : p.tables.exec = Jvm.exec) (hb : c.code = cc) (hml : c.maxLocals = nL) (hown : s.vm.findClass own = some m.cls) (hts : ∀ w ∈ Ts, w.before args s = true) (hK : va_K (dC, dI) vwCl [(cI, .int), (cZ, .boolean)] s) (hP : va_P (dC, dI) vwCl (wM cI cZ am sm fe ex gp gc dy n pe gr st dl wo q yc ya yd ys tp fu sh ro th) H) (hg9 : GoodIn Ts (wsV own index RX4 yX4_cure wsX4_cure)) (hR9 : 2 + 1 ≤ R.frames ∧ 8 + (2 + 11) + 43 ≤ R.locals) (hc9 : cells ≤ R.cells ∧ slots ≤ R.slots) (hl9 : ls.size = nL) (hw9 : (rest.map fun v => v.category).sum ≤ 8) (hdg : decode cc pc = .ok (.invokevirtual index, 3)) (hI : iwM am) (hA : ∀ x, awM am x → A0 x) (hS : va_S A0 H0 H locs) (kk : ∀ (H1 : Heap) (locs1 : List Loc), va_P (dC, dI) vwCl (wM cI cZ am sm fe ex gp gc dy n pe gr st dl wo q yc ya yd ys tp fu sh ro (nI 2)) H1 → va_S A0 H0 H1 locs1 → (∀ q : Nat, q < H.size → ¬ awM am q → H1[q]? = H[q]?) → W p l e R s m args below meth c H1 locs1 cells slots Q (F0 m (pc + 3) ls (.int (nI 0) :: rest))) : W p l e R s m args below meth c H locs cells slots Q (F0 m pc ls (.int (nI k) :: .ref (am 0) :: rest)) := va_calli (va_runV (As := [.int (nI k)]) (rest := rest) ⟨hx, hb, hml, hown, hts⟩ (c_X4_cure_2 (dC := dC) (dI := dI) (cI := cI) (cZ := cZ) (am := am) (sm := sm) (fe := fe) (ex := ex) (gp := gp) (gc := gc) (dy := dy) (n := n) (pe := pe) (gr := gr) (st := st) (dl := dl) (wo := wo) (q := q) (yc := yc) (ya := ya) (yd := yd) (ys := ys) (tp := tp) (fu := fu) (sh := sh) (ro := ro) (th := th) (k := k) l hI hn hk h1) (cwV 1 hts hg9 rfl rfl rfl (by decide +kernel) hR9) ⟨fun a U g mk q => ⟨q.1, q.2.1, va_K.moved (u := U) (U := U.calling g mk a) (Vm.Alike.refl U.vm) q.2.2⟩, rM_0 hK hP, fun U hU hW => ⟨rfl, by rw [hU]; exact hP, va_K.moved hW.alike hK⟩⟩ rfl rfl hl9 rfl (lv_room hw9) hdg hc9) hS (fun q _ h => hA q h) hA (fun r u t H1 locs1 ht _ hu hB hz hk hS1 => by subst hu; exact kk H1 locs1 (by rw [ht] at hB; exact hB) hS1 hk)
end
set_option maxHeartbeats 4000000 in
set_option maxRecDepth 100000 in
theorem c_X4_deny_ok (l : Launch) {dC : Nat → ClassId} {dI : Nat → Nat → Nat} {cI cZ : ClassId} {am : Nat → Nat} {sm fe ex : Int32} {gp gc : Nat → Int32} {dy : Int32} {n : Nat} {pe gr st dl wo : Nat → Int32} {q : Nat} {yc ya yd ys tp fu sh ro : Nat → Int32} {th : Int32} {k : Nat} (hI : iwM am) (hn : n ≤ 24) (hk : k < n) (h1 : st k = 0 ∨ st k = nI 1) : Met l yX4_deny wsX4_deny { frames := 2, cells := 0, slots := 0, locals := 43 } (va_Pc [.ref (am 0), .int (nI k)] (fun U => va_P (dC, dI) vwCl (wM cI cZ am sm fe ex gp gc dy n pe gr st dl wo q yc ya yd ys tp fu sh ro th) U.heap ∧ va_K (dC, dI) vwCl [(cI, .int), (cZ, .boolean)] U)) (va_Qi (fun r (_ : Unit) => r = st k) (fun _ t => va_P (dC, dI) vwCl (wM cI cZ am sm fe ex gp gc dy n pe gr (upd st k (nI 2)) dl wo q yc ya yd ys tp fu sh ro (nI 0)) t.heap) (awM am)) 0 0 (awM am) := by
  refine Met.ofW (cc := cX4_deny) (maxL := 3) (ret := (some .int)) (by decide) rfl ?_
  intro p e s m args below meth c s₁ B hml hv
  obtain ⟨rfl, hP, hK⟩ := hv
  have hx := B.exec
  have hb := B.bytes
  have hr := B.returns
  have hts := atoms_spec (ws := wsX4_deny) B.pre
  have hown : s.vm.findClass RX4 = some m.cls := findClass_of_methodNamed B.named
  have hlocks := B.notSynchronized
  have hS : va_S (awM am) s.heap s.heap [] := va_S.rf
  have hl := lv_entry ([.ref (am 0), .int (nI k)]) (n := 3) (Nat.le_of_ble_eq_true rfl)
  rw [lg_entry_eq]
  generalize (lg_sl ([.ref (am 0), .int (nI k)]) ++ List.replicate (3 - (lg_sl ([.ref (am 0), .int (nI k)])).length) Slot.unset).toArray = ls at hl ⊢
  have hl : lv_has ls 3 [(0, .ref (am 0)), (1, .int (nI k))] := hl
  have hiX4 : ∀ w ∈ wsX40, w ∈ wsX4_deny := by decide +kernel
  have hf22 := hts (.fieldLink RX4 22 "SettlementFundModel" "states" "[I") (by decide +kernel)
  refine lv_aload_n hx hb dX4_deny_0 rfl (lv_at hl 0 rfl) ?_
  refine lv_aload_n hx hb dX4_deny_1 rfl (lv_at hl 0 rfl) ?_
  refine lv_iload_n hx hb dX4_deny_2 rfl (lv_at hl 1 rfl) ?_
  refine k_X4_isClaim_ok l (k := k) (hn := hn) (hk := hk) hx hb hml hown hts hK hP gX4_deny_X4_isClaim ⟨Nat.le_of_ble_eq_true rfl, Nat.le_of_ble_eq_true rfl⟩ ⟨Nat.le_of_ble_eq_true rfl, Nat.le_of_ble_eq_true rfl⟩ hl.1 (Nat.le_of_ble_eq_true rfl) dX4_deny_3 ?_
  refine zi_ne (tgt := 13) hx hb (by decide) dX4_deny_6 (by decide) (fun c_6 => ?_) (fun c_6 => (show False by omega).elim)
  refine lv_aload_n hx hb dX4_deny_13 rfl (lv_at hl 0 rfl) ?_
  refine gM_0_9 hx hb hts hiX4 hown hK hP hf22 dX4_deny_14 ?_
  refine lv_iload_n hx hb dX4_deny_17 rfl (lv_at hl 1 rfl) ?_
  refine lM_5 hx hb hK hP (by omega) dX4_deny_18 ?_
  refine lv_if_eq (tgt := 32) hx hb dX4_deny_19 (by decide) (fun c_19 => ?_) (fun c_19 => ?_)
  · refine lv_iconst (v := nI 0) hx hb dX4_deny_32 (by decide) ?_
    refine lv_goto (tgt := 37) hx hb dX4_deny_33 (by decide) ?_
    refine k_X4_goes_0 l  hx hb hml hown hts hK hP gX4_deny_X4_goes ⟨Nat.le_of_ble_eq_true rfl, Nat.le_of_ble_eq_true rfl⟩ ⟨Nat.le_of_ble_eq_true rfl, Nat.le_of_ble_eq_true rfl⟩ hl.1 (Nat.le_of_ble_eq_true rfl) dX4_deny_37 hI (fun _ h => h) hS (fun H locs hP hS _ => ?_)
    refine zi_ne (tgt := 45) hx hb (by decide) dX4_deny_40 (by decide) (fun c_40 => ?_) (fun c_40 => (show False by omega).elim)
    refine lv_aload_n hx hb dX4_deny_45 rfl (lv_at hl 0 rfl) ?_
    refine gM_0_9 hx hb hts hiX4 hown hK hP hf22 dX4_deny_46 ?_
    refine lv_iload_n hx hb dX4_deny_49 rfl (lv_at hl 1 rfl) ?_
    refine lM_5 hx hb hK hP (by omega) dX4_deny_50 ?_
    refine lv_istore_n (lv' := [(2, .int (st k)), (0, .ref (am 0)), (1, .int (nI k))]) hx hb dX4_deny_51 rfl hl (by decide) rfl (fun ls hl => ?_)
    refine lv_aload_n hx hb dX4_deny_52 rfl (lv_at hl 1 rfl) ?_
    refine gM_0_9 hx hb hts hiX4 hown hK hP hf22 dX4_deny_53 ?_
    refine lv_iload_n hx hb dX4_deny_56 rfl (lv_at hl 2 rfl) ?_
    refine lv_iconst (v := nI 2) hx hb dX4_deny_57 (by decide) ?_
    refine sM_5 hx hb hK hP hI (fun _ h => h) hS (by omega) dX4_deny_58 (fun H locs hP hS => ?_)
    refine lv_iload_n hx hb dX4_deny_59 rfl (lv_at hl 0 rfl) ?_
    exact W.iret (v := st k) hx hb hr (fun t ht hW => ⟨⟨st k, (), rfl, rfl, by (try dsimp only); rw [ht]; exact hP⟩, hS.F ht⟩) hS.2.2 dX4_deny_60
  · refine lv_aload_n hx hb dX4_deny_22 rfl (lv_at hl 0 rfl) ?_
    refine gM_0_9 hx hb hts hiX4 hown hK hP hf22 dX4_deny_23 ?_
    refine lv_iload_n hx hb dX4_deny_26 rfl (lv_at hl 1 rfl) ?_
    refine lM_5 hx hb hK hP (by omega) dX4_deny_27 ?_
    refine lv_iconst (v := nI 1) hx hb dX4_deny_28 (by decide) ?_
    refine lv_icmp_ne (tgt := 36) hx hb dX4_deny_29 (by decide) (fun c_29 => (show False by exact h1.elim c_19 c_29).elim) (fun c_29 => ?_)
    refine lv_iconst (v := nI 0) hx hb dX4_deny_32 (by decide) ?_
    refine lv_goto (tgt := 37) hx hb dX4_deny_33 (by decide) ?_
    refine k_X4_goes_0 l  hx hb hml hown hts hK hP gX4_deny_X4_goes ⟨Nat.le_of_ble_eq_true rfl, Nat.le_of_ble_eq_true rfl⟩ ⟨Nat.le_of_ble_eq_true rfl, Nat.le_of_ble_eq_true rfl⟩ hl.1 (Nat.le_of_ble_eq_true rfl) dX4_deny_37 hI (fun _ h => h) hS (fun H locs hP hS _ => ?_)
    refine zi_ne (tgt := 45) hx hb (by decide) dX4_deny_40 (by decide) (fun c_40 => ?_) (fun c_40 => (show False by omega).elim)
    refine lv_aload_n hx hb dX4_deny_45 rfl (lv_at hl 0 rfl) ?_
    refine gM_0_9 hx hb hts hiX4 hown hK hP hf22 dX4_deny_46 ?_
    refine lv_iload_n hx hb dX4_deny_49 rfl (lv_at hl 1 rfl) ?_
    refine lM_5 hx hb hK hP (by omega) dX4_deny_50 ?_
    refine lv_istore_n (lv' := [(2, .int (st k)), (0, .ref (am 0)), (1, .int (nI k))]) hx hb dX4_deny_51 rfl hl (by decide) rfl (fun ls hl => ?_)
    refine lv_aload_n hx hb dX4_deny_52 rfl (lv_at hl 1 rfl) ?_
    refine gM_0_9 hx hb hts hiX4 hown hK hP hf22 dX4_deny_53 ?_
    refine lv_iload_n hx hb dX4_deny_56 rfl (lv_at hl 2 rfl) ?_
    refine lv_iconst (v := nI 2) hx hb dX4_deny_57 (by decide) ?_
    refine sM_5 hx hb hK hP hI (fun _ h => h) hS (by omega) dX4_deny_58 (fun H locs hP hS => ?_)
    refine lv_iload_n hx hb dX4_deny_59 rfl (lv_at hl 0 rfl) ?_
    exact W.iret (v := st k) hx hb hr (fun t ht hW => ⟨⟨st k, (), rfl, rfl, by (try dsimp only); rw [ht]; exact hP⟩, hS.F ht⟩) hS.2.2 dX4_deny_60
section
variable {p : Program} {e : Env} {R : Room} {s : State} {m : MethodId} {args : Array Value} {below : List Frame} {meth : Method} {c : Code} {H : Heap} {locs : List Loc} {cells slots : Nat} {Q : State → Prop} {cc : ByteArray} {pc : Nat} {ls : Array Slot} {rest : List Value} {own : String} {index nL : Nat} {Ts : List Cond} {H0 : Heap} {A0 : Nat → Prop}
theorem k_X4_deny_ok (l : Launch) {dC : Nat → ClassId} {dI : Nat → Nat → Nat} {cI cZ : ClassId} {am : Nat → Nat} {sm fe ex : Int32} {gp gc : Nat → Int32} {dy : Int32} {n : Nat} {pe gr st dl wo : Nat → Int32} {q : Nat} {yc ya yd ys tp fu sh ro : Nat → Int32} {th : Int32} {k : Nat} (hn : n ≤ 24) (hk : k < n) (h1 : st k = 0 ∨ st k = nI 1) (hx : p.tables.exec = Jvm.exec) (hb : c.code = cc) (hml : c.maxLocals = nL) (hown : s.vm.findClass own = some m.cls) (hts : ∀ w ∈ Ts, w.before args s = true) (hK : va_K (dC, dI) vwCl [(cI, .int), (cZ, .boolean)] s) (hP : va_P (dC, dI) vwCl (wM cI cZ am sm fe ex gp gc dy n pe gr st dl wo q yc ya yd ys tp fu sh ro th) H) (hg9 : GoodIn Ts (wsV own index RX4 yX4_deny wsX4_deny)) (hR9 : 2 + 1 ≤ R.frames ∧ 8 + (3 + 11) + 43 ≤ R.locals) (hc9 : cells ≤ R.cells ∧ slots ≤ R.slots) (hl9 : ls.size = nL) (hw9 : (rest.map fun v => v.category).sum ≤ 8) (hdg : decode cc pc = .ok (.invokevirtual index, 3)) (hI : iwM am) (hA : ∀ x, awM am x → A0 x) (hS : va_S A0 H0 H locs) (kk : ∀ (H1 : Heap) (locs1 : List Loc), va_P (dC, dI) vwCl (wM cI cZ am sm fe ex gp gc dy n pe gr (upd st k (nI 2)) dl wo q yc ya yd ys tp fu sh ro (nI 0)) H1 → va_S A0 H0 H1 locs1 → (∀ q : Nat, q < H.size → ¬ awM am q → H1[q]? = H[q]?) → W p l e R s m args below meth c H1 locs1 cells slots Q (F0 m (pc + 3) ls (.int (st k) :: rest))) : W p l e R s m args below meth c H locs cells slots Q (F0 m pc ls (.int (nI k) :: .ref (am 0) :: rest)) := va_calli (va_runV (As := [.int (nI k)]) (rest := rest) ⟨hx, hb, hml, hown, hts⟩ (c_X4_deny_ok (dC := dC) (dI := dI) (cI := cI) (cZ := cZ) (am := am) (sm := sm) (fe := fe) (ex := ex) (gp := gp) (gc := gc) (dy := dy) (n := n) (pe := pe) (gr := gr) (st := st) (dl := dl) (wo := wo) (q := q) (yc := yc) (ya := ya) (yd := yd) (ys := ys) (tp := tp) (fu := fu) (sh := sh) (ro := ro) (th := th) (k := k) l hI hn hk h1) (cwV 1 hts hg9 rfl rfl rfl (by decide +kernel) hR9) ⟨fun a U g mk q => ⟨q.1, q.2.1, va_K.moved (u := U) (U := U.calling g mk a) (Vm.Alike.refl U.vm) q.2.2⟩, rM_0 hK hP, fun U hU hW => ⟨rfl, by rw [hU]; exact hP, va_K.moved hW.alike hK⟩⟩ rfl rfl hl9 rfl (lv_room hw9) hdg hc9) hS (fun q _ h => hA q h) hA (fun r u t H1 locs1 ht _ hu hB hz hk hS1 => by subst hu; exact kk H1 locs1 (by rw [ht] at hB; exact hB) hS1 hk)
end
set_option maxHeartbeats 4000000 in
set_option maxRecDepth 100000 in
theorem c_X4_deny_2 (l : Launch) {dC : Nat → ClassId} {dI : Nat → Nat → Nat} {cI cZ : ClassId} {am : Nat → Nat} {sm fe ex : Int32} {gp gc : Nat → Int32} {dy : Int32} {n : Nat} {pe gr st dl wo : Nat → Int32} {q : Nat} {yc ya yd ys tp fu sh ro : Nat → Int32} {th : Int32} {k : Nat} (hI : iwM am) (hn : n ≤ 24) (hk : k < n) (h1 : ¬ (st k = 0 ∨ st k = nI 1)) : Met l yX4_deny wsX4_deny { frames := 2, cells := 0, slots := 0, locals := 43 } (va_Pc [.ref (am 0), .int (nI k)] (fun U => va_P (dC, dI) vwCl (wM cI cZ am sm fe ex gp gc dy n pe gr st dl wo q yc ya yd ys tp fu sh ro th) U.heap ∧ va_K (dC, dI) vwCl [(cI, .int), (cZ, .boolean)] U)) (va_Qi (fun r (_ : Unit) => r = nI 0) (fun _ t => va_P (dC, dI) vwCl (wM cI cZ am sm fe ex gp gc dy n pe gr st dl wo q yc ya yd ys tp fu sh ro (nI 2)) t.heap) (awM am)) 0 0 (awM am) := by
  refine Met.ofW (cc := cX4_deny) (maxL := 3) (ret := (some .int)) (by decide) rfl ?_
  intro p e s m args below meth c s₁ B hml hv
  obtain ⟨rfl, hP, hK⟩ := hv
  have hx := B.exec
  have hb := B.bytes
  have hr := B.returns
  have hts := atoms_spec (ws := wsX4_deny) B.pre
  have hown : s.vm.findClass RX4 = some m.cls := findClass_of_methodNamed B.named
  have hlocks := B.notSynchronized
  have hS : va_S (awM am) s.heap s.heap [] := va_S.rf
  have hl := lv_entry ([.ref (am 0), .int (nI k)]) (n := 3) (Nat.le_of_ble_eq_true rfl)
  rw [lg_entry_eq]
  generalize (lg_sl ([.ref (am 0), .int (nI k)]) ++ List.replicate (3 - (lg_sl ([.ref (am 0), .int (nI k)])).length) Slot.unset).toArray = ls at hl ⊢
  have hl : lv_has ls 3 [(0, .ref (am 0)), (1, .int (nI k))] := hl
  have hiX4 : ∀ w ∈ wsX40, w ∈ wsX4_deny := by decide +kernel
  have hf22 := hts (.fieldLink RX4 22 "SettlementFundModel" "states" "[I") (by decide +kernel)
  refine lv_aload_n hx hb dX4_deny_0 rfl (lv_at hl 0 rfl) ?_
  refine lv_aload_n hx hb dX4_deny_1 rfl (lv_at hl 0 rfl) ?_
  refine lv_iload_n hx hb dX4_deny_2 rfl (lv_at hl 1 rfl) ?_
  refine k_X4_isClaim_ok l (k := k) (hn := hn) (hk := hk) hx hb hml hown hts hK hP gX4_deny_X4_isClaim ⟨Nat.le_of_ble_eq_true rfl, Nat.le_of_ble_eq_true rfl⟩ ⟨Nat.le_of_ble_eq_true rfl, Nat.le_of_ble_eq_true rfl⟩ hl.1 (Nat.le_of_ble_eq_true rfl) dX4_deny_3 ?_
  refine zi_ne (tgt := 13) hx hb (by decide) dX4_deny_6 (by decide) (fun c_6 => ?_) (fun c_6 => (show False by omega).elim)
  refine lv_aload_n hx hb dX4_deny_13 rfl (lv_at hl 0 rfl) ?_
  refine gM_0_9 hx hb hts hiX4 hown hK hP hf22 dX4_deny_14 ?_
  refine lv_iload_n hx hb dX4_deny_17 rfl (lv_at hl 1 rfl) ?_
  refine lM_5 hx hb hK hP (by omega) dX4_deny_18 ?_
  refine lv_if_eq (tgt := 32) hx hb dX4_deny_19 (by decide) (fun c_19 => (show False by exact h1 (Or.inl c_19)).elim) (fun c_19 => ?_)
  refine lv_aload_n hx hb dX4_deny_22 rfl (lv_at hl 0 rfl) ?_
  refine gM_0_9 hx hb hts hiX4 hown hK hP hf22 dX4_deny_23 ?_
  refine lv_iload_n hx hb dX4_deny_26 rfl (lv_at hl 1 rfl) ?_
  refine lM_5 hx hb hK hP (by omega) dX4_deny_27 ?_
  refine lv_iconst (v := nI 1) hx hb dX4_deny_28 (by decide) ?_
  refine lv_icmp_ne (tgt := 36) hx hb dX4_deny_29 (by decide) (fun c_29 => ?_) (fun c_29 => (show False by exact h1 (Or.inr c_29)).elim)
  refine lv_iconst (v := nI 2) hx hb dX4_deny_36 (by decide) ?_
  refine k_X4_goes_k l (k := 2) (hk := by decide) (h2 := by decide) hx hb hml hown hts hK hP gX4_deny_X4_goes ⟨Nat.le_of_ble_eq_true rfl, Nat.le_of_ble_eq_true rfl⟩ ⟨Nat.le_of_ble_eq_true rfl, Nat.le_of_ble_eq_true rfl⟩ hl.1 (Nat.le_of_ble_eq_true rfl) dX4_deny_37 hI (fun _ h => h) hS (fun H locs hP hS _ => ?_)
  refine zi_ne (tgt := 45) hx hb (by decide) dX4_deny_40 (by decide) (fun c_40 => (show False by omega).elim) (fun c_40 => ?_)
  refine lv_iconst (v := nI 0) hx hb dX4_deny_43 (by decide) ?_
  exact W.iret (v := nI 0) hx hb hr (fun t ht hW => ⟨⟨nI 0, (), rfl, rfl, by (try dsimp only); rw [ht]; exact hP⟩, hS.F ht⟩) hS.2.2 dX4_deny_44
section
variable {p : Program} {e : Env} {R : Room} {s : State} {m : MethodId} {args : Array Value} {below : List Frame} {meth : Method} {c : Code} {H : Heap} {locs : List Loc} {cells slots : Nat} {Q : State → Prop} {cc : ByteArray} {pc : Nat} {ls : Array Slot} {rest : List Value} {own : String} {index nL : Nat} {Ts : List Cond} {H0 : Heap} {A0 : Nat → Prop}
theorem k_X4_deny_2 (l : Launch) {dC : Nat → ClassId} {dI : Nat → Nat → Nat} {cI cZ : ClassId} {am : Nat → Nat} {sm fe ex : Int32} {gp gc : Nat → Int32} {dy : Int32} {n : Nat} {pe gr st dl wo : Nat → Int32} {q : Nat} {yc ya yd ys tp fu sh ro : Nat → Int32} {th : Int32} {k : Nat} (hn : n ≤ 24) (hk : k < n) (h1 : ¬ (st k = 0 ∨ st k = nI 1)) (hx : p.tables.exec = Jvm.exec) (hb : c.code = cc) (hml : c.maxLocals = nL) (hown : s.vm.findClass own = some m.cls) (hts : ∀ w ∈ Ts, w.before args s = true) (hK : va_K (dC, dI) vwCl [(cI, .int), (cZ, .boolean)] s) (hP : va_P (dC, dI) vwCl (wM cI cZ am sm fe ex gp gc dy n pe gr st dl wo q yc ya yd ys tp fu sh ro th) H) (hg9 : GoodIn Ts (wsV own index RX4 yX4_deny wsX4_deny)) (hR9 : 2 + 1 ≤ R.frames ∧ 8 + (3 + 11) + 43 ≤ R.locals) (hc9 : cells ≤ R.cells ∧ slots ≤ R.slots) (hl9 : ls.size = nL) (hw9 : (rest.map fun v => v.category).sum ≤ 8) (hdg : decode cc pc = .ok (.invokevirtual index, 3)) (hI : iwM am) (hA : ∀ x, awM am x → A0 x) (hS : va_S A0 H0 H locs) (kk : ∀ (H1 : Heap) (locs1 : List Loc), va_P (dC, dI) vwCl (wM cI cZ am sm fe ex gp gc dy n pe gr st dl wo q yc ya yd ys tp fu sh ro (nI 2)) H1 → va_S A0 H0 H1 locs1 → (∀ q : Nat, q < H.size → ¬ awM am q → H1[q]? = H[q]?) → W p l e R s m args below meth c H1 locs1 cells slots Q (F0 m (pc + 3) ls (.int (nI 0) :: rest))) : W p l e R s m args below meth c H locs cells slots Q (F0 m pc ls (.int (nI k) :: .ref (am 0) :: rest)) := va_calli (va_runV (As := [.int (nI k)]) (rest := rest) ⟨hx, hb, hml, hown, hts⟩ (c_X4_deny_2 (dC := dC) (dI := dI) (cI := cI) (cZ := cZ) (am := am) (sm := sm) (fe := fe) (ex := ex) (gp := gp) (gc := gc) (dy := dy) (n := n) (pe := pe) (gr := gr) (st := st) (dl := dl) (wo := wo) (q := q) (yc := yc) (ya := ya) (yd := yd) (ys := ys) (tp := tp) (fu := fu) (sh := sh) (ro := ro) (th := th) (k := k) l hI hn hk h1) (cwV 1 hts hg9 rfl rfl rfl (by decide +kernel) hR9) ⟨fun a U g mk q => ⟨q.1, q.2.1, va_K.moved (u := U) (U := U.calling g mk a) (Vm.Alike.refl U.vm) q.2.2⟩, rM_0 hK hP, fun U hU hW => ⟨rfl, by rw [hU]; exact hP, va_K.moved hW.alike hK⟩⟩ rfl rfl hl9 rfl (lv_room hw9) hdg hc9) hS (fun q _ h => hA q h) hA (fun r u t H1 locs1 ht _ hu hB hz hk hS1 => by subst hu; exact kk H1 locs1 (by rw [ht] at hB; exact hB) hS1 hk)
end
set_option maxHeartbeats 4000000 in
set_option maxRecDepth 100000 in
theorem c_X4_object_ok (l : Launch) {dC : Nat → ClassId} {dI : Nat → Nat → Nat} {cI cZ : ClassId} {am : Nat → Nat} {sm fe ex : Int32} {gp gc : Nat → Int32} {dy : Int32} {n : Nat} {pe gr st dl wo : Nat → Int32} {q : Nat} {yc ya yd ys tp fu sh ro : Nat → Int32} {th : Int32} {k : Nat} (hI : iwM am) (hn : n ≤ 24) (hk : k < n) (h1 : st k = nI 2) (h2 : wo k = 0) : Met l yX4_object wsX4_object { frames := 2, cells := 0, slots := 0, locals := 43 } (va_Pc [.ref (am 0), .int (nI k)] (fun U => va_P (dC, dI) vwCl (wM cI cZ am sm fe ex gp gc dy n pe gr st dl wo q yc ya yd ys tp fu sh ro th) U.heap ∧ va_K (dC, dI) vwCl [(cI, .int), (cZ, .boolean)] U)) (va_Qi (fun r (_ : Unit) => r = nI (tallyN (upd st k (nI 3)) (nI 3) n)) (fun _ t => va_P (dC, dI) vwCl (wM cI cZ am sm fe ex gp gc dy n pe gr (upd st k (nI 3)) dl (upd wo k (nI 1)) q yc ya yd ys tp fu sh ro (nI 0)) t.heap) (awM am)) 0 0 (awM am) := by
  refine Met.ofW (cc := cX4_object) (maxL := 2) (ret := (some .int)) (by decide) rfl ?_
  intro p e s m args below meth c s₁ B hml hv
  obtain ⟨rfl, hP, hK⟩ := hv
  have hx := B.exec
  have hb := B.bytes
  have hr := B.returns
  have hts := atoms_spec (ws := wsX4_object) B.pre
  have hown : s.vm.findClass RX4 = some m.cls := findClass_of_methodNamed B.named
  have hlocks := B.notSynchronized
  have hS : va_S (awM am) s.heap s.heap [] := va_S.rf
  have hl := lv_entry ([.ref (am 0), .int (nI k)]) (n := 2) (Nat.le_of_ble_eq_true rfl)
  rw [lg_entry_eq]
  generalize (lg_sl ([.ref (am 0), .int (nI k)]) ++ List.replicate (2 - (lg_sl ([.ref (am 0), .int (nI k)])).length) Slot.unset).toArray = ls at hl ⊢
  have hl : lv_has ls 2 [(0, .ref (am 0)), (1, .int (nI k))] := hl
  have hiX4 : ∀ w ∈ wsX40, w ∈ wsX4_object := by decide +kernel
  have hf22 := hts (.fieldLink RX4 22 "SettlementFundModel" "states" "[I") (by decide +kernel)
  have hf28 := hts (.fieldLink RX4 28 "SettlementFundModel" "wasObjected" "[Z") (by decide +kernel)
  refine lv_aload_n hx hb dX4_object_0 rfl (lv_at hl 0 rfl) ?_
  refine lv_aload_n hx hb dX4_object_1 rfl (lv_at hl 0 rfl) ?_
  refine lv_iload_n hx hb dX4_object_2 rfl (lv_at hl 1 rfl) ?_
  refine k_X4_isClaim_ok l (k := k) (hn := hn) (hk := hk) hx hb hml hown hts hK hP gX4_object_X4_isClaim ⟨Nat.le_of_ble_eq_true rfl, Nat.le_of_ble_eq_true rfl⟩ ⟨Nat.le_of_ble_eq_true rfl, Nat.le_of_ble_eq_true rfl⟩ hl.1 (Nat.le_of_ble_eq_true rfl) dX4_object_3 ?_
  refine zi_ne (tgt := 13) hx hb (by decide) dX4_object_6 (by decide) (fun c_6 => ?_) (fun c_6 => (show False by omega).elim)
  refine lv_aload_n hx hb dX4_object_13 rfl (lv_at hl 0 rfl) ?_
  refine gM_0_9 hx hb hts hiX4 hown hK hP hf22 dX4_object_14 ?_
  refine lv_iload_n hx hb dX4_object_17 rfl (lv_at hl 1 rfl) ?_
  refine lM_5 hx hb hK hP (by omega) dX4_object_18 ?_
  refine lv_iconst (v := nI 2) hx hb dX4_object_19 (by decide) ?_
  refine lv_icmp_ne (tgt := 36) hx hb dX4_object_20 (by decide) (fun c_20 => (show False by exact c_20 h1).elim) (fun c_20 => ?_)
  refine lv_aload_n hx hb dX4_object_23 rfl (lv_at hl 0 rfl) ?_
  refine gM_0_11 hx hb hts hiX4 hown hK hP hf28 dX4_object_24 ?_
  refine lv_iload_n hx hb dX4_object_27 rfl (lv_at hl 1 rfl) ?_
  refine lM_7 hx hb hK hP (by omega) dX4_object_28 ?_
  refine lv_if_ne (tgt := 36) hx hb dX4_object_29 (by decide) (fun c_29 => (show False by exact c_29 h2).elim) (fun c_29 => ?_)
  refine lv_iconst (v := nI 0) hx hb dX4_object_32 (by decide) ?_
  refine lv_goto (tgt := 37) hx hb dX4_object_33 (by decide) ?_
  refine k_X4_goes_0 l  hx hb hml hown hts hK hP gX4_object_X4_goes ⟨Nat.le_of_ble_eq_true rfl, Nat.le_of_ble_eq_true rfl⟩ ⟨Nat.le_of_ble_eq_true rfl, Nat.le_of_ble_eq_true rfl⟩ hl.1 (Nat.le_of_ble_eq_true rfl) dX4_object_37 hI (fun _ h => h) hS (fun H locs hP hS _ => ?_)
  refine zi_ne (tgt := 45) hx hb (by decide) dX4_object_40 (by decide) (fun c_40 => ?_) (fun c_40 => (show False by omega).elim)
  refine lv_aload_n hx hb dX4_object_45 rfl (lv_at hl 0 rfl) ?_
  refine gM_0_9 hx hb hts hiX4 hown hK hP hf22 dX4_object_46 ?_
  refine lv_iload_n hx hb dX4_object_49 rfl (lv_at hl 1 rfl) ?_
  refine lv_iconst (v := nI 3) hx hb dX4_object_50 (by decide) ?_
  refine sM_5 hx hb hK hP hI (fun _ h => h) hS (by omega) dX4_object_51 (fun H locs hP hS => ?_)
  refine lv_aload_n hx hb dX4_object_52 rfl (lv_at hl 0 rfl) ?_
  refine gM_0_11 hx hb hts hiX4 hown hK hP hf28 dX4_object_53 ?_
  refine lv_iload_n hx hb dX4_object_56 rfl (lv_at hl 1 rfl) ?_
  refine lv_iconst (v := nI 1) hx hb dX4_object_57 (by decide) ?_
  refine sM_7 hx hb hK hP hI (fun _ h => h) hS (by omega) (rfl) dX4_object_58 (fun H locs hP hS => ?_)
  refine lv_aload_n hx hb dX4_object_59 rfl (lv_at hl 0 rfl) ?_
  refine lv_iconst (v := nI 3) hx hb dX4_object_60 (by decide) ?_
  refine k_X4_countOf l (w := nI 3) (hn := hn) hx hb hml hown hts hK hP gX4_object_X4_countOf ⟨Nat.le_of_ble_eq_true rfl, Nat.le_of_ble_eq_true rfl⟩ ⟨Nat.le_of_ble_eq_true rfl, Nat.le_of_ble_eq_true rfl⟩ hl.1 (Nat.le_of_ble_eq_true rfl) dX4_object_61 ?_
  exact W.iret (v := nI (tallyN (upd st k (nI 3)) (nI 3) n)) hx hb hr (fun t ht hW => ⟨⟨nI (tallyN (upd st k (nI 3)) (nI 3) n), (), rfl, rfl, by (try dsimp only); rw [ht]; exact hP⟩, hS.F ht⟩) hS.2.2 dX4_object_64
section
variable {p : Program} {e : Env} {R : Room} {s : State} {m : MethodId} {args : Array Value} {below : List Frame} {meth : Method} {c : Code} {H : Heap} {locs : List Loc} {cells slots : Nat} {Q : State → Prop} {cc : ByteArray} {pc : Nat} {ls : Array Slot} {rest : List Value} {own : String} {index nL : Nat} {Ts : List Cond} {H0 : Heap} {A0 : Nat → Prop}
theorem k_X4_object_ok (l : Launch) {dC : Nat → ClassId} {dI : Nat → Nat → Nat} {cI cZ : ClassId} {am : Nat → Nat} {sm fe ex : Int32} {gp gc : Nat → Int32} {dy : Int32} {n : Nat} {pe gr st dl wo : Nat → Int32} {q : Nat} {yc ya yd ys tp fu sh ro : Nat → Int32} {th : Int32} {k : Nat} (hn : n ≤ 24) (hk : k < n) (h1 : st k = nI 2) (h2 : wo k = 0) (hx : p.tables.exec = Jvm.exec) (hb : c.code = cc) (hml : c.maxLocals = nL) (hown : s.vm.findClass own = some m.cls) (hts : ∀ w ∈ Ts, w.before args s = true) (hK : va_K (dC, dI) vwCl [(cI, .int), (cZ, .boolean)] s) (hP : va_P (dC, dI) vwCl (wM cI cZ am sm fe ex gp gc dy n pe gr st dl wo q yc ya yd ys tp fu sh ro th) H) (hg9 : GoodIn Ts (wsV own index RX4 yX4_object wsX4_object)) (hR9 : 2 + 1 ≤ R.frames ∧ 8 + (2 + 11) + 43 ≤ R.locals) (hc9 : cells ≤ R.cells ∧ slots ≤ R.slots) (hl9 : ls.size = nL) (hw9 : (rest.map fun v => v.category).sum ≤ 8) (hdg : decode cc pc = .ok (.invokevirtual index, 3)) (hI : iwM am) (hA : ∀ x, awM am x → A0 x) (hS : va_S A0 H0 H locs) (kk : ∀ (H1 : Heap) (locs1 : List Loc), va_P (dC, dI) vwCl (wM cI cZ am sm fe ex gp gc dy n pe gr (upd st k (nI 3)) dl (upd wo k (nI 1)) q yc ya yd ys tp fu sh ro (nI 0)) H1 → va_S A0 H0 H1 locs1 → (∀ q : Nat, q < H.size → ¬ awM am q → H1[q]? = H[q]?) → W p l e R s m args below meth c H1 locs1 cells slots Q (F0 m (pc + 3) ls (.int (nI (tallyN (upd st k (nI 3)) (nI 3) n)) :: rest))) : W p l e R s m args below meth c H locs cells slots Q (F0 m pc ls (.int (nI k) :: .ref (am 0) :: rest)) := va_calli (va_runV (As := [.int (nI k)]) (rest := rest) ⟨hx, hb, hml, hown, hts⟩ (c_X4_object_ok (dC := dC) (dI := dI) (cI := cI) (cZ := cZ) (am := am) (sm := sm) (fe := fe) (ex := ex) (gp := gp) (gc := gc) (dy := dy) (n := n) (pe := pe) (gr := gr) (st := st) (dl := dl) (wo := wo) (q := q) (yc := yc) (ya := ya) (yd := yd) (ys := ys) (tp := tp) (fu := fu) (sh := sh) (ro := ro) (th := th) (k := k) l hI hn hk h1 h2) (cwV 1 hts hg9 rfl rfl rfl (by decide +kernel) hR9) ⟨fun a U g mk q => ⟨q.1, q.2.1, va_K.moved (u := U) (U := U.calling g mk a) (Vm.Alike.refl U.vm) q.2.2⟩, rM_0 hK hP, fun U hU hW => ⟨rfl, by rw [hU]; exact hP, va_K.moved hW.alike hK⟩⟩ rfl rfl hl9 rfl (lv_room hw9) hdg hc9) hS (fun q _ h => hA q h) hA (fun r u t H1 locs1 ht _ hu hB hz hk hS1 => by subst hu; exact kk H1 locs1 (by rw [ht] at hB; exact hB) hS1 hk)
end
set_option maxHeartbeats 4000000 in
set_option maxRecDepth 100000 in
theorem c_X4_object_2 (l : Launch) {dC : Nat → ClassId} {dI : Nat → Nat → Nat} {cI cZ : ClassId} {am : Nat → Nat} {sm fe ex : Int32} {gp gc : Nat → Int32} {dy : Int32} {n : Nat} {pe gr st dl wo : Nat → Int32} {q : Nat} {yc ya yd ys tp fu sh ro : Nat → Int32} {th : Int32} {k : Nat} (hI : iwM am) (hn : n ≤ 24) (hk : k < n) (h1 : ¬ (st k = nI 2 ∧ wo k = 0)) : Met l yX4_object wsX4_object { frames := 2, cells := 0, slots := 0, locals := 43 } (va_Pc [.ref (am 0), .int (nI k)] (fun U => va_P (dC, dI) vwCl (wM cI cZ am sm fe ex gp gc dy n pe gr st dl wo q yc ya yd ys tp fu sh ro th) U.heap ∧ va_K (dC, dI) vwCl [(cI, .int), (cZ, .boolean)] U)) (va_Qi (fun r (_ : Unit) => r = nI 0) (fun _ t => va_P (dC, dI) vwCl (wM cI cZ am sm fe ex gp gc dy n pe gr st dl wo q yc ya yd ys tp fu sh ro (nI 2)) t.heap) (awM am)) 0 0 (awM am) := by
  refine Met.ofW (cc := cX4_object) (maxL := 2) (ret := (some .int)) (by decide) rfl ?_
  intro p e s m args below meth c s₁ B hml hv
  obtain ⟨rfl, hP, hK⟩ := hv
  have hx := B.exec
  have hb := B.bytes
  have hr := B.returns
  have hts := atoms_spec (ws := wsX4_object) B.pre
  have hown : s.vm.findClass RX4 = some m.cls := findClass_of_methodNamed B.named
  have hlocks := B.notSynchronized
  have hS : va_S (awM am) s.heap s.heap [] := va_S.rf
  have hl := lv_entry ([.ref (am 0), .int (nI k)]) (n := 2) (Nat.le_of_ble_eq_true rfl)
  rw [lg_entry_eq]
  generalize (lg_sl ([.ref (am 0), .int (nI k)]) ++ List.replicate (2 - (lg_sl ([.ref (am 0), .int (nI k)])).length) Slot.unset).toArray = ls at hl ⊢
  have hl : lv_has ls 2 [(0, .ref (am 0)), (1, .int (nI k))] := hl
  have hiX4 : ∀ w ∈ wsX40, w ∈ wsX4_object := by decide +kernel
  have hf22 := hts (.fieldLink RX4 22 "SettlementFundModel" "states" "[I") (by decide +kernel)
  have hf28 := hts (.fieldLink RX4 28 "SettlementFundModel" "wasObjected" "[Z") (by decide +kernel)
  refine lv_aload_n hx hb dX4_object_0 rfl (lv_at hl 0 rfl) ?_
  refine lv_aload_n hx hb dX4_object_1 rfl (lv_at hl 0 rfl) ?_
  refine lv_iload_n hx hb dX4_object_2 rfl (lv_at hl 1 rfl) ?_
  refine k_X4_isClaim_ok l (k := k) (hn := hn) (hk := hk) hx hb hml hown hts hK hP gX4_object_X4_isClaim ⟨Nat.le_of_ble_eq_true rfl, Nat.le_of_ble_eq_true rfl⟩ ⟨Nat.le_of_ble_eq_true rfl, Nat.le_of_ble_eq_true rfl⟩ hl.1 (Nat.le_of_ble_eq_true rfl) dX4_object_3 ?_
  refine zi_ne (tgt := 13) hx hb (by decide) dX4_object_6 (by decide) (fun c_6 => ?_) (fun c_6 => (show False by omega).elim)
  refine lv_aload_n hx hb dX4_object_13 rfl (lv_at hl 0 rfl) ?_
  refine gM_0_9 hx hb hts hiX4 hown hK hP hf22 dX4_object_14 ?_
  refine lv_iload_n hx hb dX4_object_17 rfl (lv_at hl 1 rfl) ?_
  refine lM_5 hx hb hK hP (by omega) dX4_object_18 ?_
  refine lv_iconst (v := nI 2) hx hb dX4_object_19 (by decide) ?_
  refine lv_icmp_ne (tgt := 36) hx hb dX4_object_20 (by decide) (fun c_20 => ?_) (fun c_20 => ?_)
  · refine lv_iconst (v := nI 2) hx hb dX4_object_36 (by decide) ?_
    refine k_X4_goes_k l (k := 2) (hk := by decide) (h2 := by decide) hx hb hml hown hts hK hP gX4_object_X4_goes ⟨Nat.le_of_ble_eq_true rfl, Nat.le_of_ble_eq_true rfl⟩ ⟨Nat.le_of_ble_eq_true rfl, Nat.le_of_ble_eq_true rfl⟩ hl.1 (Nat.le_of_ble_eq_true rfl) dX4_object_37 hI (fun _ h => h) hS (fun H locs hP hS _ => ?_)
    refine zi_ne (tgt := 45) hx hb (by decide) dX4_object_40 (by decide) (fun c_40 => (show False by omega).elim) (fun c_40 => ?_)
    refine lv_iconst (v := nI 0) hx hb dX4_object_43 (by decide) ?_
    exact W.iret (v := nI 0) hx hb hr (fun t ht hW => ⟨⟨nI 0, (), rfl, rfl, by (try dsimp only); rw [ht]; exact hP⟩, hS.F ht⟩) hS.2.2 dX4_object_44
  · refine lv_aload_n hx hb dX4_object_23 rfl (lv_at hl 0 rfl) ?_
    refine gM_0_11 hx hb hts hiX4 hown hK hP hf28 dX4_object_24 ?_
    refine lv_iload_n hx hb dX4_object_27 rfl (lv_at hl 1 rfl) ?_
    refine lM_7 hx hb hK hP (by omega) dX4_object_28 ?_
    refine lv_if_ne (tgt := 36) hx hb dX4_object_29 (by decide) (fun c_29 => ?_) (fun c_29 => (show False by exact h1 ⟨c_20, c_29⟩).elim)
    refine lv_iconst (v := nI 2) hx hb dX4_object_36 (by decide) ?_
    refine k_X4_goes_k l (k := 2) (hk := by decide) (h2 := by decide) hx hb hml hown hts hK hP gX4_object_X4_goes ⟨Nat.le_of_ble_eq_true rfl, Nat.le_of_ble_eq_true rfl⟩ ⟨Nat.le_of_ble_eq_true rfl, Nat.le_of_ble_eq_true rfl⟩ hl.1 (Nat.le_of_ble_eq_true rfl) dX4_object_37 hI (fun _ h => h) hS (fun H locs hP hS _ => ?_)
    refine zi_ne (tgt := 45) hx hb (by decide) dX4_object_40 (by decide) (fun c_40 => (show False by omega).elim) (fun c_40 => ?_)
    refine lv_iconst (v := nI 0) hx hb dX4_object_43 (by decide) ?_
    exact W.iret (v := nI 0) hx hb hr (fun t ht hW => ⟨⟨nI 0, (), rfl, rfl, by (try dsimp only); rw [ht]; exact hP⟩, hS.F ht⟩) hS.2.2 dX4_object_44
section
variable {p : Program} {e : Env} {R : Room} {s : State} {m : MethodId} {args : Array Value} {below : List Frame} {meth : Method} {c : Code} {H : Heap} {locs : List Loc} {cells slots : Nat} {Q : State → Prop} {cc : ByteArray} {pc : Nat} {ls : Array Slot} {rest : List Value} {own : String} {index nL : Nat} {Ts : List Cond} {H0 : Heap} {A0 : Nat → Prop}
theorem k_X4_object_2 (l : Launch) {dC : Nat → ClassId} {dI : Nat → Nat → Nat} {cI cZ : ClassId} {am : Nat → Nat} {sm fe ex : Int32} {gp gc : Nat → Int32} {dy : Int32} {n : Nat} {pe gr st dl wo : Nat → Int32} {q : Nat} {yc ya yd ys tp fu sh ro : Nat → Int32} {th : Int32} {k : Nat} (hn : n ≤ 24) (hk : k < n) (h1 : ¬ (st k = nI 2 ∧ wo k = 0)) (hx : p.tables.exec = Jvm.exec) (hb : c.code = cc) (hml : c.maxLocals = nL) (hown : s.vm.findClass own = some m.cls) (hts : ∀ w ∈ Ts, w.before args s = true) (hK : va_K (dC, dI) vwCl [(cI, .int), (cZ, .boolean)] s) (hP : va_P (dC, dI) vwCl (wM cI cZ am sm fe ex gp gc dy n pe gr st dl wo q yc ya yd ys tp fu sh ro th) H) (hg9 : GoodIn Ts (wsV own index RX4 yX4_object wsX4_object)) (hR9 : 2 + 1 ≤ R.frames ∧ 8 + (2 + 11) + 43 ≤ R.locals) (hc9 : cells ≤ R.cells ∧ slots ≤ R.slots) (hl9 : ls.size = nL) (hw9 : (rest.map fun v => v.category).sum ≤ 8) (hdg : decode cc pc = .ok (.invokevirtual index, 3)) (hI : iwM am) (hA : ∀ x, awM am x → A0 x) (hS : va_S A0 H0 H locs) (kk : ∀ (H1 : Heap) (locs1 : List Loc), va_P (dC, dI) vwCl (wM cI cZ am sm fe ex gp gc dy n pe gr st dl wo q yc ya yd ys tp fu sh ro (nI 2)) H1 → va_S A0 H0 H1 locs1 → (∀ q : Nat, q < H.size → ¬ awM am q → H1[q]? = H[q]?) → W p l e R s m args below meth c H1 locs1 cells slots Q (F0 m (pc + 3) ls (.int (nI 0) :: rest))) : W p l e R s m args below meth c H locs cells slots Q (F0 m pc ls (.int (nI k) :: .ref (am 0) :: rest)) := va_calli (va_runV (As := [.int (nI k)]) (rest := rest) ⟨hx, hb, hml, hown, hts⟩ (c_X4_object_2 (dC := dC) (dI := dI) (cI := cI) (cZ := cZ) (am := am) (sm := sm) (fe := fe) (ex := ex) (gp := gp) (gc := gc) (dy := dy) (n := n) (pe := pe) (gr := gr) (st := st) (dl := dl) (wo := wo) (q := q) (yc := yc) (ya := ya) (yd := yd) (ys := ys) (tp := tp) (fu := fu) (sh := sh) (ro := ro) (th := th) (k := k) l hI hn hk h1) (cwV 1 hts hg9 rfl rfl rfl (by decide +kernel) hR9) ⟨fun a U g mk q => ⟨q.1, q.2.1, va_K.moved (u := U) (U := U.calling g mk a) (Vm.Alike.refl U.vm) q.2.2⟩, rM_0 hK hP, fun U hU hW => ⟨rfl, by rw [hU]; exact hP, va_K.moved hW.alike hK⟩⟩ rfl rfl hl9 rfl (lv_room hw9) hdg hc9) hS (fun q _ h => hA q h) hA (fun r u t H1 locs1 ht _ hu hB hz hk hS1 => by subst hu; exact kk H1 locs1 (by rw [ht] at hB; exact hB) hS1 hk)
end
set_option maxHeartbeats 4000000 in
set_option maxRecDepth 100000 in
theorem c_X4_decide_ok (l : Launch) {dC : Nat → ClassId} {dI : Nat → Nat → Nat} {cI cZ : ClassId} {am : Nat → Nat} {sm fe ex : Int32} {gp gc : Nat → Int32} {dy : Int32} {n : Nat} {pe gr st dl wo : Nat → Int32} {q : Nat} {yc ya yd ys tp fu sh ro : Nat → Int32} {th : Int32} {k : Nat} {b : Int32} (hI : iwM am) (hn : n ≤ 24) (hk : k < n) (h1 : st k = nI 3) : Met l yX4_decide wsX4_decide { frames := 2, cells := 0, slots := 0, locals := 43 } (va_Pc [.ref (am 0), .int (nI k), .int b] (fun U => va_P (dC, dI) vwCl (wM cI cZ am sm fe ex gp gc dy n pe gr st dl wo q yc ya yd ys tp fu sh ro th) U.heap ∧ va_K (dC, dI) vwCl [(cI, .int), (cZ, .boolean)] U)) (va_Qi (fun r (_ : Unit) => r = nI (tallyN (upd st k (goodS b)) (nI 3) n)) (fun _ t => va_P (dC, dI) vwCl (wM cI cZ am sm fe ex gp gc dy n pe gr (upd st k (goodS b)) dl wo q yc ya yd ys tp fu sh ro (nI 0)) t.heap) (awM am)) 0 0 (awM am) := by
  refine Met.ofW (cc := cX4_decide) (maxL := 3) (ret := (some .int)) (by decide) rfl ?_
  intro p e s m args below meth c s₁ B hml hv
  obtain ⟨rfl, hP, hK⟩ := hv
  have hx := B.exec
  have hb := B.bytes
  have hr := B.returns
  have hts := atoms_spec (ws := wsX4_decide) B.pre
  have hown : s.vm.findClass RX4 = some m.cls := findClass_of_methodNamed B.named
  have hlocks := B.notSynchronized
  have hS : va_S (awM am) s.heap s.heap [] := va_S.rf
  have hl := lv_entry ([.ref (am 0), .int (nI k), .int b]) (n := 3) (Nat.le_of_ble_eq_true rfl)
  rw [lg_entry_eq]
  generalize (lg_sl ([.ref (am 0), .int (nI k), .int b]) ++ List.replicate (3 - (lg_sl ([.ref (am 0), .int (nI k), .int b])).length) Slot.unset).toArray = ls at hl ⊢
  have hl : lv_has ls 3 [(0, .ref (am 0)), (1, .int (nI k)), (2, .int b)] := hl
  have hiX4 : ∀ w ∈ wsX40, w ∈ wsX4_decide := by decide +kernel
  have hf22 := hts (.fieldLink RX4 22 "SettlementFundModel" "states" "[I") (by decide +kernel)
  refine lv_aload_n hx hb dX4_decide_0 rfl (lv_at hl 0 rfl) ?_
  refine lv_aload_n hx hb dX4_decide_1 rfl (lv_at hl 0 rfl) ?_
  refine lv_iload_n hx hb dX4_decide_2 rfl (lv_at hl 1 rfl) ?_
  refine k_X4_isClaim_ok l (k := k) (hn := hn) (hk := hk) hx hb hml hown hts hK hP gX4_decide_X4_isClaim ⟨Nat.le_of_ble_eq_true rfl, Nat.le_of_ble_eq_true rfl⟩ ⟨Nat.le_of_ble_eq_true rfl, Nat.le_of_ble_eq_true rfl⟩ hl.1 (Nat.le_of_ble_eq_true rfl) dX4_decide_3 ?_
  refine zi_ne (tgt := 13) hx hb (by decide) dX4_decide_6 (by decide) (fun c_6 => ?_) (fun c_6 => (show False by omega).elim)
  refine lv_aload_n hx hb dX4_decide_13 rfl (lv_at hl 0 rfl) ?_
  refine gM_0_9 hx hb hts hiX4 hown hK hP hf22 dX4_decide_14 ?_
  refine lv_iload_n hx hb dX4_decide_17 rfl (lv_at hl 1 rfl) ?_
  refine lM_5 hx hb hK hP (by omega) dX4_decide_18 ?_
  refine lv_iconst (v := nI 3) hx hb dX4_decide_19 (by decide) ?_
  refine lv_icmp_ne (tgt := 27) hx hb dX4_decide_20 (by decide) (fun c_20 => (show False by exact c_20 h1).elim) (fun c_20 => ?_)
  refine lv_iconst (v := nI 0) hx hb dX4_decide_23 (by decide) ?_
  refine lv_goto (tgt := 28) hx hb dX4_decide_24 (by decide) ?_
  refine k_X4_goes_0 l  hx hb hml hown hts hK hP gX4_decide_X4_goes ⟨Nat.le_of_ble_eq_true rfl, Nat.le_of_ble_eq_true rfl⟩ ⟨Nat.le_of_ble_eq_true rfl, Nat.le_of_ble_eq_true rfl⟩ hl.1 (Nat.le_of_ble_eq_true rfl) dX4_decide_28 hI (fun _ h => h) hS (fun H locs hP hS _ => ?_)
  refine zi_ne (tgt := 36) hx hb (by decide) dX4_decide_31 (by decide) (fun c_31 => ?_) (fun c_31 => (show False by omega).elim)
  refine lv_aload_n hx hb dX4_decide_36 rfl (lv_at hl 0 rfl) ?_
  refine gM_0_9 hx hb hts hiX4 hown hK hP hf22 dX4_decide_37 ?_
  refine lv_iload_n hx hb dX4_decide_40 rfl (lv_at hl 1 rfl) ?_
  refine lv_iload_n hx hb dX4_decide_41 rfl (lv_at hl 2 rfl) ?_
  refine lv_if_eq (tgt := 49) hx hb dX4_decide_42 (by decide) (fun c_42 => ?_) (fun c_42 => ?_)
  · refine lv_iconst (v := nI 2) hx hb dX4_decide_49 (by decide) ?_
    refine sM_5 hx hb hK hP hI (fun _ h => h) hS (by omega) dX4_decide_50 (fun H locs hP hS => ?_)
    have e_1 : upd st k (nI 2) = upd st k (goodS b) := by simp [goodS, c_42]
    rw [e_1] at hP
    refine lv_aload_n hx hb dX4_decide_51 rfl (lv_at hl 0 rfl) ?_
    refine lv_iconst (v := nI 3) hx hb dX4_decide_52 (by decide) ?_
    refine k_X4_countOf l (w := nI 3) (hn := hn) hx hb hml hown hts hK hP gX4_decide_X4_countOf ⟨Nat.le_of_ble_eq_true rfl, Nat.le_of_ble_eq_true rfl⟩ ⟨Nat.le_of_ble_eq_true rfl, Nat.le_of_ble_eq_true rfl⟩ hl.1 (Nat.le_of_ble_eq_true rfl) dX4_decide_53 ?_
    exact W.iret (v := nI (tallyN (upd st k (goodS b)) (nI 3) n)) hx hb hr (fun t ht hW => ⟨⟨nI (tallyN (upd st k (goodS b)) (nI 3) n), (), rfl, rfl, by (try dsimp only); rw [ht]; exact hP⟩, hS.F ht⟩) hS.2.2 dX4_decide_56
  · refine lv_iconst (v := nI 0) hx hb dX4_decide_45 (by decide) ?_
    refine lv_goto (tgt := 50) hx hb dX4_decide_46 (by decide) ?_
    refine sM_5 hx hb hK hP hI (fun _ h => h) hS (by omega) dX4_decide_50 (fun H locs hP hS => ?_)
    have e_2 : upd st k (nI 0) = upd st k (goodS b) := by simp [goodS, c_42]
    rw [e_2] at hP
    refine lv_aload_n hx hb dX4_decide_51 rfl (lv_at hl 0 rfl) ?_
    refine lv_iconst (v := nI 3) hx hb dX4_decide_52 (by decide) ?_
    refine k_X4_countOf l (w := nI 3) (hn := hn) hx hb hml hown hts hK hP gX4_decide_X4_countOf ⟨Nat.le_of_ble_eq_true rfl, Nat.le_of_ble_eq_true rfl⟩ ⟨Nat.le_of_ble_eq_true rfl, Nat.le_of_ble_eq_true rfl⟩ hl.1 (Nat.le_of_ble_eq_true rfl) dX4_decide_53 ?_
    exact W.iret (v := nI (tallyN (upd st k (goodS b)) (nI 3) n)) hx hb hr (fun t ht hW => ⟨⟨nI (tallyN (upd st k (goodS b)) (nI 3) n), (), rfl, rfl, by (try dsimp only); rw [ht]; exact hP⟩, hS.F ht⟩) hS.2.2 dX4_decide_56
section
variable {p : Program} {e : Env} {R : Room} {s : State} {m : MethodId} {args : Array Value} {below : List Frame} {meth : Method} {c : Code} {H : Heap} {locs : List Loc} {cells slots : Nat} {Q : State → Prop} {cc : ByteArray} {pc : Nat} {ls : Array Slot} {rest : List Value} {own : String} {index nL : Nat} {Ts : List Cond} {H0 : Heap} {A0 : Nat → Prop}
theorem k_X4_decide_ok (l : Launch) {dC : Nat → ClassId} {dI : Nat → Nat → Nat} {cI cZ : ClassId} {am : Nat → Nat} {sm fe ex : Int32} {gp gc : Nat → Int32} {dy : Int32} {n : Nat} {pe gr st dl wo : Nat → Int32} {q : Nat} {yc ya yd ys tp fu sh ro : Nat → Int32} {th : Int32} {k : Nat} {b : Int32} (hn : n ≤ 24) (hk : k < n) (h1 : st k = nI 3) (hx : p.tables.exec = Jvm.exec) (hb : c.code = cc) (hml : c.maxLocals = nL) (hown : s.vm.findClass own = some m.cls) (hts : ∀ w ∈ Ts, w.before args s = true) (hK : va_K (dC, dI) vwCl [(cI, .int), (cZ, .boolean)] s) (hP : va_P (dC, dI) vwCl (wM cI cZ am sm fe ex gp gc dy n pe gr st dl wo q yc ya yd ys tp fu sh ro th) H) (hg9 : GoodIn Ts (wsV own index RX4 yX4_decide wsX4_decide)) (hR9 : 2 + 1 ≤ R.frames ∧ 8 + (3 + 11) + 43 ≤ R.locals) (hc9 : cells ≤ R.cells ∧ slots ≤ R.slots) (hl9 : ls.size = nL) (hw9 : (rest.map fun v => v.category).sum ≤ 8) (hdg : decode cc pc = .ok (.invokevirtual index, 3)) (hI : iwM am) (hA : ∀ x, awM am x → A0 x) (hS : va_S A0 H0 H locs) (kk : ∀ (H1 : Heap) (locs1 : List Loc), va_P (dC, dI) vwCl (wM cI cZ am sm fe ex gp gc dy n pe gr (upd st k (goodS b)) dl wo q yc ya yd ys tp fu sh ro (nI 0)) H1 → va_S A0 H0 H1 locs1 → (∀ q : Nat, q < H.size → ¬ awM am q → H1[q]? = H[q]?) → W p l e R s m args below meth c H1 locs1 cells slots Q (F0 m (pc + 3) ls (.int (nI (tallyN (upd st k (goodS b)) (nI 3) n)) :: rest))) : W p l e R s m args below meth c H locs cells slots Q (F0 m pc ls (.int b :: .int (nI k) :: .ref (am 0) :: rest)) := va_calli (va_runV (As := [.int (nI k), .int b]) (rest := rest) ⟨hx, hb, hml, hown, hts⟩ (c_X4_decide_ok (dC := dC) (dI := dI) (cI := cI) (cZ := cZ) (am := am) (sm := sm) (fe := fe) (ex := ex) (gp := gp) (gc := gc) (dy := dy) (n := n) (pe := pe) (gr := gr) (st := st) (dl := dl) (wo := wo) (q := q) (yc := yc) (ya := ya) (yd := yd) (ys := ys) (tp := tp) (fu := fu) (sh := sh) (ro := ro) (th := th) (k := k) (b := b) l hI hn hk h1) (cwV 2 hts hg9 rfl rfl rfl (by decide +kernel) hR9) ⟨fun a U g mk q => ⟨q.1, q.2.1, va_K.moved (u := U) (U := U.calling g mk a) (Vm.Alike.refl U.vm) q.2.2⟩, rM_0 hK hP, fun U hU hW => ⟨rfl, by rw [hU]; exact hP, va_K.moved hW.alike hK⟩⟩ rfl rfl hl9 rfl (lv_room hw9) hdg hc9) hS (fun q _ h => hA q h) hA (fun r u t H1 locs1 ht _ hu hB hz hk hS1 => by subst hu; exact kk H1 locs1 (by rw [ht] at hB; exact hB) hS1 hk)
end
set_option maxHeartbeats 4000000 in
set_option maxRecDepth 100000 in
theorem c_X4_decide_2 (l : Launch) {dC : Nat → ClassId} {dI : Nat → Nat → Nat} {cI cZ : ClassId} {am : Nat → Nat} {sm fe ex : Int32} {gp gc : Nat → Int32} {dy : Int32} {n : Nat} {pe gr st dl wo : Nat → Int32} {q : Nat} {yc ya yd ys tp fu sh ro : Nat → Int32} {th : Int32} {k : Nat} {b : Int32} (hI : iwM am) (hn : n ≤ 24) (hk : k < n) (h1 : ¬ st k = nI 3) : Met l yX4_decide wsX4_decide { frames := 2, cells := 0, slots := 0, locals := 43 } (va_Pc [.ref (am 0), .int (nI k), .int b] (fun U => va_P (dC, dI) vwCl (wM cI cZ am sm fe ex gp gc dy n pe gr st dl wo q yc ya yd ys tp fu sh ro th) U.heap ∧ va_K (dC, dI) vwCl [(cI, .int), (cZ, .boolean)] U)) (va_Qi (fun r (_ : Unit) => r = nI 0) (fun _ t => va_P (dC, dI) vwCl (wM cI cZ am sm fe ex gp gc dy n pe gr st dl wo q yc ya yd ys tp fu sh ro (nI 2)) t.heap) (awM am)) 0 0 (awM am) := by
  refine Met.ofW (cc := cX4_decide) (maxL := 3) (ret := (some .int)) (by decide) rfl ?_
  intro p e s m args below meth c s₁ B hml hv
  obtain ⟨rfl, hP, hK⟩ := hv
  have hx := B.exec
  have hb := B.bytes
  have hr := B.returns
  have hts := atoms_spec (ws := wsX4_decide) B.pre
  have hown : s.vm.findClass RX4 = some m.cls := findClass_of_methodNamed B.named
  have hlocks := B.notSynchronized
  have hS : va_S (awM am) s.heap s.heap [] := va_S.rf
  have hl := lv_entry ([.ref (am 0), .int (nI k), .int b]) (n := 3) (Nat.le_of_ble_eq_true rfl)
  rw [lg_entry_eq]
  generalize (lg_sl ([.ref (am 0), .int (nI k), .int b]) ++ List.replicate (3 - (lg_sl ([.ref (am 0), .int (nI k), .int b])).length) Slot.unset).toArray = ls at hl ⊢
  have hl : lv_has ls 3 [(0, .ref (am 0)), (1, .int (nI k)), (2, .int b)] := hl
  have hiX4 : ∀ w ∈ wsX40, w ∈ wsX4_decide := by decide +kernel
  have hf22 := hts (.fieldLink RX4 22 "SettlementFundModel" "states" "[I") (by decide +kernel)
  refine lv_aload_n hx hb dX4_decide_0 rfl (lv_at hl 0 rfl) ?_
  refine lv_aload_n hx hb dX4_decide_1 rfl (lv_at hl 0 rfl) ?_
  refine lv_iload_n hx hb dX4_decide_2 rfl (lv_at hl 1 rfl) ?_
  refine k_X4_isClaim_ok l (k := k) (hn := hn) (hk := hk) hx hb hml hown hts hK hP gX4_decide_X4_isClaim ⟨Nat.le_of_ble_eq_true rfl, Nat.le_of_ble_eq_true rfl⟩ ⟨Nat.le_of_ble_eq_true rfl, Nat.le_of_ble_eq_true rfl⟩ hl.1 (Nat.le_of_ble_eq_true rfl) dX4_decide_3 ?_
  refine zi_ne (tgt := 13) hx hb (by decide) dX4_decide_6 (by decide) (fun c_6 => ?_) (fun c_6 => (show False by omega).elim)
  refine lv_aload_n hx hb dX4_decide_13 rfl (lv_at hl 0 rfl) ?_
  refine gM_0_9 hx hb hts hiX4 hown hK hP hf22 dX4_decide_14 ?_
  refine lv_iload_n hx hb dX4_decide_17 rfl (lv_at hl 1 rfl) ?_
  refine lM_5 hx hb hK hP (by omega) dX4_decide_18 ?_
  refine lv_iconst (v := nI 3) hx hb dX4_decide_19 (by decide) ?_
  refine lv_icmp_ne (tgt := 27) hx hb dX4_decide_20 (by decide) (fun c_20 => ?_) (fun c_20 => (show False by exact h1 c_20).elim)
  refine lv_iconst (v := nI 2) hx hb dX4_decide_27 (by decide) ?_
  refine k_X4_goes_k l (k := 2) (hk := by decide) (h2 := by decide) hx hb hml hown hts hK hP gX4_decide_X4_goes ⟨Nat.le_of_ble_eq_true rfl, Nat.le_of_ble_eq_true rfl⟩ ⟨Nat.le_of_ble_eq_true rfl, Nat.le_of_ble_eq_true rfl⟩ hl.1 (Nat.le_of_ble_eq_true rfl) dX4_decide_28 hI (fun _ h => h) hS (fun H locs hP hS _ => ?_)
  refine zi_ne (tgt := 36) hx hb (by decide) dX4_decide_31 (by decide) (fun c_31 => (show False by omega).elim) (fun c_31 => ?_)
  refine lv_iconst (v := nI 0) hx hb dX4_decide_34 (by decide) ?_
  exact W.iret (v := nI 0) hx hb hr (fun t ht hW => ⟨⟨nI 0, (), rfl, rfl, by (try dsimp only); rw [ht]; exact hP⟩, hS.F ht⟩) hS.2.2 dX4_decide_35
section
variable {p : Program} {e : Env} {R : Room} {s : State} {m : MethodId} {args : Array Value} {below : List Frame} {meth : Method} {c : Code} {H : Heap} {locs : List Loc} {cells slots : Nat} {Q : State → Prop} {cc : ByteArray} {pc : Nat} {ls : Array Slot} {rest : List Value} {own : String} {index nL : Nat} {Ts : List Cond} {H0 : Heap} {A0 : Nat → Prop}
theorem k_X4_decide_2 (l : Launch) {dC : Nat → ClassId} {dI : Nat → Nat → Nat} {cI cZ : ClassId} {am : Nat → Nat} {sm fe ex : Int32} {gp gc : Nat → Int32} {dy : Int32} {n : Nat} {pe gr st dl wo : Nat → Int32} {q : Nat} {yc ya yd ys tp fu sh ro : Nat → Int32} {th : Int32} {k : Nat} {b : Int32} (hn : n ≤ 24) (hk : k < n) (h1 : ¬ st k = nI 3) (hx : p.tables.exec = Jvm.exec) (hb : c.code = cc) (hml : c.maxLocals = nL) (hown : s.vm.findClass own = some m.cls) (hts : ∀ w ∈ Ts, w.before args s = true) (hK : va_K (dC, dI) vwCl [(cI, .int), (cZ, .boolean)] s) (hP : va_P (dC, dI) vwCl (wM cI cZ am sm fe ex gp gc dy n pe gr st dl wo q yc ya yd ys tp fu sh ro th) H) (hg9 : GoodIn Ts (wsV own index RX4 yX4_decide wsX4_decide)) (hR9 : 2 + 1 ≤ R.frames ∧ 8 + (3 + 11) + 43 ≤ R.locals) (hc9 : cells ≤ R.cells ∧ slots ≤ R.slots) (hl9 : ls.size = nL) (hw9 : (rest.map fun v => v.category).sum ≤ 8) (hdg : decode cc pc = .ok (.invokevirtual index, 3)) (hI : iwM am) (hA : ∀ x, awM am x → A0 x) (hS : va_S A0 H0 H locs) (kk : ∀ (H1 : Heap) (locs1 : List Loc), va_P (dC, dI) vwCl (wM cI cZ am sm fe ex gp gc dy n pe gr st dl wo q yc ya yd ys tp fu sh ro (nI 2)) H1 → va_S A0 H0 H1 locs1 → (∀ q : Nat, q < H.size → ¬ awM am q → H1[q]? = H[q]?) → W p l e R s m args below meth c H1 locs1 cells slots Q (F0 m (pc + 3) ls (.int (nI 0) :: rest))) : W p l e R s m args below meth c H locs cells slots Q (F0 m pc ls (.int b :: .int (nI k) :: .ref (am 0) :: rest)) := va_calli (va_runV (As := [.int (nI k), .int b]) (rest := rest) ⟨hx, hb, hml, hown, hts⟩ (c_X4_decide_2 (dC := dC) (dI := dI) (cI := cI) (cZ := cZ) (am := am) (sm := sm) (fe := fe) (ex := ex) (gp := gp) (gc := gc) (dy := dy) (n := n) (pe := pe) (gr := gr) (st := st) (dl := dl) (wo := wo) (q := q) (yc := yc) (ya := ya) (yd := yd) (ys := ys) (tp := tp) (fu := fu) (sh := sh) (ro := ro) (th := th) (k := k) (b := b) l hI hn hk h1) (cwV 2 hts hg9 rfl rfl rfl (by decide +kernel) hR9) ⟨fun a U g mk q => ⟨q.1, q.2.1, va_K.moved (u := U) (U := U.calling g mk a) (Vm.Alike.refl U.vm) q.2.2⟩, rM_0 hK hP, fun U hU hW => ⟨rfl, by rw [hU]; exact hP, va_K.moved hW.alike hK⟩⟩ rfl rfl hl9 rfl (lv_room hw9) hdg hc9) hS (fun q _ h => hA q h) hA (fun r u t H1 locs1 ht _ hu hB hz hk hS1 => by subst hu; exact kk H1 locs1 (by rw [ht] at hB; exact hB) hS1 hk)
end
set_option maxHeartbeats 4000000 in
set_option maxRecDepth 100000 in
theorem c_X4_cash_no (l : Launch) {dC : Nat → ClassId} {dI : Nat → Nat → Nat} {cI cZ : ClassId} {am : Nat → Nat} {sm fe ex : Int32} {gp gc : Nat → Int32} {dy : Int32} {n : Nat} {pe gr st dl wo : Nat → Int32} {q : Nat} {yc ya yd ys tp fu sh ro : Nat → Int32} {th : Int32} {x : Int32} (hI : iwM am) (hq : q ≤ 100) (hk : ¬ vp_in x q) : Met l yX4_cash wsX4_cash { frames := 2, cells := 0, slots := 0, locals := 43 } (va_Pc [.ref (am 0), .int x] (fun U => va_P (dC, dI) vwCl (wM cI cZ am sm fe ex gp gc dy n pe gr st dl wo q yc ya yd ys tp fu sh ro th) U.heap ∧ va_K (dC, dI) vwCl [(cI, .int), (cZ, .boolean)] U)) (va_Qi (fun r (_ : Unit) => r = nI 0) (fun _ t => va_P (dC, dI) vwCl (wM cI cZ am sm fe ex gp gc dy n pe gr st dl wo q yc ya yd ys tp fu sh ro (nI 1)) t.heap) (awM am)) 0 0 (awM am) := by
  refine Met.ofW (cc := cX4_cash) (maxL := 2) (ret := (some .int)) (by decide) rfl ?_
  intro p e s m args below meth c s₁ B hml hv
  obtain ⟨rfl, hP, hK⟩ := hv
  have hx := B.exec
  have hb := B.bytes
  have hr := B.returns
  have hts := atoms_spec (ws := wsX4_cash) B.pre
  have hown : s.vm.findClass RX4 = some m.cls := findClass_of_methodNamed B.named
  have hlocks := B.notSynchronized
  have hS : va_S (awM am) s.heap s.heap [] := va_S.rf
  have hl := lv_entry ([.ref (am 0), .int x]) (n := 2) (Nat.le_of_ble_eq_true rfl)
  rw [lg_entry_eq]
  generalize (lg_sl ([.ref (am 0), .int x]) ++ List.replicate (2 - (lg_sl ([.ref (am 0), .int x])).length) Slot.unset).toArray = ls at hl ⊢
  have hl : lv_has ls 2 [(0, .ref (am 0)), (1, .int x)] := hl
  refine lv_aload_n hx hb dX4_cash_0 rfl (lv_at hl 0 rfl) ?_
  refine lv_aload_n hx hb dX4_cash_1 rfl (lv_at hl 0 rfl) ?_
  refine lv_iload_n hx hb dX4_cash_2 rfl (lv_at hl 1 rfl) ?_
  refine k_X4_isPayment_no l (x := x) (hq := hq) (hk := hk) hx hb hml hown hts hK hP gX4_cash_X4_isPayment ⟨Nat.le_of_ble_eq_true rfl, Nat.le_of_ble_eq_true rfl⟩ ⟨Nat.le_of_ble_eq_true rfl, Nat.le_of_ble_eq_true rfl⟩ hl.1 (Nat.le_of_ble_eq_true rfl) dX4_cash_3 ?_
  refine zi_ne (tgt := 13) hx hb (by decide) dX4_cash_6 (by decide) (fun c_6 => (show False by omega).elim) (fun c_6 => ?_)
  refine lv_iconst (v := nI 1) hx hb dX4_cash_9 (by decide) ?_
  refine lv_goto (tgt := 27) hx hb dX4_cash_10 (by decide) ?_
  refine k_X4_goes_k l (k := 1) (hk := by decide) (h2 := by decide) hx hb hml hown hts hK hP gX4_cash_X4_goes ⟨Nat.le_of_ble_eq_true rfl, Nat.le_of_ble_eq_true rfl⟩ ⟨Nat.le_of_ble_eq_true rfl, Nat.le_of_ble_eq_true rfl⟩ hl.1 (Nat.le_of_ble_eq_true rfl) dX4_cash_27 hI (fun _ h => h) hS (fun H locs hP hS _ => ?_)
  refine zi_ne (tgt := 35) hx hb (by decide) dX4_cash_30 (by decide) (fun c_30 => (show False by omega).elim) (fun c_30 => ?_)
  refine lv_iconst (v := nI 0) hx hb dX4_cash_33 (by decide) ?_
  exact W.iret (v := nI 0) hx hb hr (fun t ht hW => ⟨⟨nI 0, (), rfl, rfl, by (try dsimp only); rw [ht]; exact hP⟩, hS.F ht⟩) hS.2.2 dX4_cash_34
section
variable {p : Program} {e : Env} {R : Room} {s : State} {m : MethodId} {args : Array Value} {below : List Frame} {meth : Method} {c : Code} {H : Heap} {locs : List Loc} {cells slots : Nat} {Q : State → Prop} {cc : ByteArray} {pc : Nat} {ls : Array Slot} {rest : List Value} {own : String} {index nL : Nat} {Ts : List Cond} {H0 : Heap} {A0 : Nat → Prop}
theorem k_X4_cash_no (l : Launch) {dC : Nat → ClassId} {dI : Nat → Nat → Nat} {cI cZ : ClassId} {am : Nat → Nat} {sm fe ex : Int32} {gp gc : Nat → Int32} {dy : Int32} {n : Nat} {pe gr st dl wo : Nat → Int32} {q : Nat} {yc ya yd ys tp fu sh ro : Nat → Int32} {th : Int32} {x : Int32} (hq : q ≤ 100) (hk : ¬ vp_in x q) (hx : p.tables.exec = Jvm.exec) (hb : c.code = cc) (hml : c.maxLocals = nL) (hown : s.vm.findClass own = some m.cls) (hts : ∀ w ∈ Ts, w.before args s = true) (hK : va_K (dC, dI) vwCl [(cI, .int), (cZ, .boolean)] s) (hP : va_P (dC, dI) vwCl (wM cI cZ am sm fe ex gp gc dy n pe gr st dl wo q yc ya yd ys tp fu sh ro th) H) (hg9 : GoodIn Ts (wsV own index RX4 yX4_cash wsX4_cash)) (hR9 : 2 + 1 ≤ R.frames ∧ 8 + (2 + 11) + 43 ≤ R.locals) (hc9 : cells ≤ R.cells ∧ slots ≤ R.slots) (hl9 : ls.size = nL) (hw9 : (rest.map fun v => v.category).sum ≤ 8) (hdg : decode cc pc = .ok (.invokevirtual index, 3)) (hI : iwM am) (hA : ∀ x, awM am x → A0 x) (hS : va_S A0 H0 H locs) (kk : ∀ (H1 : Heap) (locs1 : List Loc), va_P (dC, dI) vwCl (wM cI cZ am sm fe ex gp gc dy n pe gr st dl wo q yc ya yd ys tp fu sh ro (nI 1)) H1 → va_S A0 H0 H1 locs1 → (∀ q : Nat, q < H.size → ¬ awM am q → H1[q]? = H[q]?) → W p l e R s m args below meth c H1 locs1 cells slots Q (F0 m (pc + 3) ls (.int (nI 0) :: rest))) : W p l e R s m args below meth c H locs cells slots Q (F0 m pc ls (.int x :: .ref (am 0) :: rest)) := va_calli (va_runV (As := [.int x]) (rest := rest) ⟨hx, hb, hml, hown, hts⟩ (c_X4_cash_no (dC := dC) (dI := dI) (cI := cI) (cZ := cZ) (am := am) (sm := sm) (fe := fe) (ex := ex) (gp := gp) (gc := gc) (dy := dy) (n := n) (pe := pe) (gr := gr) (st := st) (dl := dl) (wo := wo) (q := q) (yc := yc) (ya := ya) (yd := yd) (ys := ys) (tp := tp) (fu := fu) (sh := sh) (ro := ro) (th := th) (x := x) l hI hq hk) (cwV 1 hts hg9 rfl rfl rfl (by decide +kernel) hR9) ⟨fun a U g mk q => ⟨q.1, q.2.1, va_K.moved (u := U) (U := U.calling g mk a) (Vm.Alike.refl U.vm) q.2.2⟩, rM_0 hK hP, fun U hU hW => ⟨rfl, by rw [hU]; exact hP, va_K.moved hW.alike hK⟩⟩ rfl rfl hl9 rfl (lv_room hw9) hdg hc9) hS (fun q _ h => hA q h) hA (fun r u t H1 locs1 ht _ hu hB hz hk hS1 => by subst hu; exact kk H1 locs1 (by rw [ht] at hB; exact hB) hS1 hk)
end
set_option maxHeartbeats 4000000 in
set_option maxRecDepth 100000 in
theorem c_X4_cash_ok (l : Launch) {dC : Nat → ClassId} {dI : Nat → Nat → Nat} {cI cZ : ClassId} {am : Nat → Nat} {sm fe ex : Int32} {gp gc : Nat → Int32} {dy : Int32} {n : Nat} {pe gr st dl wo : Nat → Int32} {q : Nat} {yc ya yd ys tp fu sh ro : Nat → Int32} {th : Int32} {k : Nat} (hI : iwM am) (hq : q ≤ 100) (hk : k < q) (h1 : ys k = 0) : Met l yX4_cash wsX4_cash { frames := 2, cells := 0, slots := 0, locals := 43 } (va_Pc [.ref (am 0), .int (nI k)] (fun U => va_P (dC, dI) vwCl (wM cI cZ am sm fe ex gp gc dy n pe gr st dl wo q yc ya yd ys tp fu sh ro th) U.heap ∧ va_K (dC, dI) vwCl [(cI, .int), (cZ, .boolean)] U)) (va_Qi (fun r (_ : Unit) => r = ya k) (fun _ t => va_P (dC, dI) vwCl (wM cI cZ am sm fe ex gp gc dy n pe gr st dl wo q yc ya yd (upd ys k (nI 1)) tp fu sh ro (nI 0)) t.heap) (awM am)) 0 0 (awM am) := by
  refine Met.ofW (cc := cX4_cash) (maxL := 2) (ret := (some .int)) (by decide) rfl ?_
  intro p e s m args below meth c s₁ B hml hv
  obtain ⟨rfl, hP, hK⟩ := hv
  have hx := B.exec
  have hb := B.bytes
  have hr := B.returns
  have hts := atoms_spec (ws := wsX4_cash) B.pre
  have hown : s.vm.findClass RX4 = some m.cls := findClass_of_methodNamed B.named
  have hlocks := B.notSynchronized
  have hS : va_S (awM am) s.heap s.heap [] := va_S.rf
  have hl := lv_entry ([.ref (am 0), .int (nI k)]) (n := 2) (Nat.le_of_ble_eq_true rfl)
  rw [lg_entry_eq]
  generalize (lg_sl ([.ref (am 0), .int (nI k)]) ++ List.replicate (2 - (lg_sl ([.ref (am 0), .int (nI k)])).length) Slot.unset).toArray = ls at hl ⊢
  have hl : lv_has ls 2 [(0, .ref (am 0)), (1, .int (nI k))] := hl
  have hiX4 : ∀ w ∈ wsX40, w ∈ wsX4_cash := by decide +kernel
  have hf41 := hts (.fieldLink RX4 41 "SettlementFundModel" "paymentStates" "[I") (by decide +kernel)
  have hf35 := hts (.fieldLink RX4 35 "SettlementFundModel" "amounts" "[I") (by decide +kernel)
  refine lv_aload_n hx hb dX4_cash_0 rfl (lv_at hl 0 rfl) ?_
  refine lv_aload_n hx hb dX4_cash_1 rfl (lv_at hl 0 rfl) ?_
  refine lv_iload_n hx hb dX4_cash_2 rfl (lv_at hl 1 rfl) ?_
  refine k_X4_isPayment_ok l (k := k) (hq := hq) (hk := hk) hx hb hml hown hts hK hP gX4_cash_X4_isPayment ⟨Nat.le_of_ble_eq_true rfl, Nat.le_of_ble_eq_true rfl⟩ ⟨Nat.le_of_ble_eq_true rfl, Nat.le_of_ble_eq_true rfl⟩ hl.1 (Nat.le_of_ble_eq_true rfl) dX4_cash_3 ?_
  refine zi_ne (tgt := 13) hx hb (by decide) dX4_cash_6 (by decide) (fun c_6 => ?_) (fun c_6 => (show False by omega).elim)
  refine lv_aload_n hx hb dX4_cash_13 rfl (lv_at hl 0 rfl) ?_
  refine gM_0_16 hx hb hts hiX4 hown hK hP hf41 dX4_cash_14 ?_
  refine lv_iload_n hx hb dX4_cash_17 rfl (lv_at hl 1 rfl) ?_
  refine lM_11 hx hb hK hP (by omega) dX4_cash_18 ?_
  refine lv_if_ne (tgt := 26) hx hb dX4_cash_19 (by decide) (fun c_19 => (show False by exact c_19 h1).elim) (fun c_19 => ?_)
  refine lv_iconst (v := nI 0) hx hb dX4_cash_22 (by decide) ?_
  refine lv_goto (tgt := 27) hx hb dX4_cash_23 (by decide) ?_
  refine k_X4_goes_0 l  hx hb hml hown hts hK hP gX4_cash_X4_goes ⟨Nat.le_of_ble_eq_true rfl, Nat.le_of_ble_eq_true rfl⟩ ⟨Nat.le_of_ble_eq_true rfl, Nat.le_of_ble_eq_true rfl⟩ hl.1 (Nat.le_of_ble_eq_true rfl) dX4_cash_27 hI (fun _ h => h) hS (fun H locs hP hS _ => ?_)
  refine zi_ne (tgt := 35) hx hb (by decide) dX4_cash_30 (by decide) (fun c_30 => ?_) (fun c_30 => (show False by omega).elim)
  refine lv_aload_n hx hb dX4_cash_35 rfl (lv_at hl 0 rfl) ?_
  refine gM_0_16 hx hb hts hiX4 hown hK hP hf41 dX4_cash_36 ?_
  refine lv_iload_n hx hb dX4_cash_39 rfl (lv_at hl 1 rfl) ?_
  refine lv_iconst (v := nI 1) hx hb dX4_cash_40 (by decide) ?_
  refine sM_11 hx hb hK hP hI (fun _ h => h) hS (by omega) dX4_cash_41 (fun H locs hP hS => ?_)
  refine lv_aload_n hx hb dX4_cash_42 rfl (lv_at hl 0 rfl) ?_
  refine gM_0_14 hx hb hts hiX4 hown hK hP hf35 dX4_cash_43 ?_
  refine lv_iload_n hx hb dX4_cash_46 rfl (lv_at hl 1 rfl) ?_
  refine lM_9 hx hb hK hP (by omega) dX4_cash_47 ?_
  exact W.iret (v := ya k) hx hb hr (fun t ht hW => ⟨⟨ya k, (), rfl, rfl, by (try dsimp only); rw [ht]; exact hP⟩, hS.F ht⟩) hS.2.2 dX4_cash_48
section
variable {p : Program} {e : Env} {R : Room} {s : State} {m : MethodId} {args : Array Value} {below : List Frame} {meth : Method} {c : Code} {H : Heap} {locs : List Loc} {cells slots : Nat} {Q : State → Prop} {cc : ByteArray} {pc : Nat} {ls : Array Slot} {rest : List Value} {own : String} {index nL : Nat} {Ts : List Cond} {H0 : Heap} {A0 : Nat → Prop}
theorem k_X4_cash_ok (l : Launch) {dC : Nat → ClassId} {dI : Nat → Nat → Nat} {cI cZ : ClassId} {am : Nat → Nat} {sm fe ex : Int32} {gp gc : Nat → Int32} {dy : Int32} {n : Nat} {pe gr st dl wo : Nat → Int32} {q : Nat} {yc ya yd ys tp fu sh ro : Nat → Int32} {th : Int32} {k : Nat} (hq : q ≤ 100) (hk : k < q) (h1 : ys k = 0) (hx : p.tables.exec = Jvm.exec) (hb : c.code = cc) (hml : c.maxLocals = nL) (hown : s.vm.findClass own = some m.cls) (hts : ∀ w ∈ Ts, w.before args s = true) (hK : va_K (dC, dI) vwCl [(cI, .int), (cZ, .boolean)] s) (hP : va_P (dC, dI) vwCl (wM cI cZ am sm fe ex gp gc dy n pe gr st dl wo q yc ya yd ys tp fu sh ro th) H) (hg9 : GoodIn Ts (wsV own index RX4 yX4_cash wsX4_cash)) (hR9 : 2 + 1 ≤ R.frames ∧ 8 + (2 + 11) + 43 ≤ R.locals) (hc9 : cells ≤ R.cells ∧ slots ≤ R.slots) (hl9 : ls.size = nL) (hw9 : (rest.map fun v => v.category).sum ≤ 8) (hdg : decode cc pc = .ok (.invokevirtual index, 3)) (hI : iwM am) (hA : ∀ x, awM am x → A0 x) (hS : va_S A0 H0 H locs) (kk : ∀ (H1 : Heap) (locs1 : List Loc), va_P (dC, dI) vwCl (wM cI cZ am sm fe ex gp gc dy n pe gr st dl wo q yc ya yd (upd ys k (nI 1)) tp fu sh ro (nI 0)) H1 → va_S A0 H0 H1 locs1 → (∀ q : Nat, q < H.size → ¬ awM am q → H1[q]? = H[q]?) → W p l e R s m args below meth c H1 locs1 cells slots Q (F0 m (pc + 3) ls (.int (ya k) :: rest))) : W p l e R s m args below meth c H locs cells slots Q (F0 m pc ls (.int (nI k) :: .ref (am 0) :: rest)) := va_calli (va_runV (As := [.int (nI k)]) (rest := rest) ⟨hx, hb, hml, hown, hts⟩ (c_X4_cash_ok (dC := dC) (dI := dI) (cI := cI) (cZ := cZ) (am := am) (sm := sm) (fe := fe) (ex := ex) (gp := gp) (gc := gc) (dy := dy) (n := n) (pe := pe) (gr := gr) (st := st) (dl := dl) (wo := wo) (q := q) (yc := yc) (ya := ya) (yd := yd) (ys := ys) (tp := tp) (fu := fu) (sh := sh) (ro := ro) (th := th) (k := k) l hI hq hk h1) (cwV 1 hts hg9 rfl rfl rfl (by decide +kernel) hR9) ⟨fun a U g mk q => ⟨q.1, q.2.1, va_K.moved (u := U) (U := U.calling g mk a) (Vm.Alike.refl U.vm) q.2.2⟩, rM_0 hK hP, fun U hU hW => ⟨rfl, by rw [hU]; exact hP, va_K.moved hW.alike hK⟩⟩ rfl rfl hl9 rfl (lv_room hw9) hdg hc9) hS (fun q _ h => hA q h) hA (fun r u t H1 locs1 ht _ hu hB hz hk hS1 => by subst hu; exact kk H1 locs1 (by rw [ht] at hB; exact hB) hS1 hk)
end
set_option maxHeartbeats 4000000 in
set_option maxRecDepth 100000 in
theorem c_X4_cash_2 (l : Launch) {dC : Nat → ClassId} {dI : Nat → Nat → Nat} {cI cZ : ClassId} {am : Nat → Nat} {sm fe ex : Int32} {gp gc : Nat → Int32} {dy : Int32} {n : Nat} {pe gr st dl wo : Nat → Int32} {q : Nat} {yc ya yd ys tp fu sh ro : Nat → Int32} {th : Int32} {k : Nat} (hI : iwM am) (hq : q ≤ 100) (hk : k < q) (h1 : ¬ ys k = 0) : Met l yX4_cash wsX4_cash { frames := 2, cells := 0, slots := 0, locals := 43 } (va_Pc [.ref (am 0), .int (nI k)] (fun U => va_P (dC, dI) vwCl (wM cI cZ am sm fe ex gp gc dy n pe gr st dl wo q yc ya yd ys tp fu sh ro th) U.heap ∧ va_K (dC, dI) vwCl [(cI, .int), (cZ, .boolean)] U)) (va_Qi (fun r (_ : Unit) => r = nI 0) (fun _ t => va_P (dC, dI) vwCl (wM cI cZ am sm fe ex gp gc dy n pe gr st dl wo q yc ya yd ys tp fu sh ro (nI 2)) t.heap) (awM am)) 0 0 (awM am) := by
  refine Met.ofW (cc := cX4_cash) (maxL := 2) (ret := (some .int)) (by decide) rfl ?_
  intro p e s m args below meth c s₁ B hml hv
  obtain ⟨rfl, hP, hK⟩ := hv
  have hx := B.exec
  have hb := B.bytes
  have hr := B.returns
  have hts := atoms_spec (ws := wsX4_cash) B.pre
  have hown : s.vm.findClass RX4 = some m.cls := findClass_of_methodNamed B.named
  have hlocks := B.notSynchronized
  have hS : va_S (awM am) s.heap s.heap [] := va_S.rf
  have hl := lv_entry ([.ref (am 0), .int (nI k)]) (n := 2) (Nat.le_of_ble_eq_true rfl)
  rw [lg_entry_eq]
  generalize (lg_sl ([.ref (am 0), .int (nI k)]) ++ List.replicate (2 - (lg_sl ([.ref (am 0), .int (nI k)])).length) Slot.unset).toArray = ls at hl ⊢
  have hl : lv_has ls 2 [(0, .ref (am 0)), (1, .int (nI k))] := hl
  have hiX4 : ∀ w ∈ wsX40, w ∈ wsX4_cash := by decide +kernel
  have hf41 := hts (.fieldLink RX4 41 "SettlementFundModel" "paymentStates" "[I") (by decide +kernel)
  refine lv_aload_n hx hb dX4_cash_0 rfl (lv_at hl 0 rfl) ?_
  refine lv_aload_n hx hb dX4_cash_1 rfl (lv_at hl 0 rfl) ?_
  refine lv_iload_n hx hb dX4_cash_2 rfl (lv_at hl 1 rfl) ?_
  refine k_X4_isPayment_ok l (k := k) (hq := hq) (hk := hk) hx hb hml hown hts hK hP gX4_cash_X4_isPayment ⟨Nat.le_of_ble_eq_true rfl, Nat.le_of_ble_eq_true rfl⟩ ⟨Nat.le_of_ble_eq_true rfl, Nat.le_of_ble_eq_true rfl⟩ hl.1 (Nat.le_of_ble_eq_true rfl) dX4_cash_3 ?_
  refine zi_ne (tgt := 13) hx hb (by decide) dX4_cash_6 (by decide) (fun c_6 => ?_) (fun c_6 => (show False by omega).elim)
  refine lv_aload_n hx hb dX4_cash_13 rfl (lv_at hl 0 rfl) ?_
  refine gM_0_16 hx hb hts hiX4 hown hK hP hf41 dX4_cash_14 ?_
  refine lv_iload_n hx hb dX4_cash_17 rfl (lv_at hl 1 rfl) ?_
  refine lM_11 hx hb hK hP (by omega) dX4_cash_18 ?_
  refine lv_if_ne (tgt := 26) hx hb dX4_cash_19 (by decide) (fun c_19 => ?_) (fun c_19 => (show False by exact h1 c_19).elim)
  refine lv_iconst (v := nI 2) hx hb dX4_cash_26 (by decide) ?_
  refine k_X4_goes_k l (k := 2) (hk := by decide) (h2 := by decide) hx hb hml hown hts hK hP gX4_cash_X4_goes ⟨Nat.le_of_ble_eq_true rfl, Nat.le_of_ble_eq_true rfl⟩ ⟨Nat.le_of_ble_eq_true rfl, Nat.le_of_ble_eq_true rfl⟩ hl.1 (Nat.le_of_ble_eq_true rfl) dX4_cash_27 hI (fun _ h => h) hS (fun H locs hP hS _ => ?_)
  refine zi_ne (tgt := 35) hx hb (by decide) dX4_cash_30 (by decide) (fun c_30 => (show False by omega).elim) (fun c_30 => ?_)
  refine lv_iconst (v := nI 0) hx hb dX4_cash_33 (by decide) ?_
  exact W.iret (v := nI 0) hx hb hr (fun t ht hW => ⟨⟨nI 0, (), rfl, rfl, by (try dsimp only); rw [ht]; exact hP⟩, hS.F ht⟩) hS.2.2 dX4_cash_34
section
variable {p : Program} {e : Env} {R : Room} {s : State} {m : MethodId} {args : Array Value} {below : List Frame} {meth : Method} {c : Code} {H : Heap} {locs : List Loc} {cells slots : Nat} {Q : State → Prop} {cc : ByteArray} {pc : Nat} {ls : Array Slot} {rest : List Value} {own : String} {index nL : Nat} {Ts : List Cond} {H0 : Heap} {A0 : Nat → Prop}
theorem k_X4_cash_2 (l : Launch) {dC : Nat → ClassId} {dI : Nat → Nat → Nat} {cI cZ : ClassId} {am : Nat → Nat} {sm fe ex : Int32} {gp gc : Nat → Int32} {dy : Int32} {n : Nat} {pe gr st dl wo : Nat → Int32} {q : Nat} {yc ya yd ys tp fu sh ro : Nat → Int32} {th : Int32} {k : Nat} (hq : q ≤ 100) (hk : k < q) (h1 : ¬ ys k = 0) (hx : p.tables.exec = Jvm.exec) (hb : c.code = cc) (hml : c.maxLocals = nL) (hown : s.vm.findClass own = some m.cls) (hts : ∀ w ∈ Ts, w.before args s = true) (hK : va_K (dC, dI) vwCl [(cI, .int), (cZ, .boolean)] s) (hP : va_P (dC, dI) vwCl (wM cI cZ am sm fe ex gp gc dy n pe gr st dl wo q yc ya yd ys tp fu sh ro th) H) (hg9 : GoodIn Ts (wsV own index RX4 yX4_cash wsX4_cash)) (hR9 : 2 + 1 ≤ R.frames ∧ 8 + (2 + 11) + 43 ≤ R.locals) (hc9 : cells ≤ R.cells ∧ slots ≤ R.slots) (hl9 : ls.size = nL) (hw9 : (rest.map fun v => v.category).sum ≤ 8) (hdg : decode cc pc = .ok (.invokevirtual index, 3)) (hI : iwM am) (hA : ∀ x, awM am x → A0 x) (hS : va_S A0 H0 H locs) (kk : ∀ (H1 : Heap) (locs1 : List Loc), va_P (dC, dI) vwCl (wM cI cZ am sm fe ex gp gc dy n pe gr st dl wo q yc ya yd ys tp fu sh ro (nI 2)) H1 → va_S A0 H0 H1 locs1 → (∀ q : Nat, q < H.size → ¬ awM am q → H1[q]? = H[q]?) → W p l e R s m args below meth c H1 locs1 cells slots Q (F0 m (pc + 3) ls (.int (nI 0) :: rest))) : W p l e R s m args below meth c H locs cells slots Q (F0 m pc ls (.int (nI k) :: .ref (am 0) :: rest)) := va_calli (va_runV (As := [.int (nI k)]) (rest := rest) ⟨hx, hb, hml, hown, hts⟩ (c_X4_cash_2 (dC := dC) (dI := dI) (cI := cI) (cZ := cZ) (am := am) (sm := sm) (fe := fe) (ex := ex) (gp := gp) (gc := gc) (dy := dy) (n := n) (pe := pe) (gr := gr) (st := st) (dl := dl) (wo := wo) (q := q) (yc := yc) (ya := ya) (yd := yd) (ys := ys) (tp := tp) (fu := fu) (sh := sh) (ro := ro) (th := th) (k := k) l hI hq hk h1) (cwV 1 hts hg9 rfl rfl rfl (by decide +kernel) hR9) ⟨fun a U g mk q => ⟨q.1, q.2.1, va_K.moved (u := U) (U := U.calling g mk a) (Vm.Alike.refl U.vm) q.2.2⟩, rM_0 hK hP, fun U hU hW => ⟨rfl, by rw [hU]; exact hP, va_K.moved hW.alike hK⟩⟩ rfl rfl hl9 rfl (lv_room hw9) hdg hc9) hS (fun q _ h => hA q h) hA (fun r u t H1 locs1 ht _ hu hB hz hk hS1 => by subst hu; exact kk H1 locs1 (by rw [ht] at hB; exact hB) hS1 hk)
end
set_option maxHeartbeats 4000000 in
set_option maxRecDepth 100000 in
theorem c_X4_paid (l : Launch) {dC : Nat → ClassId} {dI : Nat → Nat → Nat} {cI cZ : ClassId} {am : Nat → Nat} {sm fe ex : Int32} {gp gc : Nat → Int32} {dy : Int32} {n : Nat} {pe gr st dl wo : Nat → Int32} {q : Nat} {yc ya yd ys tp fu sh ro : Nat → Int32} {th : Int32} {w : Int32} (hq : q ≤ 100) : Met l yX4_paid wsX4_paid { frames := 0, cells := 0, slots := 0, locals := 0 } (va_Pc [.ref (am 0), .int w] (fun U => va_P (dC, dI) vwCl (wM cI cZ am sm fe ex gp gc dy n pe gr st dl wo q yc ya yd ys tp fu sh ro th) U.heap ∧ va_K (dC, dI) vwCl [(cI, .int), (cZ, .boolean)] U)) (vp_Si (fun r => r = sumForI yc ya ys w q)) 0 0 (fun _ => False) := by
  refine Met.ofW (cc := cX4_paid) (maxL := 4) (ret := (some .int)) (by decide) rfl ?_
  intro p e s m args below meth c s₁ B hml hv
  obtain ⟨rfl, hP, hK⟩ := hv
  have hx := B.exec
  have hb := B.bytes
  have hr := B.returns
  have hts := atoms_spec (ws := wsX4_paid) B.pre
  have hown : s.vm.findClass RX4 = some m.cls := findClass_of_methodNamed B.named
  have hlocks := B.notSynchronized
  have hl := lv_entry ([.ref (am 0), .int w]) (n := 4) (Nat.le_of_ble_eq_true rfl)
  rw [lg_entry_eq]
  generalize (lg_sl ([.ref (am 0), .int w]) ++ List.replicate (4 - (lg_sl ([.ref (am 0), .int w])).length) Slot.unset).toArray = ls at hl ⊢
  have hl : lv_has ls 4 [(0, .ref (am 0)), (1, .int w)] := hl
  have hiX4 : ∀ w ∈ wsX40, w ∈ wsX4_paid := by decide +kernel
  have hf68 := hts (.fieldLink RX4 68 "SettlementFundModel" "payments" "I") (by decide +kernel)
  have hf32 := hts (.fieldLink RX4 32 "SettlementFundModel" "paidTo" "[I") (by decide +kernel)
  have hf41 := hts (.fieldLink RX4 41 "SettlementFundModel" "paymentStates" "[I") (by decide +kernel)
  have hf35 := hts (.fieldLink RX4 35 "SettlementFundModel" "amounts" "[I") (by decide +kernel)
  refine lv_iconst (v := nI 0) hx hb dX4_paid_0 (by decide) ?_
  refine lv_istore_n (lv' := [(2, .int (nI 0)), (0, .ref (am 0)), (1, .int w)]) hx hb dX4_paid_1 rfl hl (by decide) rfl (fun ls hl => ?_)
  refine lv_iconst (v := nI 0) hx hb dX4_paid_2 (by decide) ?_
  refine lv_istore_n (lv' := [(3, .int (nI 0)), (2, .int (nI 0)), (0, .ref (am 0)), (1, .int w)]) hx hb dX4_paid_3 rfl hl (by decide) rfl (fun ls hl => ?_)
  have e_1 : nI 0 = sumForI yc ya ys w 0 := by first | rfl | (simp []; done)
  rw [e_1] at hl
  refine zl_ro (fun a9 : Nat => [(0, .ref (am 0)), (1, .int w), (2, .int (sumForI yc ya ys w a9)), (3, .int (nI a9))]) (fun a9 : Nat => a9 ≤ q) (fun a9 : Nat => q - a9) 0 (Nat.zero_le _) (lv_sub hl [2, 3, 1, 0] rfl) ?_
  intro a9 hi_4 ih_4 ls hl
  obtain ⟨i, rfl⟩ : ∃ z, z = a9 := ⟨_, rfl⟩
  have hi_4 : i ≤ q := hi_4
  have hl : lv_has ls 4 [(0, .ref (am 0)), (1, .int w), (2, .int (sumForI yc ya ys w i)), (3, .int (nI i))] := hl
  refine lv_iload_n hx hb dX4_paid_4 rfl (lv_at hl 3 rfl) ?_
  refine lv_aload_n hx hb dX4_paid_5 rfl (lv_at hl 0 rfl) ?_
  refine gM_0_12 hx hb hts hiX4 hown hK hP hf68 dX4_paid_6 ?_
  refine zb_ge (tgt := 51) hx hb (by omega) (by omega) dX4_paid_9 (by decide) (fun c_9 => ?_) (fun c_9 => ?_)
  · refine lv_iload_n hx hb dX4_paid_51 rfl (lv_at hl 2 rfl) ?_
    exact W.iret (v := sumForI yc ya ys w i) hx hb hr (fun t ht hW => ⟨sumForI yc ya ys w i, rfl, by rw [show q = i by omega], ht⟩) (fun _ h => nomatch h) dX4_paid_52
  · refine lv_iload_n hx hb dX4_paid_12 rfl (lv_at hl 2 rfl) ?_
    refine lv_aload_n hx hb dX4_paid_13 rfl (lv_at hl 0 rfl) ?_
    refine gM_0_13 hx hb hts hiX4 hown hK hP hf32 dX4_paid_14 ?_
    refine lv_iload_n hx hb dX4_paid_17 rfl (lv_at hl 3 rfl) ?_
    refine lM_8 hx hb hK hP (by omega) dX4_paid_18 ?_
    refine lv_iload_n hx hb dX4_paid_19 rfl (lv_at hl 1 rfl) ?_
    refine lv_icmp_ne (tgt := 42) hx hb dX4_paid_20 (by decide) (fun c_20 => ?_) (fun c_20 => ?_)
    · refine lv_iconst (v := nI 0) hx hb dX4_paid_42 (by decide) ?_
      refine lv_iadd hx hb dX4_paid_43 ?_
      refine lv_istore_n (lv' := [(2, .int ((sumForI yc ya ys w i) + (nI 0))), (0, .ref (am 0)), (1, .int w), (3, .int (nI i))]) hx hb dX4_paid_44 rfl hl (by decide) rfl (fun ls hl => ?_)
      refine lv_iinc (v := nI (i + 1)) (lv' := [(3, .int (nI (i + 1))), (2, .int ((sumForI yc ya ys w i) + (nI 0))), (0, .ref (am 0)), (1, .int w)]) hx hb dX4_paid_45 hl (k := 3) rfl (zz_inc _) (by decide) rfl (fun ls hl => ?_)
      refine lv_goto (tgt := 4) hx hb dX4_paid_48 (by decide) ?_
      have e_2 : (sumForI yc ya ys w i) + (nI 0) = sumForI yc ya ys w (i + 1) := by simp [sumForI, nI_0, c_20]
      rw [e_2] at hl
      exact ih_4 (i + 1) (by omega) (by omega) ls (lv_sub hl [2, 3, 1, 0] rfl)
    · refine lv_aload_n hx hb dX4_paid_23 rfl (lv_at hl 0 rfl) ?_
      refine gM_0_16 hx hb hts hiX4 hown hK hP hf41 dX4_paid_24 ?_
      refine lv_iload_n hx hb dX4_paid_27 rfl (lv_at hl 3 rfl) ?_
      refine lM_11 hx hb hK hP (by omega) dX4_paid_28 ?_
      refine lv_iconst (v := nI 2) hx hb dX4_paid_29 (by decide) ?_
      refine lv_icmp_eq (tgt := 42) hx hb dX4_paid_30 (by decide) (fun c_30 => ?_) (fun c_30 => ?_)
      · refine lv_iconst (v := nI 0) hx hb dX4_paid_42 (by decide) ?_
        refine lv_iadd hx hb dX4_paid_43 ?_
        refine lv_istore_n (lv' := [(2, .int ((sumForI yc ya ys w i) + (nI 0))), (0, .ref (am 0)), (1, .int w), (3, .int (nI i))]) hx hb dX4_paid_44 rfl hl (by decide) rfl (fun ls hl => ?_)
        refine lv_iinc (v := nI (i + 1)) (lv' := [(3, .int (nI (i + 1))), (2, .int ((sumForI yc ya ys w i) + (nI 0))), (0, .ref (am 0)), (1, .int w)]) hx hb dX4_paid_45 hl (k := 3) rfl (zz_inc _) (by decide) rfl (fun ls hl => ?_)
        refine lv_goto (tgt := 4) hx hb dX4_paid_48 (by decide) ?_
        have e_3 : (sumForI yc ya ys w i) + (nI 0) = sumForI yc ya ys w (i + 1) := by simp [sumForI, nI_0, c_20, c_30]
        rw [e_3] at hl
        exact ih_4 (i + 1) (by omega) (by omega) ls (lv_sub hl [2, 3, 1, 0] rfl)
      · refine lv_aload_n hx hb dX4_paid_33 rfl (lv_at hl 0 rfl) ?_
        refine gM_0_14 hx hb hts hiX4 hown hK hP hf35 dX4_paid_34 ?_
        refine lv_iload_n hx hb dX4_paid_37 rfl (lv_at hl 3 rfl) ?_
        refine lM_9 hx hb hK hP (by omega) dX4_paid_38 ?_
        refine lv_goto (tgt := 43) hx hb dX4_paid_39 (by decide) ?_
        refine lv_iadd hx hb dX4_paid_43 ?_
        refine lv_istore_n (lv' := [(2, .int ((sumForI yc ya ys w i) + (ya i))), (0, .ref (am 0)), (1, .int w), (3, .int (nI i))]) hx hb dX4_paid_44 rfl hl (by decide) rfl (fun ls hl => ?_)
        refine lv_iinc (v := nI (i + 1)) (lv' := [(3, .int (nI (i + 1))), (2, .int ((sumForI yc ya ys w i) + (ya i))), (0, .ref (am 0)), (1, .int w)]) hx hb dX4_paid_45 hl (k := 3) rfl (zz_inc _) (by decide) rfl (fun ls hl => ?_)
        refine lv_goto (tgt := 4) hx hb dX4_paid_48 (by decide) ?_
        have e_4 : (sumForI yc ya ys w i) + (ya i) = sumForI yc ya ys w (i + 1) := by simp [sumForI, nI_0, c_20, c_30]
        rw [e_4] at hl
        exact ih_4 (i + 1) (by omega) (by omega) ls (lv_sub hl [2, 3, 1, 0] rfl)
section
variable {p : Program} {e : Env} {R : Room} {s : State} {m : MethodId} {args : Array Value} {below : List Frame} {meth : Method} {c : Code} {H : Heap} {locs : List Loc} {cells slots : Nat} {Q : State → Prop} {cc : ByteArray} {pc : Nat} {ls : Array Slot} {rest : List Value} {own : String} {index nL : Nat} {Ts : List Cond} {H0 : Heap} {A0 : Nat → Prop}
theorem k_X4_paid (l : Launch) {dC : Nat → ClassId} {dI : Nat → Nat → Nat} {cI cZ : ClassId} {am : Nat → Nat} {sm fe ex : Int32} {gp gc : Nat → Int32} {dy : Int32} {n : Nat} {pe gr st dl wo : Nat → Int32} {q : Nat} {yc ya yd ys tp fu sh ro : Nat → Int32} {th : Int32} {w : Int32} (hq : q ≤ 100) (hx : p.tables.exec = Jvm.exec) (hb : c.code = cc) (hml : c.maxLocals = nL) (hown : s.vm.findClass own = some m.cls) (hts : ∀ w ∈ Ts, w.before args s = true) (hK : va_K (dC, dI) vwCl [(cI, .int), (cZ, .boolean)] s) (hP : va_P (dC, dI) vwCl (wM cI cZ am sm fe ex gp gc dy n pe gr st dl wo q yc ya yd ys tp fu sh ro th) H) (hg9 : GoodIn Ts (wsV own index RX4 yX4_paid wsX4_paid)) (hR9 : 0 + 1 ≤ R.frames ∧ 8 + (4 + 11) + 0 ≤ R.locals) (hc9 : cells ≤ R.cells ∧ slots ≤ R.slots) (hl9 : ls.size = nL) (hw9 : (rest.map fun v => v.category).sum ≤ 8) (hdg : decode cc pc = .ok (.invokevirtual index, 3)) (kk : W p l e R s m args below meth c H locs cells slots Q (F0 m (pc + 3) ls (.int (sumForI yc ya ys w q) :: rest))) : W p l e R s m args below meth c H locs cells slots Q (F0 m pc ls (.int w :: .ref (am 0) :: rest)) := zc_ro (W.runV (As := [.int w]) (rest := rest) ⟨hx, hb, hml, hown, hts⟩ (c_X4_paid (dC := dC) (dI := dI) (cI := cI) (cZ := cZ) (am := am) (sm := sm) (fe := fe) (ex := ex) (gp := gp) (gc := gc) (dy := dy) (n := n) (pe := pe) (gr := gr) (st := st) (dl := dl) (wo := wo) (q := q) (yc := yc) (ya := ya) (yd := yd) (ys := ys) (tp := tp) (fu := fu) (sh := sh) (ro := ro) (th := th) (w := w) l hq) (cwV 1 hts hg9 rfl rfl rfl (by decide +kernel) hR9) ⟨fun a U g mk q => ⟨q.1, q.2.1, va_K.moved (u := U) (U := U.calling g mk a) (Vm.Alike.refl U.vm) q.2.2⟩, rM_0 hK hP, fun U hU hW => ⟨rfl, by rw [hU]; exact hP, va_K.moved hW.alike hK⟩⟩ rfl rfl hl9 rfl (lv_room hw9) hdg hc9) (fun r h => by subst h; exact kk)
end
set_option maxHeartbeats 4000000 in
set_option maxRecDepth 100000 in
theorem c_X4_roomOf (l : Launch) {dC : Nat → ClassId} {dI : Nat → Nat → Nat} {cI cZ : ClassId} {am : Nat → Nat} {sm fe ex : Int32} {gp gc : Nat → Int32} {dy : Int32} {n : Nat} {pe gr st dl wo : Nat → Int32} {q : Nat} {yc ya yd ys tp fu sh ro : Nat → Int32} {th : Int32} {k : Nat} (hq : q ≤ 100) (hk : k < 24) (hG : gr k = nI (gN gr k) ∧ gN gr k < 5) : Met l yX4_roomOf wsX4_roomOf { frames := 1, cells := 0, slots := 0, locals := 23 } (va_Pc [.ref (am 0), .int (nI k)] (fun U => va_P (dC, dI) vwCl (wM cI cZ am sm fe ex gp gc dy n pe gr st dl wo q yc ya yd ys tp fu sh ro th) U.heap ∧ va_K (dC, dI) vwCl [(cI, .int), (cZ, .boolean)] U)) (vp_Si (fun r => r = roomF gc gr yc ya ys q k)) 0 0 (fun _ => False) := by
  refine Met.ofW (cc := cX4_roomOf) (maxL := 3) (ret := (some .int)) (by decide) rfl ?_
  intro p e s m args below meth c s₁ B hml hv
  obtain ⟨rfl, hP, hK⟩ := hv
  have hx := B.exec
  have hb := B.bytes
  have hr := B.returns
  have hts := atoms_spec (ws := wsX4_roomOf) B.pre
  have hown : s.vm.findClass RX4 = some m.cls := findClass_of_methodNamed B.named
  have hlocks := B.notSynchronized
  have hl := lv_entry ([.ref (am 0), .int (nI k)]) (n := 3) (Nat.le_of_ble_eq_true rfl)
  rw [lg_entry_eq]
  generalize (lg_sl ([.ref (am 0), .int (nI k)]) ++ List.replicate (3 - (lg_sl ([.ref (am 0), .int (nI k)])).length) Slot.unset).toArray = ls at hl ⊢
  have hl : lv_has ls 3 [(0, .ref (am 0)), (1, .int (nI k))] := hl
  have hiX4 : ∀ w ∈ wsX40, w ∈ wsX4_roomOf := by decide +kernel
  have hf13 := hts (.fieldLink RX4 13 "SettlementFundModel" "caps" "[I") (by decide +kernel)
  have hf19 := hts (.fieldLink RX4 19 "SettlementFundModel" "grades" "[I") (by decide +kernel)
  refine lv_aload_n hx hb dX4_roomOf_0 rfl (lv_at hl 0 rfl) ?_
  refine gM_0_4 hx hb hts hiX4 hown hK hP hf13 dX4_roomOf_1 ?_
  refine lv_aload_n hx hb dX4_roomOf_4 rfl (lv_at hl 0 rfl) ?_
  refine gM_0_8 hx hb hts hiX4 hown hK hP hf19 dX4_roomOf_5 ?_
  refine lv_iload_n hx hb dX4_roomOf_8 rfl (lv_at hl 1 rfl) ?_
  refine lM_4 hx hb hK hP (by omega) dX4_roomOf_9 ?_
  refine zt_i (y := nI (gN gr k)) (hG.1) ?_
  refine lM_2 hx hb hK hP (hG.2) dX4_roomOf_10 ?_
  refine lv_aload_n hx hb dX4_roomOf_11 rfl (lv_at hl 0 rfl) ?_
  refine lv_iload_n hx hb dX4_roomOf_12 rfl (lv_at hl 1 rfl) ?_
  refine k_X4_paid l (w := nI k) (hq := hq) hx hb hml hown hts hK hP gX4_roomOf_X4_paid ⟨Nat.le_of_ble_eq_true rfl, Nat.le_of_ble_eq_true rfl⟩ ⟨Nat.le_of_ble_eq_true rfl, Nat.le_of_ble_eq_true rfl⟩ hl.1 (Nat.le_of_ble_eq_true rfl) dX4_roomOf_13 ?_
  refine lv_isub hx hb dX4_roomOf_16 ?_
  refine lv_istore_n (lv' := [(2, .int ((gc (gN gr k)) - (sumForI yc ya ys (nI k) q))), (0, .ref (am 0)), (1, .int (nI k))]) hx hb dX4_roomOf_17 rfl hl (by decide) rfl (fun ls hl => ?_)
  refine lv_iload_n hx hb dX4_roomOf_18 rfl (lv_at hl 0 rfl) ?_
  refine lv_if_ge (tgt := 26) hx hb dX4_roomOf_19 (by decide) (fun c_19 => ?_) (fun c_19 => ?_)
  · refine lv_iload_n hx hb dX4_roomOf_26 rfl (lv_at hl 0 rfl) ?_
    exact W.iret (v := (gc (gN gr k)) - (sumForI yc ya ys (nI k) q)) hx hb hr (fun t ht hW => ⟨(gc (gN gr k)) - (sumForI yc ya ys (nI k) q), rfl, by first | rfl | (rw [if_pos (by omega)]; done) | (rw [if_neg (by omega)]; done) | (simp [roomF, c_19]; done), ht⟩) (fun _ h => nomatch h) dX4_roomOf_27
  · refine lv_iconst (v := nI 0) hx hb dX4_roomOf_22 (by decide) ?_
    refine lv_goto (tgt := 27) hx hb dX4_roomOf_23 (by decide) ?_
    exact W.iret (v := nI 0) hx hb hr (fun t ht hW => ⟨nI 0, rfl, by first | rfl | (rw [if_pos (by omega)]; done) | (rw [if_neg (by omega)]; done) | (simp [roomF, c_19]; done), ht⟩) (fun _ h => nomatch h) dX4_roomOf_27
section
variable {p : Program} {e : Env} {R : Room} {s : State} {m : MethodId} {args : Array Value} {below : List Frame} {meth : Method} {c : Code} {H : Heap} {locs : List Loc} {cells slots : Nat} {Q : State → Prop} {cc : ByteArray} {pc : Nat} {ls : Array Slot} {rest : List Value} {own : String} {index nL : Nat} {Ts : List Cond} {H0 : Heap} {A0 : Nat → Prop}
theorem k_X4_roomOf (l : Launch) {dC : Nat → ClassId} {dI : Nat → Nat → Nat} {cI cZ : ClassId} {am : Nat → Nat} {sm fe ex : Int32} {gp gc : Nat → Int32} {dy : Int32} {n : Nat} {pe gr st dl wo : Nat → Int32} {q : Nat} {yc ya yd ys tp fu sh ro : Nat → Int32} {th : Int32} {k : Nat} (hq : q ≤ 100) (hk : k < 24) (hG : gr k = nI (gN gr k) ∧ gN gr k < 5) (hx : p.tables.exec = Jvm.exec) (hb : c.code = cc) (hml : c.maxLocals = nL) (hown : s.vm.findClass own = some m.cls) (hts : ∀ w ∈ Ts, w.before args s = true) (hK : va_K (dC, dI) vwCl [(cI, .int), (cZ, .boolean)] s) (hP : va_P (dC, dI) vwCl (wM cI cZ am sm fe ex gp gc dy n pe gr st dl wo q yc ya yd ys tp fu sh ro th) H) (hg9 : GoodIn Ts (wsV own index RX4 yX4_roomOf wsX4_roomOf)) (hR9 : 1 + 1 ≤ R.frames ∧ 8 + (3 + 11) + 23 ≤ R.locals) (hc9 : cells ≤ R.cells ∧ slots ≤ R.slots) (hl9 : ls.size = nL) (hw9 : (rest.map fun v => v.category).sum ≤ 8) (hdg : decode cc pc = .ok (.invokevirtual index, 3)) (kk : W p l e R s m args below meth c H locs cells slots Q (F0 m (pc + 3) ls (.int (roomF gc gr yc ya ys q k) :: rest))) : W p l e R s m args below meth c H locs cells slots Q (F0 m pc ls (.int (nI k) :: .ref (am 0) :: rest)) := zc_ro (W.runV (As := [.int (nI k)]) (rest := rest) ⟨hx, hb, hml, hown, hts⟩ (c_X4_roomOf (dC := dC) (dI := dI) (cI := cI) (cZ := cZ) (am := am) (sm := sm) (fe := fe) (ex := ex) (gp := gp) (gc := gc) (dy := dy) (n := n) (pe := pe) (gr := gr) (st := st) (dl := dl) (wo := wo) (q := q) (yc := yc) (ya := ya) (yd := yd) (ys := ys) (tp := tp) (fu := fu) (sh := sh) (ro := ro) (th := th) (k := k) l hq hk hG) (cwV 1 hts hg9 rfl rfl rfl (by decide +kernel) hR9) ⟨fun a U g mk q => ⟨q.1, q.2.1, va_K.moved (u := U) (U := U.calling g mk a) (Vm.Alike.refl U.vm) q.2.2⟩, rM_0 hK hP, fun U hU hW => ⟨rfl, by rw [hU]; exact hP, va_K.moved hW.alike hK⟩⟩ rfl rfl hl9 rfl (lv_room hw9) hdg hc9) (fun r h => by subst h; exact kk)
end
set_option maxHeartbeats 4000000 in
set_option maxRecDepth 100000 in
theorem c_X4_hasVoid (l : Launch) {dC : Nat → ClassId} {dI : Nat → Nat → Nat} {cI cZ : ClassId} {am : Nat → Nat} {sm fe ex : Int32} {gp gc : Nat → Int32} {dy : Int32} {n : Nat} {pe gr st dl wo : Nat → Int32} {q : Nat} {yc ya yd ys tp fu sh ro : Nat → Int32} {th : Int32} {w : Int32} (hq : q ≤ 100) : Met l yX4_hasVoid wsX4_hasVoid { frames := 0, cells := 0, slots := 0, locals := 0 } (va_Pc [.ref (am 0), .int w] (fun U => va_P (dC, dI) vwCl (wM cI cZ am sm fe ex gp gc dy n pe gr st dl wo q yc ya yd ys tp fu sh ro th) U.heap ∧ va_K (dC, dI) vwCl [(cI, .int), (cZ, .boolean)] U)) (vp_Si (fun r => r = nI (if vdB yc ys w q = true then 1 else 0))) 0 0 (fun _ => False) := by
  refine Met.ofW (cc := cX4_hasVoid) (maxL := 4) (ret := (some .boolean)) (by decide) rfl ?_
  intro p e s m args below meth c s₁ B hml hv
  obtain ⟨rfl, hP, hK⟩ := hv
  have hx := B.exec
  have hb := B.bytes
  have hr := B.returns
  have hts := atoms_spec (ws := wsX4_hasVoid) B.pre
  have hown : s.vm.findClass RX4 = some m.cls := findClass_of_methodNamed B.named
  have hlocks := B.notSynchronized
  have hl := lv_entry ([.ref (am 0), .int w]) (n := 4) (Nat.le_of_ble_eq_true rfl)
  rw [lg_entry_eq]
  generalize (lg_sl ([.ref (am 0), .int w]) ++ List.replicate (4 - (lg_sl ([.ref (am 0), .int w])).length) Slot.unset).toArray = ls at hl ⊢
  have hl : lv_has ls 4 [(0, .ref (am 0)), (1, .int w)] := hl
  have hiX4 : ∀ w ∈ wsX40, w ∈ wsX4_hasVoid := by decide +kernel
  have hf68 := hts (.fieldLink RX4 68 "SettlementFundModel" "payments" "I") (by decide +kernel)
  have hf32 := hts (.fieldLink RX4 32 "SettlementFundModel" "paidTo" "[I") (by decide +kernel)
  have hf41 := hts (.fieldLink RX4 41 "SettlementFundModel" "paymentStates" "[I") (by decide +kernel)
  refine lv_iconst (v := nI 0) hx hb dX4_hasVoid_0 (by decide) ?_
  refine lv_istore_n (lv' := [(2, .int (nI 0)), (0, .ref (am 0)), (1, .int w)]) hx hb dX4_hasVoid_1 rfl hl (by decide) rfl (fun ls hl => ?_)
  refine lv_iconst (v := nI 0) hx hb dX4_hasVoid_2 (by decide) ?_
  refine lv_istore_n (lv' := [(3, .int (nI 0)), (2, .int (nI 0)), (0, .ref (am 0)), (1, .int w)]) hx hb dX4_hasVoid_3 rfl hl (by decide) rfl (fun ls hl => ?_)
  have e_1 : nI 0 = nI (if vdB yc ys w 0 = true then 1 else 0) := rfl
  rw [e_1] at hl
  refine zl_ro (fun a9 : Nat => [(0, .ref (am 0)), (1, .int w), (2, .int (nI (if vdB yc ys w a9 = true then 1 else 0))), (3, .int (nI a9))]) (fun a9 : Nat => a9 ≤ q) (fun a9 : Nat => q - a9) 0 (Nat.zero_le _) (lv_sub hl [2, 3, 1, 0] rfl) ?_
  intro a9 hi_4 ih_4 ls hl
  obtain ⟨i, rfl⟩ : ∃ z, z = a9 := ⟨_, rfl⟩
  have hi_4 : i ≤ q := hi_4
  have hl : lv_has ls 4 [(0, .ref (am 0)), (1, .int w), (2, .int (nI (if vdB yc ys w i = true then 1 else 0))), (3, .int (nI i))] := hl
  refine lv_iload_n hx hb dX4_hasVoid_4 rfl (lv_at hl 3 rfl) ?_
  refine lv_aload_n hx hb dX4_hasVoid_5 rfl (lv_at hl 0 rfl) ?_
  refine gM_0_12 hx hb hts hiX4 hown hK hP hf68 dX4_hasVoid_6 ?_
  refine zb_ge (tgt := 48) hx hb (by omega) (by omega) dX4_hasVoid_9 (by decide) (fun c_9 => ?_) (fun c_9 => ?_)
  · refine lv_iload_n hx hb dX4_hasVoid_48 rfl (lv_at hl 2 rfl) ?_
    exact W.zret (v := nI (if vdB yc ys w i = true then 1 else 0)) hx hb hr (zz_nb (by split <;> first | exact Or.inr rfl | exact Or.inl rfl)) (fun t ht hW => ⟨nI (if vdB yc ys w i = true then 1 else 0), rfl, by rw [show q = i by omega], ht⟩) (fun _ h => nomatch h) dX4_hasVoid_49
  · refine lv_iload_n hx hb dX4_hasVoid_12 rfl (lv_at hl 2 rfl) ?_
    refine zi_ne (tgt := 36) hx hb (by split <;> decide) dX4_hasVoid_13 (by decide) (fun c_13 => ?_) (fun c_13 => ?_)
    · refine lv_iconst (v := nI 1) hx hb dX4_hasVoid_36 (by decide) ?_
      refine lv_goto (tgt := 41) hx hb dX4_hasVoid_37 (by decide) ?_
      refine lv_istore_n (lv' := [(2, .int (nI 1)), (0, .ref (am 0)), (1, .int w), (3, .int (nI i))]) hx hb dX4_hasVoid_41 rfl hl (by decide) rfl (fun ls hl => ?_)
      refine lv_iinc (v := nI (i + 1)) (lv' := [(3, .int (nI (i + 1))), (2, .int (nI 1)), (0, .ref (am 0)), (1, .int w)]) hx hb dX4_hasVoid_42 hl (k := 3) rfl (zz_inc _) (by decide) rfl (fun ls hl => ?_)
      refine lv_goto (tgt := 4) hx hb dX4_hasVoid_45 (by decide) ?_
      have e_2 : nI 1 = nI (if vdB yc ys w (i + 1) = true then 1 else 0) := by simp [vdB_s, zz_if_t c_13]
      rw [e_2] at hl
      exact ih_4 (i + 1) (by omega) (by omega) ls (lv_sub hl [2, 3, 1, 0] rfl)
    · refine lv_aload_n hx hb dX4_hasVoid_16 rfl (lv_at hl 0 rfl) ?_
      refine gM_0_13 hx hb hts hiX4 hown hK hP hf32 dX4_hasVoid_17 ?_
      refine lv_iload_n hx hb dX4_hasVoid_20 rfl (lv_at hl 3 rfl) ?_
      refine lM_8 hx hb hK hP (by omega) dX4_hasVoid_21 ?_
      refine lv_iload_n hx hb dX4_hasVoid_22 rfl (lv_at hl 1 rfl) ?_
      refine lv_icmp_ne (tgt := 40) hx hb dX4_hasVoid_23 (by decide) (fun c_23 => ?_) (fun c_23 => ?_)
      · refine lv_iconst (v := nI 0) hx hb dX4_hasVoid_40 (by decide) ?_
        refine lv_istore_n (lv' := [(2, .int (nI 0)), (0, .ref (am 0)), (1, .int w), (3, .int (nI i))]) hx hb dX4_hasVoid_41 rfl hl (by decide) rfl (fun ls hl => ?_)
        refine lv_iinc (v := nI (i + 1)) (lv' := [(3, .int (nI (i + 1))), (2, .int (nI 0)), (0, .ref (am 0)), (1, .int w)]) hx hb dX4_hasVoid_42 hl (k := 3) rfl (zz_inc _) (by decide) rfl (fun ls hl => ?_)
        refine lv_goto (tgt := 4) hx hb dX4_hasVoid_45 (by decide) ?_
        have e_3 : nI 0 = nI (if vdB yc ys w (i + 1) = true then 1 else 0) := by simp [vdB_s, zz_if_f c_13, c_23]
        rw [e_3] at hl
        exact ih_4 (i + 1) (by omega) (by omega) ls (lv_sub hl [2, 3, 1, 0] rfl)
      · refine lv_aload_n hx hb dX4_hasVoid_26 rfl (lv_at hl 0 rfl) ?_
        refine gM_0_16 hx hb hts hiX4 hown hK hP hf41 dX4_hasVoid_27 ?_
        refine lv_iload_n hx hb dX4_hasVoid_30 rfl (lv_at hl 3 rfl) ?_
        refine lM_11 hx hb hK hP (by omega) dX4_hasVoid_31 ?_
        refine lv_iconst (v := nI 2) hx hb dX4_hasVoid_32 (by decide) ?_
        refine lv_icmp_ne (tgt := 40) hx hb dX4_hasVoid_33 (by decide) (fun c_33 => ?_) (fun c_33 => ?_)
        · refine lv_iconst (v := nI 0) hx hb dX4_hasVoid_40 (by decide) ?_
          refine lv_istore_n (lv' := [(2, .int (nI 0)), (0, .ref (am 0)), (1, .int w), (3, .int (nI i))]) hx hb dX4_hasVoid_41 rfl hl (by decide) rfl (fun ls hl => ?_)
          refine lv_iinc (v := nI (i + 1)) (lv' := [(3, .int (nI (i + 1))), (2, .int (nI 0)), (0, .ref (am 0)), (1, .int w)]) hx hb dX4_hasVoid_42 hl (k := 3) rfl (zz_inc _) (by decide) rfl (fun ls hl => ?_)
          refine lv_goto (tgt := 4) hx hb dX4_hasVoid_45 (by decide) ?_
          have e_4 : nI 0 = nI (if vdB yc ys w (i + 1) = true then 1 else 0) := by simp [vdB_s, zz_if_f c_13, c_23, c_33]
          rw [e_4] at hl
          exact ih_4 (i + 1) (by omega) (by omega) ls (lv_sub hl [2, 3, 1, 0] rfl)
        · refine lv_iconst (v := nI 1) hx hb dX4_hasVoid_36 (by decide) ?_
          refine lv_goto (tgt := 41) hx hb dX4_hasVoid_37 (by decide) ?_
          refine lv_istore_n (lv' := [(2, .int (nI 1)), (0, .ref (am 0)), (1, .int w), (3, .int (nI i))]) hx hb dX4_hasVoid_41 rfl hl (by decide) rfl (fun ls hl => ?_)
          refine lv_iinc (v := nI (i + 1)) (lv' := [(3, .int (nI (i + 1))), (2, .int (nI 1)), (0, .ref (am 0)), (1, .int w)]) hx hb dX4_hasVoid_42 hl (k := 3) rfl (zz_inc _) (by decide) rfl (fun ls hl => ?_)
          refine lv_goto (tgt := 4) hx hb dX4_hasVoid_45 (by decide) ?_
          have e_5 : nI 1 = nI (if vdB yc ys w (i + 1) = true then 1 else 0) := by simp [vdB_s, zz_if_f c_13, c_23, c_33]
          rw [e_5] at hl
          exact ih_4 (i + 1) (by omega) (by omega) ls (lv_sub hl [2, 3, 1, 0] rfl)
section
variable {p : Program} {e : Env} {R : Room} {s : State} {m : MethodId} {args : Array Value} {below : List Frame} {meth : Method} {c : Code} {H : Heap} {locs : List Loc} {cells slots : Nat} {Q : State → Prop} {cc : ByteArray} {pc : Nat} {ls : Array Slot} {rest : List Value} {own : String} {index nL : Nat} {Ts : List Cond} {H0 : Heap} {A0 : Nat → Prop}
theorem k_X4_hasVoid (l : Launch) {dC : Nat → ClassId} {dI : Nat → Nat → Nat} {cI cZ : ClassId} {am : Nat → Nat} {sm fe ex : Int32} {gp gc : Nat → Int32} {dy : Int32} {n : Nat} {pe gr st dl wo : Nat → Int32} {q : Nat} {yc ya yd ys tp fu sh ro : Nat → Int32} {th : Int32} {w : Int32} (hq : q ≤ 100) (hx : p.tables.exec = Jvm.exec) (hb : c.code = cc) (hml : c.maxLocals = nL) (hown : s.vm.findClass own = some m.cls) (hts : ∀ w ∈ Ts, w.before args s = true) (hK : va_K (dC, dI) vwCl [(cI, .int), (cZ, .boolean)] s) (hP : va_P (dC, dI) vwCl (wM cI cZ am sm fe ex gp gc dy n pe gr st dl wo q yc ya yd ys tp fu sh ro th) H) (hg9 : GoodIn Ts (wsV own index RX4 yX4_hasVoid wsX4_hasVoid)) (hR9 : 0 + 1 ≤ R.frames ∧ 8 + (4 + 11) + 0 ≤ R.locals) (hc9 : cells ≤ R.cells ∧ slots ≤ R.slots) (hl9 : ls.size = nL) (hw9 : (rest.map fun v => v.category).sum ≤ 8) (hdg : decode cc pc = .ok (.invokevirtual index, 3)) (kk : W p l e R s m args below meth c H locs cells slots Q (F0 m (pc + 3) ls (.int (nI (if vdB yc ys w q = true then 1 else 0)) :: rest))) : W p l e R s m args below meth c H locs cells slots Q (F0 m pc ls (.int w :: .ref (am 0) :: rest)) := zc_ro (W.runV (As := [.int w]) (rest := rest) ⟨hx, hb, hml, hown, hts⟩ (c_X4_hasVoid (dC := dC) (dI := dI) (cI := cI) (cZ := cZ) (am := am) (sm := sm) (fe := fe) (ex := ex) (gp := gp) (gc := gc) (dy := dy) (n := n) (pe := pe) (gr := gr) (st := st) (dl := dl) (wo := wo) (q := q) (yc := yc) (ya := ya) (yd := yd) (ys := ys) (tp := tp) (fu := fu) (sh := sh) (ro := ro) (th := th) (w := w) l hq) (cwV 1 hts hg9 rfl rfl rfl (by decide +kernel) hR9) ⟨fun a U g mk q => ⟨q.1, q.2.1, va_K.moved (u := U) (U := U.calling g mk a) (Vm.Alike.refl U.vm) q.2.2⟩, rM_0 hK hP, fun U hU hW => ⟨rfl, by rw [hU]; exact hP, va_K.moved hW.alike hK⟩⟩ rfl rfl hl9 rfl (lv_room hw9) hdg hc9) (fun r h => by subst h; exact kk)
end
set_option maxHeartbeats 4000000 in
set_option maxRecDepth 100000 in
theorem c_X4_isOpen (l : Launch) {dC : Nat → ClassId} {dI : Nat → Nat → Nat} {cI cZ : ClassId} {am : Nat → Nat} {sm fe ex : Int32} {gp gc : Nat → Int32} {dy : Int32} {n : Nat} {pe gr st dl wo : Nat → Int32} {q : Nat} {yc ya yd ys tp fu sh ro : Nat → Int32} {th : Int32}  (hq : q ≤ 100) : Met l yX4_isOpen wsX4_isOpen { frames := 0, cells := 0, slots := 0, locals := 0 } (va_Pc [.ref (am 0)] (fun U => va_P (dC, dI) vwCl (wM cI cZ am sm fe ex gp gc dy n pe gr st dl wo q yc ya yd ys tp fu sh ro th) U.heap ∧ va_K (dC, dI) vwCl [(cI, .int), (cZ, .boolean)] U)) (vp_Si (fun r => r = nI (if openB ys q = true then 1 else 0))) 0 0 (fun _ => False) := by
  refine Met.ofW (cc := cX4_isOpen) (maxL := 3) (ret := (some .boolean)) (by decide) rfl ?_
  intro p e s m args below meth c s₁ B hml hv
  obtain ⟨rfl, hP, hK⟩ := hv
  have hx := B.exec
  have hb := B.bytes
  have hr := B.returns
  have hts := atoms_spec (ws := wsX4_isOpen) B.pre
  have hown : s.vm.findClass RX4 = some m.cls := findClass_of_methodNamed B.named
  have hlocks := B.notSynchronized
  have hl := lv_entry ([.ref (am 0)]) (n := 3) (Nat.le_of_ble_eq_true rfl)
  rw [lg_entry_eq]
  generalize (lg_sl ([.ref (am 0)]) ++ List.replicate (3 - (lg_sl ([.ref (am 0)])).length) Slot.unset).toArray = ls at hl ⊢
  have hl : lv_has ls 3 [(0, .ref (am 0))] := hl
  have hiX4 : ∀ w ∈ wsX40, w ∈ wsX4_isOpen := by decide +kernel
  have hf68 := hts (.fieldLink RX4 68 "SettlementFundModel" "payments" "I") (by decide +kernel)
  have hf41 := hts (.fieldLink RX4 41 "SettlementFundModel" "paymentStates" "[I") (by decide +kernel)
  refine lv_iconst (v := nI 0) hx hb dX4_isOpen_0 (by decide) ?_
  refine lv_istore_n (lv' := [(1, .int (nI 0)), (0, .ref (am 0))]) hx hb dX4_isOpen_1 rfl hl (by decide) rfl (fun ls hl => ?_)
  refine lv_iconst (v := nI 0) hx hb dX4_isOpen_2 (by decide) ?_
  refine lv_istore_n (lv' := [(2, .int (nI 0)), (1, .int (nI 0)), (0, .ref (am 0))]) hx hb dX4_isOpen_3 rfl hl (by decide) rfl (fun ls hl => ?_)
  have e_1 : nI 0 = nI (if openB ys 0 = true then 1 else 0) := rfl
  rw [e_1] at hl
  refine zl_ro (fun a9 : Nat => [(0, .ref (am 0)), (1, .int (nI (if openB ys a9 = true then 1 else 0))), (2, .int (nI a9))]) (fun a9 : Nat => a9 ≤ q) (fun a9 : Nat => q - a9) 0 (Nat.zero_le _) (lv_sub hl [2, 1, 0] rfl) ?_
  intro a9 hi_4 ih_4 ls hl
  obtain ⟨i, rfl⟩ : ∃ z, z = a9 := ⟨_, rfl⟩
  have hi_4 : i ≤ q := hi_4
  have hl : lv_has ls 3 [(0, .ref (am 0)), (1, .int (nI (if openB ys i = true then 1 else 0))), (2, .int (nI i))] := hl
  refine lv_iload_n hx hb dX4_isOpen_4 rfl (lv_at hl 2 rfl) ?_
  refine lv_aload_n hx hb dX4_isOpen_5 rfl (lv_at hl 0 rfl) ?_
  refine gM_0_12 hx hb hts hiX4 hown hK hP hf68 dX4_isOpen_6 ?_
  refine zb_ge (tgt := 37) hx hb (by omega) (by omega) dX4_isOpen_9 (by decide) (fun c_9 => ?_) (fun c_9 => ?_)
  · refine lv_iload_n hx hb dX4_isOpen_37 rfl (lv_at hl 1 rfl) ?_
    exact W.zret (v := nI (if openB ys i = true then 1 else 0)) hx hb hr (zz_nb (by split <;> first | exact Or.inr rfl | exact Or.inl rfl)) (fun t ht hW => ⟨nI (if openB ys i = true then 1 else 0), rfl, by rw [show q = i by omega], ht⟩) (fun _ h => nomatch h) dX4_isOpen_38
  · refine lv_iload_n hx hb dX4_isOpen_12 rfl (lv_at hl 1 rfl) ?_
    refine zi_ne (tgt := 25) hx hb (by split <;> decide) dX4_isOpen_13 (by decide) (fun c_13 => ?_) (fun c_13 => ?_)
    · refine lv_iconst (v := nI 1) hx hb dX4_isOpen_25 (by decide) ?_
      refine lv_goto (tgt := 30) hx hb dX4_isOpen_26 (by decide) ?_
      refine lv_istore_n (lv' := [(1, .int (nI 1)), (0, .ref (am 0)), (2, .int (nI i))]) hx hb dX4_isOpen_30 rfl hl (by decide) rfl (fun ls hl => ?_)
      refine lv_iinc (v := nI (i + 1)) (lv' := [(2, .int (nI (i + 1))), (1, .int (nI 1)), (0, .ref (am 0))]) hx hb dX4_isOpen_31 hl (k := 2) rfl (zz_inc _) (by decide) rfl (fun ls hl => ?_)
      refine lv_goto (tgt := 4) hx hb dX4_isOpen_34 (by decide) ?_
      have e_2 : nI 1 = nI (if openB ys (i + 1) = true then 1 else 0) := by simp [openB_s, zz_if_t c_13]
      rw [e_2] at hl
      exact ih_4 (i + 1) (by omega) (by omega) ls (lv_sub hl [2, 1, 0] rfl)
    · refine lv_aload_n hx hb dX4_isOpen_16 rfl (lv_at hl 0 rfl) ?_
      refine gM_0_16 hx hb hts hiX4 hown hK hP hf41 dX4_isOpen_17 ?_
      refine lv_iload_n hx hb dX4_isOpen_20 rfl (lv_at hl 2 rfl) ?_
      refine lM_11 hx hb hK hP (by omega) dX4_isOpen_21 ?_
      refine lv_if_ne (tgt := 29) hx hb dX4_isOpen_22 (by decide) (fun c_22 => ?_) (fun c_22 => ?_)
      · refine lv_iconst (v := nI 0) hx hb dX4_isOpen_29 (by decide) ?_
        refine lv_istore_n (lv' := [(1, .int (nI 0)), (0, .ref (am 0)), (2, .int (nI i))]) hx hb dX4_isOpen_30 rfl hl (by decide) rfl (fun ls hl => ?_)
        refine lv_iinc (v := nI (i + 1)) (lv' := [(2, .int (nI (i + 1))), (1, .int (nI 0)), (0, .ref (am 0))]) hx hb dX4_isOpen_31 hl (k := 2) rfl (zz_inc _) (by decide) rfl (fun ls hl => ?_)
        refine lv_goto (tgt := 4) hx hb dX4_isOpen_34 (by decide) ?_
        have e_3 : nI 0 = nI (if openB ys (i + 1) = true then 1 else 0) := by simp [openB_s, zz_if_f c_13, c_22]
        rw [e_3] at hl
        exact ih_4 (i + 1) (by omega) (by omega) ls (lv_sub hl [2, 1, 0] rfl)
      · refine lv_iconst (v := nI 1) hx hb dX4_isOpen_25 (by decide) ?_
        refine lv_goto (tgt := 30) hx hb dX4_isOpen_26 (by decide) ?_
        refine lv_istore_n (lv' := [(1, .int (nI 1)), (0, .ref (am 0)), (2, .int (nI i))]) hx hb dX4_isOpen_30 rfl hl (by decide) rfl (fun ls hl => ?_)
        refine lv_iinc (v := nI (i + 1)) (lv' := [(2, .int (nI (i + 1))), (1, .int (nI 1)), (0, .ref (am 0))]) hx hb dX4_isOpen_31 hl (k := 2) rfl (zz_inc _) (by decide) rfl (fun ls hl => ?_)
        refine lv_goto (tgt := 4) hx hb dX4_isOpen_34 (by decide) ?_
        have e_4 : nI 1 = nI (if openB ys (i + 1) = true then 1 else 0) := by simp [openB_s, zz_if_f c_13, c_22]
        rw [e_4] at hl
        exact ih_4 (i + 1) (by omega) (by omega) ls (lv_sub hl [2, 1, 0] rfl)
section
variable {p : Program} {e : Env} {R : Room} {s : State} {m : MethodId} {args : Array Value} {below : List Frame} {meth : Method} {c : Code} {H : Heap} {locs : List Loc} {cells slots : Nat} {Q : State → Prop} {cc : ByteArray} {pc : Nat} {ls : Array Slot} {rest : List Value} {own : String} {index nL : Nat} {Ts : List Cond} {H0 : Heap} {A0 : Nat → Prop}
theorem k_X4_isOpen (l : Launch) {dC : Nat → ClassId} {dI : Nat → Nat → Nat} {cI cZ : ClassId} {am : Nat → Nat} {sm fe ex : Int32} {gp gc : Nat → Int32} {dy : Int32} {n : Nat} {pe gr st dl wo : Nat → Int32} {q : Nat} {yc ya yd ys tp fu sh ro : Nat → Int32} {th : Int32}  (hq : q ≤ 100) (hx : p.tables.exec = Jvm.exec) (hb : c.code = cc) (hml : c.maxLocals = nL) (hown : s.vm.findClass own = some m.cls) (hts : ∀ w ∈ Ts, w.before args s = true) (hK : va_K (dC, dI) vwCl [(cI, .int), (cZ, .boolean)] s) (hP : va_P (dC, dI) vwCl (wM cI cZ am sm fe ex gp gc dy n pe gr st dl wo q yc ya yd ys tp fu sh ro th) H) (hg9 : GoodIn Ts (wsV own index RX4 yX4_isOpen wsX4_isOpen)) (hR9 : 0 + 1 ≤ R.frames ∧ 8 + (3 + 11) + 0 ≤ R.locals) (hc9 : cells ≤ R.cells ∧ slots ≤ R.slots) (hl9 : ls.size = nL) (hw9 : (rest.map fun v => v.category).sum ≤ 8) (hdg : decode cc pc = .ok (.invokevirtual index, 3)) (kk : W p l e R s m args below meth c H locs cells slots Q (F0 m (pc + 3) ls (.int (nI (if openB ys q = true then 1 else 0)) :: rest))) : W p l e R s m args below meth c H locs cells slots Q (F0 m pc ls (.ref (am 0) :: rest)) := zc_ro (W.runV (As := []) (rest := rest) ⟨hx, hb, hml, hown, hts⟩ (c_X4_isOpen (dC := dC) (dI := dI) (cI := cI) (cZ := cZ) (am := am) (sm := sm) (fe := fe) (ex := ex) (gp := gp) (gc := gc) (dy := dy) (n := n) (pe := pe) (gr := gr) (st := st) (dl := dl) (wo := wo) (q := q) (yc := yc) (ya := ya) (yd := yd) (ys := ys) (tp := tp) (fu := fu) (sh := sh) (ro := ro) (th := th) l hq) (cwV 0 hts hg9 rfl rfl rfl (by decide +kernel) hR9) ⟨fun a U g mk q => ⟨q.1, q.2.1, va_K.moved (u := U) (U := U.calling g mk a) (Vm.Alike.refl U.vm) q.2.2⟩, rM_0 hK hP, fun U hU hW => ⟨rfl, by rw [hU]; exact hP, va_K.moved hW.alike hK⟩⟩ rfl rfl hl9 rfl (lv_room hw9) hdg hc9) (fun r h => by subst h; exact kk)
end
set_option maxHeartbeats 4000000 in
set_option maxRecDepth 100000 in
theorem c_X4_thrown (l : Launch) {dC : Nat → ClassId} {dI : Nat → Nat → Nat} {cI cZ : ClassId} {am : Nat → Nat} {sm fe ex : Int32} {gp gc : Nat → Int32} {dy : Int32} {n : Nat} {pe gr st dl wo : Nat → Int32} {q : Nat} {yc ya yd ys tp fu sh ro : Nat → Int32} {th : Int32}   : Met l yX4_thrown wsX4_thrown { frames := 0, cells := 0, slots := 0, locals := 0 } (va_Pc [.ref (am 0)] (fun U => va_P (dC, dI) vwCl (wM cI cZ am sm fe ex gp gc dy n pe gr st dl wo q yc ya yd ys tp fu sh ro th) U.heap ∧ va_K (dC, dI) vwCl [(cI, .int), (cZ, .boolean)] U)) (vp_Si (fun r => r = th)) 0 0 (fun _ => False) := by
  refine Met.ofW (cc := cX4_thrown) (maxL := 1) (ret := (some .int)) (by decide) rfl ?_
  intro p e s m args below meth c s₁ B hml hv
  obtain ⟨rfl, hP, hK⟩ := hv
  have hx := B.exec
  have hb := B.bytes
  have hr := B.returns
  have hts := atoms_spec (ws := wsX4_thrown) B.pre
  have hown : s.vm.findClass RX4 = some m.cls := findClass_of_methodNamed B.named
  have hlocks := B.notSynchronized
  have hl := lv_entry ([.ref (am 0)]) (n := 1) (Nat.le_of_ble_eq_true rfl)
  rw [lg_entry_eq]
  generalize (lg_sl ([.ref (am 0)]) ++ List.replicate (1 - (lg_sl ([.ref (am 0)])).length) Slot.unset).toArray = ls at hl ⊢
  have hl : lv_has ls 1 [(0, .ref (am 0))] := hl
  have hiX4 : ∀ w ∈ wsX40, w ∈ wsX4_thrown := by decide +kernel
  have hf57 := hts (.fieldLink RX4 57 "SettlementFundModel" "thrown" "I") (by decide +kernel)
  refine lv_aload_n hx hb dX4_thrown_0 rfl (lv_at hl 0 rfl) ?_
  refine gM_0_21 hx hb hts hiX4 hown hK hP hf57 dX4_thrown_1 ?_
  exact W.iret (v := th) hx hb hr (fun t ht hW => ⟨th, rfl, rfl, ht⟩) (fun _ h => nomatch h) dX4_thrown_4
section
variable {p : Program} {e : Env} {R : Room} {s : State} {m : MethodId} {args : Array Value} {below : List Frame} {meth : Method} {c : Code} {H : Heap} {locs : List Loc} {cells slots : Nat} {Q : State → Prop} {cc : ByteArray} {pc : Nat} {ls : Array Slot} {rest : List Value} {own : String} {index nL : Nat} {Ts : List Cond} {H0 : Heap} {A0 : Nat → Prop}
theorem k_X4_thrown (l : Launch) {dC : Nat → ClassId} {dI : Nat → Nat → Nat} {cI cZ : ClassId} {am : Nat → Nat} {sm fe ex : Int32} {gp gc : Nat → Int32} {dy : Int32} {n : Nat} {pe gr st dl wo : Nat → Int32} {q : Nat} {yc ya yd ys tp fu sh ro : Nat → Int32} {th : Int32}   (hx : p.tables.exec = Jvm.exec) (hb : c.code = cc) (hml : c.maxLocals = nL) (hown : s.vm.findClass own = some m.cls) (hts : ∀ w ∈ Ts, w.before args s = true) (hK : va_K (dC, dI) vwCl [(cI, .int), (cZ, .boolean)] s) (hP : va_P (dC, dI) vwCl (wM cI cZ am sm fe ex gp gc dy n pe gr st dl wo q yc ya yd ys tp fu sh ro th) H) (hg9 : GoodIn Ts (wsV own index RX4 yX4_thrown wsX4_thrown)) (hR9 : 0 + 1 ≤ R.frames ∧ 8 + (1 + 11) + 0 ≤ R.locals) (hc9 : cells ≤ R.cells ∧ slots ≤ R.slots) (hl9 : ls.size = nL) (hw9 : (rest.map fun v => v.category).sum ≤ 8) (hdg : decode cc pc = .ok (.invokevirtual index, 3)) (kk : W p l e R s m args below meth c H locs cells slots Q (F0 m (pc + 3) ls (.int th :: rest))) : W p l e R s m args below meth c H locs cells slots Q (F0 m pc ls (.ref (am 0) :: rest)) := zc_ro (W.runV (As := []) (rest := rest) ⟨hx, hb, hml, hown, hts⟩ (c_X4_thrown (dC := dC) (dI := dI) (cI := cI) (cZ := cZ) (am := am) (sm := sm) (fe := fe) (ex := ex) (gp := gp) (gc := gc) (dy := dy) (n := n) (pe := pe) (gr := gr) (st := st) (dl := dl) (wo := wo) (q := q) (yc := yc) (ya := ya) (yd := yd) (ys := ys) (tp := tp) (fu := fu) (sh := sh) (ro := ro) (th := th) l ) (cwV 0 hts hg9 rfl rfl rfl (by decide +kernel) hR9) ⟨fun a U g mk q => ⟨q.1, q.2.1, va_K.moved (u := U) (U := U.calling g mk a) (Vm.Alike.refl U.vm) q.2.2⟩, rM_0 hK hP, fun U hU hW => ⟨rfl, by rw [hU]; exact hP, va_K.moved hW.alike hK⟩⟩ rfl rfl hl9 rfl (lv_room hw9) hdg hc9) (fun r h => by subst h; exact kk)
end
set_option maxHeartbeats 4000000 in
set_option maxRecDepth 100000 in
theorem c_X4_today (l : Launch) {dC : Nat → ClassId} {dI : Nat → Nat → Nat} {cI cZ : ClassId} {am : Nat → Nat} {sm fe ex : Int32} {gp gc : Nat → Int32} {dy : Int32} {n : Nat} {pe gr st dl wo : Nat → Int32} {q : Nat} {yc ya yd ys tp fu sh ro : Nat → Int32} {th : Int32}  (hI : iwM am)  : Met l yX4_today wsX4_today { frames := 0, cells := 0, slots := 0, locals := 0 } (va_Pc [.ref (am 0)] (fun U => va_P (dC, dI) vwCl (wM cI cZ am sm fe ex gp gc dy n pe gr st dl wo q yc ya yd ys tp fu sh ro th) U.heap ∧ va_K (dC, dI) vwCl [(cI, .int), (cZ, .boolean)] U)) (va_Qi (fun r (_ : Unit) => r = dy) (fun _ t => va_P (dC, dI) vwCl (wM cI cZ am sm fe ex gp gc dy n pe gr st dl wo q yc ya yd ys tp fu sh ro (nI 0)) t.heap) (awM am)) 0 0 (awM am) := by
  refine Met.ofW (cc := cX4_today) (maxL := 1) (ret := (some .int)) (by decide) rfl ?_
  intro p e s m args below meth c s₁ B hml hv
  obtain ⟨rfl, hP, hK⟩ := hv
  have hx := B.exec
  have hb := B.bytes
  have hr := B.returns
  have hts := atoms_spec (ws := wsX4_today) B.pre
  have hown : s.vm.findClass RX4 = some m.cls := findClass_of_methodNamed B.named
  have hlocks := B.notSynchronized
  have hS : va_S (awM am) s.heap s.heap [] := va_S.rf
  have hl := lv_entry ([.ref (am 0)]) (n := 1) (Nat.le_of_ble_eq_true rfl)
  rw [lg_entry_eq]
  generalize (lg_sl ([.ref (am 0)]) ++ List.replicate (1 - (lg_sl ([.ref (am 0)])).length) Slot.unset).toArray = ls at hl ⊢
  have hl : lv_has ls 1 [(0, .ref (am 0))] := hl
  have hiX4 : ∀ w ∈ wsX40, w ∈ wsX4_today := by decide +kernel
  have hf57 := hts (.fieldLink RX4 57 "SettlementFundModel" "thrown" "I") (by decide +kernel)
  have hf94 := hts (.fieldLink RX4 94 "SettlementFundModel" "today" "I") (by decide +kernel)
  refine lv_aload_n hx hb dX4_today_0 rfl (lv_at hl 0 rfl) ?_
  refine lv_iconst (v := nI 0) hx hb dX4_today_1 (by decide) ?_
  refine uM_0_21 hx hb hts hiX4 hown hK hP hf57 hI (fun _ h => h) hS dX4_today_2 (fun H locs hP hS => ?_)
  refine lv_aload_n hx hb dX4_today_5 rfl (lv_at hl 0 rfl) ?_
  refine gM_0_5 hx hb hts hiX4 hown hK hP hf94 dX4_today_6 ?_
  exact W.iret (v := dy) hx hb hr (fun t ht hW => ⟨⟨dy, (), rfl, rfl, by (try dsimp only); rw [ht]; exact hP⟩, hS.F ht⟩) hS.2.2 dX4_today_9
section
variable {p : Program} {e : Env} {R : Room} {s : State} {m : MethodId} {args : Array Value} {below : List Frame} {meth : Method} {c : Code} {H : Heap} {locs : List Loc} {cells slots : Nat} {Q : State → Prop} {cc : ByteArray} {pc : Nat} {ls : Array Slot} {rest : List Value} {own : String} {index nL : Nat} {Ts : List Cond} {H0 : Heap} {A0 : Nat → Prop}
theorem k_X4_today (l : Launch) {dC : Nat → ClassId} {dI : Nat → Nat → Nat} {cI cZ : ClassId} {am : Nat → Nat} {sm fe ex : Int32} {gp gc : Nat → Int32} {dy : Int32} {n : Nat} {pe gr st dl wo : Nat → Int32} {q : Nat} {yc ya yd ys tp fu sh ro : Nat → Int32} {th : Int32}   (hx : p.tables.exec = Jvm.exec) (hb : c.code = cc) (hml : c.maxLocals = nL) (hown : s.vm.findClass own = some m.cls) (hts : ∀ w ∈ Ts, w.before args s = true) (hK : va_K (dC, dI) vwCl [(cI, .int), (cZ, .boolean)] s) (hP : va_P (dC, dI) vwCl (wM cI cZ am sm fe ex gp gc dy n pe gr st dl wo q yc ya yd ys tp fu sh ro th) H) (hg9 : GoodIn Ts (wsV own index RX4 yX4_today wsX4_today)) (hR9 : 0 + 1 ≤ R.frames ∧ 8 + (1 + 11) + 0 ≤ R.locals) (hc9 : cells ≤ R.cells ∧ slots ≤ R.slots) (hl9 : ls.size = nL) (hw9 : (rest.map fun v => v.category).sum ≤ 8) (hdg : decode cc pc = .ok (.invokevirtual index, 3)) (hI : iwM am) (hA : ∀ x, awM am x → A0 x) (hS : va_S A0 H0 H locs) (kk : ∀ (H1 : Heap) (locs1 : List Loc), va_P (dC, dI) vwCl (wM cI cZ am sm fe ex gp gc dy n pe gr st dl wo q yc ya yd ys tp fu sh ro (nI 0)) H1 → va_S A0 H0 H1 locs1 → (∀ q : Nat, q < H.size → ¬ awM am q → H1[q]? = H[q]?) → W p l e R s m args below meth c H1 locs1 cells slots Q (F0 m (pc + 3) ls (.int dy :: rest))) : W p l e R s m args below meth c H locs cells slots Q (F0 m pc ls (.ref (am 0) :: rest)) := va_calli (va_runV (As := []) (rest := rest) ⟨hx, hb, hml, hown, hts⟩ (c_X4_today (dC := dC) (dI := dI) (cI := cI) (cZ := cZ) (am := am) (sm := sm) (fe := fe) (ex := ex) (gp := gp) (gc := gc) (dy := dy) (n := n) (pe := pe) (gr := gr) (st := st) (dl := dl) (wo := wo) (q := q) (yc := yc) (ya := ya) (yd := yd) (ys := ys) (tp := tp) (fu := fu) (sh := sh) (ro := ro) (th := th) l hI ) (cwV 0 hts hg9 rfl rfl rfl (by decide +kernel) hR9) ⟨fun a U g mk q => ⟨q.1, q.2.1, va_K.moved (u := U) (U := U.calling g mk a) (Vm.Alike.refl U.vm) q.2.2⟩, rM_0 hK hP, fun U hU hW => ⟨rfl, by rw [hU]; exact hP, va_K.moved hW.alike hK⟩⟩ rfl rfl hl9 rfl (lv_room hw9) hdg hc9) hS (fun q _ h => hA q h) hA (fun r u t H1 locs1 ht _ hu hB hz hk hS1 => by subst hu; exact kk H1 locs1 (by rw [ht] at hB; exact hB) hS1 hk)
end
set_option maxHeartbeats 4000000 in
set_option maxRecDepth 100000 in
theorem c_X4_claims (l : Launch) {dC : Nat → ClassId} {dI : Nat → Nat → Nat} {cI cZ : ClassId} {am : Nat → Nat} {sm fe ex : Int32} {gp gc : Nat → Int32} {dy : Int32} {n : Nat} {pe gr st dl wo : Nat → Int32} {q : Nat} {yc ya yd ys tp fu sh ro : Nat → Int32} {th : Int32}  (hI : iwM am)  : Met l yX4_claims wsX4_claims { frames := 0, cells := 0, slots := 0, locals := 0 } (va_Pc [.ref (am 0)] (fun U => va_P (dC, dI) vwCl (wM cI cZ am sm fe ex gp gc dy n pe gr st dl wo q yc ya yd ys tp fu sh ro th) U.heap ∧ va_K (dC, dI) vwCl [(cI, .int), (cZ, .boolean)] U)) (va_Qi (fun r (_ : Unit) => r = nI n) (fun _ t => va_P (dC, dI) vwCl (wM cI cZ am sm fe ex gp gc dy n pe gr st dl wo q yc ya yd ys tp fu sh ro (nI 0)) t.heap) (awM am)) 0 0 (awM am) := by
  refine Met.ofW (cc := cX4_claims) (maxL := 1) (ret := (some .int)) (by decide) rfl ?_
  intro p e s m args below meth c s₁ B hml hv
  obtain ⟨rfl, hP, hK⟩ := hv
  have hx := B.exec
  have hb := B.bytes
  have hr := B.returns
  have hts := atoms_spec (ws := wsX4_claims) B.pre
  have hown : s.vm.findClass RX4 = some m.cls := findClass_of_methodNamed B.named
  have hlocks := B.notSynchronized
  have hS : va_S (awM am) s.heap s.heap [] := va_S.rf
  have hl := lv_entry ([.ref (am 0)]) (n := 1) (Nat.le_of_ble_eq_true rfl)
  rw [lg_entry_eq]
  generalize (lg_sl ([.ref (am 0)]) ++ List.replicate (1 - (lg_sl ([.ref (am 0)])).length) Slot.unset).toArray = ls at hl ⊢
  have hl : lv_has ls 1 [(0, .ref (am 0))] := hl
  have hiX4 : ∀ w ∈ wsX40, w ∈ wsX4_claims := by decide +kernel
  have hf57 := hts (.fieldLink RX4 57 "SettlementFundModel" "thrown" "I") (by decide +kernel)
  have hf61 := hts (.fieldLink RX4 61 "SettlementFundModel" "claims" "I") (by decide +kernel)
  refine lv_aload_n hx hb dX4_claims_0 rfl (lv_at hl 0 rfl) ?_
  refine lv_iconst (v := nI 0) hx hb dX4_claims_1 (by decide) ?_
  refine uM_0_21 hx hb hts hiX4 hown hK hP hf57 hI (fun _ h => h) hS dX4_claims_2 (fun H locs hP hS => ?_)
  refine lv_aload_n hx hb dX4_claims_5 rfl (lv_at hl 0 rfl) ?_
  refine gM_0_6 hx hb hts hiX4 hown hK hP hf61 dX4_claims_6 ?_
  exact W.iret (v := nI n) hx hb hr (fun t ht hW => ⟨⟨nI n, (), rfl, rfl, by (try dsimp only); rw [ht]; exact hP⟩, hS.F ht⟩) hS.2.2 dX4_claims_9
section
variable {p : Program} {e : Env} {R : Room} {s : State} {m : MethodId} {args : Array Value} {below : List Frame} {meth : Method} {c : Code} {H : Heap} {locs : List Loc} {cells slots : Nat} {Q : State → Prop} {cc : ByteArray} {pc : Nat} {ls : Array Slot} {rest : List Value} {own : String} {index nL : Nat} {Ts : List Cond} {H0 : Heap} {A0 : Nat → Prop}
theorem k_X4_claims (l : Launch) {dC : Nat → ClassId} {dI : Nat → Nat → Nat} {cI cZ : ClassId} {am : Nat → Nat} {sm fe ex : Int32} {gp gc : Nat → Int32} {dy : Int32} {n : Nat} {pe gr st dl wo : Nat → Int32} {q : Nat} {yc ya yd ys tp fu sh ro : Nat → Int32} {th : Int32}   (hx : p.tables.exec = Jvm.exec) (hb : c.code = cc) (hml : c.maxLocals = nL) (hown : s.vm.findClass own = some m.cls) (hts : ∀ w ∈ Ts, w.before args s = true) (hK : va_K (dC, dI) vwCl [(cI, .int), (cZ, .boolean)] s) (hP : va_P (dC, dI) vwCl (wM cI cZ am sm fe ex gp gc dy n pe gr st dl wo q yc ya yd ys tp fu sh ro th) H) (hg9 : GoodIn Ts (wsV own index RX4 yX4_claims wsX4_claims)) (hR9 : 0 + 1 ≤ R.frames ∧ 8 + (1 + 11) + 0 ≤ R.locals) (hc9 : cells ≤ R.cells ∧ slots ≤ R.slots) (hl9 : ls.size = nL) (hw9 : (rest.map fun v => v.category).sum ≤ 8) (hdg : decode cc pc = .ok (.invokevirtual index, 3)) (hI : iwM am) (hA : ∀ x, awM am x → A0 x) (hS : va_S A0 H0 H locs) (kk : ∀ (H1 : Heap) (locs1 : List Loc), va_P (dC, dI) vwCl (wM cI cZ am sm fe ex gp gc dy n pe gr st dl wo q yc ya yd ys tp fu sh ro (nI 0)) H1 → va_S A0 H0 H1 locs1 → (∀ q : Nat, q < H.size → ¬ awM am q → H1[q]? = H[q]?) → W p l e R s m args below meth c H1 locs1 cells slots Q (F0 m (pc + 3) ls (.int (nI n) :: rest))) : W p l e R s m args below meth c H locs cells slots Q (F0 m pc ls (.ref (am 0) :: rest)) := va_calli (va_runV (As := []) (rest := rest) ⟨hx, hb, hml, hown, hts⟩ (c_X4_claims (dC := dC) (dI := dI) (cI := cI) (cZ := cZ) (am := am) (sm := sm) (fe := fe) (ex := ex) (gp := gp) (gc := gc) (dy := dy) (n := n) (pe := pe) (gr := gr) (st := st) (dl := dl) (wo := wo) (q := q) (yc := yc) (ya := ya) (yd := yd) (ys := ys) (tp := tp) (fu := fu) (sh := sh) (ro := ro) (th := th) l hI ) (cwV 0 hts hg9 rfl rfl rfl (by decide +kernel) hR9) ⟨fun a U g mk q => ⟨q.1, q.2.1, va_K.moved (u := U) (U := U.calling g mk a) (Vm.Alike.refl U.vm) q.2.2⟩, rM_0 hK hP, fun U hU hW => ⟨rfl, by rw [hU]; exact hP, va_K.moved hW.alike hK⟩⟩ rfl rfl hl9 rfl (lv_room hw9) hdg hc9) hS (fun q _ h => hA q h) hA (fun r u t H1 locs1 ht _ hu hB hz hk hS1 => by subst hu; exact kk H1 locs1 (by rw [ht] at hB; exact hB) hS1 hk)
end
set_option maxHeartbeats 4000000 in
set_option maxRecDepth 100000 in
theorem c_X4_payments (l : Launch) {dC : Nat → ClassId} {dI : Nat → Nat → Nat} {cI cZ : ClassId} {am : Nat → Nat} {sm fe ex : Int32} {gp gc : Nat → Int32} {dy : Int32} {n : Nat} {pe gr st dl wo : Nat → Int32} {q : Nat} {yc ya yd ys tp fu sh ro : Nat → Int32} {th : Int32}  (hI : iwM am)  : Met l yX4_payments wsX4_payments { frames := 0, cells := 0, slots := 0, locals := 0 } (va_Pc [.ref (am 0)] (fun U => va_P (dC, dI) vwCl (wM cI cZ am sm fe ex gp gc dy n pe gr st dl wo q yc ya yd ys tp fu sh ro th) U.heap ∧ va_K (dC, dI) vwCl [(cI, .int), (cZ, .boolean)] U)) (va_Qi (fun r (_ : Unit) => r = nI q) (fun _ t => va_P (dC, dI) vwCl (wM cI cZ am sm fe ex gp gc dy n pe gr st dl wo q yc ya yd ys tp fu sh ro (nI 0)) t.heap) (awM am)) 0 0 (awM am) := by
  refine Met.ofW (cc := cX4_payments) (maxL := 1) (ret := (some .int)) (by decide) rfl ?_
  intro p e s m args below meth c s₁ B hml hv
  obtain ⟨rfl, hP, hK⟩ := hv
  have hx := B.exec
  have hb := B.bytes
  have hr := B.returns
  have hts := atoms_spec (ws := wsX4_payments) B.pre
  have hown : s.vm.findClass RX4 = some m.cls := findClass_of_methodNamed B.named
  have hlocks := B.notSynchronized
  have hS : va_S (awM am) s.heap s.heap [] := va_S.rf
  have hl := lv_entry ([.ref (am 0)]) (n := 1) (Nat.le_of_ble_eq_true rfl)
  rw [lg_entry_eq]
  generalize (lg_sl ([.ref (am 0)]) ++ List.replicate (1 - (lg_sl ([.ref (am 0)])).length) Slot.unset).toArray = ls at hl ⊢
  have hl : lv_has ls 1 [(0, .ref (am 0))] := hl
  have hiX4 : ∀ w ∈ wsX40, w ∈ wsX4_payments := by decide +kernel
  have hf57 := hts (.fieldLink RX4 57 "SettlementFundModel" "thrown" "I") (by decide +kernel)
  have hf68 := hts (.fieldLink RX4 68 "SettlementFundModel" "payments" "I") (by decide +kernel)
  refine lv_aload_n hx hb dX4_payments_0 rfl (lv_at hl 0 rfl) ?_
  refine lv_iconst (v := nI 0) hx hb dX4_payments_1 (by decide) ?_
  refine uM_0_21 hx hb hts hiX4 hown hK hP hf57 hI (fun _ h => h) hS dX4_payments_2 (fun H locs hP hS => ?_)
  refine lv_aload_n hx hb dX4_payments_5 rfl (lv_at hl 0 rfl) ?_
  refine gM_0_12 hx hb hts hiX4 hown hK hP hf68 dX4_payments_6 ?_
  exact W.iret (v := nI q) hx hb hr (fun t ht hW => ⟨⟨nI q, (), rfl, rfl, by (try dsimp only); rw [ht]; exact hP⟩, hS.F ht⟩) hS.2.2 dX4_payments_9
section
variable {p : Program} {e : Env} {R : Room} {s : State} {m : MethodId} {args : Array Value} {below : List Frame} {meth : Method} {c : Code} {H : Heap} {locs : List Loc} {cells slots : Nat} {Q : State → Prop} {cc : ByteArray} {pc : Nat} {ls : Array Slot} {rest : List Value} {own : String} {index nL : Nat} {Ts : List Cond} {H0 : Heap} {A0 : Nat → Prop}
theorem k_X4_payments (l : Launch) {dC : Nat → ClassId} {dI : Nat → Nat → Nat} {cI cZ : ClassId} {am : Nat → Nat} {sm fe ex : Int32} {gp gc : Nat → Int32} {dy : Int32} {n : Nat} {pe gr st dl wo : Nat → Int32} {q : Nat} {yc ya yd ys tp fu sh ro : Nat → Int32} {th : Int32}   (hx : p.tables.exec = Jvm.exec) (hb : c.code = cc) (hml : c.maxLocals = nL) (hown : s.vm.findClass own = some m.cls) (hts : ∀ w ∈ Ts, w.before args s = true) (hK : va_K (dC, dI) vwCl [(cI, .int), (cZ, .boolean)] s) (hP : va_P (dC, dI) vwCl (wM cI cZ am sm fe ex gp gc dy n pe gr st dl wo q yc ya yd ys tp fu sh ro th) H) (hg9 : GoodIn Ts (wsV own index RX4 yX4_payments wsX4_payments)) (hR9 : 0 + 1 ≤ R.frames ∧ 8 + (1 + 11) + 0 ≤ R.locals) (hc9 : cells ≤ R.cells ∧ slots ≤ R.slots) (hl9 : ls.size = nL) (hw9 : (rest.map fun v => v.category).sum ≤ 8) (hdg : decode cc pc = .ok (.invokevirtual index, 3)) (hI : iwM am) (hA : ∀ x, awM am x → A0 x) (hS : va_S A0 H0 H locs) (kk : ∀ (H1 : Heap) (locs1 : List Loc), va_P (dC, dI) vwCl (wM cI cZ am sm fe ex gp gc dy n pe gr st dl wo q yc ya yd ys tp fu sh ro (nI 0)) H1 → va_S A0 H0 H1 locs1 → (∀ q : Nat, q < H.size → ¬ awM am q → H1[q]? = H[q]?) → W p l e R s m args below meth c H1 locs1 cells slots Q (F0 m (pc + 3) ls (.int (nI q) :: rest))) : W p l e R s m args below meth c H locs cells slots Q (F0 m pc ls (.ref (am 0) :: rest)) := va_calli (va_runV (As := []) (rest := rest) ⟨hx, hb, hml, hown, hts⟩ (c_X4_payments (dC := dC) (dI := dI) (cI := cI) (cZ := cZ) (am := am) (sm := sm) (fe := fe) (ex := ex) (gp := gp) (gc := gc) (dy := dy) (n := n) (pe := pe) (gr := gr) (st := st) (dl := dl) (wo := wo) (q := q) (yc := yc) (ya := ya) (yd := yd) (ys := ys) (tp := tp) (fu := fu) (sh := sh) (ro := ro) (th := th) l hI ) (cwV 0 hts hg9 rfl rfl rfl (by decide +kernel) hR9) ⟨fun a U g mk q => ⟨q.1, q.2.1, va_K.moved (u := U) (U := U.calling g mk a) (Vm.Alike.refl U.vm) q.2.2⟩, rM_0 hK hP, fun U hU hW => ⟨rfl, by rw [hU]; exact hP, va_K.moved hW.alike hK⟩⟩ rfl rfl hl9 rfl (lv_room hw9) hdg hc9) hS (fun q _ h => hA q h) hA (fun r u t H1 locs1 ht _ hu hB hz hk hS1 => by subst hu; exact kk H1 locs1 (by rw [ht] at hB; exact hB) hS1 hk)
end
set_option maxHeartbeats 4000000 in
set_option maxRecDepth 100000 in
theorem c_X4_moneyLeft (l : Launch) {dC : Nat → ClassId} {dI : Nat → Nat → Nat} {cI cZ : ClassId} {am : Nat → Nat} {sm fe ex : Int32} {gp gc : Nat → Int32} {dy : Int32} {n : Nat} {pe gr st dl wo : Nat → Int32} {q : Nat} {yc ya yd ys tp fu sh ro : Nat → Int32} {th : Int32}  (hI : iwM am) (hq : q ≤ 100) : Met l yX4_moneyLeft wsX4_moneyLeft { frames := 2, cells := 0, slots := 0, locals := 42 } (va_Pc [.ref (am 0)] (fun U => va_P (dC, dI) vwCl (wM cI cZ am sm fe ex gp gc dy n pe gr st dl wo q yc ya yd ys tp fu sh ro th) U.heap ∧ va_K (dC, dI) vwCl [(cI, .int), (cZ, .boolean)] U)) (va_Qi (fun r (_ : Unit) => r = leftF sm fe ex ya ys q) (fun _ t => va_P (dC, dI) vwCl (wM cI cZ am sm fe ex gp gc dy n pe gr st dl wo q yc ya yd ys tp fu sh ro (nI 0)) t.heap) (awM am)) 0 0 (awM am) := by
  refine Met.ofW (cc := cX4_moneyLeft) (maxL := 1) (ret := (some .int)) (by decide) rfl ?_
  intro p e s m args below meth c s₁ B hml hv
  obtain ⟨rfl, hP, hK⟩ := hv
  have hx := B.exec
  have hb := B.bytes
  have hr := B.returns
  have hts := atoms_spec (ws := wsX4_moneyLeft) B.pre
  have hown : s.vm.findClass RX4 = some m.cls := findClass_of_methodNamed B.named
  have hlocks := B.notSynchronized
  have hS : va_S (awM am) s.heap s.heap [] := va_S.rf
  have hl := lv_entry ([.ref (am 0)]) (n := 1) (Nat.le_of_ble_eq_true rfl)
  rw [lg_entry_eq]
  generalize (lg_sl ([.ref (am 0)]) ++ List.replicate (1 - (lg_sl ([.ref (am 0)])).length) Slot.unset).toArray = ls at hl ⊢
  have hl : lv_has ls 1 [(0, .ref (am 0))] := hl
  have hiX4 : ∀ w ∈ wsX40, w ∈ wsX4_moneyLeft := by decide +kernel
  have hf57 := hts (.fieldLink RX4 57 "SettlementFundModel" "thrown" "I") (by decide +kernel)
  refine lv_aload_n hx hb dX4_moneyLeft_0 rfl (lv_at hl 0 rfl) ?_
  refine lv_iconst (v := nI 0) hx hb dX4_moneyLeft_1 (by decide) ?_
  refine uM_0_21 hx hb hts hiX4 hown hK hP hf57 hI (fun _ h => h) hS dX4_moneyLeft_2 (fun H locs hP hS => ?_)
  refine lv_aload_n hx hb dX4_moneyLeft_5 rfl (lv_at hl 0 rfl) ?_
  refine k_X4_left l (hq := hq) hx hb hml hown hts hK hP gX4_moneyLeft_X4_left ⟨Nat.le_of_ble_eq_true rfl, Nat.le_of_ble_eq_true rfl⟩ ⟨Nat.le_of_ble_eq_true rfl, Nat.le_of_ble_eq_true rfl⟩ hl.1 (Nat.le_of_ble_eq_true rfl) dX4_moneyLeft_6 ?_
  exact W.iret (v := leftF sm fe ex ya ys q) hx hb hr (fun t ht hW => ⟨⟨leftF sm fe ex ya ys q, (), rfl, rfl, by (try dsimp only); rw [ht]; exact hP⟩, hS.F ht⟩) hS.2.2 dX4_moneyLeft_9
section
variable {p : Program} {e : Env} {R : Room} {s : State} {m : MethodId} {args : Array Value} {below : List Frame} {meth : Method} {c : Code} {H : Heap} {locs : List Loc} {cells slots : Nat} {Q : State → Prop} {cc : ByteArray} {pc : Nat} {ls : Array Slot} {rest : List Value} {own : String} {index nL : Nat} {Ts : List Cond} {H0 : Heap} {A0 : Nat → Prop}
theorem k_X4_moneyLeft (l : Launch) {dC : Nat → ClassId} {dI : Nat → Nat → Nat} {cI cZ : ClassId} {am : Nat → Nat} {sm fe ex : Int32} {gp gc : Nat → Int32} {dy : Int32} {n : Nat} {pe gr st dl wo : Nat → Int32} {q : Nat} {yc ya yd ys tp fu sh ro : Nat → Int32} {th : Int32}  (hq : q ≤ 100) (hx : p.tables.exec = Jvm.exec) (hb : c.code = cc) (hml : c.maxLocals = nL) (hown : s.vm.findClass own = some m.cls) (hts : ∀ w ∈ Ts, w.before args s = true) (hK : va_K (dC, dI) vwCl [(cI, .int), (cZ, .boolean)] s) (hP : va_P (dC, dI) vwCl (wM cI cZ am sm fe ex gp gc dy n pe gr st dl wo q yc ya yd ys tp fu sh ro th) H) (hg9 : GoodIn Ts (wsV own index RX4 yX4_moneyLeft wsX4_moneyLeft)) (hR9 : 2 + 1 ≤ R.frames ∧ 8 + (1 + 11) + 42 ≤ R.locals) (hc9 : cells ≤ R.cells ∧ slots ≤ R.slots) (hl9 : ls.size = nL) (hw9 : (rest.map fun v => v.category).sum ≤ 8) (hdg : decode cc pc = .ok (.invokevirtual index, 3)) (hI : iwM am) (hA : ∀ x, awM am x → A0 x) (hS : va_S A0 H0 H locs) (kk : ∀ (H1 : Heap) (locs1 : List Loc), va_P (dC, dI) vwCl (wM cI cZ am sm fe ex gp gc dy n pe gr st dl wo q yc ya yd ys tp fu sh ro (nI 0)) H1 → va_S A0 H0 H1 locs1 → (∀ q : Nat, q < H.size → ¬ awM am q → H1[q]? = H[q]?) → W p l e R s m args below meth c H1 locs1 cells slots Q (F0 m (pc + 3) ls (.int (leftF sm fe ex ya ys q) :: rest))) : W p l e R s m args below meth c H locs cells slots Q (F0 m pc ls (.ref (am 0) :: rest)) := va_calli (va_runV (As := []) (rest := rest) ⟨hx, hb, hml, hown, hts⟩ (c_X4_moneyLeft (dC := dC) (dI := dI) (cI := cI) (cZ := cZ) (am := am) (sm := sm) (fe := fe) (ex := ex) (gp := gp) (gc := gc) (dy := dy) (n := n) (pe := pe) (gr := gr) (st := st) (dl := dl) (wo := wo) (q := q) (yc := yc) (ya := ya) (yd := yd) (ys := ys) (tp := tp) (fu := fu) (sh := sh) (ro := ro) (th := th) l hI hq) (cwV 0 hts hg9 rfl rfl rfl (by decide +kernel) hR9) ⟨fun a U g mk q => ⟨q.1, q.2.1, va_K.moved (u := U) (U := U.calling g mk a) (Vm.Alike.refl U.vm) q.2.2⟩, rM_0 hK hP, fun U hU hW => ⟨rfl, by rw [hU]; exact hP, va_K.moved hW.alike hK⟩⟩ rfl rfl hl9 rfl (lv_room hw9) hdg hc9) hS (fun q _ h => hA q h) hA (fun r u t H1 locs1 ht _ hu hB hz hk hS1 => by subst hu; exact kk H1 locs1 (by rw [ht] at hB; exact hB) hS1 hk)
end
set_option maxHeartbeats 4000000 in
set_option maxRecDepth 100000 in
theorem c_X4_fee (l : Launch) {dC : Nat → ClassId} {dI : Nat → Nat → Nat} {cI cZ : ClassId} {am : Nat → Nat} {sm fe ex : Int32} {gp gc : Nat → Int32} {dy : Int32} {n : Nat} {pe gr st dl wo : Nat → Int32} {q : Nat} {yc ya yd ys tp fu sh ro : Nat → Int32} {th : Int32}  (hI : iwM am)  : Met l yX4_fee wsX4_fee { frames := 1, cells := 0, slots := 0, locals := 20 } (va_Pc [.ref (am 0)] (fun U => va_P (dC, dI) vwCl (wM cI cZ am sm fe ex gp gc dy n pe gr st dl wo q yc ya yd ys tp fu sh ro th) U.heap ∧ va_K (dC, dI) vwCl [(cI, .int), (cZ, .boolean)] U)) (va_Qi (fun r (_ : Unit) => r = feeF sm fe) (fun _ t => va_P (dC, dI) vwCl (wM cI cZ am sm fe ex gp gc dy n pe gr st dl wo q yc ya yd ys tp fu sh ro (nI 0)) t.heap) (awM am)) 0 0 (awM am) := by
  refine Met.ofW (cc := cX4_fee) (maxL := 1) (ret := (some .int)) (by decide) rfl ?_
  intro p e s m args below meth c s₁ B hml hv
  obtain ⟨rfl, hP, hK⟩ := hv
  have hx := B.exec
  have hb := B.bytes
  have hr := B.returns
  have hts := atoms_spec (ws := wsX4_fee) B.pre
  have hown : s.vm.findClass RX4 = some m.cls := findClass_of_methodNamed B.named
  have hlocks := B.notSynchronized
  have hS : va_S (awM am) s.heap s.heap [] := va_S.rf
  have hl := lv_entry ([.ref (am 0)]) (n := 1) (Nat.le_of_ble_eq_true rfl)
  rw [lg_entry_eq]
  generalize (lg_sl ([.ref (am 0)]) ++ List.replicate (1 - (lg_sl ([.ref (am 0)])).length) Slot.unset).toArray = ls at hl ⊢
  have hl : lv_has ls 1 [(0, .ref (am 0))] := hl
  have hiX4 : ∀ w ∈ wsX40, w ∈ wsX4_fee := by decide +kernel
  have hf57 := hts (.fieldLink RX4 57 "SettlementFundModel" "thrown" "I") (by decide +kernel)
  refine lv_aload_n hx hb dX4_fee_0 rfl (lv_at hl 0 rfl) ?_
  refine lv_iconst (v := nI 0) hx hb dX4_fee_1 (by decide) ?_
  refine uM_0_21 hx hb hts hiX4 hown hK hP hf57 hI (fun _ h => h) hS dX4_fee_2 (fun H locs hP hS => ?_)
  refine lv_aload_n hx hb dX4_fee_5 rfl (lv_at hl 0 rfl) ?_
  refine k_X4_feeNow l  hx hb hml hown hts hK hP gX4_fee_X4_feeNow ⟨Nat.le_of_ble_eq_true rfl, Nat.le_of_ble_eq_true rfl⟩ ⟨Nat.le_of_ble_eq_true rfl, Nat.le_of_ble_eq_true rfl⟩ hl.1 (Nat.le_of_ble_eq_true rfl) dX4_fee_6 ?_
  exact W.iret (v := feeF sm fe) hx hb hr (fun t ht hW => ⟨⟨feeF sm fe, (), rfl, rfl, by (try dsimp only); rw [ht]; exact hP⟩, hS.F ht⟩) hS.2.2 dX4_fee_9
section
variable {p : Program} {e : Env} {R : Room} {s : State} {m : MethodId} {args : Array Value} {below : List Frame} {meth : Method} {c : Code} {H : Heap} {locs : List Loc} {cells slots : Nat} {Q : State → Prop} {cc : ByteArray} {pc : Nat} {ls : Array Slot} {rest : List Value} {own : String} {index nL : Nat} {Ts : List Cond} {H0 : Heap} {A0 : Nat → Prop}
theorem k_X4_fee (l : Launch) {dC : Nat → ClassId} {dI : Nat → Nat → Nat} {cI cZ : ClassId} {am : Nat → Nat} {sm fe ex : Int32} {gp gc : Nat → Int32} {dy : Int32} {n : Nat} {pe gr st dl wo : Nat → Int32} {q : Nat} {yc ya yd ys tp fu sh ro : Nat → Int32} {th : Int32}   (hx : p.tables.exec = Jvm.exec) (hb : c.code = cc) (hml : c.maxLocals = nL) (hown : s.vm.findClass own = some m.cls) (hts : ∀ w ∈ Ts, w.before args s = true) (hK : va_K (dC, dI) vwCl [(cI, .int), (cZ, .boolean)] s) (hP : va_P (dC, dI) vwCl (wM cI cZ am sm fe ex gp gc dy n pe gr st dl wo q yc ya yd ys tp fu sh ro th) H) (hg9 : GoodIn Ts (wsV own index RX4 yX4_fee wsX4_fee)) (hR9 : 1 + 1 ≤ R.frames ∧ 8 + (1 + 11) + 20 ≤ R.locals) (hc9 : cells ≤ R.cells ∧ slots ≤ R.slots) (hl9 : ls.size = nL) (hw9 : (rest.map fun v => v.category).sum ≤ 8) (hdg : decode cc pc = .ok (.invokevirtual index, 3)) (hI : iwM am) (hA : ∀ x, awM am x → A0 x) (hS : va_S A0 H0 H locs) (kk : ∀ (H1 : Heap) (locs1 : List Loc), va_P (dC, dI) vwCl (wM cI cZ am sm fe ex gp gc dy n pe gr st dl wo q yc ya yd ys tp fu sh ro (nI 0)) H1 → va_S A0 H0 H1 locs1 → (∀ q : Nat, q < H.size → ¬ awM am q → H1[q]? = H[q]?) → W p l e R s m args below meth c H1 locs1 cells slots Q (F0 m (pc + 3) ls (.int (feeF sm fe) :: rest))) : W p l e R s m args below meth c H locs cells slots Q (F0 m pc ls (.ref (am 0) :: rest)) := va_calli (va_runV (As := []) (rest := rest) ⟨hx, hb, hml, hown, hts⟩ (c_X4_fee (dC := dC) (dI := dI) (cI := cI) (cZ := cZ) (am := am) (sm := sm) (fe := fe) (ex := ex) (gp := gp) (gc := gc) (dy := dy) (n := n) (pe := pe) (gr := gr) (st := st) (dl := dl) (wo := wo) (q := q) (yc := yc) (ya := ya) (yd := yd) (ys := ys) (tp := tp) (fu := fu) (sh := sh) (ro := ro) (th := th) l hI ) (cwV 0 hts hg9 rfl rfl rfl (by decide +kernel) hR9) ⟨fun a U g mk q => ⟨q.1, q.2.1, va_K.moved (u := U) (U := U.calling g mk a) (Vm.Alike.refl U.vm) q.2.2⟩, rM_0 hK hP, fun U hU hW => ⟨rfl, by rw [hU]; exact hP, va_K.moved hW.alike hK⟩⟩ rfl rfl hl9 rfl (lv_room hw9) hdg hc9) hS (fun q _ h => hA q h) hA (fun r u t H1 locs1 ht _ hu hB hz hk hS1 => by subst hu; exact kk H1 locs1 (by rw [ht] at hB; exact hB) hS1 hk)
end
set_option maxHeartbeats 4000000 in
set_option maxRecDepth 100000 in
theorem c_X4_claimOf_ok (l : Launch) {dC : Nat → ClassId} {dI : Nat → Nat → Nat} {cI cZ : ClassId} {am : Nat → Nat} {sm fe ex : Int32} {gp gc : Nat → Int32} {dy : Int32} {n : Nat} {pe gr st dl wo : Nat → Int32} {q : Nat} {yc ya yd ys tp fu sh ro : Nat → Int32} {th : Int32} {x : Int32} (hI : iwM am) (hn : n ≤ 24) (h1 : outN x (nI 0) (nI 29) = 0) : Met l yX4_claimOf wsX4_claimOf { frames := 1, cells := 0, slots := 0, locals := 23 } (va_Pc [.ref (am 0), .int x] (fun U => va_P (dC, dI) vwCl (wM cI cZ am sm fe ex gp gc dy n pe gr st dl wo q yc ya yd ys tp fu sh ro th) U.heap ∧ va_K (dC, dI) vwCl [(cI, .int), (cZ, .boolean)] U)) (va_Qi (fun r (_ : Unit) => r = ofP pe x n) (fun _ t => va_P (dC, dI) vwCl (wM cI cZ am sm fe ex gp gc dy n pe gr st dl wo q yc ya yd ys tp fu sh ro (nI 0)) t.heap) (awM am)) 0 0 (awM am) := by
  refine Met.ofW (cc := cX4_claimOf) (maxL := 2) (ret := (some .int)) (by decide) rfl ?_
  intro p e s m args below meth c s₁ B hml hv
  obtain ⟨rfl, hP, hK⟩ := hv
  have hx := B.exec
  have hb := B.bytes
  have hr := B.returns
  have hts := atoms_spec (ws := wsX4_claimOf) B.pre
  have hown : s.vm.findClass RX4 = some m.cls := findClass_of_methodNamed B.named
  have hlocks := B.notSynchronized
  have hS : va_S (awM am) s.heap s.heap [] := va_S.rf
  have hl := lv_entry ([.ref (am 0), .int x]) (n := 2) (Nat.le_of_ble_eq_true rfl)
  rw [lg_entry_eq]
  generalize (lg_sl ([.ref (am 0), .int x]) ++ List.replicate (2 - (lg_sl ([.ref (am 0), .int x])).length) Slot.unset).toArray = ls at hl ⊢
  have hl : lv_has ls 2 [(0, .ref (am 0)), (1, .int x)] := hl
  refine lv_aload_n hx hb dX4_claimOf_0 rfl (lv_at hl 0 rfl) ?_
  refine lv_iload_n hx hb dX4_claimOf_1 rfl (lv_at hl 1 rfl) ?_
  refine lv_iconst (v := nI 0) hx hb dX4_claimOf_2 (by decide) ?_
  refine lv_bipush (v := nI 29) hx hb dX4_claimOf_3 (by decide) ?_
  refine k_X4_isIn l (x := x) (a := nI 0) (b := nI 29) hx hb hml hown hts  gX4_claimOf_X4_isIn ⟨Nat.le_of_ble_eq_true rfl, Nat.le_of_ble_eq_true rfl⟩ ⟨Nat.le_of_ble_eq_true rfl, Nat.le_of_ble_eq_true rfl⟩ hl.1 (Nat.le_of_ble_eq_true rfl) dX4_claimOf_5 ?_
  refine zi_eq (tgt := 15) hx hb (by omega) dX4_claimOf_8 (by decide) (fun c_8 => (show False by omega).elim) (fun c_8 => ?_)
  refine lv_iconst (v := nI 0) hx hb dX4_claimOf_11 (by decide) ?_
  refine lv_goto (tgt := 16) hx hb dX4_claimOf_12 (by decide) ?_
  refine k_X4_goes_0 l  hx hb hml hown hts hK hP gX4_claimOf_X4_goes ⟨Nat.le_of_ble_eq_true rfl, Nat.le_of_ble_eq_true rfl⟩ ⟨Nat.le_of_ble_eq_true rfl, Nat.le_of_ble_eq_true rfl⟩ hl.1 (Nat.le_of_ble_eq_true rfl) dX4_claimOf_16 hI (fun _ h => h) hS (fun H locs hP hS _ => ?_)
  refine zi_eq (tgt := 30) hx hb (by decide) dX4_claimOf_19 (by decide) (fun c_19 => (show False by omega).elim) (fun c_19 => ?_)
  refine lv_aload_n hx hb dX4_claimOf_22 rfl (lv_at hl 0 rfl) ?_
  refine lv_iload_n hx hb dX4_claimOf_23 rfl (lv_at hl 1 rfl) ?_
  refine k_X4_ofPerson l (x := x) (hn := hn) hx hb hml hown hts hK hP gX4_claimOf_X4_ofPerson ⟨Nat.le_of_ble_eq_true rfl, Nat.le_of_ble_eq_true rfl⟩ ⟨Nat.le_of_ble_eq_true rfl, Nat.le_of_ble_eq_true rfl⟩ hl.1 (Nat.le_of_ble_eq_true rfl) dX4_claimOf_24 ?_
  refine lv_goto (tgt := 31) hx hb dX4_claimOf_27 (by decide) ?_
  exact W.iret (v := ofP pe x n) hx hb hr (fun t ht hW => ⟨⟨ofP pe x n, (), rfl, rfl, by (try dsimp only); rw [ht]; exact hP⟩, hS.F ht⟩) hS.2.2 dX4_claimOf_31
section
variable {p : Program} {e : Env} {R : Room} {s : State} {m : MethodId} {args : Array Value} {below : List Frame} {meth : Method} {c : Code} {H : Heap} {locs : List Loc} {cells slots : Nat} {Q : State → Prop} {cc : ByteArray} {pc : Nat} {ls : Array Slot} {rest : List Value} {own : String} {index nL : Nat} {Ts : List Cond} {H0 : Heap} {A0 : Nat → Prop}
theorem k_X4_claimOf_ok (l : Launch) {dC : Nat → ClassId} {dI : Nat → Nat → Nat} {cI cZ : ClassId} {am : Nat → Nat} {sm fe ex : Int32} {gp gc : Nat → Int32} {dy : Int32} {n : Nat} {pe gr st dl wo : Nat → Int32} {q : Nat} {yc ya yd ys tp fu sh ro : Nat → Int32} {th : Int32} {x : Int32} (hn : n ≤ 24) (h1 : outN x (nI 0) (nI 29) = 0) (hx : p.tables.exec = Jvm.exec) (hb : c.code = cc) (hml : c.maxLocals = nL) (hown : s.vm.findClass own = some m.cls) (hts : ∀ w ∈ Ts, w.before args s = true) (hK : va_K (dC, dI) vwCl [(cI, .int), (cZ, .boolean)] s) (hP : va_P (dC, dI) vwCl (wM cI cZ am sm fe ex gp gc dy n pe gr st dl wo q yc ya yd ys tp fu sh ro th) H) (hg9 : GoodIn Ts (wsV own index RX4 yX4_claimOf wsX4_claimOf)) (hR9 : 1 + 1 ≤ R.frames ∧ 8 + (2 + 11) + 23 ≤ R.locals) (hc9 : cells ≤ R.cells ∧ slots ≤ R.slots) (hl9 : ls.size = nL) (hw9 : (rest.map fun v => v.category).sum ≤ 8) (hdg : decode cc pc = .ok (.invokevirtual index, 3)) (hI : iwM am) (hA : ∀ x, awM am x → A0 x) (hS : va_S A0 H0 H locs) (kk : ∀ (H1 : Heap) (locs1 : List Loc), va_P (dC, dI) vwCl (wM cI cZ am sm fe ex gp gc dy n pe gr st dl wo q yc ya yd ys tp fu sh ro (nI 0)) H1 → va_S A0 H0 H1 locs1 → (∀ q : Nat, q < H.size → ¬ awM am q → H1[q]? = H[q]?) → W p l e R s m args below meth c H1 locs1 cells slots Q (F0 m (pc + 3) ls (.int (ofP pe x n) :: rest))) : W p l e R s m args below meth c H locs cells slots Q (F0 m pc ls (.int x :: .ref (am 0) :: rest)) := va_calli (va_runV (As := [.int x]) (rest := rest) ⟨hx, hb, hml, hown, hts⟩ (c_X4_claimOf_ok (dC := dC) (dI := dI) (cI := cI) (cZ := cZ) (am := am) (sm := sm) (fe := fe) (ex := ex) (gp := gp) (gc := gc) (dy := dy) (n := n) (pe := pe) (gr := gr) (st := st) (dl := dl) (wo := wo) (q := q) (yc := yc) (ya := ya) (yd := yd) (ys := ys) (tp := tp) (fu := fu) (sh := sh) (ro := ro) (th := th) (x := x) l hI hn h1) (cwV 1 hts hg9 rfl rfl rfl (by decide +kernel) hR9) ⟨fun a U g mk q => ⟨q.1, q.2.1, va_K.moved (u := U) (U := U.calling g mk a) (Vm.Alike.refl U.vm) q.2.2⟩, rM_0 hK hP, fun U hU hW => ⟨rfl, by rw [hU]; exact hP, va_K.moved hW.alike hK⟩⟩ rfl rfl hl9 rfl (lv_room hw9) hdg hc9) hS (fun q _ h => hA q h) hA (fun r u t H1 locs1 ht _ hu hB hz hk hS1 => by subst hu; exact kk H1 locs1 (by rw [ht] at hB; exact hB) hS1 hk)
end
set_option maxHeartbeats 4000000 in
set_option maxRecDepth 100000 in
theorem c_X4_claimOf_no (l : Launch) {dC : Nat → ClassId} {dI : Nat → Nat → Nat} {cI cZ : ClassId} {am : Nat → Nat} {sm fe ex : Int32} {gp gc : Nat → Int32} {dy : Int32} {n : Nat} {pe gr st dl wo : Nat → Int32} {q : Nat} {yc ya yd ys tp fu sh ro : Nat → Int32} {th : Int32} {x : Int32} (hI : iwM am) (h1 : ¬ outN x (nI 0) (nI 29) = 0) : Met l yX4_claimOf wsX4_claimOf { frames := 1, cells := 0, slots := 0, locals := 22 } (va_Pc [.ref (am 0), .int x] (fun U => va_P (dC, dI) vwCl (wM cI cZ am sm fe ex gp gc dy n pe gr st dl wo q yc ya yd ys tp fu sh ro th) U.heap ∧ va_K (dC, dI) vwCl [(cI, .int), (cZ, .boolean)] U)) (va_Qi (fun r (_ : Unit) => r = nI 0) (fun _ t => va_P (dC, dI) vwCl (wM cI cZ am sm fe ex gp gc dy n pe gr st dl wo q yc ya yd ys tp fu sh ro (nI 1)) t.heap) (awM am)) 0 0 (awM am) := by
  refine Met.ofW (cc := cX4_claimOf) (maxL := 2) (ret := (some .int)) (by decide) rfl ?_
  intro p e s m args below meth c s₁ B hml hv
  obtain ⟨rfl, hP, hK⟩ := hv
  have hx := B.exec
  have hb := B.bytes
  have hr := B.returns
  have hts := atoms_spec (ws := wsX4_claimOf) B.pre
  have hown : s.vm.findClass RX4 = some m.cls := findClass_of_methodNamed B.named
  have hlocks := B.notSynchronized
  have hS : va_S (awM am) s.heap s.heap [] := va_S.rf
  have hl := lv_entry ([.ref (am 0), .int x]) (n := 2) (Nat.le_of_ble_eq_true rfl)
  rw [lg_entry_eq]
  generalize (lg_sl ([.ref (am 0), .int x]) ++ List.replicate (2 - (lg_sl ([.ref (am 0), .int x])).length) Slot.unset).toArray = ls at hl ⊢
  have hl : lv_has ls 2 [(0, .ref (am 0)), (1, .int x)] := hl
  refine lv_aload_n hx hb dX4_claimOf_0 rfl (lv_at hl 0 rfl) ?_
  refine lv_iload_n hx hb dX4_claimOf_1 rfl (lv_at hl 1 rfl) ?_
  refine lv_iconst (v := nI 0) hx hb dX4_claimOf_2 (by decide) ?_
  refine lv_bipush (v := nI 29) hx hb dX4_claimOf_3 (by decide) ?_
  refine k_X4_isIn l (x := x) (a := nI 0) (b := nI 29) hx hb hml hown hts  gX4_claimOf_X4_isIn ⟨Nat.le_of_ble_eq_true rfl, Nat.le_of_ble_eq_true rfl⟩ ⟨Nat.le_of_ble_eq_true rfl, Nat.le_of_ble_eq_true rfl⟩ hl.1 (Nat.le_of_ble_eq_true rfl) dX4_claimOf_5 ?_
  refine zi_eq (tgt := 15) hx hb (by omega) dX4_claimOf_8 (by decide) (fun c_8 => ?_) (fun c_8 => (show False by omega).elim)
  refine lv_iconst (v := nI 1) hx hb dX4_claimOf_15 (by decide) ?_
  refine k_X4_goes_k l (k := 1) (hk := by decide) (h2 := by decide) hx hb hml hown hts hK hP gX4_claimOf_X4_goes ⟨Nat.le_of_ble_eq_true rfl, Nat.le_of_ble_eq_true rfl⟩ ⟨Nat.le_of_ble_eq_true rfl, Nat.le_of_ble_eq_true rfl⟩ hl.1 (Nat.le_of_ble_eq_true rfl) dX4_claimOf_16 hI (fun _ h => h) hS (fun H locs hP hS _ => ?_)
  refine zi_eq (tgt := 30) hx hb (by decide) dX4_claimOf_19 (by decide) (fun c_19 => ?_) (fun c_19 => (show False by omega).elim)
  refine lv_iconst (v := nI 0) hx hb dX4_claimOf_30 (by decide) ?_
  exact W.iret (v := nI 0) hx hb hr (fun t ht hW => ⟨⟨nI 0, (), rfl, rfl, by (try dsimp only); rw [ht]; exact hP⟩, hS.F ht⟩) hS.2.2 dX4_claimOf_31
section
variable {p : Program} {e : Env} {R : Room} {s : State} {m : MethodId} {args : Array Value} {below : List Frame} {meth : Method} {c : Code} {H : Heap} {locs : List Loc} {cells slots : Nat} {Q : State → Prop} {cc : ByteArray} {pc : Nat} {ls : Array Slot} {rest : List Value} {own : String} {index nL : Nat} {Ts : List Cond} {H0 : Heap} {A0 : Nat → Prop}
theorem k_X4_claimOf_no (l : Launch) {dC : Nat → ClassId} {dI : Nat → Nat → Nat} {cI cZ : ClassId} {am : Nat → Nat} {sm fe ex : Int32} {gp gc : Nat → Int32} {dy : Int32} {n : Nat} {pe gr st dl wo : Nat → Int32} {q : Nat} {yc ya yd ys tp fu sh ro : Nat → Int32} {th : Int32} {x : Int32} (h1 : ¬ outN x (nI 0) (nI 29) = 0) (hx : p.tables.exec = Jvm.exec) (hb : c.code = cc) (hml : c.maxLocals = nL) (hown : s.vm.findClass own = some m.cls) (hts : ∀ w ∈ Ts, w.before args s = true) (hK : va_K (dC, dI) vwCl [(cI, .int), (cZ, .boolean)] s) (hP : va_P (dC, dI) vwCl (wM cI cZ am sm fe ex gp gc dy n pe gr st dl wo q yc ya yd ys tp fu sh ro th) H) (hg9 : GoodIn Ts (wsV own index RX4 yX4_claimOf wsX4_claimOf)) (hR9 : 1 + 1 ≤ R.frames ∧ 8 + (2 + 11) + 22 ≤ R.locals) (hc9 : cells ≤ R.cells ∧ slots ≤ R.slots) (hl9 : ls.size = nL) (hw9 : (rest.map fun v => v.category).sum ≤ 8) (hdg : decode cc pc = .ok (.invokevirtual index, 3)) (hI : iwM am) (hA : ∀ x, awM am x → A0 x) (hS : va_S A0 H0 H locs) (kk : ∀ (H1 : Heap) (locs1 : List Loc), va_P (dC, dI) vwCl (wM cI cZ am sm fe ex gp gc dy n pe gr st dl wo q yc ya yd ys tp fu sh ro (nI 1)) H1 → va_S A0 H0 H1 locs1 → (∀ q : Nat, q < H.size → ¬ awM am q → H1[q]? = H[q]?) → W p l e R s m args below meth c H1 locs1 cells slots Q (F0 m (pc + 3) ls (.int (nI 0) :: rest))) : W p l e R s m args below meth c H locs cells slots Q (F0 m pc ls (.int x :: .ref (am 0) :: rest)) := va_calli (va_runV (As := [.int x]) (rest := rest) ⟨hx, hb, hml, hown, hts⟩ (c_X4_claimOf_no (dC := dC) (dI := dI) (cI := cI) (cZ := cZ) (am := am) (sm := sm) (fe := fe) (ex := ex) (gp := gp) (gc := gc) (dy := dy) (n := n) (pe := pe) (gr := gr) (st := st) (dl := dl) (wo := wo) (q := q) (yc := yc) (ya := ya) (yd := yd) (ys := ys) (tp := tp) (fu := fu) (sh := sh) (ro := ro) (th := th) (x := x) l hI h1) (cwV 1 hts hg9 rfl rfl rfl (by decide +kernel) hR9) ⟨fun a U g mk q => ⟨q.1, q.2.1, va_K.moved (u := U) (U := U.calling g mk a) (Vm.Alike.refl U.vm) q.2.2⟩, rM_0 hK hP, fun U hU hW => ⟨rfl, by rw [hU]; exact hP, va_K.moved hW.alike hK⟩⟩ rfl rfl hl9 rfl (lv_room hw9) hdg hc9) hS (fun q _ h => hA q h) hA (fun r u t H1 locs1 ht _ hu hB hz hk hS1 => by subst hu; exact kk H1 locs1 (by rw [ht] at hB; exact hB) hS1 hk)
end
set_option maxHeartbeats 4000000 in
set_option maxRecDepth 100000 in
theorem c_X4_count_ok (l : Launch) {dC : Nat → ClassId} {dI : Nat → Nat → Nat} {cI cZ : ClassId} {am : Nat → Nat} {sm fe ex : Int32} {gp gc : Nat → Int32} {dy : Int32} {n : Nat} {pe gr st dl wo : Nat → Int32} {q : Nat} {yc ya yd ys tp fu sh ro : Nat → Int32} {th : Int32} {x : Int32} (hI : iwM am) (hn : n ≤ 24) (h1 : outN x (nI 0) (nI 3) = 0) : Met l yX4_count wsX4_count { frames := 1, cells := 0, slots := 0, locals := 23 } (va_Pc [.ref (am 0), .int x] (fun U => va_P (dC, dI) vwCl (wM cI cZ am sm fe ex gp gc dy n pe gr st dl wo q yc ya yd ys tp fu sh ro th) U.heap ∧ va_K (dC, dI) vwCl [(cI, .int), (cZ, .boolean)] U)) (va_Qi (fun r (_ : Unit) => r = nI (tallyN st x n)) (fun _ t => va_P (dC, dI) vwCl (wM cI cZ am sm fe ex gp gc dy n pe gr st dl wo q yc ya yd ys tp fu sh ro (nI 0)) t.heap) (awM am)) 0 0 (awM am) := by
  refine Met.ofW (cc := cX4_count) (maxL := 2) (ret := (some .int)) (by decide) rfl ?_
  intro p e s m args below meth c s₁ B hml hv
  obtain ⟨rfl, hP, hK⟩ := hv
  have hx := B.exec
  have hb := B.bytes
  have hr := B.returns
  have hts := atoms_spec (ws := wsX4_count) B.pre
  have hown : s.vm.findClass RX4 = some m.cls := findClass_of_methodNamed B.named
  have hlocks := B.notSynchronized
  have hS : va_S (awM am) s.heap s.heap [] := va_S.rf
  have hl := lv_entry ([.ref (am 0), .int x]) (n := 2) (Nat.le_of_ble_eq_true rfl)
  rw [lg_entry_eq]
  generalize (lg_sl ([.ref (am 0), .int x]) ++ List.replicate (2 - (lg_sl ([.ref (am 0), .int x])).length) Slot.unset).toArray = ls at hl ⊢
  have hl : lv_has ls 2 [(0, .ref (am 0)), (1, .int x)] := hl
  refine lv_aload_n hx hb dX4_count_0 rfl (lv_at hl 0 rfl) ?_
  refine lv_iload_n hx hb dX4_count_1 rfl (lv_at hl 1 rfl) ?_
  refine lv_iconst (v := nI 0) hx hb dX4_count_2 (by decide) ?_
  refine lv_iconst (v := nI 3) hx hb dX4_count_3 (by decide) ?_
  refine k_X4_isIn l (x := x) (a := nI 0) (b := nI 3) hx hb hml hown hts  gX4_count_X4_isIn ⟨Nat.le_of_ble_eq_true rfl, Nat.le_of_ble_eq_true rfl⟩ ⟨Nat.le_of_ble_eq_true rfl, Nat.le_of_ble_eq_true rfl⟩ hl.1 (Nat.le_of_ble_eq_true rfl) dX4_count_4 ?_
  refine zi_eq (tgt := 14) hx hb (by omega) dX4_count_7 (by decide) (fun c_7 => (show False by omega).elim) (fun c_7 => ?_)
  refine lv_iconst (v := nI 0) hx hb dX4_count_10 (by decide) ?_
  refine lv_goto (tgt := 15) hx hb dX4_count_11 (by decide) ?_
  refine k_X4_goes_0 l  hx hb hml hown hts hK hP gX4_count_X4_goes ⟨Nat.le_of_ble_eq_true rfl, Nat.le_of_ble_eq_true rfl⟩ ⟨Nat.le_of_ble_eq_true rfl, Nat.le_of_ble_eq_true rfl⟩ hl.1 (Nat.le_of_ble_eq_true rfl) dX4_count_15 hI (fun _ h => h) hS (fun H locs hP hS _ => ?_)
  refine zi_eq (tgt := 29) hx hb (by decide) dX4_count_18 (by decide) (fun c_18 => (show False by omega).elim) (fun c_18 => ?_)
  refine lv_aload_n hx hb dX4_count_21 rfl (lv_at hl 0 rfl) ?_
  refine lv_iload_n hx hb dX4_count_22 rfl (lv_at hl 1 rfl) ?_
  refine k_X4_countOf l (w := x) (hn := hn) hx hb hml hown hts hK hP gX4_count_X4_countOf ⟨Nat.le_of_ble_eq_true rfl, Nat.le_of_ble_eq_true rfl⟩ ⟨Nat.le_of_ble_eq_true rfl, Nat.le_of_ble_eq_true rfl⟩ hl.1 (Nat.le_of_ble_eq_true rfl) dX4_count_23 ?_
  refine lv_goto (tgt := 30) hx hb dX4_count_26 (by decide) ?_
  exact W.iret (v := nI (tallyN st x n)) hx hb hr (fun t ht hW => ⟨⟨nI (tallyN st x n), (), rfl, rfl, by (try dsimp only); rw [ht]; exact hP⟩, hS.F ht⟩) hS.2.2 dX4_count_30
section
variable {p : Program} {e : Env} {R : Room} {s : State} {m : MethodId} {args : Array Value} {below : List Frame} {meth : Method} {c : Code} {H : Heap} {locs : List Loc} {cells slots : Nat} {Q : State → Prop} {cc : ByteArray} {pc : Nat} {ls : Array Slot} {rest : List Value} {own : String} {index nL : Nat} {Ts : List Cond} {H0 : Heap} {A0 : Nat → Prop}
theorem k_X4_count_ok (l : Launch) {dC : Nat → ClassId} {dI : Nat → Nat → Nat} {cI cZ : ClassId} {am : Nat → Nat} {sm fe ex : Int32} {gp gc : Nat → Int32} {dy : Int32} {n : Nat} {pe gr st dl wo : Nat → Int32} {q : Nat} {yc ya yd ys tp fu sh ro : Nat → Int32} {th : Int32} {x : Int32} (hn : n ≤ 24) (h1 : outN x (nI 0) (nI 3) = 0) (hx : p.tables.exec = Jvm.exec) (hb : c.code = cc) (hml : c.maxLocals = nL) (hown : s.vm.findClass own = some m.cls) (hts : ∀ w ∈ Ts, w.before args s = true) (hK : va_K (dC, dI) vwCl [(cI, .int), (cZ, .boolean)] s) (hP : va_P (dC, dI) vwCl (wM cI cZ am sm fe ex gp gc dy n pe gr st dl wo q yc ya yd ys tp fu sh ro th) H) (hg9 : GoodIn Ts (wsV own index RX4 yX4_count wsX4_count)) (hR9 : 1 + 1 ≤ R.frames ∧ 8 + (2 + 11) + 23 ≤ R.locals) (hc9 : cells ≤ R.cells ∧ slots ≤ R.slots) (hl9 : ls.size = nL) (hw9 : (rest.map fun v => v.category).sum ≤ 8) (hdg : decode cc pc = .ok (.invokevirtual index, 3)) (hI : iwM am) (hA : ∀ x, awM am x → A0 x) (hS : va_S A0 H0 H locs) (kk : ∀ (H1 : Heap) (locs1 : List Loc), va_P (dC, dI) vwCl (wM cI cZ am sm fe ex gp gc dy n pe gr st dl wo q yc ya yd ys tp fu sh ro (nI 0)) H1 → va_S A0 H0 H1 locs1 → (∀ q : Nat, q < H.size → ¬ awM am q → H1[q]? = H[q]?) → W p l e R s m args below meth c H1 locs1 cells slots Q (F0 m (pc + 3) ls (.int (nI (tallyN st x n)) :: rest))) : W p l e R s m args below meth c H locs cells slots Q (F0 m pc ls (.int x :: .ref (am 0) :: rest)) := va_calli (va_runV (As := [.int x]) (rest := rest) ⟨hx, hb, hml, hown, hts⟩ (c_X4_count_ok (dC := dC) (dI := dI) (cI := cI) (cZ := cZ) (am := am) (sm := sm) (fe := fe) (ex := ex) (gp := gp) (gc := gc) (dy := dy) (n := n) (pe := pe) (gr := gr) (st := st) (dl := dl) (wo := wo) (q := q) (yc := yc) (ya := ya) (yd := yd) (ys := ys) (tp := tp) (fu := fu) (sh := sh) (ro := ro) (th := th) (x := x) l hI hn h1) (cwV 1 hts hg9 rfl rfl rfl (by decide +kernel) hR9) ⟨fun a U g mk q => ⟨q.1, q.2.1, va_K.moved (u := U) (U := U.calling g mk a) (Vm.Alike.refl U.vm) q.2.2⟩, rM_0 hK hP, fun U hU hW => ⟨rfl, by rw [hU]; exact hP, va_K.moved hW.alike hK⟩⟩ rfl rfl hl9 rfl (lv_room hw9) hdg hc9) hS (fun q _ h => hA q h) hA (fun r u t H1 locs1 ht _ hu hB hz hk hS1 => by subst hu; exact kk H1 locs1 (by rw [ht] at hB; exact hB) hS1 hk)
end
set_option maxHeartbeats 4000000 in
set_option maxRecDepth 100000 in
theorem c_X4_count_no (l : Launch) {dC : Nat → ClassId} {dI : Nat → Nat → Nat} {cI cZ : ClassId} {am : Nat → Nat} {sm fe ex : Int32} {gp gc : Nat → Int32} {dy : Int32} {n : Nat} {pe gr st dl wo : Nat → Int32} {q : Nat} {yc ya yd ys tp fu sh ro : Nat → Int32} {th : Int32} {x : Int32} (hI : iwM am) (h1 : ¬ outN x (nI 0) (nI 3) = 0) : Met l yX4_count wsX4_count { frames := 1, cells := 0, slots := 0, locals := 22 } (va_Pc [.ref (am 0), .int x] (fun U => va_P (dC, dI) vwCl (wM cI cZ am sm fe ex gp gc dy n pe gr st dl wo q yc ya yd ys tp fu sh ro th) U.heap ∧ va_K (dC, dI) vwCl [(cI, .int), (cZ, .boolean)] U)) (va_Qi (fun r (_ : Unit) => r = nI 0) (fun _ t => va_P (dC, dI) vwCl (wM cI cZ am sm fe ex gp gc dy n pe gr st dl wo q yc ya yd ys tp fu sh ro (nI 1)) t.heap) (awM am)) 0 0 (awM am) := by
  refine Met.ofW (cc := cX4_count) (maxL := 2) (ret := (some .int)) (by decide) rfl ?_
  intro p e s m args below meth c s₁ B hml hv
  obtain ⟨rfl, hP, hK⟩ := hv
  have hx := B.exec
  have hb := B.bytes
  have hr := B.returns
  have hts := atoms_spec (ws := wsX4_count) B.pre
  have hown : s.vm.findClass RX4 = some m.cls := findClass_of_methodNamed B.named
  have hlocks := B.notSynchronized
  have hS : va_S (awM am) s.heap s.heap [] := va_S.rf
  have hl := lv_entry ([.ref (am 0), .int x]) (n := 2) (Nat.le_of_ble_eq_true rfl)
  rw [lg_entry_eq]
  generalize (lg_sl ([.ref (am 0), .int x]) ++ List.replicate (2 - (lg_sl ([.ref (am 0), .int x])).length) Slot.unset).toArray = ls at hl ⊢
  have hl : lv_has ls 2 [(0, .ref (am 0)), (1, .int x)] := hl
  refine lv_aload_n hx hb dX4_count_0 rfl (lv_at hl 0 rfl) ?_
  refine lv_iload_n hx hb dX4_count_1 rfl (lv_at hl 1 rfl) ?_
  refine lv_iconst (v := nI 0) hx hb dX4_count_2 (by decide) ?_
  refine lv_iconst (v := nI 3) hx hb dX4_count_3 (by decide) ?_
  refine k_X4_isIn l (x := x) (a := nI 0) (b := nI 3) hx hb hml hown hts  gX4_count_X4_isIn ⟨Nat.le_of_ble_eq_true rfl, Nat.le_of_ble_eq_true rfl⟩ ⟨Nat.le_of_ble_eq_true rfl, Nat.le_of_ble_eq_true rfl⟩ hl.1 (Nat.le_of_ble_eq_true rfl) dX4_count_4 ?_
  refine zi_eq (tgt := 14) hx hb (by omega) dX4_count_7 (by decide) (fun c_7 => ?_) (fun c_7 => (show False by omega).elim)
  refine lv_iconst (v := nI 1) hx hb dX4_count_14 (by decide) ?_
  refine k_X4_goes_k l (k := 1) (hk := by decide) (h2 := by decide) hx hb hml hown hts hK hP gX4_count_X4_goes ⟨Nat.le_of_ble_eq_true rfl, Nat.le_of_ble_eq_true rfl⟩ ⟨Nat.le_of_ble_eq_true rfl, Nat.le_of_ble_eq_true rfl⟩ hl.1 (Nat.le_of_ble_eq_true rfl) dX4_count_15 hI (fun _ h => h) hS (fun H locs hP hS _ => ?_)
  refine zi_eq (tgt := 29) hx hb (by decide) dX4_count_18 (by decide) (fun c_18 => ?_) (fun c_18 => (show False by omega).elim)
  refine lv_iconst (v := nI 0) hx hb dX4_count_29 (by decide) ?_
  exact W.iret (v := nI 0) hx hb hr (fun t ht hW => ⟨⟨nI 0, (), rfl, rfl, by (try dsimp only); rw [ht]; exact hP⟩, hS.F ht⟩) hS.2.2 dX4_count_30
section
variable {p : Program} {e : Env} {R : Room} {s : State} {m : MethodId} {args : Array Value} {below : List Frame} {meth : Method} {c : Code} {H : Heap} {locs : List Loc} {cells slots : Nat} {Q : State → Prop} {cc : ByteArray} {pc : Nat} {ls : Array Slot} {rest : List Value} {own : String} {index nL : Nat} {Ts : List Cond} {H0 : Heap} {A0 : Nat → Prop}
theorem k_X4_count_no (l : Launch) {dC : Nat → ClassId} {dI : Nat → Nat → Nat} {cI cZ : ClassId} {am : Nat → Nat} {sm fe ex : Int32} {gp gc : Nat → Int32} {dy : Int32} {n : Nat} {pe gr st dl wo : Nat → Int32} {q : Nat} {yc ya yd ys tp fu sh ro : Nat → Int32} {th : Int32} {x : Int32} (h1 : ¬ outN x (nI 0) (nI 3) = 0) (hx : p.tables.exec = Jvm.exec) (hb : c.code = cc) (hml : c.maxLocals = nL) (hown : s.vm.findClass own = some m.cls) (hts : ∀ w ∈ Ts, w.before args s = true) (hK : va_K (dC, dI) vwCl [(cI, .int), (cZ, .boolean)] s) (hP : va_P (dC, dI) vwCl (wM cI cZ am sm fe ex gp gc dy n pe gr st dl wo q yc ya yd ys tp fu sh ro th) H) (hg9 : GoodIn Ts (wsV own index RX4 yX4_count wsX4_count)) (hR9 : 1 + 1 ≤ R.frames ∧ 8 + (2 + 11) + 22 ≤ R.locals) (hc9 : cells ≤ R.cells ∧ slots ≤ R.slots) (hl9 : ls.size = nL) (hw9 : (rest.map fun v => v.category).sum ≤ 8) (hdg : decode cc pc = .ok (.invokevirtual index, 3)) (hI : iwM am) (hA : ∀ x, awM am x → A0 x) (hS : va_S A0 H0 H locs) (kk : ∀ (H1 : Heap) (locs1 : List Loc), va_P (dC, dI) vwCl (wM cI cZ am sm fe ex gp gc dy n pe gr st dl wo q yc ya yd ys tp fu sh ro (nI 1)) H1 → va_S A0 H0 H1 locs1 → (∀ q : Nat, q < H.size → ¬ awM am q → H1[q]? = H[q]?) → W p l e R s m args below meth c H1 locs1 cells slots Q (F0 m (pc + 3) ls (.int (nI 0) :: rest))) : W p l e R s m args below meth c H locs cells slots Q (F0 m pc ls (.int x :: .ref (am 0) :: rest)) := va_calli (va_runV (As := [.int x]) (rest := rest) ⟨hx, hb, hml, hown, hts⟩ (c_X4_count_no (dC := dC) (dI := dI) (cI := cI) (cZ := cZ) (am := am) (sm := sm) (fe := fe) (ex := ex) (gp := gp) (gc := gc) (dy := dy) (n := n) (pe := pe) (gr := gr) (st := st) (dl := dl) (wo := wo) (q := q) (yc := yc) (ya := ya) (yd := yd) (ys := ys) (tp := tp) (fu := fu) (sh := sh) (ro := ro) (th := th) (x := x) l hI h1) (cwV 1 hts hg9 rfl rfl rfl (by decide +kernel) hR9) ⟨fun a U g mk q => ⟨q.1, q.2.1, va_K.moved (u := U) (U := U.calling g mk a) (Vm.Alike.refl U.vm) q.2.2⟩, rM_0 hK hP, fun U hU hW => ⟨rfl, by rw [hU]; exact hP, va_K.moved hW.alike hK⟩⟩ rfl rfl hl9 rfl (lv_room hw9) hdg hc9) hS (fun q _ h => hA q h) hA (fun r u t H1 locs1 ht _ hu hB hz hk hS1 => by subst hu; exact kk H1 locs1 (by rw [ht] at hB; exact hB) hS1 hk)
end
set_option maxHeartbeats 4000000 in
set_option maxRecDepth 100000 in
theorem c_X4_asks_ok (l : Launch) {dC : Nat → ClassId} {dI : Nat → Nat → Nat} {cI cZ : ClassId} {am : Nat → Nat} {sm fe ex : Int32} {gp gc : Nat → Int32} {dy : Int32} {n : Nat} {pe gr st dl wo : Nat → Int32} {q : Nat} {yc ya yd ys tp fu sh ro : Nat → Int32} {th : Int32} {k : Nat} (hI : iwM am) (hn : n ≤ 24) (hk : k < n) : Met l yX4_asks wsX4_asks { frames := 2, cells := 0, slots := 0, locals := 43 } (va_Pc [.ref (am 0), .int (nI k)] (fun U => va_P (dC, dI) vwCl (wM cI cZ am sm fe ex gp gc dy n pe gr st dl wo q yc ya yd ys tp fu sh ro th) U.heap ∧ va_K (dC, dI) vwCl [(cI, .int), (cZ, .boolean)] U)) (va_Qi (fun r (_ : Unit) => r = nI 1) (fun _ t => va_P (dC, dI) vwCl (wM cI cZ am sm fe ex gp gc dy n pe gr st dl wo q yc ya yd ys tp fu sh ro (nI 0)) t.heap) (awM am)) 0 0 (awM am) := by
  refine Met.ofW (cc := cX4_asks) (maxL := 2) (ret := (some .boolean)) (by decide) rfl ?_
  intro p e s m args below meth c s₁ B hml hv
  obtain ⟨rfl, hP, hK⟩ := hv
  have hx := B.exec
  have hb := B.bytes
  have hr := B.returns
  have hts := atoms_spec (ws := wsX4_asks) B.pre
  have hown : s.vm.findClass RX4 = some m.cls := findClass_of_methodNamed B.named
  have hlocks := B.notSynchronized
  have hS : va_S (awM am) s.heap s.heap [] := va_S.rf
  have hl := lv_entry ([.ref (am 0), .int (nI k)]) (n := 2) (Nat.le_of_ble_eq_true rfl)
  rw [lg_entry_eq]
  generalize (lg_sl ([.ref (am 0), .int (nI k)]) ++ List.replicate (2 - (lg_sl ([.ref (am 0), .int (nI k)])).length) Slot.unset).toArray = ls at hl ⊢
  have hl : lv_has ls 2 [(0, .ref (am 0)), (1, .int (nI k))] := hl
  refine lv_aload_n hx hb dX4_asks_0 rfl (lv_at hl 0 rfl) ?_
  refine lv_aload_n hx hb dX4_asks_1 rfl (lv_at hl 0 rfl) ?_
  refine lv_iload_n hx hb dX4_asks_2 rfl (lv_at hl 1 rfl) ?_
  refine k_X4_isClaim_ok l (k := k) (hn := hn) (hk := hk) hx hb hml hown hts hK hP gX4_asks_X4_isClaim ⟨Nat.le_of_ble_eq_true rfl, Nat.le_of_ble_eq_true rfl⟩ ⟨Nat.le_of_ble_eq_true rfl, Nat.le_of_ble_eq_true rfl⟩ hl.1 (Nat.le_of_ble_eq_true rfl) dX4_asks_3 ?_
  refine zi_eq (tgt := 13) hx hb (by decide) dX4_asks_6 (by decide) (fun c_6 => (show False by omega).elim) (fun c_6 => ?_)
  refine lv_iconst (v := nI 0) hx hb dX4_asks_9 (by decide) ?_
  refine lv_goto (tgt := 14) hx hb dX4_asks_10 (by decide) ?_
  refine k_X4_goes_0 l  hx hb hml hown hts hK hP gX4_asks_X4_goes ⟨Nat.le_of_ble_eq_true rfl, Nat.le_of_ble_eq_true rfl⟩ ⟨Nat.le_of_ble_eq_true rfl, Nat.le_of_ble_eq_true rfl⟩ hl.1 (Nat.le_of_ble_eq_true rfl) dX4_asks_14 hI (fun _ h => h) hS (fun H locs hP hS _ => ?_)
  exact W.zret (v := nI 1) hx hb hr (rfl) (fun t ht hW => ⟨⟨nI 1, (), rfl, rfl, by (try dsimp only); rw [ht]; exact hP⟩, hS.F ht⟩) hS.2.2 dX4_asks_17
section
variable {p : Program} {e : Env} {R : Room} {s : State} {m : MethodId} {args : Array Value} {below : List Frame} {meth : Method} {c : Code} {H : Heap} {locs : List Loc} {cells slots : Nat} {Q : State → Prop} {cc : ByteArray} {pc : Nat} {ls : Array Slot} {rest : List Value} {own : String} {index nL : Nat} {Ts : List Cond} {H0 : Heap} {A0 : Nat → Prop}
theorem k_X4_asks_ok (l : Launch) {dC : Nat → ClassId} {dI : Nat → Nat → Nat} {cI cZ : ClassId} {am : Nat → Nat} {sm fe ex : Int32} {gp gc : Nat → Int32} {dy : Int32} {n : Nat} {pe gr st dl wo : Nat → Int32} {q : Nat} {yc ya yd ys tp fu sh ro : Nat → Int32} {th : Int32} {k : Nat} (hn : n ≤ 24) (hk : k < n) (hx : p.tables.exec = Jvm.exec) (hb : c.code = cc) (hml : c.maxLocals = nL) (hown : s.vm.findClass own = some m.cls) (hts : ∀ w ∈ Ts, w.before args s = true) (hK : va_K (dC, dI) vwCl [(cI, .int), (cZ, .boolean)] s) (hP : va_P (dC, dI) vwCl (wM cI cZ am sm fe ex gp gc dy n pe gr st dl wo q yc ya yd ys tp fu sh ro th) H) (hg9 : GoodIn Ts (wsV own index RX4 yX4_asks wsX4_asks)) (hR9 : 2 + 1 ≤ R.frames ∧ 8 + (2 + 11) + 43 ≤ R.locals) (hc9 : cells ≤ R.cells ∧ slots ≤ R.slots) (hl9 : ls.size = nL) (hw9 : (rest.map fun v => v.category).sum ≤ 8) (hdg : decode cc pc = .ok (.invokevirtual index, 3)) (hI : iwM am) (hA : ∀ x, awM am x → A0 x) (hS : va_S A0 H0 H locs) (kk : ∀ (H1 : Heap) (locs1 : List Loc), va_P (dC, dI) vwCl (wM cI cZ am sm fe ex gp gc dy n pe gr st dl wo q yc ya yd ys tp fu sh ro (nI 0)) H1 → va_S A0 H0 H1 locs1 → (∀ q : Nat, q < H.size → ¬ awM am q → H1[q]? = H[q]?) → W p l e R s m args below meth c H1 locs1 cells slots Q (F0 m (pc + 3) ls (.int (nI 1) :: rest))) : W p l e R s m args below meth c H locs cells slots Q (F0 m pc ls (.int (nI k) :: .ref (am 0) :: rest)) := va_calli (va_runV (As := [.int (nI k)]) (rest := rest) ⟨hx, hb, hml, hown, hts⟩ (c_X4_asks_ok (dC := dC) (dI := dI) (cI := cI) (cZ := cZ) (am := am) (sm := sm) (fe := fe) (ex := ex) (gp := gp) (gc := gc) (dy := dy) (n := n) (pe := pe) (gr := gr) (st := st) (dl := dl) (wo := wo) (q := q) (yc := yc) (ya := ya) (yd := yd) (ys := ys) (tp := tp) (fu := fu) (sh := sh) (ro := ro) (th := th) (k := k) l hI hn hk) (cwV 1 hts hg9 rfl rfl rfl (by decide +kernel) hR9) ⟨fun a U g mk q => ⟨q.1, q.2.1, va_K.moved (u := U) (U := U.calling g mk a) (Vm.Alike.refl U.vm) q.2.2⟩, rM_0 hK hP, fun U hU hW => ⟨rfl, by rw [hU]; exact hP, va_K.moved hW.alike hK⟩⟩ rfl rfl hl9 rfl (lv_room hw9) hdg hc9) hS (fun q _ h => hA q h) hA (fun r u t H1 locs1 ht _ hu hB hz hk hS1 => by subst hu; exact kk H1 locs1 (by rw [ht] at hB; exact hB) hS1 hk)
end
set_option maxHeartbeats 4000000 in
set_option maxRecDepth 100000 in
theorem c_X4_asks_no (l : Launch) {dC : Nat → ClassId} {dI : Nat → Nat → Nat} {cI cZ : ClassId} {am : Nat → Nat} {sm fe ex : Int32} {gp gc : Nat → Int32} {dy : Int32} {n : Nat} {pe gr st dl wo : Nat → Int32} {q : Nat} {yc ya yd ys tp fu sh ro : Nat → Int32} {th : Int32} {x : Int32} (hI : iwM am) (hn : n ≤ 24) (hk : ¬ vp_in x n) : Met l yX4_asks wsX4_asks { frames := 2, cells := 0, slots := 0, locals := 43 } (va_Pc [.ref (am 0), .int x] (fun U => va_P (dC, dI) vwCl (wM cI cZ am sm fe ex gp gc dy n pe gr st dl wo q yc ya yd ys tp fu sh ro th) U.heap ∧ va_K (dC, dI) vwCl [(cI, .int), (cZ, .boolean)] U)) (va_Qi (fun r (_ : Unit) => r = nI 0) (fun _ t => va_P (dC, dI) vwCl (wM cI cZ am sm fe ex gp gc dy n pe gr st dl wo q yc ya yd ys tp fu sh ro (nI 1)) t.heap) (awM am)) 0 0 (awM am) := by
  refine Met.ofW (cc := cX4_asks) (maxL := 2) (ret := (some .boolean)) (by decide) rfl ?_
  intro p e s m args below meth c s₁ B hml hv
  obtain ⟨rfl, hP, hK⟩ := hv
  have hx := B.exec
  have hb := B.bytes
  have hr := B.returns
  have hts := atoms_spec (ws := wsX4_asks) B.pre
  have hown : s.vm.findClass RX4 = some m.cls := findClass_of_methodNamed B.named
  have hlocks := B.notSynchronized
  have hS : va_S (awM am) s.heap s.heap [] := va_S.rf
  have hl := lv_entry ([.ref (am 0), .int x]) (n := 2) (Nat.le_of_ble_eq_true rfl)
  rw [lg_entry_eq]
  generalize (lg_sl ([.ref (am 0), .int x]) ++ List.replicate (2 - (lg_sl ([.ref (am 0), .int x])).length) Slot.unset).toArray = ls at hl ⊢
  have hl : lv_has ls 2 [(0, .ref (am 0)), (1, .int x)] := hl
  refine lv_aload_n hx hb dX4_asks_0 rfl (lv_at hl 0 rfl) ?_
  refine lv_aload_n hx hb dX4_asks_1 rfl (lv_at hl 0 rfl) ?_
  refine lv_iload_n hx hb dX4_asks_2 rfl (lv_at hl 1 rfl) ?_
  refine k_X4_isClaim_no l (x := x) (hn := hn) (hk := hk) hx hb hml hown hts hK hP gX4_asks_X4_isClaim ⟨Nat.le_of_ble_eq_true rfl, Nat.le_of_ble_eq_true rfl⟩ ⟨Nat.le_of_ble_eq_true rfl, Nat.le_of_ble_eq_true rfl⟩ hl.1 (Nat.le_of_ble_eq_true rfl) dX4_asks_3 ?_
  refine zi_eq (tgt := 13) hx hb (by decide) dX4_asks_6 (by decide) (fun c_6 => ?_) (fun c_6 => (show False by omega).elim)
  refine lv_iconst (v := nI 1) hx hb dX4_asks_13 (by decide) ?_
  refine k_X4_goes_k l (k := 1) (hk := by decide) (h2 := by decide) hx hb hml hown hts hK hP gX4_asks_X4_goes ⟨Nat.le_of_ble_eq_true rfl, Nat.le_of_ble_eq_true rfl⟩ ⟨Nat.le_of_ble_eq_true rfl, Nat.le_of_ble_eq_true rfl⟩ hl.1 (Nat.le_of_ble_eq_true rfl) dX4_asks_14 hI (fun _ h => h) hS (fun H locs hP hS _ => ?_)
  exact W.zret (v := nI 0) hx hb hr (rfl) (fun t ht hW => ⟨⟨nI 0, (), rfl, rfl, by (try dsimp only); rw [ht]; exact hP⟩, hS.F ht⟩) hS.2.2 dX4_asks_17
section
variable {p : Program} {e : Env} {R : Room} {s : State} {m : MethodId} {args : Array Value} {below : List Frame} {meth : Method} {c : Code} {H : Heap} {locs : List Loc} {cells slots : Nat} {Q : State → Prop} {cc : ByteArray} {pc : Nat} {ls : Array Slot} {rest : List Value} {own : String} {index nL : Nat} {Ts : List Cond} {H0 : Heap} {A0 : Nat → Prop}
theorem k_X4_asks_no (l : Launch) {dC : Nat → ClassId} {dI : Nat → Nat → Nat} {cI cZ : ClassId} {am : Nat → Nat} {sm fe ex : Int32} {gp gc : Nat → Int32} {dy : Int32} {n : Nat} {pe gr st dl wo : Nat → Int32} {q : Nat} {yc ya yd ys tp fu sh ro : Nat → Int32} {th : Int32} {x : Int32} (hn : n ≤ 24) (hk : ¬ vp_in x n) (hx : p.tables.exec = Jvm.exec) (hb : c.code = cc) (hml : c.maxLocals = nL) (hown : s.vm.findClass own = some m.cls) (hts : ∀ w ∈ Ts, w.before args s = true) (hK : va_K (dC, dI) vwCl [(cI, .int), (cZ, .boolean)] s) (hP : va_P (dC, dI) vwCl (wM cI cZ am sm fe ex gp gc dy n pe gr st dl wo q yc ya yd ys tp fu sh ro th) H) (hg9 : GoodIn Ts (wsV own index RX4 yX4_asks wsX4_asks)) (hR9 : 2 + 1 ≤ R.frames ∧ 8 + (2 + 11) + 43 ≤ R.locals) (hc9 : cells ≤ R.cells ∧ slots ≤ R.slots) (hl9 : ls.size = nL) (hw9 : (rest.map fun v => v.category).sum ≤ 8) (hdg : decode cc pc = .ok (.invokevirtual index, 3)) (hI : iwM am) (hA : ∀ x, awM am x → A0 x) (hS : va_S A0 H0 H locs) (kk : ∀ (H1 : Heap) (locs1 : List Loc), va_P (dC, dI) vwCl (wM cI cZ am sm fe ex gp gc dy n pe gr st dl wo q yc ya yd ys tp fu sh ro (nI 1)) H1 → va_S A0 H0 H1 locs1 → (∀ q : Nat, q < H.size → ¬ awM am q → H1[q]? = H[q]?) → W p l e R s m args below meth c H1 locs1 cells slots Q (F0 m (pc + 3) ls (.int (nI 0) :: rest))) : W p l e R s m args below meth c H locs cells slots Q (F0 m pc ls (.int x :: .ref (am 0) :: rest)) := va_calli (va_runV (As := [.int x]) (rest := rest) ⟨hx, hb, hml, hown, hts⟩ (c_X4_asks_no (dC := dC) (dI := dI) (cI := cI) (cZ := cZ) (am := am) (sm := sm) (fe := fe) (ex := ex) (gp := gp) (gc := gc) (dy := dy) (n := n) (pe := pe) (gr := gr) (st := st) (dl := dl) (wo := wo) (q := q) (yc := yc) (ya := ya) (yd := yd) (ys := ys) (tp := tp) (fu := fu) (sh := sh) (ro := ro) (th := th) (x := x) l hI hn hk) (cwV 1 hts hg9 rfl rfl rfl (by decide +kernel) hR9) ⟨fun a U g mk q => ⟨q.1, q.2.1, va_K.moved (u := U) (U := U.calling g mk a) (Vm.Alike.refl U.vm) q.2.2⟩, rM_0 hK hP, fun U hU hW => ⟨rfl, by rw [hU]; exact hP, va_K.moved hW.alike hK⟩⟩ rfl rfl hl9 rfl (lv_room hw9) hdg hc9) hS (fun q _ h => hA q h) hA (fun r u t H1 locs1 ht _ hu hB hz hk hS1 => by subst hu; exact kk H1 locs1 (by rw [ht] at hB; exact hB) hS1 hk)
end
set_option maxHeartbeats 4000000 in
set_option maxRecDepth 100000 in
theorem c_X4_asksPayment_ok (l : Launch) {dC : Nat → ClassId} {dI : Nat → Nat → Nat} {cI cZ : ClassId} {am : Nat → Nat} {sm fe ex : Int32} {gp gc : Nat → Int32} {dy : Int32} {n : Nat} {pe gr st dl wo : Nat → Int32} {q : Nat} {yc ya yd ys tp fu sh ro : Nat → Int32} {th : Int32} {k : Nat} (hI : iwM am) (hq : q ≤ 100) (hk : k < q) : Met l yX4_asksPayment wsX4_asksPayment { frames := 2, cells := 0, slots := 0, locals := 43 } (va_Pc [.ref (am 0), .int (nI k)] (fun U => va_P (dC, dI) vwCl (wM cI cZ am sm fe ex gp gc dy n pe gr st dl wo q yc ya yd ys tp fu sh ro th) U.heap ∧ va_K (dC, dI) vwCl [(cI, .int), (cZ, .boolean)] U)) (va_Qi (fun r (_ : Unit) => r = nI 1) (fun _ t => va_P (dC, dI) vwCl (wM cI cZ am sm fe ex gp gc dy n pe gr st dl wo q yc ya yd ys tp fu sh ro (nI 0)) t.heap) (awM am)) 0 0 (awM am) := by
  refine Met.ofW (cc := cX4_asksPayment) (maxL := 2) (ret := (some .boolean)) (by decide) rfl ?_
  intro p e s m args below meth c s₁ B hml hv
  obtain ⟨rfl, hP, hK⟩ := hv
  have hx := B.exec
  have hb := B.bytes
  have hr := B.returns
  have hts := atoms_spec (ws := wsX4_asksPayment) B.pre
  have hown : s.vm.findClass RX4 = some m.cls := findClass_of_methodNamed B.named
  have hlocks := B.notSynchronized
  have hS : va_S (awM am) s.heap s.heap [] := va_S.rf
  have hl := lv_entry ([.ref (am 0), .int (nI k)]) (n := 2) (Nat.le_of_ble_eq_true rfl)
  rw [lg_entry_eq]
  generalize (lg_sl ([.ref (am 0), .int (nI k)]) ++ List.replicate (2 - (lg_sl ([.ref (am 0), .int (nI k)])).length) Slot.unset).toArray = ls at hl ⊢
  have hl : lv_has ls 2 [(0, .ref (am 0)), (1, .int (nI k))] := hl
  refine lv_aload_n hx hb dX4_asksPayment_0 rfl (lv_at hl 0 rfl) ?_
  refine lv_aload_n hx hb dX4_asksPayment_1 rfl (lv_at hl 0 rfl) ?_
  refine lv_iload_n hx hb dX4_asksPayment_2 rfl (lv_at hl 1 rfl) ?_
  refine k_X4_isPayment_ok l (k := k) (hq := hq) (hk := hk) hx hb hml hown hts hK hP gX4_asksPayment_X4_isPayment ⟨Nat.le_of_ble_eq_true rfl, Nat.le_of_ble_eq_true rfl⟩ ⟨Nat.le_of_ble_eq_true rfl, Nat.le_of_ble_eq_true rfl⟩ hl.1 (Nat.le_of_ble_eq_true rfl) dX4_asksPayment_3 ?_
  refine zi_eq (tgt := 13) hx hb (by decide) dX4_asksPayment_6 (by decide) (fun c_6 => (show False by omega).elim) (fun c_6 => ?_)
  refine lv_iconst (v := nI 0) hx hb dX4_asksPayment_9 (by decide) ?_
  refine lv_goto (tgt := 14) hx hb dX4_asksPayment_10 (by decide) ?_
  refine k_X4_goes_0 l  hx hb hml hown hts hK hP gX4_asksPayment_X4_goes ⟨Nat.le_of_ble_eq_true rfl, Nat.le_of_ble_eq_true rfl⟩ ⟨Nat.le_of_ble_eq_true rfl, Nat.le_of_ble_eq_true rfl⟩ hl.1 (Nat.le_of_ble_eq_true rfl) dX4_asksPayment_14 hI (fun _ h => h) hS (fun H locs hP hS _ => ?_)
  exact W.zret (v := nI 1) hx hb hr (rfl) (fun t ht hW => ⟨⟨nI 1, (), rfl, rfl, by (try dsimp only); rw [ht]; exact hP⟩, hS.F ht⟩) hS.2.2 dX4_asksPayment_17
section
variable {p : Program} {e : Env} {R : Room} {s : State} {m : MethodId} {args : Array Value} {below : List Frame} {meth : Method} {c : Code} {H : Heap} {locs : List Loc} {cells slots : Nat} {Q : State → Prop} {cc : ByteArray} {pc : Nat} {ls : Array Slot} {rest : List Value} {own : String} {index nL : Nat} {Ts : List Cond} {H0 : Heap} {A0 : Nat → Prop}
theorem k_X4_asksPayment_ok (l : Launch) {dC : Nat → ClassId} {dI : Nat → Nat → Nat} {cI cZ : ClassId} {am : Nat → Nat} {sm fe ex : Int32} {gp gc : Nat → Int32} {dy : Int32} {n : Nat} {pe gr st dl wo : Nat → Int32} {q : Nat} {yc ya yd ys tp fu sh ro : Nat → Int32} {th : Int32} {k : Nat} (hq : q ≤ 100) (hk : k < q) (hx : p.tables.exec = Jvm.exec) (hb : c.code = cc) (hml : c.maxLocals = nL) (hown : s.vm.findClass own = some m.cls) (hts : ∀ w ∈ Ts, w.before args s = true) (hK : va_K (dC, dI) vwCl [(cI, .int), (cZ, .boolean)] s) (hP : va_P (dC, dI) vwCl (wM cI cZ am sm fe ex gp gc dy n pe gr st dl wo q yc ya yd ys tp fu sh ro th) H) (hg9 : GoodIn Ts (wsV own index RX4 yX4_asksPayment wsX4_asksPayment)) (hR9 : 2 + 1 ≤ R.frames ∧ 8 + (2 + 11) + 43 ≤ R.locals) (hc9 : cells ≤ R.cells ∧ slots ≤ R.slots) (hl9 : ls.size = nL) (hw9 : (rest.map fun v => v.category).sum ≤ 8) (hdg : decode cc pc = .ok (.invokevirtual index, 3)) (hI : iwM am) (hA : ∀ x, awM am x → A0 x) (hS : va_S A0 H0 H locs) (kk : ∀ (H1 : Heap) (locs1 : List Loc), va_P (dC, dI) vwCl (wM cI cZ am sm fe ex gp gc dy n pe gr st dl wo q yc ya yd ys tp fu sh ro (nI 0)) H1 → va_S A0 H0 H1 locs1 → (∀ q : Nat, q < H.size → ¬ awM am q → H1[q]? = H[q]?) → W p l e R s m args below meth c H1 locs1 cells slots Q (F0 m (pc + 3) ls (.int (nI 1) :: rest))) : W p l e R s m args below meth c H locs cells slots Q (F0 m pc ls (.int (nI k) :: .ref (am 0) :: rest)) := va_calli (va_runV (As := [.int (nI k)]) (rest := rest) ⟨hx, hb, hml, hown, hts⟩ (c_X4_asksPayment_ok (dC := dC) (dI := dI) (cI := cI) (cZ := cZ) (am := am) (sm := sm) (fe := fe) (ex := ex) (gp := gp) (gc := gc) (dy := dy) (n := n) (pe := pe) (gr := gr) (st := st) (dl := dl) (wo := wo) (q := q) (yc := yc) (ya := ya) (yd := yd) (ys := ys) (tp := tp) (fu := fu) (sh := sh) (ro := ro) (th := th) (k := k) l hI hq hk) (cwV 1 hts hg9 rfl rfl rfl (by decide +kernel) hR9) ⟨fun a U g mk q => ⟨q.1, q.2.1, va_K.moved (u := U) (U := U.calling g mk a) (Vm.Alike.refl U.vm) q.2.2⟩, rM_0 hK hP, fun U hU hW => ⟨rfl, by rw [hU]; exact hP, va_K.moved hW.alike hK⟩⟩ rfl rfl hl9 rfl (lv_room hw9) hdg hc9) hS (fun q _ h => hA q h) hA (fun r u t H1 locs1 ht _ hu hB hz hk hS1 => by subst hu; exact kk H1 locs1 (by rw [ht] at hB; exact hB) hS1 hk)
end
set_option maxHeartbeats 4000000 in
set_option maxRecDepth 100000 in
theorem c_X4_asksPayment_no (l : Launch) {dC : Nat → ClassId} {dI : Nat → Nat → Nat} {cI cZ : ClassId} {am : Nat → Nat} {sm fe ex : Int32} {gp gc : Nat → Int32} {dy : Int32} {n : Nat} {pe gr st dl wo : Nat → Int32} {q : Nat} {yc ya yd ys tp fu sh ro : Nat → Int32} {th : Int32} {x : Int32} (hI : iwM am) (hq : q ≤ 100) (hk : ¬ vp_in x q) : Met l yX4_asksPayment wsX4_asksPayment { frames := 2, cells := 0, slots := 0, locals := 43 } (va_Pc [.ref (am 0), .int x] (fun U => va_P (dC, dI) vwCl (wM cI cZ am sm fe ex gp gc dy n pe gr st dl wo q yc ya yd ys tp fu sh ro th) U.heap ∧ va_K (dC, dI) vwCl [(cI, .int), (cZ, .boolean)] U)) (va_Qi (fun r (_ : Unit) => r = nI 0) (fun _ t => va_P (dC, dI) vwCl (wM cI cZ am sm fe ex gp gc dy n pe gr st dl wo q yc ya yd ys tp fu sh ro (nI 1)) t.heap) (awM am)) 0 0 (awM am) := by
  refine Met.ofW (cc := cX4_asksPayment) (maxL := 2) (ret := (some .boolean)) (by decide) rfl ?_
  intro p e s m args below meth c s₁ B hml hv
  obtain ⟨rfl, hP, hK⟩ := hv
  have hx := B.exec
  have hb := B.bytes
  have hr := B.returns
  have hts := atoms_spec (ws := wsX4_asksPayment) B.pre
  have hown : s.vm.findClass RX4 = some m.cls := findClass_of_methodNamed B.named
  have hlocks := B.notSynchronized
  have hS : va_S (awM am) s.heap s.heap [] := va_S.rf
  have hl := lv_entry ([.ref (am 0), .int x]) (n := 2) (Nat.le_of_ble_eq_true rfl)
  rw [lg_entry_eq]
  generalize (lg_sl ([.ref (am 0), .int x]) ++ List.replicate (2 - (lg_sl ([.ref (am 0), .int x])).length) Slot.unset).toArray = ls at hl ⊢
  have hl : lv_has ls 2 [(0, .ref (am 0)), (1, .int x)] := hl
  refine lv_aload_n hx hb dX4_asksPayment_0 rfl (lv_at hl 0 rfl) ?_
  refine lv_aload_n hx hb dX4_asksPayment_1 rfl (lv_at hl 0 rfl) ?_
  refine lv_iload_n hx hb dX4_asksPayment_2 rfl (lv_at hl 1 rfl) ?_
  refine k_X4_isPayment_no l (x := x) (hq := hq) (hk := hk) hx hb hml hown hts hK hP gX4_asksPayment_X4_isPayment ⟨Nat.le_of_ble_eq_true rfl, Nat.le_of_ble_eq_true rfl⟩ ⟨Nat.le_of_ble_eq_true rfl, Nat.le_of_ble_eq_true rfl⟩ hl.1 (Nat.le_of_ble_eq_true rfl) dX4_asksPayment_3 ?_
  refine zi_eq (tgt := 13) hx hb (by decide) dX4_asksPayment_6 (by decide) (fun c_6 => ?_) (fun c_6 => (show False by omega).elim)
  refine lv_iconst (v := nI 1) hx hb dX4_asksPayment_13 (by decide) ?_
  refine k_X4_goes_k l (k := 1) (hk := by decide) (h2 := by decide) hx hb hml hown hts hK hP gX4_asksPayment_X4_goes ⟨Nat.le_of_ble_eq_true rfl, Nat.le_of_ble_eq_true rfl⟩ ⟨Nat.le_of_ble_eq_true rfl, Nat.le_of_ble_eq_true rfl⟩ hl.1 (Nat.le_of_ble_eq_true rfl) dX4_asksPayment_14 hI (fun _ h => h) hS (fun H locs hP hS _ => ?_)
  exact W.zret (v := nI 0) hx hb hr (rfl) (fun t ht hW => ⟨⟨nI 0, (), rfl, rfl, by (try dsimp only); rw [ht]; exact hP⟩, hS.F ht⟩) hS.2.2 dX4_asksPayment_17
section
variable {p : Program} {e : Env} {R : Room} {s : State} {m : MethodId} {args : Array Value} {below : List Frame} {meth : Method} {c : Code} {H : Heap} {locs : List Loc} {cells slots : Nat} {Q : State → Prop} {cc : ByteArray} {pc : Nat} {ls : Array Slot} {rest : List Value} {own : String} {index nL : Nat} {Ts : List Cond} {H0 : Heap} {A0 : Nat → Prop}
theorem k_X4_asksPayment_no (l : Launch) {dC : Nat → ClassId} {dI : Nat → Nat → Nat} {cI cZ : ClassId} {am : Nat → Nat} {sm fe ex : Int32} {gp gc : Nat → Int32} {dy : Int32} {n : Nat} {pe gr st dl wo : Nat → Int32} {q : Nat} {yc ya yd ys tp fu sh ro : Nat → Int32} {th : Int32} {x : Int32} (hq : q ≤ 100) (hk : ¬ vp_in x q) (hx : p.tables.exec = Jvm.exec) (hb : c.code = cc) (hml : c.maxLocals = nL) (hown : s.vm.findClass own = some m.cls) (hts : ∀ w ∈ Ts, w.before args s = true) (hK : va_K (dC, dI) vwCl [(cI, .int), (cZ, .boolean)] s) (hP : va_P (dC, dI) vwCl (wM cI cZ am sm fe ex gp gc dy n pe gr st dl wo q yc ya yd ys tp fu sh ro th) H) (hg9 : GoodIn Ts (wsV own index RX4 yX4_asksPayment wsX4_asksPayment)) (hR9 : 2 + 1 ≤ R.frames ∧ 8 + (2 + 11) + 43 ≤ R.locals) (hc9 : cells ≤ R.cells ∧ slots ≤ R.slots) (hl9 : ls.size = nL) (hw9 : (rest.map fun v => v.category).sum ≤ 8) (hdg : decode cc pc = .ok (.invokevirtual index, 3)) (hI : iwM am) (hA : ∀ x, awM am x → A0 x) (hS : va_S A0 H0 H locs) (kk : ∀ (H1 : Heap) (locs1 : List Loc), va_P (dC, dI) vwCl (wM cI cZ am sm fe ex gp gc dy n pe gr st dl wo q yc ya yd ys tp fu sh ro (nI 1)) H1 → va_S A0 H0 H1 locs1 → (∀ q : Nat, q < H.size → ¬ awM am q → H1[q]? = H[q]?) → W p l e R s m args below meth c H1 locs1 cells slots Q (F0 m (pc + 3) ls (.int (nI 0) :: rest))) : W p l e R s m args below meth c H locs cells slots Q (F0 m pc ls (.int x :: .ref (am 0) :: rest)) := va_calli (va_runV (As := [.int x]) (rest := rest) ⟨hx, hb, hml, hown, hts⟩ (c_X4_asksPayment_no (dC := dC) (dI := dI) (cI := cI) (cZ := cZ) (am := am) (sm := sm) (fe := fe) (ex := ex) (gp := gp) (gc := gc) (dy := dy) (n := n) (pe := pe) (gr := gr) (st := st) (dl := dl) (wo := wo) (q := q) (yc := yc) (ya := ya) (yd := yd) (ys := ys) (tp := tp) (fu := fu) (sh := sh) (ro := ro) (th := th) (x := x) l hI hq hk) (cwV 1 hts hg9 rfl rfl rfl (by decide +kernel) hR9) ⟨fun a U g mk q => ⟨q.1, q.2.1, va_K.moved (u := U) (U := U.calling g mk a) (Vm.Alike.refl U.vm) q.2.2⟩, rM_0 hK hP, fun U hU hW => ⟨rfl, by rw [hU]; exact hP, va_K.moved hW.alike hK⟩⟩ rfl rfl hl9 rfl (lv_room hw9) hdg hc9) hS (fun q _ h => hA q h) hA (fun r u t H1 locs1 ht _ hu hB hz hk hS1 => by subst hu; exact kk H1 locs1 (by rw [ht] at hB; exact hB) hS1 hk)
end
set_option maxHeartbeats 4000000 in
set_option maxRecDepth 100000 in
theorem c_X4_stateOf_ok (l : Launch) {dC : Nat → ClassId} {dI : Nat → Nat → Nat} {cI cZ : ClassId} {am : Nat → Nat} {sm fe ex : Int32} {gp gc : Nat → Int32} {dy : Int32} {n : Nat} {pe gr st dl wo : Nat → Int32} {q : Nat} {yc ya yd ys tp fu sh ro : Nat → Int32} {th : Int32} {k : Nat} (hI : iwM am) (hn : n ≤ 24) (hk : k < n) : Met l yX4_stateOf wsX4_stateOf { frames := 3, cells := 0, slots := 0, locals := 64 } (va_Pc [.ref (am 0), .int (nI k)] (fun U => va_P (dC, dI) vwCl (wM cI cZ am sm fe ex gp gc dy n pe gr st dl wo q yc ya yd ys tp fu sh ro th) U.heap ∧ va_K (dC, dI) vwCl [(cI, .int), (cZ, .boolean)] U)) (va_Qi (fun r (_ : Unit) => r = st k) (fun _ t => va_P (dC, dI) vwCl (wM cI cZ am sm fe ex gp gc dy n pe gr st dl wo q yc ya yd ys tp fu sh ro (nI 0)) t.heap) (awM am)) 0 0 (awM am) := by
  refine Met.ofW (cc := cX4_stateOf) (maxL := 2) (ret := (some .int)) (by decide) rfl ?_
  intro p e s m args below meth c s₁ B hml hv
  obtain ⟨rfl, hP, hK⟩ := hv
  have hx := B.exec
  have hb := B.bytes
  have hr := B.returns
  have hts := atoms_spec (ws := wsX4_stateOf) B.pre
  have hown : s.vm.findClass RX4 = some m.cls := findClass_of_methodNamed B.named
  have hlocks := B.notSynchronized
  have hS : va_S (awM am) s.heap s.heap [] := va_S.rf
  have hl := lv_entry ([.ref (am 0), .int (nI k)]) (n := 2) (Nat.le_of_ble_eq_true rfl)
  rw [lg_entry_eq]
  generalize (lg_sl ([.ref (am 0), .int (nI k)]) ++ List.replicate (2 - (lg_sl ([.ref (am 0), .int (nI k)])).length) Slot.unset).toArray = ls at hl ⊢
  have hl : lv_has ls 2 [(0, .ref (am 0)), (1, .int (nI k))] := hl
  have hiX4 : ∀ w ∈ wsX40, w ∈ wsX4_stateOf := by decide +kernel
  have hf22 := hts (.fieldLink RX4 22 "SettlementFundModel" "states" "[I") (by decide +kernel)
  refine lv_aload_n hx hb dX4_stateOf_0 rfl (lv_at hl 0 rfl) ?_
  refine lv_iload_n hx hb dX4_stateOf_1 rfl (lv_at hl 1 rfl) ?_
  refine k_X4_asks_ok l (k := k) (hn := hn) (hk := hk) hx hb hml hown hts hK hP gX4_stateOf_X4_asks ⟨Nat.le_of_ble_eq_true rfl, Nat.le_of_ble_eq_true rfl⟩ ⟨Nat.le_of_ble_eq_true rfl, Nat.le_of_ble_eq_true rfl⟩ hl.1 (Nat.le_of_ble_eq_true rfl) dX4_stateOf_2 hI (fun _ h => h) hS (fun H locs hP hS _ => ?_)
  refine zi_eq (tgt := 17) hx hb (by decide) dX4_stateOf_5 (by decide) (fun c_5 => (show False by omega).elim) (fun c_5 => ?_)
  refine lv_aload_n hx hb dX4_stateOf_8 rfl (lv_at hl 0 rfl) ?_
  refine gM_0_9 hx hb hts hiX4 hown hK hP hf22 dX4_stateOf_9 ?_
  refine lv_iload_n hx hb dX4_stateOf_12 rfl (lv_at hl 1 rfl) ?_
  refine lM_5 hx hb hK hP (by omega) dX4_stateOf_13 ?_
  refine lv_goto (tgt := 18) hx hb dX4_stateOf_14 (by decide) ?_
  exact W.iret (v := st k) hx hb hr (fun t ht hW => ⟨⟨st k, (), rfl, rfl, by (try dsimp only); rw [ht]; exact hP⟩, hS.F ht⟩) hS.2.2 dX4_stateOf_18
section
variable {p : Program} {e : Env} {R : Room} {s : State} {m : MethodId} {args : Array Value} {below : List Frame} {meth : Method} {c : Code} {H : Heap} {locs : List Loc} {cells slots : Nat} {Q : State → Prop} {cc : ByteArray} {pc : Nat} {ls : Array Slot} {rest : List Value} {own : String} {index nL : Nat} {Ts : List Cond} {H0 : Heap} {A0 : Nat → Prop}
theorem k_X4_stateOf_ok (l : Launch) {dC : Nat → ClassId} {dI : Nat → Nat → Nat} {cI cZ : ClassId} {am : Nat → Nat} {sm fe ex : Int32} {gp gc : Nat → Int32} {dy : Int32} {n : Nat} {pe gr st dl wo : Nat → Int32} {q : Nat} {yc ya yd ys tp fu sh ro : Nat → Int32} {th : Int32} {k : Nat} (hn : n ≤ 24) (hk : k < n) (hx : p.tables.exec = Jvm.exec) (hb : c.code = cc) (hml : c.maxLocals = nL) (hown : s.vm.findClass own = some m.cls) (hts : ∀ w ∈ Ts, w.before args s = true) (hK : va_K (dC, dI) vwCl [(cI, .int), (cZ, .boolean)] s) (hP : va_P (dC, dI) vwCl (wM cI cZ am sm fe ex gp gc dy n pe gr st dl wo q yc ya yd ys tp fu sh ro th) H) (hg9 : GoodIn Ts (wsV own index RX4 yX4_stateOf wsX4_stateOf)) (hR9 : 3 + 1 ≤ R.frames ∧ 8 + (2 + 11) + 64 ≤ R.locals) (hc9 : cells ≤ R.cells ∧ slots ≤ R.slots) (hl9 : ls.size = nL) (hw9 : (rest.map fun v => v.category).sum ≤ 8) (hdg : decode cc pc = .ok (.invokevirtual index, 3)) (hI : iwM am) (hA : ∀ x, awM am x → A0 x) (hS : va_S A0 H0 H locs) (kk : ∀ (H1 : Heap) (locs1 : List Loc), va_P (dC, dI) vwCl (wM cI cZ am sm fe ex gp gc dy n pe gr st dl wo q yc ya yd ys tp fu sh ro (nI 0)) H1 → va_S A0 H0 H1 locs1 → (∀ q : Nat, q < H.size → ¬ awM am q → H1[q]? = H[q]?) → W p l e R s m args below meth c H1 locs1 cells slots Q (F0 m (pc + 3) ls (.int (st k) :: rest))) : W p l e R s m args below meth c H locs cells slots Q (F0 m pc ls (.int (nI k) :: .ref (am 0) :: rest)) := va_calli (va_runV (As := [.int (nI k)]) (rest := rest) ⟨hx, hb, hml, hown, hts⟩ (c_X4_stateOf_ok (dC := dC) (dI := dI) (cI := cI) (cZ := cZ) (am := am) (sm := sm) (fe := fe) (ex := ex) (gp := gp) (gc := gc) (dy := dy) (n := n) (pe := pe) (gr := gr) (st := st) (dl := dl) (wo := wo) (q := q) (yc := yc) (ya := ya) (yd := yd) (ys := ys) (tp := tp) (fu := fu) (sh := sh) (ro := ro) (th := th) (k := k) l hI hn hk) (cwV 1 hts hg9 rfl rfl rfl (by decide +kernel) hR9) ⟨fun a U g mk q => ⟨q.1, q.2.1, va_K.moved (u := U) (U := U.calling g mk a) (Vm.Alike.refl U.vm) q.2.2⟩, rM_0 hK hP, fun U hU hW => ⟨rfl, by rw [hU]; exact hP, va_K.moved hW.alike hK⟩⟩ rfl rfl hl9 rfl (lv_room hw9) hdg hc9) hS (fun q _ h => hA q h) hA (fun r u t H1 locs1 ht _ hu hB hz hk hS1 => by subst hu; exact kk H1 locs1 (by rw [ht] at hB; exact hB) hS1 hk)
end
set_option maxHeartbeats 4000000 in
set_option maxRecDepth 100000 in
theorem c_X4_gradeOf_ok (l : Launch) {dC : Nat → ClassId} {dI : Nat → Nat → Nat} {cI cZ : ClassId} {am : Nat → Nat} {sm fe ex : Int32} {gp gc : Nat → Int32} {dy : Int32} {n : Nat} {pe gr st dl wo : Nat → Int32} {q : Nat} {yc ya yd ys tp fu sh ro : Nat → Int32} {th : Int32} {k : Nat} (hI : iwM am) (hn : n ≤ 24) (hk : k < n) : Met l yX4_gradeOf wsX4_gradeOf { frames := 3, cells := 0, slots := 0, locals := 64 } (va_Pc [.ref (am 0), .int (nI k)] (fun U => va_P (dC, dI) vwCl (wM cI cZ am sm fe ex gp gc dy n pe gr st dl wo q yc ya yd ys tp fu sh ro th) U.heap ∧ va_K (dC, dI) vwCl [(cI, .int), (cZ, .boolean)] U)) (va_Qi (fun r (_ : Unit) => r = gr k) (fun _ t => va_P (dC, dI) vwCl (wM cI cZ am sm fe ex gp gc dy n pe gr st dl wo q yc ya yd ys tp fu sh ro (nI 0)) t.heap) (awM am)) 0 0 (awM am) := by
  refine Met.ofW (cc := cX4_gradeOf) (maxL := 2) (ret := (some .int)) (by decide) rfl ?_
  intro p e s m args below meth c s₁ B hml hv
  obtain ⟨rfl, hP, hK⟩ := hv
  have hx := B.exec
  have hb := B.bytes
  have hr := B.returns
  have hts := atoms_spec (ws := wsX4_gradeOf) B.pre
  have hown : s.vm.findClass RX4 = some m.cls := findClass_of_methodNamed B.named
  have hlocks := B.notSynchronized
  have hS : va_S (awM am) s.heap s.heap [] := va_S.rf
  have hl := lv_entry ([.ref (am 0), .int (nI k)]) (n := 2) (Nat.le_of_ble_eq_true rfl)
  rw [lg_entry_eq]
  generalize (lg_sl ([.ref (am 0), .int (nI k)]) ++ List.replicate (2 - (lg_sl ([.ref (am 0), .int (nI k)])).length) Slot.unset).toArray = ls at hl ⊢
  have hl : lv_has ls 2 [(0, .ref (am 0)), (1, .int (nI k))] := hl
  have hiX4 : ∀ w ∈ wsX40, w ∈ wsX4_gradeOf := by decide +kernel
  have hf19 := hts (.fieldLink RX4 19 "SettlementFundModel" "grades" "[I") (by decide +kernel)
  refine lv_aload_n hx hb dX4_gradeOf_0 rfl (lv_at hl 0 rfl) ?_
  refine lv_iload_n hx hb dX4_gradeOf_1 rfl (lv_at hl 1 rfl) ?_
  refine k_X4_asks_ok l (k := k) (hn := hn) (hk := hk) hx hb hml hown hts hK hP gX4_gradeOf_X4_asks ⟨Nat.le_of_ble_eq_true rfl, Nat.le_of_ble_eq_true rfl⟩ ⟨Nat.le_of_ble_eq_true rfl, Nat.le_of_ble_eq_true rfl⟩ hl.1 (Nat.le_of_ble_eq_true rfl) dX4_gradeOf_2 hI (fun _ h => h) hS (fun H locs hP hS _ => ?_)
  refine zi_eq (tgt := 17) hx hb (by decide) dX4_gradeOf_5 (by decide) (fun c_5 => (show False by omega).elim) (fun c_5 => ?_)
  refine lv_aload_n hx hb dX4_gradeOf_8 rfl (lv_at hl 0 rfl) ?_
  refine gM_0_8 hx hb hts hiX4 hown hK hP hf19 dX4_gradeOf_9 ?_
  refine lv_iload_n hx hb dX4_gradeOf_12 rfl (lv_at hl 1 rfl) ?_
  refine lM_4 hx hb hK hP (by omega) dX4_gradeOf_13 ?_
  refine lv_goto (tgt := 18) hx hb dX4_gradeOf_14 (by decide) ?_
  exact W.iret (v := gr k) hx hb hr (fun t ht hW => ⟨⟨gr k, (), rfl, rfl, by (try dsimp only); rw [ht]; exact hP⟩, hS.F ht⟩) hS.2.2 dX4_gradeOf_18
section
variable {p : Program} {e : Env} {R : Room} {s : State} {m : MethodId} {args : Array Value} {below : List Frame} {meth : Method} {c : Code} {H : Heap} {locs : List Loc} {cells slots : Nat} {Q : State → Prop} {cc : ByteArray} {pc : Nat} {ls : Array Slot} {rest : List Value} {own : String} {index nL : Nat} {Ts : List Cond} {H0 : Heap} {A0 : Nat → Prop}
theorem k_X4_gradeOf_ok (l : Launch) {dC : Nat → ClassId} {dI : Nat → Nat → Nat} {cI cZ : ClassId} {am : Nat → Nat} {sm fe ex : Int32} {gp gc : Nat → Int32} {dy : Int32} {n : Nat} {pe gr st dl wo : Nat → Int32} {q : Nat} {yc ya yd ys tp fu sh ro : Nat → Int32} {th : Int32} {k : Nat} (hn : n ≤ 24) (hk : k < n) (hx : p.tables.exec = Jvm.exec) (hb : c.code = cc) (hml : c.maxLocals = nL) (hown : s.vm.findClass own = some m.cls) (hts : ∀ w ∈ Ts, w.before args s = true) (hK : va_K (dC, dI) vwCl [(cI, .int), (cZ, .boolean)] s) (hP : va_P (dC, dI) vwCl (wM cI cZ am sm fe ex gp gc dy n pe gr st dl wo q yc ya yd ys tp fu sh ro th) H) (hg9 : GoodIn Ts (wsV own index RX4 yX4_gradeOf wsX4_gradeOf)) (hR9 : 3 + 1 ≤ R.frames ∧ 8 + (2 + 11) + 64 ≤ R.locals) (hc9 : cells ≤ R.cells ∧ slots ≤ R.slots) (hl9 : ls.size = nL) (hw9 : (rest.map fun v => v.category).sum ≤ 8) (hdg : decode cc pc = .ok (.invokevirtual index, 3)) (hI : iwM am) (hA : ∀ x, awM am x → A0 x) (hS : va_S A0 H0 H locs) (kk : ∀ (H1 : Heap) (locs1 : List Loc), va_P (dC, dI) vwCl (wM cI cZ am sm fe ex gp gc dy n pe gr st dl wo q yc ya yd ys tp fu sh ro (nI 0)) H1 → va_S A0 H0 H1 locs1 → (∀ q : Nat, q < H.size → ¬ awM am q → H1[q]? = H[q]?) → W p l e R s m args below meth c H1 locs1 cells slots Q (F0 m (pc + 3) ls (.int (gr k) :: rest))) : W p l e R s m args below meth c H locs cells slots Q (F0 m pc ls (.int (nI k) :: .ref (am 0) :: rest)) := va_calli (va_runV (As := [.int (nI k)]) (rest := rest) ⟨hx, hb, hml, hown, hts⟩ (c_X4_gradeOf_ok (dC := dC) (dI := dI) (cI := cI) (cZ := cZ) (am := am) (sm := sm) (fe := fe) (ex := ex) (gp := gp) (gc := gc) (dy := dy) (n := n) (pe := pe) (gr := gr) (st := st) (dl := dl) (wo := wo) (q := q) (yc := yc) (ya := ya) (yd := yd) (ys := ys) (tp := tp) (fu := fu) (sh := sh) (ro := ro) (th := th) (k := k) l hI hn hk) (cwV 1 hts hg9 rfl rfl rfl (by decide +kernel) hR9) ⟨fun a U g mk q => ⟨q.1, q.2.1, va_K.moved (u := U) (U := U.calling g mk a) (Vm.Alike.refl U.vm) q.2.2⟩, rM_0 hK hP, fun U hU hW => ⟨rfl, by rw [hU]; exact hP, va_K.moved hW.alike hK⟩⟩ rfl rfl hl9 rfl (lv_room hw9) hdg hc9) hS (fun q _ h => hA q h) hA (fun r u t H1 locs1 ht _ hu hB hz hk hS1 => by subst hu; exact kk H1 locs1 (by rw [ht] at hB; exact hB) hS1 hk)
end
set_option maxHeartbeats 4000000 in
set_option maxRecDepth 100000 in
theorem c_X4_room_ok (l : Launch) {dC : Nat → ClassId} {dI : Nat → Nat → Nat} {cI cZ : ClassId} {am : Nat → Nat} {sm fe ex : Int32} {gp gc : Nat → Int32} {dy : Int32} {n : Nat} {pe gr st dl wo : Nat → Int32} {q : Nat} {yc ya yd ys tp fu sh ro : Nat → Int32} {th : Int32} {k : Nat} (hI : iwM am) (hn : n ≤ 24) (hk : k < n) (hq : q ≤ 100) (hG : gr k = nI (gN gr k) ∧ gN gr k < 5) : Met l yX4_room wsX4_room { frames := 3, cells := 0, slots := 0, locals := 64 } (va_Pc [.ref (am 0), .int (nI k)] (fun U => va_P (dC, dI) vwCl (wM cI cZ am sm fe ex gp gc dy n pe gr st dl wo q yc ya yd ys tp fu sh ro th) U.heap ∧ va_K (dC, dI) vwCl [(cI, .int), (cZ, .boolean)] U)) (va_Qi (fun r (_ : Unit) => r = roomF gc gr yc ya ys q k) (fun _ t => va_P (dC, dI) vwCl (wM cI cZ am sm fe ex gp gc dy n pe gr st dl wo q yc ya yd ys tp fu sh ro (nI 0)) t.heap) (awM am)) 0 0 (awM am) := by
  refine Met.ofW (cc := cX4_room) (maxL := 2) (ret := (some .int)) (by decide) rfl ?_
  intro p e s m args below meth c s₁ B hml hv
  obtain ⟨rfl, hP, hK⟩ := hv
  have hx := B.exec
  have hb := B.bytes
  have hr := B.returns
  have hts := atoms_spec (ws := wsX4_room) B.pre
  have hown : s.vm.findClass RX4 = some m.cls := findClass_of_methodNamed B.named
  have hlocks := B.notSynchronized
  have hS : va_S (awM am) s.heap s.heap [] := va_S.rf
  have hl := lv_entry ([.ref (am 0), .int (nI k)]) (n := 2) (Nat.le_of_ble_eq_true rfl)
  rw [lg_entry_eq]
  generalize (lg_sl ([.ref (am 0), .int (nI k)]) ++ List.replicate (2 - (lg_sl ([.ref (am 0), .int (nI k)])).length) Slot.unset).toArray = ls at hl ⊢
  have hl : lv_has ls 2 [(0, .ref (am 0)), (1, .int (nI k))] := hl
  refine lv_aload_n hx hb dX4_room_0 rfl (lv_at hl 0 rfl) ?_
  refine lv_iload_n hx hb dX4_room_1 rfl (lv_at hl 1 rfl) ?_
  refine k_X4_asks_ok l (k := k) (hn := hn) (hk := hk) hx hb hml hown hts hK hP gX4_room_X4_asks ⟨Nat.le_of_ble_eq_true rfl, Nat.le_of_ble_eq_true rfl⟩ ⟨Nat.le_of_ble_eq_true rfl, Nat.le_of_ble_eq_true rfl⟩ hl.1 (Nat.le_of_ble_eq_true rfl) dX4_room_2 hI (fun _ h => h) hS (fun H locs hP hS _ => ?_)
  refine zi_eq (tgt := 16) hx hb (by decide) dX4_room_5 (by decide) (fun c_5 => (show False by omega).elim) (fun c_5 => ?_)
  refine lv_aload_n hx hb dX4_room_8 rfl (lv_at hl 0 rfl) ?_
  refine lv_iload_n hx hb dX4_room_9 rfl (lv_at hl 1 rfl) ?_
  refine k_X4_roomOf l (k := k) (hq := hq) (hk := (by omega)) (hG := hG) hx hb hml hown hts hK hP gX4_room_X4_roomOf ⟨Nat.le_of_ble_eq_true rfl, Nat.le_of_ble_eq_true rfl⟩ ⟨Nat.le_of_ble_eq_true rfl, Nat.le_of_ble_eq_true rfl⟩ hl.1 (Nat.le_of_ble_eq_true rfl) dX4_room_10 ?_
  refine lv_goto (tgt := 17) hx hb dX4_room_13 (by decide) ?_
  exact W.iret (v := roomF gc gr yc ya ys q k) hx hb hr (fun t ht hW => ⟨⟨roomF gc gr yc ya ys q k, (), rfl, rfl, by (try dsimp only); rw [ht]; exact hP⟩, hS.F ht⟩) hS.2.2 dX4_room_17
section
variable {p : Program} {e : Env} {R : Room} {s : State} {m : MethodId} {args : Array Value} {below : List Frame} {meth : Method} {c : Code} {H : Heap} {locs : List Loc} {cells slots : Nat} {Q : State → Prop} {cc : ByteArray} {pc : Nat} {ls : Array Slot} {rest : List Value} {own : String} {index nL : Nat} {Ts : List Cond} {H0 : Heap} {A0 : Nat → Prop}
theorem k_X4_room_ok (l : Launch) {dC : Nat → ClassId} {dI : Nat → Nat → Nat} {cI cZ : ClassId} {am : Nat → Nat} {sm fe ex : Int32} {gp gc : Nat → Int32} {dy : Int32} {n : Nat} {pe gr st dl wo : Nat → Int32} {q : Nat} {yc ya yd ys tp fu sh ro : Nat → Int32} {th : Int32} {k : Nat} (hn : n ≤ 24) (hk : k < n) (hq : q ≤ 100) (hG : gr k = nI (gN gr k) ∧ gN gr k < 5) (hx : p.tables.exec = Jvm.exec) (hb : c.code = cc) (hml : c.maxLocals = nL) (hown : s.vm.findClass own = some m.cls) (hts : ∀ w ∈ Ts, w.before args s = true) (hK : va_K (dC, dI) vwCl [(cI, .int), (cZ, .boolean)] s) (hP : va_P (dC, dI) vwCl (wM cI cZ am sm fe ex gp gc dy n pe gr st dl wo q yc ya yd ys tp fu sh ro th) H) (hg9 : GoodIn Ts (wsV own index RX4 yX4_room wsX4_room)) (hR9 : 3 + 1 ≤ R.frames ∧ 8 + (2 + 11) + 64 ≤ R.locals) (hc9 : cells ≤ R.cells ∧ slots ≤ R.slots) (hl9 : ls.size = nL) (hw9 : (rest.map fun v => v.category).sum ≤ 8) (hdg : decode cc pc = .ok (.invokevirtual index, 3)) (hI : iwM am) (hA : ∀ x, awM am x → A0 x) (hS : va_S A0 H0 H locs) (kk : ∀ (H1 : Heap) (locs1 : List Loc), va_P (dC, dI) vwCl (wM cI cZ am sm fe ex gp gc dy n pe gr st dl wo q yc ya yd ys tp fu sh ro (nI 0)) H1 → va_S A0 H0 H1 locs1 → (∀ q : Nat, q < H.size → ¬ awM am q → H1[q]? = H[q]?) → W p l e R s m args below meth c H1 locs1 cells slots Q (F0 m (pc + 3) ls (.int (roomF gc gr yc ya ys q k) :: rest))) : W p l e R s m args below meth c H locs cells slots Q (F0 m pc ls (.int (nI k) :: .ref (am 0) :: rest)) := va_calli (va_runV (As := [.int (nI k)]) (rest := rest) ⟨hx, hb, hml, hown, hts⟩ (c_X4_room_ok (dC := dC) (dI := dI) (cI := cI) (cZ := cZ) (am := am) (sm := sm) (fe := fe) (ex := ex) (gp := gp) (gc := gc) (dy := dy) (n := n) (pe := pe) (gr := gr) (st := st) (dl := dl) (wo := wo) (q := q) (yc := yc) (ya := ya) (yd := yd) (ys := ys) (tp := tp) (fu := fu) (sh := sh) (ro := ro) (th := th) (k := k) l hI hn hk hq hG) (cwV 1 hts hg9 rfl rfl rfl (by decide +kernel) hR9) ⟨fun a U g mk q => ⟨q.1, q.2.1, va_K.moved (u := U) (U := U.calling g mk a) (Vm.Alike.refl U.vm) q.2.2⟩, rM_0 hK hP, fun U hU hW => ⟨rfl, by rw [hU]; exact hP, va_K.moved hW.alike hK⟩⟩ rfl rfl hl9 rfl (lv_room hw9) hdg hc9) hS (fun q _ h => hA q h) hA (fun r u t H1 locs1 ht _ hu hB hz hk hS1 => by subst hu; exact kk H1 locs1 (by rw [ht] at hB; exact hB) hS1 hk)
end
set_option maxHeartbeats 4000000 in
set_option maxRecDepth 100000 in
theorem c_X4_paidTo_ok (l : Launch) {dC : Nat → ClassId} {dI : Nat → Nat → Nat} {cI cZ : ClassId} {am : Nat → Nat} {sm fe ex : Int32} {gp gc : Nat → Int32} {dy : Int32} {n : Nat} {pe gr st dl wo : Nat → Int32} {q : Nat} {yc ya yd ys tp fu sh ro : Nat → Int32} {th : Int32} {k : Nat} (hI : iwM am) (hn : n ≤ 24) (hk : k < n) (hq : q ≤ 100) : Met l yX4_paidTo wsX4_paidTo { frames := 3, cells := 0, slots := 0, locals := 64 } (va_Pc [.ref (am 0), .int (nI k)] (fun U => va_P (dC, dI) vwCl (wM cI cZ am sm fe ex gp gc dy n pe gr st dl wo q yc ya yd ys tp fu sh ro th) U.heap ∧ va_K (dC, dI) vwCl [(cI, .int), (cZ, .boolean)] U)) (va_Qi (fun r (_ : Unit) => r = sumForI yc ya ys (nI k) q) (fun _ t => va_P (dC, dI) vwCl (wM cI cZ am sm fe ex gp gc dy n pe gr st dl wo q yc ya yd ys tp fu sh ro (nI 0)) t.heap) (awM am)) 0 0 (awM am) := by
  refine Met.ofW (cc := cX4_paidTo) (maxL := 2) (ret := (some .int)) (by decide) rfl ?_
  intro p e s m args below meth c s₁ B hml hv
  obtain ⟨rfl, hP, hK⟩ := hv
  have hx := B.exec
  have hb := B.bytes
  have hr := B.returns
  have hts := atoms_spec (ws := wsX4_paidTo) B.pre
  have hown : s.vm.findClass RX4 = some m.cls := findClass_of_methodNamed B.named
  have hlocks := B.notSynchronized
  have hS : va_S (awM am) s.heap s.heap [] := va_S.rf
  have hl := lv_entry ([.ref (am 0), .int (nI k)]) (n := 2) (Nat.le_of_ble_eq_true rfl)
  rw [lg_entry_eq]
  generalize (lg_sl ([.ref (am 0), .int (nI k)]) ++ List.replicate (2 - (lg_sl ([.ref (am 0), .int (nI k)])).length) Slot.unset).toArray = ls at hl ⊢
  have hl : lv_has ls 2 [(0, .ref (am 0)), (1, .int (nI k))] := hl
  refine lv_aload_n hx hb dX4_paidTo_0 rfl (lv_at hl 0 rfl) ?_
  refine lv_iload_n hx hb dX4_paidTo_1 rfl (lv_at hl 1 rfl) ?_
  refine k_X4_asks_ok l (k := k) (hn := hn) (hk := hk) hx hb hml hown hts hK hP gX4_paidTo_X4_asks ⟨Nat.le_of_ble_eq_true rfl, Nat.le_of_ble_eq_true rfl⟩ ⟨Nat.le_of_ble_eq_true rfl, Nat.le_of_ble_eq_true rfl⟩ hl.1 (Nat.le_of_ble_eq_true rfl) dX4_paidTo_2 hI (fun _ h => h) hS (fun H locs hP hS _ => ?_)
  refine zi_eq (tgt := 16) hx hb (by decide) dX4_paidTo_5 (by decide) (fun c_5 => (show False by omega).elim) (fun c_5 => ?_)
  refine lv_aload_n hx hb dX4_paidTo_8 rfl (lv_at hl 0 rfl) ?_
  refine lv_iload_n hx hb dX4_paidTo_9 rfl (lv_at hl 1 rfl) ?_
  refine k_X4_paid l (w := nI k) (hq := hq) hx hb hml hown hts hK hP gX4_paidTo_X4_paid ⟨Nat.le_of_ble_eq_true rfl, Nat.le_of_ble_eq_true rfl⟩ ⟨Nat.le_of_ble_eq_true rfl, Nat.le_of_ble_eq_true rfl⟩ hl.1 (Nat.le_of_ble_eq_true rfl) dX4_paidTo_10 ?_
  refine lv_goto (tgt := 17) hx hb dX4_paidTo_13 (by decide) ?_
  exact W.iret (v := sumForI yc ya ys (nI k) q) hx hb hr (fun t ht hW => ⟨⟨sumForI yc ya ys (nI k) q, (), rfl, rfl, by (try dsimp only); rw [ht]; exact hP⟩, hS.F ht⟩) hS.2.2 dX4_paidTo_17
section
variable {p : Program} {e : Env} {R : Room} {s : State} {m : MethodId} {args : Array Value} {below : List Frame} {meth : Method} {c : Code} {H : Heap} {locs : List Loc} {cells slots : Nat} {Q : State → Prop} {cc : ByteArray} {pc : Nat} {ls : Array Slot} {rest : List Value} {own : String} {index nL : Nat} {Ts : List Cond} {H0 : Heap} {A0 : Nat → Prop}
theorem k_X4_paidTo_ok (l : Launch) {dC : Nat → ClassId} {dI : Nat → Nat → Nat} {cI cZ : ClassId} {am : Nat → Nat} {sm fe ex : Int32} {gp gc : Nat → Int32} {dy : Int32} {n : Nat} {pe gr st dl wo : Nat → Int32} {q : Nat} {yc ya yd ys tp fu sh ro : Nat → Int32} {th : Int32} {k : Nat} (hn : n ≤ 24) (hk : k < n) (hq : q ≤ 100) (hx : p.tables.exec = Jvm.exec) (hb : c.code = cc) (hml : c.maxLocals = nL) (hown : s.vm.findClass own = some m.cls) (hts : ∀ w ∈ Ts, w.before args s = true) (hK : va_K (dC, dI) vwCl [(cI, .int), (cZ, .boolean)] s) (hP : va_P (dC, dI) vwCl (wM cI cZ am sm fe ex gp gc dy n pe gr st dl wo q yc ya yd ys tp fu sh ro th) H) (hg9 : GoodIn Ts (wsV own index RX4 yX4_paidTo wsX4_paidTo)) (hR9 : 3 + 1 ≤ R.frames ∧ 8 + (2 + 11) + 64 ≤ R.locals) (hc9 : cells ≤ R.cells ∧ slots ≤ R.slots) (hl9 : ls.size = nL) (hw9 : (rest.map fun v => v.category).sum ≤ 8) (hdg : decode cc pc = .ok (.invokevirtual index, 3)) (hI : iwM am) (hA : ∀ x, awM am x → A0 x) (hS : va_S A0 H0 H locs) (kk : ∀ (H1 : Heap) (locs1 : List Loc), va_P (dC, dI) vwCl (wM cI cZ am sm fe ex gp gc dy n pe gr st dl wo q yc ya yd ys tp fu sh ro (nI 0)) H1 → va_S A0 H0 H1 locs1 → (∀ q : Nat, q < H.size → ¬ awM am q → H1[q]? = H[q]?) → W p l e R s m args below meth c H1 locs1 cells slots Q (F0 m (pc + 3) ls (.int (sumForI yc ya ys (nI k) q) :: rest))) : W p l e R s m args below meth c H locs cells slots Q (F0 m pc ls (.int (nI k) :: .ref (am 0) :: rest)) := va_calli (va_runV (As := [.int (nI k)]) (rest := rest) ⟨hx, hb, hml, hown, hts⟩ (c_X4_paidTo_ok (dC := dC) (dI := dI) (cI := cI) (cZ := cZ) (am := am) (sm := sm) (fe := fe) (ex := ex) (gp := gp) (gc := gc) (dy := dy) (n := n) (pe := pe) (gr := gr) (st := st) (dl := dl) (wo := wo) (q := q) (yc := yc) (ya := ya) (yd := yd) (ys := ys) (tp := tp) (fu := fu) (sh := sh) (ro := ro) (th := th) (k := k) l hI hn hk hq) (cwV 1 hts hg9 rfl rfl rfl (by decide +kernel) hR9) ⟨fun a U g mk q => ⟨q.1, q.2.1, va_K.moved (u := U) (U := U.calling g mk a) (Vm.Alike.refl U.vm) q.2.2⟩, rM_0 hK hP, fun U hU hW => ⟨rfl, by rw [hU]; exact hP, va_K.moved hW.alike hK⟩⟩ rfl rfl hl9 rfl (lv_room hw9) hdg hc9) hS (fun q _ h => hA q h) hA (fun r u t H1 locs1 ht _ hu hB hz hk hS1 => by subst hu; exact kk H1 locs1 (by rw [ht] at hB; exact hB) hS1 hk)
end
set_option maxHeartbeats 4000000 in
set_option maxRecDepth 100000 in
theorem c_X4_stateOf_no (l : Launch) {dC : Nat → ClassId} {dI : Nat → Nat → Nat} {cI cZ : ClassId} {am : Nat → Nat} {sm fe ex : Int32} {gp gc : Nat → Int32} {dy : Int32} {n : Nat} {pe gr st dl wo : Nat → Int32} {q : Nat} {yc ya yd ys tp fu sh ro : Nat → Int32} {th : Int32} {x : Int32} (hI : iwM am) (hn : n ≤ 24) (hk : ¬ vp_in x n) : Met l yX4_stateOf wsX4_stateOf { frames := 3, cells := 0, slots := 0, locals := 64 } (va_Pc [.ref (am 0), .int x] (fun U => va_P (dC, dI) vwCl (wM cI cZ am sm fe ex gp gc dy n pe gr st dl wo q yc ya yd ys tp fu sh ro th) U.heap ∧ va_K (dC, dI) vwCl [(cI, .int), (cZ, .boolean)] U)) (va_Qi (fun r (_ : Unit) => r = nI 0) (fun _ t => va_P (dC, dI) vwCl (wM cI cZ am sm fe ex gp gc dy n pe gr st dl wo q yc ya yd ys tp fu sh ro (nI 1)) t.heap) (awM am)) 0 0 (awM am) := by
  refine Met.ofW (cc := cX4_stateOf) (maxL := 2) (ret := (some .int)) (by decide) rfl ?_
  intro p e s m args below meth c s₁ B hml hv
  obtain ⟨rfl, hP, hK⟩ := hv
  have hx := B.exec
  have hb := B.bytes
  have hr := B.returns
  have hts := atoms_spec (ws := wsX4_stateOf) B.pre
  have hown : s.vm.findClass RX4 = some m.cls := findClass_of_methodNamed B.named
  have hlocks := B.notSynchronized
  have hS : va_S (awM am) s.heap s.heap [] := va_S.rf
  have hl := lv_entry ([.ref (am 0), .int x]) (n := 2) (Nat.le_of_ble_eq_true rfl)
  rw [lg_entry_eq]
  generalize (lg_sl ([.ref (am 0), .int x]) ++ List.replicate (2 - (lg_sl ([.ref (am 0), .int x])).length) Slot.unset).toArray = ls at hl ⊢
  have hl : lv_has ls 2 [(0, .ref (am 0)), (1, .int x)] := hl
  refine lv_aload_n hx hb dX4_stateOf_0 rfl (lv_at hl 0 rfl) ?_
  refine lv_iload_n hx hb dX4_stateOf_1 rfl (lv_at hl 1 rfl) ?_
  refine k_X4_asks_no l (x := x) (hn := hn) (hk := hk) hx hb hml hown hts hK hP gX4_stateOf_X4_asks ⟨Nat.le_of_ble_eq_true rfl, Nat.le_of_ble_eq_true rfl⟩ ⟨Nat.le_of_ble_eq_true rfl, Nat.le_of_ble_eq_true rfl⟩ hl.1 (Nat.le_of_ble_eq_true rfl) dX4_stateOf_2 hI (fun _ h => h) hS (fun H locs hP hS _ => ?_)
  refine zi_eq (tgt := 17) hx hb (by decide) dX4_stateOf_5 (by decide) (fun c_5 => ?_) (fun c_5 => (show False by omega).elim)
  refine lv_iconst (v := nI 0) hx hb dX4_stateOf_17 (by decide) ?_
  exact W.iret (v := nI 0) hx hb hr (fun t ht hW => ⟨⟨nI 0, (), rfl, rfl, by (try dsimp only); rw [ht]; exact hP⟩, hS.F ht⟩) hS.2.2 dX4_stateOf_18
section
variable {p : Program} {e : Env} {R : Room} {s : State} {m : MethodId} {args : Array Value} {below : List Frame} {meth : Method} {c : Code} {H : Heap} {locs : List Loc} {cells slots : Nat} {Q : State → Prop} {cc : ByteArray} {pc : Nat} {ls : Array Slot} {rest : List Value} {own : String} {index nL : Nat} {Ts : List Cond} {H0 : Heap} {A0 : Nat → Prop}
theorem k_X4_stateOf_no (l : Launch) {dC : Nat → ClassId} {dI : Nat → Nat → Nat} {cI cZ : ClassId} {am : Nat → Nat} {sm fe ex : Int32} {gp gc : Nat → Int32} {dy : Int32} {n : Nat} {pe gr st dl wo : Nat → Int32} {q : Nat} {yc ya yd ys tp fu sh ro : Nat → Int32} {th : Int32} {x : Int32} (hn : n ≤ 24) (hk : ¬ vp_in x n) (hx : p.tables.exec = Jvm.exec) (hb : c.code = cc) (hml : c.maxLocals = nL) (hown : s.vm.findClass own = some m.cls) (hts : ∀ w ∈ Ts, w.before args s = true) (hK : va_K (dC, dI) vwCl [(cI, .int), (cZ, .boolean)] s) (hP : va_P (dC, dI) vwCl (wM cI cZ am sm fe ex gp gc dy n pe gr st dl wo q yc ya yd ys tp fu sh ro th) H) (hg9 : GoodIn Ts (wsV own index RX4 yX4_stateOf wsX4_stateOf)) (hR9 : 3 + 1 ≤ R.frames ∧ 8 + (2 + 11) + 64 ≤ R.locals) (hc9 : cells ≤ R.cells ∧ slots ≤ R.slots) (hl9 : ls.size = nL) (hw9 : (rest.map fun v => v.category).sum ≤ 8) (hdg : decode cc pc = .ok (.invokevirtual index, 3)) (hI : iwM am) (hA : ∀ x, awM am x → A0 x) (hS : va_S A0 H0 H locs) (kk : ∀ (H1 : Heap) (locs1 : List Loc), va_P (dC, dI) vwCl (wM cI cZ am sm fe ex gp gc dy n pe gr st dl wo q yc ya yd ys tp fu sh ro (nI 1)) H1 → va_S A0 H0 H1 locs1 → (∀ q : Nat, q < H.size → ¬ awM am q → H1[q]? = H[q]?) → W p l e R s m args below meth c H1 locs1 cells slots Q (F0 m (pc + 3) ls (.int (nI 0) :: rest))) : W p l e R s m args below meth c H locs cells slots Q (F0 m pc ls (.int x :: .ref (am 0) :: rest)) := va_calli (va_runV (As := [.int x]) (rest := rest) ⟨hx, hb, hml, hown, hts⟩ (c_X4_stateOf_no (dC := dC) (dI := dI) (cI := cI) (cZ := cZ) (am := am) (sm := sm) (fe := fe) (ex := ex) (gp := gp) (gc := gc) (dy := dy) (n := n) (pe := pe) (gr := gr) (st := st) (dl := dl) (wo := wo) (q := q) (yc := yc) (ya := ya) (yd := yd) (ys := ys) (tp := tp) (fu := fu) (sh := sh) (ro := ro) (th := th) (x := x) l hI hn hk) (cwV 1 hts hg9 rfl rfl rfl (by decide +kernel) hR9) ⟨fun a U g mk q => ⟨q.1, q.2.1, va_K.moved (u := U) (U := U.calling g mk a) (Vm.Alike.refl U.vm) q.2.2⟩, rM_0 hK hP, fun U hU hW => ⟨rfl, by rw [hU]; exact hP, va_K.moved hW.alike hK⟩⟩ rfl rfl hl9 rfl (lv_room hw9) hdg hc9) hS (fun q _ h => hA q h) hA (fun r u t H1 locs1 ht _ hu hB hz hk hS1 => by subst hu; exact kk H1 locs1 (by rw [ht] at hB; exact hB) hS1 hk)
end
set_option maxHeartbeats 4000000 in
set_option maxRecDepth 100000 in
theorem c_X4_gradeOf_no (l : Launch) {dC : Nat → ClassId} {dI : Nat → Nat → Nat} {cI cZ : ClassId} {am : Nat → Nat} {sm fe ex : Int32} {gp gc : Nat → Int32} {dy : Int32} {n : Nat} {pe gr st dl wo : Nat → Int32} {q : Nat} {yc ya yd ys tp fu sh ro : Nat → Int32} {th : Int32} {x : Int32} (hI : iwM am) (hn : n ≤ 24) (hk : ¬ vp_in x n) : Met l yX4_gradeOf wsX4_gradeOf { frames := 3, cells := 0, slots := 0, locals := 64 } (va_Pc [.ref (am 0), .int x] (fun U => va_P (dC, dI) vwCl (wM cI cZ am sm fe ex gp gc dy n pe gr st dl wo q yc ya yd ys tp fu sh ro th) U.heap ∧ va_K (dC, dI) vwCl [(cI, .int), (cZ, .boolean)] U)) (va_Qi (fun r (_ : Unit) => r = nI 0) (fun _ t => va_P (dC, dI) vwCl (wM cI cZ am sm fe ex gp gc dy n pe gr st dl wo q yc ya yd ys tp fu sh ro (nI 1)) t.heap) (awM am)) 0 0 (awM am) := by
  refine Met.ofW (cc := cX4_gradeOf) (maxL := 2) (ret := (some .int)) (by decide) rfl ?_
  intro p e s m args below meth c s₁ B hml hv
  obtain ⟨rfl, hP, hK⟩ := hv
  have hx := B.exec
  have hb := B.bytes
  have hr := B.returns
  have hts := atoms_spec (ws := wsX4_gradeOf) B.pre
  have hown : s.vm.findClass RX4 = some m.cls := findClass_of_methodNamed B.named
  have hlocks := B.notSynchronized
  have hS : va_S (awM am) s.heap s.heap [] := va_S.rf
  have hl := lv_entry ([.ref (am 0), .int x]) (n := 2) (Nat.le_of_ble_eq_true rfl)
  rw [lg_entry_eq]
  generalize (lg_sl ([.ref (am 0), .int x]) ++ List.replicate (2 - (lg_sl ([.ref (am 0), .int x])).length) Slot.unset).toArray = ls at hl ⊢
  have hl : lv_has ls 2 [(0, .ref (am 0)), (1, .int x)] := hl
  refine lv_aload_n hx hb dX4_gradeOf_0 rfl (lv_at hl 0 rfl) ?_
  refine lv_iload_n hx hb dX4_gradeOf_1 rfl (lv_at hl 1 rfl) ?_
  refine k_X4_asks_no l (x := x) (hn := hn) (hk := hk) hx hb hml hown hts hK hP gX4_gradeOf_X4_asks ⟨Nat.le_of_ble_eq_true rfl, Nat.le_of_ble_eq_true rfl⟩ ⟨Nat.le_of_ble_eq_true rfl, Nat.le_of_ble_eq_true rfl⟩ hl.1 (Nat.le_of_ble_eq_true rfl) dX4_gradeOf_2 hI (fun _ h => h) hS (fun H locs hP hS _ => ?_)
  refine zi_eq (tgt := 17) hx hb (by decide) dX4_gradeOf_5 (by decide) (fun c_5 => ?_) (fun c_5 => (show False by omega).elim)
  refine lv_iconst (v := nI 0) hx hb dX4_gradeOf_17 (by decide) ?_
  exact W.iret (v := nI 0) hx hb hr (fun t ht hW => ⟨⟨nI 0, (), rfl, rfl, by (try dsimp only); rw [ht]; exact hP⟩, hS.F ht⟩) hS.2.2 dX4_gradeOf_18
section
variable {p : Program} {e : Env} {R : Room} {s : State} {m : MethodId} {args : Array Value} {below : List Frame} {meth : Method} {c : Code} {H : Heap} {locs : List Loc} {cells slots : Nat} {Q : State → Prop} {cc : ByteArray} {pc : Nat} {ls : Array Slot} {rest : List Value} {own : String} {index nL : Nat} {Ts : List Cond} {H0 : Heap} {A0 : Nat → Prop}
theorem k_X4_gradeOf_no (l : Launch) {dC : Nat → ClassId} {dI : Nat → Nat → Nat} {cI cZ : ClassId} {am : Nat → Nat} {sm fe ex : Int32} {gp gc : Nat → Int32} {dy : Int32} {n : Nat} {pe gr st dl wo : Nat → Int32} {q : Nat} {yc ya yd ys tp fu sh ro : Nat → Int32} {th : Int32} {x : Int32} (hn : n ≤ 24) (hk : ¬ vp_in x n) (hx : p.tables.exec = Jvm.exec) (hb : c.code = cc) (hml : c.maxLocals = nL) (hown : s.vm.findClass own = some m.cls) (hts : ∀ w ∈ Ts, w.before args s = true) (hK : va_K (dC, dI) vwCl [(cI, .int), (cZ, .boolean)] s) (hP : va_P (dC, dI) vwCl (wM cI cZ am sm fe ex gp gc dy n pe gr st dl wo q yc ya yd ys tp fu sh ro th) H) (hg9 : GoodIn Ts (wsV own index RX4 yX4_gradeOf wsX4_gradeOf)) (hR9 : 3 + 1 ≤ R.frames ∧ 8 + (2 + 11) + 64 ≤ R.locals) (hc9 : cells ≤ R.cells ∧ slots ≤ R.slots) (hl9 : ls.size = nL) (hw9 : (rest.map fun v => v.category).sum ≤ 8) (hdg : decode cc pc = .ok (.invokevirtual index, 3)) (hI : iwM am) (hA : ∀ x, awM am x → A0 x) (hS : va_S A0 H0 H locs) (kk : ∀ (H1 : Heap) (locs1 : List Loc), va_P (dC, dI) vwCl (wM cI cZ am sm fe ex gp gc dy n pe gr st dl wo q yc ya yd ys tp fu sh ro (nI 1)) H1 → va_S A0 H0 H1 locs1 → (∀ q : Nat, q < H.size → ¬ awM am q → H1[q]? = H[q]?) → W p l e R s m args below meth c H1 locs1 cells slots Q (F0 m (pc + 3) ls (.int (nI 0) :: rest))) : W p l e R s m args below meth c H locs cells slots Q (F0 m pc ls (.int x :: .ref (am 0) :: rest)) := va_calli (va_runV (As := [.int x]) (rest := rest) ⟨hx, hb, hml, hown, hts⟩ (c_X4_gradeOf_no (dC := dC) (dI := dI) (cI := cI) (cZ := cZ) (am := am) (sm := sm) (fe := fe) (ex := ex) (gp := gp) (gc := gc) (dy := dy) (n := n) (pe := pe) (gr := gr) (st := st) (dl := dl) (wo := wo) (q := q) (yc := yc) (ya := ya) (yd := yd) (ys := ys) (tp := tp) (fu := fu) (sh := sh) (ro := ro) (th := th) (x := x) l hI hn hk) (cwV 1 hts hg9 rfl rfl rfl (by decide +kernel) hR9) ⟨fun a U g mk q => ⟨q.1, q.2.1, va_K.moved (u := U) (U := U.calling g mk a) (Vm.Alike.refl U.vm) q.2.2⟩, rM_0 hK hP, fun U hU hW => ⟨rfl, by rw [hU]; exact hP, va_K.moved hW.alike hK⟩⟩ rfl rfl hl9 rfl (lv_room hw9) hdg hc9) hS (fun q _ h => hA q h) hA (fun r u t H1 locs1 ht _ hu hB hz hk hS1 => by subst hu; exact kk H1 locs1 (by rw [ht] at hB; exact hB) hS1 hk)
end
set_option maxHeartbeats 4000000 in
set_option maxRecDepth 100000 in
theorem c_X4_room_no (l : Launch) {dC : Nat → ClassId} {dI : Nat → Nat → Nat} {cI cZ : ClassId} {am : Nat → Nat} {sm fe ex : Int32} {gp gc : Nat → Int32} {dy : Int32} {n : Nat} {pe gr st dl wo : Nat → Int32} {q : Nat} {yc ya yd ys tp fu sh ro : Nat → Int32} {th : Int32} {x : Int32} (hI : iwM am) (hn : n ≤ 24) (hk : ¬ vp_in x n) : Met l yX4_room wsX4_room { frames := 3, cells := 0, slots := 0, locals := 64 } (va_Pc [.ref (am 0), .int x] (fun U => va_P (dC, dI) vwCl (wM cI cZ am sm fe ex gp gc dy n pe gr st dl wo q yc ya yd ys tp fu sh ro th) U.heap ∧ va_K (dC, dI) vwCl [(cI, .int), (cZ, .boolean)] U)) (va_Qi (fun r (_ : Unit) => r = nI 0) (fun _ t => va_P (dC, dI) vwCl (wM cI cZ am sm fe ex gp gc dy n pe gr st dl wo q yc ya yd ys tp fu sh ro (nI 1)) t.heap) (awM am)) 0 0 (awM am) := by
  refine Met.ofW (cc := cX4_room) (maxL := 2) (ret := (some .int)) (by decide) rfl ?_
  intro p e s m args below meth c s₁ B hml hv
  obtain ⟨rfl, hP, hK⟩ := hv
  have hx := B.exec
  have hb := B.bytes
  have hr := B.returns
  have hts := atoms_spec (ws := wsX4_room) B.pre
  have hown : s.vm.findClass RX4 = some m.cls := findClass_of_methodNamed B.named
  have hlocks := B.notSynchronized
  have hS : va_S (awM am) s.heap s.heap [] := va_S.rf
  have hl := lv_entry ([.ref (am 0), .int x]) (n := 2) (Nat.le_of_ble_eq_true rfl)
  rw [lg_entry_eq]
  generalize (lg_sl ([.ref (am 0), .int x]) ++ List.replicate (2 - (lg_sl ([.ref (am 0), .int x])).length) Slot.unset).toArray = ls at hl ⊢
  have hl : lv_has ls 2 [(0, .ref (am 0)), (1, .int x)] := hl
  refine lv_aload_n hx hb dX4_room_0 rfl (lv_at hl 0 rfl) ?_
  refine lv_iload_n hx hb dX4_room_1 rfl (lv_at hl 1 rfl) ?_
  refine k_X4_asks_no l (x := x) (hn := hn) (hk := hk) hx hb hml hown hts hK hP gX4_room_X4_asks ⟨Nat.le_of_ble_eq_true rfl, Nat.le_of_ble_eq_true rfl⟩ ⟨Nat.le_of_ble_eq_true rfl, Nat.le_of_ble_eq_true rfl⟩ hl.1 (Nat.le_of_ble_eq_true rfl) dX4_room_2 hI (fun _ h => h) hS (fun H locs hP hS _ => ?_)
  refine zi_eq (tgt := 16) hx hb (by decide) dX4_room_5 (by decide) (fun c_5 => ?_) (fun c_5 => (show False by omega).elim)
  refine lv_iconst (v := nI 0) hx hb dX4_room_16 (by decide) ?_
  exact W.iret (v := nI 0) hx hb hr (fun t ht hW => ⟨⟨nI 0, (), rfl, rfl, by (try dsimp only); rw [ht]; exact hP⟩, hS.F ht⟩) hS.2.2 dX4_room_17
section
variable {p : Program} {e : Env} {R : Room} {s : State} {m : MethodId} {args : Array Value} {below : List Frame} {meth : Method} {c : Code} {H : Heap} {locs : List Loc} {cells slots : Nat} {Q : State → Prop} {cc : ByteArray} {pc : Nat} {ls : Array Slot} {rest : List Value} {own : String} {index nL : Nat} {Ts : List Cond} {H0 : Heap} {A0 : Nat → Prop}
theorem k_X4_room_no (l : Launch) {dC : Nat → ClassId} {dI : Nat → Nat → Nat} {cI cZ : ClassId} {am : Nat → Nat} {sm fe ex : Int32} {gp gc : Nat → Int32} {dy : Int32} {n : Nat} {pe gr st dl wo : Nat → Int32} {q : Nat} {yc ya yd ys tp fu sh ro : Nat → Int32} {th : Int32} {x : Int32} (hn : n ≤ 24) (hk : ¬ vp_in x n) (hx : p.tables.exec = Jvm.exec) (hb : c.code = cc) (hml : c.maxLocals = nL) (hown : s.vm.findClass own = some m.cls) (hts : ∀ w ∈ Ts, w.before args s = true) (hK : va_K (dC, dI) vwCl [(cI, .int), (cZ, .boolean)] s) (hP : va_P (dC, dI) vwCl (wM cI cZ am sm fe ex gp gc dy n pe gr st dl wo q yc ya yd ys tp fu sh ro th) H) (hg9 : GoodIn Ts (wsV own index RX4 yX4_room wsX4_room)) (hR9 : 3 + 1 ≤ R.frames ∧ 8 + (2 + 11) + 64 ≤ R.locals) (hc9 : cells ≤ R.cells ∧ slots ≤ R.slots) (hl9 : ls.size = nL) (hw9 : (rest.map fun v => v.category).sum ≤ 8) (hdg : decode cc pc = .ok (.invokevirtual index, 3)) (hI : iwM am) (hA : ∀ x, awM am x → A0 x) (hS : va_S A0 H0 H locs) (kk : ∀ (H1 : Heap) (locs1 : List Loc), va_P (dC, dI) vwCl (wM cI cZ am sm fe ex gp gc dy n pe gr st dl wo q yc ya yd ys tp fu sh ro (nI 1)) H1 → va_S A0 H0 H1 locs1 → (∀ q : Nat, q < H.size → ¬ awM am q → H1[q]? = H[q]?) → W p l e R s m args below meth c H1 locs1 cells slots Q (F0 m (pc + 3) ls (.int (nI 0) :: rest))) : W p l e R s m args below meth c H locs cells slots Q (F0 m pc ls (.int x :: .ref (am 0) :: rest)) := va_calli (va_runV (As := [.int x]) (rest := rest) ⟨hx, hb, hml, hown, hts⟩ (c_X4_room_no (dC := dC) (dI := dI) (cI := cI) (cZ := cZ) (am := am) (sm := sm) (fe := fe) (ex := ex) (gp := gp) (gc := gc) (dy := dy) (n := n) (pe := pe) (gr := gr) (st := st) (dl := dl) (wo := wo) (q := q) (yc := yc) (ya := ya) (yd := yd) (ys := ys) (tp := tp) (fu := fu) (sh := sh) (ro := ro) (th := th) (x := x) l hI hn hk) (cwV 1 hts hg9 rfl rfl rfl (by decide +kernel) hR9) ⟨fun a U g mk q => ⟨q.1, q.2.1, va_K.moved (u := U) (U := U.calling g mk a) (Vm.Alike.refl U.vm) q.2.2⟩, rM_0 hK hP, fun U hU hW => ⟨rfl, by rw [hU]; exact hP, va_K.moved hW.alike hK⟩⟩ rfl rfl hl9 rfl (lv_room hw9) hdg hc9) hS (fun q _ h => hA q h) hA (fun r u t H1 locs1 ht _ hu hB hz hk hS1 => by subst hu; exact kk H1 locs1 (by rw [ht] at hB; exact hB) hS1 hk)
end
set_option maxHeartbeats 4000000 in
set_option maxRecDepth 100000 in
theorem c_X4_paidTo_no (l : Launch) {dC : Nat → ClassId} {dI : Nat → Nat → Nat} {cI cZ : ClassId} {am : Nat → Nat} {sm fe ex : Int32} {gp gc : Nat → Int32} {dy : Int32} {n : Nat} {pe gr st dl wo : Nat → Int32} {q : Nat} {yc ya yd ys tp fu sh ro : Nat → Int32} {th : Int32} {x : Int32} (hI : iwM am) (hn : n ≤ 24) (hk : ¬ vp_in x n) : Met l yX4_paidTo wsX4_paidTo { frames := 3, cells := 0, slots := 0, locals := 64 } (va_Pc [.ref (am 0), .int x] (fun U => va_P (dC, dI) vwCl (wM cI cZ am sm fe ex gp gc dy n pe gr st dl wo q yc ya yd ys tp fu sh ro th) U.heap ∧ va_K (dC, dI) vwCl [(cI, .int), (cZ, .boolean)] U)) (va_Qi (fun r (_ : Unit) => r = nI 0) (fun _ t => va_P (dC, dI) vwCl (wM cI cZ am sm fe ex gp gc dy n pe gr st dl wo q yc ya yd ys tp fu sh ro (nI 1)) t.heap) (awM am)) 0 0 (awM am) := by
  refine Met.ofW (cc := cX4_paidTo) (maxL := 2) (ret := (some .int)) (by decide) rfl ?_
  intro p e s m args below meth c s₁ B hml hv
  obtain ⟨rfl, hP, hK⟩ := hv
  have hx := B.exec
  have hb := B.bytes
  have hr := B.returns
  have hts := atoms_spec (ws := wsX4_paidTo) B.pre
  have hown : s.vm.findClass RX4 = some m.cls := findClass_of_methodNamed B.named
  have hlocks := B.notSynchronized
  have hS : va_S (awM am) s.heap s.heap [] := va_S.rf
  have hl := lv_entry ([.ref (am 0), .int x]) (n := 2) (Nat.le_of_ble_eq_true rfl)
  rw [lg_entry_eq]
  generalize (lg_sl ([.ref (am 0), .int x]) ++ List.replicate (2 - (lg_sl ([.ref (am 0), .int x])).length) Slot.unset).toArray = ls at hl ⊢
  have hl : lv_has ls 2 [(0, .ref (am 0)), (1, .int x)] := hl
  refine lv_aload_n hx hb dX4_paidTo_0 rfl (lv_at hl 0 rfl) ?_
  refine lv_iload_n hx hb dX4_paidTo_1 rfl (lv_at hl 1 rfl) ?_
  refine k_X4_asks_no l (x := x) (hn := hn) (hk := hk) hx hb hml hown hts hK hP gX4_paidTo_X4_asks ⟨Nat.le_of_ble_eq_true rfl, Nat.le_of_ble_eq_true rfl⟩ ⟨Nat.le_of_ble_eq_true rfl, Nat.le_of_ble_eq_true rfl⟩ hl.1 (Nat.le_of_ble_eq_true rfl) dX4_paidTo_2 hI (fun _ h => h) hS (fun H locs hP hS _ => ?_)
  refine zi_eq (tgt := 16) hx hb (by decide) dX4_paidTo_5 (by decide) (fun c_5 => ?_) (fun c_5 => (show False by omega).elim)
  refine lv_iconst (v := nI 0) hx hb dX4_paidTo_16 (by decide) ?_
  exact W.iret (v := nI 0) hx hb hr (fun t ht hW => ⟨⟨nI 0, (), rfl, rfl, by (try dsimp only); rw [ht]; exact hP⟩, hS.F ht⟩) hS.2.2 dX4_paidTo_17
section
variable {p : Program} {e : Env} {R : Room} {s : State} {m : MethodId} {args : Array Value} {below : List Frame} {meth : Method} {c : Code} {H : Heap} {locs : List Loc} {cells slots : Nat} {Q : State → Prop} {cc : ByteArray} {pc : Nat} {ls : Array Slot} {rest : List Value} {own : String} {index nL : Nat} {Ts : List Cond} {H0 : Heap} {A0 : Nat → Prop}
theorem k_X4_paidTo_no (l : Launch) {dC : Nat → ClassId} {dI : Nat → Nat → Nat} {cI cZ : ClassId} {am : Nat → Nat} {sm fe ex : Int32} {gp gc : Nat → Int32} {dy : Int32} {n : Nat} {pe gr st dl wo : Nat → Int32} {q : Nat} {yc ya yd ys tp fu sh ro : Nat → Int32} {th : Int32} {x : Int32} (hn : n ≤ 24) (hk : ¬ vp_in x n) (hx : p.tables.exec = Jvm.exec) (hb : c.code = cc) (hml : c.maxLocals = nL) (hown : s.vm.findClass own = some m.cls) (hts : ∀ w ∈ Ts, w.before args s = true) (hK : va_K (dC, dI) vwCl [(cI, .int), (cZ, .boolean)] s) (hP : va_P (dC, dI) vwCl (wM cI cZ am sm fe ex gp gc dy n pe gr st dl wo q yc ya yd ys tp fu sh ro th) H) (hg9 : GoodIn Ts (wsV own index RX4 yX4_paidTo wsX4_paidTo)) (hR9 : 3 + 1 ≤ R.frames ∧ 8 + (2 + 11) + 64 ≤ R.locals) (hc9 : cells ≤ R.cells ∧ slots ≤ R.slots) (hl9 : ls.size = nL) (hw9 : (rest.map fun v => v.category).sum ≤ 8) (hdg : decode cc pc = .ok (.invokevirtual index, 3)) (hI : iwM am) (hA : ∀ x, awM am x → A0 x) (hS : va_S A0 H0 H locs) (kk : ∀ (H1 : Heap) (locs1 : List Loc), va_P (dC, dI) vwCl (wM cI cZ am sm fe ex gp gc dy n pe gr st dl wo q yc ya yd ys tp fu sh ro (nI 1)) H1 → va_S A0 H0 H1 locs1 → (∀ q : Nat, q < H.size → ¬ awM am q → H1[q]? = H[q]?) → W p l e R s m args below meth c H1 locs1 cells slots Q (F0 m (pc + 3) ls (.int (nI 0) :: rest))) : W p l e R s m args below meth c H locs cells slots Q (F0 m pc ls (.int x :: .ref (am 0) :: rest)) := va_calli (va_runV (As := [.int x]) (rest := rest) ⟨hx, hb, hml, hown, hts⟩ (c_X4_paidTo_no (dC := dC) (dI := dI) (cI := cI) (cZ := cZ) (am := am) (sm := sm) (fe := fe) (ex := ex) (gp := gp) (gc := gc) (dy := dy) (n := n) (pe := pe) (gr := gr) (st := st) (dl := dl) (wo := wo) (q := q) (yc := yc) (ya := ya) (yd := yd) (ys := ys) (tp := tp) (fu := fu) (sh := sh) (ro := ro) (th := th) (x := x) l hI hn hk) (cwV 1 hts hg9 rfl rfl rfl (by decide +kernel) hR9) ⟨fun a U g mk q => ⟨q.1, q.2.1, va_K.moved (u := U) (U := U.calling g mk a) (Vm.Alike.refl U.vm) q.2.2⟩, rM_0 hK hP, fun U hU hW => ⟨rfl, by rw [hU]; exact hP, va_K.moved hW.alike hK⟩⟩ rfl rfl hl9 rfl (lv_room hw9) hdg hc9) hS (fun q _ h => hA q h) hA (fun r u t H1 locs1 ht _ hu hB hz hk hS1 => by subst hu; exact kk H1 locs1 (by rw [ht] at hB; exact hB) hS1 hk)
end
set_option maxHeartbeats 4000000 in
set_option maxRecDepth 100000 in
theorem c_X4_paymentTo_ok (l : Launch) {dC : Nat → ClassId} {dI : Nat → Nat → Nat} {cI cZ : ClassId} {am : Nat → Nat} {sm fe ex : Int32} {gp gc : Nat → Int32} {dy : Int32} {n : Nat} {pe gr st dl wo : Nat → Int32} {q : Nat} {yc ya yd ys tp fu sh ro : Nat → Int32} {th : Int32} {k : Nat} (hI : iwM am) (hq : q ≤ 100) (hk : k < q) : Met l yX4_paymentTo wsX4_paymentTo { frames := 3, cells := 0, slots := 0, locals := 64 } (va_Pc [.ref (am 0), .int (nI k)] (fun U => va_P (dC, dI) vwCl (wM cI cZ am sm fe ex gp gc dy n pe gr st dl wo q yc ya yd ys tp fu sh ro th) U.heap ∧ va_K (dC, dI) vwCl [(cI, .int), (cZ, .boolean)] U)) (va_Qi (fun r (_ : Unit) => r = yc k) (fun _ t => va_P (dC, dI) vwCl (wM cI cZ am sm fe ex gp gc dy n pe gr st dl wo q yc ya yd ys tp fu sh ro (nI 0)) t.heap) (awM am)) 0 0 (awM am) := by
  refine Met.ofW (cc := cX4_paymentTo) (maxL := 2) (ret := (some .int)) (by decide) rfl ?_
  intro p e s m args below meth c s₁ B hml hv
  obtain ⟨rfl, hP, hK⟩ := hv
  have hx := B.exec
  have hb := B.bytes
  have hr := B.returns
  have hts := atoms_spec (ws := wsX4_paymentTo) B.pre
  have hown : s.vm.findClass RX4 = some m.cls := findClass_of_methodNamed B.named
  have hlocks := B.notSynchronized
  have hS : va_S (awM am) s.heap s.heap [] := va_S.rf
  have hl := lv_entry ([.ref (am 0), .int (nI k)]) (n := 2) (Nat.le_of_ble_eq_true rfl)
  rw [lg_entry_eq]
  generalize (lg_sl ([.ref (am 0), .int (nI k)]) ++ List.replicate (2 - (lg_sl ([.ref (am 0), .int (nI k)])).length) Slot.unset).toArray = ls at hl ⊢
  have hl : lv_has ls 2 [(0, .ref (am 0)), (1, .int (nI k))] := hl
  have hiX4 : ∀ w ∈ wsX40, w ∈ wsX4_paymentTo := by decide +kernel
  have hf32 := hts (.fieldLink RX4 32 "SettlementFundModel" "paidTo" "[I") (by decide +kernel)
  refine lv_aload_n hx hb dX4_paymentTo_0 rfl (lv_at hl 0 rfl) ?_
  refine lv_iload_n hx hb dX4_paymentTo_1 rfl (lv_at hl 1 rfl) ?_
  refine k_X4_asksPayment_ok l (k := k) (hq := hq) (hk := hk) hx hb hml hown hts hK hP gX4_paymentTo_X4_asksPayment ⟨Nat.le_of_ble_eq_true rfl, Nat.le_of_ble_eq_true rfl⟩ ⟨Nat.le_of_ble_eq_true rfl, Nat.le_of_ble_eq_true rfl⟩ hl.1 (Nat.le_of_ble_eq_true rfl) dX4_paymentTo_2 hI (fun _ h => h) hS (fun H locs hP hS _ => ?_)
  refine zi_eq (tgt := 17) hx hb (by decide) dX4_paymentTo_5 (by decide) (fun c_5 => (show False by omega).elim) (fun c_5 => ?_)
  refine lv_aload_n hx hb dX4_paymentTo_8 rfl (lv_at hl 0 rfl) ?_
  refine gM_0_13 hx hb hts hiX4 hown hK hP hf32 dX4_paymentTo_9 ?_
  refine lv_iload_n hx hb dX4_paymentTo_12 rfl (lv_at hl 1 rfl) ?_
  refine lM_8 hx hb hK hP (by omega) dX4_paymentTo_13 ?_
  refine lv_goto (tgt := 18) hx hb dX4_paymentTo_14 (by decide) ?_
  exact W.iret (v := yc k) hx hb hr (fun t ht hW => ⟨⟨yc k, (), rfl, rfl, by (try dsimp only); rw [ht]; exact hP⟩, hS.F ht⟩) hS.2.2 dX4_paymentTo_18
section
variable {p : Program} {e : Env} {R : Room} {s : State} {m : MethodId} {args : Array Value} {below : List Frame} {meth : Method} {c : Code} {H : Heap} {locs : List Loc} {cells slots : Nat} {Q : State → Prop} {cc : ByteArray} {pc : Nat} {ls : Array Slot} {rest : List Value} {own : String} {index nL : Nat} {Ts : List Cond} {H0 : Heap} {A0 : Nat → Prop}
theorem k_X4_paymentTo_ok (l : Launch) {dC : Nat → ClassId} {dI : Nat → Nat → Nat} {cI cZ : ClassId} {am : Nat → Nat} {sm fe ex : Int32} {gp gc : Nat → Int32} {dy : Int32} {n : Nat} {pe gr st dl wo : Nat → Int32} {q : Nat} {yc ya yd ys tp fu sh ro : Nat → Int32} {th : Int32} {k : Nat} (hq : q ≤ 100) (hk : k < q) (hx : p.tables.exec = Jvm.exec) (hb : c.code = cc) (hml : c.maxLocals = nL) (hown : s.vm.findClass own = some m.cls) (hts : ∀ w ∈ Ts, w.before args s = true) (hK : va_K (dC, dI) vwCl [(cI, .int), (cZ, .boolean)] s) (hP : va_P (dC, dI) vwCl (wM cI cZ am sm fe ex gp gc dy n pe gr st dl wo q yc ya yd ys tp fu sh ro th) H) (hg9 : GoodIn Ts (wsV own index RX4 yX4_paymentTo wsX4_paymentTo)) (hR9 : 3 + 1 ≤ R.frames ∧ 8 + (2 + 11) + 64 ≤ R.locals) (hc9 : cells ≤ R.cells ∧ slots ≤ R.slots) (hl9 : ls.size = nL) (hw9 : (rest.map fun v => v.category).sum ≤ 8) (hdg : decode cc pc = .ok (.invokevirtual index, 3)) (hI : iwM am) (hA : ∀ x, awM am x → A0 x) (hS : va_S A0 H0 H locs) (kk : ∀ (H1 : Heap) (locs1 : List Loc), va_P (dC, dI) vwCl (wM cI cZ am sm fe ex gp gc dy n pe gr st dl wo q yc ya yd ys tp fu sh ro (nI 0)) H1 → va_S A0 H0 H1 locs1 → (∀ q : Nat, q < H.size → ¬ awM am q → H1[q]? = H[q]?) → W p l e R s m args below meth c H1 locs1 cells slots Q (F0 m (pc + 3) ls (.int (yc k) :: rest))) : W p l e R s m args below meth c H locs cells slots Q (F0 m pc ls (.int (nI k) :: .ref (am 0) :: rest)) := va_calli (va_runV (As := [.int (nI k)]) (rest := rest) ⟨hx, hb, hml, hown, hts⟩ (c_X4_paymentTo_ok (dC := dC) (dI := dI) (cI := cI) (cZ := cZ) (am := am) (sm := sm) (fe := fe) (ex := ex) (gp := gp) (gc := gc) (dy := dy) (n := n) (pe := pe) (gr := gr) (st := st) (dl := dl) (wo := wo) (q := q) (yc := yc) (ya := ya) (yd := yd) (ys := ys) (tp := tp) (fu := fu) (sh := sh) (ro := ro) (th := th) (k := k) l hI hq hk) (cwV 1 hts hg9 rfl rfl rfl (by decide +kernel) hR9) ⟨fun a U g mk q => ⟨q.1, q.2.1, va_K.moved (u := U) (U := U.calling g mk a) (Vm.Alike.refl U.vm) q.2.2⟩, rM_0 hK hP, fun U hU hW => ⟨rfl, by rw [hU]; exact hP, va_K.moved hW.alike hK⟩⟩ rfl rfl hl9 rfl (lv_room hw9) hdg hc9) hS (fun q _ h => hA q h) hA (fun r u t H1 locs1 ht _ hu hB hz hk hS1 => by subst hu; exact kk H1 locs1 (by rw [ht] at hB; exact hB) hS1 hk)
end
set_option maxHeartbeats 4000000 in
set_option maxRecDepth 100000 in
theorem c_X4_paymentTo_no (l : Launch) {dC : Nat → ClassId} {dI : Nat → Nat → Nat} {cI cZ : ClassId} {am : Nat → Nat} {sm fe ex : Int32} {gp gc : Nat → Int32} {dy : Int32} {n : Nat} {pe gr st dl wo : Nat → Int32} {q : Nat} {yc ya yd ys tp fu sh ro : Nat → Int32} {th : Int32} {x : Int32} (hI : iwM am) (hq : q ≤ 100) (hk : ¬ vp_in x q) : Met l yX4_paymentTo wsX4_paymentTo { frames := 3, cells := 0, slots := 0, locals := 64 } (va_Pc [.ref (am 0), .int x] (fun U => va_P (dC, dI) vwCl (wM cI cZ am sm fe ex gp gc dy n pe gr st dl wo q yc ya yd ys tp fu sh ro th) U.heap ∧ va_K (dC, dI) vwCl [(cI, .int), (cZ, .boolean)] U)) (va_Qi (fun r (_ : Unit) => r = nI 0) (fun _ t => va_P (dC, dI) vwCl (wM cI cZ am sm fe ex gp gc dy n pe gr st dl wo q yc ya yd ys tp fu sh ro (nI 1)) t.heap) (awM am)) 0 0 (awM am) := by
  refine Met.ofW (cc := cX4_paymentTo) (maxL := 2) (ret := (some .int)) (by decide) rfl ?_
  intro p e s m args below meth c s₁ B hml hv
  obtain ⟨rfl, hP, hK⟩ := hv
  have hx := B.exec
  have hb := B.bytes
  have hr := B.returns
  have hts := atoms_spec (ws := wsX4_paymentTo) B.pre
  have hown : s.vm.findClass RX4 = some m.cls := findClass_of_methodNamed B.named
  have hlocks := B.notSynchronized
  have hS : va_S (awM am) s.heap s.heap [] := va_S.rf
  have hl := lv_entry ([.ref (am 0), .int x]) (n := 2) (Nat.le_of_ble_eq_true rfl)
  rw [lg_entry_eq]
  generalize (lg_sl ([.ref (am 0), .int x]) ++ List.replicate (2 - (lg_sl ([.ref (am 0), .int x])).length) Slot.unset).toArray = ls at hl ⊢
  have hl : lv_has ls 2 [(0, .ref (am 0)), (1, .int x)] := hl
  refine lv_aload_n hx hb dX4_paymentTo_0 rfl (lv_at hl 0 rfl) ?_
  refine lv_iload_n hx hb dX4_paymentTo_1 rfl (lv_at hl 1 rfl) ?_
  refine k_X4_asksPayment_no l (x := x) (hq := hq) (hk := hk) hx hb hml hown hts hK hP gX4_paymentTo_X4_asksPayment ⟨Nat.le_of_ble_eq_true rfl, Nat.le_of_ble_eq_true rfl⟩ ⟨Nat.le_of_ble_eq_true rfl, Nat.le_of_ble_eq_true rfl⟩ hl.1 (Nat.le_of_ble_eq_true rfl) dX4_paymentTo_2 hI (fun _ h => h) hS (fun H locs hP hS _ => ?_)
  refine zi_eq (tgt := 17) hx hb (by decide) dX4_paymentTo_5 (by decide) (fun c_5 => ?_) (fun c_5 => (show False by omega).elim)
  refine lv_iconst (v := nI 0) hx hb dX4_paymentTo_17 (by decide) ?_
  exact W.iret (v := nI 0) hx hb hr (fun t ht hW => ⟨⟨nI 0, (), rfl, rfl, by (try dsimp only); rw [ht]; exact hP⟩, hS.F ht⟩) hS.2.2 dX4_paymentTo_18
section
variable {p : Program} {e : Env} {R : Room} {s : State} {m : MethodId} {args : Array Value} {below : List Frame} {meth : Method} {c : Code} {H : Heap} {locs : List Loc} {cells slots : Nat} {Q : State → Prop} {cc : ByteArray} {pc : Nat} {ls : Array Slot} {rest : List Value} {own : String} {index nL : Nat} {Ts : List Cond} {H0 : Heap} {A0 : Nat → Prop}
theorem k_X4_paymentTo_no (l : Launch) {dC : Nat → ClassId} {dI : Nat → Nat → Nat} {cI cZ : ClassId} {am : Nat → Nat} {sm fe ex : Int32} {gp gc : Nat → Int32} {dy : Int32} {n : Nat} {pe gr st dl wo : Nat → Int32} {q : Nat} {yc ya yd ys tp fu sh ro : Nat → Int32} {th : Int32} {x : Int32} (hq : q ≤ 100) (hk : ¬ vp_in x q) (hx : p.tables.exec = Jvm.exec) (hb : c.code = cc) (hml : c.maxLocals = nL) (hown : s.vm.findClass own = some m.cls) (hts : ∀ w ∈ Ts, w.before args s = true) (hK : va_K (dC, dI) vwCl [(cI, .int), (cZ, .boolean)] s) (hP : va_P (dC, dI) vwCl (wM cI cZ am sm fe ex gp gc dy n pe gr st dl wo q yc ya yd ys tp fu sh ro th) H) (hg9 : GoodIn Ts (wsV own index RX4 yX4_paymentTo wsX4_paymentTo)) (hR9 : 3 + 1 ≤ R.frames ∧ 8 + (2 + 11) + 64 ≤ R.locals) (hc9 : cells ≤ R.cells ∧ slots ≤ R.slots) (hl9 : ls.size = nL) (hw9 : (rest.map fun v => v.category).sum ≤ 8) (hdg : decode cc pc = .ok (.invokevirtual index, 3)) (hI : iwM am) (hA : ∀ x, awM am x → A0 x) (hS : va_S A0 H0 H locs) (kk : ∀ (H1 : Heap) (locs1 : List Loc), va_P (dC, dI) vwCl (wM cI cZ am sm fe ex gp gc dy n pe gr st dl wo q yc ya yd ys tp fu sh ro (nI 1)) H1 → va_S A0 H0 H1 locs1 → (∀ q : Nat, q < H.size → ¬ awM am q → H1[q]? = H[q]?) → W p l e R s m args below meth c H1 locs1 cells slots Q (F0 m (pc + 3) ls (.int (nI 0) :: rest))) : W p l e R s m args below meth c H locs cells slots Q (F0 m pc ls (.int x :: .ref (am 0) :: rest)) := va_calli (va_runV (As := [.int x]) (rest := rest) ⟨hx, hb, hml, hown, hts⟩ (c_X4_paymentTo_no (dC := dC) (dI := dI) (cI := cI) (cZ := cZ) (am := am) (sm := sm) (fe := fe) (ex := ex) (gp := gp) (gc := gc) (dy := dy) (n := n) (pe := pe) (gr := gr) (st := st) (dl := dl) (wo := wo) (q := q) (yc := yc) (ya := ya) (yd := yd) (ys := ys) (tp := tp) (fu := fu) (sh := sh) (ro := ro) (th := th) (x := x) l hI hq hk) (cwV 1 hts hg9 rfl rfl rfl (by decide +kernel) hR9) ⟨fun a U g mk q => ⟨q.1, q.2.1, va_K.moved (u := U) (U := U.calling g mk a) (Vm.Alike.refl U.vm) q.2.2⟩, rM_0 hK hP, fun U hU hW => ⟨rfl, by rw [hU]; exact hP, va_K.moved hW.alike hK⟩⟩ rfl rfl hl9 rfl (lv_room hw9) hdg hc9) hS (fun q _ h => hA q h) hA (fun r u t H1 locs1 ht _ hu hB hz hk hS1 => by subst hu; exact kk H1 locs1 (by rw [ht] at hB; exact hB) hS1 hk)
end
set_option maxHeartbeats 4000000 in
set_option maxRecDepth 100000 in
theorem c_X4_amountOf_ok (l : Launch) {dC : Nat → ClassId} {dI : Nat → Nat → Nat} {cI cZ : ClassId} {am : Nat → Nat} {sm fe ex : Int32} {gp gc : Nat → Int32} {dy : Int32} {n : Nat} {pe gr st dl wo : Nat → Int32} {q : Nat} {yc ya yd ys tp fu sh ro : Nat → Int32} {th : Int32} {k : Nat} (hI : iwM am) (hq : q ≤ 100) (hk : k < q) : Met l yX4_amountOf wsX4_amountOf { frames := 3, cells := 0, slots := 0, locals := 64 } (va_Pc [.ref (am 0), .int (nI k)] (fun U => va_P (dC, dI) vwCl (wM cI cZ am sm fe ex gp gc dy n pe gr st dl wo q yc ya yd ys tp fu sh ro th) U.heap ∧ va_K (dC, dI) vwCl [(cI, .int), (cZ, .boolean)] U)) (va_Qi (fun r (_ : Unit) => r = ya k) (fun _ t => va_P (dC, dI) vwCl (wM cI cZ am sm fe ex gp gc dy n pe gr st dl wo q yc ya yd ys tp fu sh ro (nI 0)) t.heap) (awM am)) 0 0 (awM am) := by
  refine Met.ofW (cc := cX4_amountOf) (maxL := 2) (ret := (some .int)) (by decide) rfl ?_
  intro p e s m args below meth c s₁ B hml hv
  obtain ⟨rfl, hP, hK⟩ := hv
  have hx := B.exec
  have hb := B.bytes
  have hr := B.returns
  have hts := atoms_spec (ws := wsX4_amountOf) B.pre
  have hown : s.vm.findClass RX4 = some m.cls := findClass_of_methodNamed B.named
  have hlocks := B.notSynchronized
  have hS : va_S (awM am) s.heap s.heap [] := va_S.rf
  have hl := lv_entry ([.ref (am 0), .int (nI k)]) (n := 2) (Nat.le_of_ble_eq_true rfl)
  rw [lg_entry_eq]
  generalize (lg_sl ([.ref (am 0), .int (nI k)]) ++ List.replicate (2 - (lg_sl ([.ref (am 0), .int (nI k)])).length) Slot.unset).toArray = ls at hl ⊢
  have hl : lv_has ls 2 [(0, .ref (am 0)), (1, .int (nI k))] := hl
  have hiX4 : ∀ w ∈ wsX40, w ∈ wsX4_amountOf := by decide +kernel
  have hf35 := hts (.fieldLink RX4 35 "SettlementFundModel" "amounts" "[I") (by decide +kernel)
  refine lv_aload_n hx hb dX4_amountOf_0 rfl (lv_at hl 0 rfl) ?_
  refine lv_iload_n hx hb dX4_amountOf_1 rfl (lv_at hl 1 rfl) ?_
  refine k_X4_asksPayment_ok l (k := k) (hq := hq) (hk := hk) hx hb hml hown hts hK hP gX4_amountOf_X4_asksPayment ⟨Nat.le_of_ble_eq_true rfl, Nat.le_of_ble_eq_true rfl⟩ ⟨Nat.le_of_ble_eq_true rfl, Nat.le_of_ble_eq_true rfl⟩ hl.1 (Nat.le_of_ble_eq_true rfl) dX4_amountOf_2 hI (fun _ h => h) hS (fun H locs hP hS _ => ?_)
  refine zi_eq (tgt := 17) hx hb (by decide) dX4_amountOf_5 (by decide) (fun c_5 => (show False by omega).elim) (fun c_5 => ?_)
  refine lv_aload_n hx hb dX4_amountOf_8 rfl (lv_at hl 0 rfl) ?_
  refine gM_0_14 hx hb hts hiX4 hown hK hP hf35 dX4_amountOf_9 ?_
  refine lv_iload_n hx hb dX4_amountOf_12 rfl (lv_at hl 1 rfl) ?_
  refine lM_9 hx hb hK hP (by omega) dX4_amountOf_13 ?_
  refine lv_goto (tgt := 18) hx hb dX4_amountOf_14 (by decide) ?_
  exact W.iret (v := ya k) hx hb hr (fun t ht hW => ⟨⟨ya k, (), rfl, rfl, by (try dsimp only); rw [ht]; exact hP⟩, hS.F ht⟩) hS.2.2 dX4_amountOf_18
section
variable {p : Program} {e : Env} {R : Room} {s : State} {m : MethodId} {args : Array Value} {below : List Frame} {meth : Method} {c : Code} {H : Heap} {locs : List Loc} {cells slots : Nat} {Q : State → Prop} {cc : ByteArray} {pc : Nat} {ls : Array Slot} {rest : List Value} {own : String} {index nL : Nat} {Ts : List Cond} {H0 : Heap} {A0 : Nat → Prop}
theorem k_X4_amountOf_ok (l : Launch) {dC : Nat → ClassId} {dI : Nat → Nat → Nat} {cI cZ : ClassId} {am : Nat → Nat} {sm fe ex : Int32} {gp gc : Nat → Int32} {dy : Int32} {n : Nat} {pe gr st dl wo : Nat → Int32} {q : Nat} {yc ya yd ys tp fu sh ro : Nat → Int32} {th : Int32} {k : Nat} (hq : q ≤ 100) (hk : k < q) (hx : p.tables.exec = Jvm.exec) (hb : c.code = cc) (hml : c.maxLocals = nL) (hown : s.vm.findClass own = some m.cls) (hts : ∀ w ∈ Ts, w.before args s = true) (hK : va_K (dC, dI) vwCl [(cI, .int), (cZ, .boolean)] s) (hP : va_P (dC, dI) vwCl (wM cI cZ am sm fe ex gp gc dy n pe gr st dl wo q yc ya yd ys tp fu sh ro th) H) (hg9 : GoodIn Ts (wsV own index RX4 yX4_amountOf wsX4_amountOf)) (hR9 : 3 + 1 ≤ R.frames ∧ 8 + (2 + 11) + 64 ≤ R.locals) (hc9 : cells ≤ R.cells ∧ slots ≤ R.slots) (hl9 : ls.size = nL) (hw9 : (rest.map fun v => v.category).sum ≤ 8) (hdg : decode cc pc = .ok (.invokevirtual index, 3)) (hI : iwM am) (hA : ∀ x, awM am x → A0 x) (hS : va_S A0 H0 H locs) (kk : ∀ (H1 : Heap) (locs1 : List Loc), va_P (dC, dI) vwCl (wM cI cZ am sm fe ex gp gc dy n pe gr st dl wo q yc ya yd ys tp fu sh ro (nI 0)) H1 → va_S A0 H0 H1 locs1 → (∀ q : Nat, q < H.size → ¬ awM am q → H1[q]? = H[q]?) → W p l e R s m args below meth c H1 locs1 cells slots Q (F0 m (pc + 3) ls (.int (ya k) :: rest))) : W p l e R s m args below meth c H locs cells slots Q (F0 m pc ls (.int (nI k) :: .ref (am 0) :: rest)) := va_calli (va_runV (As := [.int (nI k)]) (rest := rest) ⟨hx, hb, hml, hown, hts⟩ (c_X4_amountOf_ok (dC := dC) (dI := dI) (cI := cI) (cZ := cZ) (am := am) (sm := sm) (fe := fe) (ex := ex) (gp := gp) (gc := gc) (dy := dy) (n := n) (pe := pe) (gr := gr) (st := st) (dl := dl) (wo := wo) (q := q) (yc := yc) (ya := ya) (yd := yd) (ys := ys) (tp := tp) (fu := fu) (sh := sh) (ro := ro) (th := th) (k := k) l hI hq hk) (cwV 1 hts hg9 rfl rfl rfl (by decide +kernel) hR9) ⟨fun a U g mk q => ⟨q.1, q.2.1, va_K.moved (u := U) (U := U.calling g mk a) (Vm.Alike.refl U.vm) q.2.2⟩, rM_0 hK hP, fun U hU hW => ⟨rfl, by rw [hU]; exact hP, va_K.moved hW.alike hK⟩⟩ rfl rfl hl9 rfl (lv_room hw9) hdg hc9) hS (fun q _ h => hA q h) hA (fun r u t H1 locs1 ht _ hu hB hz hk hS1 => by subst hu; exact kk H1 locs1 (by rw [ht] at hB; exact hB) hS1 hk)
end
set_option maxHeartbeats 4000000 in
set_option maxRecDepth 100000 in
theorem c_X4_amountOf_no (l : Launch) {dC : Nat → ClassId} {dI : Nat → Nat → Nat} {cI cZ : ClassId} {am : Nat → Nat} {sm fe ex : Int32} {gp gc : Nat → Int32} {dy : Int32} {n : Nat} {pe gr st dl wo : Nat → Int32} {q : Nat} {yc ya yd ys tp fu sh ro : Nat → Int32} {th : Int32} {x : Int32} (hI : iwM am) (hq : q ≤ 100) (hk : ¬ vp_in x q) : Met l yX4_amountOf wsX4_amountOf { frames := 3, cells := 0, slots := 0, locals := 64 } (va_Pc [.ref (am 0), .int x] (fun U => va_P (dC, dI) vwCl (wM cI cZ am sm fe ex gp gc dy n pe gr st dl wo q yc ya yd ys tp fu sh ro th) U.heap ∧ va_K (dC, dI) vwCl [(cI, .int), (cZ, .boolean)] U)) (va_Qi (fun r (_ : Unit) => r = nI 0) (fun _ t => va_P (dC, dI) vwCl (wM cI cZ am sm fe ex gp gc dy n pe gr st dl wo q yc ya yd ys tp fu sh ro (nI 1)) t.heap) (awM am)) 0 0 (awM am) := by
  refine Met.ofW (cc := cX4_amountOf) (maxL := 2) (ret := (some .int)) (by decide) rfl ?_
  intro p e s m args below meth c s₁ B hml hv
  obtain ⟨rfl, hP, hK⟩ := hv
  have hx := B.exec
  have hb := B.bytes
  have hr := B.returns
  have hts := atoms_spec (ws := wsX4_amountOf) B.pre
  have hown : s.vm.findClass RX4 = some m.cls := findClass_of_methodNamed B.named
  have hlocks := B.notSynchronized
  have hS : va_S (awM am) s.heap s.heap [] := va_S.rf
  have hl := lv_entry ([.ref (am 0), .int x]) (n := 2) (Nat.le_of_ble_eq_true rfl)
  rw [lg_entry_eq]
  generalize (lg_sl ([.ref (am 0), .int x]) ++ List.replicate (2 - (lg_sl ([.ref (am 0), .int x])).length) Slot.unset).toArray = ls at hl ⊢
  have hl : lv_has ls 2 [(0, .ref (am 0)), (1, .int x)] := hl
  refine lv_aload_n hx hb dX4_amountOf_0 rfl (lv_at hl 0 rfl) ?_
  refine lv_iload_n hx hb dX4_amountOf_1 rfl (lv_at hl 1 rfl) ?_
  refine k_X4_asksPayment_no l (x := x) (hq := hq) (hk := hk) hx hb hml hown hts hK hP gX4_amountOf_X4_asksPayment ⟨Nat.le_of_ble_eq_true rfl, Nat.le_of_ble_eq_true rfl⟩ ⟨Nat.le_of_ble_eq_true rfl, Nat.le_of_ble_eq_true rfl⟩ hl.1 (Nat.le_of_ble_eq_true rfl) dX4_amountOf_2 hI (fun _ h => h) hS (fun H locs hP hS _ => ?_)
  refine zi_eq (tgt := 17) hx hb (by decide) dX4_amountOf_5 (by decide) (fun c_5 => ?_) (fun c_5 => (show False by omega).elim)
  refine lv_iconst (v := nI 0) hx hb dX4_amountOf_17 (by decide) ?_
  exact W.iret (v := nI 0) hx hb hr (fun t ht hW => ⟨⟨nI 0, (), rfl, rfl, by (try dsimp only); rw [ht]; exact hP⟩, hS.F ht⟩) hS.2.2 dX4_amountOf_18
section
variable {p : Program} {e : Env} {R : Room} {s : State} {m : MethodId} {args : Array Value} {below : List Frame} {meth : Method} {c : Code} {H : Heap} {locs : List Loc} {cells slots : Nat} {Q : State → Prop} {cc : ByteArray} {pc : Nat} {ls : Array Slot} {rest : List Value} {own : String} {index nL : Nat} {Ts : List Cond} {H0 : Heap} {A0 : Nat → Prop}
theorem k_X4_amountOf_no (l : Launch) {dC : Nat → ClassId} {dI : Nat → Nat → Nat} {cI cZ : ClassId} {am : Nat → Nat} {sm fe ex : Int32} {gp gc : Nat → Int32} {dy : Int32} {n : Nat} {pe gr st dl wo : Nat → Int32} {q : Nat} {yc ya yd ys tp fu sh ro : Nat → Int32} {th : Int32} {x : Int32} (hq : q ≤ 100) (hk : ¬ vp_in x q) (hx : p.tables.exec = Jvm.exec) (hb : c.code = cc) (hml : c.maxLocals = nL) (hown : s.vm.findClass own = some m.cls) (hts : ∀ w ∈ Ts, w.before args s = true) (hK : va_K (dC, dI) vwCl [(cI, .int), (cZ, .boolean)] s) (hP : va_P (dC, dI) vwCl (wM cI cZ am sm fe ex gp gc dy n pe gr st dl wo q yc ya yd ys tp fu sh ro th) H) (hg9 : GoodIn Ts (wsV own index RX4 yX4_amountOf wsX4_amountOf)) (hR9 : 3 + 1 ≤ R.frames ∧ 8 + (2 + 11) + 64 ≤ R.locals) (hc9 : cells ≤ R.cells ∧ slots ≤ R.slots) (hl9 : ls.size = nL) (hw9 : (rest.map fun v => v.category).sum ≤ 8) (hdg : decode cc pc = .ok (.invokevirtual index, 3)) (hI : iwM am) (hA : ∀ x, awM am x → A0 x) (hS : va_S A0 H0 H locs) (kk : ∀ (H1 : Heap) (locs1 : List Loc), va_P (dC, dI) vwCl (wM cI cZ am sm fe ex gp gc dy n pe gr st dl wo q yc ya yd ys tp fu sh ro (nI 1)) H1 → va_S A0 H0 H1 locs1 → (∀ q : Nat, q < H.size → ¬ awM am q → H1[q]? = H[q]?) → W p l e R s m args below meth c H1 locs1 cells slots Q (F0 m (pc + 3) ls (.int (nI 0) :: rest))) : W p l e R s m args below meth c H locs cells slots Q (F0 m pc ls (.int x :: .ref (am 0) :: rest)) := va_calli (va_runV (As := [.int x]) (rest := rest) ⟨hx, hb, hml, hown, hts⟩ (c_X4_amountOf_no (dC := dC) (dI := dI) (cI := cI) (cZ := cZ) (am := am) (sm := sm) (fe := fe) (ex := ex) (gp := gp) (gc := gc) (dy := dy) (n := n) (pe := pe) (gr := gr) (st := st) (dl := dl) (wo := wo) (q := q) (yc := yc) (ya := ya) (yd := yd) (ys := ys) (tp := tp) (fu := fu) (sh := sh) (ro := ro) (th := th) (x := x) l hI hq hk) (cwV 1 hts hg9 rfl rfl rfl (by decide +kernel) hR9) ⟨fun a U g mk q => ⟨q.1, q.2.1, va_K.moved (u := U) (U := U.calling g mk a) (Vm.Alike.refl U.vm) q.2.2⟩, rM_0 hK hP, fun U hU hW => ⟨rfl, by rw [hU]; exact hP, va_K.moved hW.alike hK⟩⟩ rfl rfl hl9 rfl (lv_room hw9) hdg hc9) hS (fun q _ h => hA q h) hA (fun r u t H1 locs1 ht _ hu hB hz hk hS1 => by subst hu; exact kk H1 locs1 (by rw [ht] at hB; exact hB) hS1 hk)
end
set_option maxHeartbeats 4000000 in
set_option maxRecDepth 100000 in
theorem c_X4_paymentState_ok (l : Launch) {dC : Nat → ClassId} {dI : Nat → Nat → Nat} {cI cZ : ClassId} {am : Nat → Nat} {sm fe ex : Int32} {gp gc : Nat → Int32} {dy : Int32} {n : Nat} {pe gr st dl wo : Nat → Int32} {q : Nat} {yc ya yd ys tp fu sh ro : Nat → Int32} {th : Int32} {k : Nat} (hI : iwM am) (hq : q ≤ 100) (hk : k < q) : Met l yX4_paymentState wsX4_paymentState { frames := 3, cells := 0, slots := 0, locals := 64 } (va_Pc [.ref (am 0), .int (nI k)] (fun U => va_P (dC, dI) vwCl (wM cI cZ am sm fe ex gp gc dy n pe gr st dl wo q yc ya yd ys tp fu sh ro th) U.heap ∧ va_K (dC, dI) vwCl [(cI, .int), (cZ, .boolean)] U)) (va_Qi (fun r (_ : Unit) => r = ys k) (fun _ t => va_P (dC, dI) vwCl (wM cI cZ am sm fe ex gp gc dy n pe gr st dl wo q yc ya yd ys tp fu sh ro (nI 0)) t.heap) (awM am)) 0 0 (awM am) := by
  refine Met.ofW (cc := cX4_paymentState) (maxL := 2) (ret := (some .int)) (by decide) rfl ?_
  intro p e s m args below meth c s₁ B hml hv
  obtain ⟨rfl, hP, hK⟩ := hv
  have hx := B.exec
  have hb := B.bytes
  have hr := B.returns
  have hts := atoms_spec (ws := wsX4_paymentState) B.pre
  have hown : s.vm.findClass RX4 = some m.cls := findClass_of_methodNamed B.named
  have hlocks := B.notSynchronized
  have hS : va_S (awM am) s.heap s.heap [] := va_S.rf
  have hl := lv_entry ([.ref (am 0), .int (nI k)]) (n := 2) (Nat.le_of_ble_eq_true rfl)
  rw [lg_entry_eq]
  generalize (lg_sl ([.ref (am 0), .int (nI k)]) ++ List.replicate (2 - (lg_sl ([.ref (am 0), .int (nI k)])).length) Slot.unset).toArray = ls at hl ⊢
  have hl : lv_has ls 2 [(0, .ref (am 0)), (1, .int (nI k))] := hl
  have hiX4 : ∀ w ∈ wsX40, w ∈ wsX4_paymentState := by decide +kernel
  have hf41 := hts (.fieldLink RX4 41 "SettlementFundModel" "paymentStates" "[I") (by decide +kernel)
  refine lv_aload_n hx hb dX4_paymentState_0 rfl (lv_at hl 0 rfl) ?_
  refine lv_iload_n hx hb dX4_paymentState_1 rfl (lv_at hl 1 rfl) ?_
  refine k_X4_asksPayment_ok l (k := k) (hq := hq) (hk := hk) hx hb hml hown hts hK hP gX4_paymentState_X4_asksPayment ⟨Nat.le_of_ble_eq_true rfl, Nat.le_of_ble_eq_true rfl⟩ ⟨Nat.le_of_ble_eq_true rfl, Nat.le_of_ble_eq_true rfl⟩ hl.1 (Nat.le_of_ble_eq_true rfl) dX4_paymentState_2 hI (fun _ h => h) hS (fun H locs hP hS _ => ?_)
  refine zi_eq (tgt := 17) hx hb (by decide) dX4_paymentState_5 (by decide) (fun c_5 => (show False by omega).elim) (fun c_5 => ?_)
  refine lv_aload_n hx hb dX4_paymentState_8 rfl (lv_at hl 0 rfl) ?_
  refine gM_0_16 hx hb hts hiX4 hown hK hP hf41 dX4_paymentState_9 ?_
  refine lv_iload_n hx hb dX4_paymentState_12 rfl (lv_at hl 1 rfl) ?_
  refine lM_11 hx hb hK hP (by omega) dX4_paymentState_13 ?_
  refine lv_goto (tgt := 18) hx hb dX4_paymentState_14 (by decide) ?_
  exact W.iret (v := ys k) hx hb hr (fun t ht hW => ⟨⟨ys k, (), rfl, rfl, by (try dsimp only); rw [ht]; exact hP⟩, hS.F ht⟩) hS.2.2 dX4_paymentState_18
section
variable {p : Program} {e : Env} {R : Room} {s : State} {m : MethodId} {args : Array Value} {below : List Frame} {meth : Method} {c : Code} {H : Heap} {locs : List Loc} {cells slots : Nat} {Q : State → Prop} {cc : ByteArray} {pc : Nat} {ls : Array Slot} {rest : List Value} {own : String} {index nL : Nat} {Ts : List Cond} {H0 : Heap} {A0 : Nat → Prop}
theorem k_X4_paymentState_ok (l : Launch) {dC : Nat → ClassId} {dI : Nat → Nat → Nat} {cI cZ : ClassId} {am : Nat → Nat} {sm fe ex : Int32} {gp gc : Nat → Int32} {dy : Int32} {n : Nat} {pe gr st dl wo : Nat → Int32} {q : Nat} {yc ya yd ys tp fu sh ro : Nat → Int32} {th : Int32} {k : Nat} (hq : q ≤ 100) (hk : k < q) (hx : p.tables.exec = Jvm.exec) (hb : c.code = cc) (hml : c.maxLocals = nL) (hown : s.vm.findClass own = some m.cls) (hts : ∀ w ∈ Ts, w.before args s = true) (hK : va_K (dC, dI) vwCl [(cI, .int), (cZ, .boolean)] s) (hP : va_P (dC, dI) vwCl (wM cI cZ am sm fe ex gp gc dy n pe gr st dl wo q yc ya yd ys tp fu sh ro th) H) (hg9 : GoodIn Ts (wsV own index RX4 yX4_paymentState wsX4_paymentState)) (hR9 : 3 + 1 ≤ R.frames ∧ 8 + (2 + 11) + 64 ≤ R.locals) (hc9 : cells ≤ R.cells ∧ slots ≤ R.slots) (hl9 : ls.size = nL) (hw9 : (rest.map fun v => v.category).sum ≤ 8) (hdg : decode cc pc = .ok (.invokevirtual index, 3)) (hI : iwM am) (hA : ∀ x, awM am x → A0 x) (hS : va_S A0 H0 H locs) (kk : ∀ (H1 : Heap) (locs1 : List Loc), va_P (dC, dI) vwCl (wM cI cZ am sm fe ex gp gc dy n pe gr st dl wo q yc ya yd ys tp fu sh ro (nI 0)) H1 → va_S A0 H0 H1 locs1 → (∀ q : Nat, q < H.size → ¬ awM am q → H1[q]? = H[q]?) → W p l e R s m args below meth c H1 locs1 cells slots Q (F0 m (pc + 3) ls (.int (ys k) :: rest))) : W p l e R s m args below meth c H locs cells slots Q (F0 m pc ls (.int (nI k) :: .ref (am 0) :: rest)) := va_calli (va_runV (As := [.int (nI k)]) (rest := rest) ⟨hx, hb, hml, hown, hts⟩ (c_X4_paymentState_ok (dC := dC) (dI := dI) (cI := cI) (cZ := cZ) (am := am) (sm := sm) (fe := fe) (ex := ex) (gp := gp) (gc := gc) (dy := dy) (n := n) (pe := pe) (gr := gr) (st := st) (dl := dl) (wo := wo) (q := q) (yc := yc) (ya := ya) (yd := yd) (ys := ys) (tp := tp) (fu := fu) (sh := sh) (ro := ro) (th := th) (k := k) l hI hq hk) (cwV 1 hts hg9 rfl rfl rfl (by decide +kernel) hR9) ⟨fun a U g mk q => ⟨q.1, q.2.1, va_K.moved (u := U) (U := U.calling g mk a) (Vm.Alike.refl U.vm) q.2.2⟩, rM_0 hK hP, fun U hU hW => ⟨rfl, by rw [hU]; exact hP, va_K.moved hW.alike hK⟩⟩ rfl rfl hl9 rfl (lv_room hw9) hdg hc9) hS (fun q _ h => hA q h) hA (fun r u t H1 locs1 ht _ hu hB hz hk hS1 => by subst hu; exact kk H1 locs1 (by rw [ht] at hB; exact hB) hS1 hk)
end
set_option maxHeartbeats 4000000 in
set_option maxRecDepth 100000 in
theorem c_X4_paymentState_no (l : Launch) {dC : Nat → ClassId} {dI : Nat → Nat → Nat} {cI cZ : ClassId} {am : Nat → Nat} {sm fe ex : Int32} {gp gc : Nat → Int32} {dy : Int32} {n : Nat} {pe gr st dl wo : Nat → Int32} {q : Nat} {yc ya yd ys tp fu sh ro : Nat → Int32} {th : Int32} {x : Int32} (hI : iwM am) (hq : q ≤ 100) (hk : ¬ vp_in x q) : Met l yX4_paymentState wsX4_paymentState { frames := 3, cells := 0, slots := 0, locals := 64 } (va_Pc [.ref (am 0), .int x] (fun U => va_P (dC, dI) vwCl (wM cI cZ am sm fe ex gp gc dy n pe gr st dl wo q yc ya yd ys tp fu sh ro th) U.heap ∧ va_K (dC, dI) vwCl [(cI, .int), (cZ, .boolean)] U)) (va_Qi (fun r (_ : Unit) => r = nI 0) (fun _ t => va_P (dC, dI) vwCl (wM cI cZ am sm fe ex gp gc dy n pe gr st dl wo q yc ya yd ys tp fu sh ro (nI 1)) t.heap) (awM am)) 0 0 (awM am) := by
  refine Met.ofW (cc := cX4_paymentState) (maxL := 2) (ret := (some .int)) (by decide) rfl ?_
  intro p e s m args below meth c s₁ B hml hv
  obtain ⟨rfl, hP, hK⟩ := hv
  have hx := B.exec
  have hb := B.bytes
  have hr := B.returns
  have hts := atoms_spec (ws := wsX4_paymentState) B.pre
  have hown : s.vm.findClass RX4 = some m.cls := findClass_of_methodNamed B.named
  have hlocks := B.notSynchronized
  have hS : va_S (awM am) s.heap s.heap [] := va_S.rf
  have hl := lv_entry ([.ref (am 0), .int x]) (n := 2) (Nat.le_of_ble_eq_true rfl)
  rw [lg_entry_eq]
  generalize (lg_sl ([.ref (am 0), .int x]) ++ List.replicate (2 - (lg_sl ([.ref (am 0), .int x])).length) Slot.unset).toArray = ls at hl ⊢
  have hl : lv_has ls 2 [(0, .ref (am 0)), (1, .int x)] := hl
  refine lv_aload_n hx hb dX4_paymentState_0 rfl (lv_at hl 0 rfl) ?_
  refine lv_iload_n hx hb dX4_paymentState_1 rfl (lv_at hl 1 rfl) ?_
  refine k_X4_asksPayment_no l (x := x) (hq := hq) (hk := hk) hx hb hml hown hts hK hP gX4_paymentState_X4_asksPayment ⟨Nat.le_of_ble_eq_true rfl, Nat.le_of_ble_eq_true rfl⟩ ⟨Nat.le_of_ble_eq_true rfl, Nat.le_of_ble_eq_true rfl⟩ hl.1 (Nat.le_of_ble_eq_true rfl) dX4_paymentState_2 hI (fun _ h => h) hS (fun H locs hP hS _ => ?_)
  refine zi_eq (tgt := 17) hx hb (by decide) dX4_paymentState_5 (by decide) (fun c_5 => ?_) (fun c_5 => (show False by omega).elim)
  refine lv_iconst (v := nI 0) hx hb dX4_paymentState_17 (by decide) ?_
  exact W.iret (v := nI 0) hx hb hr (fun t ht hW => ⟨⟨nI 0, (), rfl, rfl, by (try dsimp only); rw [ht]; exact hP⟩, hS.F ht⟩) hS.2.2 dX4_paymentState_18
section
variable {p : Program} {e : Env} {R : Room} {s : State} {m : MethodId} {args : Array Value} {below : List Frame} {meth : Method} {c : Code} {H : Heap} {locs : List Loc} {cells slots : Nat} {Q : State → Prop} {cc : ByteArray} {pc : Nat} {ls : Array Slot} {rest : List Value} {own : String} {index nL : Nat} {Ts : List Cond} {H0 : Heap} {A0 : Nat → Prop}
theorem k_X4_paymentState_no (l : Launch) {dC : Nat → ClassId} {dI : Nat → Nat → Nat} {cI cZ : ClassId} {am : Nat → Nat} {sm fe ex : Int32} {gp gc : Nat → Int32} {dy : Int32} {n : Nat} {pe gr st dl wo : Nat → Int32} {q : Nat} {yc ya yd ys tp fu sh ro : Nat → Int32} {th : Int32} {x : Int32} (hq : q ≤ 100) (hk : ¬ vp_in x q) (hx : p.tables.exec = Jvm.exec) (hb : c.code = cc) (hml : c.maxLocals = nL) (hown : s.vm.findClass own = some m.cls) (hts : ∀ w ∈ Ts, w.before args s = true) (hK : va_K (dC, dI) vwCl [(cI, .int), (cZ, .boolean)] s) (hP : va_P (dC, dI) vwCl (wM cI cZ am sm fe ex gp gc dy n pe gr st dl wo q yc ya yd ys tp fu sh ro th) H) (hg9 : GoodIn Ts (wsV own index RX4 yX4_paymentState wsX4_paymentState)) (hR9 : 3 + 1 ≤ R.frames ∧ 8 + (2 + 11) + 64 ≤ R.locals) (hc9 : cells ≤ R.cells ∧ slots ≤ R.slots) (hl9 : ls.size = nL) (hw9 : (rest.map fun v => v.category).sum ≤ 8) (hdg : decode cc pc = .ok (.invokevirtual index, 3)) (hI : iwM am) (hA : ∀ x, awM am x → A0 x) (hS : va_S A0 H0 H locs) (kk : ∀ (H1 : Heap) (locs1 : List Loc), va_P (dC, dI) vwCl (wM cI cZ am sm fe ex gp gc dy n pe gr st dl wo q yc ya yd ys tp fu sh ro (nI 1)) H1 → va_S A0 H0 H1 locs1 → (∀ q : Nat, q < H.size → ¬ awM am q → H1[q]? = H[q]?) → W p l e R s m args below meth c H1 locs1 cells slots Q (F0 m (pc + 3) ls (.int (nI 0) :: rest))) : W p l e R s m args below meth c H locs cells slots Q (F0 m pc ls (.int x :: .ref (am 0) :: rest)) := va_calli (va_runV (As := [.int x]) (rest := rest) ⟨hx, hb, hml, hown, hts⟩ (c_X4_paymentState_no (dC := dC) (dI := dI) (cI := cI) (cZ := cZ) (am := am) (sm := sm) (fe := fe) (ex := ex) (gp := gp) (gc := gc) (dy := dy) (n := n) (pe := pe) (gr := gr) (st := st) (dl := dl) (wo := wo) (q := q) (yc := yc) (ya := ya) (yd := yd) (ys := ys) (tp := tp) (fu := fu) (sh := sh) (ro := ro) (th := th) (x := x) l hI hq hk) (cwV 1 hts hg9 rfl rfl rfl (by decide +kernel) hR9) ⟨fun a U g mk q => ⟨q.1, q.2.1, va_K.moved (u := U) (U := U.calling g mk a) (Vm.Alike.refl U.vm) q.2.2⟩, rM_0 hK hP, fun U hU hW => ⟨rfl, by rw [hU]; exact hP, va_K.moved hW.alike hK⟩⟩ rfl rfl hl9 rfl (lv_room hw9) hdg hc9) hS (fun q _ h => hA q h) hA (fun r u t H1 locs1 ht _ hu hB hz hk hS1 => by subst hu; exact kk H1 locs1 (by rw [ht] at hB; exact hB) hS1 hk)
end
set_option maxHeartbeats 4000000 in
set_option maxRecDepth 100000 in
theorem c_X4_pass_no (l : Launch) {dC : Nat → ClassId} {dI : Nat → Nat → Nat} {cI cZ : ClassId} {am : Nat → Nat} {sm fe ex : Int32} {gp gc : Nat → Int32} {dy : Int32} {n : Nat} {pe gr st dl wo : Nat → Int32} {q : Nat} {yc ya yd ys tp fu sh ro : Nat → Int32} {th : Int32} {x : Int32} (hI : iwM am) (h1 : ¬ outN x (nI 1) (nI 200) = 0) : Met l yX4_pass wsX4_pass { frames := 1, cells := 0, slots := 0, locals := 22 } (va_Pc [.ref (am 0), .int x] (fun U => va_P (dC, dI) vwCl (wM cI cZ am sm fe ex gp gc dy n pe gr st dl wo q yc ya yd ys tp fu sh ro th) U.heap ∧ va_K (dC, dI) vwCl [(cI, .int), (cZ, .boolean)] U)) (va_Qi (fun r (_ : Unit) => r = nI 0) (fun _ t => va_P (dC, dI) vwCl (wM cI cZ am sm fe ex gp gc dy n pe gr st dl wo q yc ya yd ys tp fu sh ro (nI 1)) t.heap) (awM am)) 0 0 (awM am) := by
  refine Met.ofW (cc := cX4_pass) (maxL := 5) (ret := (some .int)) (by decide) rfl ?_
  intro p e s m args below meth c s₁ B hml hv
  obtain ⟨rfl, hP, hK⟩ := hv
  have hx := B.exec
  have hb := B.bytes
  have hr := B.returns
  have hts := atoms_spec (ws := wsX4_pass) B.pre
  have hown : s.vm.findClass RX4 = some m.cls := findClass_of_methodNamed B.named
  have hlocks := B.notSynchronized
  have hS : va_S (awM am) s.heap s.heap [] := va_S.rf
  have hl := lv_entry ([.ref (am 0), .int x]) (n := 5) (Nat.le_of_ble_eq_true rfl)
  rw [lg_entry_eq]
  generalize (lg_sl ([.ref (am 0), .int x]) ++ List.replicate (5 - (lg_sl ([.ref (am 0), .int x])).length) Slot.unset).toArray = ls at hl ⊢
  have hl : lv_has ls 5 [(0, .ref (am 0)), (1, .int x)] := hl
  refine lv_aload_n hx hb dX4_pass_0 rfl (lv_at hl 0 rfl) ?_
  refine lv_iload_n hx hb dX4_pass_1 rfl (lv_at hl 1 rfl) ?_
  refine lv_iconst (v := nI 1) hx hb dX4_pass_2 (by decide) ?_
  refine lv_sipush (v := nI 200) hx hb dX4_pass_3 (by decide) ?_
  refine k_X4_isIn l (x := x) (a := nI 1) (b := nI 200) hx hb hml hown hts  gX4_pass_X4_isIn ⟨Nat.le_of_ble_eq_true rfl, Nat.le_of_ble_eq_true rfl⟩ ⟨Nat.le_of_ble_eq_true rfl, Nat.le_of_ble_eq_true rfl⟩ hl.1 (Nat.le_of_ble_eq_true rfl) dX4_pass_6 ?_
  refine zi_eq (tgt := 16) hx hb (by omega) dX4_pass_9 (by decide) (fun c_9 => ?_) (fun c_9 => (show False by omega).elim)
  refine lv_iconst (v := nI 1) hx hb dX4_pass_16 (by decide) ?_
  refine k_X4_goes_k l (k := 1) (hk := by decide) (h2 := by decide) hx hb hml hown hts hK hP gX4_pass_X4_goes ⟨Nat.le_of_ble_eq_true rfl, Nat.le_of_ble_eq_true rfl⟩ ⟨Nat.le_of_ble_eq_true rfl, Nat.le_of_ble_eq_true rfl⟩ hl.1 (Nat.le_of_ble_eq_true rfl) dX4_pass_17 hI (fun _ h => h) hS (fun H locs hP hS _ => ?_)
  refine zi_ne (tgt := 25) hx hb (by decide) dX4_pass_20 (by decide) (fun c_20 => (show False by omega).elim) (fun c_20 => ?_)
  refine lv_iconst (v := nI 0) hx hb dX4_pass_23 (by decide) ?_
  exact W.iret (v := nI 0) hx hb hr (fun t ht hW => ⟨⟨nI 0, (), rfl, rfl, by (try dsimp only); rw [ht]; exact hP⟩, hS.F ht⟩) hS.2.2 dX4_pass_24
section
variable {p : Program} {e : Env} {R : Room} {s : State} {m : MethodId} {args : Array Value} {below : List Frame} {meth : Method} {c : Code} {H : Heap} {locs : List Loc} {cells slots : Nat} {Q : State → Prop} {cc : ByteArray} {pc : Nat} {ls : Array Slot} {rest : List Value} {own : String} {index nL : Nat} {Ts : List Cond} {H0 : Heap} {A0 : Nat → Prop}
theorem k_X4_pass_no (l : Launch) {dC : Nat → ClassId} {dI : Nat → Nat → Nat} {cI cZ : ClassId} {am : Nat → Nat} {sm fe ex : Int32} {gp gc : Nat → Int32} {dy : Int32} {n : Nat} {pe gr st dl wo : Nat → Int32} {q : Nat} {yc ya yd ys tp fu sh ro : Nat → Int32} {th : Int32} {x : Int32} (h1 : ¬ outN x (nI 1) (nI 200) = 0) (hx : p.tables.exec = Jvm.exec) (hb : c.code = cc) (hml : c.maxLocals = nL) (hown : s.vm.findClass own = some m.cls) (hts : ∀ w ∈ Ts, w.before args s = true) (hK : va_K (dC, dI) vwCl [(cI, .int), (cZ, .boolean)] s) (hP : va_P (dC, dI) vwCl (wM cI cZ am sm fe ex gp gc dy n pe gr st dl wo q yc ya yd ys tp fu sh ro th) H) (hg9 : GoodIn Ts (wsV own index RX4 yX4_pass wsX4_pass)) (hR9 : 1 + 1 ≤ R.frames ∧ 8 + (5 + 11) + 22 ≤ R.locals) (hc9 : cells ≤ R.cells ∧ slots ≤ R.slots) (hl9 : ls.size = nL) (hw9 : (rest.map fun v => v.category).sum ≤ 8) (hdg : decode cc pc = .ok (.invokevirtual index, 3)) (hI : iwM am) (hA : ∀ x, awM am x → A0 x) (hS : va_S A0 H0 H locs) (kk : ∀ (H1 : Heap) (locs1 : List Loc), va_P (dC, dI) vwCl (wM cI cZ am sm fe ex gp gc dy n pe gr st dl wo q yc ya yd ys tp fu sh ro (nI 1)) H1 → va_S A0 H0 H1 locs1 → (∀ q : Nat, q < H.size → ¬ awM am q → H1[q]? = H[q]?) → W p l e R s m args below meth c H1 locs1 cells slots Q (F0 m (pc + 3) ls (.int (nI 0) :: rest))) : W p l e R s m args below meth c H locs cells slots Q (F0 m pc ls (.int x :: .ref (am 0) :: rest)) := va_calli (va_runV (As := [.int x]) (rest := rest) ⟨hx, hb, hml, hown, hts⟩ (c_X4_pass_no (dC := dC) (dI := dI) (cI := cI) (cZ := cZ) (am := am) (sm := sm) (fe := fe) (ex := ex) (gp := gp) (gc := gc) (dy := dy) (n := n) (pe := pe) (gr := gr) (st := st) (dl := dl) (wo := wo) (q := q) (yc := yc) (ya := ya) (yd := yd) (ys := ys) (tp := tp) (fu := fu) (sh := sh) (ro := ro) (th := th) (x := x) l hI h1) (cwV 1 hts hg9 rfl rfl rfl (by decide +kernel) hR9) ⟨fun a U g mk q => ⟨q.1, q.2.1, va_K.moved (u := U) (U := U.calling g mk a) (Vm.Alike.refl U.vm) q.2.2⟩, rM_0 hK hP, fun U hU hW => ⟨rfl, by rw [hU]; exact hP, va_K.moved hW.alike hK⟩⟩ rfl rfl hl9 rfl (lv_room hw9) hdg hc9) hS (fun q _ h => hA q h) hA (fun r u t H1 locs1 ht _ hu hB hz hk hS1 => by subst hu; exact kk H1 locs1 (by rw [ht] at hB; exact hB) hS1 hk)
end
set_option maxHeartbeats 4000000 in
set_option maxRecDepth 100000 in
theorem c_X4_pass_ok (l : Launch) {dC : Nat → ClassId} {dI : Nat → Nat → Nat} {cI cZ : ClassId} {am : Nat → Nat} {sm fe ex : Int32} {gp gc : Nat → Int32} {dy : Int32} {n : Nat} {pe gr st dl wo : Nat → Int32} {q : Nat} {yc ya yd ys tp fu sh ro : Nat → Int32} {th : Int32} {x : Nat} {D : Nat} (hI : iwM am) (hn : n ≤ 24) (hq : q ≤ 100) (h1 : outN (nI x) (nI 1) (nI 200) = 0) (hx1 : 0 < x) (hx2 : x ≤ 200) (hD : D < 2 ^ 30) (hdy : dy = nI D) (hyd : ∀ k, k < q → ∃ y, y ≤ D ∧ yd k = nI y) : Met l yX4_pass wsX4_pass { frames := 1, cells := 0, slots := 0, locals := 22 } (va_Pc [.ref (am 0), .int (nI x)] (fun U => va_P (dC, dI) vwCl (wM cI cZ am sm fe ex gp gc dy n pe gr st dl wo q yc ya yd ys tp fu sh ro th) U.heap ∧ va_K (dC, dI) vwCl [(cI, .int), (cZ, .boolean)] U)) (va_Qi (fun r (_ : Unit) => r = nI (D + x)) (fun _ t => va_P (dC, dI) vwCl (wM cI cZ am sm fe ex gp gc (nI (D + x)) n pe gr (denyF st dl (nI (D + x)) n) dl wo q yc ya yd (voidF ys yd (nI (D + x)) q) tp fu sh ro (nI 0)) t.heap) (awM am)) 0 0 (awM am) := by
  refine Met.ofW (cc := cX4_pass) (maxL := 5) (ret := (some .int)) (by decide) rfl ?_
  intro p e s m args below meth c s₁ B hml hv
  obtain ⟨rfl, hP, hK⟩ := hv
  have hx := B.exec
  have hb := B.bytes
  have hr := B.returns
  have hts := atoms_spec (ws := wsX4_pass) B.pre
  have hown : s.vm.findClass RX4 = some m.cls := findClass_of_methodNamed B.named
  have hlocks := B.notSynchronized
  have hS : va_S (awM am) s.heap s.heap [] := va_S.rf
  have hl := lv_entry ([.ref (am 0), .int (nI x)]) (n := 5) (Nat.le_of_ble_eq_true rfl)
  rw [lg_entry_eq]
  generalize (lg_sl ([.ref (am 0), .int (nI x)]) ++ List.replicate (5 - (lg_sl ([.ref (am 0), .int (nI x)])).length) Slot.unset).toArray = ls at hl ⊢
  have hl : lv_has ls 5 [(0, .ref (am 0)), (1, .int (nI x))] := hl
  have hiX4 : ∀ w ∈ wsX40, w ∈ wsX4_pass := by decide +kernel
  have hf94 := hts (.fieldLink RX4 94 "SettlementFundModel" "today" "I") (by decide +kernel)
  have hf61 := hts (.fieldLink RX4 61 "SettlementFundModel" "claims" "I") (by decide +kernel)
  have hf68 := hts (.fieldLink RX4 68 "SettlementFundModel" "payments" "I") (by decide +kernel)
  have hf41 := hts (.fieldLink RX4 41 "SettlementFundModel" "paymentStates" "[I") (by decide +kernel)
  have hf38 := hts (.fieldLink RX4 38 "SettlementFundModel" "madeOn" "[I") (by decide +kernel)
  have hf22 := hts (.fieldLink RX4 22 "SettlementFundModel" "states" "[I") (by decide +kernel)
  have hf25 := hts (.fieldLink RX4 25 "SettlementFundModel" "deadlines" "[I") (by decide +kernel)
  refine lv_aload_n hx hb dX4_pass_0 rfl (lv_at hl 0 rfl) ?_
  refine lv_iload_n hx hb dX4_pass_1 rfl (lv_at hl 1 rfl) ?_
  refine lv_iconst (v := nI 1) hx hb dX4_pass_2 (by decide) ?_
  refine lv_sipush (v := nI 200) hx hb dX4_pass_3 (by decide) ?_
  refine k_X4_isIn l (x := nI x) (a := nI 1) (b := nI 200) hx hb hml hown hts  gX4_pass_X4_isIn ⟨Nat.le_of_ble_eq_true rfl, Nat.le_of_ble_eq_true rfl⟩ ⟨Nat.le_of_ble_eq_true rfl, Nat.le_of_ble_eq_true rfl⟩ hl.1 (Nat.le_of_ble_eq_true rfl) dX4_pass_6 ?_
  refine zi_eq (tgt := 16) hx hb (by omega) dX4_pass_9 (by decide) (fun c_9 => (show False by omega).elim) (fun c_9 => ?_)
  refine lv_iconst (v := nI 0) hx hb dX4_pass_12 (by decide) ?_
  refine lv_goto (tgt := 17) hx hb dX4_pass_13 (by decide) ?_
  refine k_X4_goes_0 l  hx hb hml hown hts hK hP gX4_pass_X4_goes ⟨Nat.le_of_ble_eq_true rfl, Nat.le_of_ble_eq_true rfl⟩ ⟨Nat.le_of_ble_eq_true rfl, Nat.le_of_ble_eq_true rfl⟩ hl.1 (Nat.le_of_ble_eq_true rfl) dX4_pass_17 hI (fun _ h => h) hS (fun H locs hP hS _ => ?_)
  refine zi_ne (tgt := 25) hx hb (by decide) dX4_pass_20 (by decide) (fun c_20 => ?_) (fun c_20 => (show False by omega).elim)
  refine lv_iconst (v := nI 0) hx hb dX4_pass_25 (by decide) ?_
  refine lv_istore_n (lv' := [(2, .int (nI 0)), (0, .ref (am 0)), (1, .int (nI x))]) hx hb dX4_pass_26 rfl hl (by decide) rfl (fun ls hl => ?_)
  have e_1 : dy = nI (D + 0) := hdy
  rw [e_1] at hP
  have e_2 : st = passS st dl n D 0 := (passS_0 ..).symm
  rw [e_2] at hP
  have e_3 : ys = passV ys yd q D 0 := (passV_0 ..).symm
  rw [e_3] at hP
  refine zl_rw (fun a9 : Nat => wM cI cZ am sm fe ex gp gc (nI (D + a9)) n pe gr (passS st dl n D a9) dl wo q yc ya yd (passV ys yd q D a9) tp fu sh ro (nI 0)) (fun a9 : Nat => [(0, .ref (am 0)), (1, .int (nI x)), (2, .int (nI a9))]) (fun a9 : Nat => a9 ≤ x) (fun a9 : Nat => x - a9) 0 (Nat.zero_le _) hP hS (lv_sub hl [1, 2, 0] rfl) ?_
  intro a9 hi_27 ih_27 H locs hP hS ls hl
  obtain ⟨d, rfl⟩ : ∃ z, z = a9 := ⟨_, rfl⟩
  have hi_27 : d ≤ x := hi_27
  have hl : lv_has ls 5 [(0, .ref (am 0)), (1, .int (nI x)), (2, .int (nI d))] := hl
  have hP : va_P (dC, dI) vwCl (wM cI cZ am sm fe ex gp gc (nI (D + d)) n pe gr (passS st dl n D d) dl wo q yc ya yd (passV ys yd q D d) tp fu sh ro (nI 0)) H := hP
  refine lv_iload_n hx hb dX4_pass_27 rfl (lv_at hl 2 rfl) ?_
  refine lv_iload_n hx hb dX4_pass_28 rfl (lv_at hl 1 rfl) ?_
  refine zb_ge (tgt := 172) hx hb (by omega) (by omega) dX4_pass_29 (by decide) (fun c_29 => ?_) (fun c_29 => ?_)
  · have e_4 : passS st dl n D d = denyF st dl (nI (D + x)) n := by rw [show d = x by omega, passS_deny hx1]
    rw [e_4] at hP
    have e_5 : passV ys yd q D d = voidF ys yd (nI (D + x)) q := by rw [show d = x by omega, passV_void hx1]
    rw [e_5] at hP
    have e_6 : nI (D + d) = nI (D + x) := by rw [show d = x by omega]
    rw [e_6] at hP
    refine lv_aload_n hx hb dX4_pass_172 rfl (lv_at hl 0 rfl) ?_
    refine gM_0_5 hx hb hts hiX4 hown hK hP hf94 dX4_pass_173 ?_
    exact W.iret (v := nI (D + x)) hx hb hr (fun t ht hW => ⟨⟨nI (D + x), (), rfl, rfl, by (try dsimp only); rw [ht]; exact hP⟩, hS.F ht⟩) hS.2.2 dX4_pass_176
  · refine lv_aload_n hx hb dX4_pass_32 rfl (lv_at hl 0 rfl) ?_
    refine lv_dup hx hb dX4_pass_33 rfl ?_
    refine gM_0_5 hx hb hts hiX4 hown hK hP hf94 dX4_pass_34 ?_
    refine lv_iconst (v := nI 1) hx hb dX4_pass_37 (by decide) ?_
    refine lv_iadd hx hb dX4_pass_38 ?_
    refine zt_i (y := nI ((D + d) + 1)) (nI_add _ _) ?_
    refine uM_0_5 hx hb hts hiX4 hown hK hP hf94 hI (fun _ h => h) hS dX4_pass_39 (fun H locs hP hS => ?_)
    refine lv_iconst (v := nI 0) hx hb dX4_pass_42 (by decide) ?_
    refine lv_istore_n (lv' := [(3, .int (nI 0)), (0, .ref (am 0)), (1, .int (nI x)), (2, .int (nI d))]) hx hb dX4_pass_43 rfl hl (by decide) rfl (fun ls hl => ?_)
    have e_7 : passS st dl n D d = mixF (passS st dl n D (d + 1)) (passS st dl n D d) 0 := (mixF_0 ..).symm
    rw [e_7] at hP
    refine zl_rw (fun a9 : Nat => wM cI cZ am sm fe ex gp gc (nI ((D + d) + 1)) n pe gr (mixF (passS st dl n D (d + 1)) (passS st dl n D d) a9) dl wo q yc ya yd (passV ys yd q D d) tp fu sh ro (nI 0)) (fun a9 : Nat => [(0, .ref (am 0)), (1, .int (nI x)), (2, .int (nI d)), (3, .int (nI a9))]) (fun a9 : Nat => a9 ≤ n) (fun a9 : Nat => n - a9) 0 (Nat.zero_le _) hP hS (lv_sub hl [1, 2, 3, 0] rfl) ?_
    intro a9 hi_44 ih_44 H locs hP hS ls hl
    obtain ⟨i, rfl⟩ : ∃ z, z = a9 := ⟨_, rfl⟩
    have hi_44 : i ≤ n := hi_44
    have hl : lv_has ls 5 [(0, .ref (am 0)), (1, .int (nI x)), (2, .int (nI d)), (3, .int (nI i))] := hl
    have hP : va_P (dC, dI) vwCl (wM cI cZ am sm fe ex gp gc (nI ((D + d) + 1)) n pe gr (mixF (passS st dl n D (d + 1)) (passS st dl n D d) i) dl wo q yc ya yd (passV ys yd q D d) tp fu sh ro (nI 0)) H := hP
    refine lv_iload_n hx hb dX4_pass_44 rfl (lv_at hl 3 rfl) ?_
    refine lv_aload_n hx hb dX4_pass_45 rfl (lv_at hl 0 rfl) ?_
    refine gM_0_6 hx hb hts hiX4 hown hK hP hf61 dX4_pass_46 ?_
    refine zb_ge (tgt := 97) hx hb (by omega) (by omega) dX4_pass_49 (by decide) (fun c_49 => ?_) (fun c_49 => ?_)
    · have e_8 : mixF (passS st dl n D (d + 1)) (passS st dl n D d) i = passS st dl n D (d + 1) := by rw [show i = n by omega]; exact mixF_all (fun k hk => by rw [passS_out hk, passS_out hk])
      rw [e_8] at hP
      refine lv_iconst (v := nI 0) hx hb dX4_pass_97 (by decide) ?_
      refine lv_istore_n (lv' := [(3, .int (nI 0)), (0, .ref (am 0)), (1, .int (nI x)), (2, .int (nI d))]) hx hb dX4_pass_98 rfl hl (by decide) rfl (fun ls hl => ?_)
      have e_9 : passV ys yd q D d = mixF (passV ys yd q D (d + 1)) (passV ys yd q D d) 0 := (mixF_0 ..).symm
      rw [e_9] at hP
      refine zl_rw (fun a9 : Nat => wM cI cZ am sm fe ex gp gc (nI ((D + d) + 1)) n pe gr (passS st dl n D (d + 1)) dl wo q yc ya yd (mixF (passV ys yd q D (d + 1)) (passV ys yd q D d) a9) tp fu sh ro (nI 0)) (fun a9 : Nat => [(0, .ref (am 0)), (1, .int (nI x)), (2, .int (nI d)), (3, .int (nI a9))]) (fun a9 : Nat => a9 ≤ q) (fun a9 : Nat => q - a9) 0 (Nat.zero_le _) hP hS (lv_sub hl [1, 2, 3, 0] rfl) ?_
      intro a9 hi_99 ih_99 H locs hP hS ls hl
      obtain ⟨i, rfl⟩ : ∃ z, z = a9 := ⟨_, rfl⟩
      have hi_99 : i ≤ q := hi_99
      have hl : lv_has ls 5 [(0, .ref (am 0)), (1, .int (nI x)), (2, .int (nI d)), (3, .int (nI i))] := hl
      have hP : va_P (dC, dI) vwCl (wM cI cZ am sm fe ex gp gc (nI ((D + d) + 1)) n pe gr (passS st dl n D (d + 1)) dl wo q yc ya yd (mixF (passV ys yd q D (d + 1)) (passV ys yd q D d) i) tp fu sh ro (nI 0)) H := hP
      refine lv_iload_n hx hb dX4_pass_99 rfl (lv_at hl 3 rfl) ?_
      refine lv_aload_n hx hb dX4_pass_100 rfl (lv_at hl 0 rfl) ?_
      refine gM_0_12 hx hb hts hiX4 hown hK hP hf68 dX4_pass_101 ?_
      refine zb_ge (tgt := 166) hx hb (by omega) (by omega) dX4_pass_104 (by decide) (fun c_104 => ?_) (fun c_104 => ?_)
      · have e_10 : mixF (passV ys yd q D (d + 1)) (passV ys yd q D d) i = passV ys yd q D (d + 1) := by rw [show i = q by omega]; exact mixF_all (fun k hk => by rw [passV_out hk, passV_out hk])
        rw [e_10] at hP
        refine lv_iinc (v := nI (d + 1)) (lv' := [(2, .int (nI (d + 1))), (0, .ref (am 0)), (1, .int (nI x)), (3, .int (nI i))]) hx hb dX4_pass_166 hl (k := 2) rfl (zz_inc _) (by decide) rfl (fun ls hl => ?_)
        refine lv_goto (tgt := 27) hx hb dX4_pass_169 (by decide) ?_
        have e_11 : nI ((D + d) + 1) = nI (D + (d + 1)) := rfl
        rw [e_11] at hP
        exact ih_27 (d + 1) (by omega) (by omega) H locs hP hS ls (lv_sub hl [1, 2, 0] rfl)
      · refine lv_aload_n hx hb dX4_pass_107 rfl (lv_at hl 0 rfl) ?_
        refine gM_0_16 hx hb hts hiX4 hown hK hP hf41 dX4_pass_108 ?_
        refine lv_iload_n hx hb dX4_pass_111 rfl (lv_at hl 3 rfl) ?_
        refine lM_11 hx hb hK hP (by omega) dX4_pass_112 ?_
        refine zt_i (y := passV ys yd q D d i) (mixF_at _ _ _) ?_
        refine lv_if_ne (tgt := 136) hx hb dX4_pass_113 (by decide) (fun c_113 => ?_) (fun c_113 => ?_)
        · refine lv_iconst (v := nI 0) hx hb dX4_pass_136 (by decide) ?_
          refine lv_istore (lv' := [(4, .int (nI 0)), (0, .ref (am 0)), (1, .int (nI x)), (2, .int (nI d)), (3, .int (nI i))]) hx hb dX4_pass_137 hl (by decide) rfl (fun ls hl => ?_)
          refine lv_aload_n hx hb dX4_pass_139 rfl (lv_at hl 1 rfl) ?_
          refine gM_0_16 hx hb hts hiX4 hown hK hP hf41 dX4_pass_140 ?_
          refine lv_iload_n hx hb dX4_pass_143 rfl (lv_at hl 4 rfl) ?_
          refine lv_iload hx hb dX4_pass_144 (lv_at hl 0 rfl) ?_
          refine zi_eq (tgt := 153) hx hb (by decide) dX4_pass_146 (by decide) (fun c_146 => ?_) (fun c_146 => (show False by omega).elim)
          refine lv_aload_n hx hb dX4_pass_153 rfl (lv_at hl 1 rfl) ?_
          refine gM_0_16 hx hb hts hiX4 hown hK hP hf41 dX4_pass_154 ?_
          refine lv_iload_n hx hb dX4_pass_157 rfl (lv_at hl 4 rfl) ?_
          refine lM_11 hx hb hK hP (by omega) dX4_pass_158 ?_
          refine zt_i (y := passV ys yd q D d i) (mixF_at _ _ _) ?_
          refine sM_11 hx hb hK hP hI (fun _ h => h) hS (by omega) dX4_pass_159 (fun H locs hP hS => ?_)
          have e_12 : upd (mixF (passV ys yd q D (d + 1)) (passV ys yd q D d) i) i (passV ys yd q D d i) = mixF (passV ys yd q D (d + 1)) (passV ys yd q D d) (i + 1) := mixF_s (passV_n (by omega) (by omega) (hyd i (by omega)) (fun z => c_113 z.1))
          rw [e_12] at hP
          refine lv_iinc (v := nI (i + 1)) (lv' := [(3, .int (nI (i + 1))), (4, .int (nI 0)), (0, .ref (am 0)), (1, .int (nI x)), (2, .int (nI d))]) hx hb dX4_pass_160 hl (k := 4) rfl (zz_inc _) (by decide) rfl (fun ls hl => ?_)
          refine lv_goto (tgt := 99) hx hb dX4_pass_163 (by decide) ?_
          exact ih_99 (i + 1) (by omega) (by omega) H locs hP hS ls (lv_sub hl [2, 3, 4, 0] rfl)
        · refine lv_aload_n hx hb dX4_pass_116 rfl (lv_at hl 0 rfl) ?_
          refine gM_0_5 hx hb hts hiX4 hown hK hP hf94 dX4_pass_117 ?_
          refine lv_aload_n hx hb dX4_pass_120 rfl (lv_at hl 0 rfl) ?_
          refine gM_0_15 hx hb hts hiX4 hown hK hP hf38 dX4_pass_121 ?_
          refine lv_iload_n hx hb dX4_pass_124 rfl (lv_at hl 3 rfl) ?_
          refine lM_10 hx hb hK hP (by omega) dX4_pass_125 ?_
          refine lv_isub hx hb dX4_pass_126 ?_
          refine lv_bipush (v := nI 30) hx hb dX4_pass_127 (by decide) ?_
          refine lv_icmp_le (tgt := 136) hx hb dX4_pass_129 (by decide) (fun c_129 => ?_) (fun c_129 => ?_)
          · refine lv_iconst (v := nI 0) hx hb dX4_pass_136 (by decide) ?_
            refine lv_istore (lv' := [(4, .int (nI 0)), (0, .ref (am 0)), (1, .int (nI x)), (2, .int (nI d)), (3, .int (nI i))]) hx hb dX4_pass_137 hl (by decide) rfl (fun ls hl => ?_)
            refine lv_aload_n hx hb dX4_pass_139 rfl (lv_at hl 1 rfl) ?_
            refine gM_0_16 hx hb hts hiX4 hown hK hP hf41 dX4_pass_140 ?_
            refine lv_iload_n hx hb dX4_pass_143 rfl (lv_at hl 4 rfl) ?_
            refine lv_iload hx hb dX4_pass_144 (lv_at hl 0 rfl) ?_
            refine zi_eq (tgt := 153) hx hb (by decide) dX4_pass_146 (by decide) (fun c_146 => ?_) (fun c_146 => (show False by omega).elim)
            refine lv_aload_n hx hb dX4_pass_153 rfl (lv_at hl 1 rfl) ?_
            refine gM_0_16 hx hb hts hiX4 hown hK hP hf41 dX4_pass_154 ?_
            refine lv_iload_n hx hb dX4_pass_157 rfl (lv_at hl 4 rfl) ?_
            refine lM_11 hx hb hK hP (by omega) dX4_pass_158 ?_
            refine zt_i (y := passV ys yd q D d i) (mixF_at _ _ _) ?_
            refine sM_11 hx hb hK hP hI (fun _ h => h) hS (by omega) dX4_pass_159 (fun H locs hP hS => ?_)
            have e_13 : upd (mixF (passV ys yd q D (d + 1)) (passV ys yd q D d) i) i (passV ys yd q D d i) = mixF (passV ys yd q D (d + 1)) (passV ys yd q D d) (i + 1) := mixF_s (passV_n (by omega) (by omega) (hyd i (by omega)) (fun z => z.2 c_129))
            rw [e_13] at hP
            refine lv_iinc (v := nI (i + 1)) (lv' := [(3, .int (nI (i + 1))), (4, .int (nI 0)), (0, .ref (am 0)), (1, .int (nI x)), (2, .int (nI d))]) hx hb dX4_pass_160 hl (k := 4) rfl (zz_inc _) (by decide) rfl (fun ls hl => ?_)
            refine lv_goto (tgt := 99) hx hb dX4_pass_163 (by decide) ?_
            exact ih_99 (i + 1) (by omega) (by omega) H locs hP hS ls (lv_sub hl [2, 3, 4, 0] rfl)
          · refine lv_iconst (v := nI 1) hx hb dX4_pass_132 (by decide) ?_
            refine lv_goto (tgt := 137) hx hb dX4_pass_133 (by decide) ?_
            refine lv_istore (lv' := [(4, .int (nI 1)), (0, .ref (am 0)), (1, .int (nI x)), (2, .int (nI d)), (3, .int (nI i))]) hx hb dX4_pass_137 hl (by decide) rfl (fun ls hl => ?_)
            refine lv_aload_n hx hb dX4_pass_139 rfl (lv_at hl 1 rfl) ?_
            refine gM_0_16 hx hb hts hiX4 hown hK hP hf41 dX4_pass_140 ?_
            refine lv_iload_n hx hb dX4_pass_143 rfl (lv_at hl 4 rfl) ?_
            refine lv_iload hx hb dX4_pass_144 (lv_at hl 0 rfl) ?_
            refine zi_eq (tgt := 153) hx hb (by decide) dX4_pass_146 (by decide) (fun c_146 => (show False by omega).elim) (fun c_146 => ?_)
            refine lv_iconst (v := nI 2) hx hb dX4_pass_149 (by decide) ?_
            refine lv_goto (tgt := 159) hx hb dX4_pass_150 (by decide) ?_
            refine sM_11 hx hb hK hP hI (fun _ h => h) hS (by omega) dX4_pass_159 (fun H locs hP hS => ?_)
            have e_14 : upd (mixF (passV ys yd q D (d + 1)) (passV ys yd q D d) i) i (nI 2) = mixF (passV ys yd q D (d + 1)) (passV ys yd q D d) (i + 1) := mixF_s (passV_y (by omega) c_113 c_129)
            rw [e_14] at hP
            refine lv_iinc (v := nI (i + 1)) (lv' := [(3, .int (nI (i + 1))), (4, .int (nI 1)), (0, .ref (am 0)), (1, .int (nI x)), (2, .int (nI d))]) hx hb dX4_pass_160 hl (k := 4) rfl (zz_inc _) (by decide) rfl (fun ls hl => ?_)
            refine lv_goto (tgt := 99) hx hb dX4_pass_163 (by decide) ?_
            exact ih_99 (i + 1) (by omega) (by omega) H locs hP hS ls (lv_sub hl [2, 3, 4, 0] rfl)
    · refine lv_aload_n hx hb dX4_pass_52 rfl (lv_at hl 0 rfl) ?_
      refine gM_0_9 hx hb hts hiX4 hown hK hP hf22 dX4_pass_53 ?_
      refine lv_iload_n hx hb dX4_pass_56 rfl (lv_at hl 3 rfl) ?_
      refine lv_aload_n hx hb dX4_pass_57 rfl (lv_at hl 0 rfl) ?_
      refine gM_0_9 hx hb hts hiX4 hown hK hP hf22 dX4_pass_58 ?_
      refine lv_iload_n hx hb dX4_pass_61 rfl (lv_at hl 3 rfl) ?_
      refine lM_5 hx hb hK hP (by omega) dX4_pass_62 ?_
      refine zt_i (y := passS st dl n D d i) (mixF_at _ _ _) ?_
      refine lv_iconst (v := nI 1) hx hb dX4_pass_63 (by decide) ?_
      refine lv_icmp_ne (tgt := 84) hx hb dX4_pass_64 (by decide) (fun c_64 => ?_) (fun c_64 => ?_)
      · refine lv_aload_n hx hb dX4_pass_84 rfl (lv_at hl 0 rfl) ?_
        refine gM_0_9 hx hb hts hiX4 hown hK hP hf22 dX4_pass_85 ?_
        refine lv_iload_n hx hb dX4_pass_88 rfl (lv_at hl 3 rfl) ?_
        refine lM_5 hx hb hK hP (by omega) dX4_pass_89 ?_
        refine zt_i (y := passS st dl n D d i) (mixF_at _ _ _) ?_
        refine sM_5 hx hb hK hP hI (fun _ h => h) hS (by omega) dX4_pass_90 (fun H locs hP hS => ?_)
        have e_15 : upd (mixF (passS st dl n D (d + 1)) (passS st dl n D d) i) i (passS st dl n D d i) = mixF (passS st dl n D (d + 1)) (passS st dl n D d) (i + 1) := mixF_s (passS_n (by omega) (by omega) (fun z => c_64 z.1))
        rw [e_15] at hP
        refine lv_iinc (v := nI (i + 1)) (lv' := [(3, .int (nI (i + 1))), (0, .ref (am 0)), (1, .int (nI x)), (2, .int (nI d))]) hx hb dX4_pass_91 hl (k := 3) rfl (zz_inc _) (by decide) rfl (fun ls hl => ?_)
        refine lv_goto (tgt := 44) hx hb dX4_pass_94 (by decide) ?_
        exact ih_44 (i + 1) (by omega) (by omega) H locs hP hS ls (lv_sub hl [1, 2, 3, 0] rfl)
      · refine lv_aload_n hx hb dX4_pass_67 rfl (lv_at hl 0 rfl) ?_
        refine gM_0_10 hx hb hts hiX4 hown hK hP hf25 dX4_pass_68 ?_
        refine lv_iload_n hx hb dX4_pass_71 rfl (lv_at hl 3 rfl) ?_
        refine lM_6 hx hb hK hP (by omega) dX4_pass_72 ?_
        refine lv_aload_n hx hb dX4_pass_73 rfl (lv_at hl 0 rfl) ?_
        refine gM_0_5 hx hb hts hiX4 hown hK hP hf94 dX4_pass_74 ?_
        refine lv_icmp_ge (tgt := 84) hx hb dX4_pass_77 (by decide) (fun c_77 => ?_) (fun c_77 => ?_)
        · refine lv_aload_n hx hb dX4_pass_84 rfl (lv_at hl 0 rfl) ?_
          refine gM_0_9 hx hb hts hiX4 hown hK hP hf22 dX4_pass_85 ?_
          refine lv_iload_n hx hb dX4_pass_88 rfl (lv_at hl 3 rfl) ?_
          refine lM_5 hx hb hK hP (by omega) dX4_pass_89 ?_
          refine zt_i (y := passS st dl n D d i) (mixF_at _ _ _) ?_
          refine sM_5 hx hb hK hP hI (fun _ h => h) hS (by omega) dX4_pass_90 (fun H locs hP hS => ?_)
          have e_16 : upd (mixF (passS st dl n D (d + 1)) (passS st dl n D d) i) i (passS st dl n D d i) = mixF (passS st dl n D (d + 1)) (passS st dl n D d) (i + 1) := mixF_s (passS_n (by omega) (by omega) (fun z => Int32.not_lt.mpr c_77 z.2))
          rw [e_16] at hP
          refine lv_iinc (v := nI (i + 1)) (lv' := [(3, .int (nI (i + 1))), (0, .ref (am 0)), (1, .int (nI x)), (2, .int (nI d))]) hx hb dX4_pass_91 hl (k := 3) rfl (zz_inc _) (by decide) rfl (fun ls hl => ?_)
          refine lv_goto (tgt := 44) hx hb dX4_pass_94 (by decide) ?_
          exact ih_44 (i + 1) (by omega) (by omega) H locs hP hS ls (lv_sub hl [1, 2, 3, 0] rfl)
        · refine lv_iconst (v := nI 2) hx hb dX4_pass_80 (by decide) ?_
          refine lv_goto (tgt := 90) hx hb dX4_pass_81 (by decide) ?_
          refine sM_5 hx hb hK hP hI (fun _ h => h) hS (by omega) dX4_pass_90 (fun H locs hP hS => ?_)
          have e_17 : upd (mixF (passS st dl n D (d + 1)) (passS st dl n D d) i) i (nI 2) = mixF (passS st dl n D (d + 1)) (passS st dl n D d) (i + 1) := mixF_s (passS_y (by omega) (by omega) c_64 (Int32.not_le.mp c_77))
          rw [e_17] at hP
          refine lv_iinc (v := nI (i + 1)) (lv' := [(3, .int (nI (i + 1))), (0, .ref (am 0)), (1, .int (nI x)), (2, .int (nI d))]) hx hb dX4_pass_91 hl (k := 3) rfl (zz_inc _) (by decide) rfl (fun ls hl => ?_)
          refine lv_goto (tgt := 44) hx hb dX4_pass_94 (by decide) ?_
          exact ih_44 (i + 1) (by omega) (by omega) H locs hP hS ls (lv_sub hl [1, 2, 3, 0] rfl)
section
variable {p : Program} {e : Env} {R : Room} {s : State} {m : MethodId} {args : Array Value} {below : List Frame} {meth : Method} {c : Code} {H : Heap} {locs : List Loc} {cells slots : Nat} {Q : State → Prop} {cc : ByteArray} {pc : Nat} {ls : Array Slot} {rest : List Value} {own : String} {index nL : Nat} {Ts : List Cond} {H0 : Heap} {A0 : Nat → Prop}
theorem k_X4_pass_ok (l : Launch) {dC : Nat → ClassId} {dI : Nat → Nat → Nat} {cI cZ : ClassId} {am : Nat → Nat} {sm fe ex : Int32} {gp gc : Nat → Int32} {dy : Int32} {n : Nat} {pe gr st dl wo : Nat → Int32} {q : Nat} {yc ya yd ys tp fu sh ro : Nat → Int32} {th : Int32} {x : Nat} {D : Nat} (hn : n ≤ 24) (hq : q ≤ 100) (h1 : outN (nI x) (nI 1) (nI 200) = 0) (hx1 : 0 < x) (hx2 : x ≤ 200) (hD : D < 2 ^ 30) (hdy : dy = nI D) (hyd : ∀ k, k < q → ∃ y, y ≤ D ∧ yd k = nI y) (hx : p.tables.exec = Jvm.exec) (hb : c.code = cc) (hml : c.maxLocals = nL) (hown : s.vm.findClass own = some m.cls) (hts : ∀ w ∈ Ts, w.before args s = true) (hK : va_K (dC, dI) vwCl [(cI, .int), (cZ, .boolean)] s) (hP : va_P (dC, dI) vwCl (wM cI cZ am sm fe ex gp gc dy n pe gr st dl wo q yc ya yd ys tp fu sh ro th) H) (hg9 : GoodIn Ts (wsV own index RX4 yX4_pass wsX4_pass)) (hR9 : 1 + 1 ≤ R.frames ∧ 8 + (5 + 11) + 22 ≤ R.locals) (hc9 : cells ≤ R.cells ∧ slots ≤ R.slots) (hl9 : ls.size = nL) (hw9 : (rest.map fun v => v.category).sum ≤ 8) (hdg : decode cc pc = .ok (.invokevirtual index, 3)) (hI : iwM am) (hA : ∀ x, awM am x → A0 x) (hS : va_S A0 H0 H locs) (kk : ∀ (H1 : Heap) (locs1 : List Loc), va_P (dC, dI) vwCl (wM cI cZ am sm fe ex gp gc (nI (D + x)) n pe gr (denyF st dl (nI (D + x)) n) dl wo q yc ya yd (voidF ys yd (nI (D + x)) q) tp fu sh ro (nI 0)) H1 → va_S A0 H0 H1 locs1 → (∀ q : Nat, q < H.size → ¬ awM am q → H1[q]? = H[q]?) → W p l e R s m args below meth c H1 locs1 cells slots Q (F0 m (pc + 3) ls (.int (nI (D + x)) :: rest))) : W p l e R s m args below meth c H locs cells slots Q (F0 m pc ls (.int (nI x) :: .ref (am 0) :: rest)) := va_calli (va_runV (As := [.int (nI x)]) (rest := rest) ⟨hx, hb, hml, hown, hts⟩ (c_X4_pass_ok (dC := dC) (dI := dI) (cI := cI) (cZ := cZ) (am := am) (sm := sm) (fe := fe) (ex := ex) (gp := gp) (gc := gc) (dy := dy) (n := n) (pe := pe) (gr := gr) (st := st) (dl := dl) (wo := wo) (q := q) (yc := yc) (ya := ya) (yd := yd) (ys := ys) (tp := tp) (fu := fu) (sh := sh) (ro := ro) (th := th) (x := x) (D := D) l hI hn hq h1 hx1 hx2 hD hdy hyd) (cwV 1 hts hg9 rfl rfl rfl (by decide +kernel) hR9) ⟨fun a U g mk q => ⟨q.1, q.2.1, va_K.moved (u := U) (U := U.calling g mk a) (Vm.Alike.refl U.vm) q.2.2⟩, rM_0 hK hP, fun U hU hW => ⟨rfl, by rw [hU]; exact hP, va_K.moved hW.alike hK⟩⟩ rfl rfl hl9 rfl (lv_room hw9) hdg hc9) hS (fun q _ h => hA q h) hA (fun r u t H1 locs1 ht _ hu hB hz hk hS1 => by subst hu; exact kk H1 locs1 (by rw [ht] at hB; exact hB) hS1 hk)
end
