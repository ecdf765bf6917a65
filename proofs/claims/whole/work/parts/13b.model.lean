
set_option maxHeartbeats 4000000 in
set_option maxRecDepth 100000 in
theorem c_X4_shares (l : Launch) {dC : Nat → ClassId} {dI : Nat → Nat → Nat} {cI cZ : ClassId} {am : Nat → Nat} {sm fe ex : Int32} {gp gc : Nat → Int32} {dy : Int32} {n : Nat} {pe gr st dl wo : Nat → Int32} {q : Nat} {yc ya yd ys tp fu sh ro : Nat → Int32} {th : Int32} {pf : Nat → Nat} {rf : Nat → Nat} {tk : Nat → Bool} {xm : Int32} {M : Nat} (hI : iwM am) (hn : n ≤ 24) (hT : mT tk n tp) (hD : mdl pf rf n gp gr ro) (hM : ∀ k, k < n → tk k = true → xm = nI M) (hmm : M ≤ 10000000) (hr1 : ∀ k, k < n → tk k = true → 1 ≤ rf k) : Met l yX4_shares wsX4_shares { frames := 3, cells := 0, slots := 0, locals := 70 } (va_Pc [.ref (am 0), .int xm] (fun U => va_P (dC, dI) vwCl (wM cI cZ am sm fe ex gp gc dy n pe gr st dl wo q yc ya yd ys tp fu sh ro th) U.heap ∧ va_K (dC, dI) vwCl [(cI, .int), (cZ, .boolean)] U)) (va_Qv (fun u9 : (Nat → Int32) × (Nat → Int32) => ∀ k, k < n → tk k = true → u9.2 k = nI (shr pf rf (tL tk n) M k)) (fun u9 t => va_P (dC, dI) vwCl (wM cI cZ am sm fe ex gp gc dy n pe gr st dl wo q yc ya yd ys tp u9.1 u9.2 ro th) t.heap) (awM am)) 0 0 (awM am) := by
  refine Met.ofW (cc := cX4_shares) (maxL := 4) (ret := none) (by decide) rfl ?_
  intro p e s m args below meth c s₁ B hml hv
  obtain ⟨rfl, hP, hK⟩ := hv
  have hx := B.exec
  have hb := B.bytes
  have hr := B.returns
  have hts := atoms_spec (ws := wsX4_shares) B.pre
  have hown : s.vm.findClass RX4 = some m.cls := findClass_of_methodNamed B.named
  have hlocks := B.notSynchronized
  have hS : va_S (awM am) s.heap s.heap [] := va_S.rf
  have hl := lv_entry ([.ref (am 0), .int xm]) (n := 4) (Nat.le_of_ble_eq_true rfl)
  rw [lg_entry_eq]
  generalize (lg_sl ([.ref (am 0), .int xm]) ++ List.replicate (4 - (lg_sl ([.ref (am 0), .int xm])).length) Slot.unset).toArray = ls at hl ⊢
  have hl : lv_has ls 4 [(0, .ref (am 0)), (1, .int xm)] := hl
  have hB := tL_b hn hD tk
  have hiX4 : ∀ w ∈ wsX40, w ∈ wsX4_shares := by decide +kernel
  have hf61 := hts (.fieldLink RX4 61 "SettlementFundModel" "claims" "I") (by decide +kernel)
  have hf47 := hts (.fieldLink RX4 47 "SettlementFundModel" "isFull" "[Z") (by decide +kernel)
  have hf50 := hts (.fieldLink RX4 50 "SettlementFundModel" "shares" "[I") (by decide +kernel)
  refine lv_iload_n hx hb dX4_shares_0 rfl (lv_at hl 1 rfl) ?_
  refine lv_istore_n (lv' := [(2, .int xm), (0, .ref (am 0)), (1, .int xm)]) hx hb dX4_shares_1 rfl hl (by decide) rfl (fun ls hl => ?_)
  refine lv_iconst (v := nI 0) hx hb dX4_shares_2 (by decide) ?_
  refine lv_istore_n (lv' := [(3, .int (nI 0)), (2, .int xm), (0, .ref (am 0)), (1, .int xm)]) hx hb dX4_shares_3 rfl hl (by decide) rfl (fun ls hl => ?_)
  have e_1 : fu = mixF (fun _ => nI 0) fu 0 := (mixF_0 _ _).symm
  rw [e_1] at hP
  have e_2 : sh = mixF (fun _ => nI 0) sh 0 := (mixF_0 _ _).symm
  rw [e_2] at hP
  refine zl_rw (fun a9 : Nat => wM cI cZ am sm fe ex gp gc dy n pe gr st dl wo q yc ya yd ys tp (mixF (fun _ => nI 0) fu a9) (mixF (fun _ => nI 0) sh a9) ro th) (fun a9 : Nat => [(0, .ref (am 0)), (1, .int xm), (2, .int xm), (3, .int (nI a9))]) (fun a9 : Nat => a9 ≤ n) (fun a9 : Nat => n - a9) 0 (Nat.zero_le _) hP hS (lv_sub hl [2, 3, 1, 0] rfl) ?_
  intro a9 hi_4 ih_4 H locs hP hS ls hl
  obtain ⟨i, rfl⟩ : ∃ z, z = a9 := ⟨_, rfl⟩
  have hi_4 : i ≤ n := hi_4
  have hl : lv_has ls 4 [(0, .ref (am 0)), (1, .int xm), (2, .int xm), (3, .int (nI i))] := hl
  have hP : va_P (dC, dI) vwCl (wM cI cZ am sm fe ex gp gc dy n pe gr st dl wo q yc ya yd ys tp (mixF (fun _ => nI 0) fu i) (mixF (fun _ => nI 0) sh i) ro th) H := hP
  refine lv_iload_n hx hb dX4_shares_4 rfl (lv_at hl 3 rfl) ?_
  refine lv_aload_n hx hb dX4_shares_5 rfl (lv_at hl 0 rfl) ?_
  refine gM_0_6 hx hb hts hiX4 hown hK hP hf61 dX4_shares_6 ?_
  refine zb_ge (tgt := 32) hx hb (by omega) (by omega) dX4_shares_9 (by decide) (fun c_9 => ?_) (fun c_9 => ?_)
  · refine lv_aload_n hx hb dX4_shares_32 rfl (lv_at hl 0 rfl) ?_
    refine lv_iload_n hx hb dX4_shares_33 rfl (lv_at hl 2 rfl) ?_
    refine k_X4_givesRooms l (pf := pf) (rf := rf) (tk := tk) (hn := hn) (hT := hT) (hD := hD) (la := (fun _ => true)) (mm := M) (xm := xm) (hF := (mF_0 tk (by omega))) (hS9 := (mS_0 rf tk n _)) (hM := hM) (hmm := hmm) hx hb hml hown hts hK hP gX4_shares_X4_givesRooms ⟨Nat.le_of_ble_eq_true rfl, Nat.le_of_ble_eq_true rfl⟩ ⟨Nat.le_of_ble_eq_true rfl, Nat.le_of_ble_eq_true rfl⟩ hl.1 (Nat.le_of_ble_eq_true rfl) dX4_shares_34 hI (fun _ h => h) hS (fun u9 hu9 H locs hP hS _ => ?_)
    obtain ⟨fu1, sh1⟩ := u9
    have hP : va_P (dC, dI) vwCl (wM cI cZ am sm fe ex gp gc dy n pe gr st dl wo q yc ya yd ys tp fu1 sh1 ro th) H := hP
    have hu_34 : mF tk (off pf rf (tL tk n) (fun _ => true) M) n fu1 ∧ mS rf tk (off pf rf (tL tk n) (fun _ => true) M) n sh1 := hu9
    refine lv_istore_n (lv' := [(3, .int (nI (wsum rf (hit pf rf (tL tk n) (fun _ => true) M) (tL tk n)))), (0, .ref (am 0)), (1, .int xm), (2, .int xm)]) hx hb dX4_shares_37 rfl hl (by decide) rfl (fun ls hl => ?_)
    refine zl_rw (fun a9 : (Nat → Bool) × Nat × Int32 × Nat × (Nat → Int32) × (Nat → Int32) => wM cI cZ am sm fe ex gp gc dy n pe gr st dl wo q yc ya yd ys tp a9.2.2.2.2.1 a9.2.2.2.2.2 ro th) (fun a9 : (Nat → Bool) × Nat × Int32 × Nat × (Nat → Int32) × (Nat → Int32) => [(0, .ref (am 0)), (1, .int xm), (2, .int a9.2.2.1), (3, .int (nI (wsum rf (hit pf rf (tL tk n) a9.1 a9.2.1) (tL tk n))))]) (fun a9 : (Nat → Bool) × Nat × Int32 × Nat × (Nat → Int32) × (Nat → Int32) => shI pf rf tk n M a9.1 a9.2.1 a9.2.2.1 a9.2.2.2.1 a9.2.2.2.2.1 a9.2.2.2.2.2) (fun a9 : (Nat → Bool) × Nat × Int32 × Nat × (Nat → Int32) × (Nat → Int32) => wsum (fun _ => 1) a9.1 (tL tk n)) ((fun _ => true), M, xm, 25, fu1, sh1) (⟨hu_34.1, hu_34.2, Nat.le_refl _, hM, Nat.lt_of_le_of_lt (Nat.le_trans (wsum_len _ _) hB.1) (show 24 < 25 by decide), rfl⟩) hP hS (lv_sub hl [1, 2, 3, 0] rfl) ?_
    intro a9 hi_38 ih_38 H locs hP hS ls hl
    obtain ⟨la, mm, y, f, fu2, sh2⟩ := a9
    have hi_38 : shI pf rf tk n M la mm y f fu2 sh2 := hi_38
    have hl : lv_has ls 4 [(0, .ref (am 0)), (1, .int xm), (2, .int y), (3, .int (nI (wsum rf (hit pf rf (tL tk n) la mm) (tL tk n))))] := hl
    have hP : va_P (dC, dI) vwCl (wM cI cZ am sm fe ex gp gc dy n pe gr st dl wo q yc ya yd ys tp fu2 sh2 ro th) H := hP
    have hg1 := room_le (r := rf) (fun k hk => (hB.2 k hk).2.1) la mm
    have hg2 := hi_38.2.2.1
    refine lv_iload_n hx hb dX4_shares_38 rfl (lv_at hl 3 rfl) ?_
    refine zi_le (tgt := 55) hx hb (by omega) dX4_shares_39 (by decide) (fun c_39 => ?_) (fun c_39 => ?_)
    · have hend := sh_end hr1 hi_38 c_39
      refine lv_aload_n hx hb dX4_shares_55 rfl (lv_at hl 0 rfl) ?_
      refine lv_iload_n hx hb dX4_shares_56 rfl (lv_at hl 2 rfl) ?_
      refine k_X4_givesRest l (pf := pf) (rf := rf) (tk := tk) (hn := hn) (hT := hT) (hD := hD) (la := la) (mm := mm) (xm := y) (hF := hend.1) (hS9 := hend.2.1) (hM := hi_38.2.2.2.1) (hmm := (by omega)) hx hb hml hown hts hK hP gX4_shares_X4_givesRest ⟨Nat.le_of_ble_eq_true rfl, Nat.le_of_ble_eq_true rfl⟩ ⟨Nat.le_of_ble_eq_true rfl, Nat.le_of_ble_eq_true rfl⟩ hl.1 (Nat.le_of_ble_eq_true rfl) dX4_shares_57 hI (fun _ h => h) hS (fun u9 hu9 H locs hP hS _ => ?_)
      obtain ⟨sh4, rfl⟩ : ∃ z, z = u9 := ⟨_, rfl⟩
      have hP : va_P (dC, dI) vwCl (wM cI cZ am sm fe ex gp gc dy n pe gr st dl wo q yc ya yd ys tp fu2 sh4 ro th) H := hP
      have hu_57 : ∀ k, k < n → tk k = true → sh4 k = nI (shA pf rf (tL tk n) la mm k) := hu9
      exact W.vret hx hb hr (fun t ht hW => ⟨⟨(fu2, sh4), rfl, fun k hk h9 => by have h8 := hu_57 k hk h9; unfold shr; rw [hend.2.2]; exact h8, by (try dsimp only); rw [ht]; exact hP⟩, hS.F ht⟩) hS.2.2 dX4_shares_60
    · refine lv_iload_n hx hb dX4_shares_42 rfl (lv_at hl 2 rfl) ?_
      refine lv_iload_n hx hb dX4_shares_43 rfl (lv_at hl 3 rfl) ?_
      refine lv_isub hx hb dX4_shares_44 ?_
      refine lv_istore_n (lv' := [(2, .int (y - (nI (wsum rf (hit pf rf (tL tk n) la mm) (tL tk n))))), (0, .ref (am 0)), (1, .int xm), (3, .int (nI (wsum rf (hit pf rf (tL tk n) la mm) (tL tk n))))]) hx hb dX4_shares_45 rfl hl (by decide) rfl (fun ls hl => ?_)
      refine lv_aload_n hx hb dX4_shares_46 rfl (lv_at hl 1 rfl) ?_
      refine lv_iload_n hx hb dX4_shares_47 rfl (lv_at hl 0 rfl) ?_
      refine k_X4_givesRooms l (pf := pf) (rf := rf) (tk := tk) (hn := hn) (hT := hT) (hD := hD) (la := (off pf rf (tL tk n) la mm)) (mm := (mm - wsum rf (hit pf rf (tL tk n) la mm) (tL tk n))) (xm := (y - nI (wsum rf (hit pf rf (tL tk n) la mm) (tL tk n)))) (hF := hi_38.1) (hS9 := hi_38.2.1) (hM := (sh_sub hB hi_38)) (hmm := (by omega)) hx hb hml hown hts hK hP gX4_shares_X4_givesRooms ⟨Nat.le_of_ble_eq_true rfl, Nat.le_of_ble_eq_true rfl⟩ ⟨Nat.le_of_ble_eq_true rfl, Nat.le_of_ble_eq_true rfl⟩ hl.1 (Nat.le_of_ble_eq_true rfl) dX4_shares_48 hI (fun _ h => h) hS (fun u9 hu9 H locs hP hS _ => ?_)
      obtain ⟨fu3, sh3⟩ := u9
      have hP : va_P (dC, dI) vwCl (wM cI cZ am sm fe ex gp gc dy n pe gr st dl wo q yc ya yd ys tp fu3 sh3 ro th) H := hP
      have hu_48 : mF tk (off pf rf (tL tk n) (off pf rf (tL tk n) la mm) (mm - wsum rf (hit pf rf (tL tk n) la mm) (tL tk n))) n fu3 ∧ mS rf tk (off pf rf (tL tk n) (off pf rf (tL tk n) la mm) (mm - wsum rf (hit pf rf (tL tk n) la mm) (tL tk n))) n sh3 := hu9
      refine lv_istore_n (lv' := [(3, .int (nI (wsum rf (hit pf rf (tL tk n) (off pf rf (tL tk n) la mm) (mm - wsum rf (hit pf rf (tL tk n) la mm) (tL tk n))) (tL tk n)))), (2, .int (y - (nI (wsum rf (hit pf rf (tL tk n) la mm) (tL tk n))))), (0, .ref (am 0)), (1, .int xm)]) hx hb dX4_shares_51 rfl hl (by decide) rfl (fun ls hl => ?_)
      refine lv_goto (tgt := 38) hx hb dX4_shares_52 (by decide) ?_
      have e_3 : y - (nI (wsum rf (hit pf rf (tL tk n) la mm) (tL tk n))) = (y - nI (wsum rf (hit pf rf (tL tk n) la mm) (tL tk n))) := rfl
      rw [e_3] at hl
      exact ih_38 ((off pf rf (tL tk n) la mm), mm - wsum rf (hit pf rf (tL tk n) la mm) (tL tk n), y - nI (wsum rf (hit pf rf (tL tk n) la mm) (tL tk n)), f - 1, fu3, sh3) (sh_step hB hi_38 c_39 hu_48.1 hu_48.2) ((sh_cnt c_39).1) _ _ hP hS ls (lv_sub hl [2, 3, 1, 0] rfl)
  · refine lv_aload_n hx hb dX4_shares_12 rfl (lv_at hl 0 rfl) ?_
    refine gM_0_18 hx hb hts hiX4 hown hK hP hf47 dX4_shares_13 ?_
    refine lv_iload_n hx hb dX4_shares_16 rfl (lv_at hl 3 rfl) ?_
    refine lv_iconst (v := nI 0) hx hb dX4_shares_17 (by decide) ?_
    refine sM_13 hx hb hK hP hI (fun _ h => h) hS (by omega) (rfl) dX4_shares_18 (fun H locs hP hS => ?_)
    refine lv_aload_n hx hb dX4_shares_19 rfl (lv_at hl 0 rfl) ?_
    refine gM_0_19 hx hb hts hiX4 hown hK hP hf50 dX4_shares_20 ?_
    refine lv_iload_n hx hb dX4_shares_23 rfl (lv_at hl 3 rfl) ?_
    refine lv_iconst (v := nI 0) hx hb dX4_shares_24 (by decide) ?_
    refine sM_14 hx hb hK hP hI (fun _ h => h) hS (by omega) dX4_shares_25 (fun H locs hP hS => ?_)
    refine lv_iinc (v := nI (i + 1)) (lv' := [(3, .int (nI (i + 1))), (0, .ref (am 0)), (1, .int xm), (2, .int xm)]) hx hb dX4_shares_26 hl (k := 3) rfl (zz_inc _) (by decide) rfl (fun ls hl => ?_)
    refine lv_goto (tgt := 4) hx hb dX4_shares_29 (by decide) ?_
    have e_4 : upd (mixF (fun _ => nI 0) fu i) i (nI 0) = mixF (fun _ => nI 0) fu (i + 1) := mixF_s rfl
    rw [e_4] at hP
    have e_5 : upd (mixF (fun _ => nI 0) sh i) i (nI 0) = mixF (fun _ => nI 0) sh (i + 1) := mixF_s rfl
    rw [e_5] at hP
    exact ih_4 (i + 1) (by omega) (by omega) _ _ hP hS ls (lv_sub hl [1, 2, 3, 0] rfl)
section
variable {p : Program} {e : Env} {R : Room} {s : State} {m : MethodId} {args : Array Value} {below : List Frame} {meth : Method} {c : Code} {H : Heap} {locs : List Loc} {cells slots : Nat} {Q : State → Prop} {cc : ByteArray} {pc : Nat} {ls : Array Slot} {rest : List Value} {own : String} {index nL : Nat} {Ts : List Cond} {H0 : Heap} {A0 : Nat → Prop}
theorem k_X4_shares (l : Launch) {dC : Nat → ClassId} {dI : Nat → Nat → Nat} {cI cZ : ClassId} {am : Nat → Nat} {sm fe ex : Int32} {gp gc : Nat → Int32} {dy : Int32} {n : Nat} {pe gr st dl wo : Nat → Int32} {q : Nat} {yc ya yd ys tp fu sh ro : Nat → Int32} {th : Int32} {pf : Nat → Nat} {rf : Nat → Nat} {tk : Nat → Bool} {xm : Int32} {M : Nat} (hn : n ≤ 24) (hT : mT tk n tp) (hD : mdl pf rf n gp gr ro) (hM : ∀ k, k < n → tk k = true → xm = nI M) (hmm : M ≤ 10000000) (hr1 : ∀ k, k < n → tk k = true → 1 ≤ rf k) (hx : p.tables.exec = Jvm.exec) (hb : c.code = cc) (hml : c.maxLocals = nL) (hown : s.vm.findClass own = some m.cls) (hts : ∀ w ∈ Ts, w.before args s = true) (hK : va_K (dC, dI) vwCl [(cI, .int), (cZ, .boolean)] s) (hP : va_P (dC, dI) vwCl (wM cI cZ am sm fe ex gp gc dy n pe gr st dl wo q yc ya yd ys tp fu sh ro th) H) (hg9 : GoodIn Ts (wsV own index RX4 yX4_shares wsX4_shares)) (hR9 : 3 + 1 ≤ R.frames ∧ 8 + (4 + 11) + 70 ≤ R.locals) (hc9 : cells ≤ R.cells ∧ slots ≤ R.slots) (hl9 : ls.size = nL) (hw9 : (rest.map fun v => v.category).sum ≤ 8) (hdg : decode cc pc = .ok (.invokevirtual index, 3)) (hI : iwM am) (hA : ∀ x, awM am x → A0 x) (hS : va_S A0 H0 H locs) (kk : ∀ (u9 : (Nat → Int32) × (Nat → Int32)), (∀ k, k < n → tk k = true → u9.2 k = nI (shr pf rf (tL tk n) M k)) → ∀ (H1 : Heap) (locs1 : List Loc), va_P (dC, dI) vwCl (wM cI cZ am sm fe ex gp gc dy n pe gr st dl wo q yc ya yd ys tp u9.1 u9.2 ro th) H1 → va_S A0 H0 H1 locs1 → (∀ q : Nat, q < H.size → ¬ awM am q → H1[q]? = H[q]?) → W p l e R s m args below meth c H1 locs1 cells slots Q (F0 m (pc + 3) ls rest)) : W p l e R s m args below meth c H locs cells slots Q (F0 m pc ls (.int xm :: .ref (am 0) :: rest)) := va_callv (va_runV (As := [.int xm]) (rest := rest) ⟨hx, hb, hml, hown, hts⟩ (c_X4_shares (dC := dC) (dI := dI) (cI := cI) (cZ := cZ) (am := am) (sm := sm) (fe := fe) (ex := ex) (gp := gp) (gc := gc) (dy := dy) (n := n) (pe := pe) (gr := gr) (st := st) (dl := dl) (wo := wo) (q := q) (yc := yc) (ya := ya) (yd := yd) (ys := ys) (tp := tp) (fu := fu) (sh := sh) (ro := ro) (th := th) (pf := pf) (rf := rf) (tk := tk) (xm := xm) (M := M) l hI hn hT hD hM hmm hr1) (cwV 1 hts hg9 rfl rfl rfl (by decide +kernel) hR9) ⟨fun a U g mk q => ⟨q.1, q.2.1, va_K.moved (u := U) (U := U.calling g mk a) (Vm.Alike.refl U.vm) q.2.2⟩, rM_0 hK hP, fun U hU hW => ⟨rfl, by rw [hU]; exact hP, va_K.moved hW.alike hK⟩⟩ rfl rfl hl9 rfl (lv_room hw9) hdg hc9) hS (fun q _ h => hA q h) hA (fun u t H1 locs1 ht _ hu hB hz hk hS1 => kk u hu H1 locs1 (by rw [ht] at hB; exact hB) hS1 hk)
end
set_option maxHeartbeats 4000000 in
set_option maxRecDepth 100000 in
theorem c_X4_lowest (l : Launch) {dC : Nat → ClassId} {dI : Nat → Nat → Nat} {cI cZ : ClassId} {am : Nat → Nat} {sm fe ex : Int32} {gp gc : Nat → Int32} {dy : Int32} {n : Nat} {pe gr st dl wo : Nat → Int32} {q : Nat} {yc ya yd ys tp fu sh ro : Nat → Int32} {th : Int32} {sf : Nat → Nat} {tk : Nat → Bool} (hn : n ≤ 24) (hT : mT tk n tp) (hs : ∀ k, k < n → tk k = true → sh k = nI (sf k) ∧ sf k < 2 ^ 31) : Met l yX4_lowest wsX4_lowest { frames := 0, cells := 0, slots := 0, locals := 0 } (va_Pc [.ref (am 0)] (fun U => va_P (dC, dI) vwCl (wM cI cZ am sm fe ex gp gc dy n pe gr st dl wo q yc ya yd ys tp fu sh ro th) U.heap ∧ va_K (dC, dI) vwCl [(cI, .int), (cZ, .boolean)] U)) (vp_Si (fun r => lwI sf tk n r)) 0 0 (fun _ => False) := by
  refine Met.ofW (cc := cX4_lowest) (maxL := 3) (ret := (some .int)) (by decide) rfl ?_
  intro p e s m args below meth c s₁ B hml hv
  obtain ⟨rfl, hP, hK⟩ := hv
  have hx := B.exec
  have hb := B.bytes
  have hr := B.returns
  have hts := atoms_spec (ws := wsX4_lowest) B.pre
  have hown : s.vm.findClass RX4 = some m.cls := findClass_of_methodNamed B.named
  have hlocks := B.notSynchronized
  have hl := lv_entry ([.ref (am 0)]) (n := 3) (Nat.le_of_ble_eq_true rfl)
  rw [lg_entry_eq]
  generalize (lg_sl ([.ref (am 0)]) ++ List.replicate (3 - (lg_sl ([.ref (am 0)])).length) Slot.unset).toArray = ls at hl ⊢
  have hl : lv_has ls 3 [(0, .ref (am 0))] := hl
  have hiX4 : ∀ w ∈ wsX40, w ∈ wsX4_lowest := by decide +kernel
  have hf61 := hts (.fieldLink RX4 61 "SettlementFundModel" "claims" "I") (by decide +kernel)
  have hf44 := hts (.fieldLink RX4 44 "SettlementFundModel" "takesPart" "[Z") (by decide +kernel)
  have hf50 := hts (.fieldLink RX4 50 "SettlementFundModel" "shares" "[I") (by decide +kernel)
  refine lv_iconst (v := (-1)) hx hb dX4_lowest_0 (by decide) ?_
  refine lv_istore_n (lv' := [(1, .int (-1)), (0, .ref (am 0))]) hx hb dX4_lowest_1 rfl hl (by decide) rfl (fun ls hl => ?_)
  refine lv_iconst (v := nI 0) hx hb dX4_lowest_2 (by decide) ?_
  refine lv_istore_n (lv' := [(2, .int (nI 0)), (1, .int (-1)), (0, .ref (am 0))]) hx hb dX4_lowest_3 rfl hl (by decide) rfl (fun ls hl => ?_)
  refine zl_ro (fun a9 : Nat × Int32 => [(0, .ref (am 0)), (1, .int a9.2), (2, .int (nI a9.1))]) (fun a9 : Nat × Int32 => a9.1 ≤ n ∧ lwI sf tk a9.1 a9.2) (fun a9 : Nat × Int32 => n - a9.1) (0, (-1)) (⟨Nat.zero_le _, Or.inl ⟨rfl, rfl⟩⟩) (lv_sub hl [2, 1, 0] rfl) ?_
  intro a9 hi_4 ih_4 ls hl
  obtain ⟨i, w⟩ := a9
  have hi_4 : i ≤ n ∧ lwI sf tk i w := hi_4
  obtain ⟨hi1, hw⟩ := hi_4
  have hl : lv_has ls 3 [(0, .ref (am 0)), (1, .int w), (2, .int (nI i))] := hl
  refine lv_iload_n hx hb dX4_lowest_4 rfl (lv_at hl 2 rfl) ?_
  refine lv_aload_n hx hb dX4_lowest_5 rfl (lv_at hl 0 rfl) ?_
  refine gM_0_6 hx hb hts hiX4 hown hK hP hf61 dX4_lowest_6 ?_
  refine zb_ge (tgt := 53) hx hb (by omega) (by omega) dX4_lowest_9 (by decide) (fun c_9 => ?_) (fun c_9 => ?_)
  · refine lv_iload_n hx hb dX4_lowest_53 rfl (lv_at hl 1 rfl) ?_
    exact W.iret (v := w) hx hb hr (fun t ht hW => ⟨w, rfl, by rw [← show i = n by omega]; exact hw, ht⟩) (fun _ h => nomatch h) dX4_lowest_54
  · refine lv_aload_n hx hb dX4_lowest_12 rfl (lv_at hl 0 rfl) ?_
    refine gM_0_17 hx hb hts hiX4 hown hK hP hf44 dX4_lowest_13 ?_
    refine lv_iload_n hx hb dX4_lowest_16 rfl (lv_at hl 2 rfl) ?_
    refine lM_12 hx hb hK hP (by omega) dX4_lowest_17 ?_
    refine zt_i (y := nI (if tk i = true then 1 else 0)) (hT i (by omega)) ?_
    refine zi_eq (tgt := 45) hx hb (by split <;> decide) dX4_lowest_18 (by decide) (fun c_18 => ?_) (fun c_18 => ?_)
    · refine lv_iload_n hx hb dX4_lowest_45 rfl (lv_at hl 1 rfl) ?_
      refine lv_istore_n (lv' := [(1, .int w), (0, .ref (am 0)), (2, .int (nI i))]) hx hb dX4_lowest_46 rfl hl (by decide) rfl (fun ls hl => ?_)
      refine lv_iinc (v := nI (i + 1)) (lv' := [(2, .int (nI (i + 1))), (1, .int w), (0, .ref (am 0))]) hx hb dX4_lowest_47 hl (k := 2) rfl (zz_inc _) (by decide) rfl (fun ls hl => ?_)
      refine lv_goto (tgt := 4) hx hb dX4_lowest_50 (by decide) ?_
      exact ih_4 (i + 1, w) (⟨by omega, lw_n hw (zz_ifq c_18)⟩) (by omega) ls (lv_sub hl [2, 1, 0] rfl)
    · have hti : tk i = true := zz_ifp c_18
      refine lv_iload_n hx hb dX4_lowest_21 rfl (lv_at hl 1 rfl) ?_
      refine lv_iconst (v := (-1)) hx hb dX4_lowest_22 (by decide) ?_
      refine lv_icmp_eq (tgt := 41) hx hb dX4_lowest_23 (by decide) (fun c_23 => ?_) (fun c_23 => ?_)
      · refine lv_iload_n hx hb dX4_lowest_41 rfl (lv_at hl 2 rfl) ?_
        refine lv_goto (tgt := 46) hx hb dX4_lowest_42 (by decide) ?_
        refine lv_istore_n (lv' := [(1, .int (nI i)), (0, .ref (am 0)), (2, .int (nI i))]) hx hb dX4_lowest_46 rfl hl (by decide) rfl (fun ls hl => ?_)
        refine lv_iinc (v := nI (i + 1)) (lv' := [(2, .int (nI (i + 1))), (1, .int (nI i)), (0, .ref (am 0))]) hx hb dX4_lowest_47 hl (k := 2) rfl (zz_inc _) (by decide) rfl (fun ls hl => ?_)
        refine lv_goto (tgt := 4) hx hb dX4_lowest_50 (by decide) ?_
        exact ih_4 (i + 1, nI i) (⟨by omega, lw_first (by omega) hw c_23 hti⟩) (by omega) ls (lv_sub hl [2, 1, 0] rfl)
      · obtain ⟨m9, hm9, hmn⟩ := lw_some hw c_23
        obtain ⟨hm1, hm2⟩ := tL_mem.mp hmn.1
        refine lv_aload_n hx hb dX4_lowest_26 rfl (lv_at hl 0 rfl) ?_
        refine gM_0_19 hx hb hts hiX4 hown hK hP hf50 dX4_lowest_27 ?_
        refine lv_iload_n hx hb dX4_lowest_30 rfl (lv_at hl 2 rfl) ?_
        refine lM_14 hx hb hK hP (by omega) dX4_lowest_31 ?_
        refine zt_i (y := nI (sf i)) ((hs i (by omega) hti).1) ?_
        refine lv_aload_n hx hb dX4_lowest_32 rfl (lv_at hl 0 rfl) ?_
        refine gM_0_19 hx hb hts hiX4 hown hK hP hf50 dX4_lowest_33 ?_
        refine lv_iload_n hx hb dX4_lowest_36 rfl (lv_at hl 1 rfl) ?_
        refine zt_i (y := nI m9) (hm9) ?_
        refine lM_14 hx hb hK hP (by omega) dX4_lowest_37 ?_
        refine zt_i (y := nI (sf m9)) ((hs m9 (by omega) hm2).1) ?_
        refine zb_gt (tgt := 45) hx hb ((hs i (by omega) hti).2) ((hs m9 (by omega) hm2).2) dX4_lowest_38 (by decide) (fun c_38 => ?_) (fun c_38 => ?_)
        · refine lv_iload_n hx hb dX4_lowest_45 rfl (lv_at hl 1 rfl) ?_
          refine lv_istore_n (lv' := [(1, .int w), (0, .ref (am 0)), (2, .int (nI i))]) hx hb dX4_lowest_46 rfl hl (by decide) rfl (fun ls hl => ?_)
          refine lv_iinc (v := nI (i + 1)) (lv' := [(2, .int (nI (i + 1))), (1, .int w), (0, .ref (am 0))]) hx hb dX4_lowest_47 hl (k := 2) rfl (zz_inc _) (by decide) rfl (fun ls hl => ?_)
          refine lv_goto (tgt := 4) hx hb dX4_lowest_50 (by decide) ?_
          exact ih_4 (i + 1, w) (⟨by omega, lw_keep hm9 hmn c_38⟩) (by omega) ls (lv_sub hl [2, 1, 0] rfl)
        · refine lv_iload_n hx hb dX4_lowest_41 rfl (lv_at hl 2 rfl) ?_
          refine lv_goto (tgt := 46) hx hb dX4_lowest_42 (by decide) ?_
          refine lv_istore_n (lv' := [(1, .int (nI i)), (0, .ref (am 0)), (2, .int (nI i))]) hx hb dX4_lowest_46 rfl hl (by decide) rfl (fun ls hl => ?_)
          refine lv_iinc (v := nI (i + 1)) (lv' := [(2, .int (nI (i + 1))), (1, .int (nI i)), (0, .ref (am 0))]) hx hb dX4_lowest_47 hl (k := 2) rfl (zz_inc _) (by decide) rfl (fun ls hl => ?_)
          refine lv_goto (tgt := 4) hx hb dX4_lowest_50 (by decide) ?_
          exact ih_4 (i + 1, nI i) (⟨by omega, lw_new hmn c_38 hti⟩) (by omega) ls (lv_sub hl [2, 1, 0] rfl)
section
variable {p : Program} {e : Env} {R : Room} {s : State} {m : MethodId} {args : Array Value} {below : List Frame} {meth : Method} {c : Code} {H : Heap} {locs : List Loc} {cells slots : Nat} {Q : State → Prop} {cc : ByteArray} {pc : Nat} {ls : Array Slot} {rest : List Value} {own : String} {index nL : Nat} {Ts : List Cond} {H0 : Heap} {A0 : Nat → Prop}
theorem k_X4_lowest (l : Launch) {dC : Nat → ClassId} {dI : Nat → Nat → Nat} {cI cZ : ClassId} {am : Nat → Nat} {sm fe ex : Int32} {gp gc : Nat → Int32} {dy : Int32} {n : Nat} {pe gr st dl wo : Nat → Int32} {q : Nat} {yc ya yd ys tp fu sh ro : Nat → Int32} {th : Int32} {sf : Nat → Nat} {tk : Nat → Bool} (hn : n ≤ 24) (hT : mT tk n tp) (hs : ∀ k, k < n → tk k = true → sh k = nI (sf k) ∧ sf k < 2 ^ 31) (hx : p.tables.exec = Jvm.exec) (hb : c.code = cc) (hml : c.maxLocals = nL) (hown : s.vm.findClass own = some m.cls) (hts : ∀ w ∈ Ts, w.before args s = true) (hK : va_K (dC, dI) vwCl [(cI, .int), (cZ, .boolean)] s) (hP : va_P (dC, dI) vwCl (wM cI cZ am sm fe ex gp gc dy n pe gr st dl wo q yc ya yd ys tp fu sh ro th) H) (hg9 : GoodIn Ts (wsV own index RX4 yX4_lowest wsX4_lowest)) (hR9 : 0 + 1 ≤ R.frames ∧ 8 + (3 + 11) + 0 ≤ R.locals) (hc9 : cells ≤ R.cells ∧ slots ≤ R.slots) (hl9 : ls.size = nL) (hw9 : (rest.map fun v => v.category).sum ≤ 8) (hdg : decode cc pc = .ok (.invokevirtual index, 3)) (kk : ∀ r : Int32, (lwI sf tk n r) → W p l e R s m args below meth c H locs cells slots Q (F0 m (pc + 3) ls (.int r :: rest))) : W p l e R s m args below meth c H locs cells slots Q (F0 m pc ls (.ref (am 0) :: rest)) := zc_ro (W.runV (As := []) (rest := rest) ⟨hx, hb, hml, hown, hts⟩ (c_X4_lowest (dC := dC) (dI := dI) (cI := cI) (cZ := cZ) (am := am) (sm := sm) (fe := fe) (ex := ex) (gp := gp) (gc := gc) (dy := dy) (n := n) (pe := pe) (gr := gr) (st := st) (dl := dl) (wo := wo) (q := q) (yc := yc) (ya := ya) (yd := yd) (ys := ys) (tp := tp) (fu := fu) (sh := sh) (ro := ro) (th := th) (sf := sf) (tk := tk) l hn hT hs) (cwV 0 hts hg9 rfl rfl rfl (by decide +kernel) hR9) ⟨fun a U g mk q => ⟨q.1, q.2.1, va_K.moved (u := U) (U := U.calling g mk a) (Vm.Alike.refl U.vm) q.2.2⟩, rM_0 hK hP, fun U hU hW => ⟨rfl, by rw [hU]; exact hP, va_K.moved hW.alike hK⟩⟩ rfl rfl hl9 rfl (lv_room hw9) hdg hc9) kk
end
set_option maxHeartbeats 4000000 in
set_option maxRecDepth 100000 in
theorem c_X4_lays (l : Launch) {dC : Nat → ClassId} {dI : Nat → Nat → Nat} {cI cZ : ClassId} {am : Nat → Nat} {sm fe ex : Int32} {gp gc : Nat → Int32} {dy : Int32} {n : Nat} {pe gr st dl wo : Nat → Int32} {q : Nat} {yc ya yd ys tp fu sh ro : Nat → Int32} {th : Int32} {le : Nat} (hI : iwM am) (hn : n ≤ 24) (hq : q ≤ 100) (hV : claimV gp gc gr yc ya ys q n) (hL : leftV sm fe ex ya ys q) (hle : le ≤ 100000) : Met l yX4_lays wsX4_lays { frames := 4, cells := 0, slots := 0, locals := 93 } (va_Pc [.ref (am 0), .int (nI le)] (fun U => va_P (dC, dI) vwCl (wM cI cZ am sm fe ex gp gc dy n pe gr st dl wo q yc ya yd ys tp fu sh ro th) U.heap ∧ va_K (dC, dI) vwCl [(cI, .int), (cZ, .boolean)] U)) (va_Qv (fun u9 : (Nat → Int32) × (Nat → Int32) × (Nat → Int32) × (Nat → Int32) => ∀ k, k < n → u9.1 k = nI (if k ∈ finL sm fe ex gp gc gr st yc ya ys n q le then 1 else 0) ∧ (k ∈ finL sm fe ex gp gc gr st yc ya ys n q le → u9.2.2.1 k = nI (shK sm fe ex gp gc gr st yc ya ys n q le k))) (fun u9 t => va_P (dC, dI) vwCl (wM cI cZ am sm fe ex gp gc dy n pe gr st dl wo q yc ya yd ys u9.1 u9.2.1 u9.2.2.1 u9.2.2.2 th) t.heap) (awM am)) 0 0 (awM am) := by
  refine Met.ofW (cc := cX4_lays) (maxL := 4) (ret := none) (by decide) rfl ?_
  intro p e s m args below meth c s₁ B hml hv
  obtain ⟨rfl, hP, hK⟩ := hv
  have hx := B.exec
  have hb := B.bytes
  have hr := B.returns
  have hts := atoms_spec (ws := wsX4_lays) B.pre
  have hown : s.vm.findClass RX4 = some m.cls := findClass_of_methodNamed B.named
  have hlocks := B.notSynchronized
  have hS : va_S (awM am) s.heap s.heap [] := va_S.rf
  have hl := lv_entry ([.ref (am 0), .int (nI le)]) (n := 4) (Nat.le_of_ble_eq_true rfl)
  rw [lg_entry_eq]
  generalize (lg_sl ([.ref (am 0), .int (nI le)]) ++ List.replicate (4 - (lg_sl ([.ref (am 0), .int (nI le)])).length) Slot.unset).toArray = ls at hl ⊢
  have hl : lv_has ls 4 [(0, .ref (am 0)), (1, .int (nI le))] := hl
  have hiX4 : ∀ w ∈ wsX40, w ∈ wsX4_lays := by decide +kernel
  have hf61 := hts (.fieldLink RX4 61 "SettlementFundModel" "claims" "I") (by decide +kernel)
  have hf50 := hts (.fieldLink RX4 50 "SettlementFundModel" "shares" "[I") (by decide +kernel)
  have hf44 := hts (.fieldLink RX4 44 "SettlementFundModel" "takesPart" "[Z") (by decide +kernel)
  have hf53 := hts (.fieldLink RX4 53 "SettlementFundModel" "rooms" "[I") (by decide +kernel)
  have hf22 := hts (.fieldLink RX4 22 "SettlementFundModel" "states" "[I") (by decide +kernel)
  refine lv_aload_n hx hb dX4_lays_0 rfl (lv_at hl 0 rfl) ?_
  refine k_X4_left l (hq := hq) hx hb hml hown hts hK hP gX4_lays_X4_left ⟨Nat.le_of_ble_eq_true rfl, Nat.le_of_ble_eq_true rfl⟩ ⟨Nat.le_of_ble_eq_true rfl, Nat.le_of_ble_eq_true rfl⟩ hl.1 (Nat.le_of_ble_eq_true rfl) dX4_lays_1 ?_
  refine lv_istore_n (lv' := [(2, .int (leftF sm fe ex ya ys q)), (0, .ref (am 0)), (1, .int (nI le))]) hx hb dX4_lays_4 rfl hl (by decide) rfl (fun ls hl => ?_)
  refine lv_iconst (v := nI 0) hx hb dX4_lays_5 (by decide) ?_
  refine lv_istore_n (lv' := [(3, .int (nI 0)), (2, .int (leftF sm fe ex ya ys q)), (0, .ref (am 0)), (1, .int (nI le))]) hx hb dX4_lays_6 rfl hl (by decide) rfl (fun ls hl => ?_)
  have e_1 : tp = mixF (tpF sm fe ex gc gr st yc ya ys q) tp 0 := (mixF_0 _ _).symm
  rw [e_1] at hP
  have e_2 : ro = mixF (roomF gc gr yc ya ys q) ro 0 := (mixF_0 _ _).symm
  rw [e_2] at hP
  refine zl_rw (fun a9 : Nat => wM cI cZ am sm fe ex gp gc dy n pe gr st dl wo q yc ya yd ys (mixF (tpF sm fe ex gc gr st yc ya ys q) tp a9) fu sh (mixF (roomF gc gr yc ya ys q) ro a9) th) (fun a9 : Nat => [(0, .ref (am 0)), (1, .int (nI le)), (2, .int (leftF sm fe ex ya ys q)), (3, .int (nI a9))]) (fun a9 : Nat => a9 ≤ n) (fun a9 : Nat => n - a9) 0 (Nat.zero_le _) hP hS (lv_sub hl [2, 3, 1, 0] rfl) ?_
  intro a9 hi_7 ih_7 H locs hP hS ls hl
  obtain ⟨i, rfl⟩ : ∃ z, z = a9 := ⟨_, rfl⟩
  have hi_7 : i ≤ n := hi_7
  have hl : lv_has ls 4 [(0, .ref (am 0)), (1, .int (nI le)), (2, .int (leftF sm fe ex ya ys q)), (3, .int (nI i))] := hl
  have hP : va_P (dC, dI) vwCl (wM cI cZ am sm fe ex gp gc dy n pe gr st dl wo q yc ya yd ys (mixF (tpF sm fe ex gc gr st yc ya ys q) tp i) fu sh (mixF (roomF gc gr yc ya ys q) ro i) th) H := hP
  refine lv_iload_n hx hb dX4_lays_7 rfl (lv_at hl 3 rfl) ?_
  refine lv_aload_n hx hb dX4_lays_8 rfl (lv_at hl 0 rfl) ?_
  refine gM_0_6 hx hb hts hiX4 hown hK hP hf61 dX4_lays_9 ?_
  refine zb_ge (tgt := 73) hx hb (by omega) (by omega) dX4_lays_12 (by decide) (fun c_12 => ?_) (fun c_12 => ?_)
  · refine lv_aload_n hx hb dX4_lays_73 rfl (lv_at hl 0 rfl) ?_
    refine lv_iload_n hx hb dX4_lays_74 rfl (lv_at hl 2 rfl) ?_
    refine k_X4_shares l (pf := (pK gp gr)) (rf := (rK gc gr yc ya ys q)) (xm := (leftF sm fe ex ya ys q)) (M := (mK sm fe ex ya ys q)) (hn := hn) (hD := (lays_D hV (by omega))) (hmm := (mK_le hL)) (tk := (tk0 sm fe ex gc gr st yc ya ys q)) (hT := (lays_T (by omega))) (hM := (lays_M hL)) (hr1 := (fun k hk h9 => tk0_r hV hk h9)) hx hb hml hown hts hK hP gX4_lays_X4_shares ⟨Nat.le_of_ble_eq_true rfl, Nat.le_of_ble_eq_true rfl⟩ ⟨Nat.le_of_ble_eq_true rfl, Nat.le_of_ble_eq_true rfl⟩ hl.1 (Nat.le_of_ble_eq_true rfl) dX4_lays_75 hI (fun _ h => h) hS (fun u9 hu9 H locs hP hS _ => ?_)
    obtain ⟨fu1, sh1⟩ := u9
    have hP : va_P (dC, dI) vwCl (wM cI cZ am sm fe ex gp gc dy n pe gr st dl wo q yc ya yd ys (mixF (tpF sm fe ex gc gr st yc ya ys q) tp i) fu1 sh1 (mixF (roomF gc gr yc ya ys q) ro i) th) H := hP
    have hu_75 : ∀ k, k < n → (tk0 sm fe ex gc gr st yc ya ys q) k = true → sh1 k = nI (shr (pK gp gr) (rK gc gr yc ya ys q) (tL (tk0 sm fe ex gc gr st yc ya ys q) n) (mK sm fe ex ya ys q) k) := hu9
    have hBk := tL_b hn (lays_D (ro := ro) (i := i) hV (by omega)) (tk0 sm fe ex gc gr st yc ya ys q)
    refine lv_aload_n hx hb dX4_lays_78 rfl (lv_at hl 0 rfl) ?_
    refine k_X4_lowest l (sf := (shr (pK gp gr) (rK gc gr yc ya ys q) (tL (tk0 sm fe ex gc gr st yc ya ys q) n) (mK sm fe ex ya ys q))) (tk := (tk0 sm fe ex gc gr st yc ya ys q)) (hn := hn) (hT := (lays_T (by omega))) (hs := (fun k hk h9 => ⟨hu_75 k hk h9, shr_lt hBk (mK_le hL) (tL_mem.mpr ⟨hk, h9⟩)⟩)) hx hb hml hown hts hK hP gX4_lays_X4_lowest ⟨Nat.le_of_ble_eq_true rfl, Nat.le_of_ble_eq_true rfl⟩ ⟨Nat.le_of_ble_eq_true rfl, Nat.le_of_ble_eq_true rfl⟩ hl.1 (Nat.le_of_ble_eq_true rfl) dX4_lays_79 (fun r_79 hr_79 => ?_)
    refine lv_istore_n (lv' := [(3, .int r_79), (0, .ref (am 0)), (1, .int (nI le)), (2, .int (leftF sm fe ex ya ys q))]) hx hb dX4_lays_82 rfl hl (by decide) rfl (fun ls hl => ?_)
    refine zl_rw (fun a9 : (Nat → Bool) × Nat × Int32 × (Nat → Int32) × (Nat → Int32) × (Nat → Int32) => wM cI cZ am sm fe ex gp gc dy n pe gr st dl wo q yc ya yd ys a9.2.2.2.1 a9.2.2.2.2.1 a9.2.2.2.2.2 (mixF (roomF gc gr yc ya ys q) ro i) th) (fun a9 : (Nat → Bool) × Nat × Int32 × (Nat → Int32) × (Nat → Int32) × (Nat → Int32) => [(0, .ref (am 0)), (1, .int (nI le)), (2, .int (leftF sm fe ex ya ys q)), (3, .int a9.2.2.1)]) (fun a9 : (Nat → Bool) × Nat × Int32 × (Nat → Int32) × (Nat → Int32) × (Nat → Int32) => layI sm fe ex gp gc gr st yc ya ys n q le a9.1 a9.2.1 a9.2.2.1 a9.2.2.2.1 a9.2.2.2.2.2) (fun a9 : (Nat → Bool) × Nat × Int32 × (Nat → Int32) × (Nat → Int32) × (Nat → Int32) => (tL a9.1 n).length) ((tk0 sm fe ex gc gr st yc ya ys q), 25, r_79, mixF (tpF sm fe ex gc gr st yc ya ys q) tp i, fu1, sh1) (⟨lays_T (by omega), fun _ h9 => h9, hu_75, hr_79, Nat.lt_of_le_of_lt (Nat.le_trans (tL_len9 ..) hn) (show 24 < 25 by decide), tk0_L ..⟩) hP hS (lv_sub hl [1, 2, 3, 0] rfl) ?_
    intro a9 hi_83 ih_83 H locs hP hS ls hl
    obtain ⟨tk, f, w, tp2, fu2, sh2⟩ := a9
    have hi_83 : layI sm fe ex gp gc gr st yc ya ys n q le tk f w tp2 sh2 := hi_83
    have hl : lv_has ls 4 [(0, .ref (am 0)), (1, .int (nI le)), (2, .int (leftF sm fe ex ya ys q)), (3, .int w)] := hl
    have hP : va_P (dC, dI) vwCl (wM cI cZ am sm fe ex gp gc dy n pe gr st dl wo q yc ya yd ys tp2 fu2 sh2 (mixF (roomF gc gr yc ya ys q) ro i) th) H := hP
    refine lv_iload_n hx hb dX4_lays_83 rfl (lv_at hl 3 rfl) ?_
    refine lv_iconst (v := (-1)) hx hb dX4_lays_84 (by decide) ?_
    refine lv_icmp_eq (tgt := 118) hx hb dX4_lays_85 (by decide) (fun c_85 => ?_) (fun c_85 => ?_)
    · exact W.vret hx hb hr (fun t ht hW => ⟨⟨(tp2, fu2, sh2, mixF (roomF gc gr yc ya ys q) ro i), rfl, lay_end1 hi_83 (lay_fin1 hn hi_83 c_85), by (try dsimp only); rw [ht]; exact hP⟩, hS.F ht⟩) hS.2.2 dX4_lays_118
    · obtain ⟨m9, hm9, hmn⟩ := lw_some hi_83.2.2.2.1 c_85
      obtain ⟨hm1, hm2⟩ := tL_mem.mp hmn.1
      have hBk := tL_b hn (lays_D (ro := ro) (i := i) hV (by omega)) tk
      have hsl := shr_lt hBk (mK_le hL) hmn.1
      refine lv_aload_n hx hb dX4_lays_88 rfl (lv_at hl 0 rfl) ?_
      refine gM_0_19 hx hb hts hiX4 hown hK hP hf50 dX4_lays_89 ?_
      refine lv_iload_n hx hb dX4_lays_92 rfl (lv_at hl 3 rfl) ?_
      refine zt_i (y := nI m9) (hm9) ?_
      refine lM_14 hx hb hK hP (by omega) dX4_lays_93 ?_
      refine zt_i (y := nI (shr (pK gp gr) (rK gc gr yc ya ys q) (tL tk n) (mK sm fe ex ya ys q) m9)) (hi_83.2.2.1 m9 hm1 hm2) ?_
      refine lv_iload_n hx hb dX4_lays_94 rfl (lv_at hl 1 rfl) ?_
      refine zb_ge (tgt := 118) hx hb (hsl) (by omega) dX4_lays_95 (by decide) (fun c_95 => ?_) (fun c_95 => ?_)
      · exact W.vret hx hb hr (fun t ht hW => ⟨⟨(tp2, fu2, sh2, mixF (roomF gc gr yc ya ys q) ro i), rfl, lay_end1 hi_83 (lay_fin2 hi_83 hmn c_95), by (try dsimp only); rw [ht]; exact hP⟩, hS.F ht⟩) hS.2.2 dX4_lays_118
      · refine lv_aload_n hx hb dX4_lays_98 rfl (lv_at hl 0 rfl) ?_
        refine gM_0_17 hx hb hts hiX4 hown hK hP hf44 dX4_lays_99 ?_
        refine lv_iload_n hx hb dX4_lays_102 rfl (lv_at hl 3 rfl) ?_
        refine zt_i (y := nI m9) (hm9) ?_
        refine lv_iconst (v := nI 0) hx hb dX4_lays_103 (by decide) ?_
        refine sM_12 hx hb hK hP hI (fun _ h => h) hS (by omega) (rfl) dX4_lays_104 (fun H locs hP hS => ?_)
        refine lv_aload_n hx hb dX4_lays_105 rfl (lv_at hl 0 rfl) ?_
        refine lv_iload_n hx hb dX4_lays_106 rfl (lv_at hl 2 rfl) ?_
        refine k_X4_shares l (pf := (pK gp gr)) (rf := (rK gc gr yc ya ys q)) (xm := (leftF sm fe ex ya ys q)) (M := (mK sm fe ex ya ys q)) (hn := hn) (hD := (lays_D hV (by omega))) (hmm := (mK_le hL)) (tk := (rmv tk m9)) (hT := (rmv_T hi_83.1)) (hM := (fun k hk h9 => lays_M (n := n) hL k hk (hi_83.2.1 k (band2 h9).1))) (hr1 := (fun k hk h9 => tk0_r hV hk (hi_83.2.1 k (band2 h9).1))) hx hb hml hown hts hK hP gX4_lays_X4_shares ⟨Nat.le_of_ble_eq_true rfl, Nat.le_of_ble_eq_true rfl⟩ ⟨Nat.le_of_ble_eq_true rfl, Nat.le_of_ble_eq_true rfl⟩ hl.1 (Nat.le_of_ble_eq_true rfl) dX4_lays_107 hI (fun _ h => h) hS (fun u9 hu9 H locs hP hS _ => ?_)
        obtain ⟨fu3, sh3⟩ := u9
        have hP : va_P (dC, dI) vwCl (wM cI cZ am sm fe ex gp gc dy n pe gr st dl wo q yc ya yd ys (upd tp2 m9 (nI 0)) fu3 sh3 (mixF (roomF gc gr yc ya ys q) ro i) th) H := hP
        have hu_107 : ∀ k, k < n → (rmv tk m9) k = true → sh3 k = nI (shr (pK gp gr) (rK gc gr yc ya ys q) (tL (rmv tk m9) n) (mK sm fe ex ya ys q) k) := hu9
        have hBr := tL_b hn (lays_D (ro := ro) (i := i) hV (by omega)) (rmv tk m9)
        refine lv_aload_n hx hb dX4_lays_110 rfl (lv_at hl 0 rfl) ?_
        refine k_X4_lowest l (sf := (shr (pK gp gr) (rK gc gr yc ya ys q) (tL (rmv tk m9) n) (mK sm fe ex ya ys q))) (tk := (rmv tk m9)) (hn := hn) (hT := (rmv_T hi_83.1)) (hs := (fun k hk h9 => ⟨hu_107 k hk h9, shr_lt hBr (mK_le hL) (tL_mem.mpr ⟨hk, h9⟩)⟩)) hx hb hml hown hts hK hP gX4_lays_X4_lowest ⟨Nat.le_of_ble_eq_true rfl, Nat.le_of_ble_eq_true rfl⟩ ⟨Nat.le_of_ble_eq_true rfl, Nat.le_of_ble_eq_true rfl⟩ hl.1 (Nat.le_of_ble_eq_true rfl) dX4_lays_111 (fun r_111 hr_111 => ?_)
        refine lv_istore_n (lv' := [(3, .int r_111), (0, .ref (am 0)), (1, .int (nI le)), (2, .int (leftF sm fe ex ya ys q))]) hx hb dX4_lays_114 rfl hl (by decide) rfl (fun ls hl => ?_)
        refine lv_goto (tgt := 83) hx hb dX4_lays_115 (by decide) ?_
        exact ih_83 (rmv tk m9, f - 1, r_111, upd tp2 m9 (nI 0), fu3, sh3) (lay_step hi_83 hmn c_95 hu_107 hr_111) (rmv_len hmn) _ _ hP hS ls (lv_sub hl [1, 2, 3, 0] rfl)
  · refine lv_aload_n hx hb dX4_lays_15 rfl (lv_at hl 0 rfl) ?_
    refine gM_0_20 hx hb hts hiX4 hown hK hP hf53 dX4_lays_16 ?_
    refine lv_iload_n hx hb dX4_lays_19 rfl (lv_at hl 3 rfl) ?_
    refine lv_aload_n hx hb dX4_lays_20 rfl (lv_at hl 0 rfl) ?_
    refine lv_iload_n hx hb dX4_lays_21 rfl (lv_at hl 3 rfl) ?_
    refine k_X4_roomOf l (k := i) (hq := hq) (hk := (by omega)) (hG := (hV i (by omega)).1) hx hb hml hown hts hK hP gX4_lays_X4_roomOf ⟨Nat.le_of_ble_eq_true rfl, Nat.le_of_ble_eq_true rfl⟩ ⟨Nat.le_of_ble_eq_true rfl, Nat.le_of_ble_eq_true rfl⟩ hl.1 (Nat.le_of_ble_eq_true rfl) dX4_lays_22 ?_
    refine sM_15 hx hb hK hP hI (fun _ h => h) hS (by omega) dX4_lays_25 (fun H locs hP hS => ?_)
    refine lv_aload_n hx hb dX4_lays_26 rfl (lv_at hl 0 rfl) ?_
    refine gM_0_17 hx hb hts hiX4 hown hK hP hf44 dX4_lays_27 ?_
    refine lv_iload_n hx hb dX4_lays_30 rfl (lv_at hl 3 rfl) ?_
    refine lv_iload_n hx hb dX4_lays_31 rfl (lv_at hl 2 rfl) ?_
    refine lv_if_le (tgt := 65) hx hb dX4_lays_32 (by decide) (fun c_32 => ?_) (fun c_32 => ?_)
    · refine lv_iconst (v := nI 0) hx hb dX4_lays_65 (by decide) ?_
      refine sM_12 hx hb hK hP hI (fun _ h => h) hS (by omega) (rfl) dX4_lays_66 (fun H locs hP hS => ?_)
      refine lv_iinc (v := nI (i + 1)) (lv' := [(3, .int (nI (i + 1))), (0, .ref (am 0)), (1, .int (nI le)), (2, .int (leftF sm fe ex ya ys q))]) hx hb dX4_lays_67 hl (k := 3) rfl (zz_inc _) (by decide) rfl (fun ls hl => ?_)
      refine lv_goto (tgt := 7) hx hb dX4_lays_70 (by decide) ?_
      have e_3 : upd (mixF (tpF sm fe ex gc gr st yc ya ys q) tp i) i (nI 0) = mixF (tpF sm fe ex gc gr st yc ya ys q) tp (i + 1) := mixF_s (tp_0 (Or.inl c_32))
      rw [e_3] at hP
      have e_4 : upd (mixF (roomF gc gr yc ya ys q) ro i) i (roomF gc gr yc ya ys q i) = mixF (roomF gc gr yc ya ys q) ro (i + 1) := mixF_s rfl
      rw [e_4] at hP
      exact ih_7 (i + 1) (by omega) (by omega) _ _ hP hS ls (lv_sub hl [1, 2, 3, 0] rfl)
    · refine lv_aload_n hx hb dX4_lays_35 rfl (lv_at hl 0 rfl) ?_
      refine gM_0_9 hx hb hts hiX4 hown hK hP hf22 dX4_lays_36 ?_
      refine lv_iload_n hx hb dX4_lays_39 rfl (lv_at hl 3 rfl) ?_
      refine lM_5 hx hb hK hP (by omega) dX4_lays_40 ?_
      refine lv_if_ne (tgt := 65) hx hb dX4_lays_41 (by decide) (fun c_41 => ?_) (fun c_41 => ?_)
      · refine lv_iconst (v := nI 0) hx hb dX4_lays_65 (by decide) ?_
        refine sM_12 hx hb hK hP hI (fun _ h => h) hS (by omega) (rfl) dX4_lays_66 (fun H locs hP hS => ?_)
        refine lv_iinc (v := nI (i + 1)) (lv' := [(3, .int (nI (i + 1))), (0, .ref (am 0)), (1, .int (nI le)), (2, .int (leftF sm fe ex ya ys q))]) hx hb dX4_lays_67 hl (k := 3) rfl (zz_inc _) (by decide) rfl (fun ls hl => ?_)
        refine lv_goto (tgt := 7) hx hb dX4_lays_70 (by decide) ?_
        have e_5 : upd (mixF (tpF sm fe ex gc gr st yc ya ys q) tp i) i (nI 0) = mixF (tpF sm fe ex gc gr st yc ya ys q) tp (i + 1) := mixF_s (tp_0 (Or.inr (Or.inl c_41)))
        rw [e_5] at hP
        have e_6 : upd (mixF (roomF gc gr yc ya ys q) ro i) i (roomF gc gr yc ya ys q i) = mixF (roomF gc gr yc ya ys q) ro (i + 1) := mixF_s rfl
        rw [e_6] at hP
        exact ih_7 (i + 1) (by omega) (by omega) _ _ hP hS ls (lv_sub hl [1, 2, 3, 0] rfl)
      · refine lv_aload_n hx hb dX4_lays_44 rfl (lv_at hl 0 rfl) ?_
        refine gM_0_20 hx hb hts hiX4 hown hK hP hf53 dX4_lays_45 ?_
        refine lv_iload_n hx hb dX4_lays_48 rfl (lv_at hl 3 rfl) ?_
        refine lM_15 hx hb hK hP (by omega) dX4_lays_49 ?_
        refine zt_i (y := roomF gc gr yc ya ys q i) (upd_at _ _ _) ?_
        refine lv_if_le (tgt := 65) hx hb dX4_lays_50 (by decide) (fun c_50 => ?_) (fun c_50 => ?_)
        · refine lv_iconst (v := nI 0) hx hb dX4_lays_65 (by decide) ?_
          refine sM_12 hx hb hK hP hI (fun _ h => h) hS (by omega) (rfl) dX4_lays_66 (fun H locs hP hS => ?_)
          refine lv_iinc (v := nI (i + 1)) (lv' := [(3, .int (nI (i + 1))), (0, .ref (am 0)), (1, .int (nI le)), (2, .int (leftF sm fe ex ya ys q))]) hx hb dX4_lays_67 hl (k := 3) rfl (zz_inc _) (by decide) rfl (fun ls hl => ?_)
          refine lv_goto (tgt := 7) hx hb dX4_lays_70 (by decide) ?_
          have e_7 : upd (mixF (tpF sm fe ex gc gr st yc ya ys q) tp i) i (nI 0) = mixF (tpF sm fe ex gc gr st yc ya ys q) tp (i + 1) := mixF_s (tp_0 (Or.inr (Or.inr (Or.inl c_50))))
          rw [e_7] at hP
          have e_8 : upd (mixF (roomF gc gr yc ya ys q) ro i) i (roomF gc gr yc ya ys q i) = mixF (roomF gc gr yc ya ys q) ro (i + 1) := mixF_s rfl
          rw [e_8] at hP
          exact ih_7 (i + 1) (by omega) (by omega) _ _ hP hS ls (lv_sub hl [1, 2, 3, 0] rfl)
        · refine lv_aload_n hx hb dX4_lays_53 rfl (lv_at hl 0 rfl) ?_
          refine lv_iload_n hx hb dX4_lays_54 rfl (lv_at hl 3 rfl) ?_
          refine k_X4_hasVoid l (w := nI i) (hq := hq) hx hb hml hown hts hK hP gX4_lays_X4_hasVoid ⟨Nat.le_of_ble_eq_true rfl, Nat.le_of_ble_eq_true rfl⟩ ⟨Nat.le_of_ble_eq_true rfl, Nat.le_of_ble_eq_true rfl⟩ hl.1 (Nat.le_of_ble_eq_true rfl) dX4_lays_55 ?_
          refine zi_ne (tgt := 65) hx hb (by split <;> decide) dX4_lays_58 (by decide) (fun c_58 => ?_) (fun c_58 => ?_)
          · refine lv_iconst (v := nI 0) hx hb dX4_lays_65 (by decide) ?_
            refine sM_12 hx hb hK hP hI (fun _ h => h) hS (by omega) (rfl) dX4_lays_66 (fun H locs hP hS => ?_)
            refine lv_iinc (v := nI (i + 1)) (lv' := [(3, .int (nI (i + 1))), (0, .ref (am 0)), (1, .int (nI le)), (2, .int (leftF sm fe ex ya ys q))]) hx hb dX4_lays_67 hl (k := 3) rfl (zz_inc _) (by decide) rfl (fun ls hl => ?_)
            refine lv_goto (tgt := 7) hx hb dX4_lays_70 (by decide) ?_
            have e_9 : upd (mixF (tpF sm fe ex gc gr st yc ya ys q) tp i) i (nI 0) = mixF (tpF sm fe ex gc gr st yc ya ys q) tp (i + 1) := mixF_s (tp_0 (Or.inr (Or.inr (Or.inr (zz_ifp c_58)))))
            rw [e_9] at hP
            have e_10 : upd (mixF (roomF gc gr yc ya ys q) ro i) i (roomF gc gr yc ya ys q i) = mixF (roomF gc gr yc ya ys q) ro (i + 1) := mixF_s rfl
            rw [e_10] at hP
            exact ih_7 (i + 1) (by omega) (by omega) _ _ hP hS ls (lv_sub hl [1, 2, 3, 0] rfl)
          · refine lv_iconst (v := nI 1) hx hb dX4_lays_61 (by decide) ?_
            refine lv_goto (tgt := 66) hx hb dX4_lays_62 (by decide) ?_
            refine sM_12 hx hb hK hP hI (fun _ h => h) hS (by omega) (rfl) dX4_lays_66 (fun H locs hP hS => ?_)
            refine lv_iinc (v := nI (i + 1)) (lv' := [(3, .int (nI (i + 1))), (0, .ref (am 0)), (1, .int (nI le)), (2, .int (leftF sm fe ex ya ys q))]) hx hb dX4_lays_67 hl (k := 3) rfl (zz_inc _) (by decide) rfl (fun ls hl => ?_)
            refine lv_goto (tgt := 7) hx hb dX4_lays_70 (by decide) ?_
            have e_11 : upd (mixF (tpF sm fe ex gc gr st yc ya ys q) tp i) i (nI 1) = mixF (tpF sm fe ex gc gr st yc ya ys q) tp (i + 1) := mixF_s (tp_1 c_32 c_41 c_50 (zz_ifq c_58))
            rw [e_11] at hP
            have e_12 : upd (mixF (roomF gc gr yc ya ys q) ro i) i (roomF gc gr yc ya ys q i) = mixF (roomF gc gr yc ya ys q) ro (i + 1) := mixF_s rfl
            rw [e_12] at hP
            exact ih_7 (i + 1) (by omega) (by omega) _ _ hP hS ls (lv_sub hl [1, 2, 3, 0] rfl)
section
variable {p : Program} {e : Env} {R : Room} {s : State} {m : MethodId} {args : Array Value} {below : List Frame} {meth : Method} {c : Code} {H : Heap} {locs : List Loc} {cells slots : Nat} {Q : State → Prop} {cc : ByteArray} {pc : Nat} {ls : Array Slot} {rest : List Value} {own : String} {index nL : Nat} {Ts : List Cond} {H0 : Heap} {A0 : Nat → Prop}
theorem k_X4_lays (l : Launch) {dC : Nat → ClassId} {dI : Nat → Nat → Nat} {cI cZ : ClassId} {am : Nat → Nat} {sm fe ex : Int32} {gp gc : Nat → Int32} {dy : Int32} {n : Nat} {pe gr st dl wo : Nat → Int32} {q : Nat} {yc ya yd ys tp fu sh ro : Nat → Int32} {th : Int32} {le : Nat} (hn : n ≤ 24) (hq : q ≤ 100) (hV : claimV gp gc gr yc ya ys q n) (hL : leftV sm fe ex ya ys q) (hle : le ≤ 100000) (hx : p.tables.exec = Jvm.exec) (hb : c.code = cc) (hml : c.maxLocals = nL) (hown : s.vm.findClass own = some m.cls) (hts : ∀ w ∈ Ts, w.before args s = true) (hK : va_K (dC, dI) vwCl [(cI, .int), (cZ, .boolean)] s) (hP : va_P (dC, dI) vwCl (wM cI cZ am sm fe ex gp gc dy n pe gr st dl wo q yc ya yd ys tp fu sh ro th) H) (hg9 : GoodIn Ts (wsV own index RX4 yX4_lays wsX4_lays)) (hR9 : 4 + 1 ≤ R.frames ∧ 8 + (4 + 11) + 93 ≤ R.locals) (hc9 : cells ≤ R.cells ∧ slots ≤ R.slots) (hl9 : ls.size = nL) (hw9 : (rest.map fun v => v.category).sum ≤ 8) (hdg : decode cc pc = .ok (.invokevirtual index, 3)) (hI : iwM am) (hA : ∀ x, awM am x → A0 x) (hS : va_S A0 H0 H locs) (kk : ∀ (u9 : (Nat → Int32) × (Nat → Int32) × (Nat → Int32) × (Nat → Int32)), (∀ k, k < n → u9.1 k = nI (if k ∈ finL sm fe ex gp gc gr st yc ya ys n q le then 1 else 0) ∧ (k ∈ finL sm fe ex gp gc gr st yc ya ys n q le → u9.2.2.1 k = nI (shK sm fe ex gp gc gr st yc ya ys n q le k))) → ∀ (H1 : Heap) (locs1 : List Loc), va_P (dC, dI) vwCl (wM cI cZ am sm fe ex gp gc dy n pe gr st dl wo q yc ya yd ys u9.1 u9.2.1 u9.2.2.1 u9.2.2.2 th) H1 → va_S A0 H0 H1 locs1 → (∀ q : Nat, q < H.size → ¬ awM am q → H1[q]? = H[q]?) → W p l e R s m args below meth c H1 locs1 cells slots Q (F0 m (pc + 3) ls rest)) : W p l e R s m args below meth c H locs cells slots Q (F0 m pc ls (.int (nI le) :: .ref (am 0) :: rest)) := va_callv (va_runV (As := [.int (nI le)]) (rest := rest) ⟨hx, hb, hml, hown, hts⟩ (c_X4_lays (dC := dC) (dI := dI) (cI := cI) (cZ := cZ) (am := am) (sm := sm) (fe := fe) (ex := ex) (gp := gp) (gc := gc) (dy := dy) (n := n) (pe := pe) (gr := gr) (st := st) (dl := dl) (wo := wo) (q := q) (yc := yc) (ya := ya) (yd := yd) (ys := ys) (tp := tp) (fu := fu) (sh := sh) (ro := ro) (th := th) (le := le) l hI hn hq hV hL hle) (cwV 1 hts hg9 rfl rfl rfl (by decide +kernel) hR9) ⟨fun a U g mk q => ⟨q.1, q.2.1, va_K.moved (u := U) (U := U.calling g mk a) (Vm.Alike.refl U.vm) q.2.2⟩, rM_0 hK hP, fun U hU hW => ⟨rfl, by rw [hU]; exact hP, va_K.moved hW.alike hK⟩⟩ rfl rfl hl9 rfl (lv_room hw9) hdg hc9) hS (fun q _ h => hA q h) hA (fun u t H1 locs1 ht _ hu hB hz hk hS1 => kk u hu H1 locs1 (by rw [ht] at hB; exact hB) hS1 hk)
end
