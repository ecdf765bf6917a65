set_option maxHeartbeats 4000000 in
set_option maxRecDepth 100000 in
theorem c_X3_round_ise2 (l : Launch) (hfl : l.stackTraces = false) {dC : Nat → ClassId} {dI : Nat → Nat → Nat} {cI cZ : ClassId} {ad : Nat → Nat} {sm fe ex dy : Int32} {gp gc op gr st dl wo : Nat → Int32} {n : Nat} {yc ya ys yd : Nat → Int32} {q : Nat} {zc zp zr zs zf : Nat → Int32} {z : Nat} {zm zt : Int64} {le : Nat} (hI : iwC ad) (hn : n ≤ 24) (hq : q ≤ 100) (hV : claimV gp gc gr yc ya ys q n) (hL : leftV sm fe ex ya ys q) (hle : le ≤ 100000) (h1 : outN (nI le) (nI 0) (nI 100000) = 0) (h2 : tallyN st (nI 1) n = 0) (h3 : tallyN st (nI 3) n = 0) (h4 : openB ys q = false) (h5 : nI 1 ≤ leftF sm fe ex ya ys q) (h6 : ¬ q + gain (shK sm fe ex gp gc gr st yc ya ys n q le) n ≤ 100) : vx_Met l yX3_round wsX3_round { frames := 6, cells := 1, slots := 6, locals := 124 } (va_Pc [.ref (ad 0), .int (nI le)] (fun U => va_P (dC, dI) vwCl (wC cI cZ ad sm fe ex dy gp gc op gr st dl wo n yc ya ys yd q zc zp zr zs zf z zm zt) U.heap ∧ va_K (dC, dI) vwCl [(cI, .int), (cZ, .boolean)] U ∧ tX (awC ad) U U.heap)) (fun _ _ _ _ => False) (vx_X (fun _ : (Nat → Int32) × (Nat → Int32) × (Nat → Int32) × (Nat → Int32) × (Nat → Int32) × Nat × Int64 × Int64 => True) (fun E u9 t => E = "java/lang/IllegalStateException" ∧ va_P (dC, dI) vwCl (wC cI cZ ad sm fe ex dy gp gc op gr st dl wo n yc ya ys yd q u9.1 u9.2.1 u9.2.2.1 u9.2.2.2.1 u9.2.2.2.2.1 u9.2.2.2.2.2.1 u9.2.2.2.2.2.2.1 u9.2.2.2.2.2.2.2) t.heap) (awC ad)) 1 6 (awC ad) := by
  refine vx_ofW (cc := cX3_round) (maxL := 3) (ret := (some .int)) (by decide) rfl ?_
  intro p e s m args below meth c s₁ B hml ht hv
  obtain ⟨rfl, hP, hK, hT⟩ := hv
  have hx := B.exec
  have hb := B.bytes
  have hr := B.returns
  have hts := atoms_spec (ws := wsX3_round) B.pre
  have hown : s.vm.findClass RX3 = some m.cls := findClass_of_methodNamed B.named
  have hlocks := B.notSynchronized
  have hS : va_S (awC ad) s.heap s.heap [] := va_S.rf
  have hl := lv_entry ([.ref (ad 0), .int (nI le)]) (n := 3) (Nat.le_of_ble_eq_true rfl)
  rw [lg_entry_eq]
  generalize (lg_sl ([.ref (ad 0), .int (nI le)]) ++ List.replicate (3 - (lg_sl ([.ref (ad 0), .int (nI le)])).length) Slot.unset).toArray = ls at hl ⊢
  have hl : lv_has ls 3 [(0, .ref (ad 0)), (1, .int (nI le))] := hl
  have hiX3 : ∀ w ∈ wsX30, w ∈ wsX3_round := by decide +kernel
  have hf19 := hts (.fieldLink RX3 19 "SettlementFund" "claimBook" "LSettlementFund$ClaimBook;") (by decide +kernel)
  have hf26 := hts (.fieldLink RX3 26 "SettlementFund" "paymentBook" "LSettlementFund$PaymentBook;") (by decide +kernel)
  have hf33 := hts (.fieldLink RX3 33 "SettlementFund" "sharing" "LSettlementFund$Sharing;") (by decide +kernel)
  refine lv_aload_n hx hb dX3_round_0 rfl (lv_at hl 0 rfl) ?_
  refine lv_iload_n hx hb dX3_round_1 rfl (lv_at hl 1 rfl) ?_
  refine k_X3_mustBeLeast_ok l (x := nI le) (h1 := h1) hx hb hml hown hts hK hP gX3_round_X3_mustBeLeast ⟨Nat.le_of_ble_eq_true rfl, Nat.le_of_ble_eq_true rfl⟩ ⟨Nat.le_of_ble_eq_true rfl, Nat.le_of_ble_eq_true rfl⟩ hl.1 (Nat.le_of_ble_eq_true rfl) dX3_round_2 ?_
  refine lv_aload_n hx hb dX3_round_5 rfl (lv_at hl 0 rfl) ?_
  refine gC_0_6 hx hb hts hiX3 hown hK hP hf19 dX3_round_6 ?_
  refine lv_iconst (v := nI 1) hx hb dX3_round_9 (by decide) ?_
  refine k_X0_tally l (w := nI 1) (hn := hn) hx hb hml hown hts hK hP gX3_round_X0_tally ⟨Nat.le_of_ble_eq_true rfl, Nat.le_of_ble_eq_true rfl⟩ ⟨Nat.le_of_ble_eq_true rfl, Nat.le_of_ble_eq_true rfl⟩ hl.1 (Nat.le_of_ble_eq_true rfl) dX3_round_10 ?_
  refine zi_gt (tgt := 27) hx hb (Nat.lt_of_le_of_lt (tallyN_le _ _ _) (by omega)) dX3_round_13 (by decide) (fun c_13 => (show False by omega).elim) (fun c_13 => ?_)
  refine lv_aload_n hx hb dX3_round_16 rfl (lv_at hl 0 rfl) ?_
  refine gC_0_6 hx hb hts hiX3 hown hK hP hf19 dX3_round_17 ?_
  refine lv_iconst (v := nI 3) hx hb dX3_round_20 (by decide) ?_
  refine k_X0_tally l (w := nI 3) (hn := hn) hx hb hml hown hts hK hP gX3_round_X0_tally ⟨Nat.le_of_ble_eq_true rfl, Nat.le_of_ble_eq_true rfl⟩ ⟨Nat.le_of_ble_eq_true rfl, Nat.le_of_ble_eq_true rfl⟩ hl.1 (Nat.le_of_ble_eq_true rfl) dX3_round_21 ?_
  refine zi_le (tgt := 37) hx hb (Nat.lt_of_le_of_lt (tallyN_le _ _ _) (by omega)) dX3_round_24 (by decide) (fun c_24 => ?_) (fun c_24 => (show False by omega).elim)
  refine lv_aload_n hx hb dX3_round_37 rfl (lv_at hl 0 rfl) ?_
  refine gC_0_7 hx hb hts hiX3 hown hK hP hf26 dX3_round_38 ?_
  refine k_X1_hasOpen l (hq := hq) hx hb hml hown hts hK hP gX3_round_X1_hasOpen ⟨Nat.le_of_ble_eq_true rfl, Nat.le_of_ble_eq_true rfl⟩ ⟨Nat.le_of_ble_eq_true rfl, Nat.le_of_ble_eq_true rfl⟩ hl.1 (Nat.le_of_ble_eq_true rfl) dX3_round_41 ?_
  refine zi_eq (tgt := 57) hx hb (by split <;> decide) dX3_round_44 (by decide) (fun c_44 => ?_) (fun c_44 => (show False by rw [h4] at c_44; exact c_44 rfl).elim)
  refine lv_aload_n hx hb dX3_round_57 rfl (lv_at hl 0 rfl) ?_
  refine k_X3_moneyLeft l (hq := hq) hx hb hml hown hts hK hP gX3_round_X3_moneyLeft ⟨Nat.le_of_ble_eq_true rfl, Nat.le_of_ble_eq_true rfl⟩ ⟨Nat.le_of_ble_eq_true rfl, Nat.le_of_ble_eq_true rfl⟩ hl.1 (Nat.le_of_ble_eq_true rfl) dX3_round_58 ?_
  refine lv_iconst (v := nI 1) hx hb dX3_round_61 (by decide) ?_
  refine lv_icmp_ge (tgt := 75) hx hb dX3_round_62 (by decide) (fun c_62 => ?_) (fun c_62 => (show False by exact c_62 h5).elim)
  refine lv_aload_n hx hb dX3_round_75 rfl (lv_at hl 0 rfl) ?_
  refine lv_iload_n hx hb dX3_round_76 rfl (lv_at hl 1 rfl) ?_
  refine lv_iconst (v := nI 0) hx hb dX3_round_77 (by decide) ?_
  refine k_X3_shareMoneyLeft l (le := le) (b := nI 0) (hn := hn) (hq := hq) (hV := hV) (hL := hL) (hle := hle) hx hb hml hown hts hK hP gX3_round_X3_shareMoneyLeft ⟨Nat.le_of_ble_eq_true rfl, Nat.le_of_ble_eq_true rfl⟩ ⟨Nat.le_of_ble_eq_true rfl, Nat.le_of_ble_eq_true rfl⟩ hl.1 (Nat.le_of_ble_eq_true rfl) dX3_round_78 hI (fun _ h => h) hS (fun u9 hu9 H locs hP hS _ => ?_)
  obtain ⟨zc3, zp3, zr3, zs3, zf3, z3, zm3, zt3⟩ := u9
  have hP : va_P (dC, dI) vwCl (wC cI cZ ad sm fe ex dy gp gc op gr st dl wo n yc ya ys yd q zc3 zp3 zr3 zs3 zf3 z3 zm3 zt3) H := hP
  have hu_78 : smP sm fe ex gp gc gr st yc ya ys n q le zc3 zp3 zr3 zs3 z3 := hu9
  obtain ⟨L3, q1, q2, q3, q4, q5⟩ := hu_78
  have hgn := gain_le (shK sm fe ex gp gc gr st yc ya ys n q le) n
  refine lv_aload_n hx hb dX3_round_81 rfl (lv_at hl 0 rfl) ?_
  refine gC_0_8 hx hb hts hiX3 hown hK hP hf33 dX3_round_82 ?_
  refine k_X2_gainers l (L := L3) (pf := (pK gp gr)) (rf := (rK gc gr yc ya ys q)) (sf := (shr (pK gp gr) (rK gc gr yc ya ys q) L3 (mK sm fe ex ya ys q))) (hR := q4) (hB := q2) (hs := (fun i hi => ⟨q5 i hi, shr_lt q2 (hL h5).2.2 (lg_mem (by have := q4.1; omega))⟩)) hx hb hml hown hts hK hP gX3_round_X2_gainers ⟨Nat.le_of_ble_eq_true rfl, Nat.le_of_ble_eq_true rfl⟩ ⟨Nat.le_of_ble_eq_true rfl, Nat.le_of_ble_eq_true rfl⟩ hl.1 (Nat.le_of_ble_eq_true rfl) dX3_round_85 ?_
  refine zt_i (y := nI (gain (shK sm fe ex gp gc gr st yc ya ys n q le) n)) (congrArg nI (gain_fin q3 (fun k hk => fin_lt (q1.mem_iff.mp hk)) (fun k _ => (shK_eq q1).symm))) ?_
  refine lv_istore_n (lv' := [(2, .int (nI (gain (shK sm fe ex gp gc gr st yc ya ys n q le) n))), (0, .ref (ad 0)), (1, .int (nI le))]) hx hb dX3_round_88 rfl hl (by decide) rfl (fun ls hl => ?_)
  refine lv_aload_n hx hb dX3_round_89 rfl (lv_at hl 1 rfl) ?_
  refine gC_0_7 hx hb hts hiX3 hown hK hP hf26 dX3_round_90 ?_
  refine lv_iload_n hx hb dX3_round_93 rfl (lv_at hl 0 rfl) ?_
  refine k_X1_hasPlacesFor l (k := gain (shK sm fe ex gp gc gr st yc ya ys n q le) n) (hq := hq) (hk := (by omega)) hx hb hml hown hts hK hP gX3_round_X1_hasPlacesFor ⟨Nat.le_of_ble_eq_true rfl, Nat.le_of_ble_eq_true rfl⟩ ⟨Nat.le_of_ble_eq_true rfl, Nat.le_of_ble_eq_true rfl⟩ hl.1 (Nat.le_of_ble_eq_true rfl) dX3_round_94 ?_
  refine zi_ne (tgt := 110) hx hb (by split <;> decide) dX3_round_97 (by decide) (fun c_97 => (show False by rw [if_neg (by omega)] at c_97; exact c_97 rfl).elim) (fun c_97 => ?_)
  obtain ⟨sa, hsa⟩ := hT.2.2.2 (159, "there would be too many payments") (by decide +kernel)
  exact vx_throwS (own := RX3) (cls := "java/lang/IllegalStateException") (text := "there would be too many payments") (names := ["java/lang/RuntimeException", "java/lang/Exception"]) (A := (awC ad)) (sa := sa) hx hb hfl hown (by decide +kernel) (by decide +kernel) (hts (.classLink RX3 103 "java/lang/IllegalStateException") (by decide +kernel)) (hts (.initialized "java/lang/IllegalStateException") (by decide +kernel)) hsa (vx_hat (B := [Cond.castable "java/lang/IllegalStateException" "java/lang/IllegalStateException", Cond.declares (Bundle.initS "java/lang/RuntimeException"), Cond.declares (Bundle.initS "java/lang/Exception"), Cond.declares (Bundle.initS Bundle.tN)]) (fun w hw => hts w ((show ∀ w ∈ (vx_atS RX3 107 "java/lang/IllegalStateException" ["java/lang/RuntimeException", "java/lang/Exception"]).filter goodWord, w ∈ wsX3_round from by decide +kernel) w hw)) zx_ng_IllegalStateException (vx_c (va_Nw.use rfl hT.2.1.2.1) (vx_c (va_Nw.use rfl hT.2.2.1.1) (vx_c (va_Nw.use rfl hT.2.2.1.2.1) (vx_c (va_Nw.use rfl hT.2.2.1.2.2) vx_n))))) zx_ot_IllegalStateException hT.1.1 hT.1.2 hS (hl.1.trans hml.symm) dX3_round_100 dX3_round_103 dX3_round_104 dX3_round_106 dX3_round_109 (fun x hx => (ht x hx).elim) (Nat.le_of_ble_eq_true rfl) (Nat.le_of_ble_eq_true rfl) (Nat.le_of_ble_eq_true rfl) (Nat.le_of_ble_eq_true rfl) hlocks (fun t _ hz hk => ⟨(zc3, zp3, zr3, zs3, zf3, z3, zm3, zt3), trivial, ⟨rfl, hP.kept (fun k q h => hk q.1 (hP k q h).lt)⟩, ⟨Nat.le_trans hS.1 hz, fun q h1 h2 => (hk q (Nat.lt_of_lt_of_le h1 hS.1)).trans (hS.2.1 q h1 h2)⟩⟩) hS.2.2 (Nat.le_refl _) (Nat.le_refl _)

section
variable {p : Program} {l : Launch} {e : Env} {R : Room} {s : State} {m : MethodId} {args : Array Value} {below : List Frame} {meth : Method} {c : Code} {H : Heap} {locs : List Loc} {cells slots : Nat} {Q : State → Prop} {pc : Nat} {ls : Array Slot} {rest st0 : List Value}
theorem zx_go2 {S9 : Type} {B9 : String → S9 → State → Prop} {A A0 : Nat → Prop} {H0 : Heap} (hS : va_S A0 H0 H locs) (hA : ∀ q, A q → A0 q) (hr : vx_Run p l e R s m args below meth c H locs cells slots 1 6 (F0 m pc ls st0) rest (fun _ _ _ => False) (vx_X (fun _ : S9 => True) B9 A) A)
    (kx : ∀ (E : String) (u : S9) (ce : Cell) (q9 : Addr) (H1 : Heap) (locs1 : List Loc) (t : State), t.heap = H1 → B9 E u t → H.size ≤ H1.size → (∀ q : Nat, q < H.size → ¬ A q → H1[q]? = H[q]?) → va_S A0 H0 H1 locs1 → H1[q9]? = some ce → ce.vm = .none → s.vm.findClass E = some ce.cls → vx_W p l e R s m args below meth c H1 locs1 (cells + 1) (slots + 6) Q (F0 m pc ls rest) q9) : W p l e R s m args below meth c H locs cells slots Q (F0 m pc ls st0) := by
  intro T hT S
  rcases hr T hT S with ⟨v, st₀, t, T', L, h0, X', hL, e1, e2, hq, st⟩ | ⟨q, st₀, t, T', L, E, ce, h0, X', hL, e1, e2, ⟨u, -, hE, hF⟩, hce, hcv, hcl, st⟩
  · exact hq.elim
  · obtain ⟨hz, hk, hS1⟩ := vx_keep h0 e1 hS (fun q _ h => hA q h) hA hL hF
    obtain ⟨t2, a1, b1⟩ := kx E u ce q T'.heap (locs ++ L) t e1.symm hE hz hk hS1 (by rw [e1]; exact hce) hcv hcl T' rfl X'
    exact ⟨t2, st.trans a1, b1⟩
end

set_option maxHeartbeats 4000000 in
set_option maxRecDepth 100000 in
theorem h_round_ise2 (l : Launch) {dC : Nat → ClassId} {dI : Nat → Nat → Nat} {cI cZ : ClassId} {ad : Nat → Nat} {o9 : Nat} {sm fe ex dy : Int32} {gp gc op gr st dl wo : Nat → Int32} {n : Nat} {yc ya ys yd : Nat → Int32} {q : Nat} {zc zp zr zs zf : Nat → Int32} {z : Nat} {zm zt : Int64} {le : Nat} (hfl : l.stackTraces = false) (hI : iwC ad) (hn : n ≤ 24) (hq : q ≤ 100) (hV : claimV gp gc gr yc ya ys q n) (hL : leftV sm fe ex ya ys q) (hle : le ≤ 100000) (h1 : outN (nI le) (nI 0) (nI 100000) = 0) (h2 : tallyN st (nI 1) n = 0) (h3 : tallyN st (nI 3) n = 0) (h4 : openB ys q = false) (h5 : nI 1 ≤ leftF sm fe ex ya ys q) (h6 : ¬ q + gain (shK sm fe ex gp gc gr st yc ya ys n q le) n ≤ 100) : Met l yL_round wsL_round { frames := 7, cells := 1, slots := 6, locals := 146 } (va_Pc [.ref (ad 0), .int (nI le), .ref o9] (fun U => va_P (dC, dI) vwCl (wC cI cZ ad sm fe ex dy gp gc op gr st dl wo n yc ya ys yd q zc zp zr zs zf z zm zt) U.heap ∧ va_K (dC, dI) vwCl [(cI, .int), (cZ, .boolean)] U ∧ tX (awC ad) U U.heap ∧ tN U)) (va_Qi (fun r (_ : (Nat → Int32) × (Nat → Int32) × (Nat → Int32) × (Nat → Int32) × (Nat → Int32) × Nat × Int64 × Int64) => r = nI 2) (fun u9 t => va_P (dC, dI) vwCl (wC cI cZ ad sm fe ex dy gp gc op gr st dl wo n yc ya ys yd q u9.1 u9.2.1 u9.2.2.1 u9.2.2.2.1 u9.2.2.2.2.1 u9.2.2.2.2.2.1 u9.2.2.2.2.2.2.1 u9.2.2.2.2.2.2.2) t.heap) (awC ad)) 1 6 (awC ad) := by
  refine va_MetW (cc := cL_round) (maxL := 4) (ret := (some .int)) (hh := [(0, 9, 12, 13), (0, 9, 15, 15)]) (by decide) rfl ?_
  intro p e s m args below meth c s₁ B hml hv
  obtain ⟨rfl, hP, hK, hT, hN⟩ := hv
  have hx := B.exec
  have hb := B.bytes
  have hr := B.returns
  have hts := atoms_spec (ws := wsL_round) B.pre
  have hown : s.vm.findClass RL = some m.cls := findClass_of_methodNamed B.named
  have hlocks := B.notSynchronized
  have hS : va_S (awC ad) s.heap s.heap [] := va_S.rf
  have hl := lv_entry ([.ref (ad 0), .int (nI le), .ref o9]) (n := 4) (Nat.le_of_ble_eq_true rfl)
  rw [lg_entry_eq]
  generalize (lg_sl ([.ref (ad 0), .int (nI le), .ref o9]) ++ List.replicate (4 - (lg_sl ([.ref (ad 0), .int (nI le), .ref o9])).length) Slot.unset).toArray = ls at hl ⊢
  have hl : lv_has ls 4 [(0, .ref (ad 0)), (1, .int (nI le)), (2, .ref o9)] := hl
  refine lv_aload_n hx hb dL_round_0 rfl (lv_at hl 2 rfl) ?_
  refine lv_iconst (v := nI 0) hx hb dL_round_1 (by decide) ?_
  refine lv_aload_n hx hb dL_round_2 rfl (lv_at hl 0 rfl) ?_
  refine lv_iload_n hx hb dL_round_3 rfl (lv_at hl 1 rfl) ?_
  have htab : c.exceptionTable.toList = ([⟨0, 9, 12, 13⟩] : List ExceptionTableEntry) ++ ⟨0, 9, 15, 15⟩ :: [] := (vx_table (x := yL_round) B (hts (.codeWith yL_round cL_round 4 (some .int) [(0, 9, 12, 13), (0, 9, 15, 15)]) List.mem_cons_self)).trans rfl
  refine zx_go2 hS (fun _ h => h) (vx_runV (As := [.int (nI le)]) (rest := [.int (nI 0), .ref o9]) ⟨hx, hb, hml, hown, hts⟩ (c_X3_round_ise2 (dC := dC) (dI := dI) (cI := cI) (cZ := cZ) (ad := ad) (sm := sm) (fe := fe) (ex := ex) (dy := dy) (gp := gp) (gc := gc) (op := op) (gr := gr) (st := st) (dl := dl) (wo := wo) (n := n) (yc := yc) (ya := ya) (ys := ys) (yd := yd) (q := q) (zc := zc) (zp := zp) (zr := zr) (zs := zs) (zf := zf) (z := z) (zm := zm) (zt := zt) (le := le) l hfl hI hn hq hV hL hle h1 h2 h3 h4 h5 h6) (cwV 1 hts gL_round_X3_round rfl rfl rfl (by decide +kernel) ⟨Nat.le_of_ble_eq_true rfl, Nat.le_of_ble_eq_true rfl⟩) ⟨fun a U g mk q => ⟨q.1, q.2.1, va_K.moved (u := U) (U := U.calling g mk a) (Vm.Alike.refl U.vm) q.2.2.1, tX.same (u := U) (U := U.calling g mk a) rfl q.2.2.2⟩, rC_0 hK hP, fun U hU hW => ⟨rfl, by rw [hU]; exact hP, va_K.moved hW.alike hK, by rw [hU]; exact tX.warm hW hT⟩⟩ rfl rfl hl.1 rfl (lv_room (Nat.le_of_ble_eq_true rfl)) dL_round_4 ⟨Nat.le_of_ble_eq_true rfl, Nat.le_of_ble_eq_true rfl⟩) (fun E u9 ce q9 H1 locs1 t0 ht0 hB9 hz9 hk9 hS hce hcv hcl => ?_)
  obtain ⟨hE, hP⟩ := hB9
  subst hE
  rw [ht0] at hP
  refine vx_catch (own := RL) (name := "java/lang/IllegalStateException") (E := "java/lang/IllegalStateException") hown [⟨0, 9, 12, 13⟩] ⟨0, 9, 15, 15⟩ [] htab (fun z hz => by rcases List.mem_singleton.mp hz with rfl; exact Or.inr ⟨by decide, _, hts (.classLink RL 13 "java/lang/IllegalArgumentException") (by decide +kernel), hN.2.1.1⟩) rfl (by decide) (hts (.classLink RL 15 "java/lang/IllegalStateException") (by decide +kernel)) (va_Nw.use rfl hT.2.1.2.1) hce hcv hcl ?_
  refine lv_astore_n (lv' := [(3, .ref q9), (0, .ref (ad 0)), (1, .int (nI le)), (2, .ref o9)]) hx hb dL_round_15 rfl hl (by decide) rfl (fun ls hl => ?_)
  refine lv_iconst (v := nI 2) hx hb dL_round_16 (by decide) ?_
  exact W.iret (v := nI 2) hx hb hr (fun t ht hW => ⟨⟨nI 2, u9, rfl, rfl, by (try dsimp only); rw [ht]; exact hP⟩, hS.F ht⟩) hS.2.2 dL_round_17
section
variable {p : Program} {e : Env} {R : Room} {s : State} {m : MethodId} {args : Array Value} {below : List Frame} {meth : Method} {c : Code} {H : Heap} {locs : List Loc} {cells slots : Nat} {Q : State → Prop} {cc : ByteArray} {pc : Nat} {ls : Array Slot} {rest : List Value} {own : String} {index nL : Nat} {Ts : List Cond} {H0 : Heap} {A0 : Nat → Prop}
theorem kh_round_ise2 (l : Launch) {dC : Nat → ClassId} {dI : Nat → Nat → Nat} {cI cZ : ClassId} {ad : Nat → Nat} {o9 : Nat} {sm fe ex dy : Int32} {gp gc op gr st dl wo : Nat → Int32} {n : Nat} {yc ya ys yd : Nat → Int32} {q : Nat} {zc zp zr zs zf : Nat → Int32} {z : Nat} {zm zt : Int64} {le : Nat} (hfl : l.stackTraces = false) (hI : iwC ad) (hn : n ≤ 24) (hq : q ≤ 100) (hV : claimV gp gc gr yc ya ys q n) (hL : leftV sm fe ex ya ys q) (hle : le ≤ 100000) (h1 : outN (nI le) (nI 0) (nI 100000) = 0) (h2 : tallyN st (nI 1) n = 0) (h3 : tallyN st (nI 3) n = 0) (h4 : openB ys q = false) (h5 : nI 1 ≤ leftF sm fe ex ya ys q) (h6 : ¬ q + gain (shK sm fe ex gp gc gr st yc ya ys n q le) n ≤ 100) (hx : p.tables.exec = Jvm.exec) (hb : c.code = cc) (hml : c.maxLocals = nL) (hown : s.vm.findClass own = some m.cls) (hts : ∀ w ∈ Ts, w.before args s = true) (hK : va_K (dC, dI) vwCl [(cI, .int), (cZ, .boolean)] s) (hP : va_P (dC, dI) vwCl (wC cI cZ ad sm fe ex dy gp gc op gr st dl wo n yc ya ys yd q zc zp zr zs zf z zm zt) H) (hg9 : GoodIn Ts (va_wsS own index yL_round wsL_round)) (hR9 : 7 + 1 ≤ R.frames ∧ 8 + (4 + 11) + 146 ≤ R.locals) (hc9 : cells + 1 ≤ R.cells ∧ slots + 6 ≤ R.slots) (hl9 : ls.size = nL) (hw9 : (rest.map fun v => v.category).sum ≤ 8) (hdg : decode cc pc = .ok (.invokestatic index, 3)) (hT : tX (awC ad) s H) (hN : tN s) (hA : ∀ x, awC ad x → A0 x) (hS : va_S A0 H0 H locs) (kk : ∀ (u9 : (Nat → Int32) × (Nat → Int32) × (Nat → Int32) × (Nat → Int32) × (Nat → Int32) × Nat × Int64 × Int64) (H1 : Heap) (locs1 : List Loc), va_P (dC, dI) vwCl (wC cI cZ ad sm fe ex dy gp gc op gr st dl wo n yc ya ys yd q u9.1 u9.2.1 u9.2.2.1 u9.2.2.2.1 u9.2.2.2.2.1 u9.2.2.2.2.2.1 u9.2.2.2.2.2.2.1 u9.2.2.2.2.2.2.2) H1 → va_S A0 H0 H1 locs1 → H.size ≤ H1.size → (∀ q : Nat, q < H.size → ¬ awC ad q → H1[q]? = H[q]?) → W p l e R s m args below meth c H1 locs1 (cells + 1) (slots + 6) Q (F0 m (pc + 3) ls (.int (nI 2) :: rest))) : W p l e R s m args below meth c H locs cells slots Q (F0 m pc ls (.ref o9 :: .int (nI le) :: .ref (ad 0) :: rest)) := va_calli (vx_runSW (As := [.ref (ad 0), .int (nI le), .ref o9]) (rest := rest) ⟨hx, hb, hml, hown, hts⟩ (h_round_ise2 (o9 := o9) (dC := dC) (dI := dI) (cI := cI) (cZ := cZ) (ad := ad) (sm := sm) (fe := fe) (ex := ex) (dy := dy) (gp := gp) (gc := gc) (op := op) (gr := gr) (st := st) (dl := dl) (wo := wo) (n := n) (yc := yc) (ya := ya) (ys := ys) (yd := yd) (q := q) (zc := zc) (zp := zp) (zr := zr) (zs := zs) (zf := zf) (z := z) (zm := zm) (zt := zt) (le := le) l hfl hI hn hq hV hL hle h1 h2 h3 h4 h5 h6) (vx_cwSW 3 hts hg9 rfl rfl rfl (by decide +kernel) hR9) ⟨fun a U g mk q => ⟨q.1, q.2.1, va_K.moved (u := U) (U := U.calling g mk a) (Vm.Alike.refl U.vm) q.2.2.1, tX.same (u := U) (U := U.calling g mk a) rfl q.2.2.2.1, tN.moved (u := U) (U := U.calling g mk a) (Vm.Alike.refl U.vm) q.2.2.2.2⟩, fun U hU hW => ⟨rfl, by rw [hU]; exact hP, va_K.moved hW.alike hK, by rw [hU]; exact tX.warm hW hT, tN.moved hW.alike hN⟩⟩ rfl rfl hl9 rfl (lv_room hw9) hdg hc9) hS (fun q _ h => hA q h) hA (fun r u t H1 locs1 ht _ hu hB hz hk hS1 => by subst hu; rw [ht] at hB; exact kk u H1 locs1 hB hS1 hz hk)
end
