set_option maxHeartbeats 4000000 in
set_option maxRecDepth 100000 in
theorem lo_round_ise {p : Program} {e : Env} {s : State} {m : MethodId} {below : List Frame} {meth : Method} {c : Code} (l : Launch) (hfl : l.stackTraces = false) {b L : Nat} {xs : Nat → Int32} (C0 : lw_At p s m meth c b L xs) {dC : Nat → ClassId} {dI : Nat → Nat → Nat} {cI cZ cJ : ClassId} {ad am : Nat → Nat} {o9 : Nat} (CC : lwC dC dI cI cZ cJ ad am o9 s) (hT0 : tX (fun q => s.heap.size ≤ q) s s.heap) {sm fe ex dy : Int32} {gp gc op gr st dl wo : Nat → Int32} {n : Nat} {yc ya ys yd : Nat → Int32} {q : Nat} {zc zp zr zs zf : Nat → Int32} {z : Nat} {zm zt : Int64} {pe tp fu sh ro : Nat → Int32} {th : Int32} {fo : Nat → Int64} {le : Nat} {i9 : Nat} (hi9 : 5 * i9 + 5 ≤ L) (hL9 : L ≤ 2560) {H : Heap} {locs : List Loc} {cells slots : Nat} (hc1 : cells ≤ 37 + i9) (hs1 : slots ≤ 1333 + 6 * i9) (hPC : va_P (dC, dI) vwCl (wC cI cZ ad sm fe ex dy gp gc op gr st dl wo n yc ya ys yd q zc zp zr zs zf z zm zt) H) (hPM : va_P (dC, dI) vwCl (wM cI cZ am sm fe ex gp gc dy n pe gr st dl wo q yc ya yd ys tp fu sh ro th) H) (hPo : va_P (dC, dI) vwCl [(o9, .inl (cJ, 1, .inr (.inl fo)))] H) (hS : va_S (fun q : Nat => s.heap.size ≤ q) s.heap H locs) (e1 : xs (5 * i9 + 1) = nI le) (ahn : n ≤ 24) (ahq : q ≤ 100) (ah1 : outN (nI le) (nI 0) (nI 100000) = 0) (ah2 : ¬ (tallyN st (nI 1) n = 0 ∧ tallyN st (nI 3) n = 0 ∧ openB ys q = false ∧ nI 1 ≤ leftF sm fe ex ya ys q)) (bhV : claimV gp gc gr yc ya ys q n) (bhL : leftV sm fe ex ya ys q) (bhle : le ≤ 100000) (bh2 : ¬ (tallyN st (nI 1) n = 0 ∧ tallyN st (nI 3) n = 0 ∧ openB ys q = false ∧ nI 1 ≤ leftF sm fe ex ya ys q ∧ q + gain (shK sm fe ex gp gc gr st yc ya ys n q le) n ≤ 100)) {ls : Array Slot} (hl : lv_has ls 7 [(4, .int (nI (5 * i9))), (0, .ref b), (1, .ref (ad 0)), (2, .ref (am 0)), (3, .ref o9)]) (kk : ∀ (v9 : (Nat → Int32) × (Nat → Int32) × (Nat → Int32) × (Nat → Int32)) (fo2 : Nat → Int64) (H2 : Heap) (locs2 : List Loc) (c2 s2 : Nat), c2 ≤ 38 + i9 → s2 ≤ 1339 + 6 * i9 → va_P (dC, dI) vwCl (wC cI cZ ad sm fe ex dy gp gc op gr st dl wo n yc ya ys yd q zc zp zr zs zf z zm zt) H2 → va_P (dC, dI) vwCl (wM cI cZ am sm fe ex gp gc dy n pe gr st dl wo q yc ya yd ys v9.1 v9.2.1 v9.2.2.1 v9.2.2.2 (nI 2)) H2 → va_P (dC, dI) vwCl [(o9, .inl (cJ, 1, .inr (.inl fo2)))] H2 → va_S (fun q : Nat => s.heap.size ≤ q) s.heap H2 locs2 → ∀ ls, lv_has ls 7 [(4, .int (nI (5 * i9))), (0, .ref b), (1, .ref (ad 0)), (2, .ref (am 0)), (3, .ref o9)] → W p l e room_1 s m #[Value.ref b] below meth c H2 locs2 c2 s2 (lw_Z below #[Value.ref b] s) (F0 m 1529 ls [])) : W p l e room_1 s m #[Value.ref b] below meth c H locs cells slots (lw_Z below #[Value.ref b] s) (F0 m 712 ls []) := by
  obtain ⟨hx, hb, hr, hml, hown, hts0, hX, hbl, hlocks, hgv⟩ := id C0
  obtain ⟨⟨hI, hIm⟩, ⟨hoC, hoM, hCM⟩, ⟨hAC, hAM, hAo⟩, hK, hKJ, hN⟩ := id CC
  have hts : ∀ w ∈ wsL_law, w.before #[Value.ref b] s = true := fun w hw => hts0 w (wsL_law_in w hw)
  have hown : s.vm.findClass RL = some m.cls := hown
  have hbA : ¬ (fun q : Nat => s.heap.size ≤ q) b := Nat.not_le.mpr hbl
  have hT : tX (fun q => s.heap.size ≤ q) s H := zz_kT hT0 hS
  refine lv_aload_n hx hb dL_law_712 rfl (lv_at hl 2 rfl) ?_
  refine lv_aload_n hx hb dL_law_713 rfl (lv_at hl 1 rfl) ?_
  refine lv_iload hx hb dL_law_714 (lv_at hl 0 rfl) ?_
  refine lv_iconst (v := nI 1) hx hb dL_law_716 (by decide) ?_
  refine lv_iadd hx hb dL_law_717 ?_
  refine zt_i (y := nI (5 * i9 + 1)) (nI_add _ _) ?_
  refine va_sld hx hb hX hbl hbA hS (vp_in_nI (n := 5 * i9 + 1) (by omega) (by omega)) dL_law_718 ?_
  rw [nI_clamp (show 5 * i9 + 1 < 2 ^ 31 by omega)]
  rw [e1]
  refine lv_aload_n hx hb dL_law_719 rfl (lv_at hl 4 rfl) ?_
  refine kh_round_ise l hfl (cJ := cJ) (o9 := o9) (fo := fo) (le := le) (hn := ahn) (hq := ahq) (h1 := ah1) (h2 := ah2) hx hb hml hown hts hK hPC gL_law_L_round ⟨Nat.le_of_ble_eq_true rfl, Nat.le_of_ble_eq_true rfl⟩ ⟨show cells + 1 ≤ 1083 by omega, show slots + 6 ≤ 9657 by omega⟩ hl.1 (Nat.le_of_ble_eq_true rfl) dL_law_720 (hT.narrow (fun _ h => h.elim)) hN hS (fun H2 locs hS hz9 hf => ?_)
  have hPC := zz_kC hI hPC (fun x h1 _ => hf x h1)
  have hPM := zz_kM hIm hPM (fun x h1 _ => hf x h1)
  have hPo := zz_ko hPo (hf _ (zz_lt hPo))
  refine lv_istore (lv' := [(5, .int (nI 2)), (4, .int (nI (5 * i9))), (0, .ref b), (1, .ref (ad 0)), (2, .ref (am 0)), (3, .ref o9)]) hx hb dL_law_723 hl (by decide) rfl (fun ls hl => ?_)
  refine lv_aload_n hx hb dL_law_725 rfl (lv_at hl 4 rfl) ?_
  refine lv_aload_n hx hb dL_law_726 rfl (lv_at hl 2 rfl) ?_
  refine lv_iload hx hb dL_law_727 (lv_at hl 1 rfl) ?_
  refine lv_iconst (v := nI 1) hx hb dL_law_729 (by decide) ?_
  refine lv_iadd hx hb dL_law_730 ?_
  refine zt_i (y := nI (5 * i9 + 1)) (nI_add _ _) ?_
  refine va_sld hx hb hX hbl hbA hS (vp_in_nI (n := 5 * i9 + 1) (by omega) (by omega)) dL_law_731 ?_
  rw [nI_clamp (show 5 * i9 + 1 < 2 ^ 31 by omega)]
  rw [e1]
  refine k_X4_round_2 l (le := le) (hn := ahn) (hq := ahq) (hV := bhV) (hL := bhL) (hle := bhle) (h1 := ah1) (h2 := bh2) hx hb hml hown hts hK hPM gL_law_X4_round ⟨Nat.le_of_ble_eq_true rfl, Nat.le_of_ble_eq_true rfl⟩ ⟨show cells + 1 ≤ 1083 by omega, show slots + 6 ≤ 9657 by omega⟩ hl.1 (Nat.le_of_ble_eq_true rfl) dL_law_732 hIm hAM hS (fun v9 _ H2 locs hPM hS hf => ?_)
  have hPC := zz_kC hI hPC (fun x h1 h2 => hf x h1 (fun h3 => hCM x h2 h3))
  have hPo := zz_ko hPo (hf _ (zz_lt hPo) hoM)
  refine lv_istore (lv' := [(6, .int (nI 0)), (5, .int (nI 2)), (4, .int (nI (5 * i9))), (0, .ref b), (1, .ref (ad 0)), (2, .ref (am 0)), (3, .ref o9)]) hx hb dL_law_735 hl (by decide) rfl (fun ls hl => ?_)
  refine lv_aload_n hx hb dL_law_737 rfl (lv_at hl 5 rfl) ?_
  refine k_X4_thrown l hx hb hml hown hts hK hPM gL_law_X4_thrown ⟨Nat.le_of_ble_eq_true rfl, Nat.le_of_ble_eq_true rfl⟩ ⟨show cells + 1 ≤ 1083 by omega, show slots + 6 ≤ 9657 by omega⟩ hl.1 (Nat.le_of_ble_eq_true rfl) dL_law_738 ?_
  refine lv_iload hx hb dL_law_741 (lv_at hl 1 rfl) ?_
  refine lv_icmp_eq (tgt := 748) hx hb dL_law_743 (by decide) (fun _ => ?_) (fun h9 => absurd rfl h9)
  refine lv_iload hx hb dL_law_748 (lv_at hl 1 rfl) ?_
  refine lv_if_ne (tgt := 765) hx hb dL_law_750 (by decide) (fun _ => ?_) (fun h9 => absurd h9 (by decide))
  refine lv_goto (tgt := 1529) hx hb dL_law_765 (by decide) ?_
  exact kk _ _ _ _ _ _ (by omega) (by omega) hPC hPM hPo hS ls (lv_sub hl [2, 3, 4, 5, 6] rfl)
set_option maxHeartbeats 4000000 in
set_option maxRecDepth 100000 in
theorem lo_round_ise2 {p : Program} {e : Env} {s : State} {m : MethodId} {below : List Frame} {meth : Method} {c : Code} (l : Launch) (hfl : l.stackTraces = false) {b L : Nat} {xs : Nat → Int32} (C0 : lw_At p s m meth c b L xs) {dC : Nat → ClassId} {dI : Nat → Nat → Nat} {cI cZ cJ : ClassId} {ad am : Nat → Nat} {o9 : Nat} (CC : lwC dC dI cI cZ cJ ad am o9 s) (hT0 : tX (fun q => s.heap.size ≤ q) s s.heap) {sm fe ex dy : Int32} {gp gc op gr st dl wo : Nat → Int32} {n : Nat} {yc ya ys yd : Nat → Int32} {q : Nat} {zc zp zr zs zf : Nat → Int32} {z : Nat} {zm zt : Int64} {pe tp fu sh ro : Nat → Int32} {th : Int32} {fo : Nat → Int64} {le : Nat} {i9 : Nat} (hi9 : 5 * i9 + 5 ≤ L) (hL9 : L ≤ 2560) {H : Heap} {locs : List Loc} {cells slots : Nat} (hc1 : cells ≤ 37 + i9) (hs1 : slots ≤ 1333 + 6 * i9) (hPC : va_P (dC, dI) vwCl (wC cI cZ ad sm fe ex dy gp gc op gr st dl wo n yc ya ys yd q zc zp zr zs zf z zm zt) H) (hPM : va_P (dC, dI) vwCl (wM cI cZ am sm fe ex gp gc dy n pe gr st dl wo q yc ya yd ys tp fu sh ro th) H) (hPo : va_P (dC, dI) vwCl [(o9, .inl (cJ, 1, .inr (.inl fo)))] H) (hS : va_S (fun q : Nat => s.heap.size ≤ q) s.heap H locs) (e1 : xs (5 * i9 + 1) = nI le) (ahn : n ≤ 24) (ahq : q ≤ 100) (ahV : claimV gp gc gr yc ya ys q n) (ahL : leftV sm fe ex ya ys q) (ahle : le ≤ 100000) (ah1 : outN (nI le) (nI 0) (nI 100000) = 0) (ah2 : tallyN st (nI 1) n = 0) (ah3 : tallyN st (nI 3) n = 0) (ah4 : openB ys q = false) (ah5 : nI 1 ≤ leftF sm fe ex ya ys q) (ah6 : ¬ q + gain (shK sm fe ex gp gc gr st yc ya ys n q le) n ≤ 100) (bh2 : ¬ (tallyN st (nI 1) n = 0 ∧ tallyN st (nI 3) n = 0 ∧ openB ys q = false ∧ nI 1 ≤ leftF sm fe ex ya ys q ∧ q + gain (shK sm fe ex gp gc gr st yc ya ys n q le) n ≤ 100)) {ls : Array Slot} (hl : lv_has ls 7 [(4, .int (nI (5 * i9))), (0, .ref b), (1, .ref (ad 0)), (2, .ref (am 0)), (3, .ref o9)]) (kk : ∀ (u9 : (Nat → Int32) × (Nat → Int32) × (Nat → Int32) × (Nat → Int32) × (Nat → Int32) × Nat × Int64 × Int64) (v9 : (Nat → Int32) × (Nat → Int32) × (Nat → Int32) × (Nat → Int32)) (fo2 : Nat → Int64) (H2 : Heap) (locs2 : List Loc) (c2 s2 : Nat), c2 ≤ 38 + i9 → s2 ≤ 1339 + 6 * i9 → va_P (dC, dI) vwCl (wC cI cZ ad sm fe ex dy gp gc op gr st dl wo n yc ya ys yd q u9.1 u9.2.1 u9.2.2.1 u9.2.2.2.1 u9.2.2.2.2.1 u9.2.2.2.2.2.1 u9.2.2.2.2.2.2.1 u9.2.2.2.2.2.2.2) H2 → va_P (dC, dI) vwCl (wM cI cZ am sm fe ex gp gc dy n pe gr st dl wo q yc ya yd ys v9.1 v9.2.1 v9.2.2.1 v9.2.2.2 (nI 2)) H2 → va_P (dC, dI) vwCl [(o9, .inl (cJ, 1, .inr (.inl fo2)))] H2 → va_S (fun q : Nat => s.heap.size ≤ q) s.heap H2 locs2 → ∀ ls, lv_has ls 7 [(4, .int (nI (5 * i9))), (0, .ref b), (1, .ref (ad 0)), (2, .ref (am 0)), (3, .ref o9)] → W p l e room_1 s m #[Value.ref b] below meth c H2 locs2 c2 s2 (lw_Z below #[Value.ref b] s) (F0 m 1529 ls [])) : W p l e room_1 s m #[Value.ref b] below meth c H locs cells slots (lw_Z below #[Value.ref b] s) (F0 m 712 ls []) := by
  obtain ⟨hx, hb, hr, hml, hown, hts0, hX, hbl, hlocks, hgv⟩ := id C0
  obtain ⟨⟨hI, hIm⟩, ⟨hoC, hoM, hCM⟩, ⟨hAC, hAM, hAo⟩, hK, hKJ, hN⟩ := id CC
  have hts : ∀ w ∈ wsL_law, w.before #[Value.ref b] s = true := fun w hw => hts0 w (wsL_law_in w hw)
  have hown : s.vm.findClass RL = some m.cls := hown
  have hbA : ¬ (fun q : Nat => s.heap.size ≤ q) b := Nat.not_le.mpr hbl
  have hT : tX (fun q => s.heap.size ≤ q) s H := zz_kT hT0 hS
  refine lv_aload_n hx hb dL_law_712 rfl (lv_at hl 2 rfl) ?_
  refine lv_aload_n hx hb dL_law_713 rfl (lv_at hl 1 rfl) ?_
  refine lv_iload hx hb dL_law_714 (lv_at hl 0 rfl) ?_
  refine lv_iconst (v := nI 1) hx hb dL_law_716 (by decide) ?_
  refine lv_iadd hx hb dL_law_717 ?_
  refine zt_i (y := nI (5 * i9 + 1)) (nI_add _ _) ?_
  refine va_sld hx hb hX hbl hbA hS (vp_in_nI (n := 5 * i9 + 1) (by omega) (by omega)) dL_law_718 ?_
  rw [nI_clamp (show 5 * i9 + 1 < 2 ^ 31 by omega)]
  rw [e1]
  refine lv_aload_n hx hb dL_law_719 rfl (lv_at hl 4 rfl) ?_
  refine kh_round_ise2 l hfl hI (o9 := o9) (le := le) (hn := ahn) (hq := ahq) (hV := ahV) (hL := ahL) (hle := ahle) (h1 := ah1) (h2 := ah2) (h3 := ah3) (h4 := ah4) (h5 := ah5) (h6 := ah6) hx hb hml hown hts hK hPC gL_law_L_round ⟨Nat.le_of_ble_eq_true rfl, Nat.le_of_ble_eq_true rfl⟩ ⟨show cells + 1 ≤ 1083 by omega, show slots + 6 ≤ 9657 by omega⟩ hl.1 (Nat.le_of_ble_eq_true rfl) dL_law_720 (hT.narrow hAC) hN hAC hS (fun u9 H2 locs hPC hS hz9 hf => ?_)
  have hPM := zz_kM hIm hPM (fun x h1 h2 => hf x h1 (fun h3 => hCM x h3 h2))
  have hPo := zz_ko hPo (hf _ (zz_lt hPo) hoC)
  refine lv_istore (lv' := [(5, .int (nI 2)), (4, .int (nI (5 * i9))), (0, .ref b), (1, .ref (ad 0)), (2, .ref (am 0)), (3, .ref o9)]) hx hb dL_law_723 hl (by decide) rfl (fun ls hl => ?_)
  refine lv_aload_n hx hb dL_law_725 rfl (lv_at hl 4 rfl) ?_
  refine lv_aload_n hx hb dL_law_726 rfl (lv_at hl 2 rfl) ?_
  refine lv_iload hx hb dL_law_727 (lv_at hl 1 rfl) ?_
  refine lv_iconst (v := nI 1) hx hb dL_law_729 (by decide) ?_
  refine lv_iadd hx hb dL_law_730 ?_
  refine zt_i (y := nI (5 * i9 + 1)) (nI_add _ _) ?_
  refine va_sld hx hb hX hbl hbA hS (vp_in_nI (n := 5 * i9 + 1) (by omega) (by omega)) dL_law_731 ?_
  rw [nI_clamp (show 5 * i9 + 1 < 2 ^ 31 by omega)]
  rw [e1]
  refine k_X4_round_2 l (le := le) (hn := ahn) (hq := ahq) (hV := ahV) (hL := ahL) (hle := ahle) (h1 := ah1) (h2 := bh2) hx hb hml hown hts hK hPM gL_law_X4_round ⟨Nat.le_of_ble_eq_true rfl, Nat.le_of_ble_eq_true rfl⟩ ⟨show cells + 1 ≤ 1083 by omega, show slots + 6 ≤ 9657 by omega⟩ hl.1 (Nat.le_of_ble_eq_true rfl) dL_law_732 hIm hAM hS (fun v9 _ H2 locs hPM hS hf => ?_)
  have hPC := zz_kC hI hPC (fun x h1 h2 => hf x h1 (fun h3 => hCM x h2 h3))
  have hPo := zz_ko hPo (hf _ (zz_lt hPo) hoM)
  refine lv_istore (lv' := [(6, .int (nI 0)), (5, .int (nI 2)), (4, .int (nI (5 * i9))), (0, .ref b), (1, .ref (ad 0)), (2, .ref (am 0)), (3, .ref o9)]) hx hb dL_law_735 hl (by decide) rfl (fun ls hl => ?_)
  refine lv_aload_n hx hb dL_law_737 rfl (lv_at hl 5 rfl) ?_
  refine k_X4_thrown l hx hb hml hown hts hK hPM gL_law_X4_thrown ⟨Nat.le_of_ble_eq_true rfl, Nat.le_of_ble_eq_true rfl⟩ ⟨show cells + 1 ≤ 1083 by omega, show slots + 6 ≤ 9657 by omega⟩ hl.1 (Nat.le_of_ble_eq_true rfl) dL_law_738 ?_
  refine lv_iload hx hb dL_law_741 (lv_at hl 1 rfl) ?_
  refine lv_icmp_eq (tgt := 748) hx hb dL_law_743 (by decide) (fun _ => ?_) (fun h9 => absurd rfl h9)
  refine lv_iload hx hb dL_law_748 (lv_at hl 1 rfl) ?_
  refine lv_if_ne (tgt := 765) hx hb dL_law_750 (by decide) (fun _ => ?_) (fun h9 => absurd h9 (by decide))
  refine lv_goto (tgt := 1529) hx hb dL_law_765 (by decide) ?_
  exact kk _ _ _ _ _ _ _ (by omega) (by omega) hPC hPM hPo hS ls (lv_sub hl [2, 3, 4, 5, 6] rfl)
set_option maxHeartbeats 4000000 in
set_option maxRecDepth 100000 in
theorem lo_cash_ok {p : Program} {e : Env} {s : State} {m : MethodId} {below : List Frame} {meth : Method} {c : Code} (l : Launch) (hfl : l.stackTraces = false) {b L : Nat} {xs : Nat → Int32} (C0 : lw_At p s m meth c b L xs) {dC : Nat → ClassId} {dI : Nat → Nat → Nat} {cI cZ cJ : ClassId} {ad am : Nat → Nat} {o9 : Nat} (CC : lwC dC dI cI cZ cJ ad am o9 s) (hT0 : tX (fun q => s.heap.size ≤ q) s s.heap) {sm fe ex dy : Int32} {gp gc op gr st dl wo : Nat → Int32} {n : Nat} {yc ya ys yd : Nat → Int32} {q : Nat} {zc zp zr zs zf : Nat → Int32} {z : Nat} {zm zt : Int64} {pe tp fu sh ro : Nat → Int32} {th : Int32} {fo : Nat → Int64} {k : Nat} {i9 : Nat} (hi9 : 5 * i9 + 5 ≤ L) (hL9 : L ≤ 2560) {H : Heap} {locs : List Loc} {cells slots : Nat} (hc1 : cells ≤ 37 + i9) (hs1 : slots ≤ 1333 + 6 * i9) (hPC : va_P (dC, dI) vwCl (wC cI cZ ad sm fe ex dy gp gc op gr st dl wo n yc ya ys yd q zc zp zr zs zf z zm zt) H) (hPM : va_P (dC, dI) vwCl (wM cI cZ am sm fe ex gp gc dy n pe gr st dl wo q yc ya yd ys tp fu sh ro th) H) (hPo : va_P (dC, dI) vwCl [(o9, .inl (cJ, 1, .inr (.inl fo)))] H) (hS : va_S (fun q : Nat => s.heap.size ≤ q) s.heap H locs) (e1 : xs (5 * i9 + 1) = nI k) (ahq : q ≤ 100) (ahk : k < q) (ah1 : ys k = 0) {ls : Array Slot} (hl : lv_has ls 7 [(4, .int (nI (5 * i9))), (0, .ref b), (1, .ref (ad 0)), (2, .ref (am 0)), (3, .ref o9)]) (kk : ∀ (fo2 : Nat → Int64) (H2 : Heap) (locs2 : List Loc) (c2 s2 : Nat), c2 ≤ 38 + i9 → s2 ≤ 1339 + 6 * i9 → va_P (dC, dI) vwCl (wC cI cZ ad sm fe ex dy gp gc op gr st dl wo n yc ya (upd ys k (nI 1)) yd q zc zp zr zs zf z zm zt) H2 → va_P (dC, dI) vwCl (wM cI cZ am sm fe ex gp gc dy n pe gr st dl wo q yc ya yd (upd ys k (nI 1)) tp fu sh ro (nI 0)) H2 → va_P (dC, dI) vwCl [(o9, .inl (cJ, 1, .inr (.inl fo2)))] H2 → va_S (fun q : Nat => s.heap.size ≤ q) s.heap H2 locs2 → ∀ ls, lv_has ls 7 [(4, .int (nI (5 * i9))), (0, .ref b), (1, .ref (ad 0)), (2, .ref (am 0)), (3, .ref o9)] → W p l e room_1 s m #[Value.ref b] below meth c H2 locs2 c2 s2 (lw_Z below #[Value.ref b] s) (F0 m 1529 ls [])) : W p l e room_1 s m #[Value.ref b] below meth c H locs cells slots (lw_Z below #[Value.ref b] s) (F0 m 768 ls []) := by
  obtain ⟨hx, hb, hr, hml, hown, hts0, hX, hbl, hlocks, hgv⟩ := id C0
  obtain ⟨⟨hI, hIm⟩, ⟨hoC, hoM, hCM⟩, ⟨hAC, hAM, hAo⟩, hK, hKJ, hN⟩ := id CC
  have hts : ∀ w ∈ wsL_law, w.before #[Value.ref b] s = true := fun w hw => hts0 w (wsL_law_in w hw)
  have hown : s.vm.findClass RL = some m.cls := hown
  have hbA : ¬ (fun q : Nat => s.heap.size ≤ q) b := Nat.not_le.mpr hbl
  have hT : tX (fun q => s.heap.size ≤ q) s H := zz_kT hT0 hS
  refine lv_aload_n hx hb dL_law_768 rfl (lv_at hl 2 rfl) ?_
  refine lv_aload_n hx hb dL_law_769 rfl (lv_at hl 1 rfl) ?_
  refine lv_iload hx hb dL_law_770 (lv_at hl 0 rfl) ?_
  refine lv_iconst (v := nI 1) hx hb dL_law_772 (by decide) ?_
  refine lv_iadd hx hb dL_law_773 ?_
  refine zt_i (y := nI (5 * i9 + 1)) (nI_add _ _) ?_
  refine va_sld hx hb hX hbl hbA hS (vp_in_nI (n := 5 * i9 + 1) (by omega) (by omega)) dL_law_774 ?_
  rw [nI_clamp (show 5 * i9 + 1 < 2 ^ 31 by omega)]
  rw [e1]
  refine lv_aload_n hx hb dL_law_775 rfl (lv_at hl 4 rfl) ?_
  refine kh_cash_ok l (cJ := cJ) (o9 := o9) (fo := fo) (k := k) (hq := ahq) (hk := ahk) (h1 := ah1) hx hb hml hown hts hK hPC gL_law_L_cash ⟨Nat.le_of_ble_eq_true rfl, Nat.le_of_ble_eq_true rfl⟩ ⟨show cells + 0 ≤ 1083 by omega, show slots + 0 ≤ 9657 by omega⟩ hl.1 (Nat.le_of_ble_eq_true rfl) dL_law_776 hI hoC hPo hKJ (fun x h => h.elim (hAC x) (fun h => by rw [h]; exact hAo)) hS (fun u9 H2 locs hPC fo hf9 hPo hS hz9 hf => ?_)
  have hPM := zz_kM hIm hPM (fun x h1 h2 => hf x h1 (fun h3 => h3.elim (fun h3 => hCM x h3 h2) (fun h3 => hoM (by rw [← h3]; exact h2))))
  refine lv_istore (lv' := [(5, .int (nI 0)), (4, .int (nI (5 * i9))), (0, .ref b), (1, .ref (ad 0)), (2, .ref (am 0)), (3, .ref o9)]) hx hb dL_law_779 hl (by decide) rfl (fun ls hl => ?_)
  refine lv_aload_n hx hb dL_law_781 rfl (lv_at hl 4 rfl) ?_
  refine lv_aload_n hx hb dL_law_782 rfl (lv_at hl 2 rfl) ?_
  refine lv_iload hx hb dL_law_783 (lv_at hl 1 rfl) ?_
  refine lv_iconst (v := nI 1) hx hb dL_law_785 (by decide) ?_
  refine lv_iadd hx hb dL_law_786 ?_
  refine zt_i (y := nI (5 * i9 + 1)) (nI_add _ _) ?_
  refine va_sld hx hb hX hbl hbA hS (vp_in_nI (n := 5 * i9 + 1) (by omega) (by omega)) dL_law_787 ?_
  rw [nI_clamp (show 5 * i9 + 1 < 2 ^ 31 by omega)]
  rw [e1]
  refine k_X4_cash_ok l (k := k) (hq := ahq) (hk := ahk) (h1 := ah1) hx hb hml hown hts hK hPM gL_law_X4_cash ⟨Nat.le_of_ble_eq_true rfl, Nat.le_of_ble_eq_true rfl⟩ ⟨show cells + 0 ≤ 1083 by omega, show slots + 0 ≤ 9657 by omega⟩ hl.1 (Nat.le_of_ble_eq_true rfl) dL_law_788 hIm hAM hS (fun H2 locs hPM hS hf => ?_)
  have hPC := zz_kC hI hPC (fun x h1 h2 => hf x h1 (fun h3 => hCM x h2 h3))
  have hPo := zz_ko hPo (hf _ (zz_lt hPo) hoM)
  refine lv_istore (lv' := [(6, .int (ya k)), (5, .int (nI 0)), (4, .int (nI (5 * i9))), (0, .ref b), (1, .ref (ad 0)), (2, .ref (am 0)), (3, .ref o9)]) hx hb dL_law_791 hl (by decide) rfl (fun ls hl => ?_)
  refine lv_aload_n hx hb dL_law_793 rfl (lv_at hl 5 rfl) ?_
  refine k_X4_thrown l hx hb hml hown hts hK hPM gL_law_X4_thrown ⟨Nat.le_of_ble_eq_true rfl, Nat.le_of_ble_eq_true rfl⟩ ⟨show cells + 0 ≤ 1083 by omega, show slots + 0 ≤ 9657 by omega⟩ hl.1 (Nat.le_of_ble_eq_true rfl) dL_law_794 ?_
  refine lv_iload hx hb dL_law_797 (lv_at hl 1 rfl) ?_
  refine lv_icmp_eq (tgt := 804) hx hb dL_law_799 (by decide) (fun _ => ?_) (fun h9 => absurd rfl h9)
  refine lv_iload hx hb dL_law_804 (lv_at hl 1 rfl) ?_
  refine lv_if_ne (tgt := 821) hx hb dL_law_806 (by decide) (fun h9 => absurd (by decide) h9) (fun _ => ?_)
  refine lv_aload_n hx hb dL_law_809 rfl (lv_at hl 6 rfl) ?_
  refine lv_iconst (v := nI 0) hx hb dL_law_810 (by decide) ?_
  refine va_lald hx hb hKJ hPo 0 0 rfl rfl (vp_in_nI (n := 0) (by decide) (by decide)) dL_law_811 ?_
  refine zt_l (y := (ya k).toInt64) (by rw [show (nI 0).toNatClampNeg = 0 by decide]; exact hf9) ?_
  refine lv_iload hx hb dL_law_812 (lv_at hl 0 rfl) ?_
  refine lv_i2l (v := (ya k).toInt64) hx hb dL_law_814 rfl ?_
  refine W.lcmp hx hb dL_law_815 ?_
  refine zg_eq (tgt := 821) hx hb dL_law_816 (by decide) (fun _ => ?_) (fun h9 => absurd (rfl) h9)
  refine lv_goto (tgt := 1529) hx hb dL_law_821 (by decide) ?_
  exact kk _ _ _ _ _ (by omega) (by omega) hPC hPM hPo hS ls (lv_sub hl [2, 3, 4, 5, 6] rfl)
set_option maxHeartbeats 4000000 in
set_option maxRecDepth 100000 in
theorem lo_cash_no {p : Program} {e : Env} {s : State} {m : MethodId} {below : List Frame} {meth : Method} {c : Code} (l : Launch) (hfl : l.stackTraces = false) {b L : Nat} {xs : Nat → Int32} (C0 : lw_At p s m meth c b L xs) {dC : Nat → ClassId} {dI : Nat → Nat → Nat} {cI cZ cJ : ClassId} {ad am : Nat → Nat} {o9 : Nat} (CC : lwC dC dI cI cZ cJ ad am o9 s) (hT0 : tX (fun q => s.heap.size ≤ q) s s.heap) {sm fe ex dy : Int32} {gp gc op gr st dl wo : Nat → Int32} {n : Nat} {yc ya ys yd : Nat → Int32} {q : Nat} {zc zp zr zs zf : Nat → Int32} {z : Nat} {zm zt : Int64} {pe tp fu sh ro : Nat → Int32} {th : Int32} {fo : Nat → Int64} {x : Int32} {i9 : Nat} (hi9 : 5 * i9 + 5 ≤ L) (hL9 : L ≤ 2560) {H : Heap} {locs : List Loc} {cells slots : Nat} (hc1 : cells ≤ 37 + i9) (hs1 : slots ≤ 1333 + 6 * i9) (hPC : va_P (dC, dI) vwCl (wC cI cZ ad sm fe ex dy gp gc op gr st dl wo n yc ya ys yd q zc zp zr zs zf z zm zt) H) (hPM : va_P (dC, dI) vwCl (wM cI cZ am sm fe ex gp gc dy n pe gr st dl wo q yc ya yd ys tp fu sh ro th) H) (hPo : va_P (dC, dI) vwCl [(o9, .inl (cJ, 1, .inr (.inl fo)))] H) (hS : va_S (fun q : Nat => s.heap.size ≤ q) s.heap H locs) (e1 : xs (5 * i9 + 1) = x) (ahq : q ≤ 100) (ahk : ¬ vp_in x q) {ls : Array Slot} (hl : lv_has ls 7 [(4, .int (nI (5 * i9))), (0, .ref b), (1, .ref (ad 0)), (2, .ref (am 0)), (3, .ref o9)]) (kk : ∀ (fo2 : Nat → Int64) (H2 : Heap) (locs2 : List Loc) (c2 s2 : Nat), c2 ≤ 38 + i9 → s2 ≤ 1339 + 6 * i9 → va_P (dC, dI) vwCl (wC cI cZ ad sm fe ex dy gp gc op gr st dl wo n yc ya ys yd q zc zp zr zs zf z zm zt) H2 → va_P (dC, dI) vwCl (wM cI cZ am sm fe ex gp gc dy n pe gr st dl wo q yc ya yd ys tp fu sh ro (nI 1)) H2 → va_P (dC, dI) vwCl [(o9, .inl (cJ, 1, .inr (.inl fo2)))] H2 → va_S (fun q : Nat => s.heap.size ≤ q) s.heap H2 locs2 → ∀ ls, lv_has ls 7 [(4, .int (nI (5 * i9))), (0, .ref b), (1, .ref (ad 0)), (2, .ref (am 0)), (3, .ref o9)] → W p l e room_1 s m #[Value.ref b] below meth c H2 locs2 c2 s2 (lw_Z below #[Value.ref b] s) (F0 m 1529 ls [])) : W p l e room_1 s m #[Value.ref b] below meth c H locs cells slots (lw_Z below #[Value.ref b] s) (F0 m 768 ls []) := by
  obtain ⟨hx, hb, hr, hml, hown, hts0, hX, hbl, hlocks, hgv⟩ := id C0
  obtain ⟨⟨hI, hIm⟩, ⟨hoC, hoM, hCM⟩, ⟨hAC, hAM, hAo⟩, hK, hKJ, hN⟩ := id CC
  have hts : ∀ w ∈ wsL_law, w.before #[Value.ref b] s = true := fun w hw => hts0 w (wsL_law_in w hw)
  have hown : s.vm.findClass RL = some m.cls := hown
  have hbA : ¬ (fun q : Nat => s.heap.size ≤ q) b := Nat.not_le.mpr hbl
  have hT : tX (fun q => s.heap.size ≤ q) s H := zz_kT hT0 hS
  refine lv_aload_n hx hb dL_law_768 rfl (lv_at hl 2 rfl) ?_
  refine lv_aload_n hx hb dL_law_769 rfl (lv_at hl 1 rfl) ?_
  refine lv_iload hx hb dL_law_770 (lv_at hl 0 rfl) ?_
  refine lv_iconst (v := nI 1) hx hb dL_law_772 (by decide) ?_
  refine lv_iadd hx hb dL_law_773 ?_
  refine zt_i (y := nI (5 * i9 + 1)) (nI_add _ _) ?_
  refine va_sld hx hb hX hbl hbA hS (vp_in_nI (n := 5 * i9 + 1) (by omega) (by omega)) dL_law_774 ?_
  rw [nI_clamp (show 5 * i9 + 1 < 2 ^ 31 by omega)]
  rw [e1]
  refine lv_aload_n hx hb dL_law_775 rfl (lv_at hl 4 rfl) ?_
  refine kh_cash_no l hfl (cJ := cJ) (o9 := o9) (fo := fo) (x := x) (hq := ahq) (hk := ahk) hx hb hml hown hts hK hPC gL_law_L_cash ⟨Nat.le_of_ble_eq_true rfl, Nat.le_of_ble_eq_true rfl⟩ ⟨show cells + 1 ≤ 1083 by omega, show slots + 6 ≤ 9657 by omega⟩ hl.1 (Nat.le_of_ble_eq_true rfl) dL_law_776 (hT.narrow (fun _ h => h.elim)) hN hS (fun H2 locs hS hz9 hf => ?_)
  have hPC := zz_kC hI hPC (fun x h1 _ => hf x h1)
  have hPM := zz_kM hIm hPM (fun x h1 _ => hf x h1)
  have hPo := zz_ko hPo (hf _ (zz_lt hPo))
  refine lv_istore (lv' := [(5, .int (nI 1)), (4, .int (nI (5 * i9))), (0, .ref b), (1, .ref (ad 0)), (2, .ref (am 0)), (3, .ref o9)]) hx hb dL_law_779 hl (by decide) rfl (fun ls hl => ?_)
  refine lv_aload_n hx hb dL_law_781 rfl (lv_at hl 4 rfl) ?_
  refine lv_aload_n hx hb dL_law_782 rfl (lv_at hl 2 rfl) ?_
  refine lv_iload hx hb dL_law_783 (lv_at hl 1 rfl) ?_
  refine lv_iconst (v := nI 1) hx hb dL_law_785 (by decide) ?_
  refine lv_iadd hx hb dL_law_786 ?_
  refine zt_i (y := nI (5 * i9 + 1)) (nI_add _ _) ?_
  refine va_sld hx hb hX hbl hbA hS (vp_in_nI (n := 5 * i9 + 1) (by omega) (by omega)) dL_law_787 ?_
  rw [nI_clamp (show 5 * i9 + 1 < 2 ^ 31 by omega)]
  rw [e1]
  refine k_X4_cash_no l (x := x) (hq := ahq) (hk := ahk) hx hb hml hown hts hK hPM gL_law_X4_cash ⟨Nat.le_of_ble_eq_true rfl, Nat.le_of_ble_eq_true rfl⟩ ⟨show cells + 1 ≤ 1083 by omega, show slots + 6 ≤ 9657 by omega⟩ hl.1 (Nat.le_of_ble_eq_true rfl) dL_law_788 hIm hAM hS (fun H2 locs hPM hS hf => ?_)
  have hPC := zz_kC hI hPC (fun x h1 h2 => hf x h1 (fun h3 => hCM x h2 h3))
  have hPo := zz_ko hPo (hf _ (zz_lt hPo) hoM)
  refine lv_istore (lv' := [(6, .int (nI 0)), (5, .int (nI 1)), (4, .int (nI (5 * i9))), (0, .ref b), (1, .ref (ad 0)), (2, .ref (am 0)), (3, .ref o9)]) hx hb dL_law_791 hl (by decide) rfl (fun ls hl => ?_)
  refine lv_aload_n hx hb dL_law_793 rfl (lv_at hl 5 rfl) ?_
  refine k_X4_thrown l hx hb hml hown hts hK hPM gL_law_X4_thrown ⟨Nat.le_of_ble_eq_true rfl, Nat.le_of_ble_eq_true rfl⟩ ⟨show cells + 1 ≤ 1083 by omega, show slots + 6 ≤ 9657 by omega⟩ hl.1 (Nat.le_of_ble_eq_true rfl) dL_law_794 ?_
  refine lv_iload hx hb dL_law_797 (lv_at hl 1 rfl) ?_
  refine lv_icmp_eq (tgt := 804) hx hb dL_law_799 (by decide) (fun _ => ?_) (fun h9 => absurd rfl h9)
  refine lv_iload hx hb dL_law_804 (lv_at hl 1 rfl) ?_
  refine lv_if_ne (tgt := 821) hx hb dL_law_806 (by decide) (fun _ => ?_) (fun h9 => absurd h9 (by decide))
  refine lv_goto (tgt := 1529) hx hb dL_law_821 (by decide) ?_
  exact kk _ _ _ _ _ (by omega) (by omega) hPC hPM hPo hS ls (lv_sub hl [2, 3, 4, 5, 6] rfl)
set_option maxHeartbeats 4000000 in
set_option maxRecDepth 100000 in
theorem lo_cash_ise {p : Program} {e : Env} {s : State} {m : MethodId} {below : List Frame} {meth : Method} {c : Code} (l : Launch) (hfl : l.stackTraces = false) {b L : Nat} {xs : Nat → Int32} (C0 : lw_At p s m meth c b L xs) {dC : Nat → ClassId} {dI : Nat → Nat → Nat} {cI cZ cJ : ClassId} {ad am : Nat → Nat} {o9 : Nat} (CC : lwC dC dI cI cZ cJ ad am o9 s) (hT0 : tX (fun q => s.heap.size ≤ q) s s.heap) {sm fe ex dy : Int32} {gp gc op gr st dl wo : Nat → Int32} {n : Nat} {yc ya ys yd : Nat → Int32} {q : Nat} {zc zp zr zs zf : Nat → Int32} {z : Nat} {zm zt : Int64} {pe tp fu sh ro : Nat → Int32} {th : Int32} {fo : Nat → Int64} {k : Nat} {i9 : Nat} (hi9 : 5 * i9 + 5 ≤ L) (hL9 : L ≤ 2560) {H : Heap} {locs : List Loc} {cells slots : Nat} (hc1 : cells ≤ 37 + i9) (hs1 : slots ≤ 1333 + 6 * i9) (hPC : va_P (dC, dI) vwCl (wC cI cZ ad sm fe ex dy gp gc op gr st dl wo n yc ya ys yd q zc zp zr zs zf z zm zt) H) (hPM : va_P (dC, dI) vwCl (wM cI cZ am sm fe ex gp gc dy n pe gr st dl wo q yc ya yd ys tp fu sh ro th) H) (hPo : va_P (dC, dI) vwCl [(o9, .inl (cJ, 1, .inr (.inl fo)))] H) (hS : va_S (fun q : Nat => s.heap.size ≤ q) s.heap H locs) (e1 : xs (5 * i9 + 1) = nI k) (ahq : q ≤ 100) (ahk : k < q) (ah1 : ¬ ys k = 0) {ls : Array Slot} (hl : lv_has ls 7 [(4, .int (nI (5 * i9))), (0, .ref b), (1, .ref (ad 0)), (2, .ref (am 0)), (3, .ref o9)]) (kk : ∀ (fo2 : Nat → Int64) (H2 : Heap) (locs2 : List Loc) (c2 s2 : Nat), c2 ≤ 38 + i9 → s2 ≤ 1339 + 6 * i9 → va_P (dC, dI) vwCl (wC cI cZ ad sm fe ex dy gp gc op gr st dl wo n yc ya ys yd q zc zp zr zs zf z zm zt) H2 → va_P (dC, dI) vwCl (wM cI cZ am sm fe ex gp gc dy n pe gr st dl wo q yc ya yd ys tp fu sh ro (nI 2)) H2 → va_P (dC, dI) vwCl [(o9, .inl (cJ, 1, .inr (.inl fo2)))] H2 → va_S (fun q : Nat => s.heap.size ≤ q) s.heap H2 locs2 → ∀ ls, lv_has ls 7 [(4, .int (nI (5 * i9))), (0, .ref b), (1, .ref (ad 0)), (2, .ref (am 0)), (3, .ref o9)] → W p l e room_1 s m #[Value.ref b] below meth c H2 locs2 c2 s2 (lw_Z below #[Value.ref b] s) (F0 m 1529 ls [])) : W p l e room_1 s m #[Value.ref b] below meth c H locs cells slots (lw_Z below #[Value.ref b] s) (F0 m 768 ls []) := by
  obtain ⟨hx, hb, hr, hml, hown, hts0, hX, hbl, hlocks, hgv⟩ := id C0
  obtain ⟨⟨hI, hIm⟩, ⟨hoC, hoM, hCM⟩, ⟨hAC, hAM, hAo⟩, hK, hKJ, hN⟩ := id CC
  have hts : ∀ w ∈ wsL_law, w.before #[Value.ref b] s = true := fun w hw => hts0 w (wsL_law_in w hw)
  have hown : s.vm.findClass RL = some m.cls := hown
  have hbA : ¬ (fun q : Nat => s.heap.size ≤ q) b := Nat.not_le.mpr hbl
  have hT : tX (fun q => s.heap.size ≤ q) s H := zz_kT hT0 hS
  refine lv_aload_n hx hb dL_law_768 rfl (lv_at hl 2 rfl) ?_
  refine lv_aload_n hx hb dL_law_769 rfl (lv_at hl 1 rfl) ?_
  refine lv_iload hx hb dL_law_770 (lv_at hl 0 rfl) ?_
  refine lv_iconst (v := nI 1) hx hb dL_law_772 (by decide) ?_
  refine lv_iadd hx hb dL_law_773 ?_
  refine zt_i (y := nI (5 * i9 + 1)) (nI_add _ _) ?_
  refine va_sld hx hb hX hbl hbA hS (vp_in_nI (n := 5 * i9 + 1) (by omega) (by omega)) dL_law_774 ?_
  rw [nI_clamp (show 5 * i9 + 1 < 2 ^ 31 by omega)]
  rw [e1]
  refine lv_aload_n hx hb dL_law_775 rfl (lv_at hl 4 rfl) ?_
  refine kh_cash_ise l hfl (cJ := cJ) (o9 := o9) (fo := fo) (k := k) (hq := ahq) (hk := ahk) (h1 := ah1) hx hb hml hown hts hK hPC gL_law_L_cash ⟨Nat.le_of_ble_eq_true rfl, Nat.le_of_ble_eq_true rfl⟩ ⟨show cells + 1 ≤ 1083 by omega, show slots + 6 ≤ 9657 by omega⟩ hl.1 (Nat.le_of_ble_eq_true rfl) dL_law_776 (hT.narrow (fun _ h => h.elim)) hN hS (fun H2 locs hS hz9 hf => ?_)
  have hPC := zz_kC hI hPC (fun x h1 _ => hf x h1)
  have hPM := zz_kM hIm hPM (fun x h1 _ => hf x h1)
  have hPo := zz_ko hPo (hf _ (zz_lt hPo))
  refine lv_istore (lv' := [(5, .int (nI 2)), (4, .int (nI (5 * i9))), (0, .ref b), (1, .ref (ad 0)), (2, .ref (am 0)), (3, .ref o9)]) hx hb dL_law_779 hl (by decide) rfl (fun ls hl => ?_)
  refine lv_aload_n hx hb dL_law_781 rfl (lv_at hl 4 rfl) ?_
  refine lv_aload_n hx hb dL_law_782 rfl (lv_at hl 2 rfl) ?_
  refine lv_iload hx hb dL_law_783 (lv_at hl 1 rfl) ?_
  refine lv_iconst (v := nI 1) hx hb dL_law_785 (by decide) ?_
  refine lv_iadd hx hb dL_law_786 ?_
  refine zt_i (y := nI (5 * i9 + 1)) (nI_add _ _) ?_
  refine va_sld hx hb hX hbl hbA hS (vp_in_nI (n := 5 * i9 + 1) (by omega) (by omega)) dL_law_787 ?_
  rw [nI_clamp (show 5 * i9 + 1 < 2 ^ 31 by omega)]
  rw [e1]
  refine k_X4_cash_2 l (k := k) (hq := ahq) (hk := ahk) (h1 := ah1) hx hb hml hown hts hK hPM gL_law_X4_cash ⟨Nat.le_of_ble_eq_true rfl, Nat.le_of_ble_eq_true rfl⟩ ⟨show cells + 1 ≤ 1083 by omega, show slots + 6 ≤ 9657 by omega⟩ hl.1 (Nat.le_of_ble_eq_true rfl) dL_law_788 hIm hAM hS (fun H2 locs hPM hS hf => ?_)
  have hPC := zz_kC hI hPC (fun x h1 h2 => hf x h1 (fun h3 => hCM x h2 h3))
  have hPo := zz_ko hPo (hf _ (zz_lt hPo) hoM)
  refine lv_istore (lv' := [(6, .int (nI 0)), (5, .int (nI 2)), (4, .int (nI (5 * i9))), (0, .ref b), (1, .ref (ad 0)), (2, .ref (am 0)), (3, .ref o9)]) hx hb dL_law_791 hl (by decide) rfl (fun ls hl => ?_)
  refine lv_aload_n hx hb dL_law_793 rfl (lv_at hl 5 rfl) ?_
  refine k_X4_thrown l hx hb hml hown hts hK hPM gL_law_X4_thrown ⟨Nat.le_of_ble_eq_true rfl, Nat.le_of_ble_eq_true rfl⟩ ⟨show cells + 1 ≤ 1083 by omega, show slots + 6 ≤ 9657 by omega⟩ hl.1 (Nat.le_of_ble_eq_true rfl) dL_law_794 ?_
  refine lv_iload hx hb dL_law_797 (lv_at hl 1 rfl) ?_
  refine lv_icmp_eq (tgt := 804) hx hb dL_law_799 (by decide) (fun _ => ?_) (fun h9 => absurd rfl h9)
  refine lv_iload hx hb dL_law_804 (lv_at hl 1 rfl) ?_
  refine lv_if_ne (tgt := 821) hx hb dL_law_806 (by decide) (fun _ => ?_) (fun h9 => absurd h9 (by decide))
  refine lv_goto (tgt := 1529) hx hb dL_law_821 (by decide) ?_
  exact kk _ _ _ _ _ (by omega) (by omega) hPC hPM hPo hS ls (lv_sub hl [2, 3, 4, 5, 6] rfl)
set_option maxHeartbeats 4000000 in
set_option maxRecDepth 100000 in
theorem lo_claimOf_ok {p : Program} {e : Env} {s : State} {m : MethodId} {below : List Frame} {meth : Method} {c : Code} (l : Launch) (hfl : l.stackTraces = false) {b L : Nat} {xs : Nat → Int32} (C0 : lw_At p s m meth c b L xs) {dC : Nat → ClassId} {dI : Nat → Nat → Nat} {cI cZ cJ : ClassId} {ad am : Nat → Nat} {o9 : Nat} (CC : lwC dC dI cI cZ cJ ad am o9 s) (hT0 : tX (fun q => s.heap.size ≤ q) s s.heap) {sm fe ex dy : Int32} {gp gc op gr st dl wo : Nat → Int32} {n : Nat} {yc ya ys yd : Nat → Int32} {q : Nat} {zc zp zr zs zf : Nat → Int32} {z : Nat} {zm zt : Int64} {pe tp fu sh ro : Nat → Int32} {th : Int32} {fo : Nat → Int64} {k : Nat} {i9 : Nat} (hi9 : 5 * i9 + 5 ≤ L) (hL9 : L ≤ 2560) {H : Heap} {locs : List Loc} {cells slots : Nat} (hc1 : cells ≤ 37 + i9) (hs1 : slots ≤ 1333 + 6 * i9) (hPC : va_P (dC, dI) vwCl (wC cI cZ ad sm fe ex dy gp gc op gr st dl wo n yc ya ys yd q zc zp zr zs zf z zm zt) H) (hPM : va_P (dC, dI) vwCl (wM cI cZ am sm fe ex gp gc dy n pe gr st dl wo q yc ya yd ys tp fu sh ro th) H) (hPo : va_P (dC, dI) vwCl [(o9, .inl (cJ, 1, .inr (.inl fo)))] H) (hS : va_S (fun q : Nat => s.heap.size ≤ q) s.heap H locs) (e1 : xs (5 * i9 + 1) = nI k) (ahk : k < 30) (ah1 : outN (nI k) (nI 0) (nI 29) = 0) (bhn : n ≤ 24) (hop9 : op k = ofP pe (nI k) n) {ls : Array Slot} (hl : lv_has ls 7 [(4, .int (nI (5 * i9))), (0, .ref b), (1, .ref (ad 0)), (2, .ref (am 0)), (3, .ref o9)]) (kk : ∀ (fo2 : Nat → Int64) (H2 : Heap) (locs2 : List Loc) (c2 s2 : Nat), c2 ≤ 38 + i9 → s2 ≤ 1339 + 6 * i9 → va_P (dC, dI) vwCl (wC cI cZ ad sm fe ex dy gp gc op gr st dl wo n yc ya ys yd q zc zp zr zs zf z zm zt) H2 → va_P (dC, dI) vwCl (wM cI cZ am sm fe ex gp gc dy n pe gr st dl wo q yc ya yd ys tp fu sh ro (nI 0)) H2 → va_P (dC, dI) vwCl [(o9, .inl (cJ, 1, .inr (.inl fo2)))] H2 → va_S (fun q : Nat => s.heap.size ≤ q) s.heap H2 locs2 → ∀ ls, lv_has ls 7 [(4, .int (nI (5 * i9))), (0, .ref b), (1, .ref (ad 0)), (2, .ref (am 0)), (3, .ref o9)] → W p l e room_1 s m #[Value.ref b] below meth c H2 locs2 c2 s2 (lw_Z below #[Value.ref b] s) (F0 m 1529 ls [])) : W p l e room_1 s m #[Value.ref b] below meth c H locs cells slots (lw_Z below #[Value.ref b] s) (F0 m 850 ls []) := by
  obtain ⟨hx, hb, hr, hml, hown, hts0, hX, hbl, hlocks, hgv⟩ := id C0
  obtain ⟨⟨hI, hIm⟩, ⟨hoC, hoM, hCM⟩, ⟨hAC, hAM, hAo⟩, hK, hKJ, hN⟩ := id CC
  have hts : ∀ w ∈ wsL_law, w.before #[Value.ref b] s = true := fun w hw => hts0 w (wsL_law_in w hw)
  have hown : s.vm.findClass RL = some m.cls := hown
  have hbA : ¬ (fun q : Nat => s.heap.size ≤ q) b := Nat.not_le.mpr hbl
  have hT : tX (fun q => s.heap.size ≤ q) s H := zz_kT hT0 hS
  refine lv_aload_n hx hb dL_law_850 rfl (lv_at hl 2 rfl) ?_
  refine lv_aload_n hx hb dL_law_851 rfl (lv_at hl 1 rfl) ?_
  refine lv_iload hx hb dL_law_852 (lv_at hl 0 rfl) ?_
  refine lv_iconst (v := nI 1) hx hb dL_law_854 (by decide) ?_
  refine lv_iadd hx hb dL_law_855 ?_
  refine zt_i (y := nI (5 * i9 + 1)) (nI_add _ _) ?_
  refine va_sld hx hb hX hbl hbA hS (vp_in_nI (n := 5 * i9 + 1) (by omega) (by omega)) dL_law_856 ?_
  rw [nI_clamp (show 5 * i9 + 1 < 2 ^ 31 by omega)]
  rw [e1]
  refine lv_aload_n hx hb dL_law_857 rfl (lv_at hl 4 rfl) ?_
  refine kh_claimOf_ok l (cJ := cJ) (o9 := o9) (fo := fo) (k := k) (hk := ahk) (h1 := ah1) hx hb hml hown hts hK hPC gL_law_L_claimOf ⟨Nat.le_of_ble_eq_true rfl, Nat.le_of_ble_eq_true rfl⟩ ⟨show cells + 0 ≤ 1083 by omega, show slots + 0 ≤ 9657 by omega⟩ hl.1 (Nat.le_of_ble_eq_true rfl) dL_law_858 hI hoC hPo hKJ (fun x h => h.elim (hAC x) (fun h => by rw [h]; exact hAo)) hS (fun u9 H2 locs hPC fo hf9 hPo hS hz9 hf => ?_)
  have hPM := zz_kM hIm hPM (fun x h1 h2 => hf x h1 (fun h3 => h3.elim (fun h3 => hCM x h3 h2) (fun h3 => hoM (by rw [← h3]; exact h2))))
  refine lv_istore (lv' := [(5, .int (nI 0)), (4, .int (nI (5 * i9))), (0, .ref b), (1, .ref (ad 0)), (2, .ref (am 0)), (3, .ref o9)]) hx hb dL_law_861 hl (by decide) rfl (fun ls hl => ?_)
  refine lv_aload_n hx hb dL_law_863 rfl (lv_at hl 4 rfl) ?_
  refine lv_aload_n hx hb dL_law_864 rfl (lv_at hl 2 rfl) ?_
  refine lv_iload hx hb dL_law_865 (lv_at hl 1 rfl) ?_
  refine lv_iconst (v := nI 1) hx hb dL_law_867 (by decide) ?_
  refine lv_iadd hx hb dL_law_868 ?_
  refine zt_i (y := nI (5 * i9 + 1)) (nI_add _ _) ?_
  refine va_sld hx hb hX hbl hbA hS (vp_in_nI (n := 5 * i9 + 1) (by omega) (by omega)) dL_law_869 ?_
  rw [nI_clamp (show 5 * i9 + 1 < 2 ^ 31 by omega)]
  rw [e1]
  refine k_X4_claimOf_ok l (x := (nI k)) (hn := bhn) (h1 := ah1) hx hb hml hown hts hK hPM gL_law_X4_claimOf ⟨Nat.le_of_ble_eq_true rfl, Nat.le_of_ble_eq_true rfl⟩ ⟨show cells + 0 ≤ 1083 by omega, show slots + 0 ≤ 9657 by omega⟩ hl.1 (Nat.le_of_ble_eq_true rfl) dL_law_870 hIm hAM hS (fun H2 locs hPM hS hf => ?_)
  have hPC := zz_kC hI hPC (fun x h1 h2 => hf x h1 (fun h3 => hCM x h2 h3))
  have hPo := zz_ko hPo (hf _ (zz_lt hPo) hoM)
  refine lv_istore (lv' := [(6, .int (ofP pe (nI k) n)), (5, .int (nI 0)), (4, .int (nI (5 * i9))), (0, .ref b), (1, .ref (ad 0)), (2, .ref (am 0)), (3, .ref o9)]) hx hb dL_law_873 hl (by decide) rfl (fun ls hl => ?_)
  refine lv_aload_n hx hb dL_law_875 rfl (lv_at hl 5 rfl) ?_
  refine k_X4_thrown l hx hb hml hown hts hK hPM gL_law_X4_thrown ⟨Nat.le_of_ble_eq_true rfl, Nat.le_of_ble_eq_true rfl⟩ ⟨show cells + 0 ≤ 1083 by omega, show slots + 0 ≤ 9657 by omega⟩ hl.1 (Nat.le_of_ble_eq_true rfl) dL_law_876 ?_
  refine lv_iload hx hb dL_law_879 (lv_at hl 1 rfl) ?_
  refine lv_icmp_eq (tgt := 886) hx hb dL_law_881 (by decide) (fun _ => ?_) (fun h9 => absurd rfl h9)
  refine lv_iload hx hb dL_law_886 (lv_at hl 1 rfl) ?_
  refine lv_if_ne (tgt := 903) hx hb dL_law_888 (by decide) (fun h9 => absurd (by decide) h9) (fun _ => ?_)
  refine lv_aload_n hx hb dL_law_891 rfl (lv_at hl 6 rfl) ?_
  refine lv_iconst (v := nI 0) hx hb dL_law_892 (by decide) ?_
  refine va_lald hx hb hKJ hPo 0 0 rfl rfl (vp_in_nI (n := 0) (by decide) (by decide)) dL_law_893 ?_
  refine zt_l (y := (op k).toInt64) (by rw [show (nI 0).toNatClampNeg = 0 by decide]; exact hf9) ?_
  refine lv_iload hx hb dL_law_894 (lv_at hl 0 rfl) ?_
  refine lv_i2l (v := (ofP pe (nI k) n).toInt64) hx hb dL_law_896 rfl ?_
  refine W.lcmp hx hb dL_law_897 ?_
  refine zg_eq (tgt := 903) hx hb dL_law_898 (by decide) (fun _ => ?_) (fun h9 => absurd (congrArg Int32.toInt64 hop9) h9)
  refine lv_goto (tgt := 1529) hx hb dL_law_903 (by decide) ?_
  exact kk _ _ _ _ _ (by omega) (by omega) hPC hPM hPo hS ls (lv_sub hl [2, 3, 4, 5, 6] rfl)
set_option maxHeartbeats 4000000 in
set_option maxRecDepth 100000 in
theorem lo_claimOf_no {p : Program} {e : Env} {s : State} {m : MethodId} {below : List Frame} {meth : Method} {c : Code} (l : Launch) (hfl : l.stackTraces = false) {b L : Nat} {xs : Nat → Int32} (C0 : lw_At p s m meth c b L xs) {dC : Nat → ClassId} {dI : Nat → Nat → Nat} {cI cZ cJ : ClassId} {ad am : Nat → Nat} {o9 : Nat} (CC : lwC dC dI cI cZ cJ ad am o9 s) (hT0 : tX (fun q => s.heap.size ≤ q) s s.heap) {sm fe ex dy : Int32} {gp gc op gr st dl wo : Nat → Int32} {n : Nat} {yc ya ys yd : Nat → Int32} {q : Nat} {zc zp zr zs zf : Nat → Int32} {z : Nat} {zm zt : Int64} {pe tp fu sh ro : Nat → Int32} {th : Int32} {fo : Nat → Int64} {x : Int32} {i9 : Nat} (hi9 : 5 * i9 + 5 ≤ L) (hL9 : L ≤ 2560) {H : Heap} {locs : List Loc} {cells slots : Nat} (hc1 : cells ≤ 37 + i9) (hs1 : slots ≤ 1333 + 6 * i9) (hPC : va_P (dC, dI) vwCl (wC cI cZ ad sm fe ex dy gp gc op gr st dl wo n yc ya ys yd q zc zp zr zs zf z zm zt) H) (hPM : va_P (dC, dI) vwCl (wM cI cZ am sm fe ex gp gc dy n pe gr st dl wo q yc ya yd ys tp fu sh ro th) H) (hPo : va_P (dC, dI) vwCl [(o9, .inl (cJ, 1, .inr (.inl fo)))] H) (hS : va_S (fun q : Nat => s.heap.size ≤ q) s.heap H locs) (e1 : xs (5 * i9 + 1) = x) (ah1 : ¬ outN x (nI 0) (nI 29) = 0) {ls : Array Slot} (hl : lv_has ls 7 [(4, .int (nI (5 * i9))), (0, .ref b), (1, .ref (ad 0)), (2, .ref (am 0)), (3, .ref o9)]) (kk : ∀ (fo2 : Nat → Int64) (H2 : Heap) (locs2 : List Loc) (c2 s2 : Nat), c2 ≤ 38 + i9 → s2 ≤ 1339 + 6 * i9 → va_P (dC, dI) vwCl (wC cI cZ ad sm fe ex dy gp gc op gr st dl wo n yc ya ys yd q zc zp zr zs zf z zm zt) H2 → va_P (dC, dI) vwCl (wM cI cZ am sm fe ex gp gc dy n pe gr st dl wo q yc ya yd ys tp fu sh ro (nI 1)) H2 → va_P (dC, dI) vwCl [(o9, .inl (cJ, 1, .inr (.inl fo2)))] H2 → va_S (fun q : Nat => s.heap.size ≤ q) s.heap H2 locs2 → ∀ ls, lv_has ls 7 [(4, .int (nI (5 * i9))), (0, .ref b), (1, .ref (ad 0)), (2, .ref (am 0)), (3, .ref o9)] → W p l e room_1 s m #[Value.ref b] below meth c H2 locs2 c2 s2 (lw_Z below #[Value.ref b] s) (F0 m 1529 ls [])) : W p l e room_1 s m #[Value.ref b] below meth c H locs cells slots (lw_Z below #[Value.ref b] s) (F0 m 850 ls []) := by
  obtain ⟨hx, hb, hr, hml, hown, hts0, hX, hbl, hlocks, hgv⟩ := id C0
  obtain ⟨⟨hI, hIm⟩, ⟨hoC, hoM, hCM⟩, ⟨hAC, hAM, hAo⟩, hK, hKJ, hN⟩ := id CC
  have hts : ∀ w ∈ wsL_law, w.before #[Value.ref b] s = true := fun w hw => hts0 w (wsL_law_in w hw)
  have hown : s.vm.findClass RL = some m.cls := hown
  have hbA : ¬ (fun q : Nat => s.heap.size ≤ q) b := Nat.not_le.mpr hbl
  have hT : tX (fun q => s.heap.size ≤ q) s H := zz_kT hT0 hS
  refine lv_aload_n hx hb dL_law_850 rfl (lv_at hl 2 rfl) ?_
  refine lv_aload_n hx hb dL_law_851 rfl (lv_at hl 1 rfl) ?_
  refine lv_iload hx hb dL_law_852 (lv_at hl 0 rfl) ?_
  refine lv_iconst (v := nI 1) hx hb dL_law_854 (by decide) ?_
  refine lv_iadd hx hb dL_law_855 ?_
  refine zt_i (y := nI (5 * i9 + 1)) (nI_add _ _) ?_
  refine va_sld hx hb hX hbl hbA hS (vp_in_nI (n := 5 * i9 + 1) (by omega) (by omega)) dL_law_856 ?_
  rw [nI_clamp (show 5 * i9 + 1 < 2 ^ 31 by omega)]
  rw [e1]
  refine lv_aload_n hx hb dL_law_857 rfl (lv_at hl 4 rfl) ?_
  refine kh_claimOf_no l hfl (cJ := cJ) (o9 := o9) (fo := fo) (x := x) (h1 := ah1) hx hb hml hown hts hK hPC gL_law_L_claimOf ⟨Nat.le_of_ble_eq_true rfl, Nat.le_of_ble_eq_true rfl⟩ ⟨show cells + 1 ≤ 1083 by omega, show slots + 6 ≤ 9657 by omega⟩ hl.1 (Nat.le_of_ble_eq_true rfl) dL_law_858 (hT.narrow (fun _ h => h.elim)) hN hS (fun H2 locs hS hz9 hf => ?_)
  have hPC := zz_kC hI hPC (fun x h1 _ => hf x h1)
  have hPM := zz_kM hIm hPM (fun x h1 _ => hf x h1)
  have hPo := zz_ko hPo (hf _ (zz_lt hPo))
  refine lv_istore (lv' := [(5, .int (nI 1)), (4, .int (nI (5 * i9))), (0, .ref b), (1, .ref (ad 0)), (2, .ref (am 0)), (3, .ref o9)]) hx hb dL_law_861 hl (by decide) rfl (fun ls hl => ?_)
  refine lv_aload_n hx hb dL_law_863 rfl (lv_at hl 4 rfl) ?_
  refine lv_aload_n hx hb dL_law_864 rfl (lv_at hl 2 rfl) ?_
  refine lv_iload hx hb dL_law_865 (lv_at hl 1 rfl) ?_
  refine lv_iconst (v := nI 1) hx hb dL_law_867 (by decide) ?_
  refine lv_iadd hx hb dL_law_868 ?_
  refine zt_i (y := nI (5 * i9 + 1)) (nI_add _ _) ?_
  refine va_sld hx hb hX hbl hbA hS (vp_in_nI (n := 5 * i9 + 1) (by omega) (by omega)) dL_law_869 ?_
  rw [nI_clamp (show 5 * i9 + 1 < 2 ^ 31 by omega)]
  rw [e1]
  refine k_X4_claimOf_no l (x := x) (h1 := ah1) hx hb hml hown hts hK hPM gL_law_X4_claimOf ⟨Nat.le_of_ble_eq_true rfl, Nat.le_of_ble_eq_true rfl⟩ ⟨show cells + 1 ≤ 1083 by omega, show slots + 6 ≤ 9657 by omega⟩ hl.1 (Nat.le_of_ble_eq_true rfl) dL_law_870 hIm hAM hS (fun H2 locs hPM hS hf => ?_)
  have hPC := zz_kC hI hPC (fun x h1 h2 => hf x h1 (fun h3 => hCM x h2 h3))
  have hPo := zz_ko hPo (hf _ (zz_lt hPo) hoM)
  refine lv_istore (lv' := [(6, .int (nI 0)), (5, .int (nI 1)), (4, .int (nI (5 * i9))), (0, .ref b), (1, .ref (ad 0)), (2, .ref (am 0)), (3, .ref o9)]) hx hb dL_law_873 hl (by decide) rfl (fun ls hl => ?_)
  refine lv_aload_n hx hb dL_law_875 rfl (lv_at hl 5 rfl) ?_
  refine k_X4_thrown l hx hb hml hown hts hK hPM gL_law_X4_thrown ⟨Nat.le_of_ble_eq_true rfl, Nat.le_of_ble_eq_true rfl⟩ ⟨show cells + 1 ≤ 1083 by omega, show slots + 6 ≤ 9657 by omega⟩ hl.1 (Nat.le_of_ble_eq_true rfl) dL_law_876 ?_
  refine lv_iload hx hb dL_law_879 (lv_at hl 1 rfl) ?_
  refine lv_icmp_eq (tgt := 886) hx hb dL_law_881 (by decide) (fun _ => ?_) (fun h9 => absurd rfl h9)
  refine lv_iload hx hb dL_law_886 (lv_at hl 1 rfl) ?_
  refine lv_if_ne (tgt := 903) hx hb dL_law_888 (by decide) (fun _ => ?_) (fun h9 => absurd h9 (by decide))
  refine lv_goto (tgt := 1529) hx hb dL_law_903 (by decide) ?_
  exact kk _ _ _ _ _ (by omega) (by omega) hPC hPM hPo hS ls (lv_sub hl [2, 3, 4, 5, 6] rfl)
set_option maxHeartbeats 4000000 in
set_option maxRecDepth 100000 in
theorem lo_stateOf_ok {p : Program} {e : Env} {s : State} {m : MethodId} {below : List Frame} {meth : Method} {c : Code} (l : Launch) (hfl : l.stackTraces = false) {b L : Nat} {xs : Nat → Int32} (C0 : lw_At p s m meth c b L xs) {dC : Nat → ClassId} {dI : Nat → Nat → Nat} {cI cZ cJ : ClassId} {ad am : Nat → Nat} {o9 : Nat} (CC : lwC dC dI cI cZ cJ ad am o9 s) (hT0 : tX (fun q => s.heap.size ≤ q) s s.heap) {sm fe ex dy : Int32} {gp gc op gr st dl wo : Nat → Int32} {n : Nat} {yc ya ys yd : Nat → Int32} {q : Nat} {zc zp zr zs zf : Nat → Int32} {z : Nat} {zm zt : Int64} {pe tp fu sh ro : Nat → Int32} {th : Int32} {fo : Nat → Int64} {k : Nat} {i9 : Nat} (hi9 : 5 * i9 + 5 ≤ L) (hL9 : L ≤ 2560) {H : Heap} {locs : List Loc} {cells slots : Nat} (hc1 : cells ≤ 37 + i9) (hs1 : slots ≤ 1333 + 6 * i9) (hPC : va_P (dC, dI) vwCl (wC cI cZ ad sm fe ex dy gp gc op gr st dl wo n yc ya ys yd q zc zp zr zs zf z zm zt) H) (hPM : va_P (dC, dI) vwCl (wM cI cZ am sm fe ex gp gc dy n pe gr st dl wo q yc ya yd ys tp fu sh ro th) H) (hPo : va_P (dC, dI) vwCl [(o9, .inl (cJ, 1, .inr (.inl fo)))] H) (hS : va_S (fun q : Nat => s.heap.size ≤ q) s.heap H locs) (e1 : xs (5 * i9 + 1) = nI k) (ahn : n ≤ 24) (ahk : k < n) {ls : Array Slot} (hl : lv_has ls 7 [(4, .int (nI (5 * i9))), (0, .ref b), (1, .ref (ad 0)), (2, .ref (am 0)), (3, .ref o9)]) (kk : ∀ (fo2 : Nat → Int64) (H2 : Heap) (locs2 : List Loc) (c2 s2 : Nat), c2 ≤ 38 + i9 → s2 ≤ 1339 + 6 * i9 → va_P (dC, dI) vwCl (wC cI cZ ad sm fe ex dy gp gc op gr st dl wo n yc ya ys yd q zc zp zr zs zf z zm zt) H2 → va_P (dC, dI) vwCl (wM cI cZ am sm fe ex gp gc dy n pe gr st dl wo q yc ya yd ys tp fu sh ro (nI 0)) H2 → va_P (dC, dI) vwCl [(o9, .inl (cJ, 1, .inr (.inl fo2)))] H2 → va_S (fun q : Nat => s.heap.size ≤ q) s.heap H2 locs2 → ∀ ls, lv_has ls 7 [(4, .int (nI (5 * i9))), (0, .ref b), (1, .ref (ad 0)), (2, .ref (am 0)), (3, .ref o9)] → W p l e room_1 s m #[Value.ref b] below meth c H2 locs2 c2 s2 (lw_Z below #[Value.ref b] s) (F0 m 1529 ls [])) : W p l e room_1 s m #[Value.ref b] below meth c H locs cells slots (lw_Z below #[Value.ref b] s) (F0 m 906 ls []) := by
  obtain ⟨hx, hb, hr, hml, hown, hts0, hX, hbl, hlocks, hgv⟩ := id C0
  obtain ⟨⟨hI, hIm⟩, ⟨hoC, hoM, hCM⟩, ⟨hAC, hAM, hAo⟩, hK, hKJ, hN⟩ := id CC
  have hts : ∀ w ∈ wsL_law, w.before #[Value.ref b] s = true := fun w hw => hts0 w (wsL_law_in w hw)
  have hown : s.vm.findClass RL = some m.cls := hown
  have hbA : ¬ (fun q : Nat => s.heap.size ≤ q) b := Nat.not_le.mpr hbl
  have hT : tX (fun q => s.heap.size ≤ q) s H := zz_kT hT0 hS
  refine lv_aload_n hx hb dL_law_906 rfl (lv_at hl 2 rfl) ?_
  refine lv_aload_n hx hb dL_law_907 rfl (lv_at hl 1 rfl) ?_
  refine lv_iload hx hb dL_law_908 (lv_at hl 0 rfl) ?_
  refine lv_iconst (v := nI 1) hx hb dL_law_910 (by decide) ?_
  refine lv_iadd hx hb dL_law_911 ?_
  refine zt_i (y := nI (5 * i9 + 1)) (nI_add _ _) ?_
  refine va_sld hx hb hX hbl hbA hS (vp_in_nI (n := 5 * i9 + 1) (by omega) (by omega)) dL_law_912 ?_
  rw [nI_clamp (show 5 * i9 + 1 < 2 ^ 31 by omega)]
  rw [e1]
  refine lv_aload_n hx hb dL_law_913 rfl (lv_at hl 4 rfl) ?_
  refine kh_stateOf_ok l (cJ := cJ) (o9 := o9) (fo := fo) (k := k) (hn := ahn) (hk := ahk) hx hb hml hown hts hK hPC gL_law_L_stateOf ⟨Nat.le_of_ble_eq_true rfl, Nat.le_of_ble_eq_true rfl⟩ ⟨show cells + 0 ≤ 1083 by omega, show slots + 0 ≤ 9657 by omega⟩ hl.1 (Nat.le_of_ble_eq_true rfl) dL_law_914 hI hoC hPo hKJ (fun x h => h.elim (hAC x) (fun h => by rw [h]; exact hAo)) hS (fun u9 H2 locs hPC fo hf9 hPo hS hz9 hf => ?_)
  have hPM := zz_kM hIm hPM (fun x h1 h2 => hf x h1 (fun h3 => h3.elim (fun h3 => hCM x h3 h2) (fun h3 => hoM (by rw [← h3]; exact h2))))
  refine lv_istore (lv' := [(5, .int (nI 0)), (4, .int (nI (5 * i9))), (0, .ref b), (1, .ref (ad 0)), (2, .ref (am 0)), (3, .ref o9)]) hx hb dL_law_917 hl (by decide) rfl (fun ls hl => ?_)
  refine lv_aload_n hx hb dL_law_919 rfl (lv_at hl 4 rfl) ?_
  refine lv_aload_n hx hb dL_law_920 rfl (lv_at hl 2 rfl) ?_
  refine lv_iload hx hb dL_law_921 (lv_at hl 1 rfl) ?_
  refine lv_iconst (v := nI 1) hx hb dL_law_923 (by decide) ?_
  refine lv_iadd hx hb dL_law_924 ?_
  refine zt_i (y := nI (5 * i9 + 1)) (nI_add _ _) ?_
  refine va_sld hx hb hX hbl hbA hS (vp_in_nI (n := 5 * i9 + 1) (by omega) (by omega)) dL_law_925 ?_
  rw [nI_clamp (show 5 * i9 + 1 < 2 ^ 31 by omega)]
  rw [e1]
  refine k_X4_stateOf_ok l (k := k) (hn := ahn) (hk := ahk) hx hb hml hown hts hK hPM gL_law_X4_stateOf ⟨Nat.le_of_ble_eq_true rfl, Nat.le_of_ble_eq_true rfl⟩ ⟨show cells + 0 ≤ 1083 by omega, show slots + 0 ≤ 9657 by omega⟩ hl.1 (Nat.le_of_ble_eq_true rfl) dL_law_926 hIm hAM hS (fun H2 locs hPM hS hf => ?_)
  have hPC := zz_kC hI hPC (fun x h1 h2 => hf x h1 (fun h3 => hCM x h2 h3))
  have hPo := zz_ko hPo (hf _ (zz_lt hPo) hoM)
  refine lv_istore (lv' := [(6, .int (st k)), (5, .int (nI 0)), (4, .int (nI (5 * i9))), (0, .ref b), (1, .ref (ad 0)), (2, .ref (am 0)), (3, .ref o9)]) hx hb dL_law_929 hl (by decide) rfl (fun ls hl => ?_)
  refine lv_aload_n hx hb dL_law_931 rfl (lv_at hl 5 rfl) ?_
  refine k_X4_thrown l hx hb hml hown hts hK hPM gL_law_X4_thrown ⟨Nat.le_of_ble_eq_true rfl, Nat.le_of_ble_eq_true rfl⟩ ⟨show cells + 0 ≤ 1083 by omega, show slots + 0 ≤ 9657 by omega⟩ hl.1 (Nat.le_of_ble_eq_true rfl) dL_law_932 ?_
  refine lv_iload hx hb dL_law_935 (lv_at hl 1 rfl) ?_
  refine lv_icmp_eq (tgt := 942) hx hb dL_law_937 (by decide) (fun _ => ?_) (fun h9 => absurd rfl h9)
  refine lv_iload hx hb dL_law_942 (lv_at hl 1 rfl) ?_
  refine lv_if_ne (tgt := 959) hx hb dL_law_944 (by decide) (fun h9 => absurd (by decide) h9) (fun _ => ?_)
  refine lv_aload_n hx hb dL_law_947 rfl (lv_at hl 6 rfl) ?_
  refine lv_iconst (v := nI 0) hx hb dL_law_948 (by decide) ?_
  refine va_lald hx hb hKJ hPo 0 0 rfl rfl (vp_in_nI (n := 0) (by decide) (by decide)) dL_law_949 ?_
  refine zt_l (y := (st k).toInt64) (by rw [show (nI 0).toNatClampNeg = 0 by decide]; exact hf9) ?_
  refine lv_iload hx hb dL_law_950 (lv_at hl 0 rfl) ?_
  refine lv_i2l (v := (st k).toInt64) hx hb dL_law_952 rfl ?_
  refine W.lcmp hx hb dL_law_953 ?_
  refine zg_eq (tgt := 959) hx hb dL_law_954 (by decide) (fun _ => ?_) (fun h9 => absurd (rfl) h9)
  refine lv_goto (tgt := 1529) hx hb dL_law_959 (by decide) ?_
  exact kk _ _ _ _ _ (by omega) (by omega) hPC hPM hPo hS ls (lv_sub hl [2, 3, 4, 5, 6] rfl)
set_option maxHeartbeats 4000000 in
set_option maxRecDepth 100000 in
theorem lo_stateOf_no {p : Program} {e : Env} {s : State} {m : MethodId} {below : List Frame} {meth : Method} {c : Code} (l : Launch) (hfl : l.stackTraces = false) {b L : Nat} {xs : Nat → Int32} (C0 : lw_At p s m meth c b L xs) {dC : Nat → ClassId} {dI : Nat → Nat → Nat} {cI cZ cJ : ClassId} {ad am : Nat → Nat} {o9 : Nat} (CC : lwC dC dI cI cZ cJ ad am o9 s) (hT0 : tX (fun q => s.heap.size ≤ q) s s.heap) {sm fe ex dy : Int32} {gp gc op gr st dl wo : Nat → Int32} {n : Nat} {yc ya ys yd : Nat → Int32} {q : Nat} {zc zp zr zs zf : Nat → Int32} {z : Nat} {zm zt : Int64} {pe tp fu sh ro : Nat → Int32} {th : Int32} {fo : Nat → Int64} {x : Int32} {i9 : Nat} (hi9 : 5 * i9 + 5 ≤ L) (hL9 : L ≤ 2560) {H : Heap} {locs : List Loc} {cells slots : Nat} (hc1 : cells ≤ 37 + i9) (hs1 : slots ≤ 1333 + 6 * i9) (hPC : va_P (dC, dI) vwCl (wC cI cZ ad sm fe ex dy gp gc op gr st dl wo n yc ya ys yd q zc zp zr zs zf z zm zt) H) (hPM : va_P (dC, dI) vwCl (wM cI cZ am sm fe ex gp gc dy n pe gr st dl wo q yc ya yd ys tp fu sh ro th) H) (hPo : va_P (dC, dI) vwCl [(o9, .inl (cJ, 1, .inr (.inl fo)))] H) (hS : va_S (fun q : Nat => s.heap.size ≤ q) s.heap H locs) (e1 : xs (5 * i9 + 1) = x) (ahn : n ≤ 24) (ahk : ¬ vp_in x n) {ls : Array Slot} (hl : lv_has ls 7 [(4, .int (nI (5 * i9))), (0, .ref b), (1, .ref (ad 0)), (2, .ref (am 0)), (3, .ref o9)]) (kk : ∀ (fo2 : Nat → Int64) (H2 : Heap) (locs2 : List Loc) (c2 s2 : Nat), c2 ≤ 38 + i9 → s2 ≤ 1339 + 6 * i9 → va_P (dC, dI) vwCl (wC cI cZ ad sm fe ex dy gp gc op gr st dl wo n yc ya ys yd q zc zp zr zs zf z zm zt) H2 → va_P (dC, dI) vwCl (wM cI cZ am sm fe ex gp gc dy n pe gr st dl wo q yc ya yd ys tp fu sh ro (nI 1)) H2 → va_P (dC, dI) vwCl [(o9, .inl (cJ, 1, .inr (.inl fo2)))] H2 → va_S (fun q : Nat => s.heap.size ≤ q) s.heap H2 locs2 → ∀ ls, lv_has ls 7 [(4, .int (nI (5 * i9))), (0, .ref b), (1, .ref (ad 0)), (2, .ref (am 0)), (3, .ref o9)] → W p l e room_1 s m #[Value.ref b] below meth c H2 locs2 c2 s2 (lw_Z below #[Value.ref b] s) (F0 m 1529 ls [])) : W p l e room_1 s m #[Value.ref b] below meth c H locs cells slots (lw_Z below #[Value.ref b] s) (F0 m 906 ls []) := by
  obtain ⟨hx, hb, hr, hml, hown, hts0, hX, hbl, hlocks, hgv⟩ := id C0
  obtain ⟨⟨hI, hIm⟩, ⟨hoC, hoM, hCM⟩, ⟨hAC, hAM, hAo⟩, hK, hKJ, hN⟩ := id CC
  have hts : ∀ w ∈ wsL_law, w.before #[Value.ref b] s = true := fun w hw => hts0 w (wsL_law_in w hw)
  have hown : s.vm.findClass RL = some m.cls := hown
  have hbA : ¬ (fun q : Nat => s.heap.size ≤ q) b := Nat.not_le.mpr hbl
  have hT : tX (fun q => s.heap.size ≤ q) s H := zz_kT hT0 hS
  refine lv_aload_n hx hb dL_law_906 rfl (lv_at hl 2 rfl) ?_
  refine lv_aload_n hx hb dL_law_907 rfl (lv_at hl 1 rfl) ?_
  refine lv_iload hx hb dL_law_908 (lv_at hl 0 rfl) ?_
  refine lv_iconst (v := nI 1) hx hb dL_law_910 (by decide) ?_
  refine lv_iadd hx hb dL_law_911 ?_
  refine zt_i (y := nI (5 * i9 + 1)) (nI_add _ _) ?_
  refine va_sld hx hb hX hbl hbA hS (vp_in_nI (n := 5 * i9 + 1) (by omega) (by omega)) dL_law_912 ?_
  rw [nI_clamp (show 5 * i9 + 1 < 2 ^ 31 by omega)]
  rw [e1]
  refine lv_aload_n hx hb dL_law_913 rfl (lv_at hl 4 rfl) ?_
  refine kh_stateOf_no l hfl (cJ := cJ) (o9 := o9) (fo := fo) (x := x) (hn := ahn) (hk := ahk) hx hb hml hown hts hK hPC gL_law_L_stateOf ⟨Nat.le_of_ble_eq_true rfl, Nat.le_of_ble_eq_true rfl⟩ ⟨show cells + 1 ≤ 1083 by omega, show slots + 6 ≤ 9657 by omega⟩ hl.1 (Nat.le_of_ble_eq_true rfl) dL_law_914 (hT.narrow (fun _ h => h.elim)) hN hS (fun H2 locs hS hz9 hf => ?_)
  have hPC := zz_kC hI hPC (fun x h1 _ => hf x h1)
  have hPM := zz_kM hIm hPM (fun x h1 _ => hf x h1)
  have hPo := zz_ko hPo (hf _ (zz_lt hPo))
  refine lv_istore (lv' := [(5, .int (nI 1)), (4, .int (nI (5 * i9))), (0, .ref b), (1, .ref (ad 0)), (2, .ref (am 0)), (3, .ref o9)]) hx hb dL_law_917 hl (by decide) rfl (fun ls hl => ?_)
  refine lv_aload_n hx hb dL_law_919 rfl (lv_at hl 4 rfl) ?_
  refine lv_aload_n hx hb dL_law_920 rfl (lv_at hl 2 rfl) ?_
  refine lv_iload hx hb dL_law_921 (lv_at hl 1 rfl) ?_
  refine lv_iconst (v := nI 1) hx hb dL_law_923 (by decide) ?_
  refine lv_iadd hx hb dL_law_924 ?_
  refine zt_i (y := nI (5 * i9 + 1)) (nI_add _ _) ?_
  refine va_sld hx hb hX hbl hbA hS (vp_in_nI (n := 5 * i9 + 1) (by omega) (by omega)) dL_law_925 ?_
  rw [nI_clamp (show 5 * i9 + 1 < 2 ^ 31 by omega)]
  rw [e1]
  refine k_X4_stateOf_no l (x := x) (hn := ahn) (hk := ahk) hx hb hml hown hts hK hPM gL_law_X4_stateOf ⟨Nat.le_of_ble_eq_true rfl, Nat.le_of_ble_eq_true rfl⟩ ⟨show cells + 1 ≤ 1083 by omega, show slots + 6 ≤ 9657 by omega⟩ hl.1 (Nat.le_of_ble_eq_true rfl) dL_law_926 hIm hAM hS (fun H2 locs hPM hS hf => ?_)
  have hPC := zz_kC hI hPC (fun x h1 h2 => hf x h1 (fun h3 => hCM x h2 h3))
  have hPo := zz_ko hPo (hf _ (zz_lt hPo) hoM)
  refine lv_istore (lv' := [(6, .int (nI 0)), (5, .int (nI 1)), (4, .int (nI (5 * i9))), (0, .ref b), (1, .ref (ad 0)), (2, .ref (am 0)), (3, .ref o9)]) hx hb dL_law_929 hl (by decide) rfl (fun ls hl => ?_)
  refine lv_aload_n hx hb dL_law_931 rfl (lv_at hl 5 rfl) ?_
  refine k_X4_thrown l hx hb hml hown hts hK hPM gL_law_X4_thrown ⟨Nat.le_of_ble_eq_true rfl, Nat.le_of_ble_eq_true rfl⟩ ⟨show cells + 1 ≤ 1083 by omega, show slots + 6 ≤ 9657 by omega⟩ hl.1 (Nat.le_of_ble_eq_true rfl) dL_law_932 ?_
  refine lv_iload hx hb dL_law_935 (lv_at hl 1 rfl) ?_
  refine lv_icmp_eq (tgt := 942) hx hb dL_law_937 (by decide) (fun _ => ?_) (fun h9 => absurd rfl h9)
  refine lv_iload hx hb dL_law_942 (lv_at hl 1 rfl) ?_
  refine lv_if_ne (tgt := 959) hx hb dL_law_944 (by decide) (fun _ => ?_) (fun h9 => absurd h9 (by decide))
  refine lv_goto (tgt := 1529) hx hb dL_law_959 (by decide) ?_
  exact kk _ _ _ _ _ (by omega) (by omega) hPC hPM hPo hS ls (lv_sub hl [2, 3, 4, 5, 6] rfl)
set_option maxHeartbeats 4000000 in
set_option maxRecDepth 100000 in
theorem lo_gradeOf_ok {p : Program} {e : Env} {s : State} {m : MethodId} {below : List Frame} {meth : Method} {c : Code} (l : Launch) (hfl : l.stackTraces = false) {b L : Nat} {xs : Nat → Int32} (C0 : lw_At p s m meth c b L xs) {dC : Nat → ClassId} {dI : Nat → Nat → Nat} {cI cZ cJ : ClassId} {ad am : Nat → Nat} {o9 : Nat} (CC : lwC dC dI cI cZ cJ ad am o9 s) (hT0 : tX (fun q => s.heap.size ≤ q) s s.heap) {sm fe ex dy : Int32} {gp gc op gr st dl wo : Nat → Int32} {n : Nat} {yc ya ys yd : Nat → Int32} {q : Nat} {zc zp zr zs zf : Nat → Int32} {z : Nat} {zm zt : Int64} {pe tp fu sh ro : Nat → Int32} {th : Int32} {fo : Nat → Int64} {k : Nat} {i9 : Nat} (hi9 : 5 * i9 + 5 ≤ L) (hL9 : L ≤ 2560) {H : Heap} {locs : List Loc} {cells slots : Nat} (hc1 : cells ≤ 37 + i9) (hs1 : slots ≤ 1333 + 6 * i9) (hPC : va_P (dC, dI) vwCl (wC cI cZ ad sm fe ex dy gp gc op gr st dl wo n yc ya ys yd q zc zp zr zs zf z zm zt) H) (hPM : va_P (dC, dI) vwCl (wM cI cZ am sm fe ex gp gc dy n pe gr st dl wo q yc ya yd ys tp fu sh ro th) H) (hPo : va_P (dC, dI) vwCl [(o9, .inl (cJ, 1, .inr (.inl fo)))] H) (hS : va_S (fun q : Nat => s.heap.size ≤ q) s.heap H locs) (e1 : xs (5 * i9 + 1) = nI k) (ahn : n ≤ 24) (ahk : k < n) {ls : Array Slot} (hl : lv_has ls 7 [(4, .int (nI (5 * i9))), (0, .ref b), (1, .ref (ad 0)), (2, .ref (am 0)), (3, .ref o9)]) (kk : ∀ (fo2 : Nat → Int64) (H2 : Heap) (locs2 : List Loc) (c2 s2 : Nat), c2 ≤ 38 + i9 → s2 ≤ 1339 + 6 * i9 → va_P (dC, dI) vwCl (wC cI cZ ad sm fe ex dy gp gc op gr st dl wo n yc ya ys yd q zc zp zr zs zf z zm zt) H2 → va_P (dC, dI) vwCl (wM cI cZ am sm fe ex gp gc dy n pe gr st dl wo q yc ya yd ys tp fu sh ro (nI 0)) H2 → va_P (dC, dI) vwCl [(o9, .inl (cJ, 1, .inr (.inl fo2)))] H2 → va_S (fun q : Nat => s.heap.size ≤ q) s.heap H2 locs2 → ∀ ls, lv_has ls 7 [(4, .int (nI (5 * i9))), (0, .ref b), (1, .ref (ad 0)), (2, .ref (am 0)), (3, .ref o9)] → W p l e room_1 s m #[Value.ref b] below meth c H2 locs2 c2 s2 (lw_Z below #[Value.ref b] s) (F0 m 1529 ls [])) : W p l e room_1 s m #[Value.ref b] below meth c H locs cells slots (lw_Z below #[Value.ref b] s) (F0 m 962 ls []) := by
  obtain ⟨hx, hb, hr, hml, hown, hts0, hX, hbl, hlocks, hgv⟩ := id C0
  obtain ⟨⟨hI, hIm⟩, ⟨hoC, hoM, hCM⟩, ⟨hAC, hAM, hAo⟩, hK, hKJ, hN⟩ := id CC
  have hts : ∀ w ∈ wsL_law, w.before #[Value.ref b] s = true := fun w hw => hts0 w (wsL_law_in w hw)
  have hown : s.vm.findClass RL = some m.cls := hown
  have hbA : ¬ (fun q : Nat => s.heap.size ≤ q) b := Nat.not_le.mpr hbl
  have hT : tX (fun q => s.heap.size ≤ q) s H := zz_kT hT0 hS
  refine lv_aload_n hx hb dL_law_962 rfl (lv_at hl 2 rfl) ?_
  refine lv_aload_n hx hb dL_law_963 rfl (lv_at hl 1 rfl) ?_
  refine lv_iload hx hb dL_law_964 (lv_at hl 0 rfl) ?_
  refine lv_iconst (v := nI 1) hx hb dL_law_966 (by decide) ?_
  refine lv_iadd hx hb dL_law_967 ?_
  refine zt_i (y := nI (5 * i9 + 1)) (nI_add _ _) ?_
  refine va_sld hx hb hX hbl hbA hS (vp_in_nI (n := 5 * i9 + 1) (by omega) (by omega)) dL_law_968 ?_
  rw [nI_clamp (show 5 * i9 + 1 < 2 ^ 31 by omega)]
  rw [e1]
  refine lv_aload_n hx hb dL_law_969 rfl (lv_at hl 4 rfl) ?_
  refine kh_gradeOf_ok l (cJ := cJ) (o9 := o9) (fo := fo) (k := k) (hn := ahn) (hk := ahk) hx hb hml hown hts hK hPC gL_law_L_gradeOf ⟨Nat.le_of_ble_eq_true rfl, Nat.le_of_ble_eq_true rfl⟩ ⟨show cells + 0 ≤ 1083 by omega, show slots + 0 ≤ 9657 by omega⟩ hl.1 (Nat.le_of_ble_eq_true rfl) dL_law_970 hI hoC hPo hKJ (fun x h => h.elim (hAC x) (fun h => by rw [h]; exact hAo)) hS (fun u9 H2 locs hPC fo hf9 hPo hS hz9 hf => ?_)
  have hPM := zz_kM hIm hPM (fun x h1 h2 => hf x h1 (fun h3 => h3.elim (fun h3 => hCM x h3 h2) (fun h3 => hoM (by rw [← h3]; exact h2))))
  refine lv_istore (lv' := [(5, .int (nI 0)), (4, .int (nI (5 * i9))), (0, .ref b), (1, .ref (ad 0)), (2, .ref (am 0)), (3, .ref o9)]) hx hb dL_law_973 hl (by decide) rfl (fun ls hl => ?_)
  refine lv_aload_n hx hb dL_law_975 rfl (lv_at hl 4 rfl) ?_
  refine lv_aload_n hx hb dL_law_976 rfl (lv_at hl 2 rfl) ?_
  refine lv_iload hx hb dL_law_977 (lv_at hl 1 rfl) ?_
  refine lv_iconst (v := nI 1) hx hb dL_law_979 (by decide) ?_
  refine lv_iadd hx hb dL_law_980 ?_
  refine zt_i (y := nI (5 * i9 + 1)) (nI_add _ _) ?_
  refine va_sld hx hb hX hbl hbA hS (vp_in_nI (n := 5 * i9 + 1) (by omega) (by omega)) dL_law_981 ?_
  rw [nI_clamp (show 5 * i9 + 1 < 2 ^ 31 by omega)]
  rw [e1]
  refine k_X4_gradeOf_ok l (k := k) (hn := ahn) (hk := ahk) hx hb hml hown hts hK hPM gL_law_X4_gradeOf ⟨Nat.le_of_ble_eq_true rfl, Nat.le_of_ble_eq_true rfl⟩ ⟨show cells + 0 ≤ 1083 by omega, show slots + 0 ≤ 9657 by omega⟩ hl.1 (Nat.le_of_ble_eq_true rfl) dL_law_982 hIm hAM hS (fun H2 locs hPM hS hf => ?_)
  have hPC := zz_kC hI hPC (fun x h1 h2 => hf x h1 (fun h3 => hCM x h2 h3))
  have hPo := zz_ko hPo (hf _ (zz_lt hPo) hoM)
  refine lv_istore (lv' := [(6, .int (gr k)), (5, .int (nI 0)), (4, .int (nI (5 * i9))), (0, .ref b), (1, .ref (ad 0)), (2, .ref (am 0)), (3, .ref o9)]) hx hb dL_law_985 hl (by decide) rfl (fun ls hl => ?_)
  refine lv_aload_n hx hb dL_law_987 rfl (lv_at hl 5 rfl) ?_
  refine k_X4_thrown l hx hb hml hown hts hK hPM gL_law_X4_thrown ⟨Nat.le_of_ble_eq_true rfl, Nat.le_of_ble_eq_true rfl⟩ ⟨show cells + 0 ≤ 1083 by omega, show slots + 0 ≤ 9657 by omega⟩ hl.1 (Nat.le_of_ble_eq_true rfl) dL_law_988 ?_
  refine lv_iload hx hb dL_law_991 (lv_at hl 1 rfl) ?_
  refine lv_icmp_eq (tgt := 998) hx hb dL_law_993 (by decide) (fun _ => ?_) (fun h9 => absurd rfl h9)
  refine lv_iload hx hb dL_law_998 (lv_at hl 1 rfl) ?_
  refine lv_if_ne (tgt := 1015) hx hb dL_law_1000 (by decide) (fun h9 => absurd (by decide) h9) (fun _ => ?_)
  refine lv_aload_n hx hb dL_law_1003 rfl (lv_at hl 6 rfl) ?_
  refine lv_iconst (v := nI 0) hx hb dL_law_1004 (by decide) ?_
  refine va_lald hx hb hKJ hPo 0 0 rfl rfl (vp_in_nI (n := 0) (by decide) (by decide)) dL_law_1005 ?_
  refine zt_l (y := (gr k).toInt64) (by rw [show (nI 0).toNatClampNeg = 0 by decide]; exact hf9) ?_
  refine lv_iload hx hb dL_law_1006 (lv_at hl 0 rfl) ?_
  refine lv_i2l (v := (gr k).toInt64) hx hb dL_law_1008 rfl ?_
  refine W.lcmp hx hb dL_law_1009 ?_
  refine zg_eq (tgt := 1015) hx hb dL_law_1010 (by decide) (fun _ => ?_) (fun h9 => absurd (rfl) h9)
  refine lv_goto (tgt := 1529) hx hb dL_law_1015 (by decide) ?_
  exact kk _ _ _ _ _ (by omega) (by omega) hPC hPM hPo hS ls (lv_sub hl [2, 3, 4, 5, 6] rfl)
set_option maxHeartbeats 4000000 in
set_option maxRecDepth 100000 in
theorem lo_gradeOf_no {p : Program} {e : Env} {s : State} {m : MethodId} {below : List Frame} {meth : Method} {c : Code} (l : Launch) (hfl : l.stackTraces = false) {b L : Nat} {xs : Nat → Int32} (C0 : lw_At p s m meth c b L xs) {dC : Nat → ClassId} {dI : Nat → Nat → Nat} {cI cZ cJ : ClassId} {ad am : Nat → Nat} {o9 : Nat} (CC : lwC dC dI cI cZ cJ ad am o9 s) (hT0 : tX (fun q => s.heap.size ≤ q) s s.heap) {sm fe ex dy : Int32} {gp gc op gr st dl wo : Nat → Int32} {n : Nat} {yc ya ys yd : Nat → Int32} {q : Nat} {zc zp zr zs zf : Nat → Int32} {z : Nat} {zm zt : Int64} {pe tp fu sh ro : Nat → Int32} {th : Int32} {fo : Nat → Int64} {x : Int32} {i9 : Nat} (hi9 : 5 * i9 + 5 ≤ L) (hL9 : L ≤ 2560) {H : Heap} {locs : List Loc} {cells slots : Nat} (hc1 : cells ≤ 37 + i9) (hs1 : slots ≤ 1333 + 6 * i9) (hPC : va_P (dC, dI) vwCl (wC cI cZ ad sm fe ex dy gp gc op gr st dl wo n yc ya ys yd q zc zp zr zs zf z zm zt) H) (hPM : va_P (dC, dI) vwCl (wM cI cZ am sm fe ex gp gc dy n pe gr st dl wo q yc ya yd ys tp fu sh ro th) H) (hPo : va_P (dC, dI) vwCl [(o9, .inl (cJ, 1, .inr (.inl fo)))] H) (hS : va_S (fun q : Nat => s.heap.size ≤ q) s.heap H locs) (e1 : xs (5 * i9 + 1) = x) (ahn : n ≤ 24) (ahk : ¬ vp_in x n) {ls : Array Slot} (hl : lv_has ls 7 [(4, .int (nI (5 * i9))), (0, .ref b), (1, .ref (ad 0)), (2, .ref (am 0)), (3, .ref o9)]) (kk : ∀ (fo2 : Nat → Int64) (H2 : Heap) (locs2 : List Loc) (c2 s2 : Nat), c2 ≤ 38 + i9 → s2 ≤ 1339 + 6 * i9 → va_P (dC, dI) vwCl (wC cI cZ ad sm fe ex dy gp gc op gr st dl wo n yc ya ys yd q zc zp zr zs zf z zm zt) H2 → va_P (dC, dI) vwCl (wM cI cZ am sm fe ex gp gc dy n pe gr st dl wo q yc ya yd ys tp fu sh ro (nI 1)) H2 → va_P (dC, dI) vwCl [(o9, .inl (cJ, 1, .inr (.inl fo2)))] H2 → va_S (fun q : Nat => s.heap.size ≤ q) s.heap H2 locs2 → ∀ ls, lv_has ls 7 [(4, .int (nI (5 * i9))), (0, .ref b), (1, .ref (ad 0)), (2, .ref (am 0)), (3, .ref o9)] → W p l e room_1 s m #[Value.ref b] below meth c H2 locs2 c2 s2 (lw_Z below #[Value.ref b] s) (F0 m 1529 ls [])) : W p l e room_1 s m #[Value.ref b] below meth c H locs cells slots (lw_Z below #[Value.ref b] s) (F0 m 962 ls []) := by
  obtain ⟨hx, hb, hr, hml, hown, hts0, hX, hbl, hlocks, hgv⟩ := id C0
  obtain ⟨⟨hI, hIm⟩, ⟨hoC, hoM, hCM⟩, ⟨hAC, hAM, hAo⟩, hK, hKJ, hN⟩ := id CC
  have hts : ∀ w ∈ wsL_law, w.before #[Value.ref b] s = true := fun w hw => hts0 w (wsL_law_in w hw)
  have hown : s.vm.findClass RL = some m.cls := hown
  have hbA : ¬ (fun q : Nat => s.heap.size ≤ q) b := Nat.not_le.mpr hbl
  have hT : tX (fun q => s.heap.size ≤ q) s H := zz_kT hT0 hS
  refine lv_aload_n hx hb dL_law_962 rfl (lv_at hl 2 rfl) ?_
  refine lv_aload_n hx hb dL_law_963 rfl (lv_at hl 1 rfl) ?_
  refine lv_iload hx hb dL_law_964 (lv_at hl 0 rfl) ?_
  refine lv_iconst (v := nI 1) hx hb dL_law_966 (by decide) ?_
  refine lv_iadd hx hb dL_law_967 ?_
  refine zt_i (y := nI (5 * i9 + 1)) (nI_add _ _) ?_
  refine va_sld hx hb hX hbl hbA hS (vp_in_nI (n := 5 * i9 + 1) (by omega) (by omega)) dL_law_968 ?_
  rw [nI_clamp (show 5 * i9 + 1 < 2 ^ 31 by omega)]
  rw [e1]
  refine lv_aload_n hx hb dL_law_969 rfl (lv_at hl 4 rfl) ?_
  refine kh_gradeOf_no l hfl (cJ := cJ) (o9 := o9) (fo := fo) (x := x) (hn := ahn) (hk := ahk) hx hb hml hown hts hK hPC gL_law_L_gradeOf ⟨Nat.le_of_ble_eq_true rfl, Nat.le_of_ble_eq_true rfl⟩ ⟨show cells + 1 ≤ 1083 by omega, show slots + 6 ≤ 9657 by omega⟩ hl.1 (Nat.le_of_ble_eq_true rfl) dL_law_970 (hT.narrow (fun _ h => h.elim)) hN hS (fun H2 locs hS hz9 hf => ?_)
  have hPC := zz_kC hI hPC (fun x h1 _ => hf x h1)
  have hPM := zz_kM hIm hPM (fun x h1 _ => hf x h1)
  have hPo := zz_ko hPo (hf _ (zz_lt hPo))
  refine lv_istore (lv' := [(5, .int (nI 1)), (4, .int (nI (5 * i9))), (0, .ref b), (1, .ref (ad 0)), (2, .ref (am 0)), (3, .ref o9)]) hx hb dL_law_973 hl (by decide) rfl (fun ls hl => ?_)
  refine lv_aload_n hx hb dL_law_975 rfl (lv_at hl 4 rfl) ?_
  refine lv_aload_n hx hb dL_law_976 rfl (lv_at hl 2 rfl) ?_
  refine lv_iload hx hb dL_law_977 (lv_at hl 1 rfl) ?_
  refine lv_iconst (v := nI 1) hx hb dL_law_979 (by decide) ?_
  refine lv_iadd hx hb dL_law_980 ?_
  refine zt_i (y := nI (5 * i9 + 1)) (nI_add _ _) ?_
  refine va_sld hx hb hX hbl hbA hS (vp_in_nI (n := 5 * i9 + 1) (by omega) (by omega)) dL_law_981 ?_
  rw [nI_clamp (show 5 * i9 + 1 < 2 ^ 31 by omega)]
  rw [e1]
  refine k_X4_gradeOf_no l (x := x) (hn := ahn) (hk := ahk) hx hb hml hown hts hK hPM gL_law_X4_gradeOf ⟨Nat.le_of_ble_eq_true rfl, Nat.le_of_ble_eq_true rfl⟩ ⟨show cells + 1 ≤ 1083 by omega, show slots + 6 ≤ 9657 by omega⟩ hl.1 (Nat.le_of_ble_eq_true rfl) dL_law_982 hIm hAM hS (fun H2 locs hPM hS hf => ?_)
  have hPC := zz_kC hI hPC (fun x h1 h2 => hf x h1 (fun h3 => hCM x h2 h3))
  have hPo := zz_ko hPo (hf _ (zz_lt hPo) hoM)
  refine lv_istore (lv' := [(6, .int (nI 0)), (5, .int (nI 1)), (4, .int (nI (5 * i9))), (0, .ref b), (1, .ref (ad 0)), (2, .ref (am 0)), (3, .ref o9)]) hx hb dL_law_985 hl (by decide) rfl (fun ls hl => ?_)
  refine lv_aload_n hx hb dL_law_987 rfl (lv_at hl 5 rfl) ?_
  refine k_X4_thrown l hx hb hml hown hts hK hPM gL_law_X4_thrown ⟨Nat.le_of_ble_eq_true rfl, Nat.le_of_ble_eq_true rfl⟩ ⟨show cells + 1 ≤ 1083 by omega, show slots + 6 ≤ 9657 by omega⟩ hl.1 (Nat.le_of_ble_eq_true rfl) dL_law_988 ?_
  refine lv_iload hx hb dL_law_991 (lv_at hl 1 rfl) ?_
  refine lv_icmp_eq (tgt := 998) hx hb dL_law_993 (by decide) (fun _ => ?_) (fun h9 => absurd rfl h9)
  refine lv_iload hx hb dL_law_998 (lv_at hl 1 rfl) ?_
  refine lv_if_ne (tgt := 1015) hx hb dL_law_1000 (by decide) (fun _ => ?_) (fun h9 => absurd h9 (by decide))
  refine lv_goto (tgt := 1529) hx hb dL_law_1015 (by decide) ?_
  exact kk _ _ _ _ _ (by omega) (by omega) hPC hPM hPo hS ls (lv_sub hl [2, 3, 4, 5, 6] rfl)
set_option maxHeartbeats 4000000 in
set_option maxRecDepth 100000 in
theorem lo_room_ok {p : Program} {e : Env} {s : State} {m : MethodId} {below : List Frame} {meth : Method} {c : Code} (l : Launch) (hfl : l.stackTraces = false) {b L : Nat} {xs : Nat → Int32} (C0 : lw_At p s m meth c b L xs) {dC : Nat → ClassId} {dI : Nat → Nat → Nat} {cI cZ cJ : ClassId} {ad am : Nat → Nat} {o9 : Nat} (CC : lwC dC dI cI cZ cJ ad am o9 s) (hT0 : tX (fun q => s.heap.size ≤ q) s s.heap) {sm fe ex dy : Int32} {gp gc op gr st dl wo : Nat → Int32} {n : Nat} {yc ya ys yd : Nat → Int32} {q : Nat} {zc zp zr zs zf : Nat → Int32} {z : Nat} {zm zt : Int64} {pe tp fu sh ro : Nat → Int32} {th : Int32} {fo : Nat → Int64} {k : Nat} {i9 : Nat} (hi9 : 5 * i9 + 5 ≤ L) (hL9 : L ≤ 2560) {H : Heap} {locs : List Loc} {cells slots : Nat} (hc1 : cells ≤ 37 + i9) (hs1 : slots ≤ 1333 + 6 * i9) (hPC : va_P (dC, dI) vwCl (wC cI cZ ad sm fe ex dy gp gc op gr st dl wo n yc ya ys yd q zc zp zr zs zf z zm zt) H) (hPM : va_P (dC, dI) vwCl (wM cI cZ am sm fe ex gp gc dy n pe gr st dl wo q yc ya yd ys tp fu sh ro th) H) (hPo : va_P (dC, dI) vwCl [(o9, .inl (cJ, 1, .inr (.inl fo)))] H) (hS : va_S (fun q : Nat => s.heap.size ≤ q) s.heap H locs) (e1 : xs (5 * i9 + 1) = nI k) (ahn : n ≤ 24) (ahq : q ≤ 100) (ahk : k < n) (ahG : gr k = nI (gN gr k) ∧ gN gr k < 5) {ls : Array Slot} (hl : lv_has ls 7 [(4, .int (nI (5 * i9))), (0, .ref b), (1, .ref (ad 0)), (2, .ref (am 0)), (3, .ref o9)]) (kk : ∀ (fo2 : Nat → Int64) (H2 : Heap) (locs2 : List Loc) (c2 s2 : Nat), c2 ≤ 38 + i9 → s2 ≤ 1339 + 6 * i9 → va_P (dC, dI) vwCl (wC cI cZ ad sm fe ex dy gp gc op gr st dl wo n yc ya ys yd q zc zp zr zs zf z zm zt) H2 → va_P (dC, dI) vwCl (wM cI cZ am sm fe ex gp gc dy n pe gr st dl wo q yc ya yd ys tp fu sh ro (nI 0)) H2 → va_P (dC, dI) vwCl [(o9, .inl (cJ, 1, .inr (.inl fo2)))] H2 → va_S (fun q : Nat => s.heap.size ≤ q) s.heap H2 locs2 → ∀ ls, lv_has ls 7 [(4, .int (nI (5 * i9))), (0, .ref b), (1, .ref (ad 0)), (2, .ref (am 0)), (3, .ref o9)] → W p l e room_1 s m #[Value.ref b] below meth c H2 locs2 c2 s2 (lw_Z below #[Value.ref b] s) (F0 m 1529 ls [])) : W p l e room_1 s m #[Value.ref b] below meth c H locs cells slots (lw_Z below #[Value.ref b] s) (F0 m 1018 ls []) := by
  obtain ⟨hx, hb, hr, hml, hown, hts0, hX, hbl, hlocks, hgv⟩ := id C0
  obtain ⟨⟨hI, hIm⟩, ⟨hoC, hoM, hCM⟩, ⟨hAC, hAM, hAo⟩, hK, hKJ, hN⟩ := id CC
  have hts : ∀ w ∈ wsL_law, w.before #[Value.ref b] s = true := fun w hw => hts0 w (wsL_law_in w hw)
  have hown : s.vm.findClass RL = some m.cls := hown
  have hbA : ¬ (fun q : Nat => s.heap.size ≤ q) b := Nat.not_le.mpr hbl
  have hT : tX (fun q => s.heap.size ≤ q) s H := zz_kT hT0 hS
  refine lv_aload_n hx hb dL_law_1018 rfl (lv_at hl 2 rfl) ?_
  refine lv_aload_n hx hb dL_law_1019 rfl (lv_at hl 1 rfl) ?_
  refine lv_iload hx hb dL_law_1020 (lv_at hl 0 rfl) ?_
  refine lv_iconst (v := nI 1) hx hb dL_law_1022 (by decide) ?_
  refine lv_iadd hx hb dL_law_1023 ?_
  refine zt_i (y := nI (5 * i9 + 1)) (nI_add _ _) ?_
  refine va_sld hx hb hX hbl hbA hS (vp_in_nI (n := 5 * i9 + 1) (by omega) (by omega)) dL_law_1024 ?_
  rw [nI_clamp (show 5 * i9 + 1 < 2 ^ 31 by omega)]
  rw [e1]
  refine lv_aload_n hx hb dL_law_1025 rfl (lv_at hl 4 rfl) ?_
  refine kh_room_ok l (cJ := cJ) (o9 := o9) (fo := fo) (k := k) (hn := ahn) (hq := ahq) (hk := ahk) (hG := ahG) hx hb hml hown hts hK hPC gL_law_L_room ⟨Nat.le_of_ble_eq_true rfl, Nat.le_of_ble_eq_true rfl⟩ ⟨show cells + 0 ≤ 1083 by omega, show slots + 0 ≤ 9657 by omega⟩ hl.1 (Nat.le_of_ble_eq_true rfl) dL_law_1026 hI hoC hPo hKJ (fun x h => h.elim (hAC x) (fun h => by rw [h]; exact hAo)) hS (fun u9 H2 locs hPC fo hf9 hPo hS hz9 hf => ?_)
  have hPM := zz_kM hIm hPM (fun x h1 h2 => hf x h1 (fun h3 => h3.elim (fun h3 => hCM x h3 h2) (fun h3 => hoM (by rw [← h3]; exact h2))))
  refine lv_istore (lv' := [(5, .int (nI 0)), (4, .int (nI (5 * i9))), (0, .ref b), (1, .ref (ad 0)), (2, .ref (am 0)), (3, .ref o9)]) hx hb dL_law_1029 hl (by decide) rfl (fun ls hl => ?_)
  refine lv_aload_n hx hb dL_law_1031 rfl (lv_at hl 4 rfl) ?_
  refine lv_aload_n hx hb dL_law_1032 rfl (lv_at hl 2 rfl) ?_
  refine lv_iload hx hb dL_law_1033 (lv_at hl 1 rfl) ?_
  refine lv_iconst (v := nI 1) hx hb dL_law_1035 (by decide) ?_
  refine lv_iadd hx hb dL_law_1036 ?_
  refine zt_i (y := nI (5 * i9 + 1)) (nI_add _ _) ?_
  refine va_sld hx hb hX hbl hbA hS (vp_in_nI (n := 5 * i9 + 1) (by omega) (by omega)) dL_law_1037 ?_
  rw [nI_clamp (show 5 * i9 + 1 < 2 ^ 31 by omega)]
  rw [e1]
  refine k_X4_room_ok l (k := k) (hn := ahn) (hk := ahk) (hq := ahq) (hG := ahG) hx hb hml hown hts hK hPM gL_law_X4_room ⟨Nat.le_of_ble_eq_true rfl, Nat.le_of_ble_eq_true rfl⟩ ⟨show cells + 0 ≤ 1083 by omega, show slots + 0 ≤ 9657 by omega⟩ hl.1 (Nat.le_of_ble_eq_true rfl) dL_law_1038 hIm hAM hS (fun H2 locs hPM hS hf => ?_)
  have hPC := zz_kC hI hPC (fun x h1 h2 => hf x h1 (fun h3 => hCM x h2 h3))
  have hPo := zz_ko hPo (hf _ (zz_lt hPo) hoM)
  refine lv_istore (lv' := [(6, .int (roomF gc gr yc ya ys q k)), (5, .int (nI 0)), (4, .int (nI (5 * i9))), (0, .ref b), (1, .ref (ad 0)), (2, .ref (am 0)), (3, .ref o9)]) hx hb dL_law_1041 hl (by decide) rfl (fun ls hl => ?_)
  refine lv_aload_n hx hb dL_law_1043 rfl (lv_at hl 5 rfl) ?_
  refine k_X4_thrown l hx hb hml hown hts hK hPM gL_law_X4_thrown ⟨Nat.le_of_ble_eq_true rfl, Nat.le_of_ble_eq_true rfl⟩ ⟨show cells + 0 ≤ 1083 by omega, show slots + 0 ≤ 9657 by omega⟩ hl.1 (Nat.le_of_ble_eq_true rfl) dL_law_1044 ?_
  refine lv_iload hx hb dL_law_1047 (lv_at hl 1 rfl) ?_
  refine lv_icmp_eq (tgt := 1054) hx hb dL_law_1049 (by decide) (fun _ => ?_) (fun h9 => absurd rfl h9)
  refine lv_iload hx hb dL_law_1054 (lv_at hl 1 rfl) ?_
  refine lv_if_ne (tgt := 1071) hx hb dL_law_1056 (by decide) (fun h9 => absurd (by decide) h9) (fun _ => ?_)
  refine lv_aload_n hx hb dL_law_1059 rfl (lv_at hl 6 rfl) ?_
  refine lv_iconst (v := nI 0) hx hb dL_law_1060 (by decide) ?_
  refine va_lald hx hb hKJ hPo 0 0 rfl rfl (vp_in_nI (n := 0) (by decide) (by decide)) dL_law_1061 ?_
  refine zt_l (y := (roomF gc gr yc ya ys q k).toInt64) (by rw [show (nI 0).toNatClampNeg = 0 by decide]; exact hf9) ?_
  refine lv_iload hx hb dL_law_1062 (lv_at hl 0 rfl) ?_
  refine lv_i2l (v := (roomF gc gr yc ya ys q k).toInt64) hx hb dL_law_1064 rfl ?_
  refine W.lcmp hx hb dL_law_1065 ?_
  refine zg_eq (tgt := 1071) hx hb dL_law_1066 (by decide) (fun _ => ?_) (fun h9 => absurd (rfl) h9)
  refine lv_goto (tgt := 1529) hx hb dL_law_1071 (by decide) ?_
  exact kk _ _ _ _ _ (by omega) (by omega) hPC hPM hPo hS ls (lv_sub hl [2, 3, 4, 5, 6] rfl)
set_option maxHeartbeats 4000000 in
set_option maxRecDepth 100000 in
theorem lo_room_no {p : Program} {e : Env} {s : State} {m : MethodId} {below : List Frame} {meth : Method} {c : Code} (l : Launch) (hfl : l.stackTraces = false) {b L : Nat} {xs : Nat → Int32} (C0 : lw_At p s m meth c b L xs) {dC : Nat → ClassId} {dI : Nat → Nat → Nat} {cI cZ cJ : ClassId} {ad am : Nat → Nat} {o9 : Nat} (CC : lwC dC dI cI cZ cJ ad am o9 s) (hT0 : tX (fun q => s.heap.size ≤ q) s s.heap) {sm fe ex dy : Int32} {gp gc op gr st dl wo : Nat → Int32} {n : Nat} {yc ya ys yd : Nat → Int32} {q : Nat} {zc zp zr zs zf : Nat → Int32} {z : Nat} {zm zt : Int64} {pe tp fu sh ro : Nat → Int32} {th : Int32} {fo : Nat → Int64} {x : Int32} {i9 : Nat} (hi9 : 5 * i9 + 5 ≤ L) (hL9 : L ≤ 2560) {H : Heap} {locs : List Loc} {cells slots : Nat} (hc1 : cells ≤ 37 + i9) (hs1 : slots ≤ 1333 + 6 * i9) (hPC : va_P (dC, dI) vwCl (wC cI cZ ad sm fe ex dy gp gc op gr st dl wo n yc ya ys yd q zc zp zr zs zf z zm zt) H) (hPM : va_P (dC, dI) vwCl (wM cI cZ am sm fe ex gp gc dy n pe gr st dl wo q yc ya yd ys tp fu sh ro th) H) (hPo : va_P (dC, dI) vwCl [(o9, .inl (cJ, 1, .inr (.inl fo)))] H) (hS : va_S (fun q : Nat => s.heap.size ≤ q) s.heap H locs) (e1 : xs (5 * i9 + 1) = x) (ahn : n ≤ 24) (ahk : ¬ vp_in x n) {ls : Array Slot} (hl : lv_has ls 7 [(4, .int (nI (5 * i9))), (0, .ref b), (1, .ref (ad 0)), (2, .ref (am 0)), (3, .ref o9)]) (kk : ∀ (fo2 : Nat → Int64) (H2 : Heap) (locs2 : List Loc) (c2 s2 : Nat), c2 ≤ 38 + i9 → s2 ≤ 1339 + 6 * i9 → va_P (dC, dI) vwCl (wC cI cZ ad sm fe ex dy gp gc op gr st dl wo n yc ya ys yd q zc zp zr zs zf z zm zt) H2 → va_P (dC, dI) vwCl (wM cI cZ am sm fe ex gp gc dy n pe gr st dl wo q yc ya yd ys tp fu sh ro (nI 1)) H2 → va_P (dC, dI) vwCl [(o9, .inl (cJ, 1, .inr (.inl fo2)))] H2 → va_S (fun q : Nat => s.heap.size ≤ q) s.heap H2 locs2 → ∀ ls, lv_has ls 7 [(4, .int (nI (5 * i9))), (0, .ref b), (1, .ref (ad 0)), (2, .ref (am 0)), (3, .ref o9)] → W p l e room_1 s m #[Value.ref b] below meth c H2 locs2 c2 s2 (lw_Z below #[Value.ref b] s) (F0 m 1529 ls [])) : W p l e room_1 s m #[Value.ref b] below meth c H locs cells slots (lw_Z below #[Value.ref b] s) (F0 m 1018 ls []) := by
  obtain ⟨hx, hb, hr, hml, hown, hts0, hX, hbl, hlocks, hgv⟩ := id C0
  obtain ⟨⟨hI, hIm⟩, ⟨hoC, hoM, hCM⟩, ⟨hAC, hAM, hAo⟩, hK, hKJ, hN⟩ := id CC
  have hts : ∀ w ∈ wsL_law, w.before #[Value.ref b] s = true := fun w hw => hts0 w (wsL_law_in w hw)
  have hown : s.vm.findClass RL = some m.cls := hown
  have hbA : ¬ (fun q : Nat => s.heap.size ≤ q) b := Nat.not_le.mpr hbl
  have hT : tX (fun q => s.heap.size ≤ q) s H := zz_kT hT0 hS
  refine lv_aload_n hx hb dL_law_1018 rfl (lv_at hl 2 rfl) ?_
  refine lv_aload_n hx hb dL_law_1019 rfl (lv_at hl 1 rfl) ?_
  refine lv_iload hx hb dL_law_1020 (lv_at hl 0 rfl) ?_
  refine lv_iconst (v := nI 1) hx hb dL_law_1022 (by decide) ?_
  refine lv_iadd hx hb dL_law_1023 ?_
  refine zt_i (y := nI (5 * i9 + 1)) (nI_add _ _) ?_
  refine va_sld hx hb hX hbl hbA hS (vp_in_nI (n := 5 * i9 + 1) (by omega) (by omega)) dL_law_1024 ?_
  rw [nI_clamp (show 5 * i9 + 1 < 2 ^ 31 by omega)]
  rw [e1]
  refine lv_aload_n hx hb dL_law_1025 rfl (lv_at hl 4 rfl) ?_
  refine kh_room_no l hfl (cJ := cJ) (o9 := o9) (fo := fo) (x := x) (hn := ahn) (hk := ahk) hx hb hml hown hts hK hPC gL_law_L_room ⟨Nat.le_of_ble_eq_true rfl, Nat.le_of_ble_eq_true rfl⟩ ⟨show cells + 1 ≤ 1083 by omega, show slots + 6 ≤ 9657 by omega⟩ hl.1 (Nat.le_of_ble_eq_true rfl) dL_law_1026 (hT.narrow (fun _ h => h.elim)) hN hS (fun H2 locs hS hz9 hf => ?_)
  have hPC := zz_kC hI hPC (fun x h1 _ => hf x h1)
  have hPM := zz_kM hIm hPM (fun x h1 _ => hf x h1)
  have hPo := zz_ko hPo (hf _ (zz_lt hPo))
  refine lv_istore (lv' := [(5, .int (nI 1)), (4, .int (nI (5 * i9))), (0, .ref b), (1, .ref (ad 0)), (2, .ref (am 0)), (3, .ref o9)]) hx hb dL_law_1029 hl (by decide) rfl (fun ls hl => ?_)
  refine lv_aload_n hx hb dL_law_1031 rfl (lv_at hl 4 rfl) ?_
  refine lv_aload_n hx hb dL_law_1032 rfl (lv_at hl 2 rfl) ?_
  refine lv_iload hx hb dL_law_1033 (lv_at hl 1 rfl) ?_
  refine lv_iconst (v := nI 1) hx hb dL_law_1035 (by decide) ?_
  refine lv_iadd hx hb dL_law_1036 ?_
  refine zt_i (y := nI (5 * i9 + 1)) (nI_add _ _) ?_
  refine va_sld hx hb hX hbl hbA hS (vp_in_nI (n := 5 * i9 + 1) (by omega) (by omega)) dL_law_1037 ?_
  rw [nI_clamp (show 5 * i9 + 1 < 2 ^ 31 by omega)]
  rw [e1]
  refine k_X4_room_no l (x := x) (hn := ahn) (hk := ahk) hx hb hml hown hts hK hPM gL_law_X4_room ⟨Nat.le_of_ble_eq_true rfl, Nat.le_of_ble_eq_true rfl⟩ ⟨show cells + 1 ≤ 1083 by omega, show slots + 6 ≤ 9657 by omega⟩ hl.1 (Nat.le_of_ble_eq_true rfl) dL_law_1038 hIm hAM hS (fun H2 locs hPM hS hf => ?_)
  have hPC := zz_kC hI hPC (fun x h1 h2 => hf x h1 (fun h3 => hCM x h2 h3))
  have hPo := zz_ko hPo (hf _ (zz_lt hPo) hoM)
  refine lv_istore (lv' := [(6, .int (nI 0)), (5, .int (nI 1)), (4, .int (nI (5 * i9))), (0, .ref b), (1, .ref (ad 0)), (2, .ref (am 0)), (3, .ref o9)]) hx hb dL_law_1041 hl (by decide) rfl (fun ls hl => ?_)
  refine lv_aload_n hx hb dL_law_1043 rfl (lv_at hl 5 rfl) ?_
  refine k_X4_thrown l hx hb hml hown hts hK hPM gL_law_X4_thrown ⟨Nat.le_of_ble_eq_true rfl, Nat.le_of_ble_eq_true rfl⟩ ⟨show cells + 1 ≤ 1083 by omega, show slots + 6 ≤ 9657 by omega⟩ hl.1 (Nat.le_of_ble_eq_true rfl) dL_law_1044 ?_
  refine lv_iload hx hb dL_law_1047 (lv_at hl 1 rfl) ?_
  refine lv_icmp_eq (tgt := 1054) hx hb dL_law_1049 (by decide) (fun _ => ?_) (fun h9 => absurd rfl h9)
  refine lv_iload hx hb dL_law_1054 (lv_at hl 1 rfl) ?_
  refine lv_if_ne (tgt := 1071) hx hb dL_law_1056 (by decide) (fun _ => ?_) (fun h9 => absurd h9 (by decide))
  refine lv_goto (tgt := 1529) hx hb dL_law_1071 (by decide) ?_
  exact kk _ _ _ _ _ (by omega) (by omega) hPC hPM hPo hS ls (lv_sub hl [2, 3, 4, 5, 6] rfl)
set_option maxHeartbeats 4000000 in
set_option maxRecDepth 100000 in
theorem lo_paidTo_ok {p : Program} {e : Env} {s : State} {m : MethodId} {below : List Frame} {meth : Method} {c : Code} (l : Launch) (hfl : l.stackTraces = false) {b L : Nat} {xs : Nat → Int32} (C0 : lw_At p s m meth c b L xs) {dC : Nat → ClassId} {dI : Nat → Nat → Nat} {cI cZ cJ : ClassId} {ad am : Nat → Nat} {o9 : Nat} (CC : lwC dC dI cI cZ cJ ad am o9 s) (hT0 : tX (fun q => s.heap.size ≤ q) s s.heap) {sm fe ex dy : Int32} {gp gc op gr st dl wo : Nat → Int32} {n : Nat} {yc ya ys yd : Nat → Int32} {q : Nat} {zc zp zr zs zf : Nat → Int32} {z : Nat} {zm zt : Int64} {pe tp fu sh ro : Nat → Int32} {th : Int32} {fo : Nat → Int64} {k : Nat} {i9 : Nat} (hi9 : 5 * i9 + 5 ≤ L) (hL9 : L ≤ 2560) {H : Heap} {locs : List Loc} {cells slots : Nat} (hc1 : cells ≤ 37 + i9) (hs1 : slots ≤ 1333 + 6 * i9) (hPC : va_P (dC, dI) vwCl (wC cI cZ ad sm fe ex dy gp gc op gr st dl wo n yc ya ys yd q zc zp zr zs zf z zm zt) H) (hPM : va_P (dC, dI) vwCl (wM cI cZ am sm fe ex gp gc dy n pe gr st dl wo q yc ya yd ys tp fu sh ro th) H) (hPo : va_P (dC, dI) vwCl [(o9, .inl (cJ, 1, .inr (.inl fo)))] H) (hS : va_S (fun q : Nat => s.heap.size ≤ q) s.heap H locs) (e1 : xs (5 * i9 + 1) = nI k) (ahn : n ≤ 24) (ahk : k < n) (ahq : q ≤ 100) {ls : Array Slot} (hl : lv_has ls 7 [(4, .int (nI (5 * i9))), (0, .ref b), (1, .ref (ad 0)), (2, .ref (am 0)), (3, .ref o9)]) (kk : ∀ (fo2 : Nat → Int64) (H2 : Heap) (locs2 : List Loc) (c2 s2 : Nat), c2 ≤ 38 + i9 → s2 ≤ 1339 + 6 * i9 → va_P (dC, dI) vwCl (wC cI cZ ad sm fe ex dy gp gc op gr st dl wo n yc ya ys yd q zc zp zr zs zf z zm zt) H2 → va_P (dC, dI) vwCl (wM cI cZ am sm fe ex gp gc dy n pe gr st dl wo q yc ya yd ys tp fu sh ro (nI 0)) H2 → va_P (dC, dI) vwCl [(o9, .inl (cJ, 1, .inr (.inl fo2)))] H2 → va_S (fun q : Nat => s.heap.size ≤ q) s.heap H2 locs2 → ∀ ls, lv_has ls 7 [(4, .int (nI (5 * i9))), (0, .ref b), (1, .ref (ad 0)), (2, .ref (am 0)), (3, .ref o9)] → W p l e room_1 s m #[Value.ref b] below meth c H2 locs2 c2 s2 (lw_Z below #[Value.ref b] s) (F0 m 1529 ls [])) : W p l e room_1 s m #[Value.ref b] below meth c H locs cells slots (lw_Z below #[Value.ref b] s) (F0 m 1074 ls []) := by
  obtain ⟨hx, hb, hr, hml, hown, hts0, hX, hbl, hlocks, hgv⟩ := id C0
  obtain ⟨⟨hI, hIm⟩, ⟨hoC, hoM, hCM⟩, ⟨hAC, hAM, hAo⟩, hK, hKJ, hN⟩ := id CC
  have hts : ∀ w ∈ wsL_law, w.before #[Value.ref b] s = true := fun w hw => hts0 w (wsL_law_in w hw)
  have hown : s.vm.findClass RL = some m.cls := hown
  have hbA : ¬ (fun q : Nat => s.heap.size ≤ q) b := Nat.not_le.mpr hbl
  have hT : tX (fun q => s.heap.size ≤ q) s H := zz_kT hT0 hS
  refine lv_aload_n hx hb dL_law_1074 rfl (lv_at hl 2 rfl) ?_
  refine lv_aload_n hx hb dL_law_1075 rfl (lv_at hl 1 rfl) ?_
  refine lv_iload hx hb dL_law_1076 (lv_at hl 0 rfl) ?_
  refine lv_iconst (v := nI 1) hx hb dL_law_1078 (by decide) ?_
  refine lv_iadd hx hb dL_law_1079 ?_
  refine zt_i (y := nI (5 * i9 + 1)) (nI_add _ _) ?_
  refine va_sld hx hb hX hbl hbA hS (vp_in_nI (n := 5 * i9 + 1) (by omega) (by omega)) dL_law_1080 ?_
  rw [nI_clamp (show 5 * i9 + 1 < 2 ^ 31 by omega)]
  rw [e1]
  refine lv_aload_n hx hb dL_law_1081 rfl (lv_at hl 4 rfl) ?_
  refine kh_paidTo_ok l (cJ := cJ) (o9 := o9) (fo := fo) (k := k) (hn := ahn) (hk := ahk) (hq := ahq) hx hb hml hown hts hK hPC gL_law_L_paidTo ⟨Nat.le_of_ble_eq_true rfl, Nat.le_of_ble_eq_true rfl⟩ ⟨show cells + 0 ≤ 1083 by omega, show slots + 0 ≤ 9657 by omega⟩ hl.1 (Nat.le_of_ble_eq_true rfl) dL_law_1082 hI hoC hPo hKJ (fun x h => h.elim (hAC x) (fun h => by rw [h]; exact hAo)) hS (fun u9 H2 locs hPC fo hf9 hPo hS hz9 hf => ?_)
  have hPM := zz_kM hIm hPM (fun x h1 h2 => hf x h1 (fun h3 => h3.elim (fun h3 => hCM x h3 h2) (fun h3 => hoM (by rw [← h3]; exact h2))))
  refine lv_istore (lv' := [(5, .int (nI 0)), (4, .int (nI (5 * i9))), (0, .ref b), (1, .ref (ad 0)), (2, .ref (am 0)), (3, .ref o9)]) hx hb dL_law_1085 hl (by decide) rfl (fun ls hl => ?_)
  refine lv_aload_n hx hb dL_law_1087 rfl (lv_at hl 4 rfl) ?_
  refine lv_aload_n hx hb dL_law_1088 rfl (lv_at hl 2 rfl) ?_
  refine lv_iload hx hb dL_law_1089 (lv_at hl 1 rfl) ?_
  refine lv_iconst (v := nI 1) hx hb dL_law_1091 (by decide) ?_
  refine lv_iadd hx hb dL_law_1092 ?_
  refine zt_i (y := nI (5 * i9 + 1)) (nI_add _ _) ?_
  refine va_sld hx hb hX hbl hbA hS (vp_in_nI (n := 5 * i9 + 1) (by omega) (by omega)) dL_law_1093 ?_
  rw [nI_clamp (show 5 * i9 + 1 < 2 ^ 31 by omega)]
  rw [e1]
  refine k_X4_paidTo_ok l (k := k) (hn := ahn) (hk := ahk) (hq := ahq) hx hb hml hown hts hK hPM gL_law_X4_paidTo ⟨Nat.le_of_ble_eq_true rfl, Nat.le_of_ble_eq_true rfl⟩ ⟨show cells + 0 ≤ 1083 by omega, show slots + 0 ≤ 9657 by omega⟩ hl.1 (Nat.le_of_ble_eq_true rfl) dL_law_1094 hIm hAM hS (fun H2 locs hPM hS hf => ?_)
  have hPC := zz_kC hI hPC (fun x h1 h2 => hf x h1 (fun h3 => hCM x h2 h3))
  have hPo := zz_ko hPo (hf _ (zz_lt hPo) hoM)
  refine lv_istore (lv' := [(6, .int (sumForI yc ya ys (nI k) q)), (5, .int (nI 0)), (4, .int (nI (5 * i9))), (0, .ref b), (1, .ref (ad 0)), (2, .ref (am 0)), (3, .ref o9)]) hx hb dL_law_1097 hl (by decide) rfl (fun ls hl => ?_)
  refine lv_aload_n hx hb dL_law_1099 rfl (lv_at hl 5 rfl) ?_
  refine k_X4_thrown l hx hb hml hown hts hK hPM gL_law_X4_thrown ⟨Nat.le_of_ble_eq_true rfl, Nat.le_of_ble_eq_true rfl⟩ ⟨show cells + 0 ≤ 1083 by omega, show slots + 0 ≤ 9657 by omega⟩ hl.1 (Nat.le_of_ble_eq_true rfl) dL_law_1100 ?_
  refine lv_iload hx hb dL_law_1103 (lv_at hl 1 rfl) ?_
  refine lv_icmp_eq (tgt := 1110) hx hb dL_law_1105 (by decide) (fun _ => ?_) (fun h9 => absurd rfl h9)
  refine lv_iload hx hb dL_law_1110 (lv_at hl 1 rfl) ?_
  refine lv_if_ne (tgt := 1127) hx hb dL_law_1112 (by decide) (fun h9 => absurd (by decide) h9) (fun _ => ?_)
  refine lv_aload_n hx hb dL_law_1115 rfl (lv_at hl 6 rfl) ?_
  refine lv_iconst (v := nI 0) hx hb dL_law_1116 (by decide) ?_
  refine va_lald hx hb hKJ hPo 0 0 rfl rfl (vp_in_nI (n := 0) (by decide) (by decide)) dL_law_1117 ?_
  refine zt_l (y := (sumForI yc ya ys (nI k) q).toInt64) (by rw [show (nI 0).toNatClampNeg = 0 by decide]; exact hf9) ?_
  refine lv_iload hx hb dL_law_1118 (lv_at hl 0 rfl) ?_
  refine lv_i2l (v := (sumForI yc ya ys (nI k) q).toInt64) hx hb dL_law_1120 rfl ?_
  refine W.lcmp hx hb dL_law_1121 ?_
  refine zg_eq (tgt := 1127) hx hb dL_law_1122 (by decide) (fun _ => ?_) (fun h9 => absurd (rfl) h9)
  refine lv_goto (tgt := 1529) hx hb dL_law_1127 (by decide) ?_
  exact kk _ _ _ _ _ (by omega) (by omega) hPC hPM hPo hS ls (lv_sub hl [2, 3, 4, 5, 6] rfl)
set_option maxHeartbeats 4000000 in
set_option maxRecDepth 100000 in
theorem lo_paidTo_no {p : Program} {e : Env} {s : State} {m : MethodId} {below : List Frame} {meth : Method} {c : Code} (l : Launch) (hfl : l.stackTraces = false) {b L : Nat} {xs : Nat → Int32} (C0 : lw_At p s m meth c b L xs) {dC : Nat → ClassId} {dI : Nat → Nat → Nat} {cI cZ cJ : ClassId} {ad am : Nat → Nat} {o9 : Nat} (CC : lwC dC dI cI cZ cJ ad am o9 s) (hT0 : tX (fun q => s.heap.size ≤ q) s s.heap) {sm fe ex dy : Int32} {gp gc op gr st dl wo : Nat → Int32} {n : Nat} {yc ya ys yd : Nat → Int32} {q : Nat} {zc zp zr zs zf : Nat → Int32} {z : Nat} {zm zt : Int64} {pe tp fu sh ro : Nat → Int32} {th : Int32} {fo : Nat → Int64} {x : Int32} {i9 : Nat} (hi9 : 5 * i9 + 5 ≤ L) (hL9 : L ≤ 2560) {H : Heap} {locs : List Loc} {cells slots : Nat} (hc1 : cells ≤ 37 + i9) (hs1 : slots ≤ 1333 + 6 * i9) (hPC : va_P (dC, dI) vwCl (wC cI cZ ad sm fe ex dy gp gc op gr st dl wo n yc ya ys yd q zc zp zr zs zf z zm zt) H) (hPM : va_P (dC, dI) vwCl (wM cI cZ am sm fe ex gp gc dy n pe gr st dl wo q yc ya yd ys tp fu sh ro th) H) (hPo : va_P (dC, dI) vwCl [(o9, .inl (cJ, 1, .inr (.inl fo)))] H) (hS : va_S (fun q : Nat => s.heap.size ≤ q) s.heap H locs) (e1 : xs (5 * i9 + 1) = x) (ahn : n ≤ 24) (ahk : ¬ vp_in x n) {ls : Array Slot} (hl : lv_has ls 7 [(4, .int (nI (5 * i9))), (0, .ref b), (1, .ref (ad 0)), (2, .ref (am 0)), (3, .ref o9)]) (kk : ∀ (fo2 : Nat → Int64) (H2 : Heap) (locs2 : List Loc) (c2 s2 : Nat), c2 ≤ 38 + i9 → s2 ≤ 1339 + 6 * i9 → va_P (dC, dI) vwCl (wC cI cZ ad sm fe ex dy gp gc op gr st dl wo n yc ya ys yd q zc zp zr zs zf z zm zt) H2 → va_P (dC, dI) vwCl (wM cI cZ am sm fe ex gp gc dy n pe gr st dl wo q yc ya yd ys tp fu sh ro (nI 1)) H2 → va_P (dC, dI) vwCl [(o9, .inl (cJ, 1, .inr (.inl fo2)))] H2 → va_S (fun q : Nat => s.heap.size ≤ q) s.heap H2 locs2 → ∀ ls, lv_has ls 7 [(4, .int (nI (5 * i9))), (0, .ref b), (1, .ref (ad 0)), (2, .ref (am 0)), (3, .ref o9)] → W p l e room_1 s m #[Value.ref b] below meth c H2 locs2 c2 s2 (lw_Z below #[Value.ref b] s) (F0 m 1529 ls [])) : W p l e room_1 s m #[Value.ref b] below meth c H locs cells slots (lw_Z below #[Value.ref b] s) (F0 m 1074 ls []) := by
  obtain ⟨hx, hb, hr, hml, hown, hts0, hX, hbl, hlocks, hgv⟩ := id C0
  obtain ⟨⟨hI, hIm⟩, ⟨hoC, hoM, hCM⟩, ⟨hAC, hAM, hAo⟩, hK, hKJ, hN⟩ := id CC
  have hts : ∀ w ∈ wsL_law, w.before #[Value.ref b] s = true := fun w hw => hts0 w (wsL_law_in w hw)
  have hown : s.vm.findClass RL = some m.cls := hown
  have hbA : ¬ (fun q : Nat => s.heap.size ≤ q) b := Nat.not_le.mpr hbl
  have hT : tX (fun q => s.heap.size ≤ q) s H := zz_kT hT0 hS
  refine lv_aload_n hx hb dL_law_1074 rfl (lv_at hl 2 rfl) ?_
  refine lv_aload_n hx hb dL_law_1075 rfl (lv_at hl 1 rfl) ?_
  refine lv_iload hx hb dL_law_1076 (lv_at hl 0 rfl) ?_
  refine lv_iconst (v := nI 1) hx hb dL_law_1078 (by decide) ?_
  refine lv_iadd hx hb dL_law_1079 ?_
  refine zt_i (y := nI (5 * i9 + 1)) (nI_add _ _) ?_
  refine va_sld hx hb hX hbl hbA hS (vp_in_nI (n := 5 * i9 + 1) (by omega) (by omega)) dL_law_1080 ?_
  rw [nI_clamp (show 5 * i9 + 1 < 2 ^ 31 by omega)]
  rw [e1]
  refine lv_aload_n hx hb dL_law_1081 rfl (lv_at hl 4 rfl) ?_
  refine kh_paidTo_no l hfl (cJ := cJ) (o9 := o9) (fo := fo) (x := x) (hn := ahn) (hk := ahk) hx hb hml hown hts hK hPC gL_law_L_paidTo ⟨Nat.le_of_ble_eq_true rfl, Nat.le_of_ble_eq_true rfl⟩ ⟨show cells + 1 ≤ 1083 by omega, show slots + 6 ≤ 9657 by omega⟩ hl.1 (Nat.le_of_ble_eq_true rfl) dL_law_1082 (hT.narrow (fun _ h => h.elim)) hN hS (fun H2 locs hS hz9 hf => ?_)
  have hPC := zz_kC hI hPC (fun x h1 _ => hf x h1)
  have hPM := zz_kM hIm hPM (fun x h1 _ => hf x h1)
  have hPo := zz_ko hPo (hf _ (zz_lt hPo))
  refine lv_istore (lv' := [(5, .int (nI 1)), (4, .int (nI (5 * i9))), (0, .ref b), (1, .ref (ad 0)), (2, .ref (am 0)), (3, .ref o9)]) hx hb dL_law_1085 hl (by decide) rfl (fun ls hl => ?_)
  refine lv_aload_n hx hb dL_law_1087 rfl (lv_at hl 4 rfl) ?_
  refine lv_aload_n hx hb dL_law_1088 rfl (lv_at hl 2 rfl) ?_
  refine lv_iload hx hb dL_law_1089 (lv_at hl 1 rfl) ?_
  refine lv_iconst (v := nI 1) hx hb dL_law_1091 (by decide) ?_
  refine lv_iadd hx hb dL_law_1092 ?_
  refine zt_i (y := nI (5 * i9 + 1)) (nI_add _ _) ?_
  refine va_sld hx hb hX hbl hbA hS (vp_in_nI (n := 5 * i9 + 1) (by omega) (by omega)) dL_law_1093 ?_
  rw [nI_clamp (show 5 * i9 + 1 < 2 ^ 31 by omega)]
  rw [e1]
  refine k_X4_paidTo_no l (x := x) (hn := ahn) (hk := ahk) hx hb hml hown hts hK hPM gL_law_X4_paidTo ⟨Nat.le_of_ble_eq_true rfl, Nat.le_of_ble_eq_true rfl⟩ ⟨show cells + 1 ≤ 1083 by omega, show slots + 6 ≤ 9657 by omega⟩ hl.1 (Nat.le_of_ble_eq_true rfl) dL_law_1094 hIm hAM hS (fun H2 locs hPM hS hf => ?_)
  have hPC := zz_kC hI hPC (fun x h1 h2 => hf x h1 (fun h3 => hCM x h2 h3))
  have hPo := zz_ko hPo (hf _ (zz_lt hPo) hoM)
  refine lv_istore (lv' := [(6, .int (nI 0)), (5, .int (nI 1)), (4, .int (nI (5 * i9))), (0, .ref b), (1, .ref (ad 0)), (2, .ref (am 0)), (3, .ref o9)]) hx hb dL_law_1097 hl (by decide) rfl (fun ls hl => ?_)
  refine lv_aload_n hx hb dL_law_1099 rfl (lv_at hl 5 rfl) ?_
  refine k_X4_thrown l hx hb hml hown hts hK hPM gL_law_X4_thrown ⟨Nat.le_of_ble_eq_true rfl, Nat.le_of_ble_eq_true rfl⟩ ⟨show cells + 1 ≤ 1083 by omega, show slots + 6 ≤ 9657 by omega⟩ hl.1 (Nat.le_of_ble_eq_true rfl) dL_law_1100 ?_
  refine lv_iload hx hb dL_law_1103 (lv_at hl 1 rfl) ?_
  refine lv_icmp_eq (tgt := 1110) hx hb dL_law_1105 (by decide) (fun _ => ?_) (fun h9 => absurd rfl h9)
  refine lv_iload hx hb dL_law_1110 (lv_at hl 1 rfl) ?_
  refine lv_if_ne (tgt := 1127) hx hb dL_law_1112 (by decide) (fun _ => ?_) (fun h9 => absurd h9 (by decide))
  refine lv_goto (tgt := 1529) hx hb dL_law_1127 (by decide) ?_
  exact kk _ _ _ _ _ (by omega) (by omega) hPC hPM hPo hS ls (lv_sub hl [2, 3, 4, 5, 6] rfl)
set_option maxHeartbeats 4000000 in
set_option maxRecDepth 100000 in
theorem lo_count_ok {p : Program} {e : Env} {s : State} {m : MethodId} {below : List Frame} {meth : Method} {c : Code} (l : Launch) (hfl : l.stackTraces = false) {b L : Nat} {xs : Nat → Int32} (C0 : lw_At p s m meth c b L xs) {dC : Nat → ClassId} {dI : Nat → Nat → Nat} {cI cZ cJ : ClassId} {ad am : Nat → Nat} {o9 : Nat} (CC : lwC dC dI cI cZ cJ ad am o9 s) (hT0 : tX (fun q => s.heap.size ≤ q) s s.heap) {sm fe ex dy : Int32} {gp gc op gr st dl wo : Nat → Int32} {n : Nat} {yc ya ys yd : Nat → Int32} {q : Nat} {zc zp zr zs zf : Nat → Int32} {z : Nat} {zm zt : Int64} {pe tp fu sh ro : Nat → Int32} {th : Int32} {fo : Nat → Int64} {x : Int32} {i9 : Nat} (hi9 : 5 * i9 + 5 ≤ L) (hL9 : L ≤ 2560) {H : Heap} {locs : List Loc} {cells slots : Nat} (hc1 : cells ≤ 37 + i9) (hs1 : slots ≤ 1333 + 6 * i9) (hPC : va_P (dC, dI) vwCl (wC cI cZ ad sm fe ex dy gp gc op gr st dl wo n yc ya ys yd q zc zp zr zs zf z zm zt) H) (hPM : va_P (dC, dI) vwCl (wM cI cZ am sm fe ex gp gc dy n pe gr st dl wo q yc ya yd ys tp fu sh ro th) H) (hPo : va_P (dC, dI) vwCl [(o9, .inl (cJ, 1, .inr (.inl fo)))] H) (hS : va_S (fun q : Nat => s.heap.size ≤ q) s.heap H locs) (e1 : xs (5 * i9 + 1) = x) (ahn : n ≤ 24) (ah1 : outN x (nI 0) (nI 3) = 0) {ls : Array Slot} (hl : lv_has ls 7 [(4, .int (nI (5 * i9))), (0, .ref b), (1, .ref (ad 0)), (2, .ref (am 0)), (3, .ref o9)]) (kk : ∀ (fo2 : Nat → Int64) (H2 : Heap) (locs2 : List Loc) (c2 s2 : Nat), c2 ≤ 38 + i9 → s2 ≤ 1339 + 6 * i9 → va_P (dC, dI) vwCl (wC cI cZ ad sm fe ex dy gp gc op gr st dl wo n yc ya ys yd q zc zp zr zs zf z zm zt) H2 → va_P (dC, dI) vwCl (wM cI cZ am sm fe ex gp gc dy n pe gr st dl wo q yc ya yd ys tp fu sh ro (nI 0)) H2 → va_P (dC, dI) vwCl [(o9, .inl (cJ, 1, .inr (.inl fo2)))] H2 → va_S (fun q : Nat => s.heap.size ≤ q) s.heap H2 locs2 → ∀ ls, lv_has ls 7 [(4, .int (nI (5 * i9))), (0, .ref b), (1, .ref (ad 0)), (2, .ref (am 0)), (3, .ref o9)] → W p l e room_1 s m #[Value.ref b] below meth c H2 locs2 c2 s2 (lw_Z below #[Value.ref b] s) (F0 m 1529 ls [])) : W p l e room_1 s m #[Value.ref b] below meth c H locs cells slots (lw_Z below #[Value.ref b] s) (F0 m 1130 ls []) := by
  obtain ⟨hx, hb, hr, hml, hown, hts0, hX, hbl, hlocks, hgv⟩ := id C0
  obtain ⟨⟨hI, hIm⟩, ⟨hoC, hoM, hCM⟩, ⟨hAC, hAM, hAo⟩, hK, hKJ, hN⟩ := id CC
  have hts : ∀ w ∈ wsL_law, w.before #[Value.ref b] s = true := fun w hw => hts0 w (wsL_law_in w hw)
  have hown : s.vm.findClass RL = some m.cls := hown
  have hbA : ¬ (fun q : Nat => s.heap.size ≤ q) b := Nat.not_le.mpr hbl
  have hT : tX (fun q => s.heap.size ≤ q) s H := zz_kT hT0 hS
  refine lv_aload_n hx hb dL_law_1130 rfl (lv_at hl 2 rfl) ?_
  refine lv_aload_n hx hb dL_law_1131 rfl (lv_at hl 1 rfl) ?_
  refine lv_iload hx hb dL_law_1132 (lv_at hl 0 rfl) ?_
  refine lv_iconst (v := nI 1) hx hb dL_law_1134 (by decide) ?_
  refine lv_iadd hx hb dL_law_1135 ?_
  refine zt_i (y := nI (5 * i9 + 1)) (nI_add _ _) ?_
  refine va_sld hx hb hX hbl hbA hS (vp_in_nI (n := 5 * i9 + 1) (by omega) (by omega)) dL_law_1136 ?_
  rw [nI_clamp (show 5 * i9 + 1 < 2 ^ 31 by omega)]
  rw [e1]
  refine lv_aload_n hx hb dL_law_1137 rfl (lv_at hl 4 rfl) ?_
  refine kh_count_ok l (cJ := cJ) (o9 := o9) (fo := fo) (x := x) (hn := ahn) (h1 := ah1) hx hb hml hown hts hK hPC gL_law_L_count ⟨Nat.le_of_ble_eq_true rfl, Nat.le_of_ble_eq_true rfl⟩ ⟨show cells + 0 ≤ 1083 by omega, show slots + 0 ≤ 9657 by omega⟩ hl.1 (Nat.le_of_ble_eq_true rfl) dL_law_1138 hI hoC hPo hKJ (fun x h => h.elim (hAC x) (fun h => by rw [h]; exact hAo)) hS (fun u9 H2 locs hPC fo hf9 hPo hS hz9 hf => ?_)
  have hPM := zz_kM hIm hPM (fun x h1 h2 => hf x h1 (fun h3 => h3.elim (fun h3 => hCM x h3 h2) (fun h3 => hoM (by rw [← h3]; exact h2))))
  refine lv_istore (lv' := [(5, .int (nI 0)), (4, .int (nI (5 * i9))), (0, .ref b), (1, .ref (ad 0)), (2, .ref (am 0)), (3, .ref o9)]) hx hb dL_law_1141 hl (by decide) rfl (fun ls hl => ?_)
  refine lv_aload_n hx hb dL_law_1143 rfl (lv_at hl 4 rfl) ?_
  refine lv_aload_n hx hb dL_law_1144 rfl (lv_at hl 2 rfl) ?_
  refine lv_iload hx hb dL_law_1145 (lv_at hl 1 rfl) ?_
  refine lv_iconst (v := nI 1) hx hb dL_law_1147 (by decide) ?_
  refine lv_iadd hx hb dL_law_1148 ?_
  refine zt_i (y := nI (5 * i9 + 1)) (nI_add _ _) ?_
  refine va_sld hx hb hX hbl hbA hS (vp_in_nI (n := 5 * i9 + 1) (by omega) (by omega)) dL_law_1149 ?_
  rw [nI_clamp (show 5 * i9 + 1 < 2 ^ 31 by omega)]
  rw [e1]
  refine k_X4_count_ok l (x := x) (hn := ahn) (h1 := ah1) hx hb hml hown hts hK hPM gL_law_X4_count ⟨Nat.le_of_ble_eq_true rfl, Nat.le_of_ble_eq_true rfl⟩ ⟨show cells + 0 ≤ 1083 by omega, show slots + 0 ≤ 9657 by omega⟩ hl.1 (Nat.le_of_ble_eq_true rfl) dL_law_1150 hIm hAM hS (fun H2 locs hPM hS hf => ?_)
  have hPC := zz_kC hI hPC (fun x h1 h2 => hf x h1 (fun h3 => hCM x h2 h3))
  have hPo := zz_ko hPo (hf _ (zz_lt hPo) hoM)
  refine lv_istore (lv' := [(6, .int (nI (tallyN st x n))), (5, .int (nI 0)), (4, .int (nI (5 * i9))), (0, .ref b), (1, .ref (ad 0)), (2, .ref (am 0)), (3, .ref o9)]) hx hb dL_law_1153 hl (by decide) rfl (fun ls hl => ?_)
  refine lv_aload_n hx hb dL_law_1155 rfl (lv_at hl 5 rfl) ?_
  refine k_X4_thrown l hx hb hml hown hts hK hPM gL_law_X4_thrown ⟨Nat.le_of_ble_eq_true rfl, Nat.le_of_ble_eq_true rfl⟩ ⟨show cells + 0 ≤ 1083 by omega, show slots + 0 ≤ 9657 by omega⟩ hl.1 (Nat.le_of_ble_eq_true rfl) dL_law_1156 ?_
  refine lv_iload hx hb dL_law_1159 (lv_at hl 1 rfl) ?_
  refine lv_icmp_eq (tgt := 1166) hx hb dL_law_1161 (by decide) (fun _ => ?_) (fun h9 => absurd rfl h9)
  refine lv_iload hx hb dL_law_1166 (lv_at hl 1 rfl) ?_
  refine lv_if_ne (tgt := 1183) hx hb dL_law_1168 (by decide) (fun h9 => absurd (by decide) h9) (fun _ => ?_)
  refine lv_aload_n hx hb dL_law_1171 rfl (lv_at hl 6 rfl) ?_
  refine lv_iconst (v := nI 0) hx hb dL_law_1172 (by decide) ?_
  refine va_lald hx hb hKJ hPo 0 0 rfl rfl (vp_in_nI (n := 0) (by decide) (by decide)) dL_law_1173 ?_
  refine zt_l (y := (nI (tallyN st x n)).toInt64) (by rw [show (nI 0).toNatClampNeg = 0 by decide]; exact hf9) ?_
  refine lv_iload hx hb dL_law_1174 (lv_at hl 0 rfl) ?_
  refine lv_i2l (v := (nI (tallyN st x n)).toInt64) hx hb dL_law_1176 rfl ?_
  refine W.lcmp hx hb dL_law_1177 ?_
  refine zg_eq (tgt := 1183) hx hb dL_law_1178 (by decide) (fun _ => ?_) (fun h9 => absurd (rfl) h9)
  refine lv_goto (tgt := 1529) hx hb dL_law_1183 (by decide) ?_
  exact kk _ _ _ _ _ (by omega) (by omega) hPC hPM hPo hS ls (lv_sub hl [2, 3, 4, 5, 6] rfl)
set_option maxHeartbeats 4000000 in
set_option maxRecDepth 100000 in
theorem lo_count_no {p : Program} {e : Env} {s : State} {m : MethodId} {below : List Frame} {meth : Method} {c : Code} (l : Launch) (hfl : l.stackTraces = false) {b L : Nat} {xs : Nat → Int32} (C0 : lw_At p s m meth c b L xs) {dC : Nat → ClassId} {dI : Nat → Nat → Nat} {cI cZ cJ : ClassId} {ad am : Nat → Nat} {o9 : Nat} (CC : lwC dC dI cI cZ cJ ad am o9 s) (hT0 : tX (fun q => s.heap.size ≤ q) s s.heap) {sm fe ex dy : Int32} {gp gc op gr st dl wo : Nat → Int32} {n : Nat} {yc ya ys yd : Nat → Int32} {q : Nat} {zc zp zr zs zf : Nat → Int32} {z : Nat} {zm zt : Int64} {pe tp fu sh ro : Nat → Int32} {th : Int32} {fo : Nat → Int64} {x : Int32} {i9 : Nat} (hi9 : 5 * i9 + 5 ≤ L) (hL9 : L ≤ 2560) {H : Heap} {locs : List Loc} {cells slots : Nat} (hc1 : cells ≤ 37 + i9) (hs1 : slots ≤ 1333 + 6 * i9) (hPC : va_P (dC, dI) vwCl (wC cI cZ ad sm fe ex dy gp gc op gr st dl wo n yc ya ys yd q zc zp zr zs zf z zm zt) H) (hPM : va_P (dC, dI) vwCl (wM cI cZ am sm fe ex gp gc dy n pe gr st dl wo q yc ya yd ys tp fu sh ro th) H) (hPo : va_P (dC, dI) vwCl [(o9, .inl (cJ, 1, .inr (.inl fo)))] H) (hS : va_S (fun q : Nat => s.heap.size ≤ q) s.heap H locs) (e1 : xs (5 * i9 + 1) = x) (ah1 : ¬ outN x (nI 0) (nI 3) = 0) {ls : Array Slot} (hl : lv_has ls 7 [(4, .int (nI (5 * i9))), (0, .ref b), (1, .ref (ad 0)), (2, .ref (am 0)), (3, .ref o9)]) (kk : ∀ (fo2 : Nat → Int64) (H2 : Heap) (locs2 : List Loc) (c2 s2 : Nat), c2 ≤ 38 + i9 → s2 ≤ 1339 + 6 * i9 → va_P (dC, dI) vwCl (wC cI cZ ad sm fe ex dy gp gc op gr st dl wo n yc ya ys yd q zc zp zr zs zf z zm zt) H2 → va_P (dC, dI) vwCl (wM cI cZ am sm fe ex gp gc dy n pe gr st dl wo q yc ya yd ys tp fu sh ro (nI 1)) H2 → va_P (dC, dI) vwCl [(o9, .inl (cJ, 1, .inr (.inl fo2)))] H2 → va_S (fun q : Nat => s.heap.size ≤ q) s.heap H2 locs2 → ∀ ls, lv_has ls 7 [(4, .int (nI (5 * i9))), (0, .ref b), (1, .ref (ad 0)), (2, .ref (am 0)), (3, .ref o9)] → W p l e room_1 s m #[Value.ref b] below meth c H2 locs2 c2 s2 (lw_Z below #[Value.ref b] s) (F0 m 1529 ls [])) : W p l e room_1 s m #[Value.ref b] below meth c H locs cells slots (lw_Z below #[Value.ref b] s) (F0 m 1130 ls []) := by
  obtain ⟨hx, hb, hr, hml, hown, hts0, hX, hbl, hlocks, hgv⟩ := id C0
  obtain ⟨⟨hI, hIm⟩, ⟨hoC, hoM, hCM⟩, ⟨hAC, hAM, hAo⟩, hK, hKJ, hN⟩ := id CC
  have hts : ∀ w ∈ wsL_law, w.before #[Value.ref b] s = true := fun w hw => hts0 w (wsL_law_in w hw)
  have hown : s.vm.findClass RL = some m.cls := hown
  have hbA : ¬ (fun q : Nat => s.heap.size ≤ q) b := Nat.not_le.mpr hbl
  have hT : tX (fun q => s.heap.size ≤ q) s H := zz_kT hT0 hS
  refine lv_aload_n hx hb dL_law_1130 rfl (lv_at hl 2 rfl) ?_
  refine lv_aload_n hx hb dL_law_1131 rfl (lv_at hl 1 rfl) ?_
  refine lv_iload hx hb dL_law_1132 (lv_at hl 0 rfl) ?_
  refine lv_iconst (v := nI 1) hx hb dL_law_1134 (by decide) ?_
  refine lv_iadd hx hb dL_law_1135 ?_
  refine zt_i (y := nI (5 * i9 + 1)) (nI_add _ _) ?_
  refine va_sld hx hb hX hbl hbA hS (vp_in_nI (n := 5 * i9 + 1) (by omega) (by omega)) dL_law_1136 ?_
  rw [nI_clamp (show 5 * i9 + 1 < 2 ^ 31 by omega)]
  rw [e1]
  refine lv_aload_n hx hb dL_law_1137 rfl (lv_at hl 4 rfl) ?_
  refine kh_count_no l hfl (cJ := cJ) (o9 := o9) (fo := fo) (x := x) (h1 := ah1) hx hb hml hown hts hK hPC gL_law_L_count ⟨Nat.le_of_ble_eq_true rfl, Nat.le_of_ble_eq_true rfl⟩ ⟨show cells + 1 ≤ 1083 by omega, show slots + 6 ≤ 9657 by omega⟩ hl.1 (Nat.le_of_ble_eq_true rfl) dL_law_1138 (hT.narrow (fun _ h => h.elim)) hN hS (fun H2 locs hS hz9 hf => ?_)
  have hPC := zz_kC hI hPC (fun x h1 _ => hf x h1)
  have hPM := zz_kM hIm hPM (fun x h1 _ => hf x h1)
  have hPo := zz_ko hPo (hf _ (zz_lt hPo))
  refine lv_istore (lv' := [(5, .int (nI 1)), (4, .int (nI (5 * i9))), (0, .ref b), (1, .ref (ad 0)), (2, .ref (am 0)), (3, .ref o9)]) hx hb dL_law_1141 hl (by decide) rfl (fun ls hl => ?_)
  refine lv_aload_n hx hb dL_law_1143 rfl (lv_at hl 4 rfl) ?_
  refine lv_aload_n hx hb dL_law_1144 rfl (lv_at hl 2 rfl) ?_
  refine lv_iload hx hb dL_law_1145 (lv_at hl 1 rfl) ?_
  refine lv_iconst (v := nI 1) hx hb dL_law_1147 (by decide) ?_
  refine lv_iadd hx hb dL_law_1148 ?_
  refine zt_i (y := nI (5 * i9 + 1)) (nI_add _ _) ?_
  refine va_sld hx hb hX hbl hbA hS (vp_in_nI (n := 5 * i9 + 1) (by omega) (by omega)) dL_law_1149 ?_
  rw [nI_clamp (show 5 * i9 + 1 < 2 ^ 31 by omega)]
  rw [e1]
  refine k_X4_count_no l (x := x) (h1 := ah1) hx hb hml hown hts hK hPM gL_law_X4_count ⟨Nat.le_of_ble_eq_true rfl, Nat.le_of_ble_eq_true rfl⟩ ⟨show cells + 1 ≤ 1083 by omega, show slots + 6 ≤ 9657 by omega⟩ hl.1 (Nat.le_of_ble_eq_true rfl) dL_law_1150 hIm hAM hS (fun H2 locs hPM hS hf => ?_)
  have hPC := zz_kC hI hPC (fun x h1 h2 => hf x h1 (fun h3 => hCM x h2 h3))
  have hPo := zz_ko hPo (hf _ (zz_lt hPo) hoM)
  refine lv_istore (lv' := [(6, .int (nI 0)), (5, .int (nI 1)), (4, .int (nI (5 * i9))), (0, .ref b), (1, .ref (ad 0)), (2, .ref (am 0)), (3, .ref o9)]) hx hb dL_law_1153 hl (by decide) rfl (fun ls hl => ?_)
  refine lv_aload_n hx hb dL_law_1155 rfl (lv_at hl 5 rfl) ?_
  refine k_X4_thrown l hx hb hml hown hts hK hPM gL_law_X4_thrown ⟨Nat.le_of_ble_eq_true rfl, Nat.le_of_ble_eq_true rfl⟩ ⟨show cells + 1 ≤ 1083 by omega, show slots + 6 ≤ 9657 by omega⟩ hl.1 (Nat.le_of_ble_eq_true rfl) dL_law_1156 ?_
  refine lv_iload hx hb dL_law_1159 (lv_at hl 1 rfl) ?_
  refine lv_icmp_eq (tgt := 1166) hx hb dL_law_1161 (by decide) (fun _ => ?_) (fun h9 => absurd rfl h9)
  refine lv_iload hx hb dL_law_1166 (lv_at hl 1 rfl) ?_
  refine lv_if_ne (tgt := 1183) hx hb dL_law_1168 (by decide) (fun _ => ?_) (fun h9 => absurd h9 (by decide))
  refine lv_goto (tgt := 1529) hx hb dL_law_1183 (by decide) ?_
  exact kk _ _ _ _ _ (by omega) (by omega) hPC hPM hPo hS ls (lv_sub hl [2, 3, 4, 5, 6] rfl)
set_option maxHeartbeats 4000000 in
set_option maxRecDepth 100000 in
theorem lo_paymentTo_ok {p : Program} {e : Env} {s : State} {m : MethodId} {below : List Frame} {meth : Method} {c : Code} (l : Launch) (hfl : l.stackTraces = false) {b L : Nat} {xs : Nat → Int32} (C0 : lw_At p s m meth c b L xs) {dC : Nat → ClassId} {dI : Nat → Nat → Nat} {cI cZ cJ : ClassId} {ad am : Nat → Nat} {o9 : Nat} (CC : lwC dC dI cI cZ cJ ad am o9 s) (hT0 : tX (fun q => s.heap.size ≤ q) s s.heap) {sm fe ex dy : Int32} {gp gc op gr st dl wo : Nat → Int32} {n : Nat} {yc ya ys yd : Nat → Int32} {q : Nat} {zc zp zr zs zf : Nat → Int32} {z : Nat} {zm zt : Int64} {pe tp fu sh ro : Nat → Int32} {th : Int32} {fo : Nat → Int64} {k : Nat} {i9 : Nat} (hi9 : 5 * i9 + 5 ≤ L) (hL9 : L ≤ 2560) {H : Heap} {locs : List Loc} {cells slots : Nat} (hc1 : cells ≤ 37 + i9) (hs1 : slots ≤ 1333 + 6 * i9) (hPC : va_P (dC, dI) vwCl (wC cI cZ ad sm fe ex dy gp gc op gr st dl wo n yc ya ys yd q zc zp zr zs zf z zm zt) H) (hPM : va_P (dC, dI) vwCl (wM cI cZ am sm fe ex gp gc dy n pe gr st dl wo q yc ya yd ys tp fu sh ro th) H) (hPo : va_P (dC, dI) vwCl [(o9, .inl (cJ, 1, .inr (.inl fo)))] H) (hS : va_S (fun q : Nat => s.heap.size ≤ q) s.heap H locs) (e1 : xs (5 * i9 + 1) = nI k) (ahq : q ≤ 100) (ahk : k < q) {ls : Array Slot} (hl : lv_has ls 7 [(4, .int (nI (5 * i9))), (0, .ref b), (1, .ref (ad 0)), (2, .ref (am 0)), (3, .ref o9)]) (kk : ∀ (fo2 : Nat → Int64) (H2 : Heap) (locs2 : List Loc) (c2 s2 : Nat), c2 ≤ 38 + i9 → s2 ≤ 1339 + 6 * i9 → va_P (dC, dI) vwCl (wC cI cZ ad sm fe ex dy gp gc op gr st dl wo n yc ya ys yd q zc zp zr zs zf z zm zt) H2 → va_P (dC, dI) vwCl (wM cI cZ am sm fe ex gp gc dy n pe gr st dl wo q yc ya yd ys tp fu sh ro (nI 0)) H2 → va_P (dC, dI) vwCl [(o9, .inl (cJ, 1, .inr (.inl fo2)))] H2 → va_S (fun q : Nat => s.heap.size ≤ q) s.heap H2 locs2 → ∀ ls, lv_has ls 7 [(4, .int (nI (5 * i9))), (0, .ref b), (1, .ref (ad 0)), (2, .ref (am 0)), (3, .ref o9)] → W p l e room_1 s m #[Value.ref b] below meth c H2 locs2 c2 s2 (lw_Z below #[Value.ref b] s) (F0 m 1529 ls [])) : W p l e room_1 s m #[Value.ref b] below meth c H locs cells slots (lw_Z below #[Value.ref b] s) (F0 m 1225 ls []) := by
  obtain ⟨hx, hb, hr, hml, hown, hts0, hX, hbl, hlocks, hgv⟩ := id C0
  obtain ⟨⟨hI, hIm⟩, ⟨hoC, hoM, hCM⟩, ⟨hAC, hAM, hAo⟩, hK, hKJ, hN⟩ := id CC
  have hts : ∀ w ∈ wsL_law, w.before #[Value.ref b] s = true := fun w hw => hts0 w (wsL_law_in w hw)
  have hown : s.vm.findClass RL = some m.cls := hown
  have hbA : ¬ (fun q : Nat => s.heap.size ≤ q) b := Nat.not_le.mpr hbl
  have hT : tX (fun q => s.heap.size ≤ q) s H := zz_kT hT0 hS
  refine lv_aload_n hx hb dL_law_1225 rfl (lv_at hl 2 rfl) ?_
  refine lv_aload_n hx hb dL_law_1226 rfl (lv_at hl 1 rfl) ?_
  refine lv_iload hx hb dL_law_1227 (lv_at hl 0 rfl) ?_
  refine lv_iconst (v := nI 1) hx hb dL_law_1229 (by decide) ?_
  refine lv_iadd hx hb dL_law_1230 ?_
  refine zt_i (y := nI (5 * i9 + 1)) (nI_add _ _) ?_
  refine va_sld hx hb hX hbl hbA hS (vp_in_nI (n := 5 * i9 + 1) (by omega) (by omega)) dL_law_1231 ?_
  rw [nI_clamp (show 5 * i9 + 1 < 2 ^ 31 by omega)]
  rw [e1]
  refine lv_aload_n hx hb dL_law_1232 rfl (lv_at hl 4 rfl) ?_
  refine kh_paymentTo_ok l (cJ := cJ) (o9 := o9) (fo := fo) (k := k) (hq := ahq) (hk := ahk) hx hb hml hown hts hK hPC gL_law_L_paymentTo ⟨Nat.le_of_ble_eq_true rfl, Nat.le_of_ble_eq_true rfl⟩ ⟨show cells + 0 ≤ 1083 by omega, show slots + 0 ≤ 9657 by omega⟩ hl.1 (Nat.le_of_ble_eq_true rfl) dL_law_1233 hI hoC hPo hKJ (fun x h => h.elim (hAC x) (fun h => by rw [h]; exact hAo)) hS (fun u9 H2 locs hPC fo hf9 hPo hS hz9 hf => ?_)
  have hPM := zz_kM hIm hPM (fun x h1 h2 => hf x h1 (fun h3 => h3.elim (fun h3 => hCM x h3 h2) (fun h3 => hoM (by rw [← h3]; exact h2))))
  refine lv_istore (lv' := [(5, .int (nI 0)), (4, .int (nI (5 * i9))), (0, .ref b), (1, .ref (ad 0)), (2, .ref (am 0)), (3, .ref o9)]) hx hb dL_law_1236 hl (by decide) rfl (fun ls hl => ?_)
  refine lv_aload_n hx hb dL_law_1238 rfl (lv_at hl 4 rfl) ?_
  refine lv_aload_n hx hb dL_law_1239 rfl (lv_at hl 2 rfl) ?_
  refine lv_iload hx hb dL_law_1240 (lv_at hl 1 rfl) ?_
  refine lv_iconst (v := nI 1) hx hb dL_law_1242 (by decide) ?_
  refine lv_iadd hx hb dL_law_1243 ?_
  refine zt_i (y := nI (5 * i9 + 1)) (nI_add _ _) ?_
  refine va_sld hx hb hX hbl hbA hS (vp_in_nI (n := 5 * i9 + 1) (by omega) (by omega)) dL_law_1244 ?_
  rw [nI_clamp (show 5 * i9 + 1 < 2 ^ 31 by omega)]
  rw [e1]
  refine k_X4_paymentTo_ok l (k := k) (hq := ahq) (hk := ahk) hx hb hml hown hts hK hPM gL_law_X4_paymentTo ⟨Nat.le_of_ble_eq_true rfl, Nat.le_of_ble_eq_true rfl⟩ ⟨show cells + 0 ≤ 1083 by omega, show slots + 0 ≤ 9657 by omega⟩ hl.1 (Nat.le_of_ble_eq_true rfl) dL_law_1245 hIm hAM hS (fun H2 locs hPM hS hf => ?_)
  have hPC := zz_kC hI hPC (fun x h1 h2 => hf x h1 (fun h3 => hCM x h2 h3))
  have hPo := zz_ko hPo (hf _ (zz_lt hPo) hoM)
  refine lv_istore (lv' := [(6, .int (yc k)), (5, .int (nI 0)), (4, .int (nI (5 * i9))), (0, .ref b), (1, .ref (ad 0)), (2, .ref (am 0)), (3, .ref o9)]) hx hb dL_law_1248 hl (by decide) rfl (fun ls hl => ?_)
  refine lv_aload_n hx hb dL_law_1250 rfl (lv_at hl 5 rfl) ?_
  refine k_X4_thrown l hx hb hml hown hts hK hPM gL_law_X4_thrown ⟨Nat.le_of_ble_eq_true rfl, Nat.le_of_ble_eq_true rfl⟩ ⟨show cells + 0 ≤ 1083 by omega, show slots + 0 ≤ 9657 by omega⟩ hl.1 (Nat.le_of_ble_eq_true rfl) dL_law_1251 ?_
  refine lv_iload hx hb dL_law_1254 (lv_at hl 1 rfl) ?_
  refine lv_icmp_eq (tgt := 1261) hx hb dL_law_1256 (by decide) (fun _ => ?_) (fun h9 => absurd rfl h9)
  refine lv_iload hx hb dL_law_1261 (lv_at hl 1 rfl) ?_
  refine lv_if_ne (tgt := 1278) hx hb dL_law_1263 (by decide) (fun h9 => absurd (by decide) h9) (fun _ => ?_)
  refine lv_aload_n hx hb dL_law_1266 rfl (lv_at hl 6 rfl) ?_
  refine lv_iconst (v := nI 0) hx hb dL_law_1267 (by decide) ?_
  refine va_lald hx hb hKJ hPo 0 0 rfl rfl (vp_in_nI (n := 0) (by decide) (by decide)) dL_law_1268 ?_
  refine zt_l (y := (yc k).toInt64) (by rw [show (nI 0).toNatClampNeg = 0 by decide]; exact hf9) ?_
  refine lv_iload hx hb dL_law_1269 (lv_at hl 0 rfl) ?_
  refine lv_i2l (v := (yc k).toInt64) hx hb dL_law_1271 rfl ?_
  refine W.lcmp hx hb dL_law_1272 ?_
  refine zg_eq (tgt := 1278) hx hb dL_law_1273 (by decide) (fun _ => ?_) (fun h9 => absurd (rfl) h9)
  refine lv_goto (tgt := 1529) hx hb dL_law_1278 (by decide) ?_
  exact kk _ _ _ _ _ (by omega) (by omega) hPC hPM hPo hS ls (lv_sub hl [2, 3, 4, 5, 6] rfl)
