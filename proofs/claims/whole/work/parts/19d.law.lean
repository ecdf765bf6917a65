set_option maxHeartbeats 4000000 in
set_option maxRecDepth 100000 in
theorem lo_paymentTo_no {p : Program} {e : Env} {s : State} {m : MethodId} {below : List Frame} {meth : Method} {c : Code} (l : Launch) (hfl : l.stackTraces = false) {b L : Nat} {xs : Nat → Int32} (C0 : lw_At p s m meth c b L xs) {dC : Nat → ClassId} {dI : Nat → Nat → Nat} {cI cZ cJ : ClassId} {ad am : Nat → Nat} {o9 : Nat} (CC : lwC dC dI cI cZ cJ ad am o9 s) (hT0 : tX (fun q => s.heap.size ≤ q) s s.heap) {sm fe ex dy : Int32} {gp gc op gr st dl wo : Nat → Int32} {n : Nat} {yc ya ys yd : Nat → Int32} {q : Nat} {zc zp zr zs zf : Nat → Int32} {z : Nat} {zm zt : Int64} {pe tp fu sh ro : Nat → Int32} {th : Int32} {fo : Nat → Int64} {x : Int32} {i9 : Nat} (hi9 : 5 * i9 + 5 ≤ L) (hL9 : L ≤ 2560) {H : Heap} {locs : List Loc} {cells slots : Nat} (hc1 : cells ≤ 37 + i9) (hs1 : slots ≤ 1333 + 6 * i9) (hPC : va_P (dC, dI) vwCl (wC cI cZ ad sm fe ex dy gp gc op gr st dl wo n yc ya ys yd q zc zp zr zs zf z zm zt) H) (hPM : va_P (dC, dI) vwCl (wM cI cZ am sm fe ex gp gc dy n pe gr st dl wo q yc ya yd ys tp fu sh ro th) H) (hPo : va_P (dC, dI) vwCl [(o9, .inl (cJ, 1, .inr (.inl fo)))] H) (hS : va_S (fun q : Nat => s.heap.size ≤ q) s.heap H locs) (e1 : xs (5 * i9 + 1) = x) (ahq : q ≤ 100) (ahk : ¬ vp_in x q) {ls : Array Slot} (hl : lv_has ls 7 [(4, .int (nI (5 * i9))), (0, .ref b), (1, .ref (ad 0)), (2, .ref (am 0)), (3, .ref o9)]) (kk : ∀ (fo2 : Nat → Int64) (H2 : Heap) (locs2 : List Loc) (c2 s2 : Nat), c2 ≤ 38 + i9 → s2 ≤ 1339 + 6 * i9 → va_P (dC, dI) vwCl (wC cI cZ ad sm fe ex dy gp gc op gr st dl wo n yc ya ys yd q zc zp zr zs zf z zm zt) H2 → va_P (dC, dI) vwCl (wM cI cZ am sm fe ex gp gc dy n pe gr st dl wo q yc ya yd ys tp fu sh ro (nI 1)) H2 → va_P (dC, dI) vwCl [(o9, .inl (cJ, 1, .inr (.inl fo2)))] H2 → va_S (fun q : Nat => s.heap.size ≤ q) s.heap H2 locs2 → ∀ ls, lv_has ls 7 [(4, .int (nI (5 * i9))), (0, .ref b), (1, .ref (ad 0)), (2, .ref (am 0)), (3, .ref o9)] → W p l e room_1 s m #[Value.ref b] below meth c H2 locs2 c2 s2 (lw_Z below #[Value.ref b] s) (F0 m 1529 ls [])) : W p l e room_1 s m #[Value.ref b] below meth c H locs cells slots (lw_Z below #[Value.ref b] s) (F0 m 1225 ls []) := by
  obtain ⟨hx, hb, hr, hml, hown, hts0, hX, hbl, hlocks, hgv⟩ := id C0
  obtain ⟨⟨hI, hIm⟩, ⟨hoC, hoM, hCM⟩, ⟨hAC, hAM, hAo⟩, hK, hKJ, hN⟩ := id CC
  have hts : ∀ w ∈ wsL_law, w.before #[Value.ref b] s = true := fun w hw => hts0 w (wsL_law_in w hw)
  have hown : s.vm.findClass RL = some m.cls := hown
  have hbA : ¬ (fun q : Nat => s.heap.size ≤ q) b := Nat.not_le.mpr hbl
  have hT : tX (fun q => s.heap.size ≤ q) s H := zz_kT hT0 hS
  refine lv_aload_n hx hb dL_law_1225 rfl (lv_at hl 2 rfl) ?_
  refine lv_aload_n hx hb dL_law_1226 rfl (lv_at hl 1 rfl) ?_
  refine lv_iload hx hb dL_law_1227 (lv_at hl 0 rfl) ?_
  refine lv_iconst (v := nI 1) hx hb dL_law_1229 (by decide) ?_
  refine lv_iadd hx hb dL_law_1230 ?_
  refine zt_i (y := nI (5 * i9 + 1)) (nI_add _ _) ?_
  refine va_sld hx hb hX hbl hbA hS (vp_in_nI (n := 5 * i9 + 1) (by omega) (by omega)) dL_law_1231 ?_
  rw [nI_clamp (show 5 * i9 + 1 < 2 ^ 31 by omega)]
  rw [e1]
  refine lv_aload_n hx hb dL_law_1232 rfl (lv_at hl 4 rfl) ?_
  refine kh_paymentTo_no l hfl (cJ := cJ) (o9 := o9) (fo := fo) (x := x) (hq := ahq) (hk := ahk) hx hb hml hown hts hK hPC gL_law_L_paymentTo ⟨Nat.le_of_ble_eq_true rfl, Nat.le_of_ble_eq_true rfl⟩ ⟨show cells + 1 ≤ 1083 by omega, show slots + 6 ≤ 9657 by omega⟩ hl.1 (Nat.le_of_ble_eq_true rfl) dL_law_1233 (hT.narrow (fun _ h => h.elim)) hN hS (fun H2 locs hS hz9 hf => ?_)
  have hPC := zz_kC hI hPC (fun x h1 _ => hf x h1)
  have hPM := zz_kM hIm hPM (fun x h1 _ => hf x h1)
  have hPo := zz_ko hPo (hf _ (zz_lt hPo))
  refine lv_istore (lv' := [(5, .int (nI 1)), (4, .int (nI (5 * i9))), (0, .ref b), (1, .ref (ad 0)), (2, .ref (am 0)), (3, .ref o9)]) hx hb dL_law_1236 hl (by decide) rfl (fun ls hl => ?_)
  refine lv_aload_n hx hb dL_law_1238 rfl (lv_at hl 4 rfl) ?_
  refine lv_aload_n hx hb dL_law_1239 rfl (lv_at hl 2 rfl) ?_
  refine lv_iload hx hb dL_law_1240 (lv_at hl 1 rfl) ?_
  refine lv_iconst (v := nI 1) hx hb dL_law_1242 (by decide) ?_
  refine lv_iadd hx hb dL_law_1243 ?_
  refine zt_i (y := nI (5 * i9 + 1)) (nI_add _ _) ?_
  refine va_sld hx hb hX hbl hbA hS (vp_in_nI (n := 5 * i9 + 1) (by omega) (by omega)) dL_law_1244 ?_
  rw [nI_clamp (show 5 * i9 + 1 < 2 ^ 31 by omega)]
  rw [e1]
  refine k_X4_paymentTo_no l (x := x) (hq := ahq) (hk := ahk) hx hb hml hown hts hK hPM gL_law_X4_paymentTo ⟨Nat.le_of_ble_eq_true rfl, Nat.le_of_ble_eq_true rfl⟩ ⟨show cells + 1 ≤ 1083 by omega, show slots + 6 ≤ 9657 by omega⟩ hl.1 (Nat.le_of_ble_eq_true rfl) dL_law_1245 hIm hAM hS (fun H2 locs hPM hS hf => ?_)
  have hPC := zz_kC hI hPC (fun x h1 h2 => hf x h1 (fun h3 => hCM x h2 h3))
  have hPo := zz_ko hPo (hf _ (zz_lt hPo) hoM)
  refine lv_istore (lv' := [(6, .int (nI 0)), (5, .int (nI 1)), (4, .int (nI (5 * i9))), (0, .ref b), (1, .ref (ad 0)), (2, .ref (am 0)), (3, .ref o9)]) hx hb dL_law_1248 hl (by decide) rfl (fun ls hl => ?_)
  refine lv_aload_n hx hb dL_law_1250 rfl (lv_at hl 5 rfl) ?_
  refine k_X4_thrown l hx hb hml hown hts hK hPM gL_law_X4_thrown ⟨Nat.le_of_ble_eq_true rfl, Nat.le_of_ble_eq_true rfl⟩ ⟨show cells + 1 ≤ 1083 by omega, show slots + 6 ≤ 9657 by omega⟩ hl.1 (Nat.le_of_ble_eq_true rfl) dL_law_1251 ?_
  refine lv_iload hx hb dL_law_1254 (lv_at hl 1 rfl) ?_
  refine lv_icmp_eq (tgt := 1261) hx hb dL_law_1256 (by decide) (fun _ => ?_) (fun h9 => absurd rfl h9)
  refine lv_iload hx hb dL_law_1261 (lv_at hl 1 rfl) ?_
  refine lv_if_ne (tgt := 1278) hx hb dL_law_1263 (by decide) (fun _ => ?_) (fun h9 => absurd h9 (by decide))
  refine lv_goto (tgt := 1529) hx hb dL_law_1278 (by decide) ?_
  exact kk _ _ _ _ _ (by omega) (by omega) hPC hPM hPo hS ls (lv_sub hl [2, 3, 4, 5, 6] rfl)
set_option maxHeartbeats 4000000 in
set_option maxRecDepth 100000 in
theorem lo_amountOf_ok {p : Program} {e : Env} {s : State} {m : MethodId} {below : List Frame} {meth : Method} {c : Code} (l : Launch) (hfl : l.stackTraces = false) {b L : Nat} {xs : Nat → Int32} (C0 : lw_At p s m meth c b L xs) {dC : Nat → ClassId} {dI : Nat → Nat → Nat} {cI cZ cJ : ClassId} {ad am : Nat → Nat} {o9 : Nat} (CC : lwC dC dI cI cZ cJ ad am o9 s) (hT0 : tX (fun q => s.heap.size ≤ q) s s.heap) {sm fe ex dy : Int32} {gp gc op gr st dl wo : Nat → Int32} {n : Nat} {yc ya ys yd : Nat → Int32} {q : Nat} {zc zp zr zs zf : Nat → Int32} {z : Nat} {zm zt : Int64} {pe tp fu sh ro : Nat → Int32} {th : Int32} {fo : Nat → Int64} {k : Nat} {i9 : Nat} (hi9 : 5 * i9 + 5 ≤ L) (hL9 : L ≤ 2560) {H : Heap} {locs : List Loc} {cells slots : Nat} (hc1 : cells ≤ 37 + i9) (hs1 : slots ≤ 1333 + 6 * i9) (hPC : va_P (dC, dI) vwCl (wC cI cZ ad sm fe ex dy gp gc op gr st dl wo n yc ya ys yd q zc zp zr zs zf z zm zt) H) (hPM : va_P (dC, dI) vwCl (wM cI cZ am sm fe ex gp gc dy n pe gr st dl wo q yc ya yd ys tp fu sh ro th) H) (hPo : va_P (dC, dI) vwCl [(o9, .inl (cJ, 1, .inr (.inl fo)))] H) (hS : va_S (fun q : Nat => s.heap.size ≤ q) s.heap H locs) (e1 : xs (5 * i9 + 1) = nI k) (ahq : q ≤ 100) (ahk : k < q) {ls : Array Slot} (hl : lv_has ls 7 [(4, .int (nI (5 * i9))), (0, .ref b), (1, .ref (ad 0)), (2, .ref (am 0)), (3, .ref o9)]) (kk : ∀ (fo2 : Nat → Int64) (H2 : Heap) (locs2 : List Loc) (c2 s2 : Nat), c2 ≤ 38 + i9 → s2 ≤ 1339 + 6 * i9 → va_P (dC, dI) vwCl (wC cI cZ ad sm fe ex dy gp gc op gr st dl wo n yc ya ys yd q zc zp zr zs zf z zm zt) H2 → va_P (dC, dI) vwCl (wM cI cZ am sm fe ex gp gc dy n pe gr st dl wo q yc ya yd ys tp fu sh ro (nI 0)) H2 → va_P (dC, dI) vwCl [(o9, .inl (cJ, 1, .inr (.inl fo2)))] H2 → va_S (fun q : Nat => s.heap.size ≤ q) s.heap H2 locs2 → ∀ ls, lv_has ls 7 [(4, .int (nI (5 * i9))), (0, .ref b), (1, .ref (ad 0)), (2, .ref (am 0)), (3, .ref o9)] → W p l e room_1 s m #[Value.ref b] below meth c H2 locs2 c2 s2 (lw_Z below #[Value.ref b] s) (F0 m 1529 ls [])) : W p l e room_1 s m #[Value.ref b] below meth c H locs cells slots (lw_Z below #[Value.ref b] s) (F0 m 1281 ls []) := by
  obtain ⟨hx, hb, hr, hml, hown, hts0, hX, hbl, hlocks, hgv⟩ := id C0
  obtain ⟨⟨hI, hIm⟩, ⟨hoC, hoM, hCM⟩, ⟨hAC, hAM, hAo⟩, hK, hKJ, hN⟩ := id CC
  have hts : ∀ w ∈ wsL_law, w.before #[Value.ref b] s = true := fun w hw => hts0 w (wsL_law_in w hw)
  have hown : s.vm.findClass RL = some m.cls := hown
  have hbA : ¬ (fun q : Nat => s.heap.size ≤ q) b := Nat.not_le.mpr hbl
  have hT : tX (fun q => s.heap.size ≤ q) s H := zz_kT hT0 hS
  refine lv_aload_n hx hb dL_law_1281 rfl (lv_at hl 2 rfl) ?_
  refine lv_aload_n hx hb dL_law_1282 rfl (lv_at hl 1 rfl) ?_
  refine lv_iload hx hb dL_law_1283 (lv_at hl 0 rfl) ?_
  refine lv_iconst (v := nI 1) hx hb dL_law_1285 (by decide) ?_
  refine lv_iadd hx hb dL_law_1286 ?_
  refine zt_i (y := nI (5 * i9 + 1)) (nI_add _ _) ?_
  refine va_sld hx hb hX hbl hbA hS (vp_in_nI (n := 5 * i9 + 1) (by omega) (by omega)) dL_law_1287 ?_
  rw [nI_clamp (show 5 * i9 + 1 < 2 ^ 31 by omega)]
  rw [e1]
  refine lv_aload_n hx hb dL_law_1288 rfl (lv_at hl 4 rfl) ?_
  refine kh_amountOf_ok l (cJ := cJ) (o9 := o9) (fo := fo) (k := k) (hq := ahq) (hk := ahk) hx hb hml hown hts hK hPC gL_law_L_amountOf ⟨Nat.le_of_ble_eq_true rfl, Nat.le_of_ble_eq_true rfl⟩ ⟨show cells + 0 ≤ 1083 by omega, show slots + 0 ≤ 9657 by omega⟩ hl.1 (Nat.le_of_ble_eq_true rfl) dL_law_1289 hI hoC hPo hKJ (fun x h => h.elim (hAC x) (fun h => by rw [h]; exact hAo)) hS (fun u9 H2 locs hPC fo hf9 hPo hS hz9 hf => ?_)
  have hPM := zz_kM hIm hPM (fun x h1 h2 => hf x h1 (fun h3 => h3.elim (fun h3 => hCM x h3 h2) (fun h3 => hoM (by rw [← h3]; exact h2))))
  refine lv_istore (lv' := [(5, .int (nI 0)), (4, .int (nI (5 * i9))), (0, .ref b), (1, .ref (ad 0)), (2, .ref (am 0)), (3, .ref o9)]) hx hb dL_law_1292 hl (by decide) rfl (fun ls hl => ?_)
  refine lv_aload_n hx hb dL_law_1294 rfl (lv_at hl 4 rfl) ?_
  refine lv_aload_n hx hb dL_law_1295 rfl (lv_at hl 2 rfl) ?_
  refine lv_iload hx hb dL_law_1296 (lv_at hl 1 rfl) ?_
  refine lv_iconst (v := nI 1) hx hb dL_law_1298 (by decide) ?_
  refine lv_iadd hx hb dL_law_1299 ?_
  refine zt_i (y := nI (5 * i9 + 1)) (nI_add _ _) ?_
  refine va_sld hx hb hX hbl hbA hS (vp_in_nI (n := 5 * i9 + 1) (by omega) (by omega)) dL_law_1300 ?_
  rw [nI_clamp (show 5 * i9 + 1 < 2 ^ 31 by omega)]
  rw [e1]
  refine k_X4_amountOf_ok l (k := k) (hq := ahq) (hk := ahk) hx hb hml hown hts hK hPM gL_law_X4_amountOf ⟨Nat.le_of_ble_eq_true rfl, Nat.le_of_ble_eq_true rfl⟩ ⟨show cells + 0 ≤ 1083 by omega, show slots + 0 ≤ 9657 by omega⟩ hl.1 (Nat.le_of_ble_eq_true rfl) dL_law_1301 hIm hAM hS (fun H2 locs hPM hS hf => ?_)
  have hPC := zz_kC hI hPC (fun x h1 h2 => hf x h1 (fun h3 => hCM x h2 h3))
  have hPo := zz_ko hPo (hf _ (zz_lt hPo) hoM)
  refine lv_istore (lv' := [(6, .int (ya k)), (5, .int (nI 0)), (4, .int (nI (5 * i9))), (0, .ref b), (1, .ref (ad 0)), (2, .ref (am 0)), (3, .ref o9)]) hx hb dL_law_1304 hl (by decide) rfl (fun ls hl => ?_)
  refine lv_aload_n hx hb dL_law_1306 rfl (lv_at hl 5 rfl) ?_
  refine k_X4_thrown l hx hb hml hown hts hK hPM gL_law_X4_thrown ⟨Nat.le_of_ble_eq_true rfl, Nat.le_of_ble_eq_true rfl⟩ ⟨show cells + 0 ≤ 1083 by omega, show slots + 0 ≤ 9657 by omega⟩ hl.1 (Nat.le_of_ble_eq_true rfl) dL_law_1307 ?_
  refine lv_iload hx hb dL_law_1310 (lv_at hl 1 rfl) ?_
  refine lv_icmp_eq (tgt := 1317) hx hb dL_law_1312 (by decide) (fun _ => ?_) (fun h9 => absurd rfl h9)
  refine lv_iload hx hb dL_law_1317 (lv_at hl 1 rfl) ?_
  refine lv_if_ne (tgt := 1334) hx hb dL_law_1319 (by decide) (fun h9 => absurd (by decide) h9) (fun _ => ?_)
  refine lv_aload_n hx hb dL_law_1322 rfl (lv_at hl 6 rfl) ?_
  refine lv_iconst (v := nI 0) hx hb dL_law_1323 (by decide) ?_
  refine va_lald hx hb hKJ hPo 0 0 rfl rfl (vp_in_nI (n := 0) (by decide) (by decide)) dL_law_1324 ?_
  refine zt_l (y := (ya k).toInt64) (by rw [show (nI 0).toNatClampNeg = 0 by decide]; exact hf9) ?_
  refine lv_iload hx hb dL_law_1325 (lv_at hl 0 rfl) ?_
  refine lv_i2l (v := (ya k).toInt64) hx hb dL_law_1327 rfl ?_
  refine W.lcmp hx hb dL_law_1328 ?_
  refine zg_eq (tgt := 1334) hx hb dL_law_1329 (by decide) (fun _ => ?_) (fun h9 => absurd (rfl) h9)
  refine lv_goto (tgt := 1529) hx hb dL_law_1334 (by decide) ?_
  exact kk _ _ _ _ _ (by omega) (by omega) hPC hPM hPo hS ls (lv_sub hl [2, 3, 4, 5, 6] rfl)
set_option maxHeartbeats 4000000 in
set_option maxRecDepth 100000 in
theorem lo_amountOf_no {p : Program} {e : Env} {s : State} {m : MethodId} {below : List Frame} {meth : Method} {c : Code} (l : Launch) (hfl : l.stackTraces = false) {b L : Nat} {xs : Nat → Int32} (C0 : lw_At p s m meth c b L xs) {dC : Nat → ClassId} {dI : Nat → Nat → Nat} {cI cZ cJ : ClassId} {ad am : Nat → Nat} {o9 : Nat} (CC : lwC dC dI cI cZ cJ ad am o9 s) (hT0 : tX (fun q => s.heap.size ≤ q) s s.heap) {sm fe ex dy : Int32} {gp gc op gr st dl wo : Nat → Int32} {n : Nat} {yc ya ys yd : Nat → Int32} {q : Nat} {zc zp zr zs zf : Nat → Int32} {z : Nat} {zm zt : Int64} {pe tp fu sh ro : Nat → Int32} {th : Int32} {fo : Nat → Int64} {x : Int32} {i9 : Nat} (hi9 : 5 * i9 + 5 ≤ L) (hL9 : L ≤ 2560) {H : Heap} {locs : List Loc} {cells slots : Nat} (hc1 : cells ≤ 37 + i9) (hs1 : slots ≤ 1333 + 6 * i9) (hPC : va_P (dC, dI) vwCl (wC cI cZ ad sm fe ex dy gp gc op gr st dl wo n yc ya ys yd q zc zp zr zs zf z zm zt) H) (hPM : va_P (dC, dI) vwCl (wM cI cZ am sm fe ex gp gc dy n pe gr st dl wo q yc ya yd ys tp fu sh ro th) H) (hPo : va_P (dC, dI) vwCl [(o9, .inl (cJ, 1, .inr (.inl fo)))] H) (hS : va_S (fun q : Nat => s.heap.size ≤ q) s.heap H locs) (e1 : xs (5 * i9 + 1) = x) (ahq : q ≤ 100) (ahk : ¬ vp_in x q) {ls : Array Slot} (hl : lv_has ls 7 [(4, .int (nI (5 * i9))), (0, .ref b), (1, .ref (ad 0)), (2, .ref (am 0)), (3, .ref o9)]) (kk : ∀ (fo2 : Nat → Int64) (H2 : Heap) (locs2 : List Loc) (c2 s2 : Nat), c2 ≤ 38 + i9 → s2 ≤ 1339 + 6 * i9 → va_P (dC, dI) vwCl (wC cI cZ ad sm fe ex dy gp gc op gr st dl wo n yc ya ys yd q zc zp zr zs zf z zm zt) H2 → va_P (dC, dI) vwCl (wM cI cZ am sm fe ex gp gc dy n pe gr st dl wo q yc ya yd ys tp fu sh ro (nI 1)) H2 → va_P (dC, dI) vwCl [(o9, .inl (cJ, 1, .inr (.inl fo2)))] H2 → va_S (fun q : Nat => s.heap.size ≤ q) s.heap H2 locs2 → ∀ ls, lv_has ls 7 [(4, .int (nI (5 * i9))), (0, .ref b), (1, .ref (ad 0)), (2, .ref (am 0)), (3, .ref o9)] → W p l e room_1 s m #[Value.ref b] below meth c H2 locs2 c2 s2 (lw_Z below #[Value.ref b] s) (F0 m 1529 ls [])) : W p l e room_1 s m #[Value.ref b] below meth c H locs cells slots (lw_Z below #[Value.ref b] s) (F0 m 1281 ls []) := by
  obtain ⟨hx, hb, hr, hml, hown, hts0, hX, hbl, hlocks, hgv⟩ := id C0
  obtain ⟨⟨hI, hIm⟩, ⟨hoC, hoM, hCM⟩, ⟨hAC, hAM, hAo⟩, hK, hKJ, hN⟩ := id CC
  have hts : ∀ w ∈ wsL_law, w.before #[Value.ref b] s = true := fun w hw => hts0 w (wsL_law_in w hw)
  have hown : s.vm.findClass RL = some m.cls := hown
  have hbA : ¬ (fun q : Nat => s.heap.size ≤ q) b := Nat.not_le.mpr hbl
  have hT : tX (fun q => s.heap.size ≤ q) s H := zz_kT hT0 hS
  refine lv_aload_n hx hb dL_law_1281 rfl (lv_at hl 2 rfl) ?_
  refine lv_aload_n hx hb dL_law_1282 rfl (lv_at hl 1 rfl) ?_
  refine lv_iload hx hb dL_law_1283 (lv_at hl 0 rfl) ?_
  refine lv_iconst (v := nI 1) hx hb dL_law_1285 (by decide) ?_
  refine lv_iadd hx hb dL_law_1286 ?_
  refine zt_i (y := nI (5 * i9 + 1)) (nI_add _ _) ?_
  refine va_sld hx hb hX hbl hbA hS (vp_in_nI (n := 5 * i9 + 1) (by omega) (by omega)) dL_law_1287 ?_
  rw [nI_clamp (show 5 * i9 + 1 < 2 ^ 31 by omega)]
  rw [e1]
  refine lv_aload_n hx hb dL_law_1288 rfl (lv_at hl 4 rfl) ?_
  refine kh_amountOf_no l hfl (cJ := cJ) (o9 := o9) (fo := fo) (x := x) (hq := ahq) (hk := ahk) hx hb hml hown hts hK hPC gL_law_L_amountOf ⟨Nat.le_of_ble_eq_true rfl, Nat.le_of_ble_eq_true rfl⟩ ⟨show cells + 1 ≤ 1083 by omega, show slots + 6 ≤ 9657 by omega⟩ hl.1 (Nat.le_of_ble_eq_true rfl) dL_law_1289 (hT.narrow (fun _ h => h.elim)) hN hS (fun H2 locs hS hz9 hf => ?_)
  have hPC := zz_kC hI hPC (fun x h1 _ => hf x h1)
  have hPM := zz_kM hIm hPM (fun x h1 _ => hf x h1)
  have hPo := zz_ko hPo (hf _ (zz_lt hPo))
  refine lv_istore (lv' := [(5, .int (nI 1)), (4, .int (nI (5 * i9))), (0, .ref b), (1, .ref (ad 0)), (2, .ref (am 0)), (3, .ref o9)]) hx hb dL_law_1292 hl (by decide) rfl (fun ls hl => ?_)
  refine lv_aload_n hx hb dL_law_1294 rfl (lv_at hl 4 rfl) ?_
  refine lv_aload_n hx hb dL_law_1295 rfl (lv_at hl 2 rfl) ?_
  refine lv_iload hx hb dL_law_1296 (lv_at hl 1 rfl) ?_
  refine lv_iconst (v := nI 1) hx hb dL_law_1298 (by decide) ?_
  refine lv_iadd hx hb dL_law_1299 ?_
  refine zt_i (y := nI (5 * i9 + 1)) (nI_add _ _) ?_
  refine va_sld hx hb hX hbl hbA hS (vp_in_nI (n := 5 * i9 + 1) (by omega) (by omega)) dL_law_1300 ?_
  rw [nI_clamp (show 5 * i9 + 1 < 2 ^ 31 by omega)]
  rw [e1]
  refine k_X4_amountOf_no l (x := x) (hq := ahq) (hk := ahk) hx hb hml hown hts hK hPM gL_law_X4_amountOf ⟨Nat.le_of_ble_eq_true rfl, Nat.le_of_ble_eq_true rfl⟩ ⟨show cells + 1 ≤ 1083 by omega, show slots + 6 ≤ 9657 by omega⟩ hl.1 (Nat.le_of_ble_eq_true rfl) dL_law_1301 hIm hAM hS (fun H2 locs hPM hS hf => ?_)
  have hPC := zz_kC hI hPC (fun x h1 h2 => hf x h1 (fun h3 => hCM x h2 h3))
  have hPo := zz_ko hPo (hf _ (zz_lt hPo) hoM)
  refine lv_istore (lv' := [(6, .int (nI 0)), (5, .int (nI 1)), (4, .int (nI (5 * i9))), (0, .ref b), (1, .ref (ad 0)), (2, .ref (am 0)), (3, .ref o9)]) hx hb dL_law_1304 hl (by decide) rfl (fun ls hl => ?_)
  refine lv_aload_n hx hb dL_law_1306 rfl (lv_at hl 5 rfl) ?_
  refine k_X4_thrown l hx hb hml hown hts hK hPM gL_law_X4_thrown ⟨Nat.le_of_ble_eq_true rfl, Nat.le_of_ble_eq_true rfl⟩ ⟨show cells + 1 ≤ 1083 by omega, show slots + 6 ≤ 9657 by omega⟩ hl.1 (Nat.le_of_ble_eq_true rfl) dL_law_1307 ?_
  refine lv_iload hx hb dL_law_1310 (lv_at hl 1 rfl) ?_
  refine lv_icmp_eq (tgt := 1317) hx hb dL_law_1312 (by decide) (fun _ => ?_) (fun h9 => absurd rfl h9)
  refine lv_iload hx hb dL_law_1317 (lv_at hl 1 rfl) ?_
  refine lv_if_ne (tgt := 1334) hx hb dL_law_1319 (by decide) (fun _ => ?_) (fun h9 => absurd h9 (by decide))
  refine lv_goto (tgt := 1529) hx hb dL_law_1334 (by decide) ?_
  exact kk _ _ _ _ _ (by omega) (by omega) hPC hPM hPo hS ls (lv_sub hl [2, 3, 4, 5, 6] rfl)
set_option maxHeartbeats 4000000 in
set_option maxRecDepth 100000 in
theorem lo_paymentState_ok {p : Program} {e : Env} {s : State} {m : MethodId} {below : List Frame} {meth : Method} {c : Code} (l : Launch) (hfl : l.stackTraces = false) {b L : Nat} {xs : Nat → Int32} (C0 : lw_At p s m meth c b L xs) {dC : Nat → ClassId} {dI : Nat → Nat → Nat} {cI cZ cJ : ClassId} {ad am : Nat → Nat} {o9 : Nat} (CC : lwC dC dI cI cZ cJ ad am o9 s) (hT0 : tX (fun q => s.heap.size ≤ q) s s.heap) {sm fe ex dy : Int32} {gp gc op gr st dl wo : Nat → Int32} {n : Nat} {yc ya ys yd : Nat → Int32} {q : Nat} {zc zp zr zs zf : Nat → Int32} {z : Nat} {zm zt : Int64} {pe tp fu sh ro : Nat → Int32} {th : Int32} {fo : Nat → Int64} {k : Nat} {i9 : Nat} (hi9 : 5 * i9 + 5 ≤ L) (hL9 : L ≤ 2560) {H : Heap} {locs : List Loc} {cells slots : Nat} (hc1 : cells ≤ 37 + i9) (hs1 : slots ≤ 1333 + 6 * i9) (hPC : va_P (dC, dI) vwCl (wC cI cZ ad sm fe ex dy gp gc op gr st dl wo n yc ya ys yd q zc zp zr zs zf z zm zt) H) (hPM : va_P (dC, dI) vwCl (wM cI cZ am sm fe ex gp gc dy n pe gr st dl wo q yc ya yd ys tp fu sh ro th) H) (hPo : va_P (dC, dI) vwCl [(o9, .inl (cJ, 1, .inr (.inl fo)))] H) (hS : va_S (fun q : Nat => s.heap.size ≤ q) s.heap H locs) (e1 : xs (5 * i9 + 1) = nI k) (ahq : q ≤ 100) (ahk : k < q) {ls : Array Slot} (hl : lv_has ls 7 [(4, .int (nI (5 * i9))), (0, .ref b), (1, .ref (ad 0)), (2, .ref (am 0)), (3, .ref o9)]) (kk : ∀ (fo2 : Nat → Int64) (H2 : Heap) (locs2 : List Loc) (c2 s2 : Nat), c2 ≤ 38 + i9 → s2 ≤ 1339 + 6 * i9 → va_P (dC, dI) vwCl (wC cI cZ ad sm fe ex dy gp gc op gr st dl wo n yc ya ys yd q zc zp zr zs zf z zm zt) H2 → va_P (dC, dI) vwCl (wM cI cZ am sm fe ex gp gc dy n pe gr st dl wo q yc ya yd ys tp fu sh ro (nI 0)) H2 → va_P (dC, dI) vwCl [(o9, .inl (cJ, 1, .inr (.inl fo2)))] H2 → va_S (fun q : Nat => s.heap.size ≤ q) s.heap H2 locs2 → ∀ ls, lv_has ls 7 [(4, .int (nI (5 * i9))), (0, .ref b), (1, .ref (ad 0)), (2, .ref (am 0)), (3, .ref o9)] → W p l e room_1 s m #[Value.ref b] below meth c H2 locs2 c2 s2 (lw_Z below #[Value.ref b] s) (F0 m 1529 ls [])) : W p l e room_1 s m #[Value.ref b] below meth c H locs cells slots (lw_Z below #[Value.ref b] s) (F0 m 1337 ls []) := by
  obtain ⟨hx, hb, hr, hml, hown, hts0, hX, hbl, hlocks, hgv⟩ := id C0
  obtain ⟨⟨hI, hIm⟩, ⟨hoC, hoM, hCM⟩, ⟨hAC, hAM, hAo⟩, hK, hKJ, hN⟩ := id CC
  have hts : ∀ w ∈ wsL_law, w.before #[Value.ref b] s = true := fun w hw => hts0 w (wsL_law_in w hw)
  have hown : s.vm.findClass RL = some m.cls := hown
  have hbA : ¬ (fun q : Nat => s.heap.size ≤ q) b := Nat.not_le.mpr hbl
  have hT : tX (fun q => s.heap.size ≤ q) s H := zz_kT hT0 hS
  refine lv_aload_n hx hb dL_law_1337 rfl (lv_at hl 2 rfl) ?_
  refine lv_aload_n hx hb dL_law_1338 rfl (lv_at hl 1 rfl) ?_
  refine lv_iload hx hb dL_law_1339 (lv_at hl 0 rfl) ?_
  refine lv_iconst (v := nI 1) hx hb dL_law_1341 (by decide) ?_
  refine lv_iadd hx hb dL_law_1342 ?_
  refine zt_i (y := nI (5 * i9 + 1)) (nI_add _ _) ?_
  refine va_sld hx hb hX hbl hbA hS (vp_in_nI (n := 5 * i9 + 1) (by omega) (by omega)) dL_law_1343 ?_
  rw [nI_clamp (show 5 * i9 + 1 < 2 ^ 31 by omega)]
  rw [e1]
  refine lv_aload_n hx hb dL_law_1344 rfl (lv_at hl 4 rfl) ?_
  refine kh_paymentState_ok l (cJ := cJ) (o9 := o9) (fo := fo) (k := k) (hq := ahq) (hk := ahk) hx hb hml hown hts hK hPC gL_law_L_paymentState ⟨Nat.le_of_ble_eq_true rfl, Nat.le_of_ble_eq_true rfl⟩ ⟨show cells + 0 ≤ 1083 by omega, show slots + 0 ≤ 9657 by omega⟩ hl.1 (Nat.le_of_ble_eq_true rfl) dL_law_1345 hI hoC hPo hKJ (fun x h => h.elim (hAC x) (fun h => by rw [h]; exact hAo)) hS (fun u9 H2 locs hPC fo hf9 hPo hS hz9 hf => ?_)
  have hPM := zz_kM hIm hPM (fun x h1 h2 => hf x h1 (fun h3 => h3.elim (fun h3 => hCM x h3 h2) (fun h3 => hoM (by rw [← h3]; exact h2))))
  refine lv_istore (lv' := [(5, .int (nI 0)), (4, .int (nI (5 * i9))), (0, .ref b), (1, .ref (ad 0)), (2, .ref (am 0)), (3, .ref o9)]) hx hb dL_law_1348 hl (by decide) rfl (fun ls hl => ?_)
  refine lv_aload_n hx hb dL_law_1350 rfl (lv_at hl 4 rfl) ?_
  refine lv_aload_n hx hb dL_law_1351 rfl (lv_at hl 2 rfl) ?_
  refine lv_iload hx hb dL_law_1352 (lv_at hl 1 rfl) ?_
  refine lv_iconst (v := nI 1) hx hb dL_law_1354 (by decide) ?_
  refine lv_iadd hx hb dL_law_1355 ?_
  refine zt_i (y := nI (5 * i9 + 1)) (nI_add _ _) ?_
  refine va_sld hx hb hX hbl hbA hS (vp_in_nI (n := 5 * i9 + 1) (by omega) (by omega)) dL_law_1356 ?_
  rw [nI_clamp (show 5 * i9 + 1 < 2 ^ 31 by omega)]
  rw [e1]
  refine k_X4_paymentState_ok l (k := k) (hq := ahq) (hk := ahk) hx hb hml hown hts hK hPM gL_law_X4_paymentState ⟨Nat.le_of_ble_eq_true rfl, Nat.le_of_ble_eq_true rfl⟩ ⟨show cells + 0 ≤ 1083 by omega, show slots + 0 ≤ 9657 by omega⟩ hl.1 (Nat.le_of_ble_eq_true rfl) dL_law_1357 hIm hAM hS (fun H2 locs hPM hS hf => ?_)
  have hPC := zz_kC hI hPC (fun x h1 h2 => hf x h1 (fun h3 => hCM x h2 h3))
  have hPo := zz_ko hPo (hf _ (zz_lt hPo) hoM)
  refine lv_istore (lv' := [(6, .int (ys k)), (5, .int (nI 0)), (4, .int (nI (5 * i9))), (0, .ref b), (1, .ref (ad 0)), (2, .ref (am 0)), (3, .ref o9)]) hx hb dL_law_1360 hl (by decide) rfl (fun ls hl => ?_)
  refine lv_aload_n hx hb dL_law_1362 rfl (lv_at hl 5 rfl) ?_
  refine k_X4_thrown l hx hb hml hown hts hK hPM gL_law_X4_thrown ⟨Nat.le_of_ble_eq_true rfl, Nat.le_of_ble_eq_true rfl⟩ ⟨show cells + 0 ≤ 1083 by omega, show slots + 0 ≤ 9657 by omega⟩ hl.1 (Nat.le_of_ble_eq_true rfl) dL_law_1363 ?_
  refine lv_iload hx hb dL_law_1366 (lv_at hl 1 rfl) ?_
  refine lv_icmp_eq (tgt := 1373) hx hb dL_law_1368 (by decide) (fun _ => ?_) (fun h9 => absurd rfl h9)
  refine lv_iload hx hb dL_law_1373 (lv_at hl 1 rfl) ?_
  refine lv_if_ne (tgt := 1390) hx hb dL_law_1375 (by decide) (fun h9 => absurd (by decide) h9) (fun _ => ?_)
  refine lv_aload_n hx hb dL_law_1378 rfl (lv_at hl 6 rfl) ?_
  refine lv_iconst (v := nI 0) hx hb dL_law_1379 (by decide) ?_
  refine va_lald hx hb hKJ hPo 0 0 rfl rfl (vp_in_nI (n := 0) (by decide) (by decide)) dL_law_1380 ?_
  refine zt_l (y := (ys k).toInt64) (by rw [show (nI 0).toNatClampNeg = 0 by decide]; exact hf9) ?_
  refine lv_iload hx hb dL_law_1381 (lv_at hl 0 rfl) ?_
  refine lv_i2l (v := (ys k).toInt64) hx hb dL_law_1383 rfl ?_
  refine W.lcmp hx hb dL_law_1384 ?_
  refine zg_eq (tgt := 1390) hx hb dL_law_1385 (by decide) (fun _ => ?_) (fun h9 => absurd (rfl) h9)
  refine lv_goto (tgt := 1529) hx hb dL_law_1390 (by decide) ?_
  exact kk _ _ _ _ _ (by omega) (by omega) hPC hPM hPo hS ls (lv_sub hl [2, 3, 4, 5, 6] rfl)
set_option maxHeartbeats 4000000 in
set_option maxRecDepth 100000 in
theorem lo_paymentState_no {p : Program} {e : Env} {s : State} {m : MethodId} {below : List Frame} {meth : Method} {c : Code} (l : Launch) (hfl : l.stackTraces = false) {b L : Nat} {xs : Nat → Int32} (C0 : lw_At p s m meth c b L xs) {dC : Nat → ClassId} {dI : Nat → Nat → Nat} {cI cZ cJ : ClassId} {ad am : Nat → Nat} {o9 : Nat} (CC : lwC dC dI cI cZ cJ ad am o9 s) (hT0 : tX (fun q => s.heap.size ≤ q) s s.heap) {sm fe ex dy : Int32} {gp gc op gr st dl wo : Nat → Int32} {n : Nat} {yc ya ys yd : Nat → Int32} {q : Nat} {zc zp zr zs zf : Nat → Int32} {z : Nat} {zm zt : Int64} {pe tp fu sh ro : Nat → Int32} {th : Int32} {fo : Nat → Int64} {x : Int32} {i9 : Nat} (hi9 : 5 * i9 + 5 ≤ L) (hL9 : L ≤ 2560) {H : Heap} {locs : List Loc} {cells slots : Nat} (hc1 : cells ≤ 37 + i9) (hs1 : slots ≤ 1333 + 6 * i9) (hPC : va_P (dC, dI) vwCl (wC cI cZ ad sm fe ex dy gp gc op gr st dl wo n yc ya ys yd q zc zp zr zs zf z zm zt) H) (hPM : va_P (dC, dI) vwCl (wM cI cZ am sm fe ex gp gc dy n pe gr st dl wo q yc ya yd ys tp fu sh ro th) H) (hPo : va_P (dC, dI) vwCl [(o9, .inl (cJ, 1, .inr (.inl fo)))] H) (hS : va_S (fun q : Nat => s.heap.size ≤ q) s.heap H locs) (e1 : xs (5 * i9 + 1) = x) (ahq : q ≤ 100) (ahk : ¬ vp_in x q) {ls : Array Slot} (hl : lv_has ls 7 [(4, .int (nI (5 * i9))), (0, .ref b), (1, .ref (ad 0)), (2, .ref (am 0)), (3, .ref o9)]) (kk : ∀ (fo2 : Nat → Int64) (H2 : Heap) (locs2 : List Loc) (c2 s2 : Nat), c2 ≤ 38 + i9 → s2 ≤ 1339 + 6 * i9 → va_P (dC, dI) vwCl (wC cI cZ ad sm fe ex dy gp gc op gr st dl wo n yc ya ys yd q zc zp zr zs zf z zm zt) H2 → va_P (dC, dI) vwCl (wM cI cZ am sm fe ex gp gc dy n pe gr st dl wo q yc ya yd ys tp fu sh ro (nI 1)) H2 → va_P (dC, dI) vwCl [(o9, .inl (cJ, 1, .inr (.inl fo2)))] H2 → va_S (fun q : Nat => s.heap.size ≤ q) s.heap H2 locs2 → ∀ ls, lv_has ls 7 [(4, .int (nI (5 * i9))), (0, .ref b), (1, .ref (ad 0)), (2, .ref (am 0)), (3, .ref o9)] → W p l e room_1 s m #[Value.ref b] below meth c H2 locs2 c2 s2 (lw_Z below #[Value.ref b] s) (F0 m 1529 ls [])) : W p l e room_1 s m #[Value.ref b] below meth c H locs cells slots (lw_Z below #[Value.ref b] s) (F0 m 1337 ls []) := by
  obtain ⟨hx, hb, hr, hml, hown, hts0, hX, hbl, hlocks, hgv⟩ := id C0
  obtain ⟨⟨hI, hIm⟩, ⟨hoC, hoM, hCM⟩, ⟨hAC, hAM, hAo⟩, hK, hKJ, hN⟩ := id CC
  have hts : ∀ w ∈ wsL_law, w.before #[Value.ref b] s = true := fun w hw => hts0 w (wsL_law_in w hw)
  have hown : s.vm.findClass RL = some m.cls := hown
  have hbA : ¬ (fun q : Nat => s.heap.size ≤ q) b := Nat.not_le.mpr hbl
  have hT : tX (fun q => s.heap.size ≤ q) s H := zz_kT hT0 hS
  refine lv_aload_n hx hb dL_law_1337 rfl (lv_at hl 2 rfl) ?_
  refine lv_aload_n hx hb dL_law_1338 rfl (lv_at hl 1 rfl) ?_
  refine lv_iload hx hb dL_law_1339 (lv_at hl 0 rfl) ?_
  refine lv_iconst (v := nI 1) hx hb dL_law_1341 (by decide) ?_
  refine lv_iadd hx hb dL_law_1342 ?_
  refine zt_i (y := nI (5 * i9 + 1)) (nI_add _ _) ?_
  refine va_sld hx hb hX hbl hbA hS (vp_in_nI (n := 5 * i9 + 1) (by omega) (by omega)) dL_law_1343 ?_
  rw [nI_clamp (show 5 * i9 + 1 < 2 ^ 31 by omega)]
  rw [e1]
  refine lv_aload_n hx hb dL_law_1344 rfl (lv_at hl 4 rfl) ?_
  refine kh_paymentState_no l hfl (cJ := cJ) (o9 := o9) (fo := fo) (x := x) (hq := ahq) (hk := ahk) hx hb hml hown hts hK hPC gL_law_L_paymentState ⟨Nat.le_of_ble_eq_true rfl, Nat.le_of_ble_eq_true rfl⟩ ⟨show cells + 1 ≤ 1083 by omega, show slots + 6 ≤ 9657 by omega⟩ hl.1 (Nat.le_of_ble_eq_true rfl) dL_law_1345 (hT.narrow (fun _ h => h.elim)) hN hS (fun H2 locs hS hz9 hf => ?_)
  have hPC := zz_kC hI hPC (fun x h1 _ => hf x h1)
  have hPM := zz_kM hIm hPM (fun x h1 _ => hf x h1)
  have hPo := zz_ko hPo (hf _ (zz_lt hPo))
  refine lv_istore (lv' := [(5, .int (nI 1)), (4, .int (nI (5 * i9))), (0, .ref b), (1, .ref (ad 0)), (2, .ref (am 0)), (3, .ref o9)]) hx hb dL_law_1348 hl (by decide) rfl (fun ls hl => ?_)
  refine lv_aload_n hx hb dL_law_1350 rfl (lv_at hl 4 rfl) ?_
  refine lv_aload_n hx hb dL_law_1351 rfl (lv_at hl 2 rfl) ?_
  refine lv_iload hx hb dL_law_1352 (lv_at hl 1 rfl) ?_
  refine lv_iconst (v := nI 1) hx hb dL_law_1354 (by decide) ?_
  refine lv_iadd hx hb dL_law_1355 ?_
  refine zt_i (y := nI (5 * i9 + 1)) (nI_add _ _) ?_
  refine va_sld hx hb hX hbl hbA hS (vp_in_nI (n := 5 * i9 + 1) (by omega) (by omega)) dL_law_1356 ?_
  rw [nI_clamp (show 5 * i9 + 1 < 2 ^ 31 by omega)]
  rw [e1]
  refine k_X4_paymentState_no l (x := x) (hq := ahq) (hk := ahk) hx hb hml hown hts hK hPM gL_law_X4_paymentState ⟨Nat.le_of_ble_eq_true rfl, Nat.le_of_ble_eq_true rfl⟩ ⟨show cells + 1 ≤ 1083 by omega, show slots + 6 ≤ 9657 by omega⟩ hl.1 (Nat.le_of_ble_eq_true rfl) dL_law_1357 hIm hAM hS (fun H2 locs hPM hS hf => ?_)
  have hPC := zz_kC hI hPC (fun x h1 h2 => hf x h1 (fun h3 => hCM x h2 h3))
  have hPo := zz_ko hPo (hf _ (zz_lt hPo) hoM)
  refine lv_istore (lv' := [(6, .int (nI 0)), (5, .int (nI 1)), (4, .int (nI (5 * i9))), (0, .ref b), (1, .ref (ad 0)), (2, .ref (am 0)), (3, .ref o9)]) hx hb dL_law_1360 hl (by decide) rfl (fun ls hl => ?_)
  refine lv_aload_n hx hb dL_law_1362 rfl (lv_at hl 5 rfl) ?_
  refine k_X4_thrown l hx hb hml hown hts hK hPM gL_law_X4_thrown ⟨Nat.le_of_ble_eq_true rfl, Nat.le_of_ble_eq_true rfl⟩ ⟨show cells + 1 ≤ 1083 by omega, show slots + 6 ≤ 9657 by omega⟩ hl.1 (Nat.le_of_ble_eq_true rfl) dL_law_1363 ?_
  refine lv_iload hx hb dL_law_1366 (lv_at hl 1 rfl) ?_
  refine lv_icmp_eq (tgt := 1373) hx hb dL_law_1368 (by decide) (fun _ => ?_) (fun h9 => absurd rfl h9)
  refine lv_iload hx hb dL_law_1373 (lv_at hl 1 rfl) ?_
  refine lv_if_ne (tgt := 1390) hx hb dL_law_1375 (by decide) (fun _ => ?_) (fun h9 => absurd h9 (by decide))
  refine lv_goto (tgt := 1529) hx hb dL_law_1390 (by decide) ?_
  exact kk _ _ _ _ _ (by omega) (by omega) hPC hPM hPo hS ls (lv_sub hl [2, 3, 4, 5, 6] rfl)
set_option maxHeartbeats 4000000 in
set_option maxRecDepth 100000 in
theorem lo_shareOf_ok {p : Program} {e : Env} {s : State} {m : MethodId} {below : List Frame} {meth : Method} {c : Code} (l : Launch) (hfl : l.stackTraces = false) {b L : Nat} {xs : Nat → Int32} (C0 : lw_At p s m meth c b L xs) {dC : Nat → ClassId} {dI : Nat → Nat → Nat} {cI cZ cJ : ClassId} {ad am : Nat → Nat} {o9 : Nat} (CC : lwC dC dI cI cZ cJ ad am o9 s) (hT0 : tX (fun q => s.heap.size ≤ q) s s.heap) {sm fe ex dy : Int32} {gp gc op gr st dl wo : Nat → Int32} {n : Nat} {yc ya ys yd : Nat → Int32} {q : Nat} {zc zp zr zs zf : Nat → Int32} {z : Nat} {zm zt : Int64} {pe tp fu sh ro : Nat → Int32} {th : Int32} {fo : Nat → Int64} {k : Nat} {le : Nat} {i9 : Nat} (hi9 : 5 * i9 + 5 ≤ L) (hL9 : L ≤ 2560) {H : Heap} {locs : List Loc} {cells slots : Nat} (hc1 : cells ≤ 37 + i9) (hs1 : slots ≤ 1333 + 6 * i9) (hPC : va_P (dC, dI) vwCl (wC cI cZ ad sm fe ex dy gp gc op gr st dl wo n yc ya ys yd q zc zp zr zs zf z zm zt) H) (hPM : va_P (dC, dI) vwCl (wM cI cZ am sm fe ex gp gc dy n pe gr st dl wo q yc ya yd ys tp fu sh ro th) H) (hPo : va_P (dC, dI) vwCl [(o9, .inl (cJ, 1, .inr (.inl fo)))] H) (hS : va_S (fun q : Nat => s.heap.size ≤ q) s.heap H locs) (e1 : xs (5 * i9 + 1) = nI k) (e2 : xs (5 * i9 + 2) = nI le) (ahn : n ≤ 24) (ahq : q ≤ 100) (ahk : k < n) (ahV : claimV gp gc gr yc ya ys q n) (ahL : leftV sm fe ex ya ys q) (ahle : le ≤ 100000) (ah1 : outN (nI le) (nI 0) (nI 100000) = 0) {ls : Array Slot} (hl : lv_has ls 7 [(4, .int (nI (5 * i9))), (0, .ref b), (1, .ref (ad 0)), (2, .ref (am 0)), (3, .ref o9)]) (kk : ∀ (u9 : (Nat → Int32) × (Nat → Int32) × (Nat → Int32) × (Nat → Int32) × (Nat → Int32) × Nat × Int64 × Int64) (v9 : (Nat → Int32) × (Nat → Int32) × (Nat → Int32) × (Nat → Int32)) (fo2 : Nat → Int64) (H2 : Heap) (locs2 : List Loc) (c2 s2 : Nat), c2 ≤ 38 + i9 → s2 ≤ 1339 + 6 * i9 → va_P (dC, dI) vwCl (wC cI cZ ad sm fe ex dy gp gc op gr st dl wo n yc ya ys yd q u9.1 u9.2.1 u9.2.2.1 u9.2.2.2.1 u9.2.2.2.2.1 u9.2.2.2.2.2.1 u9.2.2.2.2.2.2.1 u9.2.2.2.2.2.2.2) H2 → va_P (dC, dI) vwCl (wM cI cZ am sm fe ex gp gc dy n pe gr st dl wo q yc ya yd ys v9.1 v9.2.1 v9.2.2.1 v9.2.2.2 (nI 0)) H2 → va_P (dC, dI) vwCl [(o9, .inl (cJ, 1, .inr (.inl fo2)))] H2 → va_S (fun q : Nat => s.heap.size ≤ q) s.heap H2 locs2 → ∀ ls, lv_has ls 7 [(4, .int (nI (5 * i9))), (0, .ref b), (1, .ref (ad 0)), (2, .ref (am 0)), (3, .ref o9)] → W p l e room_1 s m #[Value.ref b] below meth c H2 locs2 c2 s2 (lw_Z below #[Value.ref b] s) (F0 m 1529 ls [])) : W p l e room_1 s m #[Value.ref b] below meth c H locs cells slots (lw_Z below #[Value.ref b] s) (F0 m 1393 ls []) := by
  obtain ⟨hx, hb, hr, hml, hown, hts0, hX, hbl, hlocks, hgv⟩ := id C0
  obtain ⟨⟨hI, hIm⟩, ⟨hoC, hoM, hCM⟩, ⟨hAC, hAM, hAo⟩, hK, hKJ, hN⟩ := id CC
  have hts : ∀ w ∈ wsL_law, w.before #[Value.ref b] s = true := fun w hw => hts0 w (wsL_law_in w hw)
  have hown : s.vm.findClass RL = some m.cls := hown
  have hbA : ¬ (fun q : Nat => s.heap.size ≤ q) b := Nat.not_le.mpr hbl
  have hT : tX (fun q => s.heap.size ≤ q) s H := zz_kT hT0 hS
  refine lv_aload_n hx hb dL_law_1393 rfl (lv_at hl 2 rfl) ?_
  refine lv_aload_n hx hb dL_law_1394 rfl (lv_at hl 1 rfl) ?_
  refine lv_iload hx hb dL_law_1395 (lv_at hl 0 rfl) ?_
  refine lv_iconst (v := nI 1) hx hb dL_law_1397 (by decide) ?_
  refine lv_iadd hx hb dL_law_1398 ?_
  refine zt_i (y := nI (5 * i9 + 1)) (nI_add _ _) ?_
  refine va_sld hx hb hX hbl hbA hS (vp_in_nI (n := 5 * i9 + 1) (by omega) (by omega)) dL_law_1399 ?_
  rw [nI_clamp (show 5 * i9 + 1 < 2 ^ 31 by omega)]
  rw [e1]
  refine lv_aload_n hx hb dL_law_1400 rfl (lv_at hl 1 rfl) ?_
  refine lv_iload hx hb dL_law_1401 (lv_at hl 0 rfl) ?_
  refine lv_iconst (v := nI 2) hx hb dL_law_1403 (by decide) ?_
  refine lv_iadd hx hb dL_law_1404 ?_
  refine zt_i (y := nI (5 * i9 + 2)) (nI_add _ _) ?_
  refine va_sld hx hb hX hbl hbA hS (vp_in_nI (n := 5 * i9 + 2) (by omega) (by omega)) dL_law_1405 ?_
  rw [nI_clamp (show 5 * i9 + 2 < 2 ^ 31 by omega)]
  rw [e2]
  refine lv_aload_n hx hb dL_law_1406 rfl (lv_at hl 4 rfl) ?_
  refine kh_shareOf_ok l (cJ := cJ) (o9 := o9) (fo := fo) (k := k) (le := le) (hn := ahn) (hq := ahq) (hk := ahk) (hV := ahV) (hL := ahL) (hle := ahle) (h1 := ah1) hx hb hml hown hts hK hPC gL_law_L_shareOf ⟨Nat.le_of_ble_eq_true rfl, Nat.le_of_ble_eq_true rfl⟩ ⟨show cells + 0 ≤ 1083 by omega, show slots + 0 ≤ 9657 by omega⟩ hl.1 (Nat.le_of_ble_eq_true rfl) dL_law_1407 hI hoC hPo hKJ (fun x h => h.elim (hAC x) (fun h => by rw [h]; exact hAo)) hS (fun u9 H2 locs hPC fo hf9 hPo hS hz9 hf => ?_)
  have hPM := zz_kM hIm hPM (fun x h1 h2 => hf x h1 (fun h3 => h3.elim (fun h3 => hCM x h3 h2) (fun h3 => hoM (by rw [← h3]; exact h2))))
  refine lv_istore (lv' := [(5, .int (nI 0)), (4, .int (nI (5 * i9))), (0, .ref b), (1, .ref (ad 0)), (2, .ref (am 0)), (3, .ref o9)]) hx hb dL_law_1410 hl (by decide) rfl (fun ls hl => ?_)
  refine lv_aload_n hx hb dL_law_1412 rfl (lv_at hl 4 rfl) ?_
  refine lv_aload_n hx hb dL_law_1413 rfl (lv_at hl 2 rfl) ?_
  refine lv_iload hx hb dL_law_1414 (lv_at hl 1 rfl) ?_
  refine lv_iconst (v := nI 1) hx hb dL_law_1416 (by decide) ?_
  refine lv_iadd hx hb dL_law_1417 ?_
  refine zt_i (y := nI (5 * i9 + 1)) (nI_add _ _) ?_
  refine va_sld hx hb hX hbl hbA hS (vp_in_nI (n := 5 * i9 + 1) (by omega) (by omega)) dL_law_1418 ?_
  rw [nI_clamp (show 5 * i9 + 1 < 2 ^ 31 by omega)]
  rw [e1]
  refine lv_aload_n hx hb dL_law_1419 rfl (lv_at hl 2 rfl) ?_
  refine lv_iload hx hb dL_law_1420 (lv_at hl 1 rfl) ?_
  refine lv_iconst (v := nI 2) hx hb dL_law_1422 (by decide) ?_
  refine lv_iadd hx hb dL_law_1423 ?_
  refine zt_i (y := nI (5 * i9 + 2)) (nI_add _ _) ?_
  refine va_sld hx hb hX hbl hbA hS (vp_in_nI (n := 5 * i9 + 2) (by omega) (by omega)) dL_law_1424 ?_
  rw [nI_clamp (show 5 * i9 + 2 < 2 ^ 31 by omega)]
  rw [e2]
  refine k_X4_shareOf_ok l (k := k) (le := le) (hn := ahn) (hq := ahq) (hk := ahk) (hV := ahV) (hL := ahL) (hle := ahle) (h1 := ah1) hx hb hml hown hts hK hPM gL_law_X4_shareOf ⟨Nat.le_of_ble_eq_true rfl, Nat.le_of_ble_eq_true rfl⟩ ⟨show cells + 0 ≤ 1083 by omega, show slots + 0 ≤ 9657 by omega⟩ hl.1 (Nat.le_of_ble_eq_true rfl) dL_law_1425 hIm hAM hS (fun v9 _ H2 locs hPM hS hf => ?_)
  have hPC := zz_kC hI hPC (fun x h1 h2 => hf x h1 (fun h3 => hCM x h2 h3))
  have hPo := zz_ko hPo (hf _ (zz_lt hPo) hoM)
  refine lv_istore (lv' := [(6, .int (nI (shK sm fe ex gp gc gr st yc ya ys n q le k))), (5, .int (nI 0)), (4, .int (nI (5 * i9))), (0, .ref b), (1, .ref (ad 0)), (2, .ref (am 0)), (3, .ref o9)]) hx hb dL_law_1428 hl (by decide) rfl (fun ls hl => ?_)
  refine lv_aload_n hx hb dL_law_1430 rfl (lv_at hl 5 rfl) ?_
  refine k_X4_thrown l hx hb hml hown hts hK hPM gL_law_X4_thrown ⟨Nat.le_of_ble_eq_true rfl, Nat.le_of_ble_eq_true rfl⟩ ⟨show cells + 0 ≤ 1083 by omega, show slots + 0 ≤ 9657 by omega⟩ hl.1 (Nat.le_of_ble_eq_true rfl) dL_law_1431 ?_
  refine lv_iload hx hb dL_law_1434 (lv_at hl 1 rfl) ?_
  refine lv_icmp_eq (tgt := 1441) hx hb dL_law_1436 (by decide) (fun _ => ?_) (fun h9 => absurd rfl h9)
  refine lv_iload hx hb dL_law_1441 (lv_at hl 1 rfl) ?_
  refine lv_if_ne (tgt := 1458) hx hb dL_law_1443 (by decide) (fun h9 => absurd (by decide) h9) (fun _ => ?_)
  refine lv_aload_n hx hb dL_law_1446 rfl (lv_at hl 6 rfl) ?_
  refine lv_iconst (v := nI 0) hx hb dL_law_1447 (by decide) ?_
  refine va_lald hx hb hKJ hPo 0 0 rfl rfl (vp_in_nI (n := 0) (by decide) (by decide)) dL_law_1448 ?_
  refine zt_l (y := (nI (shK sm fe ex gp gc gr st yc ya ys n q le k)).toInt64) (by rw [show (nI 0).toNatClampNeg = 0 by decide]; exact hf9) ?_
  refine lv_iload hx hb dL_law_1449 (lv_at hl 0 rfl) ?_
  refine lv_i2l (v := (nI (shK sm fe ex gp gc gr st yc ya ys n q le k)).toInt64) hx hb dL_law_1451 rfl ?_
  refine W.lcmp hx hb dL_law_1452 ?_
  refine zg_eq (tgt := 1458) hx hb dL_law_1453 (by decide) (fun _ => ?_) (fun h9 => absurd (rfl) h9)
  refine lv_goto (tgt := 1529) hx hb dL_law_1458 (by decide) ?_
  exact kk _ _ _ _ _ _ _ (by omega) (by omega) hPC hPM hPo hS ls (lv_sub hl [2, 3, 4, 5, 6] rfl)
set_option maxHeartbeats 4000000 in
set_option maxRecDepth 100000 in
theorem lo_shareOf_no {p : Program} {e : Env} {s : State} {m : MethodId} {below : List Frame} {meth : Method} {c : Code} (l : Launch) (hfl : l.stackTraces = false) {b L : Nat} {xs : Nat → Int32} (C0 : lw_At p s m meth c b L xs) {dC : Nat → ClassId} {dI : Nat → Nat → Nat} {cI cZ cJ : ClassId} {ad am : Nat → Nat} {o9 : Nat} (CC : lwC dC dI cI cZ cJ ad am o9 s) (hT0 : tX (fun q => s.heap.size ≤ q) s s.heap) {sm fe ex dy : Int32} {gp gc op gr st dl wo : Nat → Int32} {n : Nat} {yc ya ys yd : Nat → Int32} {q : Nat} {zc zp zr zs zf : Nat → Int32} {z : Nat} {zm zt : Int64} {pe tp fu sh ro : Nat → Int32} {th : Int32} {fo : Nat → Int64} {x : Int32} {le : Int32} {i9 : Nat} (hi9 : 5 * i9 + 5 ≤ L) (hL9 : L ≤ 2560) {H : Heap} {locs : List Loc} {cells slots : Nat} (hc1 : cells ≤ 37 + i9) (hs1 : slots ≤ 1333 + 6 * i9) (hPC : va_P (dC, dI) vwCl (wC cI cZ ad sm fe ex dy gp gc op gr st dl wo n yc ya ys yd q zc zp zr zs zf z zm zt) H) (hPM : va_P (dC, dI) vwCl (wM cI cZ am sm fe ex gp gc dy n pe gr st dl wo q yc ya yd ys tp fu sh ro th) H) (hPo : va_P (dC, dI) vwCl [(o9, .inl (cJ, 1, .inr (.inl fo)))] H) (hS : va_S (fun q : Nat => s.heap.size ≤ q) s.heap H locs) (e1 : xs (5 * i9 + 1) = x) (e2 : xs (5 * i9 + 2) = le) (ahn : n ≤ 24) (ahk : ¬ vp_in x n) {ls : Array Slot} (hl : lv_has ls 7 [(4, .int (nI (5 * i9))), (0, .ref b), (1, .ref (ad 0)), (2, .ref (am 0)), (3, .ref o9)]) (kk : ∀ (fo2 : Nat → Int64) (H2 : Heap) (locs2 : List Loc) (c2 s2 : Nat), c2 ≤ 38 + i9 → s2 ≤ 1339 + 6 * i9 → va_P (dC, dI) vwCl (wC cI cZ ad sm fe ex dy gp gc op gr st dl wo n yc ya ys yd q zc zp zr zs zf z zm zt) H2 → va_P (dC, dI) vwCl (wM cI cZ am sm fe ex gp gc dy n pe gr st dl wo q yc ya yd ys tp fu sh ro (nI 1)) H2 → va_P (dC, dI) vwCl [(o9, .inl (cJ, 1, .inr (.inl fo2)))] H2 → va_S (fun q : Nat => s.heap.size ≤ q) s.heap H2 locs2 → ∀ ls, lv_has ls 7 [(4, .int (nI (5 * i9))), (0, .ref b), (1, .ref (ad 0)), (2, .ref (am 0)), (3, .ref o9)] → W p l e room_1 s m #[Value.ref b] below meth c H2 locs2 c2 s2 (lw_Z below #[Value.ref b] s) (F0 m 1529 ls [])) : W p l e room_1 s m #[Value.ref b] below meth c H locs cells slots (lw_Z below #[Value.ref b] s) (F0 m 1393 ls []) := by
  obtain ⟨hx, hb, hr, hml, hown, hts0, hX, hbl, hlocks, hgv⟩ := id C0
  obtain ⟨⟨hI, hIm⟩, ⟨hoC, hoM, hCM⟩, ⟨hAC, hAM, hAo⟩, hK, hKJ, hN⟩ := id CC
  have hts : ∀ w ∈ wsL_law, w.before #[Value.ref b] s = true := fun w hw => hts0 w (wsL_law_in w hw)
  have hown : s.vm.findClass RL = some m.cls := hown
  have hbA : ¬ (fun q : Nat => s.heap.size ≤ q) b := Nat.not_le.mpr hbl
  have hT : tX (fun q => s.heap.size ≤ q) s H := zz_kT hT0 hS
  refine lv_aload_n hx hb dL_law_1393 rfl (lv_at hl 2 rfl) ?_
  refine lv_aload_n hx hb dL_law_1394 rfl (lv_at hl 1 rfl) ?_
  refine lv_iload hx hb dL_law_1395 (lv_at hl 0 rfl) ?_
  refine lv_iconst (v := nI 1) hx hb dL_law_1397 (by decide) ?_
  refine lv_iadd hx hb dL_law_1398 ?_
  refine zt_i (y := nI (5 * i9 + 1)) (nI_add _ _) ?_
  refine va_sld hx hb hX hbl hbA hS (vp_in_nI (n := 5 * i9 + 1) (by omega) (by omega)) dL_law_1399 ?_
  rw [nI_clamp (show 5 * i9 + 1 < 2 ^ 31 by omega)]
  rw [e1]
  refine lv_aload_n hx hb dL_law_1400 rfl (lv_at hl 1 rfl) ?_
  refine lv_iload hx hb dL_law_1401 (lv_at hl 0 rfl) ?_
  refine lv_iconst (v := nI 2) hx hb dL_law_1403 (by decide) ?_
  refine lv_iadd hx hb dL_law_1404 ?_
  refine zt_i (y := nI (5 * i9 + 2)) (nI_add _ _) ?_
  refine va_sld hx hb hX hbl hbA hS (vp_in_nI (n := 5 * i9 + 2) (by omega) (by omega)) dL_law_1405 ?_
  rw [nI_clamp (show 5 * i9 + 2 < 2 ^ 31 by omega)]
  rw [e2]
  refine lv_aload_n hx hb dL_law_1406 rfl (lv_at hl 4 rfl) ?_
  refine kh_shareOf_no l hfl (cJ := cJ) (o9 := o9) (fo := fo) (x := x) (le := le) (hn := ahn) (hk := ahk) hx hb hml hown hts hK hPC gL_law_L_shareOf ⟨Nat.le_of_ble_eq_true rfl, Nat.le_of_ble_eq_true rfl⟩ ⟨show cells + 1 ≤ 1083 by omega, show slots + 6 ≤ 9657 by omega⟩ hl.1 (Nat.le_of_ble_eq_true rfl) dL_law_1407 (hT.narrow (fun _ h => h.elim)) hN hS (fun H2 locs hS hz9 hf => ?_)
  have hPC := zz_kC hI hPC (fun x h1 _ => hf x h1)
  have hPM := zz_kM hIm hPM (fun x h1 _ => hf x h1)
  have hPo := zz_ko hPo (hf _ (zz_lt hPo))
  refine lv_istore (lv' := [(5, .int (nI 1)), (4, .int (nI (5 * i9))), (0, .ref b), (1, .ref (ad 0)), (2, .ref (am 0)), (3, .ref o9)]) hx hb dL_law_1410 hl (by decide) rfl (fun ls hl => ?_)
  refine lv_aload_n hx hb dL_law_1412 rfl (lv_at hl 4 rfl) ?_
  refine lv_aload_n hx hb dL_law_1413 rfl (lv_at hl 2 rfl) ?_
  refine lv_iload hx hb dL_law_1414 (lv_at hl 1 rfl) ?_
  refine lv_iconst (v := nI 1) hx hb dL_law_1416 (by decide) ?_
  refine lv_iadd hx hb dL_law_1417 ?_
  refine zt_i (y := nI (5 * i9 + 1)) (nI_add _ _) ?_
  refine va_sld hx hb hX hbl hbA hS (vp_in_nI (n := 5 * i9 + 1) (by omega) (by omega)) dL_law_1418 ?_
  rw [nI_clamp (show 5 * i9 + 1 < 2 ^ 31 by omega)]
  rw [e1]
  refine lv_aload_n hx hb dL_law_1419 rfl (lv_at hl 2 rfl) ?_
  refine lv_iload hx hb dL_law_1420 (lv_at hl 1 rfl) ?_
  refine lv_iconst (v := nI 2) hx hb dL_law_1422 (by decide) ?_
  refine lv_iadd hx hb dL_law_1423 ?_
  refine zt_i (y := nI (5 * i9 + 2)) (nI_add _ _) ?_
  refine va_sld hx hb hX hbl hbA hS (vp_in_nI (n := 5 * i9 + 2) (by omega) (by omega)) dL_law_1424 ?_
  rw [nI_clamp (show 5 * i9 + 2 < 2 ^ 31 by omega)]
  rw [e2]
  refine k_X4_shareOf_1 l (x := x) (y := le) (hn := ahn) (hk := ahk) hx hb hml hown hts hK hPM gL_law_X4_shareOf ⟨Nat.le_of_ble_eq_true rfl, Nat.le_of_ble_eq_true rfl⟩ ⟨show cells + 1 ≤ 1083 by omega, show slots + 6 ≤ 9657 by omega⟩ hl.1 (Nat.le_of_ble_eq_true rfl) dL_law_1425 hIm hAM hS (fun H2 locs hPM hS hf => ?_)
  have hPC := zz_kC hI hPC (fun x h1 h2 => hf x h1 (fun h3 => hCM x h2 h3))
  have hPo := zz_ko hPo (hf _ (zz_lt hPo) hoM)
  refine lv_istore (lv' := [(6, .int (nI 0)), (5, .int (nI 1)), (4, .int (nI (5 * i9))), (0, .ref b), (1, .ref (ad 0)), (2, .ref (am 0)), (3, .ref o9)]) hx hb dL_law_1428 hl (by decide) rfl (fun ls hl => ?_)
  refine lv_aload_n hx hb dL_law_1430 rfl (lv_at hl 5 rfl) ?_
  refine k_X4_thrown l hx hb hml hown hts hK hPM gL_law_X4_thrown ⟨Nat.le_of_ble_eq_true rfl, Nat.le_of_ble_eq_true rfl⟩ ⟨show cells + 1 ≤ 1083 by omega, show slots + 6 ≤ 9657 by omega⟩ hl.1 (Nat.le_of_ble_eq_true rfl) dL_law_1431 ?_
  refine lv_iload hx hb dL_law_1434 (lv_at hl 1 rfl) ?_
  refine lv_icmp_eq (tgt := 1441) hx hb dL_law_1436 (by decide) (fun _ => ?_) (fun h9 => absurd rfl h9)
  refine lv_iload hx hb dL_law_1441 (lv_at hl 1 rfl) ?_
  refine lv_if_ne (tgt := 1458) hx hb dL_law_1443 (by decide) (fun _ => ?_) (fun h9 => absurd h9 (by decide))
  refine lv_goto (tgt := 1529) hx hb dL_law_1458 (by decide) ?_
  exact kk _ _ _ _ _ (by omega) (by omega) hPC hPM hPo hS ls (lv_sub hl [2, 3, 4, 5, 6] rfl)
set_option maxHeartbeats 4000000 in
set_option maxRecDepth 100000 in
theorem lo_shareOf_iae {p : Program} {e : Env} {s : State} {m : MethodId} {below : List Frame} {meth : Method} {c : Code} (l : Launch) (hfl : l.stackTraces = false) {b L : Nat} {xs : Nat → Int32} (C0 : lw_At p s m meth c b L xs) {dC : Nat → ClassId} {dI : Nat → Nat → Nat} {cI cZ cJ : ClassId} {ad am : Nat → Nat} {o9 : Nat} (CC : lwC dC dI cI cZ cJ ad am o9 s) (hT0 : tX (fun q => s.heap.size ≤ q) s s.heap) {sm fe ex dy : Int32} {gp gc op gr st dl wo : Nat → Int32} {n : Nat} {yc ya ys yd : Nat → Int32} {q : Nat} {zc zp zr zs zf : Nat → Int32} {z : Nat} {zm zt : Int64} {pe tp fu sh ro : Nat → Int32} {th : Int32} {fo : Nat → Int64} {k : Nat} {le : Int32} {i9 : Nat} (hi9 : 5 * i9 + 5 ≤ L) (hL9 : L ≤ 2560) {H : Heap} {locs : List Loc} {cells slots : Nat} (hc1 : cells ≤ 37 + i9) (hs1 : slots ≤ 1333 + 6 * i9) (hPC : va_P (dC, dI) vwCl (wC cI cZ ad sm fe ex dy gp gc op gr st dl wo n yc ya ys yd q zc zp zr zs zf z zm zt) H) (hPM : va_P (dC, dI) vwCl (wM cI cZ am sm fe ex gp gc dy n pe gr st dl wo q yc ya yd ys tp fu sh ro th) H) (hPo : va_P (dC, dI) vwCl [(o9, .inl (cJ, 1, .inr (.inl fo)))] H) (hS : va_S (fun q : Nat => s.heap.size ≤ q) s.heap H locs) (e1 : xs (5 * i9 + 1) = nI k) (e2 : xs (5 * i9 + 2) = le) (ahn : n ≤ 24) (ahk : k < n) (ah1 : ¬ outN le (nI 0) (nI 100000) = 0) {ls : Array Slot} (hl : lv_has ls 7 [(4, .int (nI (5 * i9))), (0, .ref b), (1, .ref (ad 0)), (2, .ref (am 0)), (3, .ref o9)]) (kk : ∀ (fo2 : Nat → Int64) (H2 : Heap) (locs2 : List Loc) (c2 s2 : Nat), c2 ≤ 38 + i9 → s2 ≤ 1339 + 6 * i9 → va_P (dC, dI) vwCl (wC cI cZ ad sm fe ex dy gp gc op gr st dl wo n yc ya ys yd q zc zp zr zs zf z zm zt) H2 → va_P (dC, dI) vwCl (wM cI cZ am sm fe ex gp gc dy n pe gr st dl wo q yc ya yd ys tp fu sh ro (nI 2)) H2 → va_P (dC, dI) vwCl [(o9, .inl (cJ, 1, .inr (.inl fo2)))] H2 → va_S (fun q : Nat => s.heap.size ≤ q) s.heap H2 locs2 → ∀ ls, lv_has ls 7 [(4, .int (nI (5 * i9))), (0, .ref b), (1, .ref (ad 0)), (2, .ref (am 0)), (3, .ref o9)] → W p l e room_1 s m #[Value.ref b] below meth c H2 locs2 c2 s2 (lw_Z below #[Value.ref b] s) (F0 m 1529 ls [])) : W p l e room_1 s m #[Value.ref b] below meth c H locs cells slots (lw_Z below #[Value.ref b] s) (F0 m 1393 ls []) := by
  obtain ⟨hx, hb, hr, hml, hown, hts0, hX, hbl, hlocks, hgv⟩ := id C0
  obtain ⟨⟨hI, hIm⟩, ⟨hoC, hoM, hCM⟩, ⟨hAC, hAM, hAo⟩, hK, hKJ, hN⟩ := id CC
  have hts : ∀ w ∈ wsL_law, w.before #[Value.ref b] s = true := fun w hw => hts0 w (wsL_law_in w hw)
  have hown : s.vm.findClass RL = some m.cls := hown
  have hbA : ¬ (fun q : Nat => s.heap.size ≤ q) b := Nat.not_le.mpr hbl
  have hT : tX (fun q => s.heap.size ≤ q) s H := zz_kT hT0 hS
  refine lv_aload_n hx hb dL_law_1393 rfl (lv_at hl 2 rfl) ?_
  refine lv_aload_n hx hb dL_law_1394 rfl (lv_at hl 1 rfl) ?_
  refine lv_iload hx hb dL_law_1395 (lv_at hl 0 rfl) ?_
  refine lv_iconst (v := nI 1) hx hb dL_law_1397 (by decide) ?_
  refine lv_iadd hx hb dL_law_1398 ?_
  refine zt_i (y := nI (5 * i9 + 1)) (nI_add _ _) ?_
  refine va_sld hx hb hX hbl hbA hS (vp_in_nI (n := 5 * i9 + 1) (by omega) (by omega)) dL_law_1399 ?_
  rw [nI_clamp (show 5 * i9 + 1 < 2 ^ 31 by omega)]
  rw [e1]
  refine lv_aload_n hx hb dL_law_1400 rfl (lv_at hl 1 rfl) ?_
  refine lv_iload hx hb dL_law_1401 (lv_at hl 0 rfl) ?_
  refine lv_iconst (v := nI 2) hx hb dL_law_1403 (by decide) ?_
  refine lv_iadd hx hb dL_law_1404 ?_
  refine zt_i (y := nI (5 * i9 + 2)) (nI_add _ _) ?_
  refine va_sld hx hb hX hbl hbA hS (vp_in_nI (n := 5 * i9 + 2) (by omega) (by omega)) dL_law_1405 ?_
  rw [nI_clamp (show 5 * i9 + 2 < 2 ^ 31 by omega)]
  rw [e2]
  refine lv_aload_n hx hb dL_law_1406 rfl (lv_at hl 4 rfl) ?_
  refine kh_shareOf_iae l hfl (cJ := cJ) (o9 := o9) (fo := fo) (k := k) (le := le) (hn := ahn) (hk := ahk) (h1 := ah1) hx hb hml hown hts hK hPC gL_law_L_shareOf ⟨Nat.le_of_ble_eq_true rfl, Nat.le_of_ble_eq_true rfl⟩ ⟨show cells + 1 ≤ 1083 by omega, show slots + 6 ≤ 9657 by omega⟩ hl.1 (Nat.le_of_ble_eq_true rfl) dL_law_1407 (hT.narrow (fun _ h => h.elim)) hN hS (fun H2 locs hS hz9 hf => ?_)
  have hPC := zz_kC hI hPC (fun x h1 _ => hf x h1)
  have hPM := zz_kM hIm hPM (fun x h1 _ => hf x h1)
  have hPo := zz_ko hPo (hf _ (zz_lt hPo))
  refine lv_istore (lv' := [(5, .int (nI 2)), (4, .int (nI (5 * i9))), (0, .ref b), (1, .ref (ad 0)), (2, .ref (am 0)), (3, .ref o9)]) hx hb dL_law_1410 hl (by decide) rfl (fun ls hl => ?_)
  refine lv_aload_n hx hb dL_law_1412 rfl (lv_at hl 4 rfl) ?_
  refine lv_aload_n hx hb dL_law_1413 rfl (lv_at hl 2 rfl) ?_
  refine lv_iload hx hb dL_law_1414 (lv_at hl 1 rfl) ?_
  refine lv_iconst (v := nI 1) hx hb dL_law_1416 (by decide) ?_
  refine lv_iadd hx hb dL_law_1417 ?_
  refine zt_i (y := nI (5 * i9 + 1)) (nI_add _ _) ?_
  refine va_sld hx hb hX hbl hbA hS (vp_in_nI (n := 5 * i9 + 1) (by omega) (by omega)) dL_law_1418 ?_
  rw [nI_clamp (show 5 * i9 + 1 < 2 ^ 31 by omega)]
  rw [e1]
  refine lv_aload_n hx hb dL_law_1419 rfl (lv_at hl 2 rfl) ?_
  refine lv_iload hx hb dL_law_1420 (lv_at hl 1 rfl) ?_
  refine lv_iconst (v := nI 2) hx hb dL_law_1422 (by decide) ?_
  refine lv_iadd hx hb dL_law_1423 ?_
  refine zt_i (y := nI (5 * i9 + 2)) (nI_add _ _) ?_
  refine va_sld hx hb hX hbl hbA hS (vp_in_nI (n := 5 * i9 + 2) (by omega) (by omega)) dL_law_1424 ?_
  rw [nI_clamp (show 5 * i9 + 2 < 2 ^ 31 by omega)]
  rw [e2]
  refine k_X4_shareOf_2 l (k := k) (y := le) (hn := ahn) (hk := ahk) (h1 := ah1) hx hb hml hown hts hK hPM gL_law_X4_shareOf ⟨Nat.le_of_ble_eq_true rfl, Nat.le_of_ble_eq_true rfl⟩ ⟨show cells + 1 ≤ 1083 by omega, show slots + 6 ≤ 9657 by omega⟩ hl.1 (Nat.le_of_ble_eq_true rfl) dL_law_1425 hIm hAM hS (fun H2 locs hPM hS hf => ?_)
  have hPC := zz_kC hI hPC (fun x h1 h2 => hf x h1 (fun h3 => hCM x h2 h3))
  have hPo := zz_ko hPo (hf _ (zz_lt hPo) hoM)
  refine lv_istore (lv' := [(6, .int (nI 0)), (5, .int (nI 2)), (4, .int (nI (5 * i9))), (0, .ref b), (1, .ref (ad 0)), (2, .ref (am 0)), (3, .ref o9)]) hx hb dL_law_1428 hl (by decide) rfl (fun ls hl => ?_)
  refine lv_aload_n hx hb dL_law_1430 rfl (lv_at hl 5 rfl) ?_
  refine k_X4_thrown l hx hb hml hown hts hK hPM gL_law_X4_thrown ⟨Nat.le_of_ble_eq_true rfl, Nat.le_of_ble_eq_true rfl⟩ ⟨show cells + 1 ≤ 1083 by omega, show slots + 6 ≤ 9657 by omega⟩ hl.1 (Nat.le_of_ble_eq_true rfl) dL_law_1431 ?_
  refine lv_iload hx hb dL_law_1434 (lv_at hl 1 rfl) ?_
  refine lv_icmp_eq (tgt := 1441) hx hb dL_law_1436 (by decide) (fun _ => ?_) (fun h9 => absurd rfl h9)
  refine lv_iload hx hb dL_law_1441 (lv_at hl 1 rfl) ?_
  refine lv_if_ne (tgt := 1458) hx hb dL_law_1443 (by decide) (fun _ => ?_) (fun h9 => absurd h9 (by decide))
  refine lv_goto (tgt := 1529) hx hb dL_law_1458 (by decide) ?_
  exact kk _ _ _ _ _ (by omega) (by omega) hPC hPM hPo hS ls (lv_sub hl [2, 3, 4, 5, 6] rfl)
set_option maxHeartbeats 4000000 in
set_option maxRecDepth 100000 in
theorem lo_shareBySorting_ok {p : Program} {e : Env} {s : State} {m : MethodId} {below : List Frame} {meth : Method} {c : Code} (l : Launch) (hfl : l.stackTraces = false) {b L : Nat} {xs : Nat → Int32} (C0 : lw_At p s m meth c b L xs) {dC : Nat → ClassId} {dI : Nat → Nat → Nat} {cI cZ cJ : ClassId} {ad am : Nat → Nat} {o9 : Nat} (CC : lwC dC dI cI cZ cJ ad am o9 s) (hT0 : tX (fun q => s.heap.size ≤ q) s s.heap) {sm fe ex dy : Int32} {gp gc op gr st dl wo : Nat → Int32} {n : Nat} {yc ya ys yd : Nat → Int32} {q : Nat} {zc zp zr zs zf : Nat → Int32} {z : Nat} {zm zt : Int64} {pe tp fu sh ro : Nat → Int32} {th : Int32} {fo : Nat → Int64} {k : Nat} {le : Nat} {i9 : Nat} (hi9 : 5 * i9 + 5 ≤ L) (hL9 : L ≤ 2560) {H : Heap} {locs : List Loc} {cells slots : Nat} (hc1 : cells ≤ 37 + i9) (hs1 : slots ≤ 1333 + 6 * i9) (hPC : va_P (dC, dI) vwCl (wC cI cZ ad sm fe ex dy gp gc op gr st dl wo n yc ya ys yd q zc zp zr zs zf z zm zt) H) (hPM : va_P (dC, dI) vwCl (wM cI cZ am sm fe ex gp gc dy n pe gr st dl wo q yc ya yd ys tp fu sh ro th) H) (hPo : va_P (dC, dI) vwCl [(o9, .inl (cJ, 1, .inr (.inl fo)))] H) (hS : va_S (fun q : Nat => s.heap.size ≤ q) s.heap H locs) (e1 : xs (5 * i9 + 1) = nI k) (e2 : xs (5 * i9 + 2) = nI le) (ahn : n ≤ 24) (ahq : q ≤ 100) (ahk : k < n) (ahV : claimV gp gc gr yc ya ys q n) (ahL : leftV sm fe ex ya ys q) (ahle : le ≤ 100000) (ah1 : outN (nI le) (nI 0) (nI 100000) = 0) {ls : Array Slot} (hl : lv_has ls 7 [(4, .int (nI (5 * i9))), (0, .ref b), (1, .ref (ad 0)), (2, .ref (am 0)), (3, .ref o9)]) (kk : ∀ (u9 : (Nat → Int32) × (Nat → Int32) × (Nat → Int32) × (Nat → Int32) × (Nat → Int32) × Nat × Int64 × Int64) (v9 : (Nat → Int32) × (Nat → Int32) × (Nat → Int32) × (Nat → Int32)) (fo2 : Nat → Int64) (H2 : Heap) (locs2 : List Loc) (c2 s2 : Nat), c2 ≤ 38 + i9 → s2 ≤ 1339 + 6 * i9 → va_P (dC, dI) vwCl (wC cI cZ ad sm fe ex dy gp gc op gr st dl wo n yc ya ys yd q u9.1 u9.2.1 u9.2.2.1 u9.2.2.2.1 u9.2.2.2.2.1 u9.2.2.2.2.2.1 u9.2.2.2.2.2.2.1 u9.2.2.2.2.2.2.2) H2 → va_P (dC, dI) vwCl (wM cI cZ am sm fe ex gp gc dy n pe gr st dl wo q yc ya yd ys v9.1 v9.2.1 v9.2.2.1 v9.2.2.2 (nI 0)) H2 → va_P (dC, dI) vwCl [(o9, .inl (cJ, 1, .inr (.inl fo2)))] H2 → va_S (fun q : Nat => s.heap.size ≤ q) s.heap H2 locs2 → ∀ ls, lv_has ls 7 [(4, .int (nI (5 * i9))), (0, .ref b), (1, .ref (ad 0)), (2, .ref (am 0)), (3, .ref o9)] → W p l e room_1 s m #[Value.ref b] below meth c H2 locs2 c2 s2 (lw_Z below #[Value.ref b] s) (F0 m 1529 ls [])) : W p l e room_1 s m #[Value.ref b] below meth c H locs cells slots (lw_Z below #[Value.ref b] s) (F0 m 1461 ls []) := by
  obtain ⟨hx, hb, hr, hml, hown, hts0, hX, hbl, hlocks, hgv⟩ := id C0
  obtain ⟨⟨hI, hIm⟩, ⟨hoC, hoM, hCM⟩, ⟨hAC, hAM, hAo⟩, hK, hKJ, hN⟩ := id CC
  have hts : ∀ w ∈ wsL_law, w.before #[Value.ref b] s = true := fun w hw => hts0 w (wsL_law_in w hw)
  have hown : s.vm.findClass RL = some m.cls := hown
  have hbA : ¬ (fun q : Nat => s.heap.size ≤ q) b := Nat.not_le.mpr hbl
  have hT : tX (fun q => s.heap.size ≤ q) s H := zz_kT hT0 hS
  refine lv_aload_n hx hb dL_law_1461 rfl (lv_at hl 2 rfl) ?_
  refine lv_aload_n hx hb dL_law_1462 rfl (lv_at hl 1 rfl) ?_
  refine lv_iload hx hb dL_law_1463 (lv_at hl 0 rfl) ?_
  refine lv_iconst (v := nI 1) hx hb dL_law_1465 (by decide) ?_
  refine lv_iadd hx hb dL_law_1466 ?_
  refine zt_i (y := nI (5 * i9 + 1)) (nI_add _ _) ?_
  refine va_sld hx hb hX hbl hbA hS (vp_in_nI (n := 5 * i9 + 1) (by omega) (by omega)) dL_law_1467 ?_
  rw [nI_clamp (show 5 * i9 + 1 < 2 ^ 31 by omega)]
  rw [e1]
  refine lv_aload_n hx hb dL_law_1468 rfl (lv_at hl 1 rfl) ?_
  refine lv_iload hx hb dL_law_1469 (lv_at hl 0 rfl) ?_
  refine lv_iconst (v := nI 2) hx hb dL_law_1471 (by decide) ?_
  refine lv_iadd hx hb dL_law_1472 ?_
  refine zt_i (y := nI (5 * i9 + 2)) (nI_add _ _) ?_
  refine va_sld hx hb hX hbl hbA hS (vp_in_nI (n := 5 * i9 + 2) (by omega) (by omega)) dL_law_1473 ?_
  rw [nI_clamp (show 5 * i9 + 2 < 2 ^ 31 by omega)]
  rw [e2]
  refine lv_aload_n hx hb dL_law_1474 rfl (lv_at hl 4 rfl) ?_
  refine kh_shareBySorting_ok l (cJ := cJ) (o9 := o9) (fo := fo) (k := k) (le := le) (hn := ahn) (hq := ahq) (hk := ahk) (hV := ahV) (hL := ahL) (hle := ahle) (h1 := ah1) hx hb hml hown hts hK hPC gL_law_L_shareBySorting ⟨Nat.le_of_ble_eq_true rfl, Nat.le_of_ble_eq_true rfl⟩ ⟨show cells + 0 ≤ 1083 by omega, show slots + 0 ≤ 9657 by omega⟩ hl.1 (Nat.le_of_ble_eq_true rfl) dL_law_1475 hI hoC hPo hKJ (fun x h => h.elim (hAC x) (fun h => by rw [h]; exact hAo)) hS (fun u9 H2 locs hPC fo hf9 hPo hS hz9 hf => ?_)
  have hPM := zz_kM hIm hPM (fun x h1 h2 => hf x h1 (fun h3 => h3.elim (fun h3 => hCM x h3 h2) (fun h3 => hoM (by rw [← h3]; exact h2))))
  refine lv_istore (lv' := [(5, .int (nI 0)), (4, .int (nI (5 * i9))), (0, .ref b), (1, .ref (ad 0)), (2, .ref (am 0)), (3, .ref o9)]) hx hb dL_law_1478 hl (by decide) rfl (fun ls hl => ?_)
  refine lv_aload_n hx hb dL_law_1480 rfl (lv_at hl 4 rfl) ?_
  refine lv_aload_n hx hb dL_law_1481 rfl (lv_at hl 2 rfl) ?_
  refine lv_iload hx hb dL_law_1482 (lv_at hl 1 rfl) ?_
  refine lv_iconst (v := nI 1) hx hb dL_law_1484 (by decide) ?_
  refine lv_iadd hx hb dL_law_1485 ?_
  refine zt_i (y := nI (5 * i9 + 1)) (nI_add _ _) ?_
  refine va_sld hx hb hX hbl hbA hS (vp_in_nI (n := 5 * i9 + 1) (by omega) (by omega)) dL_law_1486 ?_
  rw [nI_clamp (show 5 * i9 + 1 < 2 ^ 31 by omega)]
  rw [e1]
  refine lv_aload_n hx hb dL_law_1487 rfl (lv_at hl 2 rfl) ?_
  refine lv_iload hx hb dL_law_1488 (lv_at hl 1 rfl) ?_
  refine lv_iconst (v := nI 2) hx hb dL_law_1490 (by decide) ?_
  refine lv_iadd hx hb dL_law_1491 ?_
  refine zt_i (y := nI (5 * i9 + 2)) (nI_add _ _) ?_
  refine va_sld hx hb hX hbl hbA hS (vp_in_nI (n := 5 * i9 + 2) (by omega) (by omega)) dL_law_1492 ?_
  rw [nI_clamp (show 5 * i9 + 2 < 2 ^ 31 by omega)]
  rw [e2]
  refine k_X4_shareBySorting_ok l (k := k) (le := le) (hn := ahn) (hq := ahq) (hk := ahk) (hV := ahV) (hL := ahL) (hle := ahle) (h1 := ah1) hx hb hml hown hts hK hPM gL_law_X4_shareBySorting ⟨Nat.le_of_ble_eq_true rfl, Nat.le_of_ble_eq_true rfl⟩ ⟨show cells + 0 ≤ 1083 by omega, show slots + 0 ≤ 9657 by omega⟩ hl.1 (Nat.le_of_ble_eq_true rfl) dL_law_1493 hIm hAM hS (fun v9 _ H2 locs hPM hS hf => ?_)
  have hPC := zz_kC hI hPC (fun x h1 h2 => hf x h1 (fun h3 => hCM x h2 h3))
  have hPo := zz_ko hPo (hf _ (zz_lt hPo) hoM)
  refine lv_istore (lv' := [(6, .int (nI (shK sm fe ex gp gc gr st yc ya ys n q le k))), (5, .int (nI 0)), (4, .int (nI (5 * i9))), (0, .ref b), (1, .ref (ad 0)), (2, .ref (am 0)), (3, .ref o9)]) hx hb dL_law_1496 hl (by decide) rfl (fun ls hl => ?_)
  refine lv_aload_n hx hb dL_law_1498 rfl (lv_at hl 5 rfl) ?_
  refine k_X4_thrown l hx hb hml hown hts hK hPM gL_law_X4_thrown ⟨Nat.le_of_ble_eq_true rfl, Nat.le_of_ble_eq_true rfl⟩ ⟨show cells + 0 ≤ 1083 by omega, show slots + 0 ≤ 9657 by omega⟩ hl.1 (Nat.le_of_ble_eq_true rfl) dL_law_1499 ?_
  refine lv_iload hx hb dL_law_1502 (lv_at hl 1 rfl) ?_
  refine lv_icmp_eq (tgt := 1509) hx hb dL_law_1504 (by decide) (fun _ => ?_) (fun h9 => absurd rfl h9)
  refine lv_iload hx hb dL_law_1509 (lv_at hl 1 rfl) ?_
  refine lv_if_ne (tgt := 1526) hx hb dL_law_1511 (by decide) (fun h9 => absurd (by decide) h9) (fun _ => ?_)
  refine lv_aload_n hx hb dL_law_1514 rfl (lv_at hl 6 rfl) ?_
  refine lv_iconst (v := nI 0) hx hb dL_law_1515 (by decide) ?_
  refine va_lald hx hb hKJ hPo 0 0 rfl rfl (vp_in_nI (n := 0) (by decide) (by decide)) dL_law_1516 ?_
  refine zt_l (y := (nI (shK sm fe ex gp gc gr st yc ya ys n q le k)).toInt64) (by rw [show (nI 0).toNatClampNeg = 0 by decide]; exact hf9) ?_
  refine lv_iload hx hb dL_law_1517 (lv_at hl 0 rfl) ?_
  refine lv_i2l (v := (nI (shK sm fe ex gp gc gr st yc ya ys n q le k)).toInt64) hx hb dL_law_1519 rfl ?_
  refine W.lcmp hx hb dL_law_1520 ?_
  refine zg_eq (tgt := 1526) hx hb dL_law_1521 (by decide) (fun _ => ?_) (fun h9 => absurd (rfl) h9)
  refine lv_goto (tgt := 1529) hx hb dL_law_1526 (by decide) ?_
  exact kk _ _ _ _ _ _ _ (by omega) (by omega) hPC hPM hPo hS ls (lv_sub hl [2, 3, 4, 5, 6] rfl)
set_option maxHeartbeats 4000000 in
set_option maxRecDepth 100000 in
theorem lo_shareBySorting_no {p : Program} {e : Env} {s : State} {m : MethodId} {below : List Frame} {meth : Method} {c : Code} (l : Launch) (hfl : l.stackTraces = false) {b L : Nat} {xs : Nat → Int32} (C0 : lw_At p s m meth c b L xs) {dC : Nat → ClassId} {dI : Nat → Nat → Nat} {cI cZ cJ : ClassId} {ad am : Nat → Nat} {o9 : Nat} (CC : lwC dC dI cI cZ cJ ad am o9 s) (hT0 : tX (fun q => s.heap.size ≤ q) s s.heap) {sm fe ex dy : Int32} {gp gc op gr st dl wo : Nat → Int32} {n : Nat} {yc ya ys yd : Nat → Int32} {q : Nat} {zc zp zr zs zf : Nat → Int32} {z : Nat} {zm zt : Int64} {pe tp fu sh ro : Nat → Int32} {th : Int32} {fo : Nat → Int64} {x : Int32} {le : Int32} {i9 : Nat} (hi9 : 5 * i9 + 5 ≤ L) (hL9 : L ≤ 2560) {H : Heap} {locs : List Loc} {cells slots : Nat} (hc1 : cells ≤ 37 + i9) (hs1 : slots ≤ 1333 + 6 * i9) (hPC : va_P (dC, dI) vwCl (wC cI cZ ad sm fe ex dy gp gc op gr st dl wo n yc ya ys yd q zc zp zr zs zf z zm zt) H) (hPM : va_P (dC, dI) vwCl (wM cI cZ am sm fe ex gp gc dy n pe gr st dl wo q yc ya yd ys tp fu sh ro th) H) (hPo : va_P (dC, dI) vwCl [(o9, .inl (cJ, 1, .inr (.inl fo)))] H) (hS : va_S (fun q : Nat => s.heap.size ≤ q) s.heap H locs) (e1 : xs (5 * i9 + 1) = x) (e2 : xs (5 * i9 + 2) = le) (ahn : n ≤ 24) (ahk : ¬ vp_in x n) {ls : Array Slot} (hl : lv_has ls 7 [(4, .int (nI (5 * i9))), (0, .ref b), (1, .ref (ad 0)), (2, .ref (am 0)), (3, .ref o9)]) (kk : ∀ (fo2 : Nat → Int64) (H2 : Heap) (locs2 : List Loc) (c2 s2 : Nat), c2 ≤ 38 + i9 → s2 ≤ 1339 + 6 * i9 → va_P (dC, dI) vwCl (wC cI cZ ad sm fe ex dy gp gc op gr st dl wo n yc ya ys yd q zc zp zr zs zf z zm zt) H2 → va_P (dC, dI) vwCl (wM cI cZ am sm fe ex gp gc dy n pe gr st dl wo q yc ya yd ys tp fu sh ro (nI 1)) H2 → va_P (dC, dI) vwCl [(o9, .inl (cJ, 1, .inr (.inl fo2)))] H2 → va_S (fun q : Nat => s.heap.size ≤ q) s.heap H2 locs2 → ∀ ls, lv_has ls 7 [(4, .int (nI (5 * i9))), (0, .ref b), (1, .ref (ad 0)), (2, .ref (am 0)), (3, .ref o9)] → W p l e room_1 s m #[Value.ref b] below meth c H2 locs2 c2 s2 (lw_Z below #[Value.ref b] s) (F0 m 1529 ls [])) : W p l e room_1 s m #[Value.ref b] below meth c H locs cells slots (lw_Z below #[Value.ref b] s) (F0 m 1461 ls []) := by
  obtain ⟨hx, hb, hr, hml, hown, hts0, hX, hbl, hlocks, hgv⟩ := id C0
  obtain ⟨⟨hI, hIm⟩, ⟨hoC, hoM, hCM⟩, ⟨hAC, hAM, hAo⟩, hK, hKJ, hN⟩ := id CC
  have hts : ∀ w ∈ wsL_law, w.before #[Value.ref b] s = true := fun w hw => hts0 w (wsL_law_in w hw)
  have hown : s.vm.findClass RL = some m.cls := hown
  have hbA : ¬ (fun q : Nat => s.heap.size ≤ q) b := Nat.not_le.mpr hbl
  have hT : tX (fun q => s.heap.size ≤ q) s H := zz_kT hT0 hS
  refine lv_aload_n hx hb dL_law_1461 rfl (lv_at hl 2 rfl) ?_
  refine lv_aload_n hx hb dL_law_1462 rfl (lv_at hl 1 rfl) ?_
  refine lv_iload hx hb dL_law_1463 (lv_at hl 0 rfl) ?_
  refine lv_iconst (v := nI 1) hx hb dL_law_1465 (by decide) ?_
  refine lv_iadd hx hb dL_law_1466 ?_
  refine zt_i (y := nI (5 * i9 + 1)) (nI_add _ _) ?_
  refine va_sld hx hb hX hbl hbA hS (vp_in_nI (n := 5 * i9 + 1) (by omega) (by omega)) dL_law_1467 ?_
  rw [nI_clamp (show 5 * i9 + 1 < 2 ^ 31 by omega)]
  rw [e1]
  refine lv_aload_n hx hb dL_law_1468 rfl (lv_at hl 1 rfl) ?_
  refine lv_iload hx hb dL_law_1469 (lv_at hl 0 rfl) ?_
  refine lv_iconst (v := nI 2) hx hb dL_law_1471 (by decide) ?_
  refine lv_iadd hx hb dL_law_1472 ?_
  refine zt_i (y := nI (5 * i9 + 2)) (nI_add _ _) ?_
  refine va_sld hx hb hX hbl hbA hS (vp_in_nI (n := 5 * i9 + 2) (by omega) (by omega)) dL_law_1473 ?_
  rw [nI_clamp (show 5 * i9 + 2 < 2 ^ 31 by omega)]
  rw [e2]
  refine lv_aload_n hx hb dL_law_1474 rfl (lv_at hl 4 rfl) ?_
  refine kh_shareBySorting_no l hfl (cJ := cJ) (o9 := o9) (fo := fo) (x := x) (le := le) (hn := ahn) (hk := ahk) hx hb hml hown hts hK hPC gL_law_L_shareBySorting ⟨Nat.le_of_ble_eq_true rfl, Nat.le_of_ble_eq_true rfl⟩ ⟨show cells + 1 ≤ 1083 by omega, show slots + 6 ≤ 9657 by omega⟩ hl.1 (Nat.le_of_ble_eq_true rfl) dL_law_1475 (hT.narrow (fun _ h => h.elim)) hN hS (fun H2 locs hS hz9 hf => ?_)
  have hPC := zz_kC hI hPC (fun x h1 _ => hf x h1)
  have hPM := zz_kM hIm hPM (fun x h1 _ => hf x h1)
  have hPo := zz_ko hPo (hf _ (zz_lt hPo))
  refine lv_istore (lv' := [(5, .int (nI 1)), (4, .int (nI (5 * i9))), (0, .ref b), (1, .ref (ad 0)), (2, .ref (am 0)), (3, .ref o9)]) hx hb dL_law_1478 hl (by decide) rfl (fun ls hl => ?_)
  refine lv_aload_n hx hb dL_law_1480 rfl (lv_at hl 4 rfl) ?_
  refine lv_aload_n hx hb dL_law_1481 rfl (lv_at hl 2 rfl) ?_
  refine lv_iload hx hb dL_law_1482 (lv_at hl 1 rfl) ?_
  refine lv_iconst (v := nI 1) hx hb dL_law_1484 (by decide) ?_
  refine lv_iadd hx hb dL_law_1485 ?_
  refine zt_i (y := nI (5 * i9 + 1)) (nI_add _ _) ?_
  refine va_sld hx hb hX hbl hbA hS (vp_in_nI (n := 5 * i9 + 1) (by omega) (by omega)) dL_law_1486 ?_
  rw [nI_clamp (show 5 * i9 + 1 < 2 ^ 31 by omega)]
  rw [e1]
  refine lv_aload_n hx hb dL_law_1487 rfl (lv_at hl 2 rfl) ?_
  refine lv_iload hx hb dL_law_1488 (lv_at hl 1 rfl) ?_
  refine lv_iconst (v := nI 2) hx hb dL_law_1490 (by decide) ?_
  refine lv_iadd hx hb dL_law_1491 ?_
  refine zt_i (y := nI (5 * i9 + 2)) (nI_add _ _) ?_
  refine va_sld hx hb hX hbl hbA hS (vp_in_nI (n := 5 * i9 + 2) (by omega) (by omega)) dL_law_1492 ?_
  rw [nI_clamp (show 5 * i9 + 2 < 2 ^ 31 by omega)]
  rw [e2]
  refine k_X4_shareBySorting_1 l (x := x) (y := le) (hn := ahn) (hk := ahk) hx hb hml hown hts hK hPM gL_law_X4_shareBySorting ⟨Nat.le_of_ble_eq_true rfl, Nat.le_of_ble_eq_true rfl⟩ ⟨show cells + 1 ≤ 1083 by omega, show slots + 6 ≤ 9657 by omega⟩ hl.1 (Nat.le_of_ble_eq_true rfl) dL_law_1493 hIm hAM hS (fun H2 locs hPM hS hf => ?_)
  have hPC := zz_kC hI hPC (fun x h1 h2 => hf x h1 (fun h3 => hCM x h2 h3))
  have hPo := zz_ko hPo (hf _ (zz_lt hPo) hoM)
  refine lv_istore (lv' := [(6, .int (nI 0)), (5, .int (nI 1)), (4, .int (nI (5 * i9))), (0, .ref b), (1, .ref (ad 0)), (2, .ref (am 0)), (3, .ref o9)]) hx hb dL_law_1496 hl (by decide) rfl (fun ls hl => ?_)
  refine lv_aload_n hx hb dL_law_1498 rfl (lv_at hl 5 rfl) ?_
  refine k_X4_thrown l hx hb hml hown hts hK hPM gL_law_X4_thrown ⟨Nat.le_of_ble_eq_true rfl, Nat.le_of_ble_eq_true rfl⟩ ⟨show cells + 1 ≤ 1083 by omega, show slots + 6 ≤ 9657 by omega⟩ hl.1 (Nat.le_of_ble_eq_true rfl) dL_law_1499 ?_
  refine lv_iload hx hb dL_law_1502 (lv_at hl 1 rfl) ?_
  refine lv_icmp_eq (tgt := 1509) hx hb dL_law_1504 (by decide) (fun _ => ?_) (fun h9 => absurd rfl h9)
  refine lv_iload hx hb dL_law_1509 (lv_at hl 1 rfl) ?_
  refine lv_if_ne (tgt := 1526) hx hb dL_law_1511 (by decide) (fun _ => ?_) (fun h9 => absurd h9 (by decide))
  refine lv_goto (tgt := 1529) hx hb dL_law_1526 (by decide) ?_
  exact kk _ _ _ _ _ (by omega) (by omega) hPC hPM hPo hS ls (lv_sub hl [2, 3, 4, 5, 6] rfl)
set_option maxHeartbeats 4000000 in
set_option maxRecDepth 100000 in
theorem lo_shareBySorting_iae {p : Program} {e : Env} {s : State} {m : MethodId} {below : List Frame} {meth : Method} {c : Code} (l : Launch) (hfl : l.stackTraces = false) {b L : Nat} {xs : Nat → Int32} (C0 : lw_At p s m meth c b L xs) {dC : Nat → ClassId} {dI : Nat → Nat → Nat} {cI cZ cJ : ClassId} {ad am : Nat → Nat} {o9 : Nat} (CC : lwC dC dI cI cZ cJ ad am o9 s) (hT0 : tX (fun q => s.heap.size ≤ q) s s.heap) {sm fe ex dy : Int32} {gp gc op gr st dl wo : Nat → Int32} {n : Nat} {yc ya ys yd : Nat → Int32} {q : Nat} {zc zp zr zs zf : Nat → Int32} {z : Nat} {zm zt : Int64} {pe tp fu sh ro : Nat → Int32} {th : Int32} {fo : Nat → Int64} {k : Nat} {le : Int32} {i9 : Nat} (hi9 : 5 * i9 + 5 ≤ L) (hL9 : L ≤ 2560) {H : Heap} {locs : List Loc} {cells slots : Nat} (hc1 : cells ≤ 37 + i9) (hs1 : slots ≤ 1333 + 6 * i9) (hPC : va_P (dC, dI) vwCl (wC cI cZ ad sm fe ex dy gp gc op gr st dl wo n yc ya ys yd q zc zp zr zs zf z zm zt) H) (hPM : va_P (dC, dI) vwCl (wM cI cZ am sm fe ex gp gc dy n pe gr st dl wo q yc ya yd ys tp fu sh ro th) H) (hPo : va_P (dC, dI) vwCl [(o9, .inl (cJ, 1, .inr (.inl fo)))] H) (hS : va_S (fun q : Nat => s.heap.size ≤ q) s.heap H locs) (e1 : xs (5 * i9 + 1) = nI k) (e2 : xs (5 * i9 + 2) = le) (ahn : n ≤ 24) (ahk : k < n) (ah1 : ¬ outN le (nI 0) (nI 100000) = 0) {ls : Array Slot} (hl : lv_has ls 7 [(4, .int (nI (5 * i9))), (0, .ref b), (1, .ref (ad 0)), (2, .ref (am 0)), (3, .ref o9)]) (kk : ∀ (fo2 : Nat → Int64) (H2 : Heap) (locs2 : List Loc) (c2 s2 : Nat), c2 ≤ 38 + i9 → s2 ≤ 1339 + 6 * i9 → va_P (dC, dI) vwCl (wC cI cZ ad sm fe ex dy gp gc op gr st dl wo n yc ya ys yd q zc zp zr zs zf z zm zt) H2 → va_P (dC, dI) vwCl (wM cI cZ am sm fe ex gp gc dy n pe gr st dl wo q yc ya yd ys tp fu sh ro (nI 2)) H2 → va_P (dC, dI) vwCl [(o9, .inl (cJ, 1, .inr (.inl fo2)))] H2 → va_S (fun q : Nat => s.heap.size ≤ q) s.heap H2 locs2 → ∀ ls, lv_has ls 7 [(4, .int (nI (5 * i9))), (0, .ref b), (1, .ref (ad 0)), (2, .ref (am 0)), (3, .ref o9)] → W p l e room_1 s m #[Value.ref b] below meth c H2 locs2 c2 s2 (lw_Z below #[Value.ref b] s) (F0 m 1529 ls [])) : W p l e room_1 s m #[Value.ref b] below meth c H locs cells slots (lw_Z below #[Value.ref b] s) (F0 m 1461 ls []) := by
  obtain ⟨hx, hb, hr, hml, hown, hts0, hX, hbl, hlocks, hgv⟩ := id C0
  obtain ⟨⟨hI, hIm⟩, ⟨hoC, hoM, hCM⟩, ⟨hAC, hAM, hAo⟩, hK, hKJ, hN⟩ := id CC
  have hts : ∀ w ∈ wsL_law, w.before #[Value.ref b] s = true := fun w hw => hts0 w (wsL_law_in w hw)
  have hown : s.vm.findClass RL = some m.cls := hown
  have hbA : ¬ (fun q : Nat => s.heap.size ≤ q) b := Nat.not_le.mpr hbl
  have hT : tX (fun q => s.heap.size ≤ q) s H := zz_kT hT0 hS
  refine lv_aload_n hx hb dL_law_1461 rfl (lv_at hl 2 rfl) ?_
  refine lv_aload_n hx hb dL_law_1462 rfl (lv_at hl 1 rfl) ?_
  refine lv_iload hx hb dL_law_1463 (lv_at hl 0 rfl) ?_
  refine lv_iconst (v := nI 1) hx hb dL_law_1465 (by decide) ?_
  refine lv_iadd hx hb dL_law_1466 ?_
  refine zt_i (y := nI (5 * i9 + 1)) (nI_add _ _) ?_
  refine va_sld hx hb hX hbl hbA hS (vp_in_nI (n := 5 * i9 + 1) (by omega) (by omega)) dL_law_1467 ?_
  rw [nI_clamp (show 5 * i9 + 1 < 2 ^ 31 by omega)]
  rw [e1]
  refine lv_aload_n hx hb dL_law_1468 rfl (lv_at hl 1 rfl) ?_
  refine lv_iload hx hb dL_law_1469 (lv_at hl 0 rfl) ?_
  refine lv_iconst (v := nI 2) hx hb dL_law_1471 (by decide) ?_
  refine lv_iadd hx hb dL_law_1472 ?_
  refine zt_i (y := nI (5 * i9 + 2)) (nI_add _ _) ?_
  refine va_sld hx hb hX hbl hbA hS (vp_in_nI (n := 5 * i9 + 2) (by omega) (by omega)) dL_law_1473 ?_
  rw [nI_clamp (show 5 * i9 + 2 < 2 ^ 31 by omega)]
  rw [e2]
  refine lv_aload_n hx hb dL_law_1474 rfl (lv_at hl 4 rfl) ?_
  refine kh_shareBySorting_iae l hfl (cJ := cJ) (o9 := o9) (fo := fo) (k := k) (le := le) (hn := ahn) (hk := ahk) (h1 := ah1) hx hb hml hown hts hK hPC gL_law_L_shareBySorting ⟨Nat.le_of_ble_eq_true rfl, Nat.le_of_ble_eq_true rfl⟩ ⟨show cells + 1 ≤ 1083 by omega, show slots + 6 ≤ 9657 by omega⟩ hl.1 (Nat.le_of_ble_eq_true rfl) dL_law_1475 (hT.narrow (fun _ h => h.elim)) hN hS (fun H2 locs hS hz9 hf => ?_)
  have hPC := zz_kC hI hPC (fun x h1 _ => hf x h1)
  have hPM := zz_kM hIm hPM (fun x h1 _ => hf x h1)
  have hPo := zz_ko hPo (hf _ (zz_lt hPo))
  refine lv_istore (lv' := [(5, .int (nI 2)), (4, .int (nI (5 * i9))), (0, .ref b), (1, .ref (ad 0)), (2, .ref (am 0)), (3, .ref o9)]) hx hb dL_law_1478 hl (by decide) rfl (fun ls hl => ?_)
  refine lv_aload_n hx hb dL_law_1480 rfl (lv_at hl 4 rfl) ?_
  refine lv_aload_n hx hb dL_law_1481 rfl (lv_at hl 2 rfl) ?_
  refine lv_iload hx hb dL_law_1482 (lv_at hl 1 rfl) ?_
  refine lv_iconst (v := nI 1) hx hb dL_law_1484 (by decide) ?_
  refine lv_iadd hx hb dL_law_1485 ?_
  refine zt_i (y := nI (5 * i9 + 1)) (nI_add _ _) ?_
  refine va_sld hx hb hX hbl hbA hS (vp_in_nI (n := 5 * i9 + 1) (by omega) (by omega)) dL_law_1486 ?_
  rw [nI_clamp (show 5 * i9 + 1 < 2 ^ 31 by omega)]
  rw [e1]
  refine lv_aload_n hx hb dL_law_1487 rfl (lv_at hl 2 rfl) ?_
  refine lv_iload hx hb dL_law_1488 (lv_at hl 1 rfl) ?_
  refine lv_iconst (v := nI 2) hx hb dL_law_1490 (by decide) ?_
  refine lv_iadd hx hb dL_law_1491 ?_
  refine zt_i (y := nI (5 * i9 + 2)) (nI_add _ _) ?_
  refine va_sld hx hb hX hbl hbA hS (vp_in_nI (n := 5 * i9 + 2) (by omega) (by omega)) dL_law_1492 ?_
  rw [nI_clamp (show 5 * i9 + 2 < 2 ^ 31 by omega)]
  rw [e2]
  refine k_X4_shareBySorting_2 l (k := k) (y := le) (hn := ahn) (hk := ahk) (h1 := ah1) hx hb hml hown hts hK hPM gL_law_X4_shareBySorting ⟨Nat.le_of_ble_eq_true rfl, Nat.le_of_ble_eq_true rfl⟩ ⟨show cells + 1 ≤ 1083 by omega, show slots + 6 ≤ 9657 by omega⟩ hl.1 (Nat.le_of_ble_eq_true rfl) dL_law_1493 hIm hAM hS (fun H2 locs hPM hS hf => ?_)
  have hPC := zz_kC hI hPC (fun x h1 h2 => hf x h1 (fun h3 => hCM x h2 h3))
  have hPo := zz_ko hPo (hf _ (zz_lt hPo) hoM)
  refine lv_istore (lv' := [(6, .int (nI 0)), (5, .int (nI 2)), (4, .int (nI (5 * i9))), (0, .ref b), (1, .ref (ad 0)), (2, .ref (am 0)), (3, .ref o9)]) hx hb dL_law_1496 hl (by decide) rfl (fun ls hl => ?_)
  refine lv_aload_n hx hb dL_law_1498 rfl (lv_at hl 5 rfl) ?_
  refine k_X4_thrown l hx hb hml hown hts hK hPM gL_law_X4_thrown ⟨Nat.le_of_ble_eq_true rfl, Nat.le_of_ble_eq_true rfl⟩ ⟨show cells + 1 ≤ 1083 by omega, show slots + 6 ≤ 9657 by omega⟩ hl.1 (Nat.le_of_ble_eq_true rfl) dL_law_1499 ?_
  refine lv_iload hx hb dL_law_1502 (lv_at hl 1 rfl) ?_
  refine lv_icmp_eq (tgt := 1509) hx hb dL_law_1504 (by decide) (fun _ => ?_) (fun h9 => absurd rfl h9)
  refine lv_iload hx hb dL_law_1509 (lv_at hl 1 rfl) ?_
  refine lv_if_ne (tgt := 1526) hx hb dL_law_1511 (by decide) (fun _ => ?_) (fun h9 => absurd h9 (by decide))
  refine lv_goto (tgt := 1529) hx hb dL_law_1526 (by decide) ?_
  exact kk _ _ _ _ _ (by omega) (by omega) hPC hPM hPo hS ls (lv_sub hl [2, 3, 4, 5, 6] rfl)
