set_option maxHeartbeats 4000000 in
set_option maxRecDepth 100000 in
theorem lo_claim_iae_1 {p : Program} {e : Env} {s : State} {m : MethodId} {below : List Frame} {meth : Method} {c : Code} (l : Launch) (hfl : l.stackTraces = false) {b L : Nat} {xs : Nat → Int32} (C0 : lw_At p s m meth c b L xs) {dC : Nat → ClassId} {dI : Nat → Nat → Nat} {cI cZ cJ : ClassId} {ad am : Nat → Nat} {o9 : Nat} (CC : lwC dC dI cI cZ cJ ad am o9 s) (hT0 : tX (fun q => s.heap.size ≤ q) s s.heap) {sm fe ex dy : Int32} {gp gc op gr st dl wo : Nat → Int32} {n : Nat} {yc ya ys yd : Nat → Int32} {q : Nat} {zc zp zr zs zf : Nat → Int32} {z : Nat} {zm zt : Int64} {pe tp fu sh ro : Nat → Int32} {th : Int32} {fo : Nat → Int64} {x1 : Int32} {g : Int32} {d : Int32} {i9 : Nat} (hi9 : 5 * i9 + 5 ≤ L) (hL9 : L ≤ 2560) {H : Heap} {locs : List Loc} {cells slots : Nat} (hc1 : cells ≤ 37 + i9) (hs1 : slots ≤ 1333 + 6 * i9) (hPC : va_P (dC, dI) vwCl (wC cI cZ ad sm fe ex dy gp gc op gr st dl wo n yc ya ys yd q zc zp zr zs zf z zm zt) H) (hPM : va_P (dC, dI) vwCl (wM cI cZ am sm fe ex gp gc dy n pe gr st dl wo q yc ya yd ys tp fu sh ro th) H) (hPo : va_P (dC, dI) vwCl [(o9, .inl (cJ, 1, .inr (.inl fo)))] H) (hS : va_S (fun q : Nat => s.heap.size ≤ q) s.heap H locs) (e1 : xs (5 * i9 + 1) = x1) (e2 : xs (5 * i9 + 2) = g) (e3 : ¬ xs (5 * i9 + 3) = 0) (e4 : xs (5 * i9 + 4) = d) (ah1 : outN x1 (nI 0) (nI 29) = 0) (ah2 : outN g (nI 0) (nI 4) = 0) (ah3 : ¬ outN d (nI 0) (nI 100) = 0) (bhn : n ≤ 24) {ls : Array Slot} (hl : lv_has ls 7 [(4, .int (nI (5 * i9))), (0, .ref b), (1, .ref (ad 0)), (2, .ref (am 0)), (3, .ref o9)]) (kk : ∀ (fo2 : Nat → Int64) (H2 : Heap) (locs2 : List Loc) (c2 s2 : Nat), c2 ≤ 38 + i9 → s2 ≤ 1339 + 6 * i9 → va_P (dC, dI) vwCl (wC cI cZ ad sm fe ex dy gp gc op gr st dl wo n yc ya ys yd q zc zp zr zs zf z zm zt) H2 → va_P (dC, dI) vwCl (wM cI cZ am sm fe ex gp gc dy n pe gr st dl wo q yc ya yd ys tp fu sh ro (nI 2)) H2 → va_P (dC, dI) vwCl [(o9, .inl (cJ, 1, .inr (.inl fo2)))] H2 → va_S (fun q : Nat => s.heap.size ≤ q) s.heap H2 locs2 → ∀ ls, lv_has ls 7 [(4, .int (nI (5 * i9))), (0, .ref b), (1, .ref (ad 0)), (2, .ref (am 0)), (3, .ref o9)] → W p l e room_1 s m #[Value.ref b] below meth c H2 locs2 c2 s2 (lw_Z below #[Value.ref b] s) (F0 m 1529 ls [])) : W p l e room_1 s m #[Value.ref b] below meth c H locs cells slots (lw_Z below #[Value.ref b] s) (F0 m 352 ls []) := by
  obtain ⟨hx, hb, hr, hml, hown, hts0, hX, hbl, hlocks, hgv⟩ := id C0
  obtain ⟨⟨hI, hIm⟩, ⟨hoC, hoM, hCM⟩, ⟨hAC, hAM, hAo⟩, hK, hKJ, hN⟩ := id CC
  have hts : ∀ w ∈ wsL_law, w.before #[Value.ref b] s = true := fun w hw => hts0 w (wsL_law_in w hw)
  have hown : s.vm.findClass RL = some m.cls := hown
  have hbA : ¬ (fun q : Nat => s.heap.size ≤ q) b := Nat.not_le.mpr hbl
  have hT : tX (fun q => s.heap.size ≤ q) s H := zz_kT hT0 hS
  refine lv_aload_n hx hb dL_law_352 rfl (lv_at hl 2 rfl) ?_
  refine lv_aload_n hx hb dL_law_353 rfl (lv_at hl 1 rfl) ?_
  refine lv_iload hx hb dL_law_354 (lv_at hl 0 rfl) ?_
  refine lv_iconst (v := nI 1) hx hb dL_law_356 (by decide) ?_
  refine lv_iadd hx hb dL_law_357 ?_
  refine zt_i (y := nI (5 * i9 + 1)) (nI_add _ _) ?_
  refine va_sld hx hb hX hbl hbA hS (vp_in_nI (n := 5 * i9 + 1) (by omega) (by omega)) dL_law_358 ?_
  rw [nI_clamp (show 5 * i9 + 1 < 2 ^ 31 by omega)]
  rw [e1]
  refine lv_aload_n hx hb dL_law_359 rfl (lv_at hl 1 rfl) ?_
  refine lv_iload hx hb dL_law_360 (lv_at hl 0 rfl) ?_
  refine lv_iconst (v := nI 2) hx hb dL_law_362 (by decide) ?_
  refine lv_iadd hx hb dL_law_363 ?_
  refine zt_i (y := nI (5 * i9 + 2)) (nI_add _ _) ?_
  refine va_sld hx hb hX hbl hbA hS (vp_in_nI (n := 5 * i9 + 2) (by omega) (by omega)) dL_law_364 ?_
  rw [nI_clamp (show 5 * i9 + 2 < 2 ^ 31 by omega)]
  rw [e2]
  refine lv_aload_n hx hb dL_law_365 rfl (lv_at hl 1 rfl) ?_
  refine lv_iload hx hb dL_law_366 (lv_at hl 0 rfl) ?_
  refine lv_iconst (v := nI 3) hx hb dL_law_368 (by decide) ?_
  refine lv_iadd hx hb dL_law_369 ?_
  refine zt_i (y := nI (5 * i9 + 3)) (nI_add _ _) ?_
  refine va_sld hx hb hX hbl hbA hS (vp_in_nI (n := 5 * i9 + 3) (by omega) (by omega)) dL_law_370 ?_
  rw [nI_clamp (show 5 * i9 + 3 < 2 ^ 31 by omega)]
  refine lv_if_eq (tgt := 378) hx hb dL_law_371 (by decide) (fun h9 => absurd h9 e3) (fun _ => ?_)
  refine lv_iconst (v := nI 1) hx hb dL_law_374 (by decide) ?_
  refine lv_goto (tgt := 379) hx hb dL_law_375 (by decide) ?_
  refine lv_aload_n hx hb dL_law_379 rfl (lv_at hl 1 rfl) ?_
  refine lv_iload hx hb dL_law_380 (lv_at hl 0 rfl) ?_
  refine lv_iconst (v := nI 4) hx hb dL_law_382 (by decide) ?_
  refine lv_iadd hx hb dL_law_383 ?_
  refine zt_i (y := nI (5 * i9 + 4)) (nI_add _ _) ?_
  refine va_sld hx hb hX hbl hbA hS (vp_in_nI (n := 5 * i9 + 4) (by omega) (by omega)) dL_law_384 ?_
  rw [nI_clamp (show 5 * i9 + 4 < 2 ^ 31 by omega)]
  rw [e4]
  refine lv_aload_n hx hb dL_law_385 rfl (lv_at hl 4 rfl) ?_
  refine kh_claim_iae l hfl (cJ := cJ) (o9 := o9) (fo := fo) (x1 := x1) (g := g) (b := (nI 1)) (d := d) (h1 := ah1) (h2 := ah2) (h3 := ah3) hx hb hml hown hts hK hPC gL_law_L_claim ⟨Nat.le_of_ble_eq_true rfl, Nat.le_of_ble_eq_true rfl⟩ ⟨show cells + 1 ≤ 1083 by omega, show slots + 6 ≤ 9657 by omega⟩ hl.1 (Nat.le_of_ble_eq_true rfl) dL_law_386 (hT.narrow (fun _ h => h.elim)) hN hS (fun H2 locs hS hz9 hf => ?_)
  have hPC := zz_kC hI hPC (fun x h1 _ => hf x h1)
  have hPM := zz_kM hIm hPM (fun x h1 _ => hf x h1)
  have hPo := zz_ko hPo (hf _ (zz_lt hPo))
  refine lv_istore (lv' := [(5, .int (nI 2)), (4, .int (nI (5 * i9))), (0, .ref b), (1, .ref (ad 0)), (2, .ref (am 0)), (3, .ref o9)]) hx hb dL_law_389 hl (by decide) rfl (fun ls hl => ?_)
  refine lv_aload_n hx hb dL_law_391 rfl (lv_at hl 4 rfl) ?_
  refine lv_aload_n hx hb dL_law_392 rfl (lv_at hl 2 rfl) ?_
  refine lv_iload hx hb dL_law_393 (lv_at hl 1 rfl) ?_
  refine lv_iconst (v := nI 1) hx hb dL_law_395 (by decide) ?_
  refine lv_iadd hx hb dL_law_396 ?_
  refine zt_i (y := nI (5 * i9 + 1)) (nI_add _ _) ?_
  refine va_sld hx hb hX hbl hbA hS (vp_in_nI (n := 5 * i9 + 1) (by omega) (by omega)) dL_law_397 ?_
  rw [nI_clamp (show 5 * i9 + 1 < 2 ^ 31 by omega)]
  rw [e1]
  refine lv_aload_n hx hb dL_law_398 rfl (lv_at hl 2 rfl) ?_
  refine lv_iload hx hb dL_law_399 (lv_at hl 1 rfl) ?_
  refine lv_iconst (v := nI 2) hx hb dL_law_401 (by decide) ?_
  refine lv_iadd hx hb dL_law_402 ?_
  refine zt_i (y := nI (5 * i9 + 2)) (nI_add _ _) ?_
  refine va_sld hx hb hX hbl hbA hS (vp_in_nI (n := 5 * i9 + 2) (by omega) (by omega)) dL_law_403 ?_
  rw [nI_clamp (show 5 * i9 + 2 < 2 ^ 31 by omega)]
  rw [e2]
  refine lv_aload_n hx hb dL_law_404 rfl (lv_at hl 2 rfl) ?_
  refine lv_iload hx hb dL_law_405 (lv_at hl 1 rfl) ?_
  refine lv_iconst (v := nI 3) hx hb dL_law_407 (by decide) ?_
  refine lv_iadd hx hb dL_law_408 ?_
  refine zt_i (y := nI (5 * i9 + 3)) (nI_add _ _) ?_
  refine va_sld hx hb hX hbl hbA hS (vp_in_nI (n := 5 * i9 + 3) (by omega) (by omega)) dL_law_409 ?_
  rw [nI_clamp (show 5 * i9 + 3 < 2 ^ 31 by omega)]
  refine lv_if_eq (tgt := 417) hx hb dL_law_410 (by decide) (fun h9 => absurd h9 e3) (fun _ => ?_)
  refine lv_iconst (v := nI 1) hx hb dL_law_413 (by decide) ?_
  refine lv_goto (tgt := 418) hx hb dL_law_414 (by decide) ?_
  refine lv_aload_n hx hb dL_law_418 rfl (lv_at hl 2 rfl) ?_
  refine lv_iload hx hb dL_law_419 (lv_at hl 1 rfl) ?_
  refine lv_iconst (v := nI 4) hx hb dL_law_421 (by decide) ?_
  refine lv_iadd hx hb dL_law_422 ?_
  refine zt_i (y := nI (5 * i9 + 4)) (nI_add _ _) ?_
  refine va_sld hx hb hX hbl hbA hS (vp_in_nI (n := 5 * i9 + 4) (by omega) (by omega)) dL_law_423 ?_
  rw [nI_clamp (show 5 * i9 + 4 < 2 ^ 31 by omega)]
  rw [e4]
  refine k_X4_claim_2 l (x1 := x1) (g := g) (b := (nI 1)) (d := d) (hn := bhn) (h1 := ah1) (h2 := ah2) (h3 := ah3) hx hb hml hown hts hK hPM gL_law_X4_claim ⟨Nat.le_of_ble_eq_true rfl, Nat.le_of_ble_eq_true rfl⟩ ⟨show cells + 1 ≤ 1083 by omega, show slots + 6 ≤ 9657 by omega⟩ hl.1 (Nat.le_of_ble_eq_true rfl) dL_law_424 hIm hAM hS (fun H2 locs hPM hS hf => ?_)
  have hPC := zz_kC hI hPC (fun x h1 h2 => hf x h1 (fun h3 => hCM x h2 h3))
  have hPo := zz_ko hPo (hf _ (zz_lt hPo) hoM)
  refine lv_istore (lv' := [(6, .int (nI 0)), (5, .int (nI 2)), (4, .int (nI (5 * i9))), (0, .ref b), (1, .ref (ad 0)), (2, .ref (am 0)), (3, .ref o9)]) hx hb dL_law_427 hl (by decide) rfl (fun ls hl => ?_)
  refine lv_aload_n hx hb dL_law_429 rfl (lv_at hl 5 rfl) ?_
  refine k_X4_thrown l hx hb hml hown hts hK hPM gL_law_X4_thrown ⟨Nat.le_of_ble_eq_true rfl, Nat.le_of_ble_eq_true rfl⟩ ⟨show cells + 1 ≤ 1083 by omega, show slots + 6 ≤ 9657 by omega⟩ hl.1 (Nat.le_of_ble_eq_true rfl) dL_law_430 ?_
  refine lv_iload hx hb dL_law_433 (lv_at hl 1 rfl) ?_
  refine lv_icmp_eq (tgt := 440) hx hb dL_law_435 (by decide) (fun _ => ?_) (fun h9 => absurd rfl h9)
  refine lv_iload hx hb dL_law_440 (lv_at hl 1 rfl) ?_
  refine lv_if_ne (tgt := 457) hx hb dL_law_442 (by decide) (fun _ => ?_) (fun h9 => absurd h9 (by decide))
  refine lv_goto (tgt := 1529) hx hb dL_law_457 (by decide) ?_
  exact kk _ _ _ _ _ (by omega) (by omega) hPC hPM hPo hS ls (lv_sub hl [2, 3, 4, 5, 6] rfl)
set_option maxHeartbeats 4000000 in
set_option maxRecDepth 100000 in
theorem lo_cure_ok {p : Program} {e : Env} {s : State} {m : MethodId} {below : List Frame} {meth : Method} {c : Code} (l : Launch) (hfl : l.stackTraces = false) {b L : Nat} {xs : Nat → Int32} (C0 : lw_At p s m meth c b L xs) {dC : Nat → ClassId} {dI : Nat → Nat → Nat} {cI cZ cJ : ClassId} {ad am : Nat → Nat} {o9 : Nat} (CC : lwC dC dI cI cZ cJ ad am o9 s) (hT0 : tX (fun q => s.heap.size ≤ q) s s.heap) {sm fe ex dy : Int32} {gp gc op gr st dl wo : Nat → Int32} {n : Nat} {yc ya ys yd : Nat → Int32} {q : Nat} {zc zp zr zs zf : Nat → Int32} {z : Nat} {zm zt : Int64} {pe tp fu sh ro : Nat → Int32} {th : Int32} {fo : Nat → Int64} {k : Nat} {i9 : Nat} (hi9 : 5 * i9 + 5 ≤ L) (hL9 : L ≤ 2560) {H : Heap} {locs : List Loc} {cells slots : Nat} (hc1 : cells ≤ 37 + i9) (hs1 : slots ≤ 1333 + 6 * i9) (hPC : va_P (dC, dI) vwCl (wC cI cZ ad sm fe ex dy gp gc op gr st dl wo n yc ya ys yd q zc zp zr zs zf z zm zt) H) (hPM : va_P (dC, dI) vwCl (wM cI cZ am sm fe ex gp gc dy n pe gr st dl wo q yc ya yd ys tp fu sh ro th) H) (hPo : va_P (dC, dI) vwCl [(o9, .inl (cJ, 1, .inr (.inl fo)))] H) (hS : va_S (fun q : Nat => s.heap.size ≤ q) s.heap H locs) (e1 : xs (5 * i9 + 1) = nI k) (ahn : n ≤ 24) (ahk : k < n) (ah1 : st k = nI 1) {ls : Array Slot} (hl : lv_has ls 7 [(4, .int (nI (5 * i9))), (0, .ref b), (1, .ref (ad 0)), (2, .ref (am 0)), (3, .ref o9)]) (kk : ∀ (fo2 : Nat → Int64) (H2 : Heap) (locs2 : List Loc) (c2 s2 : Nat), c2 ≤ 38 + i9 → s2 ≤ 1339 + 6 * i9 → va_P (dC, dI) vwCl (wC cI cZ ad sm fe ex dy gp gc op gr (upd st k (nI 0)) dl wo n yc ya ys yd q zc zp zr zs zf z zm zt) H2 → va_P (dC, dI) vwCl (wM cI cZ am sm fe ex gp gc dy n pe gr (upd st k (nI 0)) dl wo q yc ya yd ys tp fu sh ro (nI 0)) H2 → va_P (dC, dI) vwCl [(o9, .inl (cJ, 1, .inr (.inl fo2)))] H2 → va_S (fun q : Nat => s.heap.size ≤ q) s.heap H2 locs2 → ∀ ls, lv_has ls 7 [(4, .int (nI (5 * i9))), (0, .ref b), (1, .ref (ad 0)), (2, .ref (am 0)), (3, .ref o9)] → W p l e room_1 s m #[Value.ref b] below meth c H2 locs2 c2 s2 (lw_Z below #[Value.ref b] s) (F0 m 1529 ls [])) : W p l e room_1 s m #[Value.ref b] below meth c H locs cells slots (lw_Z below #[Value.ref b] s) (F0 m 460 ls []) := by
  obtain ⟨hx, hb, hr, hml, hown, hts0, hX, hbl, hlocks, hgv⟩ := id C0
  obtain ⟨⟨hI, hIm⟩, ⟨hoC, hoM, hCM⟩, ⟨hAC, hAM, hAo⟩, hK, hKJ, hN⟩ := id CC
  have hts : ∀ w ∈ wsL_law, w.before #[Value.ref b] s = true := fun w hw => hts0 w (wsL_law_in w hw)
  have hown : s.vm.findClass RL = some m.cls := hown
  have hbA : ¬ (fun q : Nat => s.heap.size ≤ q) b := Nat.not_le.mpr hbl
  have hT : tX (fun q => s.heap.size ≤ q) s H := zz_kT hT0 hS
  refine lv_aload_n hx hb dL_law_460 rfl (lv_at hl 2 rfl) ?_
  refine lv_aload_n hx hb dL_law_461 rfl (lv_at hl 1 rfl) ?_
  refine lv_iload hx hb dL_law_462 (lv_at hl 0 rfl) ?_
  refine lv_iconst (v := nI 1) hx hb dL_law_464 (by decide) ?_
  refine lv_iadd hx hb dL_law_465 ?_
  refine zt_i (y := nI (5 * i9 + 1)) (nI_add _ _) ?_
  refine va_sld hx hb hX hbl hbA hS (vp_in_nI (n := 5 * i9 + 1) (by omega) (by omega)) dL_law_466 ?_
  rw [nI_clamp (show 5 * i9 + 1 < 2 ^ 31 by omega)]
  rw [e1]
  refine lv_aload_n hx hb dL_law_467 rfl (lv_at hl 4 rfl) ?_
  refine kh_cure_ok l (cJ := cJ) (o9 := o9) (fo := fo) (k := k) (hn := ahn) (hk := ahk) (h1 := ah1) hx hb hml hown hts hK hPC gL_law_L_cure ⟨Nat.le_of_ble_eq_true rfl, Nat.le_of_ble_eq_true rfl⟩ ⟨show cells + 0 ≤ 1083 by omega, show slots + 0 ≤ 9657 by omega⟩ hl.1 (Nat.le_of_ble_eq_true rfl) dL_law_468 hI hoC hPo hKJ (fun x h => h.elim (hAC x) (fun h => by rw [h]; exact hAo)) hS (fun u9 H2 locs hPC fo hf9 hPo hS hz9 hf => ?_)
  have hPM := zz_kM hIm hPM (fun x h1 h2 => hf x h1 (fun h3 => h3.elim (fun h3 => hCM x h3 h2) (fun h3 => hoM (by rw [← h3]; exact h2))))
  refine lv_istore (lv' := [(5, .int (nI 0)), (4, .int (nI (5 * i9))), (0, .ref b), (1, .ref (ad 0)), (2, .ref (am 0)), (3, .ref o9)]) hx hb dL_law_471 hl (by decide) rfl (fun ls hl => ?_)
  refine lv_aload_n hx hb dL_law_473 rfl (lv_at hl 4 rfl) ?_
  refine lv_aload_n hx hb dL_law_474 rfl (lv_at hl 2 rfl) ?_
  refine lv_iload hx hb dL_law_475 (lv_at hl 1 rfl) ?_
  refine lv_iconst (v := nI 1) hx hb dL_law_477 (by decide) ?_
  refine lv_iadd hx hb dL_law_478 ?_
  refine zt_i (y := nI (5 * i9 + 1)) (nI_add _ _) ?_
  refine va_sld hx hb hX hbl hbA hS (vp_in_nI (n := 5 * i9 + 1) (by omega) (by omega)) dL_law_479 ?_
  rw [nI_clamp (show 5 * i9 + 1 < 2 ^ 31 by omega)]
  rw [e1]
  refine k_X4_cure_ok l (k := k) (hn := ahn) (hk := ahk) (h1 := ah1) hx hb hml hown hts hK hPM gL_law_X4_cure ⟨Nat.le_of_ble_eq_true rfl, Nat.le_of_ble_eq_true rfl⟩ ⟨show cells + 0 ≤ 1083 by omega, show slots + 0 ≤ 9657 by omega⟩ hl.1 (Nat.le_of_ble_eq_true rfl) dL_law_480 hIm hAM hS (fun H2 locs hPM hS hf => ?_)
  have hPC := zz_kC hI hPC (fun x h1 h2 => hf x h1 (fun h3 => hCM x h2 h3))
  have hPo := zz_ko hPo (hf _ (zz_lt hPo) hoM)
  refine lv_istore (lv' := [(6, .int (dl k - dy)), (5, .int (nI 0)), (4, .int (nI (5 * i9))), (0, .ref b), (1, .ref (ad 0)), (2, .ref (am 0)), (3, .ref o9)]) hx hb dL_law_483 hl (by decide) rfl (fun ls hl => ?_)
  refine lv_aload_n hx hb dL_law_485 rfl (lv_at hl 5 rfl) ?_
  refine k_X4_thrown l hx hb hml hown hts hK hPM gL_law_X4_thrown ⟨Nat.le_of_ble_eq_true rfl, Nat.le_of_ble_eq_true rfl⟩ ⟨show cells + 0 ≤ 1083 by omega, show slots + 0 ≤ 9657 by omega⟩ hl.1 (Nat.le_of_ble_eq_true rfl) dL_law_486 ?_
  refine lv_iload hx hb dL_law_489 (lv_at hl 1 rfl) ?_
  refine lv_icmp_eq (tgt := 496) hx hb dL_law_491 (by decide) (fun _ => ?_) (fun h9 => absurd rfl h9)
  refine lv_iload hx hb dL_law_496 (lv_at hl 1 rfl) ?_
  refine lv_if_ne (tgt := 513) hx hb dL_law_498 (by decide) (fun h9 => absurd (by decide) h9) (fun _ => ?_)
  refine lv_aload_n hx hb dL_law_501 rfl (lv_at hl 6 rfl) ?_
  refine lv_iconst (v := nI 0) hx hb dL_law_502 (by decide) ?_
  refine va_lald hx hb hKJ hPo 0 0 rfl rfl (vp_in_nI (n := 0) (by decide) (by decide)) dL_law_503 ?_
  refine zt_l (y := (dl k - dy).toInt64) (by rw [show (nI 0).toNatClampNeg = 0 by decide]; exact hf9) ?_
  refine lv_iload hx hb dL_law_504 (lv_at hl 0 rfl) ?_
  refine lv_i2l (v := (dl k - dy).toInt64) hx hb dL_law_506 rfl ?_
  refine W.lcmp hx hb dL_law_507 ?_
  refine zg_eq (tgt := 513) hx hb dL_law_508 (by decide) (fun _ => ?_) (fun h9 => absurd (rfl) h9)
  refine lv_goto (tgt := 1529) hx hb dL_law_513 (by decide) ?_
  exact kk _ _ _ _ _ (by omega) (by omega) hPC hPM hPo hS ls (lv_sub hl [2, 3, 4, 5, 6] rfl)
set_option maxHeartbeats 4000000 in
set_option maxRecDepth 100000 in
theorem lo_cure_no {p : Program} {e : Env} {s : State} {m : MethodId} {below : List Frame} {meth : Method} {c : Code} (l : Launch) (hfl : l.stackTraces = false) {b L : Nat} {xs : Nat → Int32} (C0 : lw_At p s m meth c b L xs) {dC : Nat → ClassId} {dI : Nat → Nat → Nat} {cI cZ cJ : ClassId} {ad am : Nat → Nat} {o9 : Nat} (CC : lwC dC dI cI cZ cJ ad am o9 s) (hT0 : tX (fun q => s.heap.size ≤ q) s s.heap) {sm fe ex dy : Int32} {gp gc op gr st dl wo : Nat → Int32} {n : Nat} {yc ya ys yd : Nat → Int32} {q : Nat} {zc zp zr zs zf : Nat → Int32} {z : Nat} {zm zt : Int64} {pe tp fu sh ro : Nat → Int32} {th : Int32} {fo : Nat → Int64} {x : Int32} {i9 : Nat} (hi9 : 5 * i9 + 5 ≤ L) (hL9 : L ≤ 2560) {H : Heap} {locs : List Loc} {cells slots : Nat} (hc1 : cells ≤ 37 + i9) (hs1 : slots ≤ 1333 + 6 * i9) (hPC : va_P (dC, dI) vwCl (wC cI cZ ad sm fe ex dy gp gc op gr st dl wo n yc ya ys yd q zc zp zr zs zf z zm zt) H) (hPM : va_P (dC, dI) vwCl (wM cI cZ am sm fe ex gp gc dy n pe gr st dl wo q yc ya yd ys tp fu sh ro th) H) (hPo : va_P (dC, dI) vwCl [(o9, .inl (cJ, 1, .inr (.inl fo)))] H) (hS : va_S (fun q : Nat => s.heap.size ≤ q) s.heap H locs) (e1 : xs (5 * i9 + 1) = x) (ahn : n ≤ 24) (ahk : ¬ vp_in x n) {ls : Array Slot} (hl : lv_has ls 7 [(4, .int (nI (5 * i9))), (0, .ref b), (1, .ref (ad 0)), (2, .ref (am 0)), (3, .ref o9)]) (kk : ∀ (fo2 : Nat → Int64) (H2 : Heap) (locs2 : List Loc) (c2 s2 : Nat), c2 ≤ 38 + i9 → s2 ≤ 1339 + 6 * i9 → va_P (dC, dI) vwCl (wC cI cZ ad sm fe ex dy gp gc op gr st dl wo n yc ya ys yd q zc zp zr zs zf z zm zt) H2 → va_P (dC, dI) vwCl (wM cI cZ am sm fe ex gp gc dy n pe gr st dl wo q yc ya yd ys tp fu sh ro (nI 1)) H2 → va_P (dC, dI) vwCl [(o9, .inl (cJ, 1, .inr (.inl fo2)))] H2 → va_S (fun q : Nat => s.heap.size ≤ q) s.heap H2 locs2 → ∀ ls, lv_has ls 7 [(4, .int (nI (5 * i9))), (0, .ref b), (1, .ref (ad 0)), (2, .ref (am 0)), (3, .ref o9)] → W p l e room_1 s m #[Value.ref b] below meth c H2 locs2 c2 s2 (lw_Z below #[Value.ref b] s) (F0 m 1529 ls [])) : W p l e room_1 s m #[Value.ref b] below meth c H locs cells slots (lw_Z below #[Value.ref b] s) (F0 m 460 ls []) := by
  obtain ⟨hx, hb, hr, hml, hown, hts0, hX, hbl, hlocks, hgv⟩ := id C0
  obtain ⟨⟨hI, hIm⟩, ⟨hoC, hoM, hCM⟩, ⟨hAC, hAM, hAo⟩, hK, hKJ, hN⟩ := id CC
  have hts : ∀ w ∈ wsL_law, w.before #[Value.ref b] s = true := fun w hw => hts0 w (wsL_law_in w hw)
  have hown : s.vm.findClass RL = some m.cls := hown
  have hbA : ¬ (fun q : Nat => s.heap.size ≤ q) b := Nat.not_le.mpr hbl
  have hT : tX (fun q => s.heap.size ≤ q) s H := zz_kT hT0 hS
  refine lv_aload_n hx hb dL_law_460 rfl (lv_at hl 2 rfl) ?_
  refine lv_aload_n hx hb dL_law_461 rfl (lv_at hl 1 rfl) ?_
  refine lv_iload hx hb dL_law_462 (lv_at hl 0 rfl) ?_
  refine lv_iconst (v := nI 1) hx hb dL_law_464 (by decide) ?_
  refine lv_iadd hx hb dL_law_465 ?_
  refine zt_i (y := nI (5 * i9 + 1)) (nI_add _ _) ?_
  refine va_sld hx hb hX hbl hbA hS (vp_in_nI (n := 5 * i9 + 1) (by omega) (by omega)) dL_law_466 ?_
  rw [nI_clamp (show 5 * i9 + 1 < 2 ^ 31 by omega)]
  rw [e1]
  refine lv_aload_n hx hb dL_law_467 rfl (lv_at hl 4 rfl) ?_
  refine kh_cure_no l hfl (cJ := cJ) (o9 := o9) (fo := fo) (x := x) (hn := ahn) (hk := ahk) hx hb hml hown hts hK hPC gL_law_L_cure ⟨Nat.le_of_ble_eq_true rfl, Nat.le_of_ble_eq_true rfl⟩ ⟨show cells + 1 ≤ 1083 by omega, show slots + 6 ≤ 9657 by omega⟩ hl.1 (Nat.le_of_ble_eq_true rfl) dL_law_468 (hT.narrow (fun _ h => h.elim)) hN hS (fun H2 locs hS hz9 hf => ?_)
  have hPC := zz_kC hI hPC (fun x h1 _ => hf x h1)
  have hPM := zz_kM hIm hPM (fun x h1 _ => hf x h1)
  have hPo := zz_ko hPo (hf _ (zz_lt hPo))
  refine lv_istore (lv' := [(5, .int (nI 1)), (4, .int (nI (5 * i9))), (0, .ref b), (1, .ref (ad 0)), (2, .ref (am 0)), (3, .ref o9)]) hx hb dL_law_471 hl (by decide) rfl (fun ls hl => ?_)
  refine lv_aload_n hx hb dL_law_473 rfl (lv_at hl 4 rfl) ?_
  refine lv_aload_n hx hb dL_law_474 rfl (lv_at hl 2 rfl) ?_
  refine lv_iload hx hb dL_law_475 (lv_at hl 1 rfl) ?_
  refine lv_iconst (v := nI 1) hx hb dL_law_477 (by decide) ?_
  refine lv_iadd hx hb dL_law_478 ?_
  refine zt_i (y := nI (5 * i9 + 1)) (nI_add _ _) ?_
  refine va_sld hx hb hX hbl hbA hS (vp_in_nI (n := 5 * i9 + 1) (by omega) (by omega)) dL_law_479 ?_
  rw [nI_clamp (show 5 * i9 + 1 < 2 ^ 31 by omega)]
  rw [e1]
  refine k_X4_cure_no l (x := x) (hn := ahn) (hk := ahk) hx hb hml hown hts hK hPM gL_law_X4_cure ⟨Nat.le_of_ble_eq_true rfl, Nat.le_of_ble_eq_true rfl⟩ ⟨show cells + 1 ≤ 1083 by omega, show slots + 6 ≤ 9657 by omega⟩ hl.1 (Nat.le_of_ble_eq_true rfl) dL_law_480 hIm hAM hS (fun H2 locs hPM hS hf => ?_)
  have hPC := zz_kC hI hPC (fun x h1 h2 => hf x h1 (fun h3 => hCM x h2 h3))
  have hPo := zz_ko hPo (hf _ (zz_lt hPo) hoM)
  refine lv_istore (lv' := [(6, .int (nI 0)), (5, .int (nI 1)), (4, .int (nI (5 * i9))), (0, .ref b), (1, .ref (ad 0)), (2, .ref (am 0)), (3, .ref o9)]) hx hb dL_law_483 hl (by decide) rfl (fun ls hl => ?_)
  refine lv_aload_n hx hb dL_law_485 rfl (lv_at hl 5 rfl) ?_
  refine k_X4_thrown l hx hb hml hown hts hK hPM gL_law_X4_thrown ⟨Nat.le_of_ble_eq_true rfl, Nat.le_of_ble_eq_true rfl⟩ ⟨show cells + 1 ≤ 1083 by omega, show slots + 6 ≤ 9657 by omega⟩ hl.1 (Nat.le_of_ble_eq_true rfl) dL_law_486 ?_
  refine lv_iload hx hb dL_law_489 (lv_at hl 1 rfl) ?_
  refine lv_icmp_eq (tgt := 496) hx hb dL_law_491 (by decide) (fun _ => ?_) (fun h9 => absurd rfl h9)
  refine lv_iload hx hb dL_law_496 (lv_at hl 1 rfl) ?_
  refine lv_if_ne (tgt := 513) hx hb dL_law_498 (by decide) (fun _ => ?_) (fun h9 => absurd h9 (by decide))
  refine lv_goto (tgt := 1529) hx hb dL_law_513 (by decide) ?_
  exact kk _ _ _ _ _ (by omega) (by omega) hPC hPM hPo hS ls (lv_sub hl [2, 3, 4, 5, 6] rfl)
set_option maxHeartbeats 4000000 in
set_option maxRecDepth 100000 in
theorem lo_cure_ise {p : Program} {e : Env} {s : State} {m : MethodId} {below : List Frame} {meth : Method} {c : Code} (l : Launch) (hfl : l.stackTraces = false) {b L : Nat} {xs : Nat → Int32} (C0 : lw_At p s m meth c b L xs) {dC : Nat → ClassId} {dI : Nat → Nat → Nat} {cI cZ cJ : ClassId} {ad am : Nat → Nat} {o9 : Nat} (CC : lwC dC dI cI cZ cJ ad am o9 s) (hT0 : tX (fun q => s.heap.size ≤ q) s s.heap) {sm fe ex dy : Int32} {gp gc op gr st dl wo : Nat → Int32} {n : Nat} {yc ya ys yd : Nat → Int32} {q : Nat} {zc zp zr zs zf : Nat → Int32} {z : Nat} {zm zt : Int64} {pe tp fu sh ro : Nat → Int32} {th : Int32} {fo : Nat → Int64} {k : Nat} {i9 : Nat} (hi9 : 5 * i9 + 5 ≤ L) (hL9 : L ≤ 2560) {H : Heap} {locs : List Loc} {cells slots : Nat} (hc1 : cells ≤ 37 + i9) (hs1 : slots ≤ 1333 + 6 * i9) (hPC : va_P (dC, dI) vwCl (wC cI cZ ad sm fe ex dy gp gc op gr st dl wo n yc ya ys yd q zc zp zr zs zf z zm zt) H) (hPM : va_P (dC, dI) vwCl (wM cI cZ am sm fe ex gp gc dy n pe gr st dl wo q yc ya yd ys tp fu sh ro th) H) (hPo : va_P (dC, dI) vwCl [(o9, .inl (cJ, 1, .inr (.inl fo)))] H) (hS : va_S (fun q : Nat => s.heap.size ≤ q) s.heap H locs) (e1 : xs (5 * i9 + 1) = nI k) (ahn : n ≤ 24) (ahk : k < n) (ah1 : ¬ st k = nI 1) {ls : Array Slot} (hl : lv_has ls 7 [(4, .int (nI (5 * i9))), (0, .ref b), (1, .ref (ad 0)), (2, .ref (am 0)), (3, .ref o9)]) (kk : ∀ (fo2 : Nat → Int64) (H2 : Heap) (locs2 : List Loc) (c2 s2 : Nat), c2 ≤ 38 + i9 → s2 ≤ 1339 + 6 * i9 → va_P (dC, dI) vwCl (wC cI cZ ad sm fe ex dy gp gc op gr st dl wo n yc ya ys yd q zc zp zr zs zf z zm zt) H2 → va_P (dC, dI) vwCl (wM cI cZ am sm fe ex gp gc dy n pe gr st dl wo q yc ya yd ys tp fu sh ro (nI 2)) H2 → va_P (dC, dI) vwCl [(o9, .inl (cJ, 1, .inr (.inl fo2)))] H2 → va_S (fun q : Nat => s.heap.size ≤ q) s.heap H2 locs2 → ∀ ls, lv_has ls 7 [(4, .int (nI (5 * i9))), (0, .ref b), (1, .ref (ad 0)), (2, .ref (am 0)), (3, .ref o9)] → W p l e room_1 s m #[Value.ref b] below meth c H2 locs2 c2 s2 (lw_Z below #[Value.ref b] s) (F0 m 1529 ls [])) : W p l e room_1 s m #[Value.ref b] below meth c H locs cells slots (lw_Z below #[Value.ref b] s) (F0 m 460 ls []) := by
  obtain ⟨hx, hb, hr, hml, hown, hts0, hX, hbl, hlocks, hgv⟩ := id C0
  obtain ⟨⟨hI, hIm⟩, ⟨hoC, hoM, hCM⟩, ⟨hAC, hAM, hAo⟩, hK, hKJ, hN⟩ := id CC
  have hts : ∀ w ∈ wsL_law, w.before #[Value.ref b] s = true := fun w hw => hts0 w (wsL_law_in w hw)
  have hown : s.vm.findClass RL = some m.cls := hown
  have hbA : ¬ (fun q : Nat => s.heap.size ≤ q) b := Nat.not_le.mpr hbl
  have hT : tX (fun q => s.heap.size ≤ q) s H := zz_kT hT0 hS
  refine lv_aload_n hx hb dL_law_460 rfl (lv_at hl 2 rfl) ?_
  refine lv_aload_n hx hb dL_law_461 rfl (lv_at hl 1 rfl) ?_
  refine lv_iload hx hb dL_law_462 (lv_at hl 0 rfl) ?_
  refine lv_iconst (v := nI 1) hx hb dL_law_464 (by decide) ?_
  refine lv_iadd hx hb dL_law_465 ?_
  refine zt_i (y := nI (5 * i9 + 1)) (nI_add _ _) ?_
  refine va_sld hx hb hX hbl hbA hS (vp_in_nI (n := 5 * i9 + 1) (by omega) (by omega)) dL_law_466 ?_
  rw [nI_clamp (show 5 * i9 + 1 < 2 ^ 31 by omega)]
  rw [e1]
  refine lv_aload_n hx hb dL_law_467 rfl (lv_at hl 4 rfl) ?_
  refine kh_cure_ise l hfl (cJ := cJ) (o9 := o9) (fo := fo) (k := k) (hn := ahn) (hk := ahk) (h1 := ah1) hx hb hml hown hts hK hPC gL_law_L_cure ⟨Nat.le_of_ble_eq_true rfl, Nat.le_of_ble_eq_true rfl⟩ ⟨show cells + 1 ≤ 1083 by omega, show slots + 6 ≤ 9657 by omega⟩ hl.1 (Nat.le_of_ble_eq_true rfl) dL_law_468 (hT.narrow (fun _ h => h.elim)) hN hS (fun H2 locs hS hz9 hf => ?_)
  have hPC := zz_kC hI hPC (fun x h1 _ => hf x h1)
  have hPM := zz_kM hIm hPM (fun x h1 _ => hf x h1)
  have hPo := zz_ko hPo (hf _ (zz_lt hPo))
  refine lv_istore (lv' := [(5, .int (nI 2)), (4, .int (nI (5 * i9))), (0, .ref b), (1, .ref (ad 0)), (2, .ref (am 0)), (3, .ref o9)]) hx hb dL_law_471 hl (by decide) rfl (fun ls hl => ?_)
  refine lv_aload_n hx hb dL_law_473 rfl (lv_at hl 4 rfl) ?_
  refine lv_aload_n hx hb dL_law_474 rfl (lv_at hl 2 rfl) ?_
  refine lv_iload hx hb dL_law_475 (lv_at hl 1 rfl) ?_
  refine lv_iconst (v := nI 1) hx hb dL_law_477 (by decide) ?_
  refine lv_iadd hx hb dL_law_478 ?_
  refine zt_i (y := nI (5 * i9 + 1)) (nI_add _ _) ?_
  refine va_sld hx hb hX hbl hbA hS (vp_in_nI (n := 5 * i9 + 1) (by omega) (by omega)) dL_law_479 ?_
  rw [nI_clamp (show 5 * i9 + 1 < 2 ^ 31 by omega)]
  rw [e1]
  refine k_X4_cure_2 l (k := k) (hn := ahn) (hk := ahk) (h1 := ah1) hx hb hml hown hts hK hPM gL_law_X4_cure ⟨Nat.le_of_ble_eq_true rfl, Nat.le_of_ble_eq_true rfl⟩ ⟨show cells + 1 ≤ 1083 by omega, show slots + 6 ≤ 9657 by omega⟩ hl.1 (Nat.le_of_ble_eq_true rfl) dL_law_480 hIm hAM hS (fun H2 locs hPM hS hf => ?_)
  have hPC := zz_kC hI hPC (fun x h1 h2 => hf x h1 (fun h3 => hCM x h2 h3))
  have hPo := zz_ko hPo (hf _ (zz_lt hPo) hoM)
  refine lv_istore (lv' := [(6, .int (nI 0)), (5, .int (nI 2)), (4, .int (nI (5 * i9))), (0, .ref b), (1, .ref (ad 0)), (2, .ref (am 0)), (3, .ref o9)]) hx hb dL_law_483 hl (by decide) rfl (fun ls hl => ?_)
  refine lv_aload_n hx hb dL_law_485 rfl (lv_at hl 5 rfl) ?_
  refine k_X4_thrown l hx hb hml hown hts hK hPM gL_law_X4_thrown ⟨Nat.le_of_ble_eq_true rfl, Nat.le_of_ble_eq_true rfl⟩ ⟨show cells + 1 ≤ 1083 by omega, show slots + 6 ≤ 9657 by omega⟩ hl.1 (Nat.le_of_ble_eq_true rfl) dL_law_486 ?_
  refine lv_iload hx hb dL_law_489 (lv_at hl 1 rfl) ?_
  refine lv_icmp_eq (tgt := 496) hx hb dL_law_491 (by decide) (fun _ => ?_) (fun h9 => absurd rfl h9)
  refine lv_iload hx hb dL_law_496 (lv_at hl 1 rfl) ?_
  refine lv_if_ne (tgt := 513) hx hb dL_law_498 (by decide) (fun _ => ?_) (fun h9 => absurd h9 (by decide))
  refine lv_goto (tgt := 1529) hx hb dL_law_513 (by decide) ?_
  exact kk _ _ _ _ _ (by omega) (by omega) hPC hPM hPo hS ls (lv_sub hl [2, 3, 4, 5, 6] rfl)
set_option maxHeartbeats 4000000 in
set_option maxRecDepth 100000 in
theorem lo_deny_ok {p : Program} {e : Env} {s : State} {m : MethodId} {below : List Frame} {meth : Method} {c : Code} (l : Launch) (hfl : l.stackTraces = false) {b L : Nat} {xs : Nat → Int32} (C0 : lw_At p s m meth c b L xs) {dC : Nat → ClassId} {dI : Nat → Nat → Nat} {cI cZ cJ : ClassId} {ad am : Nat → Nat} {o9 : Nat} (CC : lwC dC dI cI cZ cJ ad am o9 s) (hT0 : tX (fun q => s.heap.size ≤ q) s s.heap) {sm fe ex dy : Int32} {gp gc op gr st dl wo : Nat → Int32} {n : Nat} {yc ya ys yd : Nat → Int32} {q : Nat} {zc zp zr zs zf : Nat → Int32} {z : Nat} {zm zt : Int64} {pe tp fu sh ro : Nat → Int32} {th : Int32} {fo : Nat → Int64} {k : Nat} {i9 : Nat} (hi9 : 5 * i9 + 5 ≤ L) (hL9 : L ≤ 2560) {H : Heap} {locs : List Loc} {cells slots : Nat} (hc1 : cells ≤ 37 + i9) (hs1 : slots ≤ 1333 + 6 * i9) (hPC : va_P (dC, dI) vwCl (wC cI cZ ad sm fe ex dy gp gc op gr st dl wo n yc ya ys yd q zc zp zr zs zf z zm zt) H) (hPM : va_P (dC, dI) vwCl (wM cI cZ am sm fe ex gp gc dy n pe gr st dl wo q yc ya yd ys tp fu sh ro th) H) (hPo : va_P (dC, dI) vwCl [(o9, .inl (cJ, 1, .inr (.inl fo)))] H) (hS : va_S (fun q : Nat => s.heap.size ≤ q) s.heap H locs) (e1 : xs (5 * i9 + 1) = nI k) (ahn : n ≤ 24) (ahk : k < n) (ah1 : st k = 0 ∨ st k = nI 1) {ls : Array Slot} (hl : lv_has ls 7 [(4, .int (nI (5 * i9))), (0, .ref b), (1, .ref (ad 0)), (2, .ref (am 0)), (3, .ref o9)]) (kk : ∀ (fo2 : Nat → Int64) (H2 : Heap) (locs2 : List Loc) (c2 s2 : Nat), c2 ≤ 38 + i9 → s2 ≤ 1339 + 6 * i9 → va_P (dC, dI) vwCl (wC cI cZ ad sm fe ex dy gp gc op gr (upd st k (nI 2)) dl wo n yc ya ys yd q zc zp zr zs zf z zm zt) H2 → va_P (dC, dI) vwCl (wM cI cZ am sm fe ex gp gc dy n pe gr (upd st k (nI 2)) dl wo q yc ya yd ys tp fu sh ro (nI 0)) H2 → va_P (dC, dI) vwCl [(o9, .inl (cJ, 1, .inr (.inl fo2)))] H2 → va_S (fun q : Nat => s.heap.size ≤ q) s.heap H2 locs2 → ∀ ls, lv_has ls 7 [(4, .int (nI (5 * i9))), (0, .ref b), (1, .ref (ad 0)), (2, .ref (am 0)), (3, .ref o9)] → W p l e room_1 s m #[Value.ref b] below meth c H2 locs2 c2 s2 (lw_Z below #[Value.ref b] s) (F0 m 1529 ls [])) : W p l e room_1 s m #[Value.ref b] below meth c H locs cells slots (lw_Z below #[Value.ref b] s) (F0 m 516 ls []) := by
  obtain ⟨hx, hb, hr, hml, hown, hts0, hX, hbl, hlocks, hgv⟩ := id C0
  obtain ⟨⟨hI, hIm⟩, ⟨hoC, hoM, hCM⟩, ⟨hAC, hAM, hAo⟩, hK, hKJ, hN⟩ := id CC
  have hts : ∀ w ∈ wsL_law, w.before #[Value.ref b] s = true := fun w hw => hts0 w (wsL_law_in w hw)
  have hown : s.vm.findClass RL = some m.cls := hown
  have hbA : ¬ (fun q : Nat => s.heap.size ≤ q) b := Nat.not_le.mpr hbl
  have hT : tX (fun q => s.heap.size ≤ q) s H := zz_kT hT0 hS
  refine lv_aload_n hx hb dL_law_516 rfl (lv_at hl 2 rfl) ?_
  refine lv_aload_n hx hb dL_law_517 rfl (lv_at hl 1 rfl) ?_
  refine lv_iload hx hb dL_law_518 (lv_at hl 0 rfl) ?_
  refine lv_iconst (v := nI 1) hx hb dL_law_520 (by decide) ?_
  refine lv_iadd hx hb dL_law_521 ?_
  refine zt_i (y := nI (5 * i9 + 1)) (nI_add _ _) ?_
  refine va_sld hx hb hX hbl hbA hS (vp_in_nI (n := 5 * i9 + 1) (by omega) (by omega)) dL_law_522 ?_
  rw [nI_clamp (show 5 * i9 + 1 < 2 ^ 31 by omega)]
  rw [e1]
  refine lv_aload_n hx hb dL_law_523 rfl (lv_at hl 4 rfl) ?_
  refine kh_deny_ok l (cJ := cJ) (o9 := o9) (fo := fo) (k := k) (hn := ahn) (hk := ahk) (h1 := ah1) hx hb hml hown hts hK hPC gL_law_L_deny ⟨Nat.le_of_ble_eq_true rfl, Nat.le_of_ble_eq_true rfl⟩ ⟨show cells + 0 ≤ 1083 by omega, show slots + 0 ≤ 9657 by omega⟩ hl.1 (Nat.le_of_ble_eq_true rfl) dL_law_524 hI hoC hPo hKJ (fun x h => h.elim (hAC x) (fun h => by rw [h]; exact hAo)) hS (fun u9 H2 locs hPC fo hf9 hPo hS hz9 hf => ?_)
  have hPM := zz_kM hIm hPM (fun x h1 h2 => hf x h1 (fun h3 => h3.elim (fun h3 => hCM x h3 h2) (fun h3 => hoM (by rw [← h3]; exact h2))))
  refine lv_istore (lv' := [(5, .int (nI 0)), (4, .int (nI (5 * i9))), (0, .ref b), (1, .ref (ad 0)), (2, .ref (am 0)), (3, .ref o9)]) hx hb dL_law_527 hl (by decide) rfl (fun ls hl => ?_)
  refine lv_aload_n hx hb dL_law_529 rfl (lv_at hl 4 rfl) ?_
  refine lv_aload_n hx hb dL_law_530 rfl (lv_at hl 2 rfl) ?_
  refine lv_iload hx hb dL_law_531 (lv_at hl 1 rfl) ?_
  refine lv_iconst (v := nI 1) hx hb dL_law_533 (by decide) ?_
  refine lv_iadd hx hb dL_law_534 ?_
  refine zt_i (y := nI (5 * i9 + 1)) (nI_add _ _) ?_
  refine va_sld hx hb hX hbl hbA hS (vp_in_nI (n := 5 * i9 + 1) (by omega) (by omega)) dL_law_535 ?_
  rw [nI_clamp (show 5 * i9 + 1 < 2 ^ 31 by omega)]
  rw [e1]
  refine k_X4_deny_ok l (k := k) (hn := ahn) (hk := ahk) (h1 := ah1) hx hb hml hown hts hK hPM gL_law_X4_deny ⟨Nat.le_of_ble_eq_true rfl, Nat.le_of_ble_eq_true rfl⟩ ⟨show cells + 0 ≤ 1083 by omega, show slots + 0 ≤ 9657 by omega⟩ hl.1 (Nat.le_of_ble_eq_true rfl) dL_law_536 hIm hAM hS (fun H2 locs hPM hS hf => ?_)
  have hPC := zz_kC hI hPC (fun x h1 h2 => hf x h1 (fun h3 => hCM x h2 h3))
  have hPo := zz_ko hPo (hf _ (zz_lt hPo) hoM)
  refine lv_istore (lv' := [(6, .int (st k)), (5, .int (nI 0)), (4, .int (nI (5 * i9))), (0, .ref b), (1, .ref (ad 0)), (2, .ref (am 0)), (3, .ref o9)]) hx hb dL_law_539 hl (by decide) rfl (fun ls hl => ?_)
  refine lv_aload_n hx hb dL_law_541 rfl (lv_at hl 5 rfl) ?_
  refine k_X4_thrown l hx hb hml hown hts hK hPM gL_law_X4_thrown ⟨Nat.le_of_ble_eq_true rfl, Nat.le_of_ble_eq_true rfl⟩ ⟨show cells + 0 ≤ 1083 by omega, show slots + 0 ≤ 9657 by omega⟩ hl.1 (Nat.le_of_ble_eq_true rfl) dL_law_542 ?_
  refine lv_iload hx hb dL_law_545 (lv_at hl 1 rfl) ?_
  refine lv_icmp_eq (tgt := 552) hx hb dL_law_547 (by decide) (fun _ => ?_) (fun h9 => absurd rfl h9)
  refine lv_iload hx hb dL_law_552 (lv_at hl 1 rfl) ?_
  refine lv_if_ne (tgt := 569) hx hb dL_law_554 (by decide) (fun h9 => absurd (by decide) h9) (fun _ => ?_)
  refine lv_aload_n hx hb dL_law_557 rfl (lv_at hl 6 rfl) ?_
  refine lv_iconst (v := nI 0) hx hb dL_law_558 (by decide) ?_
  refine va_lald hx hb hKJ hPo 0 0 rfl rfl (vp_in_nI (n := 0) (by decide) (by decide)) dL_law_559 ?_
  refine zt_l (y := (st k).toInt64) (by rw [show (nI 0).toNatClampNeg = 0 by decide]; exact hf9) ?_
  refine lv_iload hx hb dL_law_560 (lv_at hl 0 rfl) ?_
  refine lv_i2l (v := (st k).toInt64) hx hb dL_law_562 rfl ?_
  refine W.lcmp hx hb dL_law_563 ?_
  refine zg_eq (tgt := 569) hx hb dL_law_564 (by decide) (fun _ => ?_) (fun h9 => absurd (rfl) h9)
  refine lv_goto (tgt := 1529) hx hb dL_law_569 (by decide) ?_
  exact kk _ _ _ _ _ (by omega) (by omega) hPC hPM hPo hS ls (lv_sub hl [2, 3, 4, 5, 6] rfl)
set_option maxHeartbeats 4000000 in
set_option maxRecDepth 100000 in
theorem lo_deny_no {p : Program} {e : Env} {s : State} {m : MethodId} {below : List Frame} {meth : Method} {c : Code} (l : Launch) (hfl : l.stackTraces = false) {b L : Nat} {xs : Nat → Int32} (C0 : lw_At p s m meth c b L xs) {dC : Nat → ClassId} {dI : Nat → Nat → Nat} {cI cZ cJ : ClassId} {ad am : Nat → Nat} {o9 : Nat} (CC : lwC dC dI cI cZ cJ ad am o9 s) (hT0 : tX (fun q => s.heap.size ≤ q) s s.heap) {sm fe ex dy : Int32} {gp gc op gr st dl wo : Nat → Int32} {n : Nat} {yc ya ys yd : Nat → Int32} {q : Nat} {zc zp zr zs zf : Nat → Int32} {z : Nat} {zm zt : Int64} {pe tp fu sh ro : Nat → Int32} {th : Int32} {fo : Nat → Int64} {x : Int32} {i9 : Nat} (hi9 : 5 * i9 + 5 ≤ L) (hL9 : L ≤ 2560) {H : Heap} {locs : List Loc} {cells slots : Nat} (hc1 : cells ≤ 37 + i9) (hs1 : slots ≤ 1333 + 6 * i9) (hPC : va_P (dC, dI) vwCl (wC cI cZ ad sm fe ex dy gp gc op gr st dl wo n yc ya ys yd q zc zp zr zs zf z zm zt) H) (hPM : va_P (dC, dI) vwCl (wM cI cZ am sm fe ex gp gc dy n pe gr st dl wo q yc ya yd ys tp fu sh ro th) H) (hPo : va_P (dC, dI) vwCl [(o9, .inl (cJ, 1, .inr (.inl fo)))] H) (hS : va_S (fun q : Nat => s.heap.size ≤ q) s.heap H locs) (e1 : xs (5 * i9 + 1) = x) (ahn : n ≤ 24) (ahk : ¬ vp_in x n) {ls : Array Slot} (hl : lv_has ls 7 [(4, .int (nI (5 * i9))), (0, .ref b), (1, .ref (ad 0)), (2, .ref (am 0)), (3, .ref o9)]) (kk : ∀ (fo2 : Nat → Int64) (H2 : Heap) (locs2 : List Loc) (c2 s2 : Nat), c2 ≤ 38 + i9 → s2 ≤ 1339 + 6 * i9 → va_P (dC, dI) vwCl (wC cI cZ ad sm fe ex dy gp gc op gr st dl wo n yc ya ys yd q zc zp zr zs zf z zm zt) H2 → va_P (dC, dI) vwCl (wM cI cZ am sm fe ex gp gc dy n pe gr st dl wo q yc ya yd ys tp fu sh ro (nI 1)) H2 → va_P (dC, dI) vwCl [(o9, .inl (cJ, 1, .inr (.inl fo2)))] H2 → va_S (fun q : Nat => s.heap.size ≤ q) s.heap H2 locs2 → ∀ ls, lv_has ls 7 [(4, .int (nI (5 * i9))), (0, .ref b), (1, .ref (ad 0)), (2, .ref (am 0)), (3, .ref o9)] → W p l e room_1 s m #[Value.ref b] below meth c H2 locs2 c2 s2 (lw_Z below #[Value.ref b] s) (F0 m 1529 ls [])) : W p l e room_1 s m #[Value.ref b] below meth c H locs cells slots (lw_Z below #[Value.ref b] s) (F0 m 516 ls []) := by
  obtain ⟨hx, hb, hr, hml, hown, hts0, hX, hbl, hlocks, hgv⟩ := id C0
  obtain ⟨⟨hI, hIm⟩, ⟨hoC, hoM, hCM⟩, ⟨hAC, hAM, hAo⟩, hK, hKJ, hN⟩ := id CC
  have hts : ∀ w ∈ wsL_law, w.before #[Value.ref b] s = true := fun w hw => hts0 w (wsL_law_in w hw)
  have hown : s.vm.findClass RL = some m.cls := hown
  have hbA : ¬ (fun q : Nat => s.heap.size ≤ q) b := Nat.not_le.mpr hbl
  have hT : tX (fun q => s.heap.size ≤ q) s H := zz_kT hT0 hS
  refine lv_aload_n hx hb dL_law_516 rfl (lv_at hl 2 rfl) ?_
  refine lv_aload_n hx hb dL_law_517 rfl (lv_at hl 1 rfl) ?_
  refine lv_iload hx hb dL_law_518 (lv_at hl 0 rfl) ?_
  refine lv_iconst (v := nI 1) hx hb dL_law_520 (by decide) ?_
  refine lv_iadd hx hb dL_law_521 ?_
  refine zt_i (y := nI (5 * i9 + 1)) (nI_add _ _) ?_
  refine va_sld hx hb hX hbl hbA hS (vp_in_nI (n := 5 * i9 + 1) (by omega) (by omega)) dL_law_522 ?_
  rw [nI_clamp (show 5 * i9 + 1 < 2 ^ 31 by omega)]
  rw [e1]
  refine lv_aload_n hx hb dL_law_523 rfl (lv_at hl 4 rfl) ?_
  refine kh_deny_no l hfl (cJ := cJ) (o9 := o9) (fo := fo) (x := x) (hn := ahn) (hk := ahk) hx hb hml hown hts hK hPC gL_law_L_deny ⟨Nat.le_of_ble_eq_true rfl, Nat.le_of_ble_eq_true rfl⟩ ⟨show cells + 1 ≤ 1083 by omega, show slots + 6 ≤ 9657 by omega⟩ hl.1 (Nat.le_of_ble_eq_true rfl) dL_law_524 (hT.narrow (fun _ h => h.elim)) hN hS (fun H2 locs hS hz9 hf => ?_)
  have hPC := zz_kC hI hPC (fun x h1 _ => hf x h1)
  have hPM := zz_kM hIm hPM (fun x h1 _ => hf x h1)
  have hPo := zz_ko hPo (hf _ (zz_lt hPo))
  refine lv_istore (lv' := [(5, .int (nI 1)), (4, .int (nI (5 * i9))), (0, .ref b), (1, .ref (ad 0)), (2, .ref (am 0)), (3, .ref o9)]) hx hb dL_law_527 hl (by decide) rfl (fun ls hl => ?_)
  refine lv_aload_n hx hb dL_law_529 rfl (lv_at hl 4 rfl) ?_
  refine lv_aload_n hx hb dL_law_530 rfl (lv_at hl 2 rfl) ?_
  refine lv_iload hx hb dL_law_531 (lv_at hl 1 rfl) ?_
  refine lv_iconst (v := nI 1) hx hb dL_law_533 (by decide) ?_
  refine lv_iadd hx hb dL_law_534 ?_
  refine zt_i (y := nI (5 * i9 + 1)) (nI_add _ _) ?_
  refine va_sld hx hb hX hbl hbA hS (vp_in_nI (n := 5 * i9 + 1) (by omega) (by omega)) dL_law_535 ?_
  rw [nI_clamp (show 5 * i9 + 1 < 2 ^ 31 by omega)]
  rw [e1]
  refine k_X4_deny_no l (x := x) (hn := ahn) (hk := ahk) hx hb hml hown hts hK hPM gL_law_X4_deny ⟨Nat.le_of_ble_eq_true rfl, Nat.le_of_ble_eq_true rfl⟩ ⟨show cells + 1 ≤ 1083 by omega, show slots + 6 ≤ 9657 by omega⟩ hl.1 (Nat.le_of_ble_eq_true rfl) dL_law_536 hIm hAM hS (fun H2 locs hPM hS hf => ?_)
  have hPC := zz_kC hI hPC (fun x h1 h2 => hf x h1 (fun h3 => hCM x h2 h3))
  have hPo := zz_ko hPo (hf _ (zz_lt hPo) hoM)
  refine lv_istore (lv' := [(6, .int (nI 0)), (5, .int (nI 1)), (4, .int (nI (5 * i9))), (0, .ref b), (1, .ref (ad 0)), (2, .ref (am 0)), (3, .ref o9)]) hx hb dL_law_539 hl (by decide) rfl (fun ls hl => ?_)
  refine lv_aload_n hx hb dL_law_541 rfl (lv_at hl 5 rfl) ?_
  refine k_X4_thrown l hx hb hml hown hts hK hPM gL_law_X4_thrown ⟨Nat.le_of_ble_eq_true rfl, Nat.le_of_ble_eq_true rfl⟩ ⟨show cells + 1 ≤ 1083 by omega, show slots + 6 ≤ 9657 by omega⟩ hl.1 (Nat.le_of_ble_eq_true rfl) dL_law_542 ?_
  refine lv_iload hx hb dL_law_545 (lv_at hl 1 rfl) ?_
  refine lv_icmp_eq (tgt := 552) hx hb dL_law_547 (by decide) (fun _ => ?_) (fun h9 => absurd rfl h9)
  refine lv_iload hx hb dL_law_552 (lv_at hl 1 rfl) ?_
  refine lv_if_ne (tgt := 569) hx hb dL_law_554 (by decide) (fun _ => ?_) (fun h9 => absurd h9 (by decide))
  refine lv_goto (tgt := 1529) hx hb dL_law_569 (by decide) ?_
  exact kk _ _ _ _ _ (by omega) (by omega) hPC hPM hPo hS ls (lv_sub hl [2, 3, 4, 5, 6] rfl)
set_option maxHeartbeats 4000000 in
set_option maxRecDepth 100000 in
theorem lo_deny_ise {p : Program} {e : Env} {s : State} {m : MethodId} {below : List Frame} {meth : Method} {c : Code} (l : Launch) (hfl : l.stackTraces = false) {b L : Nat} {xs : Nat → Int32} (C0 : lw_At p s m meth c b L xs) {dC : Nat → ClassId} {dI : Nat → Nat → Nat} {cI cZ cJ : ClassId} {ad am : Nat → Nat} {o9 : Nat} (CC : lwC dC dI cI cZ cJ ad am o9 s) (hT0 : tX (fun q => s.heap.size ≤ q) s s.heap) {sm fe ex dy : Int32} {gp gc op gr st dl wo : Nat → Int32} {n : Nat} {yc ya ys yd : Nat → Int32} {q : Nat} {zc zp zr zs zf : Nat → Int32} {z : Nat} {zm zt : Int64} {pe tp fu sh ro : Nat → Int32} {th : Int32} {fo : Nat → Int64} {k : Nat} {i9 : Nat} (hi9 : 5 * i9 + 5 ≤ L) (hL9 : L ≤ 2560) {H : Heap} {locs : List Loc} {cells slots : Nat} (hc1 : cells ≤ 37 + i9) (hs1 : slots ≤ 1333 + 6 * i9) (hPC : va_P (dC, dI) vwCl (wC cI cZ ad sm fe ex dy gp gc op gr st dl wo n yc ya ys yd q zc zp zr zs zf z zm zt) H) (hPM : va_P (dC, dI) vwCl (wM cI cZ am sm fe ex gp gc dy n pe gr st dl wo q yc ya yd ys tp fu sh ro th) H) (hPo : va_P (dC, dI) vwCl [(o9, .inl (cJ, 1, .inr (.inl fo)))] H) (hS : va_S (fun q : Nat => s.heap.size ≤ q) s.heap H locs) (e1 : xs (5 * i9 + 1) = nI k) (ahn : n ≤ 24) (ahk : k < n) (ah1 : ¬ (st k = 0 ∨ st k = nI 1)) {ls : Array Slot} (hl : lv_has ls 7 [(4, .int (nI (5 * i9))), (0, .ref b), (1, .ref (ad 0)), (2, .ref (am 0)), (3, .ref o9)]) (kk : ∀ (fo2 : Nat → Int64) (H2 : Heap) (locs2 : List Loc) (c2 s2 : Nat), c2 ≤ 38 + i9 → s2 ≤ 1339 + 6 * i9 → va_P (dC, dI) vwCl (wC cI cZ ad sm fe ex dy gp gc op gr st dl wo n yc ya ys yd q zc zp zr zs zf z zm zt) H2 → va_P (dC, dI) vwCl (wM cI cZ am sm fe ex gp gc dy n pe gr st dl wo q yc ya yd ys tp fu sh ro (nI 2)) H2 → va_P (dC, dI) vwCl [(o9, .inl (cJ, 1, .inr (.inl fo2)))] H2 → va_S (fun q : Nat => s.heap.size ≤ q) s.heap H2 locs2 → ∀ ls, lv_has ls 7 [(4, .int (nI (5 * i9))), (0, .ref b), (1, .ref (ad 0)), (2, .ref (am 0)), (3, .ref o9)] → W p l e room_1 s m #[Value.ref b] below meth c H2 locs2 c2 s2 (lw_Z below #[Value.ref b] s) (F0 m 1529 ls [])) : W p l e room_1 s m #[Value.ref b] below meth c H locs cells slots (lw_Z below #[Value.ref b] s) (F0 m 516 ls []) := by
  obtain ⟨hx, hb, hr, hml, hown, hts0, hX, hbl, hlocks, hgv⟩ := id C0
  obtain ⟨⟨hI, hIm⟩, ⟨hoC, hoM, hCM⟩, ⟨hAC, hAM, hAo⟩, hK, hKJ, hN⟩ := id CC
  have hts : ∀ w ∈ wsL_law, w.before #[Value.ref b] s = true := fun w hw => hts0 w (wsL_law_in w hw)
  have hown : s.vm.findClass RL = some m.cls := hown
  have hbA : ¬ (fun q : Nat => s.heap.size ≤ q) b := Nat.not_le.mpr hbl
  have hT : tX (fun q => s.heap.size ≤ q) s H := zz_kT hT0 hS
  refine lv_aload_n hx hb dL_law_516 rfl (lv_at hl 2 rfl) ?_
  refine lv_aload_n hx hb dL_law_517 rfl (lv_at hl 1 rfl) ?_
  refine lv_iload hx hb dL_law_518 (lv_at hl 0 rfl) ?_
  refine lv_iconst (v := nI 1) hx hb dL_law_520 (by decide) ?_
  refine lv_iadd hx hb dL_law_521 ?_
  refine zt_i (y := nI (5 * i9 + 1)) (nI_add _ _) ?_
  refine va_sld hx hb hX hbl hbA hS (vp_in_nI (n := 5 * i9 + 1) (by omega) (by omega)) dL_law_522 ?_
  rw [nI_clamp (show 5 * i9 + 1 < 2 ^ 31 by omega)]
  rw [e1]
  refine lv_aload_n hx hb dL_law_523 rfl (lv_at hl 4 rfl) ?_
  refine kh_deny_ise l hfl (cJ := cJ) (o9 := o9) (fo := fo) (k := k) (hn := ahn) (hk := ahk) (h1 := ah1) hx hb hml hown hts hK hPC gL_law_L_deny ⟨Nat.le_of_ble_eq_true rfl, Nat.le_of_ble_eq_true rfl⟩ ⟨show cells + 1 ≤ 1083 by omega, show slots + 6 ≤ 9657 by omega⟩ hl.1 (Nat.le_of_ble_eq_true rfl) dL_law_524 (hT.narrow (fun _ h => h.elim)) hN hS (fun H2 locs hS hz9 hf => ?_)
  have hPC := zz_kC hI hPC (fun x h1 _ => hf x h1)
  have hPM := zz_kM hIm hPM (fun x h1 _ => hf x h1)
  have hPo := zz_ko hPo (hf _ (zz_lt hPo))
  refine lv_istore (lv' := [(5, .int (nI 2)), (4, .int (nI (5 * i9))), (0, .ref b), (1, .ref (ad 0)), (2, .ref (am 0)), (3, .ref o9)]) hx hb dL_law_527 hl (by decide) rfl (fun ls hl => ?_)
  refine lv_aload_n hx hb dL_law_529 rfl (lv_at hl 4 rfl) ?_
  refine lv_aload_n hx hb dL_law_530 rfl (lv_at hl 2 rfl) ?_
  refine lv_iload hx hb dL_law_531 (lv_at hl 1 rfl) ?_
  refine lv_iconst (v := nI 1) hx hb dL_law_533 (by decide) ?_
  refine lv_iadd hx hb dL_law_534 ?_
  refine zt_i (y := nI (5 * i9 + 1)) (nI_add _ _) ?_
  refine va_sld hx hb hX hbl hbA hS (vp_in_nI (n := 5 * i9 + 1) (by omega) (by omega)) dL_law_535 ?_
  rw [nI_clamp (show 5 * i9 + 1 < 2 ^ 31 by omega)]
  rw [e1]
  refine k_X4_deny_2 l (k := k) (hn := ahn) (hk := ahk) (h1 := ah1) hx hb hml hown hts hK hPM gL_law_X4_deny ⟨Nat.le_of_ble_eq_true rfl, Nat.le_of_ble_eq_true rfl⟩ ⟨show cells + 1 ≤ 1083 by omega, show slots + 6 ≤ 9657 by omega⟩ hl.1 (Nat.le_of_ble_eq_true rfl) dL_law_536 hIm hAM hS (fun H2 locs hPM hS hf => ?_)
  have hPC := zz_kC hI hPC (fun x h1 h2 => hf x h1 (fun h3 => hCM x h2 h3))
  have hPo := zz_ko hPo (hf _ (zz_lt hPo) hoM)
  refine lv_istore (lv' := [(6, .int (nI 0)), (5, .int (nI 2)), (4, .int (nI (5 * i9))), (0, .ref b), (1, .ref (ad 0)), (2, .ref (am 0)), (3, .ref o9)]) hx hb dL_law_539 hl (by decide) rfl (fun ls hl => ?_)
  refine lv_aload_n hx hb dL_law_541 rfl (lv_at hl 5 rfl) ?_
  refine k_X4_thrown l hx hb hml hown hts hK hPM gL_law_X4_thrown ⟨Nat.le_of_ble_eq_true rfl, Nat.le_of_ble_eq_true rfl⟩ ⟨show cells + 1 ≤ 1083 by omega, show slots + 6 ≤ 9657 by omega⟩ hl.1 (Nat.le_of_ble_eq_true rfl) dL_law_542 ?_
  refine lv_iload hx hb dL_law_545 (lv_at hl 1 rfl) ?_
  refine lv_icmp_eq (tgt := 552) hx hb dL_law_547 (by decide) (fun _ => ?_) (fun h9 => absurd rfl h9)
  refine lv_iload hx hb dL_law_552 (lv_at hl 1 rfl) ?_
  refine lv_if_ne (tgt := 569) hx hb dL_law_554 (by decide) (fun _ => ?_) (fun h9 => absurd h9 (by decide))
  refine lv_goto (tgt := 1529) hx hb dL_law_569 (by decide) ?_
  exact kk _ _ _ _ _ (by omega) (by omega) hPC hPM hPo hS ls (lv_sub hl [2, 3, 4, 5, 6] rfl)
set_option maxHeartbeats 4000000 in
set_option maxRecDepth 100000 in
theorem lo_object_ok {p : Program} {e : Env} {s : State} {m : MethodId} {below : List Frame} {meth : Method} {c : Code} (l : Launch) (hfl : l.stackTraces = false) {b L : Nat} {xs : Nat → Int32} (C0 : lw_At p s m meth c b L xs) {dC : Nat → ClassId} {dI : Nat → Nat → Nat} {cI cZ cJ : ClassId} {ad am : Nat → Nat} {o9 : Nat} (CC : lwC dC dI cI cZ cJ ad am o9 s) (hT0 : tX (fun q => s.heap.size ≤ q) s s.heap) {sm fe ex dy : Int32} {gp gc op gr st dl wo : Nat → Int32} {n : Nat} {yc ya ys yd : Nat → Int32} {q : Nat} {zc zp zr zs zf : Nat → Int32} {z : Nat} {zm zt : Int64} {pe tp fu sh ro : Nat → Int32} {th : Int32} {fo : Nat → Int64} {k : Nat} {i9 : Nat} (hi9 : 5 * i9 + 5 ≤ L) (hL9 : L ≤ 2560) {H : Heap} {locs : List Loc} {cells slots : Nat} (hc1 : cells ≤ 37 + i9) (hs1 : slots ≤ 1333 + 6 * i9) (hPC : va_P (dC, dI) vwCl (wC cI cZ ad sm fe ex dy gp gc op gr st dl wo n yc ya ys yd q zc zp zr zs zf z zm zt) H) (hPM : va_P (dC, dI) vwCl (wM cI cZ am sm fe ex gp gc dy n pe gr st dl wo q yc ya yd ys tp fu sh ro th) H) (hPo : va_P (dC, dI) vwCl [(o9, .inl (cJ, 1, .inr (.inl fo)))] H) (hS : va_S (fun q : Nat => s.heap.size ≤ q) s.heap H locs) (e1 : xs (5 * i9 + 1) = nI k) (ahn : n ≤ 24) (ahk : k < n) (ah1 : st k = nI 2) (ah2 : wo k = 0) {ls : Array Slot} (hl : lv_has ls 7 [(4, .int (nI (5 * i9))), (0, .ref b), (1, .ref (ad 0)), (2, .ref (am 0)), (3, .ref o9)]) (kk : ∀ (fo2 : Nat → Int64) (H2 : Heap) (locs2 : List Loc) (c2 s2 : Nat), c2 ≤ 38 + i9 → s2 ≤ 1339 + 6 * i9 → va_P (dC, dI) vwCl (wC cI cZ ad sm fe ex dy gp gc op gr (upd st k (nI 3)) dl (upd wo k (nI 1)) n yc ya ys yd q zc zp zr zs zf z zm zt) H2 → va_P (dC, dI) vwCl (wM cI cZ am sm fe ex gp gc dy n pe gr (upd st k (nI 3)) dl (upd wo k (nI 1)) q yc ya yd ys tp fu sh ro (nI 0)) H2 → va_P (dC, dI) vwCl [(o9, .inl (cJ, 1, .inr (.inl fo2)))] H2 → va_S (fun q : Nat => s.heap.size ≤ q) s.heap H2 locs2 → ∀ ls, lv_has ls 7 [(4, .int (nI (5 * i9))), (0, .ref b), (1, .ref (ad 0)), (2, .ref (am 0)), (3, .ref o9)] → W p l e room_1 s m #[Value.ref b] below meth c H2 locs2 c2 s2 (lw_Z below #[Value.ref b] s) (F0 m 1529 ls [])) : W p l e room_1 s m #[Value.ref b] below meth c H locs cells slots (lw_Z below #[Value.ref b] s) (F0 m 572 ls []) := by
  obtain ⟨hx, hb, hr, hml, hown, hts0, hX, hbl, hlocks, hgv⟩ := id C0
  obtain ⟨⟨hI, hIm⟩, ⟨hoC, hoM, hCM⟩, ⟨hAC, hAM, hAo⟩, hK, hKJ, hN⟩ := id CC
  have hts : ∀ w ∈ wsL_law, w.before #[Value.ref b] s = true := fun w hw => hts0 w (wsL_law_in w hw)
  have hown : s.vm.findClass RL = some m.cls := hown
  have hbA : ¬ (fun q : Nat => s.heap.size ≤ q) b := Nat.not_le.mpr hbl
  have hT : tX (fun q => s.heap.size ≤ q) s H := zz_kT hT0 hS
  refine lv_aload_n hx hb dL_law_572 rfl (lv_at hl 2 rfl) ?_
  refine lv_aload_n hx hb dL_law_573 rfl (lv_at hl 1 rfl) ?_
  refine lv_iload hx hb dL_law_574 (lv_at hl 0 rfl) ?_
  refine lv_iconst (v := nI 1) hx hb dL_law_576 (by decide) ?_
  refine lv_iadd hx hb dL_law_577 ?_
  refine zt_i (y := nI (5 * i9 + 1)) (nI_add _ _) ?_
  refine va_sld hx hb hX hbl hbA hS (vp_in_nI (n := 5 * i9 + 1) (by omega) (by omega)) dL_law_578 ?_
  rw [nI_clamp (show 5 * i9 + 1 < 2 ^ 31 by omega)]
  rw [e1]
  refine lv_aload_n hx hb dL_law_579 rfl (lv_at hl 4 rfl) ?_
  refine kh_object_ok l (cJ := cJ) (o9 := o9) (fo := fo) (k := k) (hn := ahn) (hk := ahk) (h1 := ah1) (h2 := ah2) hx hb hml hown hts hK hPC gL_law_L_object ⟨Nat.le_of_ble_eq_true rfl, Nat.le_of_ble_eq_true rfl⟩ ⟨show cells + 0 ≤ 1083 by omega, show slots + 0 ≤ 9657 by omega⟩ hl.1 (Nat.le_of_ble_eq_true rfl) dL_law_580 hI hoC hPo hKJ (fun x h => h.elim (hAC x) (fun h => by rw [h]; exact hAo)) hS (fun u9 H2 locs hPC fo hf9 hPo hS hz9 hf => ?_)
  have hPM := zz_kM hIm hPM (fun x h1 h2 => hf x h1 (fun h3 => h3.elim (fun h3 => hCM x h3 h2) (fun h3 => hoM (by rw [← h3]; exact h2))))
  refine lv_istore (lv' := [(5, .int (nI 0)), (4, .int (nI (5 * i9))), (0, .ref b), (1, .ref (ad 0)), (2, .ref (am 0)), (3, .ref o9)]) hx hb dL_law_583 hl (by decide) rfl (fun ls hl => ?_)
  refine lv_aload_n hx hb dL_law_585 rfl (lv_at hl 4 rfl) ?_
  refine lv_aload_n hx hb dL_law_586 rfl (lv_at hl 2 rfl) ?_
  refine lv_iload hx hb dL_law_587 (lv_at hl 1 rfl) ?_
  refine lv_iconst (v := nI 1) hx hb dL_law_589 (by decide) ?_
  refine lv_iadd hx hb dL_law_590 ?_
  refine zt_i (y := nI (5 * i9 + 1)) (nI_add _ _) ?_
  refine va_sld hx hb hX hbl hbA hS (vp_in_nI (n := 5 * i9 + 1) (by omega) (by omega)) dL_law_591 ?_
  rw [nI_clamp (show 5 * i9 + 1 < 2 ^ 31 by omega)]
  rw [e1]
  refine k_X4_object_ok l (k := k) (hn := ahn) (hk := ahk) (h1 := ah1) (h2 := ah2) hx hb hml hown hts hK hPM gL_law_X4_object ⟨Nat.le_of_ble_eq_true rfl, Nat.le_of_ble_eq_true rfl⟩ ⟨show cells + 0 ≤ 1083 by omega, show slots + 0 ≤ 9657 by omega⟩ hl.1 (Nat.le_of_ble_eq_true rfl) dL_law_592 hIm hAM hS (fun H2 locs hPM hS hf => ?_)
  have hPC := zz_kC hI hPC (fun x h1 h2 => hf x h1 (fun h3 => hCM x h2 h3))
  have hPo := zz_ko hPo (hf _ (zz_lt hPo) hoM)
  refine lv_istore (lv' := [(6, .int (nI (tallyN (upd st k (nI 3)) (nI 3) n))), (5, .int (nI 0)), (4, .int (nI (5 * i9))), (0, .ref b), (1, .ref (ad 0)), (2, .ref (am 0)), (3, .ref o9)]) hx hb dL_law_595 hl (by decide) rfl (fun ls hl => ?_)
  refine lv_aload_n hx hb dL_law_597 rfl (lv_at hl 5 rfl) ?_
  refine k_X4_thrown l hx hb hml hown hts hK hPM gL_law_X4_thrown ⟨Nat.le_of_ble_eq_true rfl, Nat.le_of_ble_eq_true rfl⟩ ⟨show cells + 0 ≤ 1083 by omega, show slots + 0 ≤ 9657 by omega⟩ hl.1 (Nat.le_of_ble_eq_true rfl) dL_law_598 ?_
  refine lv_iload hx hb dL_law_601 (lv_at hl 1 rfl) ?_
  refine lv_icmp_eq (tgt := 608) hx hb dL_law_603 (by decide) (fun _ => ?_) (fun h9 => absurd rfl h9)
  refine lv_iload hx hb dL_law_608 (lv_at hl 1 rfl) ?_
  refine lv_if_ne (tgt := 625) hx hb dL_law_610 (by decide) (fun h9 => absurd (by decide) h9) (fun _ => ?_)
  refine lv_aload_n hx hb dL_law_613 rfl (lv_at hl 6 rfl) ?_
  refine lv_iconst (v := nI 0) hx hb dL_law_614 (by decide) ?_
  refine va_lald hx hb hKJ hPo 0 0 rfl rfl (vp_in_nI (n := 0) (by decide) (by decide)) dL_law_615 ?_
  refine zt_l (y := (nI (tallyN (upd st k (nI 3)) (nI 3) n)).toInt64) (by rw [show (nI 0).toNatClampNeg = 0 by decide]; exact hf9) ?_
  refine lv_iload hx hb dL_law_616 (lv_at hl 0 rfl) ?_
  refine lv_i2l (v := (nI (tallyN (upd st k (nI 3)) (nI 3) n)).toInt64) hx hb dL_law_618 rfl ?_
  refine W.lcmp hx hb dL_law_619 ?_
  refine zg_eq (tgt := 625) hx hb dL_law_620 (by decide) (fun _ => ?_) (fun h9 => absurd (rfl) h9)
  refine lv_goto (tgt := 1529) hx hb dL_law_625 (by decide) ?_
  exact kk _ _ _ _ _ (by omega) (by omega) hPC hPM hPo hS ls (lv_sub hl [2, 3, 4, 5, 6] rfl)
set_option maxHeartbeats 4000000 in
set_option maxRecDepth 100000 in
theorem lo_object_no {p : Program} {e : Env} {s : State} {m : MethodId} {below : List Frame} {meth : Method} {c : Code} (l : Launch) (hfl : l.stackTraces = false) {b L : Nat} {xs : Nat → Int32} (C0 : lw_At p s m meth c b L xs) {dC : Nat → ClassId} {dI : Nat → Nat → Nat} {cI cZ cJ : ClassId} {ad am : Nat → Nat} {o9 : Nat} (CC : lwC dC dI cI cZ cJ ad am o9 s) (hT0 : tX (fun q => s.heap.size ≤ q) s s.heap) {sm fe ex dy : Int32} {gp gc op gr st dl wo : Nat → Int32} {n : Nat} {yc ya ys yd : Nat → Int32} {q : Nat} {zc zp zr zs zf : Nat → Int32} {z : Nat} {zm zt : Int64} {pe tp fu sh ro : Nat → Int32} {th : Int32} {fo : Nat → Int64} {x : Int32} {i9 : Nat} (hi9 : 5 * i9 + 5 ≤ L) (hL9 : L ≤ 2560) {H : Heap} {locs : List Loc} {cells slots : Nat} (hc1 : cells ≤ 37 + i9) (hs1 : slots ≤ 1333 + 6 * i9) (hPC : va_P (dC, dI) vwCl (wC cI cZ ad sm fe ex dy gp gc op gr st dl wo n yc ya ys yd q zc zp zr zs zf z zm zt) H) (hPM : va_P (dC, dI) vwCl (wM cI cZ am sm fe ex gp gc dy n pe gr st dl wo q yc ya yd ys tp fu sh ro th) H) (hPo : va_P (dC, dI) vwCl [(o9, .inl (cJ, 1, .inr (.inl fo)))] H) (hS : va_S (fun q : Nat => s.heap.size ≤ q) s.heap H locs) (e1 : xs (5 * i9 + 1) = x) (ahn : n ≤ 24) (ahk : ¬ vp_in x n) {ls : Array Slot} (hl : lv_has ls 7 [(4, .int (nI (5 * i9))), (0, .ref b), (1, .ref (ad 0)), (2, .ref (am 0)), (3, .ref o9)]) (kk : ∀ (fo2 : Nat → Int64) (H2 : Heap) (locs2 : List Loc) (c2 s2 : Nat), c2 ≤ 38 + i9 → s2 ≤ 1339 + 6 * i9 → va_P (dC, dI) vwCl (wC cI cZ ad sm fe ex dy gp gc op gr st dl wo n yc ya ys yd q zc zp zr zs zf z zm zt) H2 → va_P (dC, dI) vwCl (wM cI cZ am sm fe ex gp gc dy n pe gr st dl wo q yc ya yd ys tp fu sh ro (nI 1)) H2 → va_P (dC, dI) vwCl [(o9, .inl (cJ, 1, .inr (.inl fo2)))] H2 → va_S (fun q : Nat => s.heap.size ≤ q) s.heap H2 locs2 → ∀ ls, lv_has ls 7 [(4, .int (nI (5 * i9))), (0, .ref b), (1, .ref (ad 0)), (2, .ref (am 0)), (3, .ref o9)] → W p l e room_1 s m #[Value.ref b] below meth c H2 locs2 c2 s2 (lw_Z below #[Value.ref b] s) (F0 m 1529 ls [])) : W p l e room_1 s m #[Value.ref b] below meth c H locs cells slots (lw_Z below #[Value.ref b] s) (F0 m 572 ls []) := by
  obtain ⟨hx, hb, hr, hml, hown, hts0, hX, hbl, hlocks, hgv⟩ := id C0
  obtain ⟨⟨hI, hIm⟩, ⟨hoC, hoM, hCM⟩, ⟨hAC, hAM, hAo⟩, hK, hKJ, hN⟩ := id CC
  have hts : ∀ w ∈ wsL_law, w.before #[Value.ref b] s = true := fun w hw => hts0 w (wsL_law_in w hw)
  have hown : s.vm.findClass RL = some m.cls := hown
  have hbA : ¬ (fun q : Nat => s.heap.size ≤ q) b := Nat.not_le.mpr hbl
  have hT : tX (fun q => s.heap.size ≤ q) s H := zz_kT hT0 hS
  refine lv_aload_n hx hb dL_law_572 rfl (lv_at hl 2 rfl) ?_
  refine lv_aload_n hx hb dL_law_573 rfl (lv_at hl 1 rfl) ?_
  refine lv_iload hx hb dL_law_574 (lv_at hl 0 rfl) ?_
  refine lv_iconst (v := nI 1) hx hb dL_law_576 (by decide) ?_
  refine lv_iadd hx hb dL_law_577 ?_
  refine zt_i (y := nI (5 * i9 + 1)) (nI_add _ _) ?_
  refine va_sld hx hb hX hbl hbA hS (vp_in_nI (n := 5 * i9 + 1) (by omega) (by omega)) dL_law_578 ?_
  rw [nI_clamp (show 5 * i9 + 1 < 2 ^ 31 by omega)]
  rw [e1]
  refine lv_aload_n hx hb dL_law_579 rfl (lv_at hl 4 rfl) ?_
  refine kh_object_no l hfl (cJ := cJ) (o9 := o9) (fo := fo) (x := x) (hn := ahn) (hk := ahk) hx hb hml hown hts hK hPC gL_law_L_object ⟨Nat.le_of_ble_eq_true rfl, Nat.le_of_ble_eq_true rfl⟩ ⟨show cells + 1 ≤ 1083 by omega, show slots + 6 ≤ 9657 by omega⟩ hl.1 (Nat.le_of_ble_eq_true rfl) dL_law_580 (hT.narrow (fun _ h => h.elim)) hN hS (fun H2 locs hS hz9 hf => ?_)
  have hPC := zz_kC hI hPC (fun x h1 _ => hf x h1)
  have hPM := zz_kM hIm hPM (fun x h1 _ => hf x h1)
  have hPo := zz_ko hPo (hf _ (zz_lt hPo))
  refine lv_istore (lv' := [(5, .int (nI 1)), (4, .int (nI (5 * i9))), (0, .ref b), (1, .ref (ad 0)), (2, .ref (am 0)), (3, .ref o9)]) hx hb dL_law_583 hl (by decide) rfl (fun ls hl => ?_)
  refine lv_aload_n hx hb dL_law_585 rfl (lv_at hl 4 rfl) ?_
  refine lv_aload_n hx hb dL_law_586 rfl (lv_at hl 2 rfl) ?_
  refine lv_iload hx hb dL_law_587 (lv_at hl 1 rfl) ?_
  refine lv_iconst (v := nI 1) hx hb dL_law_589 (by decide) ?_
  refine lv_iadd hx hb dL_law_590 ?_
  refine zt_i (y := nI (5 * i9 + 1)) (nI_add _ _) ?_
  refine va_sld hx hb hX hbl hbA hS (vp_in_nI (n := 5 * i9 + 1) (by omega) (by omega)) dL_law_591 ?_
  rw [nI_clamp (show 5 * i9 + 1 < 2 ^ 31 by omega)]
  rw [e1]
  refine k_X4_object_no l (x := x) (hn := ahn) (hk := ahk) hx hb hml hown hts hK hPM gL_law_X4_object ⟨Nat.le_of_ble_eq_true rfl, Nat.le_of_ble_eq_true rfl⟩ ⟨show cells + 1 ≤ 1083 by omega, show slots + 6 ≤ 9657 by omega⟩ hl.1 (Nat.le_of_ble_eq_true rfl) dL_law_592 hIm hAM hS (fun H2 locs hPM hS hf => ?_)
  have hPC := zz_kC hI hPC (fun x h1 h2 => hf x h1 (fun h3 => hCM x h2 h3))
  have hPo := zz_ko hPo (hf _ (zz_lt hPo) hoM)
  refine lv_istore (lv' := [(6, .int (nI 0)), (5, .int (nI 1)), (4, .int (nI (5 * i9))), (0, .ref b), (1, .ref (ad 0)), (2, .ref (am 0)), (3, .ref o9)]) hx hb dL_law_595 hl (by decide) rfl (fun ls hl => ?_)
  refine lv_aload_n hx hb dL_law_597 rfl (lv_at hl 5 rfl) ?_
  refine k_X4_thrown l hx hb hml hown hts hK hPM gL_law_X4_thrown ⟨Nat.le_of_ble_eq_true rfl, Nat.le_of_ble_eq_true rfl⟩ ⟨show cells + 1 ≤ 1083 by omega, show slots + 6 ≤ 9657 by omega⟩ hl.1 (Nat.le_of_ble_eq_true rfl) dL_law_598 ?_
  refine lv_iload hx hb dL_law_601 (lv_at hl 1 rfl) ?_
  refine lv_icmp_eq (tgt := 608) hx hb dL_law_603 (by decide) (fun _ => ?_) (fun h9 => absurd rfl h9)
  refine lv_iload hx hb dL_law_608 (lv_at hl 1 rfl) ?_
  refine lv_if_ne (tgt := 625) hx hb dL_law_610 (by decide) (fun _ => ?_) (fun h9 => absurd h9 (by decide))
  refine lv_goto (tgt := 1529) hx hb dL_law_625 (by decide) ?_
  exact kk _ _ _ _ _ (by omega) (by omega) hPC hPM hPo hS ls (lv_sub hl [2, 3, 4, 5, 6] rfl)
set_option maxHeartbeats 4000000 in
set_option maxRecDepth 100000 in
theorem lo_object_ise {p : Program} {e : Env} {s : State} {m : MethodId} {below : List Frame} {meth : Method} {c : Code} (l : Launch) (hfl : l.stackTraces = false) {b L : Nat} {xs : Nat → Int32} (C0 : lw_At p s m meth c b L xs) {dC : Nat → ClassId} {dI : Nat → Nat → Nat} {cI cZ cJ : ClassId} {ad am : Nat → Nat} {o9 : Nat} (CC : lwC dC dI cI cZ cJ ad am o9 s) (hT0 : tX (fun q => s.heap.size ≤ q) s s.heap) {sm fe ex dy : Int32} {gp gc op gr st dl wo : Nat → Int32} {n : Nat} {yc ya ys yd : Nat → Int32} {q : Nat} {zc zp zr zs zf : Nat → Int32} {z : Nat} {zm zt : Int64} {pe tp fu sh ro : Nat → Int32} {th : Int32} {fo : Nat → Int64} {k : Nat} {i9 : Nat} (hi9 : 5 * i9 + 5 ≤ L) (hL9 : L ≤ 2560) {H : Heap} {locs : List Loc} {cells slots : Nat} (hc1 : cells ≤ 37 + i9) (hs1 : slots ≤ 1333 + 6 * i9) (hPC : va_P (dC, dI) vwCl (wC cI cZ ad sm fe ex dy gp gc op gr st dl wo n yc ya ys yd q zc zp zr zs zf z zm zt) H) (hPM : va_P (dC, dI) vwCl (wM cI cZ am sm fe ex gp gc dy n pe gr st dl wo q yc ya yd ys tp fu sh ro th) H) (hPo : va_P (dC, dI) vwCl [(o9, .inl (cJ, 1, .inr (.inl fo)))] H) (hS : va_S (fun q : Nat => s.heap.size ≤ q) s.heap H locs) (e1 : xs (5 * i9 + 1) = nI k) (ahn : n ≤ 24) (ahk : k < n) (ah1 : ¬ (st k = nI 2 ∧ wo k = 0)) {ls : Array Slot} (hl : lv_has ls 7 [(4, .int (nI (5 * i9))), (0, .ref b), (1, .ref (ad 0)), (2, .ref (am 0)), (3, .ref o9)]) (kk : ∀ (fo2 : Nat → Int64) (H2 : Heap) (locs2 : List Loc) (c2 s2 : Nat), c2 ≤ 38 + i9 → s2 ≤ 1339 + 6 * i9 → va_P (dC, dI) vwCl (wC cI cZ ad sm fe ex dy gp gc op gr st dl wo n yc ya ys yd q zc zp zr zs zf z zm zt) H2 → va_P (dC, dI) vwCl (wM cI cZ am sm fe ex gp gc dy n pe gr st dl wo q yc ya yd ys tp fu sh ro (nI 2)) H2 → va_P (dC, dI) vwCl [(o9, .inl (cJ, 1, .inr (.inl fo2)))] H2 → va_S (fun q : Nat => s.heap.size ≤ q) s.heap H2 locs2 → ∀ ls, lv_has ls 7 [(4, .int (nI (5 * i9))), (0, .ref b), (1, .ref (ad 0)), (2, .ref (am 0)), (3, .ref o9)] → W p l e room_1 s m #[Value.ref b] below meth c H2 locs2 c2 s2 (lw_Z below #[Value.ref b] s) (F0 m 1529 ls [])) : W p l e room_1 s m #[Value.ref b] below meth c H locs cells slots (lw_Z below #[Value.ref b] s) (F0 m 572 ls []) := by
  obtain ⟨hx, hb, hr, hml, hown, hts0, hX, hbl, hlocks, hgv⟩ := id C0
  obtain ⟨⟨hI, hIm⟩, ⟨hoC, hoM, hCM⟩, ⟨hAC, hAM, hAo⟩, hK, hKJ, hN⟩ := id CC
  have hts : ∀ w ∈ wsL_law, w.before #[Value.ref b] s = true := fun w hw => hts0 w (wsL_law_in w hw)
  have hown : s.vm.findClass RL = some m.cls := hown
  have hbA : ¬ (fun q : Nat => s.heap.size ≤ q) b := Nat.not_le.mpr hbl
  have hT : tX (fun q => s.heap.size ≤ q) s H := zz_kT hT0 hS
  refine lv_aload_n hx hb dL_law_572 rfl (lv_at hl 2 rfl) ?_
  refine lv_aload_n hx hb dL_law_573 rfl (lv_at hl 1 rfl) ?_
  refine lv_iload hx hb dL_law_574 (lv_at hl 0 rfl) ?_
  refine lv_iconst (v := nI 1) hx hb dL_law_576 (by decide) ?_
  refine lv_iadd hx hb dL_law_577 ?_
  refine zt_i (y := nI (5 * i9 + 1)) (nI_add _ _) ?_
  refine va_sld hx hb hX hbl hbA hS (vp_in_nI (n := 5 * i9 + 1) (by omega) (by omega)) dL_law_578 ?_
  rw [nI_clamp (show 5 * i9 + 1 < 2 ^ 31 by omega)]
  rw [e1]
  refine lv_aload_n hx hb dL_law_579 rfl (lv_at hl 4 rfl) ?_
  refine kh_object_ise l hfl (cJ := cJ) (o9 := o9) (fo := fo) (k := k) (hn := ahn) (hk := ahk) (h1 := ah1) hx hb hml hown hts hK hPC gL_law_L_object ⟨Nat.le_of_ble_eq_true rfl, Nat.le_of_ble_eq_true rfl⟩ ⟨show cells + 1 ≤ 1083 by omega, show slots + 6 ≤ 9657 by omega⟩ hl.1 (Nat.le_of_ble_eq_true rfl) dL_law_580 (hT.narrow (fun _ h => h.elim)) hN hS (fun H2 locs hS hz9 hf => ?_)
  have hPC := zz_kC hI hPC (fun x h1 _ => hf x h1)
  have hPM := zz_kM hIm hPM (fun x h1 _ => hf x h1)
  have hPo := zz_ko hPo (hf _ (zz_lt hPo))
  refine lv_istore (lv' := [(5, .int (nI 2)), (4, .int (nI (5 * i9))), (0, .ref b), (1, .ref (ad 0)), (2, .ref (am 0)), (3, .ref o9)]) hx hb dL_law_583 hl (by decide) rfl (fun ls hl => ?_)
  refine lv_aload_n hx hb dL_law_585 rfl (lv_at hl 4 rfl) ?_
  refine lv_aload_n hx hb dL_law_586 rfl (lv_at hl 2 rfl) ?_
  refine lv_iload hx hb dL_law_587 (lv_at hl 1 rfl) ?_
  refine lv_iconst (v := nI 1) hx hb dL_law_589 (by decide) ?_
  refine lv_iadd hx hb dL_law_590 ?_
  refine zt_i (y := nI (5 * i9 + 1)) (nI_add _ _) ?_
  refine va_sld hx hb hX hbl hbA hS (vp_in_nI (n := 5 * i9 + 1) (by omega) (by omega)) dL_law_591 ?_
  rw [nI_clamp (show 5 * i9 + 1 < 2 ^ 31 by omega)]
  rw [e1]
  refine k_X4_object_2 l (k := k) (hn := ahn) (hk := ahk) (h1 := ah1) hx hb hml hown hts hK hPM gL_law_X4_object ⟨Nat.le_of_ble_eq_true rfl, Nat.le_of_ble_eq_true rfl⟩ ⟨show cells + 1 ≤ 1083 by omega, show slots + 6 ≤ 9657 by omega⟩ hl.1 (Nat.le_of_ble_eq_true rfl) dL_law_592 hIm hAM hS (fun H2 locs hPM hS hf => ?_)
  have hPC := zz_kC hI hPC (fun x h1 h2 => hf x h1 (fun h3 => hCM x h2 h3))
  have hPo := zz_ko hPo (hf _ (zz_lt hPo) hoM)
  refine lv_istore (lv' := [(6, .int (nI 0)), (5, .int (nI 2)), (4, .int (nI (5 * i9))), (0, .ref b), (1, .ref (ad 0)), (2, .ref (am 0)), (3, .ref o9)]) hx hb dL_law_595 hl (by decide) rfl (fun ls hl => ?_)
  refine lv_aload_n hx hb dL_law_597 rfl (lv_at hl 5 rfl) ?_
  refine k_X4_thrown l hx hb hml hown hts hK hPM gL_law_X4_thrown ⟨Nat.le_of_ble_eq_true rfl, Nat.le_of_ble_eq_true rfl⟩ ⟨show cells + 1 ≤ 1083 by omega, show slots + 6 ≤ 9657 by omega⟩ hl.1 (Nat.le_of_ble_eq_true rfl) dL_law_598 ?_
  refine lv_iload hx hb dL_law_601 (lv_at hl 1 rfl) ?_
  refine lv_icmp_eq (tgt := 608) hx hb dL_law_603 (by decide) (fun _ => ?_) (fun h9 => absurd rfl h9)
  refine lv_iload hx hb dL_law_608 (lv_at hl 1 rfl) ?_
  refine lv_if_ne (tgt := 625) hx hb dL_law_610 (by decide) (fun _ => ?_) (fun h9 => absurd h9 (by decide))
  refine lv_goto (tgt := 1529) hx hb dL_law_625 (by decide) ?_
  exact kk _ _ _ _ _ (by omega) (by omega) hPC hPM hPo hS ls (lv_sub hl [2, 3, 4, 5, 6] rfl)
set_option maxHeartbeats 4000000 in
set_option maxRecDepth 100000 in
theorem lo_decide_ok_0 {p : Program} {e : Env} {s : State} {m : MethodId} {below : List Frame} {meth : Method} {c : Code} (l : Launch) (hfl : l.stackTraces = false) {b L : Nat} {xs : Nat → Int32} (C0 : lw_At p s m meth c b L xs) {dC : Nat → ClassId} {dI : Nat → Nat → Nat} {cI cZ cJ : ClassId} {ad am : Nat → Nat} {o9 : Nat} (CC : lwC dC dI cI cZ cJ ad am o9 s) (hT0 : tX (fun q => s.heap.size ≤ q) s s.heap) {sm fe ex dy : Int32} {gp gc op gr st dl wo : Nat → Int32} {n : Nat} {yc ya ys yd : Nat → Int32} {q : Nat} {zc zp zr zs zf : Nat → Int32} {z : Nat} {zm zt : Int64} {pe tp fu sh ro : Nat → Int32} {th : Int32} {fo : Nat → Int64} {k : Nat} {i9 : Nat} (hi9 : 5 * i9 + 5 ≤ L) (hL9 : L ≤ 2560) {H : Heap} {locs : List Loc} {cells slots : Nat} (hc1 : cells ≤ 37 + i9) (hs1 : slots ≤ 1333 + 6 * i9) (hPC : va_P (dC, dI) vwCl (wC cI cZ ad sm fe ex dy gp gc op gr st dl wo n yc ya ys yd q zc zp zr zs zf z zm zt) H) (hPM : va_P (dC, dI) vwCl (wM cI cZ am sm fe ex gp gc dy n pe gr st dl wo q yc ya yd ys tp fu sh ro th) H) (hPo : va_P (dC, dI) vwCl [(o9, .inl (cJ, 1, .inr (.inl fo)))] H) (hS : va_S (fun q : Nat => s.heap.size ≤ q) s.heap H locs) (e1 : xs (5 * i9 + 1) = nI k) (e2 : xs (5 * i9 + 2) = 0) (ahn : n ≤ 24) (ahk : k < n) (ah1 : st k = nI 3) {ls : Array Slot} (hl : lv_has ls 7 [(4, .int (nI (5 * i9))), (0, .ref b), (1, .ref (ad 0)), (2, .ref (am 0)), (3, .ref o9)]) (kk : ∀ (fo2 : Nat → Int64) (H2 : Heap) (locs2 : List Loc) (c2 s2 : Nat), c2 ≤ 38 + i9 → s2 ≤ 1339 + 6 * i9 → va_P (dC, dI) vwCl (wC cI cZ ad sm fe ex dy gp gc op gr (upd st k (goodS (nI 0))) dl wo n yc ya ys yd q zc zp zr zs zf z zm zt) H2 → va_P (dC, dI) vwCl (wM cI cZ am sm fe ex gp gc dy n pe gr (upd st k (goodS (nI 0))) dl wo q yc ya yd ys tp fu sh ro (nI 0)) H2 → va_P (dC, dI) vwCl [(o9, .inl (cJ, 1, .inr (.inl fo2)))] H2 → va_S (fun q : Nat => s.heap.size ≤ q) s.heap H2 locs2 → ∀ ls, lv_has ls 7 [(4, .int (nI (5 * i9))), (0, .ref b), (1, .ref (ad 0)), (2, .ref (am 0)), (3, .ref o9)] → W p l e room_1 s m #[Value.ref b] below meth c H2 locs2 c2 s2 (lw_Z below #[Value.ref b] s) (F0 m 1529 ls [])) : W p l e room_1 s m #[Value.ref b] below meth c H locs cells slots (lw_Z below #[Value.ref b] s) (F0 m 628 ls []) := by
  obtain ⟨hx, hb, hr, hml, hown, hts0, hX, hbl, hlocks, hgv⟩ := id C0
  obtain ⟨⟨hI, hIm⟩, ⟨hoC, hoM, hCM⟩, ⟨hAC, hAM, hAo⟩, hK, hKJ, hN⟩ := id CC
  have hts : ∀ w ∈ wsL_law, w.before #[Value.ref b] s = true := fun w hw => hts0 w (wsL_law_in w hw)
  have hown : s.vm.findClass RL = some m.cls := hown
  have hbA : ¬ (fun q : Nat => s.heap.size ≤ q) b := Nat.not_le.mpr hbl
  have hT : tX (fun q => s.heap.size ≤ q) s H := zz_kT hT0 hS
  refine lv_aload_n hx hb dL_law_628 rfl (lv_at hl 2 rfl) ?_
  refine lv_aload_n hx hb dL_law_629 rfl (lv_at hl 1 rfl) ?_
  refine lv_iload hx hb dL_law_630 (lv_at hl 0 rfl) ?_
  refine lv_iconst (v := nI 1) hx hb dL_law_632 (by decide) ?_
  refine lv_iadd hx hb dL_law_633 ?_
  refine zt_i (y := nI (5 * i9 + 1)) (nI_add _ _) ?_
  refine va_sld hx hb hX hbl hbA hS (vp_in_nI (n := 5 * i9 + 1) (by omega) (by omega)) dL_law_634 ?_
  rw [nI_clamp (show 5 * i9 + 1 < 2 ^ 31 by omega)]
  rw [e1]
  refine lv_aload_n hx hb dL_law_635 rfl (lv_at hl 1 rfl) ?_
  refine lv_iload hx hb dL_law_636 (lv_at hl 0 rfl) ?_
  refine lv_iconst (v := nI 2) hx hb dL_law_638 (by decide) ?_
  refine lv_iadd hx hb dL_law_639 ?_
  refine zt_i (y := nI (5 * i9 + 2)) (nI_add _ _) ?_
  refine va_sld hx hb hX hbl hbA hS (vp_in_nI (n := 5 * i9 + 2) (by omega) (by omega)) dL_law_640 ?_
  rw [nI_clamp (show 5 * i9 + 2 < 2 ^ 31 by omega)]
  refine lv_if_eq (tgt := 648) hx hb dL_law_641 (by decide) (fun _ => ?_) (fun h9 => absurd e2 h9)
  refine lv_iconst (v := nI 0) hx hb dL_law_648 (by decide) ?_
  refine lv_aload_n hx hb dL_law_649 rfl (lv_at hl 4 rfl) ?_
  refine kh_decide_ok l (cJ := cJ) (o9 := o9) (fo := fo) (k := k) (b := (nI 0)) (hn := ahn) (hk := ahk) (h1 := ah1) hx hb hml hown hts hK hPC gL_law_L_decide ⟨Nat.le_of_ble_eq_true rfl, Nat.le_of_ble_eq_true rfl⟩ ⟨show cells + 0 ≤ 1083 by omega, show slots + 0 ≤ 9657 by omega⟩ hl.1 (Nat.le_of_ble_eq_true rfl) dL_law_650 hI hoC hPo hKJ (fun x h => h.elim (hAC x) (fun h => by rw [h]; exact hAo)) hS (fun u9 H2 locs hPC fo hf9 hPo hS hz9 hf => ?_)
  have hPM := zz_kM hIm hPM (fun x h1 h2 => hf x h1 (fun h3 => h3.elim (fun h3 => hCM x h3 h2) (fun h3 => hoM (by rw [← h3]; exact h2))))
  refine lv_istore (lv' := [(5, .int (nI 0)), (4, .int (nI (5 * i9))), (0, .ref b), (1, .ref (ad 0)), (2, .ref (am 0)), (3, .ref o9)]) hx hb dL_law_653 hl (by decide) rfl (fun ls hl => ?_)
  refine lv_aload_n hx hb dL_law_655 rfl (lv_at hl 4 rfl) ?_
  refine lv_aload_n hx hb dL_law_656 rfl (lv_at hl 2 rfl) ?_
  refine lv_iload hx hb dL_law_657 (lv_at hl 1 rfl) ?_
  refine lv_iconst (v := nI 1) hx hb dL_law_659 (by decide) ?_
  refine lv_iadd hx hb dL_law_660 ?_
  refine zt_i (y := nI (5 * i9 + 1)) (nI_add _ _) ?_
  refine va_sld hx hb hX hbl hbA hS (vp_in_nI (n := 5 * i9 + 1) (by omega) (by omega)) dL_law_661 ?_
  rw [nI_clamp (show 5 * i9 + 1 < 2 ^ 31 by omega)]
  rw [e1]
  refine lv_aload_n hx hb dL_law_662 rfl (lv_at hl 2 rfl) ?_
  refine lv_iload hx hb dL_law_663 (lv_at hl 1 rfl) ?_
  refine lv_iconst (v := nI 2) hx hb dL_law_665 (by decide) ?_
  refine lv_iadd hx hb dL_law_666 ?_
  refine zt_i (y := nI (5 * i9 + 2)) (nI_add _ _) ?_
  refine va_sld hx hb hX hbl hbA hS (vp_in_nI (n := 5 * i9 + 2) (by omega) (by omega)) dL_law_667 ?_
  rw [nI_clamp (show 5 * i9 + 2 < 2 ^ 31 by omega)]
  refine lv_if_eq (tgt := 675) hx hb dL_law_668 (by decide) (fun _ => ?_) (fun h9 => absurd e2 h9)
  refine lv_iconst (v := nI 0) hx hb dL_law_675 (by decide) ?_
  refine k_X4_decide_ok l (k := k) (b := (nI 0)) (hn := ahn) (hk := ahk) (h1 := ah1) hx hb hml hown hts hK hPM gL_law_X4_decide ⟨Nat.le_of_ble_eq_true rfl, Nat.le_of_ble_eq_true rfl⟩ ⟨show cells + 0 ≤ 1083 by omega, show slots + 0 ≤ 9657 by omega⟩ hl.1 (Nat.le_of_ble_eq_true rfl) dL_law_676 hIm hAM hS (fun H2 locs hPM hS hf => ?_)
  have hPC := zz_kC hI hPC (fun x h1 h2 => hf x h1 (fun h3 => hCM x h2 h3))
  have hPo := zz_ko hPo (hf _ (zz_lt hPo) hoM)
  refine lv_istore (lv' := [(6, .int (nI (tallyN (upd st k (goodS (nI 0))) (nI 3) n))), (5, .int (nI 0)), (4, .int (nI (5 * i9))), (0, .ref b), (1, .ref (ad 0)), (2, .ref (am 0)), (3, .ref o9)]) hx hb dL_law_679 hl (by decide) rfl (fun ls hl => ?_)
  refine lv_aload_n hx hb dL_law_681 rfl (lv_at hl 5 rfl) ?_
  refine k_X4_thrown l hx hb hml hown hts hK hPM gL_law_X4_thrown ⟨Nat.le_of_ble_eq_true rfl, Nat.le_of_ble_eq_true rfl⟩ ⟨show cells + 0 ≤ 1083 by omega, show slots + 0 ≤ 9657 by omega⟩ hl.1 (Nat.le_of_ble_eq_true rfl) dL_law_682 ?_
  refine lv_iload hx hb dL_law_685 (lv_at hl 1 rfl) ?_
  refine lv_icmp_eq (tgt := 692) hx hb dL_law_687 (by decide) (fun _ => ?_) (fun h9 => absurd rfl h9)
  refine lv_iload hx hb dL_law_692 (lv_at hl 1 rfl) ?_
  refine lv_if_ne (tgt := 709) hx hb dL_law_694 (by decide) (fun h9 => absurd (by decide) h9) (fun _ => ?_)
  refine lv_aload_n hx hb dL_law_697 rfl (lv_at hl 6 rfl) ?_
  refine lv_iconst (v := nI 0) hx hb dL_law_698 (by decide) ?_
  refine va_lald hx hb hKJ hPo 0 0 rfl rfl (vp_in_nI (n := 0) (by decide) (by decide)) dL_law_699 ?_
  refine zt_l (y := (nI (tallyN (upd st k (goodS (nI 0))) (nI 3) n)).toInt64) (by rw [show (nI 0).toNatClampNeg = 0 by decide]; exact hf9) ?_
  refine lv_iload hx hb dL_law_700 (lv_at hl 0 rfl) ?_
  refine lv_i2l (v := (nI (tallyN (upd st k (goodS (nI 0))) (nI 3) n)).toInt64) hx hb dL_law_702 rfl ?_
  refine W.lcmp hx hb dL_law_703 ?_
  refine zg_eq (tgt := 709) hx hb dL_law_704 (by decide) (fun _ => ?_) (fun h9 => absurd (rfl) h9)
  refine lv_goto (tgt := 1529) hx hb dL_law_709 (by decide) ?_
  exact kk _ _ _ _ _ (by omega) (by omega) hPC hPM hPo hS ls (lv_sub hl [2, 3, 4, 5, 6] rfl)
set_option maxHeartbeats 4000000 in
set_option maxRecDepth 100000 in
theorem lo_decide_ok_1 {p : Program} {e : Env} {s : State} {m : MethodId} {below : List Frame} {meth : Method} {c : Code} (l : Launch) (hfl : l.stackTraces = false) {b L : Nat} {xs : Nat → Int32} (C0 : lw_At p s m meth c b L xs) {dC : Nat → ClassId} {dI : Nat → Nat → Nat} {cI cZ cJ : ClassId} {ad am : Nat → Nat} {o9 : Nat} (CC : lwC dC dI cI cZ cJ ad am o9 s) (hT0 : tX (fun q => s.heap.size ≤ q) s s.heap) {sm fe ex dy : Int32} {gp gc op gr st dl wo : Nat → Int32} {n : Nat} {yc ya ys yd : Nat → Int32} {q : Nat} {zc zp zr zs zf : Nat → Int32} {z : Nat} {zm zt : Int64} {pe tp fu sh ro : Nat → Int32} {th : Int32} {fo : Nat → Int64} {k : Nat} {i9 : Nat} (hi9 : 5 * i9 + 5 ≤ L) (hL9 : L ≤ 2560) {H : Heap} {locs : List Loc} {cells slots : Nat} (hc1 : cells ≤ 37 + i9) (hs1 : slots ≤ 1333 + 6 * i9) (hPC : va_P (dC, dI) vwCl (wC cI cZ ad sm fe ex dy gp gc op gr st dl wo n yc ya ys yd q zc zp zr zs zf z zm zt) H) (hPM : va_P (dC, dI) vwCl (wM cI cZ am sm fe ex gp gc dy n pe gr st dl wo q yc ya yd ys tp fu sh ro th) H) (hPo : va_P (dC, dI) vwCl [(o9, .inl (cJ, 1, .inr (.inl fo)))] H) (hS : va_S (fun q : Nat => s.heap.size ≤ q) s.heap H locs) (e1 : xs (5 * i9 + 1) = nI k) (e2 : ¬ xs (5 * i9 + 2) = 0) (ahn : n ≤ 24) (ahk : k < n) (ah1 : st k = nI 3) {ls : Array Slot} (hl : lv_has ls 7 [(4, .int (nI (5 * i9))), (0, .ref b), (1, .ref (ad 0)), (2, .ref (am 0)), (3, .ref o9)]) (kk : ∀ (fo2 : Nat → Int64) (H2 : Heap) (locs2 : List Loc) (c2 s2 : Nat), c2 ≤ 38 + i9 → s2 ≤ 1339 + 6 * i9 → va_P (dC, dI) vwCl (wC cI cZ ad sm fe ex dy gp gc op gr (upd st k (goodS (nI 1))) dl wo n yc ya ys yd q zc zp zr zs zf z zm zt) H2 → va_P (dC, dI) vwCl (wM cI cZ am sm fe ex gp gc dy n pe gr (upd st k (goodS (nI 1))) dl wo q yc ya yd ys tp fu sh ro (nI 0)) H2 → va_P (dC, dI) vwCl [(o9, .inl (cJ, 1, .inr (.inl fo2)))] H2 → va_S (fun q : Nat => s.heap.size ≤ q) s.heap H2 locs2 → ∀ ls, lv_has ls 7 [(4, .int (nI (5 * i9))), (0, .ref b), (1, .ref (ad 0)), (2, .ref (am 0)), (3, .ref o9)] → W p l e room_1 s m #[Value.ref b] below meth c H2 locs2 c2 s2 (lw_Z below #[Value.ref b] s) (F0 m 1529 ls [])) : W p l e room_1 s m #[Value.ref b] below meth c H locs cells slots (lw_Z below #[Value.ref b] s) (F0 m 628 ls []) := by
  obtain ⟨hx, hb, hr, hml, hown, hts0, hX, hbl, hlocks, hgv⟩ := id C0
  obtain ⟨⟨hI, hIm⟩, ⟨hoC, hoM, hCM⟩, ⟨hAC, hAM, hAo⟩, hK, hKJ, hN⟩ := id CC
  have hts : ∀ w ∈ wsL_law, w.before #[Value.ref b] s = true := fun w hw => hts0 w (wsL_law_in w hw)
  have hown : s.vm.findClass RL = some m.cls := hown
  have hbA : ¬ (fun q : Nat => s.heap.size ≤ q) b := Nat.not_le.mpr hbl
  have hT : tX (fun q => s.heap.size ≤ q) s H := zz_kT hT0 hS
  refine lv_aload_n hx hb dL_law_628 rfl (lv_at hl 2 rfl) ?_
  refine lv_aload_n hx hb dL_law_629 rfl (lv_at hl 1 rfl) ?_
  refine lv_iload hx hb dL_law_630 (lv_at hl 0 rfl) ?_
  refine lv_iconst (v := nI 1) hx hb dL_law_632 (by decide) ?_
  refine lv_iadd hx hb dL_law_633 ?_
  refine zt_i (y := nI (5 * i9 + 1)) (nI_add _ _) ?_
  refine va_sld hx hb hX hbl hbA hS (vp_in_nI (n := 5 * i9 + 1) (by omega) (by omega)) dL_law_634 ?_
  rw [nI_clamp (show 5 * i9 + 1 < 2 ^ 31 by omega)]
  rw [e1]
  refine lv_aload_n hx hb dL_law_635 rfl (lv_at hl 1 rfl) ?_
  refine lv_iload hx hb dL_law_636 (lv_at hl 0 rfl) ?_
  refine lv_iconst (v := nI 2) hx hb dL_law_638 (by decide) ?_
  refine lv_iadd hx hb dL_law_639 ?_
  refine zt_i (y := nI (5 * i9 + 2)) (nI_add _ _) ?_
  refine va_sld hx hb hX hbl hbA hS (vp_in_nI (n := 5 * i9 + 2) (by omega) (by omega)) dL_law_640 ?_
  rw [nI_clamp (show 5 * i9 + 2 < 2 ^ 31 by omega)]
  refine lv_if_eq (tgt := 648) hx hb dL_law_641 (by decide) (fun h9 => absurd h9 e2) (fun _ => ?_)
  refine lv_iconst (v := nI 1) hx hb dL_law_644 (by decide) ?_
  refine lv_goto (tgt := 649) hx hb dL_law_645 (by decide) ?_
  refine lv_aload_n hx hb dL_law_649 rfl (lv_at hl 4 rfl) ?_
  refine kh_decide_ok l (cJ := cJ) (o9 := o9) (fo := fo) (k := k) (b := (nI 1)) (hn := ahn) (hk := ahk) (h1 := ah1) hx hb hml hown hts hK hPC gL_law_L_decide ⟨Nat.le_of_ble_eq_true rfl, Nat.le_of_ble_eq_true rfl⟩ ⟨show cells + 0 ≤ 1083 by omega, show slots + 0 ≤ 9657 by omega⟩ hl.1 (Nat.le_of_ble_eq_true rfl) dL_law_650 hI hoC hPo hKJ (fun x h => h.elim (hAC x) (fun h => by rw [h]; exact hAo)) hS (fun u9 H2 locs hPC fo hf9 hPo hS hz9 hf => ?_)
  have hPM := zz_kM hIm hPM (fun x h1 h2 => hf x h1 (fun h3 => h3.elim (fun h3 => hCM x h3 h2) (fun h3 => hoM (by rw [← h3]; exact h2))))
  refine lv_istore (lv' := [(5, .int (nI 0)), (4, .int (nI (5 * i9))), (0, .ref b), (1, .ref (ad 0)), (2, .ref (am 0)), (3, .ref o9)]) hx hb dL_law_653 hl (by decide) rfl (fun ls hl => ?_)
  refine lv_aload_n hx hb dL_law_655 rfl (lv_at hl 4 rfl) ?_
  refine lv_aload_n hx hb dL_law_656 rfl (lv_at hl 2 rfl) ?_
  refine lv_iload hx hb dL_law_657 (lv_at hl 1 rfl) ?_
  refine lv_iconst (v := nI 1) hx hb dL_law_659 (by decide) ?_
  refine lv_iadd hx hb dL_law_660 ?_
  refine zt_i (y := nI (5 * i9 + 1)) (nI_add _ _) ?_
  refine va_sld hx hb hX hbl hbA hS (vp_in_nI (n := 5 * i9 + 1) (by omega) (by omega)) dL_law_661 ?_
  rw [nI_clamp (show 5 * i9 + 1 < 2 ^ 31 by omega)]
  rw [e1]
  refine lv_aload_n hx hb dL_law_662 rfl (lv_at hl 2 rfl) ?_
  refine lv_iload hx hb dL_law_663 (lv_at hl 1 rfl) ?_
  refine lv_iconst (v := nI 2) hx hb dL_law_665 (by decide) ?_
  refine lv_iadd hx hb dL_law_666 ?_
  refine zt_i (y := nI (5 * i9 + 2)) (nI_add _ _) ?_
  refine va_sld hx hb hX hbl hbA hS (vp_in_nI (n := 5 * i9 + 2) (by omega) (by omega)) dL_law_667 ?_
  rw [nI_clamp (show 5 * i9 + 2 < 2 ^ 31 by omega)]
  refine lv_if_eq (tgt := 675) hx hb dL_law_668 (by decide) (fun h9 => absurd h9 e2) (fun _ => ?_)
  refine lv_iconst (v := nI 1) hx hb dL_law_671 (by decide) ?_
  refine lv_goto (tgt := 676) hx hb dL_law_672 (by decide) ?_
  refine k_X4_decide_ok l (k := k) (b := (nI 1)) (hn := ahn) (hk := ahk) (h1 := ah1) hx hb hml hown hts hK hPM gL_law_X4_decide ⟨Nat.le_of_ble_eq_true rfl, Nat.le_of_ble_eq_true rfl⟩ ⟨show cells + 0 ≤ 1083 by omega, show slots + 0 ≤ 9657 by omega⟩ hl.1 (Nat.le_of_ble_eq_true rfl) dL_law_676 hIm hAM hS (fun H2 locs hPM hS hf => ?_)
  have hPC := zz_kC hI hPC (fun x h1 h2 => hf x h1 (fun h3 => hCM x h2 h3))
  have hPo := zz_ko hPo (hf _ (zz_lt hPo) hoM)
  refine lv_istore (lv' := [(6, .int (nI (tallyN (upd st k (goodS (nI 1))) (nI 3) n))), (5, .int (nI 0)), (4, .int (nI (5 * i9))), (0, .ref b), (1, .ref (ad 0)), (2, .ref (am 0)), (3, .ref o9)]) hx hb dL_law_679 hl (by decide) rfl (fun ls hl => ?_)
  refine lv_aload_n hx hb dL_law_681 rfl (lv_at hl 5 rfl) ?_
  refine k_X4_thrown l hx hb hml hown hts hK hPM gL_law_X4_thrown ⟨Nat.le_of_ble_eq_true rfl, Nat.le_of_ble_eq_true rfl⟩ ⟨show cells + 0 ≤ 1083 by omega, show slots + 0 ≤ 9657 by omega⟩ hl.1 (Nat.le_of_ble_eq_true rfl) dL_law_682 ?_
  refine lv_iload hx hb dL_law_685 (lv_at hl 1 rfl) ?_
  refine lv_icmp_eq (tgt := 692) hx hb dL_law_687 (by decide) (fun _ => ?_) (fun h9 => absurd rfl h9)
  refine lv_iload hx hb dL_law_692 (lv_at hl 1 rfl) ?_
  refine lv_if_ne (tgt := 709) hx hb dL_law_694 (by decide) (fun h9 => absurd (by decide) h9) (fun _ => ?_)
  refine lv_aload_n hx hb dL_law_697 rfl (lv_at hl 6 rfl) ?_
  refine lv_iconst (v := nI 0) hx hb dL_law_698 (by decide) ?_
  refine va_lald hx hb hKJ hPo 0 0 rfl rfl (vp_in_nI (n := 0) (by decide) (by decide)) dL_law_699 ?_
  refine zt_l (y := (nI (tallyN (upd st k (goodS (nI 1))) (nI 3) n)).toInt64) (by rw [show (nI 0).toNatClampNeg = 0 by decide]; exact hf9) ?_
  refine lv_iload hx hb dL_law_700 (lv_at hl 0 rfl) ?_
  refine lv_i2l (v := (nI (tallyN (upd st k (goodS (nI 1))) (nI 3) n)).toInt64) hx hb dL_law_702 rfl ?_
  refine W.lcmp hx hb dL_law_703 ?_
  refine zg_eq (tgt := 709) hx hb dL_law_704 (by decide) (fun _ => ?_) (fun h9 => absurd (rfl) h9)
  refine lv_goto (tgt := 1529) hx hb dL_law_709 (by decide) ?_
  exact kk _ _ _ _ _ (by omega) (by omega) hPC hPM hPo hS ls (lv_sub hl [2, 3, 4, 5, 6] rfl)
set_option maxHeartbeats 4000000 in
set_option maxRecDepth 100000 in
theorem lo_decide_no_0 {p : Program} {e : Env} {s : State} {m : MethodId} {below : List Frame} {meth : Method} {c : Code} (l : Launch) (hfl : l.stackTraces = false) {b L : Nat} {xs : Nat → Int32} (C0 : lw_At p s m meth c b L xs) {dC : Nat → ClassId} {dI : Nat → Nat → Nat} {cI cZ cJ : ClassId} {ad am : Nat → Nat} {o9 : Nat} (CC : lwC dC dI cI cZ cJ ad am o9 s) (hT0 : tX (fun q => s.heap.size ≤ q) s s.heap) {sm fe ex dy : Int32} {gp gc op gr st dl wo : Nat → Int32} {n : Nat} {yc ya ys yd : Nat → Int32} {q : Nat} {zc zp zr zs zf : Nat → Int32} {z : Nat} {zm zt : Int64} {pe tp fu sh ro : Nat → Int32} {th : Int32} {fo : Nat → Int64} {x : Int32} {i9 : Nat} (hi9 : 5 * i9 + 5 ≤ L) (hL9 : L ≤ 2560) {H : Heap} {locs : List Loc} {cells slots : Nat} (hc1 : cells ≤ 37 + i9) (hs1 : slots ≤ 1333 + 6 * i9) (hPC : va_P (dC, dI) vwCl (wC cI cZ ad sm fe ex dy gp gc op gr st dl wo n yc ya ys yd q zc zp zr zs zf z zm zt) H) (hPM : va_P (dC, dI) vwCl (wM cI cZ am sm fe ex gp gc dy n pe gr st dl wo q yc ya yd ys tp fu sh ro th) H) (hPo : va_P (dC, dI) vwCl [(o9, .inl (cJ, 1, .inr (.inl fo)))] H) (hS : va_S (fun q : Nat => s.heap.size ≤ q) s.heap H locs) (e1 : xs (5 * i9 + 1) = x) (e2 : xs (5 * i9 + 2) = 0) (ahn : n ≤ 24) (ahk : ¬ vp_in x n) {ls : Array Slot} (hl : lv_has ls 7 [(4, .int (nI (5 * i9))), (0, .ref b), (1, .ref (ad 0)), (2, .ref (am 0)), (3, .ref o9)]) (kk : ∀ (fo2 : Nat → Int64) (H2 : Heap) (locs2 : List Loc) (c2 s2 : Nat), c2 ≤ 38 + i9 → s2 ≤ 1339 + 6 * i9 → va_P (dC, dI) vwCl (wC cI cZ ad sm fe ex dy gp gc op gr st dl wo n yc ya ys yd q zc zp zr zs zf z zm zt) H2 → va_P (dC, dI) vwCl (wM cI cZ am sm fe ex gp gc dy n pe gr st dl wo q yc ya yd ys tp fu sh ro (nI 1)) H2 → va_P (dC, dI) vwCl [(o9, .inl (cJ, 1, .inr (.inl fo2)))] H2 → va_S (fun q : Nat => s.heap.size ≤ q) s.heap H2 locs2 → ∀ ls, lv_has ls 7 [(4, .int (nI (5 * i9))), (0, .ref b), (1, .ref (ad 0)), (2, .ref (am 0)), (3, .ref o9)] → W p l e room_1 s m #[Value.ref b] below meth c H2 locs2 c2 s2 (lw_Z below #[Value.ref b] s) (F0 m 1529 ls [])) : W p l e room_1 s m #[Value.ref b] below meth c H locs cells slots (lw_Z below #[Value.ref b] s) (F0 m 628 ls []) := by
  obtain ⟨hx, hb, hr, hml, hown, hts0, hX, hbl, hlocks, hgv⟩ := id C0
  obtain ⟨⟨hI, hIm⟩, ⟨hoC, hoM, hCM⟩, ⟨hAC, hAM, hAo⟩, hK, hKJ, hN⟩ := id CC
  have hts : ∀ w ∈ wsL_law, w.before #[Value.ref b] s = true := fun w hw => hts0 w (wsL_law_in w hw)
  have hown : s.vm.findClass RL = some m.cls := hown
  have hbA : ¬ (fun q : Nat => s.heap.size ≤ q) b := Nat.not_le.mpr hbl
  have hT : tX (fun q => s.heap.size ≤ q) s H := zz_kT hT0 hS
  refine lv_aload_n hx hb dL_law_628 rfl (lv_at hl 2 rfl) ?_
  refine lv_aload_n hx hb dL_law_629 rfl (lv_at hl 1 rfl) ?_
  refine lv_iload hx hb dL_law_630 (lv_at hl 0 rfl) ?_
  refine lv_iconst (v := nI 1) hx hb dL_law_632 (by decide) ?_
  refine lv_iadd hx hb dL_law_633 ?_
  refine zt_i (y := nI (5 * i9 + 1)) (nI_add _ _) ?_
  refine va_sld hx hb hX hbl hbA hS (vp_in_nI (n := 5 * i9 + 1) (by omega) (by omega)) dL_law_634 ?_
  rw [nI_clamp (show 5 * i9 + 1 < 2 ^ 31 by omega)]
  rw [e1]
  refine lv_aload_n hx hb dL_law_635 rfl (lv_at hl 1 rfl) ?_
  refine lv_iload hx hb dL_law_636 (lv_at hl 0 rfl) ?_
  refine lv_iconst (v := nI 2) hx hb dL_law_638 (by decide) ?_
  refine lv_iadd hx hb dL_law_639 ?_
  refine zt_i (y := nI (5 * i9 + 2)) (nI_add _ _) ?_
  refine va_sld hx hb hX hbl hbA hS (vp_in_nI (n := 5 * i9 + 2) (by omega) (by omega)) dL_law_640 ?_
  rw [nI_clamp (show 5 * i9 + 2 < 2 ^ 31 by omega)]
  refine lv_if_eq (tgt := 648) hx hb dL_law_641 (by decide) (fun _ => ?_) (fun h9 => absurd e2 h9)
  refine lv_iconst (v := nI 0) hx hb dL_law_648 (by decide) ?_
  refine lv_aload_n hx hb dL_law_649 rfl (lv_at hl 4 rfl) ?_
  refine kh_decide_no l hfl (cJ := cJ) (o9 := o9) (fo := fo) (x := x) (b1 := (nI 0)) (hn := ahn) (hk := ahk) hx hb hml hown hts hK hPC gL_law_L_decide ⟨Nat.le_of_ble_eq_true rfl, Nat.le_of_ble_eq_true rfl⟩ ⟨show cells + 1 ≤ 1083 by omega, show slots + 6 ≤ 9657 by omega⟩ hl.1 (Nat.le_of_ble_eq_true rfl) dL_law_650 (hT.narrow (fun _ h => h.elim)) hN hS (fun H2 locs hS hz9 hf => ?_)
  have hPC := zz_kC hI hPC (fun x h1 _ => hf x h1)
  have hPM := zz_kM hIm hPM (fun x h1 _ => hf x h1)
  have hPo := zz_ko hPo (hf _ (zz_lt hPo))
  refine lv_istore (lv' := [(5, .int (nI 1)), (4, .int (nI (5 * i9))), (0, .ref b), (1, .ref (ad 0)), (2, .ref (am 0)), (3, .ref o9)]) hx hb dL_law_653 hl (by decide) rfl (fun ls hl => ?_)
  refine lv_aload_n hx hb dL_law_655 rfl (lv_at hl 4 rfl) ?_
  refine lv_aload_n hx hb dL_law_656 rfl (lv_at hl 2 rfl) ?_
  refine lv_iload hx hb dL_law_657 (lv_at hl 1 rfl) ?_
  refine lv_iconst (v := nI 1) hx hb dL_law_659 (by decide) ?_
  refine lv_iadd hx hb dL_law_660 ?_
  refine zt_i (y := nI (5 * i9 + 1)) (nI_add _ _) ?_
  refine va_sld hx hb hX hbl hbA hS (vp_in_nI (n := 5 * i9 + 1) (by omega) (by omega)) dL_law_661 ?_
  rw [nI_clamp (show 5 * i9 + 1 < 2 ^ 31 by omega)]
  rw [e1]
  refine lv_aload_n hx hb dL_law_662 rfl (lv_at hl 2 rfl) ?_
  refine lv_iload hx hb dL_law_663 (lv_at hl 1 rfl) ?_
  refine lv_iconst (v := nI 2) hx hb dL_law_665 (by decide) ?_
  refine lv_iadd hx hb dL_law_666 ?_
  refine zt_i (y := nI (5 * i9 + 2)) (nI_add _ _) ?_
  refine va_sld hx hb hX hbl hbA hS (vp_in_nI (n := 5 * i9 + 2) (by omega) (by omega)) dL_law_667 ?_
  rw [nI_clamp (show 5 * i9 + 2 < 2 ^ 31 by omega)]
  refine lv_if_eq (tgt := 675) hx hb dL_law_668 (by decide) (fun _ => ?_) (fun h9 => absurd e2 h9)
  refine lv_iconst (v := nI 0) hx hb dL_law_675 (by decide) ?_
  refine k_X4_decide_no l (x := x) (b1 := (nI 0)) (hn := ahn) (hk := ahk) hx hb hml hown hts hK hPM gL_law_X4_decide ⟨Nat.le_of_ble_eq_true rfl, Nat.le_of_ble_eq_true rfl⟩ ⟨show cells + 1 ≤ 1083 by omega, show slots + 6 ≤ 9657 by omega⟩ hl.1 (Nat.le_of_ble_eq_true rfl) dL_law_676 hIm hAM hS (fun H2 locs hPM hS hf => ?_)
  have hPC := zz_kC hI hPC (fun x h1 h2 => hf x h1 (fun h3 => hCM x h2 h3))
  have hPo := zz_ko hPo (hf _ (zz_lt hPo) hoM)
  refine lv_istore (lv' := [(6, .int (nI 0)), (5, .int (nI 1)), (4, .int (nI (5 * i9))), (0, .ref b), (1, .ref (ad 0)), (2, .ref (am 0)), (3, .ref o9)]) hx hb dL_law_679 hl (by decide) rfl (fun ls hl => ?_)
  refine lv_aload_n hx hb dL_law_681 rfl (lv_at hl 5 rfl) ?_
  refine k_X4_thrown l hx hb hml hown hts hK hPM gL_law_X4_thrown ⟨Nat.le_of_ble_eq_true rfl, Nat.le_of_ble_eq_true rfl⟩ ⟨show cells + 1 ≤ 1083 by omega, show slots + 6 ≤ 9657 by omega⟩ hl.1 (Nat.le_of_ble_eq_true rfl) dL_law_682 ?_
  refine lv_iload hx hb dL_law_685 (lv_at hl 1 rfl) ?_
  refine lv_icmp_eq (tgt := 692) hx hb dL_law_687 (by decide) (fun _ => ?_) (fun h9 => absurd rfl h9)
  refine lv_iload hx hb dL_law_692 (lv_at hl 1 rfl) ?_
  refine lv_if_ne (tgt := 709) hx hb dL_law_694 (by decide) (fun _ => ?_) (fun h9 => absurd h9 (by decide))
  refine lv_goto (tgt := 1529) hx hb dL_law_709 (by decide) ?_
  exact kk _ _ _ _ _ (by omega) (by omega) hPC hPM hPo hS ls (lv_sub hl [2, 3, 4, 5, 6] rfl)
set_option maxHeartbeats 4000000 in
set_option maxRecDepth 100000 in
theorem lo_decide_no_1 {p : Program} {e : Env} {s : State} {m : MethodId} {below : List Frame} {meth : Method} {c : Code} (l : Launch) (hfl : l.stackTraces = false) {b L : Nat} {xs : Nat → Int32} (C0 : lw_At p s m meth c b L xs) {dC : Nat → ClassId} {dI : Nat → Nat → Nat} {cI cZ cJ : ClassId} {ad am : Nat → Nat} {o9 : Nat} (CC : lwC dC dI cI cZ cJ ad am o9 s) (hT0 : tX (fun q => s.heap.size ≤ q) s s.heap) {sm fe ex dy : Int32} {gp gc op gr st dl wo : Nat → Int32} {n : Nat} {yc ya ys yd : Nat → Int32} {q : Nat} {zc zp zr zs zf : Nat → Int32} {z : Nat} {zm zt : Int64} {pe tp fu sh ro : Nat → Int32} {th : Int32} {fo : Nat → Int64} {x : Int32} {i9 : Nat} (hi9 : 5 * i9 + 5 ≤ L) (hL9 : L ≤ 2560) {H : Heap} {locs : List Loc} {cells slots : Nat} (hc1 : cells ≤ 37 + i9) (hs1 : slots ≤ 1333 + 6 * i9) (hPC : va_P (dC, dI) vwCl (wC cI cZ ad sm fe ex dy gp gc op gr st dl wo n yc ya ys yd q zc zp zr zs zf z zm zt) H) (hPM : va_P (dC, dI) vwCl (wM cI cZ am sm fe ex gp gc dy n pe gr st dl wo q yc ya yd ys tp fu sh ro th) H) (hPo : va_P (dC, dI) vwCl [(o9, .inl (cJ, 1, .inr (.inl fo)))] H) (hS : va_S (fun q : Nat => s.heap.size ≤ q) s.heap H locs) (e1 : xs (5 * i9 + 1) = x) (e2 : ¬ xs (5 * i9 + 2) = 0) (ahn : n ≤ 24) (ahk : ¬ vp_in x n) {ls : Array Slot} (hl : lv_has ls 7 [(4, .int (nI (5 * i9))), (0, .ref b), (1, .ref (ad 0)), (2, .ref (am 0)), (3, .ref o9)]) (kk : ∀ (fo2 : Nat → Int64) (H2 : Heap) (locs2 : List Loc) (c2 s2 : Nat), c2 ≤ 38 + i9 → s2 ≤ 1339 + 6 * i9 → va_P (dC, dI) vwCl (wC cI cZ ad sm fe ex dy gp gc op gr st dl wo n yc ya ys yd q zc zp zr zs zf z zm zt) H2 → va_P (dC, dI) vwCl (wM cI cZ am sm fe ex gp gc dy n pe gr st dl wo q yc ya yd ys tp fu sh ro (nI 1)) H2 → va_P (dC, dI) vwCl [(o9, .inl (cJ, 1, .inr (.inl fo2)))] H2 → va_S (fun q : Nat => s.heap.size ≤ q) s.heap H2 locs2 → ∀ ls, lv_has ls 7 [(4, .int (nI (5 * i9))), (0, .ref b), (1, .ref (ad 0)), (2, .ref (am 0)), (3, .ref o9)] → W p l e room_1 s m #[Value.ref b] below meth c H2 locs2 c2 s2 (lw_Z below #[Value.ref b] s) (F0 m 1529 ls [])) : W p l e room_1 s m #[Value.ref b] below meth c H locs cells slots (lw_Z below #[Value.ref b] s) (F0 m 628 ls []) := by
  obtain ⟨hx, hb, hr, hml, hown, hts0, hX, hbl, hlocks, hgv⟩ := id C0
  obtain ⟨⟨hI, hIm⟩, ⟨hoC, hoM, hCM⟩, ⟨hAC, hAM, hAo⟩, hK, hKJ, hN⟩ := id CC
  have hts : ∀ w ∈ wsL_law, w.before #[Value.ref b] s = true := fun w hw => hts0 w (wsL_law_in w hw)
  have hown : s.vm.findClass RL = some m.cls := hown
  have hbA : ¬ (fun q : Nat => s.heap.size ≤ q) b := Nat.not_le.mpr hbl
  have hT : tX (fun q => s.heap.size ≤ q) s H := zz_kT hT0 hS
  refine lv_aload_n hx hb dL_law_628 rfl (lv_at hl 2 rfl) ?_
  refine lv_aload_n hx hb dL_law_629 rfl (lv_at hl 1 rfl) ?_
  refine lv_iload hx hb dL_law_630 (lv_at hl 0 rfl) ?_
  refine lv_iconst (v := nI 1) hx hb dL_law_632 (by decide) ?_
  refine lv_iadd hx hb dL_law_633 ?_
  refine zt_i (y := nI (5 * i9 + 1)) (nI_add _ _) ?_
  refine va_sld hx hb hX hbl hbA hS (vp_in_nI (n := 5 * i9 + 1) (by omega) (by omega)) dL_law_634 ?_
  rw [nI_clamp (show 5 * i9 + 1 < 2 ^ 31 by omega)]
  rw [e1]
  refine lv_aload_n hx hb dL_law_635 rfl (lv_at hl 1 rfl) ?_
  refine lv_iload hx hb dL_law_636 (lv_at hl 0 rfl) ?_
  refine lv_iconst (v := nI 2) hx hb dL_law_638 (by decide) ?_
  refine lv_iadd hx hb dL_law_639 ?_
  refine zt_i (y := nI (5 * i9 + 2)) (nI_add _ _) ?_
  refine va_sld hx hb hX hbl hbA hS (vp_in_nI (n := 5 * i9 + 2) (by omega) (by omega)) dL_law_640 ?_
  rw [nI_clamp (show 5 * i9 + 2 < 2 ^ 31 by omega)]
  refine lv_if_eq (tgt := 648) hx hb dL_law_641 (by decide) (fun h9 => absurd h9 e2) (fun _ => ?_)
  refine lv_iconst (v := nI 1) hx hb dL_law_644 (by decide) ?_
  refine lv_goto (tgt := 649) hx hb dL_law_645 (by decide) ?_
  refine lv_aload_n hx hb dL_law_649 rfl (lv_at hl 4 rfl) ?_
  refine kh_decide_no l hfl (cJ := cJ) (o9 := o9) (fo := fo) (x := x) (b1 := (nI 1)) (hn := ahn) (hk := ahk) hx hb hml hown hts hK hPC gL_law_L_decide ⟨Nat.le_of_ble_eq_true rfl, Nat.le_of_ble_eq_true rfl⟩ ⟨show cells + 1 ≤ 1083 by omega, show slots + 6 ≤ 9657 by omega⟩ hl.1 (Nat.le_of_ble_eq_true rfl) dL_law_650 (hT.narrow (fun _ h => h.elim)) hN hS (fun H2 locs hS hz9 hf => ?_)
  have hPC := zz_kC hI hPC (fun x h1 _ => hf x h1)
  have hPM := zz_kM hIm hPM (fun x h1 _ => hf x h1)
  have hPo := zz_ko hPo (hf _ (zz_lt hPo))
  refine lv_istore (lv' := [(5, .int (nI 1)), (4, .int (nI (5 * i9))), (0, .ref b), (1, .ref (ad 0)), (2, .ref (am 0)), (3, .ref o9)]) hx hb dL_law_653 hl (by decide) rfl (fun ls hl => ?_)
  refine lv_aload_n hx hb dL_law_655 rfl (lv_at hl 4 rfl) ?_
  refine lv_aload_n hx hb dL_law_656 rfl (lv_at hl 2 rfl) ?_
  refine lv_iload hx hb dL_law_657 (lv_at hl 1 rfl) ?_
  refine lv_iconst (v := nI 1) hx hb dL_law_659 (by decide) ?_
  refine lv_iadd hx hb dL_law_660 ?_
  refine zt_i (y := nI (5 * i9 + 1)) (nI_add _ _) ?_
  refine va_sld hx hb hX hbl hbA hS (vp_in_nI (n := 5 * i9 + 1) (by omega) (by omega)) dL_law_661 ?_
  rw [nI_clamp (show 5 * i9 + 1 < 2 ^ 31 by omega)]
  rw [e1]
  refine lv_aload_n hx hb dL_law_662 rfl (lv_at hl 2 rfl) ?_
  refine lv_iload hx hb dL_law_663 (lv_at hl 1 rfl) ?_
  refine lv_iconst (v := nI 2) hx hb dL_law_665 (by decide) ?_
  refine lv_iadd hx hb dL_law_666 ?_
  refine zt_i (y := nI (5 * i9 + 2)) (nI_add _ _) ?_
  refine va_sld hx hb hX hbl hbA hS (vp_in_nI (n := 5 * i9 + 2) (by omega) (by omega)) dL_law_667 ?_
  rw [nI_clamp (show 5 * i9 + 2 < 2 ^ 31 by omega)]
  refine lv_if_eq (tgt := 675) hx hb dL_law_668 (by decide) (fun h9 => absurd h9 e2) (fun _ => ?_)
  refine lv_iconst (v := nI 1) hx hb dL_law_671 (by decide) ?_
  refine lv_goto (tgt := 676) hx hb dL_law_672 (by decide) ?_
  refine k_X4_decide_no l (x := x) (b1 := (nI 1)) (hn := ahn) (hk := ahk) hx hb hml hown hts hK hPM gL_law_X4_decide ⟨Nat.le_of_ble_eq_true rfl, Nat.le_of_ble_eq_true rfl⟩ ⟨show cells + 1 ≤ 1083 by omega, show slots + 6 ≤ 9657 by omega⟩ hl.1 (Nat.le_of_ble_eq_true rfl) dL_law_676 hIm hAM hS (fun H2 locs hPM hS hf => ?_)
  have hPC := zz_kC hI hPC (fun x h1 h2 => hf x h1 (fun h3 => hCM x h2 h3))
  have hPo := zz_ko hPo (hf _ (zz_lt hPo) hoM)
  refine lv_istore (lv' := [(6, .int (nI 0)), (5, .int (nI 1)), (4, .int (nI (5 * i9))), (0, .ref b), (1, .ref (ad 0)), (2, .ref (am 0)), (3, .ref o9)]) hx hb dL_law_679 hl (by decide) rfl (fun ls hl => ?_)
  refine lv_aload_n hx hb dL_law_681 rfl (lv_at hl 5 rfl) ?_
  refine k_X4_thrown l hx hb hml hown hts hK hPM gL_law_X4_thrown ⟨Nat.le_of_ble_eq_true rfl, Nat.le_of_ble_eq_true rfl⟩ ⟨show cells + 1 ≤ 1083 by omega, show slots + 6 ≤ 9657 by omega⟩ hl.1 (Nat.le_of_ble_eq_true rfl) dL_law_682 ?_
  refine lv_iload hx hb dL_law_685 (lv_at hl 1 rfl) ?_
  refine lv_icmp_eq (tgt := 692) hx hb dL_law_687 (by decide) (fun _ => ?_) (fun h9 => absurd rfl h9)
  refine lv_iload hx hb dL_law_692 (lv_at hl 1 rfl) ?_
  refine lv_if_ne (tgt := 709) hx hb dL_law_694 (by decide) (fun _ => ?_) (fun h9 => absurd h9 (by decide))
  refine lv_goto (tgt := 1529) hx hb dL_law_709 (by decide) ?_
  exact kk _ _ _ _ _ (by omega) (by omega) hPC hPM hPo hS ls (lv_sub hl [2, 3, 4, 5, 6] rfl)
set_option maxHeartbeats 4000000 in
set_option maxRecDepth 100000 in
theorem lo_decide_ise_0 {p : Program} {e : Env} {s : State} {m : MethodId} {below : List Frame} {meth : Method} {c : Code} (l : Launch) (hfl : l.stackTraces = false) {b L : Nat} {xs : Nat → Int32} (C0 : lw_At p s m meth c b L xs) {dC : Nat → ClassId} {dI : Nat → Nat → Nat} {cI cZ cJ : ClassId} {ad am : Nat → Nat} {o9 : Nat} (CC : lwC dC dI cI cZ cJ ad am o9 s) (hT0 : tX (fun q => s.heap.size ≤ q) s s.heap) {sm fe ex dy : Int32} {gp gc op gr st dl wo : Nat → Int32} {n : Nat} {yc ya ys yd : Nat → Int32} {q : Nat} {zc zp zr zs zf : Nat → Int32} {z : Nat} {zm zt : Int64} {pe tp fu sh ro : Nat → Int32} {th : Int32} {fo : Nat → Int64} {k : Nat} {i9 : Nat} (hi9 : 5 * i9 + 5 ≤ L) (hL9 : L ≤ 2560) {H : Heap} {locs : List Loc} {cells slots : Nat} (hc1 : cells ≤ 37 + i9) (hs1 : slots ≤ 1333 + 6 * i9) (hPC : va_P (dC, dI) vwCl (wC cI cZ ad sm fe ex dy gp gc op gr st dl wo n yc ya ys yd q zc zp zr zs zf z zm zt) H) (hPM : va_P (dC, dI) vwCl (wM cI cZ am sm fe ex gp gc dy n pe gr st dl wo q yc ya yd ys tp fu sh ro th) H) (hPo : va_P (dC, dI) vwCl [(o9, .inl (cJ, 1, .inr (.inl fo)))] H) (hS : va_S (fun q : Nat => s.heap.size ≤ q) s.heap H locs) (e1 : xs (5 * i9 + 1) = nI k) (e2 : xs (5 * i9 + 2) = 0) (ahn : n ≤ 24) (ahk : k < n) (ah1 : ¬ st k = nI 3) {ls : Array Slot} (hl : lv_has ls 7 [(4, .int (nI (5 * i9))), (0, .ref b), (1, .ref (ad 0)), (2, .ref (am 0)), (3, .ref o9)]) (kk : ∀ (fo2 : Nat → Int64) (H2 : Heap) (locs2 : List Loc) (c2 s2 : Nat), c2 ≤ 38 + i9 → s2 ≤ 1339 + 6 * i9 → va_P (dC, dI) vwCl (wC cI cZ ad sm fe ex dy gp gc op gr st dl wo n yc ya ys yd q zc zp zr zs zf z zm zt) H2 → va_P (dC, dI) vwCl (wM cI cZ am sm fe ex gp gc dy n pe gr st dl wo q yc ya yd ys tp fu sh ro (nI 2)) H2 → va_P (dC, dI) vwCl [(o9, .inl (cJ, 1, .inr (.inl fo2)))] H2 → va_S (fun q : Nat => s.heap.size ≤ q) s.heap H2 locs2 → ∀ ls, lv_has ls 7 [(4, .int (nI (5 * i9))), (0, .ref b), (1, .ref (ad 0)), (2, .ref (am 0)), (3, .ref o9)] → W p l e room_1 s m #[Value.ref b] below meth c H2 locs2 c2 s2 (lw_Z below #[Value.ref b] s) (F0 m 1529 ls [])) : W p l e room_1 s m #[Value.ref b] below meth c H locs cells slots (lw_Z below #[Value.ref b] s) (F0 m 628 ls []) := by
  obtain ⟨hx, hb, hr, hml, hown, hts0, hX, hbl, hlocks, hgv⟩ := id C0
  obtain ⟨⟨hI, hIm⟩, ⟨hoC, hoM, hCM⟩, ⟨hAC, hAM, hAo⟩, hK, hKJ, hN⟩ := id CC
  have hts : ∀ w ∈ wsL_law, w.before #[Value.ref b] s = true := fun w hw => hts0 w (wsL_law_in w hw)
  have hown : s.vm.findClass RL = some m.cls := hown
  have hbA : ¬ (fun q : Nat => s.heap.size ≤ q) b := Nat.not_le.mpr hbl
  have hT : tX (fun q => s.heap.size ≤ q) s H := zz_kT hT0 hS
  refine lv_aload_n hx hb dL_law_628 rfl (lv_at hl 2 rfl) ?_
  refine lv_aload_n hx hb dL_law_629 rfl (lv_at hl 1 rfl) ?_
  refine lv_iload hx hb dL_law_630 (lv_at hl 0 rfl) ?_
  refine lv_iconst (v := nI 1) hx hb dL_law_632 (by decide) ?_
  refine lv_iadd hx hb dL_law_633 ?_
  refine zt_i (y := nI (5 * i9 + 1)) (nI_add _ _) ?_
  refine va_sld hx hb hX hbl hbA hS (vp_in_nI (n := 5 * i9 + 1) (by omega) (by omega)) dL_law_634 ?_
  rw [nI_clamp (show 5 * i9 + 1 < 2 ^ 31 by omega)]
  rw [e1]
  refine lv_aload_n hx hb dL_law_635 rfl (lv_at hl 1 rfl) ?_
  refine lv_iload hx hb dL_law_636 (lv_at hl 0 rfl) ?_
  refine lv_iconst (v := nI 2) hx hb dL_law_638 (by decide) ?_
  refine lv_iadd hx hb dL_law_639 ?_
  refine zt_i (y := nI (5 * i9 + 2)) (nI_add _ _) ?_
  refine va_sld hx hb hX hbl hbA hS (vp_in_nI (n := 5 * i9 + 2) (by omega) (by omega)) dL_law_640 ?_
  rw [nI_clamp (show 5 * i9 + 2 < 2 ^ 31 by omega)]
  refine lv_if_eq (tgt := 648) hx hb dL_law_641 (by decide) (fun _ => ?_) (fun h9 => absurd e2 h9)
  refine lv_iconst (v := nI 0) hx hb dL_law_648 (by decide) ?_
  refine lv_aload_n hx hb dL_law_649 rfl (lv_at hl 4 rfl) ?_
  refine kh_decide_ise l hfl (cJ := cJ) (o9 := o9) (fo := fo) (k := k) (b := (nI 0)) (hn := ahn) (hk := ahk) (h1 := ah1) hx hb hml hown hts hK hPC gL_law_L_decide ⟨Nat.le_of_ble_eq_true rfl, Nat.le_of_ble_eq_true rfl⟩ ⟨show cells + 1 ≤ 1083 by omega, show slots + 6 ≤ 9657 by omega⟩ hl.1 (Nat.le_of_ble_eq_true rfl) dL_law_650 (hT.narrow (fun _ h => h.elim)) hN hS (fun H2 locs hS hz9 hf => ?_)
  have hPC := zz_kC hI hPC (fun x h1 _ => hf x h1)
  have hPM := zz_kM hIm hPM (fun x h1 _ => hf x h1)
  have hPo := zz_ko hPo (hf _ (zz_lt hPo))
  refine lv_istore (lv' := [(5, .int (nI 2)), (4, .int (nI (5 * i9))), (0, .ref b), (1, .ref (ad 0)), (2, .ref (am 0)), (3, .ref o9)]) hx hb dL_law_653 hl (by decide) rfl (fun ls hl => ?_)
  refine lv_aload_n hx hb dL_law_655 rfl (lv_at hl 4 rfl) ?_
  refine lv_aload_n hx hb dL_law_656 rfl (lv_at hl 2 rfl) ?_
  refine lv_iload hx hb dL_law_657 (lv_at hl 1 rfl) ?_
  refine lv_iconst (v := nI 1) hx hb dL_law_659 (by decide) ?_
  refine lv_iadd hx hb dL_law_660 ?_
  refine zt_i (y := nI (5 * i9 + 1)) (nI_add _ _) ?_
  refine va_sld hx hb hX hbl hbA hS (vp_in_nI (n := 5 * i9 + 1) (by omega) (by omega)) dL_law_661 ?_
  rw [nI_clamp (show 5 * i9 + 1 < 2 ^ 31 by omega)]
  rw [e1]
  refine lv_aload_n hx hb dL_law_662 rfl (lv_at hl 2 rfl) ?_
  refine lv_iload hx hb dL_law_663 (lv_at hl 1 rfl) ?_
  refine lv_iconst (v := nI 2) hx hb dL_law_665 (by decide) ?_
  refine lv_iadd hx hb dL_law_666 ?_
  refine zt_i (y := nI (5 * i9 + 2)) (nI_add _ _) ?_
  refine va_sld hx hb hX hbl hbA hS (vp_in_nI (n := 5 * i9 + 2) (by omega) (by omega)) dL_law_667 ?_
  rw [nI_clamp (show 5 * i9 + 2 < 2 ^ 31 by omega)]
  refine lv_if_eq (tgt := 675) hx hb dL_law_668 (by decide) (fun _ => ?_) (fun h9 => absurd e2 h9)
  refine lv_iconst (v := nI 0) hx hb dL_law_675 (by decide) ?_
  refine k_X4_decide_2 l (k := k) (b := (nI 0)) (hn := ahn) (hk := ahk) (h1 := ah1) hx hb hml hown hts hK hPM gL_law_X4_decide ⟨Nat.le_of_ble_eq_true rfl, Nat.le_of_ble_eq_true rfl⟩ ⟨show cells + 1 ≤ 1083 by omega, show slots + 6 ≤ 9657 by omega⟩ hl.1 (Nat.le_of_ble_eq_true rfl) dL_law_676 hIm hAM hS (fun H2 locs hPM hS hf => ?_)
  have hPC := zz_kC hI hPC (fun x h1 h2 => hf x h1 (fun h3 => hCM x h2 h3))
  have hPo := zz_ko hPo (hf _ (zz_lt hPo) hoM)
  refine lv_istore (lv' := [(6, .int (nI 0)), (5, .int (nI 2)), (4, .int (nI (5 * i9))), (0, .ref b), (1, .ref (ad 0)), (2, .ref (am 0)), (3, .ref o9)]) hx hb dL_law_679 hl (by decide) rfl (fun ls hl => ?_)
  refine lv_aload_n hx hb dL_law_681 rfl (lv_at hl 5 rfl) ?_
  refine k_X4_thrown l hx hb hml hown hts hK hPM gL_law_X4_thrown ⟨Nat.le_of_ble_eq_true rfl, Nat.le_of_ble_eq_true rfl⟩ ⟨show cells + 1 ≤ 1083 by omega, show slots + 6 ≤ 9657 by omega⟩ hl.1 (Nat.le_of_ble_eq_true rfl) dL_law_682 ?_
  refine lv_iload hx hb dL_law_685 (lv_at hl 1 rfl) ?_
  refine lv_icmp_eq (tgt := 692) hx hb dL_law_687 (by decide) (fun _ => ?_) (fun h9 => absurd rfl h9)
  refine lv_iload hx hb dL_law_692 (lv_at hl 1 rfl) ?_
  refine lv_if_ne (tgt := 709) hx hb dL_law_694 (by decide) (fun _ => ?_) (fun h9 => absurd h9 (by decide))
  refine lv_goto (tgt := 1529) hx hb dL_law_709 (by decide) ?_
  exact kk _ _ _ _ _ (by omega) (by omega) hPC hPM hPo hS ls (lv_sub hl [2, 3, 4, 5, 6] rfl)
set_option maxHeartbeats 4000000 in
set_option maxRecDepth 100000 in
theorem lo_decide_ise_1 {p : Program} {e : Env} {s : State} {m : MethodId} {below : List Frame} {meth : Method} {c : Code} (l : Launch) (hfl : l.stackTraces = false) {b L : Nat} {xs : Nat → Int32} (C0 : lw_At p s m meth c b L xs) {dC : Nat → ClassId} {dI : Nat → Nat → Nat} {cI cZ cJ : ClassId} {ad am : Nat → Nat} {o9 : Nat} (CC : lwC dC dI cI cZ cJ ad am o9 s) (hT0 : tX (fun q => s.heap.size ≤ q) s s.heap) {sm fe ex dy : Int32} {gp gc op gr st dl wo : Nat → Int32} {n : Nat} {yc ya ys yd : Nat → Int32} {q : Nat} {zc zp zr zs zf : Nat → Int32} {z : Nat} {zm zt : Int64} {pe tp fu sh ro : Nat → Int32} {th : Int32} {fo : Nat → Int64} {k : Nat} {i9 : Nat} (hi9 : 5 * i9 + 5 ≤ L) (hL9 : L ≤ 2560) {H : Heap} {locs : List Loc} {cells slots : Nat} (hc1 : cells ≤ 37 + i9) (hs1 : slots ≤ 1333 + 6 * i9) (hPC : va_P (dC, dI) vwCl (wC cI cZ ad sm fe ex dy gp gc op gr st dl wo n yc ya ys yd q zc zp zr zs zf z zm zt) H) (hPM : va_P (dC, dI) vwCl (wM cI cZ am sm fe ex gp gc dy n pe gr st dl wo q yc ya yd ys tp fu sh ro th) H) (hPo : va_P (dC, dI) vwCl [(o9, .inl (cJ, 1, .inr (.inl fo)))] H) (hS : va_S (fun q : Nat => s.heap.size ≤ q) s.heap H locs) (e1 : xs (5 * i9 + 1) = nI k) (e2 : ¬ xs (5 * i9 + 2) = 0) (ahn : n ≤ 24) (ahk : k < n) (ah1 : ¬ st k = nI 3) {ls : Array Slot} (hl : lv_has ls 7 [(4, .int (nI (5 * i9))), (0, .ref b), (1, .ref (ad 0)), (2, .ref (am 0)), (3, .ref o9)]) (kk : ∀ (fo2 : Nat → Int64) (H2 : Heap) (locs2 : List Loc) (c2 s2 : Nat), c2 ≤ 38 + i9 → s2 ≤ 1339 + 6 * i9 → va_P (dC, dI) vwCl (wC cI cZ ad sm fe ex dy gp gc op gr st dl wo n yc ya ys yd q zc zp zr zs zf z zm zt) H2 → va_P (dC, dI) vwCl (wM cI cZ am sm fe ex gp gc dy n pe gr st dl wo q yc ya yd ys tp fu sh ro (nI 2)) H2 → va_P (dC, dI) vwCl [(o9, .inl (cJ, 1, .inr (.inl fo2)))] H2 → va_S (fun q : Nat => s.heap.size ≤ q) s.heap H2 locs2 → ∀ ls, lv_has ls 7 [(4, .int (nI (5 * i9))), (0, .ref b), (1, .ref (ad 0)), (2, .ref (am 0)), (3, .ref o9)] → W p l e room_1 s m #[Value.ref b] below meth c H2 locs2 c2 s2 (lw_Z below #[Value.ref b] s) (F0 m 1529 ls [])) : W p l e room_1 s m #[Value.ref b] below meth c H locs cells slots (lw_Z below #[Value.ref b] s) (F0 m 628 ls []) := by
  obtain ⟨hx, hb, hr, hml, hown, hts0, hX, hbl, hlocks, hgv⟩ := id C0
  obtain ⟨⟨hI, hIm⟩, ⟨hoC, hoM, hCM⟩, ⟨hAC, hAM, hAo⟩, hK, hKJ, hN⟩ := id CC
  have hts : ∀ w ∈ wsL_law, w.before #[Value.ref b] s = true := fun w hw => hts0 w (wsL_law_in w hw)
  have hown : s.vm.findClass RL = some m.cls := hown
  have hbA : ¬ (fun q : Nat => s.heap.size ≤ q) b := Nat.not_le.mpr hbl
  have hT : tX (fun q => s.heap.size ≤ q) s H := zz_kT hT0 hS
  refine lv_aload_n hx hb dL_law_628 rfl (lv_at hl 2 rfl) ?_
  refine lv_aload_n hx hb dL_law_629 rfl (lv_at hl 1 rfl) ?_
  refine lv_iload hx hb dL_law_630 (lv_at hl 0 rfl) ?_
  refine lv_iconst (v := nI 1) hx hb dL_law_632 (by decide) ?_
  refine lv_iadd hx hb dL_law_633 ?_
  refine zt_i (y := nI (5 * i9 + 1)) (nI_add _ _) ?_
  refine va_sld hx hb hX hbl hbA hS (vp_in_nI (n := 5 * i9 + 1) (by omega) (by omega)) dL_law_634 ?_
  rw [nI_clamp (show 5 * i9 + 1 < 2 ^ 31 by omega)]
  rw [e1]
  refine lv_aload_n hx hb dL_law_635 rfl (lv_at hl 1 rfl) ?_
  refine lv_iload hx hb dL_law_636 (lv_at hl 0 rfl) ?_
  refine lv_iconst (v := nI 2) hx hb dL_law_638 (by decide) ?_
  refine lv_iadd hx hb dL_law_639 ?_
  refine zt_i (y := nI (5 * i9 + 2)) (nI_add _ _) ?_
  refine va_sld hx hb hX hbl hbA hS (vp_in_nI (n := 5 * i9 + 2) (by omega) (by omega)) dL_law_640 ?_
  rw [nI_clamp (show 5 * i9 + 2 < 2 ^ 31 by omega)]
  refine lv_if_eq (tgt := 648) hx hb dL_law_641 (by decide) (fun h9 => absurd h9 e2) (fun _ => ?_)
  refine lv_iconst (v := nI 1) hx hb dL_law_644 (by decide) ?_
  refine lv_goto (tgt := 649) hx hb dL_law_645 (by decide) ?_
  refine lv_aload_n hx hb dL_law_649 rfl (lv_at hl 4 rfl) ?_
  refine kh_decide_ise l hfl (cJ := cJ) (o9 := o9) (fo := fo) (k := k) (b := (nI 1)) (hn := ahn) (hk := ahk) (h1 := ah1) hx hb hml hown hts hK hPC gL_law_L_decide ⟨Nat.le_of_ble_eq_true rfl, Nat.le_of_ble_eq_true rfl⟩ ⟨show cells + 1 ≤ 1083 by omega, show slots + 6 ≤ 9657 by omega⟩ hl.1 (Nat.le_of_ble_eq_true rfl) dL_law_650 (hT.narrow (fun _ h => h.elim)) hN hS (fun H2 locs hS hz9 hf => ?_)
  have hPC := zz_kC hI hPC (fun x h1 _ => hf x h1)
  have hPM := zz_kM hIm hPM (fun x h1 _ => hf x h1)
  have hPo := zz_ko hPo (hf _ (zz_lt hPo))
  refine lv_istore (lv' := [(5, .int (nI 2)), (4, .int (nI (5 * i9))), (0, .ref b), (1, .ref (ad 0)), (2, .ref (am 0)), (3, .ref o9)]) hx hb dL_law_653 hl (by decide) rfl (fun ls hl => ?_)
  refine lv_aload_n hx hb dL_law_655 rfl (lv_at hl 4 rfl) ?_
  refine lv_aload_n hx hb dL_law_656 rfl (lv_at hl 2 rfl) ?_
  refine lv_iload hx hb dL_law_657 (lv_at hl 1 rfl) ?_
  refine lv_iconst (v := nI 1) hx hb dL_law_659 (by decide) ?_
  refine lv_iadd hx hb dL_law_660 ?_
  refine zt_i (y := nI (5 * i9 + 1)) (nI_add _ _) ?_
  refine va_sld hx hb hX hbl hbA hS (vp_in_nI (n := 5 * i9 + 1) (by omega) (by omega)) dL_law_661 ?_
  rw [nI_clamp (show 5 * i9 + 1 < 2 ^ 31 by omega)]
  rw [e1]
  refine lv_aload_n hx hb dL_law_662 rfl (lv_at hl 2 rfl) ?_
  refine lv_iload hx hb dL_law_663 (lv_at hl 1 rfl) ?_
  refine lv_iconst (v := nI 2) hx hb dL_law_665 (by decide) ?_
  refine lv_iadd hx hb dL_law_666 ?_
  refine zt_i (y := nI (5 * i9 + 2)) (nI_add _ _) ?_
  refine va_sld hx hb hX hbl hbA hS (vp_in_nI (n := 5 * i9 + 2) (by omega) (by omega)) dL_law_667 ?_
  rw [nI_clamp (show 5 * i9 + 2 < 2 ^ 31 by omega)]
  refine lv_if_eq (tgt := 675) hx hb dL_law_668 (by decide) (fun h9 => absurd h9 e2) (fun _ => ?_)
  refine lv_iconst (v := nI 1) hx hb dL_law_671 (by decide) ?_
  refine lv_goto (tgt := 676) hx hb dL_law_672 (by decide) ?_
  refine k_X4_decide_2 l (k := k) (b := (nI 1)) (hn := ahn) (hk := ahk) (h1 := ah1) hx hb hml hown hts hK hPM gL_law_X4_decide ⟨Nat.le_of_ble_eq_true rfl, Nat.le_of_ble_eq_true rfl⟩ ⟨show cells + 1 ≤ 1083 by omega, show slots + 6 ≤ 9657 by omega⟩ hl.1 (Nat.le_of_ble_eq_true rfl) dL_law_676 hIm hAM hS (fun H2 locs hPM hS hf => ?_)
  have hPC := zz_kC hI hPC (fun x h1 h2 => hf x h1 (fun h3 => hCM x h2 h3))
  have hPo := zz_ko hPo (hf _ (zz_lt hPo) hoM)
  refine lv_istore (lv' := [(6, .int (nI 0)), (5, .int (nI 2)), (4, .int (nI (5 * i9))), (0, .ref b), (1, .ref (ad 0)), (2, .ref (am 0)), (3, .ref o9)]) hx hb dL_law_679 hl (by decide) rfl (fun ls hl => ?_)
  refine lv_aload_n hx hb dL_law_681 rfl (lv_at hl 5 rfl) ?_
  refine k_X4_thrown l hx hb hml hown hts hK hPM gL_law_X4_thrown ⟨Nat.le_of_ble_eq_true rfl, Nat.le_of_ble_eq_true rfl⟩ ⟨show cells + 1 ≤ 1083 by omega, show slots + 6 ≤ 9657 by omega⟩ hl.1 (Nat.le_of_ble_eq_true rfl) dL_law_682 ?_
  refine lv_iload hx hb dL_law_685 (lv_at hl 1 rfl) ?_
  refine lv_icmp_eq (tgt := 692) hx hb dL_law_687 (by decide) (fun _ => ?_) (fun h9 => absurd rfl h9)
  refine lv_iload hx hb dL_law_692 (lv_at hl 1 rfl) ?_
  refine lv_if_ne (tgt := 709) hx hb dL_law_694 (by decide) (fun _ => ?_) (fun h9 => absurd h9 (by decide))
  refine lv_goto (tgt := 1529) hx hb dL_law_709 (by decide) ?_
  exact kk _ _ _ _ _ (by omega) (by omega) hPC hPM hPo hS ls (lv_sub hl [2, 3, 4, 5, 6] rfl)
set_option maxHeartbeats 4000000 in
set_option maxRecDepth 100000 in
theorem lo_round_ok {p : Program} {e : Env} {s : State} {m : MethodId} {below : List Frame} {meth : Method} {c : Code} (l : Launch) (hfl : l.stackTraces = false) {b L : Nat} {xs : Nat → Int32} (C0 : lw_At p s m meth c b L xs) {dC : Nat → ClassId} {dI : Nat → Nat → Nat} {cI cZ cJ : ClassId} {ad am : Nat → Nat} {o9 : Nat} (CC : lwC dC dI cI cZ cJ ad am o9 s) (hT0 : tX (fun q => s.heap.size ≤ q) s s.heap) {sm fe ex dy : Int32} {gp gc op gr st dl wo : Nat → Int32} {n : Nat} {yc ya ys yd : Nat → Int32} {q : Nat} {zc zp zr zs zf : Nat → Int32} {z : Nat} {zm zt : Int64} {pe tp fu sh ro : Nat → Int32} {th : Int32} {fo : Nat → Int64} {le : Nat} {i9 : Nat} (hi9 : 5 * i9 + 5 ≤ L) (hL9 : L ≤ 2560) {H : Heap} {locs : List Loc} {cells slots : Nat} (hc1 : cells ≤ 37 + i9) (hs1 : slots ≤ 1333 + 6 * i9) (hPC : va_P (dC, dI) vwCl (wC cI cZ ad sm fe ex dy gp gc op gr st dl wo n yc ya ys yd q zc zp zr zs zf z zm zt) H) (hPM : va_P (dC, dI) vwCl (wM cI cZ am sm fe ex gp gc dy n pe gr st dl wo q yc ya yd ys tp fu sh ro th) H) (hPo : va_P (dC, dI) vwCl [(o9, .inl (cJ, 1, .inr (.inl fo)))] H) (hS : va_S (fun q : Nat => s.heap.size ≤ q) s.heap H locs) (e1 : xs (5 * i9 + 1) = nI le) (ahn : n ≤ 24) (ahq : q ≤ 100) (ahV : claimV gp gc gr yc ya ys q n) (ahL : leftV sm fe ex ya ys q) (ahle : le ≤ 100000) (ah1 : outN (nI le) (nI 0) (nI 100000) = 0) (ah2 : tallyN st (nI 1) n = 0) (ah3 : tallyN st (nI 3) n = 0) (ah4 : openB ys q = false) (ah5 : nI 1 ≤ leftF sm fe ex ya ys q) (ah6 : q + gain (shK sm fe ex gp gc gr st yc ya ys n q le) n ≤ 100) {ls : Array Slot} (hl : lv_has ls 7 [(4, .int (nI (5 * i9))), (0, .ref b), (1, .ref (ad 0)), (2, .ref (am 0)), (3, .ref o9)]) (kk : ∀ (u9 : (Nat → Int32) × (Nat → Int32) × (Nat → Int32) × (Nat → Int32) × (Nat → Int32) × Nat × Int64 × Int64) (v9 : (Nat → Int32) × (Nat → Int32) × (Nat → Int32) × (Nat → Int32)) (fo2 : Nat → Int64) (H2 : Heap) (locs2 : List Loc) (c2 s2 : Nat), c2 ≤ 38 + i9 → s2 ≤ 1339 + 6 * i9 → va_P (dC, dI) vwCl (wC cI cZ ad sm fe ex dy gp gc op gr st dl wo n ((payF dy (shK sm fe ex gp gc gr st yc ya ys n q le) yc ya ys yd q n).1) ((payF dy (shK sm fe ex gp gc gr st yc ya ys n q le) yc ya ys yd q n).2.1) ((payF dy (shK sm fe ex gp gc gr st yc ya ys n q le) yc ya ys yd q n).2.2.1) ((payF dy (shK sm fe ex gp gc gr st yc ya ys n q le) yc ya ys yd q n).2.2.2.1) ((payF dy (shK sm fe ex gp gc gr st yc ya ys n q le) yc ya ys yd q n).2.2.2.2) u9.1 u9.2.1 u9.2.2.1 u9.2.2.2.1 u9.2.2.2.2.1 u9.2.2.2.2.2.1 u9.2.2.2.2.2.2.1 u9.2.2.2.2.2.2.2) H2 → va_P (dC, dI) vwCl (wM cI cZ am sm fe ex gp gc dy n pe gr st dl wo ((payF dy (shK sm fe ex gp gc gr st yc ya ys n q le) yc ya ys yd q n).2.2.2.2) ((payF dy (shK sm fe ex gp gc gr st yc ya ys n q le) yc ya ys yd q n).1) ((payF dy (shK sm fe ex gp gc gr st yc ya ys n q le) yc ya ys yd q n).2.1) ((payF dy (shK sm fe ex gp gc gr st yc ya ys n q le) yc ya ys yd q n).2.2.2.1) ((payF dy (shK sm fe ex gp gc gr st yc ya ys n q le) yc ya ys yd q n).2.2.1) v9.1 v9.2.1 v9.2.2.1 v9.2.2.2 (nI 0)) H2 → va_P (dC, dI) vwCl [(o9, .inl (cJ, 1, .inr (.inl fo2)))] H2 → va_S (fun q : Nat => s.heap.size ≤ q) s.heap H2 locs2 → ∀ ls, lv_has ls 7 [(4, .int (nI (5 * i9))), (0, .ref b), (1, .ref (ad 0)), (2, .ref (am 0)), (3, .ref o9)] → W p l e room_1 s m #[Value.ref b] below meth c H2 locs2 c2 s2 (lw_Z below #[Value.ref b] s) (F0 m 1529 ls [])) : W p l e room_1 s m #[Value.ref b] below meth c H locs cells slots (lw_Z below #[Value.ref b] s) (F0 m 712 ls []) := by
  obtain ⟨hx, hb, hr, hml, hown, hts0, hX, hbl, hlocks, hgv⟩ := id C0
  obtain ⟨⟨hI, hIm⟩, ⟨hoC, hoM, hCM⟩, ⟨hAC, hAM, hAo⟩, hK, hKJ, hN⟩ := id CC
  have hts : ∀ w ∈ wsL_law, w.before #[Value.ref b] s = true := fun w hw => hts0 w (wsL_law_in w hw)
  have hown : s.vm.findClass RL = some m.cls := hown
  have hbA : ¬ (fun q : Nat => s.heap.size ≤ q) b := Nat.not_le.mpr hbl
  have hT : tX (fun q => s.heap.size ≤ q) s H := zz_kT hT0 hS
  refine lv_aload_n hx hb dL_law_712 rfl (lv_at hl 2 rfl) ?_
  refine lv_aload_n hx hb dL_law_713 rfl (lv_at hl 1 rfl) ?_
  refine lv_iload hx hb dL_law_714 (lv_at hl 0 rfl) ?_
  refine lv_iconst (v := nI 1) hx hb dL_law_716 (by decide) ?_
  refine lv_iadd hx hb dL_law_717 ?_
  refine zt_i (y := nI (5 * i9 + 1)) (nI_add _ _) ?_
  refine va_sld hx hb hX hbl hbA hS (vp_in_nI (n := 5 * i9 + 1) (by omega) (by omega)) dL_law_718 ?_
  rw [nI_clamp (show 5 * i9 + 1 < 2 ^ 31 by omega)]
  rw [e1]
  refine lv_aload_n hx hb dL_law_719 rfl (lv_at hl 4 rfl) ?_
  refine kh_round_ok l (cJ := cJ) (o9 := o9) (fo := fo) (le := le) (hn := ahn) (hq := ahq) (hV := ahV) (hL := ahL) (hle := ahle) (h1 := ah1) (h2 := ah2) (h3 := ah3) (h4 := ah4) (h5 := ah5) (h6 := ah6) hx hb hml hown hts hK hPC gL_law_L_round ⟨Nat.le_of_ble_eq_true rfl, Nat.le_of_ble_eq_true rfl⟩ ⟨show cells + 0 ≤ 1083 by omega, show slots + 0 ≤ 9657 by omega⟩ hl.1 (Nat.le_of_ble_eq_true rfl) dL_law_720 hI hoC hPo hKJ (fun x h => h.elim (hAC x) (fun h => by rw [h]; exact hAo)) hS (fun u9 H2 locs hPC fo hf9 hPo hS hz9 hf => ?_)
  have hPM := zz_kM hIm hPM (fun x h1 h2 => hf x h1 (fun h3 => h3.elim (fun h3 => hCM x h3 h2) (fun h3 => hoM (by rw [← h3]; exact h2))))
  refine lv_istore (lv' := [(5, .int (nI 0)), (4, .int (nI (5 * i9))), (0, .ref b), (1, .ref (ad 0)), (2, .ref (am 0)), (3, .ref o9)]) hx hb dL_law_723 hl (by decide) rfl (fun ls hl => ?_)
  refine lv_aload_n hx hb dL_law_725 rfl (lv_at hl 4 rfl) ?_
  refine lv_aload_n hx hb dL_law_726 rfl (lv_at hl 2 rfl) ?_
  refine lv_iload hx hb dL_law_727 (lv_at hl 1 rfl) ?_
  refine lv_iconst (v := nI 1) hx hb dL_law_729 (by decide) ?_
  refine lv_iadd hx hb dL_law_730 ?_
  refine zt_i (y := nI (5 * i9 + 1)) (nI_add _ _) ?_
  refine va_sld hx hb hX hbl hbA hS (vp_in_nI (n := 5 * i9 + 1) (by omega) (by omega)) dL_law_731 ?_
  rw [nI_clamp (show 5 * i9 + 1 < 2 ^ 31 by omega)]
  rw [e1]
  refine k_X4_round_ok l (le := le) (hn := ahn) (hq := ahq) (hV := ahV) (hL := ahL) (hle := ahle) (h1 := ah1) (h2 := ah2) (h3 := ah3) (h4 := ah4) (h5 := ah5) (h6 := ah6) hx hb hml hown hts hK hPM gL_law_X4_round ⟨Nat.le_of_ble_eq_true rfl, Nat.le_of_ble_eq_true rfl⟩ ⟨show cells + 0 ≤ 1083 by omega, show slots + 0 ≤ 9657 by omega⟩ hl.1 (Nat.le_of_ble_eq_true rfl) dL_law_732 hIm hAM hS (fun v9 _ H2 locs hPM hS hf => ?_)
  have hPC := zz_kC hI hPC (fun x h1 h2 => hf x h1 (fun h3 => hCM x h2 h3))
  have hPo := zz_ko hPo (hf _ (zz_lt hPo) hoM)
  refine lv_istore (lv' := [(6, .int (nI (gain (shK sm fe ex gp gc gr st yc ya ys n q le) n))), (5, .int (nI 0)), (4, .int (nI (5 * i9))), (0, .ref b), (1, .ref (ad 0)), (2, .ref (am 0)), (3, .ref o9)]) hx hb dL_law_735 hl (by decide) rfl (fun ls hl => ?_)
  refine lv_aload_n hx hb dL_law_737 rfl (lv_at hl 5 rfl) ?_
  refine k_X4_thrown l hx hb hml hown hts hK hPM gL_law_X4_thrown ⟨Nat.le_of_ble_eq_true rfl, Nat.le_of_ble_eq_true rfl⟩ ⟨show cells + 0 ≤ 1083 by omega, show slots + 0 ≤ 9657 by omega⟩ hl.1 (Nat.le_of_ble_eq_true rfl) dL_law_738 ?_
  refine lv_iload hx hb dL_law_741 (lv_at hl 1 rfl) ?_
  refine lv_icmp_eq (tgt := 748) hx hb dL_law_743 (by decide) (fun _ => ?_) (fun h9 => absurd rfl h9)
  refine lv_iload hx hb dL_law_748 (lv_at hl 1 rfl) ?_
  refine lv_if_ne (tgt := 765) hx hb dL_law_750 (by decide) (fun h9 => absurd (by decide) h9) (fun _ => ?_)
  refine lv_aload_n hx hb dL_law_753 rfl (lv_at hl 6 rfl) ?_
  refine lv_iconst (v := nI 0) hx hb dL_law_754 (by decide) ?_
  refine va_lald hx hb hKJ hPo 0 0 rfl rfl (vp_in_nI (n := 0) (by decide) (by decide)) dL_law_755 ?_
  refine zt_l (y := (nI (gain (shK sm fe ex gp gc gr st yc ya ys n q le) n)).toInt64) (by rw [show (nI 0).toNatClampNeg = 0 by decide]; exact hf9) ?_
  refine lv_iload hx hb dL_law_756 (lv_at hl 0 rfl) ?_
  refine lv_i2l (v := (nI (gain (shK sm fe ex gp gc gr st yc ya ys n q le) n)).toInt64) hx hb dL_law_758 rfl ?_
  refine W.lcmp hx hb dL_law_759 ?_
  refine zg_eq (tgt := 765) hx hb dL_law_760 (by decide) (fun _ => ?_) (fun h9 => absurd (rfl) h9)
  refine lv_goto (tgt := 1529) hx hb dL_law_765 (by decide) ?_
  exact kk _ _ _ _ _ _ _ (by omega) (by omega) hPC hPM hPo hS ls (lv_sub hl [2, 3, 4, 5, 6] rfl)
set_option maxHeartbeats 4000000 in
set_option maxRecDepth 100000 in
theorem lo_round_iae {p : Program} {e : Env} {s : State} {m : MethodId} {below : List Frame} {meth : Method} {c : Code} (l : Launch) (hfl : l.stackTraces = false) {b L : Nat} {xs : Nat → Int32} (C0 : lw_At p s m meth c b L xs) {dC : Nat → ClassId} {dI : Nat → Nat → Nat} {cI cZ cJ : ClassId} {ad am : Nat → Nat} {o9 : Nat} (CC : lwC dC dI cI cZ cJ ad am o9 s) (hT0 : tX (fun q => s.heap.size ≤ q) s s.heap) {sm fe ex dy : Int32} {gp gc op gr st dl wo : Nat → Int32} {n : Nat} {yc ya ys yd : Nat → Int32} {q : Nat} {zc zp zr zs zf : Nat → Int32} {z : Nat} {zm zt : Int64} {pe tp fu sh ro : Nat → Int32} {th : Int32} {fo : Nat → Int64} {le : Int32} {i9 : Nat} (hi9 : 5 * i9 + 5 ≤ L) (hL9 : L ≤ 2560) {H : Heap} {locs : List Loc} {cells slots : Nat} (hc1 : cells ≤ 37 + i9) (hs1 : slots ≤ 1333 + 6 * i9) (hPC : va_P (dC, dI) vwCl (wC cI cZ ad sm fe ex dy gp gc op gr st dl wo n yc ya ys yd q zc zp zr zs zf z zm zt) H) (hPM : va_P (dC, dI) vwCl (wM cI cZ am sm fe ex gp gc dy n pe gr st dl wo q yc ya yd ys tp fu sh ro th) H) (hPo : va_P (dC, dI) vwCl [(o9, .inl (cJ, 1, .inr (.inl fo)))] H) (hS : va_S (fun q : Nat => s.heap.size ≤ q) s.heap H locs) (e1 : xs (5 * i9 + 1) = le) (ah1 : ¬ outN le (nI 0) (nI 100000) = 0) {ls : Array Slot} (hl : lv_has ls 7 [(4, .int (nI (5 * i9))), (0, .ref b), (1, .ref (ad 0)), (2, .ref (am 0)), (3, .ref o9)]) (kk : ∀ (fo2 : Nat → Int64) (H2 : Heap) (locs2 : List Loc) (c2 s2 : Nat), c2 ≤ 38 + i9 → s2 ≤ 1339 + 6 * i9 → va_P (dC, dI) vwCl (wC cI cZ ad sm fe ex dy gp gc op gr st dl wo n yc ya ys yd q zc zp zr zs zf z zm zt) H2 → va_P (dC, dI) vwCl (wM cI cZ am sm fe ex gp gc dy n pe gr st dl wo q yc ya yd ys tp fu sh ro (nI 1)) H2 → va_P (dC, dI) vwCl [(o9, .inl (cJ, 1, .inr (.inl fo2)))] H2 → va_S (fun q : Nat => s.heap.size ≤ q) s.heap H2 locs2 → ∀ ls, lv_has ls 7 [(4, .int (nI (5 * i9))), (0, .ref b), (1, .ref (ad 0)), (2, .ref (am 0)), (3, .ref o9)] → W p l e room_1 s m #[Value.ref b] below meth c H2 locs2 c2 s2 (lw_Z below #[Value.ref b] s) (F0 m 1529 ls [])) : W p l e room_1 s m #[Value.ref b] below meth c H locs cells slots (lw_Z below #[Value.ref b] s) (F0 m 712 ls []) := by
  obtain ⟨hx, hb, hr, hml, hown, hts0, hX, hbl, hlocks, hgv⟩ := id C0
  obtain ⟨⟨hI, hIm⟩, ⟨hoC, hoM, hCM⟩, ⟨hAC, hAM, hAo⟩, hK, hKJ, hN⟩ := id CC
  have hts : ∀ w ∈ wsL_law, w.before #[Value.ref b] s = true := fun w hw => hts0 w (wsL_law_in w hw)
  have hown : s.vm.findClass RL = some m.cls := hown
  have hbA : ¬ (fun q : Nat => s.heap.size ≤ q) b := Nat.not_le.mpr hbl
  have hT : tX (fun q => s.heap.size ≤ q) s H := zz_kT hT0 hS
  refine lv_aload_n hx hb dL_law_712 rfl (lv_at hl 2 rfl) ?_
  refine lv_aload_n hx hb dL_law_713 rfl (lv_at hl 1 rfl) ?_
  refine lv_iload hx hb dL_law_714 (lv_at hl 0 rfl) ?_
  refine lv_iconst (v := nI 1) hx hb dL_law_716 (by decide) ?_
  refine lv_iadd hx hb dL_law_717 ?_
  refine zt_i (y := nI (5 * i9 + 1)) (nI_add _ _) ?_
  refine va_sld hx hb hX hbl hbA hS (vp_in_nI (n := 5 * i9 + 1) (by omega) (by omega)) dL_law_718 ?_
  rw [nI_clamp (show 5 * i9 + 1 < 2 ^ 31 by omega)]
  rw [e1]
  refine lv_aload_n hx hb dL_law_719 rfl (lv_at hl 4 rfl) ?_
  refine kh_round_iae l hfl (cJ := cJ) (o9 := o9) (fo := fo) (le := le) (h1 := ah1) hx hb hml hown hts hK hPC gL_law_L_round ⟨Nat.le_of_ble_eq_true rfl, Nat.le_of_ble_eq_true rfl⟩ ⟨show cells + 1 ≤ 1083 by omega, show slots + 6 ≤ 9657 by omega⟩ hl.1 (Nat.le_of_ble_eq_true rfl) dL_law_720 (hT.narrow (fun _ h => h.elim)) hN hS (fun H2 locs hS hz9 hf => ?_)
  have hPC := zz_kC hI hPC (fun x h1 _ => hf x h1)
  have hPM := zz_kM hIm hPM (fun x h1 _ => hf x h1)
  have hPo := zz_ko hPo (hf _ (zz_lt hPo))
  refine lv_istore (lv' := [(5, .int (nI 1)), (4, .int (nI (5 * i9))), (0, .ref b), (1, .ref (ad 0)), (2, .ref (am 0)), (3, .ref o9)]) hx hb dL_law_723 hl (by decide) rfl (fun ls hl => ?_)
  refine lv_aload_n hx hb dL_law_725 rfl (lv_at hl 4 rfl) ?_
  refine lv_aload_n hx hb dL_law_726 rfl (lv_at hl 2 rfl) ?_
  refine lv_iload hx hb dL_law_727 (lv_at hl 1 rfl) ?_
  refine lv_iconst (v := nI 1) hx hb dL_law_729 (by decide) ?_
  refine lv_iadd hx hb dL_law_730 ?_
  refine zt_i (y := nI (5 * i9 + 1)) (nI_add _ _) ?_
  refine va_sld hx hb hX hbl hbA hS (vp_in_nI (n := 5 * i9 + 1) (by omega) (by omega)) dL_law_731 ?_
  rw [nI_clamp (show 5 * i9 + 1 < 2 ^ 31 by omega)]
  rw [e1]
  refine k_X4_round_1 l (x := le) (h1 := ah1) hx hb hml hown hts hK hPM gL_law_X4_round ⟨Nat.le_of_ble_eq_true rfl, Nat.le_of_ble_eq_true rfl⟩ ⟨show cells + 1 ≤ 1083 by omega, show slots + 6 ≤ 9657 by omega⟩ hl.1 (Nat.le_of_ble_eq_true rfl) dL_law_732 hIm hAM hS (fun H2 locs hPM hS hf => ?_)
  have hPC := zz_kC hI hPC (fun x h1 h2 => hf x h1 (fun h3 => hCM x h2 h3))
  have hPo := zz_ko hPo (hf _ (zz_lt hPo) hoM)
  refine lv_istore (lv' := [(6, .int (nI 0)), (5, .int (nI 1)), (4, .int (nI (5 * i9))), (0, .ref b), (1, .ref (ad 0)), (2, .ref (am 0)), (3, .ref o9)]) hx hb dL_law_735 hl (by decide) rfl (fun ls hl => ?_)
  refine lv_aload_n hx hb dL_law_737 rfl (lv_at hl 5 rfl) ?_
  refine k_X4_thrown l hx hb hml hown hts hK hPM gL_law_X4_thrown ⟨Nat.le_of_ble_eq_true rfl, Nat.le_of_ble_eq_true rfl⟩ ⟨show cells + 1 ≤ 1083 by omega, show slots + 6 ≤ 9657 by omega⟩ hl.1 (Nat.le_of_ble_eq_true rfl) dL_law_738 ?_
  refine lv_iload hx hb dL_law_741 (lv_at hl 1 rfl) ?_
  refine lv_icmp_eq (tgt := 748) hx hb dL_law_743 (by decide) (fun _ => ?_) (fun h9 => absurd rfl h9)
  refine lv_iload hx hb dL_law_748 (lv_at hl 1 rfl) ?_
  refine lv_if_ne (tgt := 765) hx hb dL_law_750 (by decide) (fun _ => ?_) (fun h9 => absurd h9 (by decide))
  refine lv_goto (tgt := 1529) hx hb dL_law_765 (by decide) ?_
  exact kk _ _ _ _ _ (by omega) (by omega) hPC hPM hPo hS ls (lv_sub hl [2, 3, 4, 5, 6] rfl)
