/-! the law -/
def lwC (dC : Nat → ClassId) (dI : Nat → Nat → Nat) (cI cZ cJ : ClassId) (ad am : Nat → Nat) (o9 : Nat) (s : State) : Prop :=
  (iwC ad ∧ iwM am) ∧ (¬ awC ad o9 ∧ ¬ awM am o9 ∧ ∀ x, awC ad x → ¬ awM am x) ∧ ((∀ x, awC ad x → s.heap.size ≤ x) ∧ (∀ x, awM am x → s.heap.size ≤ x) ∧ s.heap.size ≤ o9) ∧ va_K (dC, dI) vwCl [(cI, .int), (cZ, .boolean)] s ∧ va_K (dC, dI) vwCl [(cJ, .long)] s ∧ tN s
theorem zz_kC {D : va_G} {cl : List vw_C} {cI cZ : ClassId} {ad : Nat → Nat} (hI : iwC ad) {sm fe ex dy : Int32} {gp gc op gr st dl wo : Nat → Int32} {n : Nat} {yc ya ys yd : Nat → Int32} {q : Nat} {zc zp zr zs zf : Nat → Int32} {z : Nat} {zm zt : Int64} {H H1 : Heap} (h : va_P D cl (wC cI cZ ad sm fe ex dy gp gc op gr st dl wo n yc ya ys yd q zc zp zr zs zf z zm zt) H) (hq : ∀ x : Nat, x < H.size → awC ad x → H1[x]? = H[x]?) : va_P D cl (wC cI cZ ad sm fe ex dy gp gc op gr st dl wo n yc ya ys yd q zc zp zr zs zf z zm zt) H1 :=
  h.kept (fun k x hk => hq _ (h k x hk).lt ((dwC hI (A := awC ad) (fun _ h => h) ..).2 k x hk))
theorem zz_kM {D : va_G} {cl : List vw_C} {cI cZ : ClassId} {am : Nat → Nat} (hI : iwM am) {sm fe ex : Int32} {gp gc : Nat → Int32} {dy : Int32} {n : Nat} {pe gr st dl wo : Nat → Int32} {q : Nat} {yc ya yd ys tp fu sh ro : Nat → Int32} {th : Int32} {H H1 : Heap} (h : va_P D cl (wM cI cZ am sm fe ex gp gc dy n pe gr st dl wo q yc ya yd ys tp fu sh ro th) H) (hq : ∀ x : Nat, x < H.size → awM am x → H1[x]? = H[x]?) : va_P D cl (wM cI cZ am sm fe ex gp gc dy n pe gr st dl wo q yc ya yd ys tp fu sh ro th) H1 :=
  h.kept (fun k x hk => hq _ (h k x hk).lt ((dwM hI (A := awM am) (fun _ h => h) ..).2 k x hk))
theorem zz_kT {s : State} {H H1 : Heap} {locs : List Loc} (h : tX (fun q => s.heap.size ≤ q) s s.heap) (hS : va_S (fun q : Nat => s.heap.size ≤ q) s.heap H locs) : tX (fun q => s.heap.size ≤ q) s H := h.kept (fun q h1 h2 => hS.2.1 q h1 h2)

set_option maxHeartbeats 4000000 in
set_option maxRecDepth 100000 in
theorem lo_cure_ok {p : Program} {e : Env} {s : State} {m : MethodId} {below : List Frame} {meth : Method} {c : Code} (l : Launch) (hfl : l.stackTraces = false) {b L : Nat} {xs : Nat → Int32} (C0 : lw_At p s m meth c b L xs) {dC : Nat → ClassId} {dI : Nat → Nat → Nat} {cI cZ cJ : ClassId} {ad am : Nat → Nat} {o9 : Nat} (CC : lwC dC dI cI cZ cJ ad am o9 s) (hT0 : tX (fun q => s.heap.size ≤ q) s s.heap) {sm fe ex dy : Int32} {gp gc op gr st dl wo : Nat → Int32} {n : Nat} {yc ya ys yd : Nat → Int32} {q : Nat} {zc zp zr zs zf : Nat → Int32} {z : Nat} {zm zt : Int64} {pe tp fu sh ro : Nat → Int32} {th : Int32} {fo : Nat → Int64} {j : Nat} (hj : 5 * j + 5 ≤ L) (hL9 : L ≤ 2560) {H : Heap} {locs : List Loc} {cells slots : Nat} (hc1 : cells ≤ 37 + j) (hs1 : slots ≤ 1333 + 6 * j) (hPC : va_P (dC, dI) vwCl (wC cI cZ ad sm fe ex dy gp gc op gr st dl wo n yc ya ys yd q zc zp zr zs zf z zm zt) H) (hPM : va_P (dC, dI) vwCl (wM cI cZ am sm fe ex gp gc dy n pe gr st dl wo q yc ya yd ys tp fu sh ro th) H) (hPo : va_P (dC, dI) vwCl [(o9, .inl (cJ, 1, .inr (.inl fo)))] H) (hS : va_S (fun q : Nat => s.heap.size ≤ q) s.heap H locs) {k : Nat} (e1 : xs (5 * j + 1) = nI k) (ahn : n ≤ 24) (ahk : k < n) (ah1 : st k = nI 1) {ls : Array Slot} (hl : lv_has ls 7 [(4, .int (nI (5 * j))), (0, .ref b), (1, .ref (ad 0)), (2, .ref (am 0)), (3, .ref o9)]) (kk : ∀ (fo2 : Nat → Int64) (H2 : Heap) (locs2 : List Loc) (c2 s2 : Nat), c2 ≤ 38 + j → s2 ≤ 1339 + 6 * j → va_P (dC, dI) vwCl (wC cI cZ ad sm fe ex dy gp gc op gr (upd st k (nI 0)) dl wo n yc ya ys yd q zc zp zr zs zf z zm zt) H2 → va_P (dC, dI) vwCl (wM cI cZ am sm fe ex gp gc dy n pe gr (upd st k (nI 0)) dl wo q yc ya yd ys tp fu sh ro (nI 0)) H2 → va_P (dC, dI) vwCl [(o9, .inl (cJ, 1, .inr (.inl fo2)))] H2 → va_S (fun q : Nat => s.heap.size ≤ q) s.heap H2 locs2 → ∀ ls, lv_has ls 7 [(4, .int (nI (5 * j))), (0, .ref b), (1, .ref (ad 0)), (2, .ref (am 0)), (3, .ref o9)] → W p l e room_1 s m #[Value.ref b] below meth c H2 locs2 c2 s2 (lw_Z below #[Value.ref b] s) (F0 m 1529 ls [])) : W p l e room_1 s m #[Value.ref b] below meth c H locs cells slots (lw_Z below #[Value.ref b] s) (F0 m 460 ls []) := by
  obtain ⟨hx, hb, hr, hml, hown, hts0, hX, hbl, hlocks, hgv⟩ := id C0
  obtain ⟨⟨hI, hIm⟩, ⟨hoC, hoM, hCM⟩, ⟨hAC, hAM, hAo⟩, hK, hKJ, hN⟩ := id CC
  have hts : ∀ w ∈ wsL_law, w.before #[Value.ref b] s = true := fun w hw => hts0 w (wsL_law_in w hw)
  have hown : s.vm.findClass RL = some m.cls := hown
  have hbA : ¬ (fun q : Nat => s.heap.size ≤ q) b := Nat.not_le.mpr hbl
  have hT : tX (fun q => s.heap.size ≤ q) s H := zz_kT hT0 hS
  refine lv_aload_n hx hb dL_law_460 rfl (lv_at hl 2 rfl) ?_
  refine lv_aload_n hx hb dL_law_461 rfl (lv_at hl 1 rfl) ?_
  refine lv_iload hx hb dL_law_462 (lv_at hl 0 rfl) ?_
  refine lv_iconst (v := nI 1) hx hb dL_law_464 (by decide) ?_
  refine lv_iadd hx hb dL_law_465 ?_
  refine zt_i (y := nI (5 * j + 1)) (nI_add _ _) ?_
  refine va_sld hx hb hX hbl hbA hS (vp_in_nI (n := 5 * j + 1) (by omega) (by omega)) dL_law_466 ?_
  rw [nI_clamp (show 5 * j + 1 < 2 ^ 31 by omega)]
  rw [e1]
  refine lv_aload_n hx hb dL_law_467 rfl (lv_at hl 4 rfl) ?_
  refine kh_cure_ok l (k := k) (hn := ahn) (hk := ahk) (h1 := ah1) hx hb hml hown hts hK hPC gL_law_L_cure ⟨Nat.le_of_ble_eq_true rfl, Nat.le_of_ble_eq_true rfl⟩ ⟨show cells + 0 ≤ 1083 by omega, show slots + 0 ≤ 9657 by omega⟩ hl.1 (Nat.le_of_ble_eq_true rfl) dL_law_468 hI hoC hPo hKJ (fun x h => h.elim (hAC x) (fun h => by rw [h]; exact hAo)) hS (fun u9 H2 locs hPC fo hf9 hPo hS hz9 hf => ?_)
  have hPM := zz_kM hIm hPM (fun x h1 h2 => hf x h1 (fun h3 => h3.elim (fun h3 => hCM x h3 h2) (fun h3 => hoM (by rw [← h3]; exact h2))))
  refine lv_istore (lv' := [(5, .int (nI 0)), (4, .int (nI (5 * j))), (0, .ref b), (1, .ref (ad 0)), (2, .ref (am 0)), (3, .ref o9)]) hx hb dL_law_471 hl (by decide) rfl (fun ls hl => ?_)
  refine lv_aload_n hx hb dL_law_473 rfl (lv_at hl 4 rfl) ?_
  refine lv_aload_n hx hb dL_law_474 rfl (lv_at hl 2 rfl) ?_
  refine lv_iload hx hb dL_law_475 (lv_at hl 1 rfl) ?_
  refine lv_iconst (v := nI 1) hx hb dL_law_477 (by decide) ?_
  refine lv_iadd hx hb dL_law_478 ?_
  refine zt_i (y := nI (5 * j + 1)) (nI_add _ _) ?_
  refine va_sld hx hb hX hbl hbA hS (vp_in_nI (n := 5 * j + 1) (by omega) (by omega)) dL_law_479 ?_
  rw [nI_clamp (show 5 * j + 1 < 2 ^ 31 by omega)]
  rw [e1]
  refine k_X4_cure_ok l (k := k) (hn := ahn) (hk := ahk) (h1 := ah1) hx hb hml hown hts hK hPM gL_law_X4_cure ⟨Nat.le_of_ble_eq_true rfl, Nat.le_of_ble_eq_true rfl⟩ ⟨show cells + 0 ≤ 1083 by omega, show slots + 0 ≤ 9657 by omega⟩ hl.1 (Nat.le_of_ble_eq_true rfl) dL_law_480 hIm hAM hS (fun H2 locs hPM hS hf => ?_)
  have hPC := zz_kC hI hPC (fun x h1 h2 => hf x h1 (fun h3 => hCM x h2 h3))
  have hPo := zz_ko hPo (hf _ (zz_lt hPo) hoM)
  refine lv_istore (lv' := [(6, .int (dl k - dy)), (5, .int (nI 0)), (4, .int (nI (5 * j))), (0, .ref b), (1, .ref (ad 0)), (2, .ref (am 0)), (3, .ref o9)]) hx hb dL_law_483 hl (by decide) rfl (fun ls hl => ?_)
  refine lv_aload_n hx hb dL_law_485 rfl (lv_at hl 5 rfl) ?_
  refine k_X4_thrown l hx hb hml hown hts hK hPM gL_law_X4_thrown ⟨Nat.le_of_ble_eq_true rfl, Nat.le_of_ble_eq_true rfl⟩ ⟨show cells + 0 ≤ 1083 by omega, show slots + 0 ≤ 9657 by omega⟩ hl.1 (Nat.le_of_ble_eq_true rfl) dL_law_486 ?_
  refine lv_iload hx hb dL_law_489 (lv_at hl 1 rfl) ?_
  refine lv_icmp_eq (tgt := 496) hx hb dL_law_491 (by decide) (fun _ => ?_) (fun h9 => absurd rfl h9)
  refine lv_iload hx hb dL_law_496 (lv_at hl 1 rfl) ?_
  refine lv_if_ne (tgt := 513) hx hb dL_law_498 (by decide) (fun h9 => absurd (by decide) h9) (fun _ => ?_)
  refine lv_aload_n hx hb dL_law_501 rfl (lv_at hl 6 rfl) ?_
  refine lv_iconst (v := nI 0) hx hb dL_law_502 (by decide) ?_
  refine va_lald hx hb hKJ hPo 0 0 rfl rfl (vp_in_nI (n := 0) (by decide) (by decide)) dL_law_503 ?_
  refine zt_l (y := (dl k - dy).toInt64) (by rw [show (nI 0).toNatClampNeg = 0 by decide]; exact hf9) ?_
  refine lv_iload hx hb dL_law_504 (lv_at hl 0 rfl) ?_
  refine lv_i2l (v := (dl k - dy).toInt64) hx hb dL_law_506 rfl ?_
  refine W.lcmp hx hb dL_law_507 ?_
  refine zg_eq (tgt := 513) hx hb dL_law_508 (by decide) (fun _ => ?_) (fun h9 => absurd (rfl) h9)
  refine lv_goto (tgt := 1529) hx hb dL_law_513 (by decide) ?_
  exact kk _ _ _ _ _ (by omega) (by omega) hPC hPM hPo hS ls (lv_sub hl [2, 3, 4, 5, 6] rfl)
set_option maxHeartbeats 4000000 in
set_option maxRecDepth 100000 in
theorem lo_cure_no {p : Program} {e : Env} {s : State} {m : MethodId} {below : List Frame} {meth : Method} {c : Code} (l : Launch) (hfl : l.stackTraces = false) {b L : Nat} {xs : Nat → Int32} (C0 : lw_At p s m meth c b L xs) {dC : Nat → ClassId} {dI : Nat → Nat → Nat} {cI cZ cJ : ClassId} {ad am : Nat → Nat} {o9 : Nat} (CC : lwC dC dI cI cZ cJ ad am o9 s) (hT0 : tX (fun q => s.heap.size ≤ q) s s.heap) {sm fe ex dy : Int32} {gp gc op gr st dl wo : Nat → Int32} {n : Nat} {yc ya ys yd : Nat → Int32} {q : Nat} {zc zp zr zs zf : Nat → Int32} {z : Nat} {zm zt : Int64} {pe tp fu sh ro : Nat → Int32} {th : Int32} {fo : Nat → Int64} {j : Nat} (hj : 5 * j + 5 ≤ L) (hL9 : L ≤ 2560) {H : Heap} {locs : List Loc} {cells slots : Nat} (hc1 : cells ≤ 37 + j) (hs1 : slots ≤ 1333 + 6 * j) (hPC : va_P (dC, dI) vwCl (wC cI cZ ad sm fe ex dy gp gc op gr st dl wo n yc ya ys yd q zc zp zr zs zf z zm zt) H) (hPM : va_P (dC, dI) vwCl (wM cI cZ am sm fe ex gp gc dy n pe gr st dl wo q yc ya yd ys tp fu sh ro th) H) (hPo : va_P (dC, dI) vwCl [(o9, .inl (cJ, 1, .inr (.inl fo)))] H) (hS : va_S (fun q : Nat => s.heap.size ≤ q) s.heap H locs) {x : Int32} (e1 : xs (5 * j + 1) = x) (ahn : n ≤ 24) (ahk : ¬ vp_in x n) {ls : Array Slot} (hl : lv_has ls 7 [(4, .int (nI (5 * j))), (0, .ref b), (1, .ref (ad 0)), (2, .ref (am 0)), (3, .ref o9)]) (kk : ∀ (fo2 : Nat → Int64) (H2 : Heap) (locs2 : List Loc) (c2 s2 : Nat), c2 ≤ 38 + j → s2 ≤ 1339 + 6 * j → va_P (dC, dI) vwCl (wC cI cZ ad sm fe ex dy gp gc op gr st dl wo n yc ya ys yd q zc zp zr zs zf z zm zt) H2 → va_P (dC, dI) vwCl (wM cI cZ am sm fe ex gp gc dy n pe gr st dl wo q yc ya yd ys tp fu sh ro (nI 1)) H2 → va_P (dC, dI) vwCl [(o9, .inl (cJ, 1, .inr (.inl fo2)))] H2 → va_S (fun q : Nat => s.heap.size ≤ q) s.heap H2 locs2 → ∀ ls, lv_has ls 7 [(4, .int (nI (5 * j))), (0, .ref b), (1, .ref (ad 0)), (2, .ref (am 0)), (3, .ref o9)] → W p l e room_1 s m #[Value.ref b] below meth c H2 locs2 c2 s2 (lw_Z below #[Value.ref b] s) (F0 m 1529 ls [])) : W p l e room_1 s m #[Value.ref b] below meth c H locs cells slots (lw_Z below #[Value.ref b] s) (F0 m 460 ls []) := by
  obtain ⟨hx, hb, hr, hml, hown, hts0, hX, hbl, hlocks, hgv⟩ := id C0
  obtain ⟨⟨hI, hIm⟩, ⟨hoC, hoM, hCM⟩, ⟨hAC, hAM, hAo⟩, hK, hKJ, hN⟩ := id CC
  have hts : ∀ w ∈ wsL_law, w.before #[Value.ref b] s = true := fun w hw => hts0 w (wsL_law_in w hw)
  have hown : s.vm.findClass RL = some m.cls := hown
  have hbA : ¬ (fun q : Nat => s.heap.size ≤ q) b := Nat.not_le.mpr hbl
  have hT : tX (fun q => s.heap.size ≤ q) s H := zz_kT hT0 hS
  refine lv_aload_n hx hb dL_law_460 rfl (lv_at hl 2 rfl) ?_
  refine lv_aload_n hx hb dL_law_461 rfl (lv_at hl 1 rfl) ?_
  refine lv_iload hx hb dL_law_462 (lv_at hl 0 rfl) ?_
  refine lv_iconst (v := nI 1) hx hb dL_law_464 (by decide) ?_
  refine lv_iadd hx hb dL_law_465 ?_
  refine zt_i (y := nI (5 * j + 1)) (nI_add _ _) ?_
  refine va_sld hx hb hX hbl hbA hS (vp_in_nI (n := 5 * j + 1) (by omega) (by omega)) dL_law_466 ?_
  rw [nI_clamp (show 5 * j + 1 < 2 ^ 31 by omega)]
  rw [e1]
  refine lv_aload_n hx hb dL_law_467 rfl (lv_at hl 4 rfl) ?_
  refine kh_cure_no l hfl (x := x) (hn := ahn) (hk := ahk) hx hb hml hown hts hK hPC gL_law_L_cure ⟨Nat.le_of_ble_eq_true rfl, Nat.le_of_ble_eq_true rfl⟩ ⟨show cells + 1 ≤ 1083 by omega, show slots + 6 ≤ 9657 by omega⟩ hl.1 (Nat.le_of_ble_eq_true rfl) dL_law_468 (hT.narrow (fun _ h => h.elim)) hN hS (fun H2 locs hS hz9 hf => ?_)
  have hPC := zz_kC hI hPC (fun x h1 _ => hf x h1)
  have hPM := zz_kM hIm hPM (fun x h1 _ => hf x h1)
  have hPo := zz_ko hPo (hf _ (zz_lt hPo))
  refine lv_istore (lv' := [(5, .int (nI 1)), (4, .int (nI (5 * j))), (0, .ref b), (1, .ref (ad 0)), (2, .ref (am 0)), (3, .ref o9)]) hx hb dL_law_471 hl (by decide) rfl (fun ls hl => ?_)
  refine lv_aload_n hx hb dL_law_473 rfl (lv_at hl 4 rfl) ?_
  refine lv_aload_n hx hb dL_law_474 rfl (lv_at hl 2 rfl) ?_
  refine lv_iload hx hb dL_law_475 (lv_at hl 1 rfl) ?_
  refine lv_iconst (v := nI 1) hx hb dL_law_477 (by decide) ?_
  refine lv_iadd hx hb dL_law_478 ?_
  refine zt_i (y := nI (5 * j + 1)) (nI_add _ _) ?_
  refine va_sld hx hb hX hbl hbA hS (vp_in_nI (n := 5 * j + 1) (by omega) (by omega)) dL_law_479 ?_
  rw [nI_clamp (show 5 * j + 1 < 2 ^ 31 by omega)]
  rw [e1]
  refine k_X4_cure_no l (x := x) (hn := ahn) (hk := ahk) hx hb hml hown hts hK hPM gL_law_X4_cure ⟨Nat.le_of_ble_eq_true rfl, Nat.le_of_ble_eq_true rfl⟩ ⟨show cells + 1 ≤ 1083 by omega, show slots + 6 ≤ 9657 by omega⟩ hl.1 (Nat.le_of_ble_eq_true rfl) dL_law_480 hIm hAM hS (fun H2 locs hPM hS hf => ?_)
  have hPC := zz_kC hI hPC (fun x h1 h2 => hf x h1 (fun h3 => hCM x h2 h3))
  have hPo := zz_ko hPo (hf _ (zz_lt hPo) hoM)
  refine lv_istore (lv' := [(6, .int (nI 0)), (5, .int (nI 1)), (4, .int (nI (5 * j))), (0, .ref b), (1, .ref (ad 0)), (2, .ref (am 0)), (3, .ref o9)]) hx hb dL_law_483 hl (by decide) rfl (fun ls hl => ?_)
  refine lv_aload_n hx hb dL_law_485 rfl (lv_at hl 5 rfl) ?_
  refine k_X4_thrown l hx hb hml hown hts hK hPM gL_law_X4_thrown ⟨Nat.le_of_ble_eq_true rfl, Nat.le_of_ble_eq_true rfl⟩ ⟨show cells + 1 ≤ 1083 by omega, show slots + 6 ≤ 9657 by omega⟩ hl.1 (Nat.le_of_ble_eq_true rfl) dL_law_486 ?_
  refine lv_iload hx hb dL_law_489 (lv_at hl 1 rfl) ?_
  refine lv_icmp_eq (tgt := 496) hx hb dL_law_491 (by decide) (fun _ => ?_) (fun h9 => absurd rfl h9)
  refine lv_iload hx hb dL_law_496 (lv_at hl 1 rfl) ?_
  refine lv_if_ne (tgt := 513) hx hb dL_law_498 (by decide) (fun _ => ?_) (fun h9 => absurd h9 (by decide))
  refine lv_goto (tgt := 1529) hx hb dL_law_513 (by decide) ?_
  exact kk _ _ _ _ _ (by omega) (by omega) hPC hPM hPo hS ls (lv_sub hl [2, 3, 4, 5, 6] rfl)
set_option maxHeartbeats 4000000 in
set_option maxRecDepth 100000 in
theorem lo_cure_ise {p : Program} {e : Env} {s : State} {m : MethodId} {below : List Frame} {meth : Method} {c : Code} (l : Launch) (hfl : l.stackTraces = false) {b L : Nat} {xs : Nat → Int32} (C0 : lw_At p s m meth c b L xs) {dC : Nat → ClassId} {dI : Nat → Nat → Nat} {cI cZ cJ : ClassId} {ad am : Nat → Nat} {o9 : Nat} (CC : lwC dC dI cI cZ cJ ad am o9 s) (hT0 : tX (fun q => s.heap.size ≤ q) s s.heap) {sm fe ex dy : Int32} {gp gc op gr st dl wo : Nat → Int32} {n : Nat} {yc ya ys yd : Nat → Int32} {q : Nat} {zc zp zr zs zf : Nat → Int32} {z : Nat} {zm zt : Int64} {pe tp fu sh ro : Nat → Int32} {th : Int32} {fo : Nat → Int64} {j : Nat} (hj : 5 * j + 5 ≤ L) (hL9 : L ≤ 2560) {H : Heap} {locs : List Loc} {cells slots : Nat} (hc1 : cells ≤ 37 + j) (hs1 : slots ≤ 1333 + 6 * j) (hPC : va_P (dC, dI) vwCl (wC cI cZ ad sm fe ex dy gp gc op gr st dl wo n yc ya ys yd q zc zp zr zs zf z zm zt) H) (hPM : va_P (dC, dI) vwCl (wM cI cZ am sm fe ex gp gc dy n pe gr st dl wo q yc ya yd ys tp fu sh ro th) H) (hPo : va_P (dC, dI) vwCl [(o9, .inl (cJ, 1, .inr (.inl fo)))] H) (hS : va_S (fun q : Nat => s.heap.size ≤ q) s.heap H locs) {k : Nat} (e1 : xs (5 * j + 1) = nI k) (ahn : n ≤ 24) (ahk : k < n) (ah1 : ¬ st k = nI 1) {ls : Array Slot} (hl : lv_has ls 7 [(4, .int (nI (5 * j))), (0, .ref b), (1, .ref (ad 0)), (2, .ref (am 0)), (3, .ref o9)]) (kk : ∀ (fo2 : Nat → Int64) (H2 : Heap) (locs2 : List Loc) (c2 s2 : Nat), c2 ≤ 38 + j → s2 ≤ 1339 + 6 * j → va_P (dC, dI) vwCl (wC cI cZ ad sm fe ex dy gp gc op gr st dl wo n yc ya ys yd q zc zp zr zs zf z zm zt) H2 → va_P (dC, dI) vwCl (wM cI cZ am sm fe ex gp gc dy n pe gr st dl wo q yc ya yd ys tp fu sh ro (nI 2)) H2 → va_P (dC, dI) vwCl [(o9, .inl (cJ, 1, .inr (.inl fo2)))] H2 → va_S (fun q : Nat => s.heap.size ≤ q) s.heap H2 locs2 → ∀ ls, lv_has ls 7 [(4, .int (nI (5 * j))), (0, .ref b), (1, .ref (ad 0)), (2, .ref (am 0)), (3, .ref o9)] → W p l e room_1 s m #[Value.ref b] below meth c H2 locs2 c2 s2 (lw_Z below #[Value.ref b] s) (F0 m 1529 ls [])) : W p l e room_1 s m #[Value.ref b] below meth c H locs cells slots (lw_Z below #[Value.ref b] s) (F0 m 460 ls []) := by
  obtain ⟨hx, hb, hr, hml, hown, hts0, hX, hbl, hlocks, hgv⟩ := id C0
  obtain ⟨⟨hI, hIm⟩, ⟨hoC, hoM, hCM⟩, ⟨hAC, hAM, hAo⟩, hK, hKJ, hN⟩ := id CC
  have hts : ∀ w ∈ wsL_law, w.before #[Value.ref b] s = true := fun w hw => hts0 w (wsL_law_in w hw)
  have hown : s.vm.findClass RL = some m.cls := hown
  have hbA : ¬ (fun q : Nat => s.heap.size ≤ q) b := Nat.not_le.mpr hbl
  have hT : tX (fun q => s.heap.size ≤ q) s H := zz_kT hT0 hS
  refine lv_aload_n hx hb dL_law_460 rfl (lv_at hl 2 rfl) ?_
  refine lv_aload_n hx hb dL_law_461 rfl (lv_at hl 1 rfl) ?_
  refine lv_iload hx hb dL_law_462 (lv_at hl 0 rfl) ?_
  refine lv_iconst (v := nI 1) hx hb dL_law_464 (by decide) ?_
  refine lv_iadd hx hb dL_law_465 ?_
  refine zt_i (y := nI (5 * j + 1)) (nI_add _ _) ?_
  refine va_sld hx hb hX hbl hbA hS (vp_in_nI (n := 5 * j + 1) (by omega) (by omega)) dL_law_466 ?_
  rw [nI_clamp (show 5 * j + 1 < 2 ^ 31 by omega)]
  rw [e1]
  refine lv_aload_n hx hb dL_law_467 rfl (lv_at hl 4 rfl) ?_
  refine kh_cure_ise l hfl (k := k) (hn := ahn) (hk := ahk) (h1 := ah1) hx hb hml hown hts hK hPC gL_law_L_cure ⟨Nat.le_of_ble_eq_true rfl, Nat.le_of_ble_eq_true rfl⟩ ⟨show cells + 1 ≤ 1083 by omega, show slots + 6 ≤ 9657 by omega⟩ hl.1 (Nat.le_of_ble_eq_true rfl) dL_law_468 (hT.narrow (fun _ h => h.elim)) hN hS (fun H2 locs hS hz9 hf => ?_)
  have hPC := zz_kC hI hPC (fun x h1 _ => hf x h1)
  have hPM := zz_kM hIm hPM (fun x h1 _ => hf x h1)
  have hPo := zz_ko hPo (hf _ (zz_lt hPo))
  refine lv_istore (lv' := [(5, .int (nI 2)), (4, .int (nI (5 * j))), (0, .ref b), (1, .ref (ad 0)), (2, .ref (am 0)), (3, .ref o9)]) hx hb dL_law_471 hl (by decide) rfl (fun ls hl => ?_)
  refine lv_aload_n hx hb dL_law_473 rfl (lv_at hl 4 rfl) ?_
  refine lv_aload_n hx hb dL_law_474 rfl (lv_at hl 2 rfl) ?_
  refine lv_iload hx hb dL_law_475 (lv_at hl 1 rfl) ?_
  refine lv_iconst (v := nI 1) hx hb dL_law_477 (by decide) ?_
  refine lv_iadd hx hb dL_law_478 ?_
  refine zt_i (y := nI (5 * j + 1)) (nI_add _ _) ?_
  refine va_sld hx hb hX hbl hbA hS (vp_in_nI (n := 5 * j + 1) (by omega) (by omega)) dL_law_479 ?_
  rw [nI_clamp (show 5 * j + 1 < 2 ^ 31 by omega)]
  rw [e1]
  refine k_X4_cure_2 l (k := k) (hn := ahn) (hk := ahk) (h1 := ah1) hx hb hml hown hts hK hPM gL_law_X4_cure ⟨Nat.le_of_ble_eq_true rfl, Nat.le_of_ble_eq_true rfl⟩ ⟨show cells + 1 ≤ 1083 by omega, show slots + 6 ≤ 9657 by omega⟩ hl.1 (Nat.le_of_ble_eq_true rfl) dL_law_480 hIm hAM hS (fun H2 locs hPM hS hf => ?_)
  have hPC := zz_kC hI hPC (fun x h1 h2 => hf x h1 (fun h3 => hCM x h2 h3))
  have hPo := zz_ko hPo (hf _ (zz_lt hPo) hoM)
  refine lv_istore (lv' := [(6, .int (nI 0)), (5, .int (nI 2)), (4, .int (nI (5 * j))), (0, .ref b), (1, .ref (ad 0)), (2, .ref (am 0)), (3, .ref o9)]) hx hb dL_law_483 hl (by decide) rfl (fun ls hl => ?_)
  refine lv_aload_n hx hb dL_law_485 rfl (lv_at hl 5 rfl) ?_
  refine k_X4_thrown l hx hb hml hown hts hK hPM gL_law_X4_thrown ⟨Nat.le_of_ble_eq_true rfl, Nat.le_of_ble_eq_true rfl⟩ ⟨show cells + 1 ≤ 1083 by omega, show slots + 6 ≤ 9657 by omega⟩ hl.1 (Nat.le_of_ble_eq_true rfl) dL_law_486 ?_
  refine lv_iload hx hb dL_law_489 (lv_at hl 1 rfl) ?_
  refine lv_icmp_eq (tgt := 496) hx hb dL_law_491 (by decide) (fun _ => ?_) (fun h9 => absurd rfl h9)
  refine lv_iload hx hb dL_law_496 (lv_at hl 1 rfl) ?_
  refine lv_if_ne (tgt := 513) hx hb dL_law_498 (by decide) (fun _ => ?_) (fun h9 => absurd h9 (by decide))
  refine lv_goto (tgt := 1529) hx hb dL_law_513 (by decide) ?_
  exact kk _ _ _ _ _ (by omega) (by omega) hPC hPM hPo hS ls (lv_sub hl [2, 3, 4, 5, 6] rfl)
