/-! the law -/
def lwC (dC : Nat → ClassId) (dI : Nat → Nat → Nat) (cI cZ cJ : ClassId) (ad am : Nat → Nat) (o9 : Nat) (s : State) : Prop :=
  (iwC ad ∧ iwM am) ∧ (¬ awC ad o9 ∧ ¬ awM am o9 ∧ ∀ x, awC ad x → ¬ awM am x) ∧ ((∀ x, awC ad x → s.heap.size ≤ x) ∧ (∀ x, awM am x → s.heap.size ≤ x) ∧ s.heap.size ≤ o9) ∧ va_K (dC, dI) vwCl [(cI, .int), (cZ, .boolean)] s ∧ va_K (dC, dI) vwCl [(cJ, .long)] s ∧ tN s
theorem zz_kC {D : va_G} {cl : List vw_C} {cI cZ : ClassId} {ad : Nat → Nat} (hI : iwC ad) {sm fe ex dy : Int32} {gp gc op gr st dl wo : Nat → Int32} {n : Nat} {yc ya ys yd : Nat → Int32} {q : Nat} {zc zp zr zs zf : Nat → Int32} {z : Nat} {zm zt : Int64} {H H1 : Heap} (h : va_P D cl (wC cI cZ ad sm fe ex dy gp gc op gr st dl wo n yc ya ys yd q zc zp zr zs zf z zm zt) H) (hq : ∀ x : Nat, x < H.size → awC ad x → H1[x]? = H[x]?) : va_P D cl (wC cI cZ ad sm fe ex dy gp gc op gr st dl wo n yc ya ys yd q zc zp zr zs zf z zm zt) H1 :=
  h.kept (fun k x hk => hq _ (h k x hk).lt ((dwC hI (A := awC ad) (fun _ h => h) ..).2 k x hk))
theorem zz_kM {D : va_G} {cl : List vw_C} {cI cZ : ClassId} {am : Nat → Nat} (hI : iwM am) {sm fe ex : Int32} {gp gc : Nat → Int32} {dy : Int32} {n : Nat} {pe gr st dl wo : Nat → Int32} {q : Nat} {yc ya yd ys tp fu sh ro : Nat → Int32} {th : Int32} {H H1 : Heap} (h : va_P D cl (wM cI cZ am sm fe ex gp gc dy n pe gr st dl wo q yc ya yd ys tp fu sh ro th) H) (hq : ∀ x : Nat, x < H.size → awM am x → H1[x]? = H[x]?) : va_P D cl (wM cI cZ am sm fe ex gp gc dy n pe gr st dl wo q yc ya yd ys tp fu sh ro th) H1 :=
  h.kept (fun k x hk => hq _ (h k x hk).lt ((dwM hI (A := awM am) (fun _ h => h) ..).2 k x hk))
theorem zz_kT {s : State} {H : Heap} {locs : List Loc} (h : tX (fun q => s.heap.size ≤ q) s s.heap) (hS : va_S (fun q : Nat => s.heap.size ≤ q) s.heap H locs) : tX (fun q => s.heap.size ≤ q) s H := h.kept (fun q h1 h2 => hS.2.1 q h1 h2)

set_option maxHeartbeats 4000000 in
set_option maxRecDepth 100000 in
theorem lo_today {p : Program} {e : Env} {s : State} {m : MethodId} {below : List Frame} {meth : Method} {c : Code} (l : Launch) (hfl : l.stackTraces = false) {b L : Nat} {xs : Nat → Int32} (C0 : lw_At p s m meth c b L xs) {dC : Nat → ClassId} {dI : Nat → Nat → Nat} {cI cZ cJ : ClassId} {ad am : Nat → Nat} {o9 : Nat} (CC : lwC dC dI cI cZ cJ ad am o9 s) (hT0 : tX (fun q => s.heap.size ≤ q) s s.heap) {sm fe ex dy : Int32} {gp gc op gr st dl wo : Nat → Int32} {n : Nat} {yc ya ys yd : Nat → Int32} {q : Nat} {zc zp zr zs zf : Nat → Int32} {z : Nat} {zm zt : Int64} {pe tp fu sh ro : Nat → Int32} {th : Int32} {fo : Nat → Int64} {i9 : Nat} (hi9 : 5 * i9 + 5 ≤ L) (hL9 : L ≤ 2560) {H : Heap} {locs : List Loc} {cells slots : Nat} (hc1 : cells ≤ 37 + i9) (hs1 : slots ≤ 1333 + 6 * i9) (hPC : va_P (dC, dI) vwCl (wC cI cZ ad sm fe ex dy gp gc op gr st dl wo n yc ya ys yd q zc zp zr zs zf z zm zt) H) (hPM : va_P (dC, dI) vwCl (wM cI cZ am sm fe ex gp gc dy n pe gr st dl wo q yc ya yd ys tp fu sh ro th) H) (hPo : va_P (dC, dI) vwCl [(o9, .inl (cJ, 1, .inr (.inl fo)))] H) (hS : va_S (fun q : Nat => s.heap.size ≤ q) s.heap H locs)  {ls : Array Slot} (hl : lv_has ls 7 [(4, .int (nI (5 * i9))), (0, .ref b), (1, .ref (ad 0)), (2, .ref (am 0)), (3, .ref o9)]) (kk : ∀ (fo2 : Nat → Int64) (H2 : Heap) (locs2 : List Loc) (c2 s2 : Nat), c2 ≤ 38 + i9 → s2 ≤ 1339 + 6 * i9 → va_P (dC, dI) vwCl (wC cI cZ ad sm fe ex dy gp gc op gr st dl wo n yc ya ys yd q zc zp zr zs zf z zm zt) H2 → va_P (dC, dI) vwCl (wM cI cZ am sm fe ex gp gc dy n pe gr st dl wo q yc ya yd ys tp fu sh ro (nI 0)) H2 → va_P (dC, dI) vwCl [(o9, .inl (cJ, 1, .inr (.inl fo2)))] H2 → va_S (fun q : Nat => s.heap.size ≤ q) s.heap H2 locs2 → ∀ ls, lv_has ls 7 [(4, .int (nI (5 * i9))), (0, .ref b), (1, .ref (ad 0)), (2, .ref (am 0)), (3, .ref o9)] → W p l e room_1 s m #[Value.ref b] below meth c H2 locs2 c2 s2 (lw_Z below #[Value.ref b] s) (F0 m 1529 ls [])) : W p l e room_1 s m #[Value.ref b] below meth c H locs cells slots (lw_Z below #[Value.ref b] s) (F0 m 824 ls []) := by
  obtain ⟨hx, hb, hr, hml, hown, hts0, hX, hbl, hlocks, hgv⟩ := id C0
  obtain ⟨⟨hI, hIm⟩, ⟨hoC, hoM, hCM⟩, ⟨hAC, hAM, hAo⟩, hK, hKJ, hN⟩ := id CC
  have hts : ∀ w ∈ wsL_law, w.before #[Value.ref b] s = true := fun w hw => hts0 w (wsL_law_in w hw)
  have hown : s.vm.findClass RL = some m.cls := hown
  have hbA : ¬ (fun q : Nat => s.heap.size ≤ q) b := Nat.not_le.mpr hbl
  have hT : tX (fun q => s.heap.size ≤ q) s H := zz_kT hT0 hS
  refine lv_aload_n hx hb dL_law_824 rfl (lv_at hl 2 rfl) ?_
  refine k_X3_today l  hx hb hml hown hts hK hPC gL_law_X3_today ⟨Nat.le_of_ble_eq_true rfl, Nat.le_of_ble_eq_true rfl⟩ ⟨show cells + 0 ≤ 1083 by omega, show slots + 0 ≤ 9657 by omega⟩ hl.1 (Nat.le_of_ble_eq_true rfl) dL_law_825 ?_
  refine lv_aload_n hx hb dL_law_828 rfl (lv_at hl 3 rfl) ?_
  refine k_X4_today l  hx hb hml hown hts hK hPM gL_law_X4_today ⟨Nat.le_of_ble_eq_true rfl, Nat.le_of_ble_eq_true rfl⟩ ⟨show cells + 0 ≤ 1083 by omega, show slots + 0 ≤ 9657 by omega⟩ hl.1 (Nat.le_of_ble_eq_true rfl) dL_law_829 hIm hAM hS (fun H2 locs hPM hS hf => ?_)
  have hPC := zz_kC hI hPC (fun x h1 h2 => hf x h1 (fun h3 => hCM x h2 h3))
  have hPo := zz_ko hPo (hf _ (zz_lt hPo) hoM)
  refine lv_icmp_eq (tgt := 1529) hx hb dL_law_832 (by decide) (fun _ => ?_) (fun h9 => absurd rfl h9)
  exact kk _ _ _ _ _ (by omega) (by omega) hPC hPM hPo hS ls hl
set_option maxHeartbeats 4000000 in
set_option maxRecDepth 100000 in
theorem lo_claims {p : Program} {e : Env} {s : State} {m : MethodId} {below : List Frame} {meth : Method} {c : Code} (l : Launch) (hfl : l.stackTraces = false) {b L : Nat} {xs : Nat → Int32} (C0 : lw_At p s m meth c b L xs) {dC : Nat → ClassId} {dI : Nat → Nat → Nat} {cI cZ cJ : ClassId} {ad am : Nat → Nat} {o9 : Nat} (CC : lwC dC dI cI cZ cJ ad am o9 s) (hT0 : tX (fun q => s.heap.size ≤ q) s s.heap) {sm fe ex dy : Int32} {gp gc op gr st dl wo : Nat → Int32} {n : Nat} {yc ya ys yd : Nat → Int32} {q : Nat} {zc zp zr zs zf : Nat → Int32} {z : Nat} {zm zt : Int64} {pe tp fu sh ro : Nat → Int32} {th : Int32} {fo : Nat → Int64} {i9 : Nat} (hi9 : 5 * i9 + 5 ≤ L) (hL9 : L ≤ 2560) {H : Heap} {locs : List Loc} {cells slots : Nat} (hc1 : cells ≤ 37 + i9) (hs1 : slots ≤ 1333 + 6 * i9) (hPC : va_P (dC, dI) vwCl (wC cI cZ ad sm fe ex dy gp gc op gr st dl wo n yc ya ys yd q zc zp zr zs zf z zm zt) H) (hPM : va_P (dC, dI) vwCl (wM cI cZ am sm fe ex gp gc dy n pe gr st dl wo q yc ya yd ys tp fu sh ro th) H) (hPo : va_P (dC, dI) vwCl [(o9, .inl (cJ, 1, .inr (.inl fo)))] H) (hS : va_S (fun q : Nat => s.heap.size ≤ q) s.heap H locs)  {ls : Array Slot} (hl : lv_has ls 7 [(4, .int (nI (5 * i9))), (0, .ref b), (1, .ref (ad 0)), (2, .ref (am 0)), (3, .ref o9)]) (kk : ∀ (fo2 : Nat → Int64) (H2 : Heap) (locs2 : List Loc) (c2 s2 : Nat), c2 ≤ 38 + i9 → s2 ≤ 1339 + 6 * i9 → va_P (dC, dI) vwCl (wC cI cZ ad sm fe ex dy gp gc op gr st dl wo n yc ya ys yd q zc zp zr zs zf z zm zt) H2 → va_P (dC, dI) vwCl (wM cI cZ am sm fe ex gp gc dy n pe gr st dl wo q yc ya yd ys tp fu sh ro (nI 0)) H2 → va_P (dC, dI) vwCl [(o9, .inl (cJ, 1, .inr (.inl fo2)))] H2 → va_S (fun q : Nat => s.heap.size ≤ q) s.heap H2 locs2 → ∀ ls, lv_has ls 7 [(4, .int (nI (5 * i9))), (0, .ref b), (1, .ref (ad 0)), (2, .ref (am 0)), (3, .ref o9)] → W p l e room_1 s m #[Value.ref b] below meth c H2 locs2 c2 s2 (lw_Z below #[Value.ref b] s) (F0 m 1529 ls [])) : W p l e room_1 s m #[Value.ref b] below meth c H locs cells slots (lw_Z below #[Value.ref b] s) (F0 m 837 ls []) := by
  obtain ⟨hx, hb, hr, hml, hown, hts0, hX, hbl, hlocks, hgv⟩ := id C0
  obtain ⟨⟨hI, hIm⟩, ⟨hoC, hoM, hCM⟩, ⟨hAC, hAM, hAo⟩, hK, hKJ, hN⟩ := id CC
  have hts : ∀ w ∈ wsL_law, w.before #[Value.ref b] s = true := fun w hw => hts0 w (wsL_law_in w hw)
  have hown : s.vm.findClass RL = some m.cls := hown
  have hbA : ¬ (fun q : Nat => s.heap.size ≤ q) b := Nat.not_le.mpr hbl
  have hT : tX (fun q => s.heap.size ≤ q) s H := zz_kT hT0 hS
  refine lv_aload_n hx hb dL_law_837 rfl (lv_at hl 2 rfl) ?_
  refine k_X3_claims l  hx hb hml hown hts hK hPC gL_law_X3_claims ⟨Nat.le_of_ble_eq_true rfl, Nat.le_of_ble_eq_true rfl⟩ ⟨show cells + 0 ≤ 1083 by omega, show slots + 0 ≤ 9657 by omega⟩ hl.1 (Nat.le_of_ble_eq_true rfl) dL_law_838 ?_
  refine lv_aload_n hx hb dL_law_841 rfl (lv_at hl 3 rfl) ?_
  refine k_X4_claims l  hx hb hml hown hts hK hPM gL_law_X4_claims ⟨Nat.le_of_ble_eq_true rfl, Nat.le_of_ble_eq_true rfl⟩ ⟨show cells + 0 ≤ 1083 by omega, show slots + 0 ≤ 9657 by omega⟩ hl.1 (Nat.le_of_ble_eq_true rfl) dL_law_842 hIm hAM hS (fun H2 locs hPM hS hf => ?_)
  have hPC := zz_kC hI hPC (fun x h1 h2 => hf x h1 (fun h3 => hCM x h2 h3))
  have hPo := zz_ko hPo (hf _ (zz_lt hPo) hoM)
  refine lv_icmp_eq (tgt := 1529) hx hb dL_law_845 (by decide) (fun _ => ?_) (fun h9 => absurd rfl h9)
  exact kk _ _ _ _ _ (by omega) (by omega) hPC hPM hPo hS ls hl
set_option maxHeartbeats 4000000 in
set_option maxRecDepth 100000 in
theorem lo_moneyLeft {p : Program} {e : Env} {s : State} {m : MethodId} {below : List Frame} {meth : Method} {c : Code} (l : Launch) (hfl : l.stackTraces = false) {b L : Nat} {xs : Nat → Int32} (C0 : lw_At p s m meth c b L xs) {dC : Nat → ClassId} {dI : Nat → Nat → Nat} {cI cZ cJ : ClassId} {ad am : Nat → Nat} {o9 : Nat} (CC : lwC dC dI cI cZ cJ ad am o9 s) (hT0 : tX (fun q => s.heap.size ≤ q) s s.heap) {sm fe ex dy : Int32} {gp gc op gr st dl wo : Nat → Int32} {n : Nat} {yc ya ys yd : Nat → Int32} {q : Nat} {zc zp zr zs zf : Nat → Int32} {z : Nat} {zm zt : Int64} {pe tp fu sh ro : Nat → Int32} {th : Int32} {fo : Nat → Int64} {i9 : Nat} (hi9 : 5 * i9 + 5 ≤ L) (hL9 : L ≤ 2560) {H : Heap} {locs : List Loc} {cells slots : Nat} (hc1 : cells ≤ 37 + i9) (hs1 : slots ≤ 1333 + 6 * i9) (hPC : va_P (dC, dI) vwCl (wC cI cZ ad sm fe ex dy gp gc op gr st dl wo n yc ya ys yd q zc zp zr zs zf z zm zt) H) (hPM : va_P (dC, dI) vwCl (wM cI cZ am sm fe ex gp gc dy n pe gr st dl wo q yc ya yd ys tp fu sh ro th) H) (hPo : va_P (dC, dI) vwCl [(o9, .inl (cJ, 1, .inr (.inl fo)))] H) (hS : va_S (fun q : Nat => s.heap.size ≤ q) s.heap H locs) (hq : q ≤ 100) {ls : Array Slot} (hl : lv_has ls 7 [(4, .int (nI (5 * i9))), (0, .ref b), (1, .ref (ad 0)), (2, .ref (am 0)), (3, .ref o9)]) (kk : ∀ (fo2 : Nat → Int64) (H2 : Heap) (locs2 : List Loc) (c2 s2 : Nat), c2 ≤ 38 + i9 → s2 ≤ 1339 + 6 * i9 → va_P (dC, dI) vwCl (wC cI cZ ad sm fe ex dy gp gc op gr st dl wo n yc ya ys yd q zc zp zr zs zf z zm zt) H2 → va_P (dC, dI) vwCl (wM cI cZ am sm fe ex gp gc dy n pe gr st dl wo q yc ya yd ys tp fu sh ro (nI 0)) H2 → va_P (dC, dI) vwCl [(o9, .inl (cJ, 1, .inr (.inl fo2)))] H2 → va_S (fun q : Nat => s.heap.size ≤ q) s.heap H2 locs2 → ∀ ls, lv_has ls 7 [(4, .int (nI (5 * i9))), (0, .ref b), (1, .ref (ad 0)), (2, .ref (am 0)), (3, .ref o9)] → W p l e room_1 s m #[Value.ref b] below meth c H2 locs2 c2 s2 (lw_Z below #[Value.ref b] s) (F0 m 1529 ls [])) : W p l e room_1 s m #[Value.ref b] below meth c H locs cells slots (lw_Z below #[Value.ref b] s) (F0 m 1186 ls []) := by
  obtain ⟨hx, hb, hr, hml, hown, hts0, hX, hbl, hlocks, hgv⟩ := id C0
  obtain ⟨⟨hI, hIm⟩, ⟨hoC, hoM, hCM⟩, ⟨hAC, hAM, hAo⟩, hK, hKJ, hN⟩ := id CC
  have hts : ∀ w ∈ wsL_law, w.before #[Value.ref b] s = true := fun w hw => hts0 w (wsL_law_in w hw)
  have hown : s.vm.findClass RL = some m.cls := hown
  have hbA : ¬ (fun q : Nat => s.heap.size ≤ q) b := Nat.not_le.mpr hbl
  have hT : tX (fun q => s.heap.size ≤ q) s H := zz_kT hT0 hS
  refine lv_aload_n hx hb dL_law_1186 rfl (lv_at hl 2 rfl) ?_
  refine k_X3_moneyLeft l (hq := hq) hx hb hml hown hts hK hPC gL_law_X3_moneyLeft ⟨Nat.le_of_ble_eq_true rfl, Nat.le_of_ble_eq_true rfl⟩ ⟨show cells + 0 ≤ 1083 by omega, show slots + 0 ≤ 9657 by omega⟩ hl.1 (Nat.le_of_ble_eq_true rfl) dL_law_1187 ?_
  refine lv_aload_n hx hb dL_law_1190 rfl (lv_at hl 3 rfl) ?_
  refine k_X4_moneyLeft l (hq := hq) hx hb hml hown hts hK hPM gL_law_X4_moneyLeft ⟨Nat.le_of_ble_eq_true rfl, Nat.le_of_ble_eq_true rfl⟩ ⟨show cells + 0 ≤ 1083 by omega, show slots + 0 ≤ 9657 by omega⟩ hl.1 (Nat.le_of_ble_eq_true rfl) dL_law_1191 hIm hAM hS (fun H2 locs hPM hS hf => ?_)
  have hPC := zz_kC hI hPC (fun x h1 h2 => hf x h1 (fun h3 => hCM x h2 h3))
  have hPo := zz_ko hPo (hf _ (zz_lt hPo) hoM)
  refine lv_icmp_eq (tgt := 1529) hx hb dL_law_1194 (by decide) (fun _ => ?_) (fun h9 => absurd rfl h9)
  exact kk _ _ _ _ _ (by omega) (by omega) hPC hPM hPo hS ls hl
set_option maxHeartbeats 4000000 in
set_option maxRecDepth 100000 in
theorem lo_fee {p : Program} {e : Env} {s : State} {m : MethodId} {below : List Frame} {meth : Method} {c : Code} (l : Launch) (hfl : l.stackTraces = false) {b L : Nat} {xs : Nat → Int32} (C0 : lw_At p s m meth c b L xs) {dC : Nat → ClassId} {dI : Nat → Nat → Nat} {cI cZ cJ : ClassId} {ad am : Nat → Nat} {o9 : Nat} (CC : lwC dC dI cI cZ cJ ad am o9 s) (hT0 : tX (fun q => s.heap.size ≤ q) s s.heap) {sm fe ex dy : Int32} {gp gc op gr st dl wo : Nat → Int32} {n : Nat} {yc ya ys yd : Nat → Int32} {q : Nat} {zc zp zr zs zf : Nat → Int32} {z : Nat} {zm zt : Int64} {pe tp fu sh ro : Nat → Int32} {th : Int32} {fo : Nat → Int64} {i9 : Nat} (hi9 : 5 * i9 + 5 ≤ L) (hL9 : L ≤ 2560) {H : Heap} {locs : List Loc} {cells slots : Nat} (hc1 : cells ≤ 37 + i9) (hs1 : slots ≤ 1333 + 6 * i9) (hPC : va_P (dC, dI) vwCl (wC cI cZ ad sm fe ex dy gp gc op gr st dl wo n yc ya ys yd q zc zp zr zs zf z zm zt) H) (hPM : va_P (dC, dI) vwCl (wM cI cZ am sm fe ex gp gc dy n pe gr st dl wo q yc ya yd ys tp fu sh ro th) H) (hPo : va_P (dC, dI) vwCl [(o9, .inl (cJ, 1, .inr (.inl fo)))] H) (hS : va_S (fun q : Nat => s.heap.size ≤ q) s.heap H locs)  {ls : Array Slot} (hl : lv_has ls 7 [(4, .int (nI (5 * i9))), (0, .ref b), (1, .ref (ad 0)), (2, .ref (am 0)), (3, .ref o9)]) (kk : ∀ (fo2 : Nat → Int64) (H2 : Heap) (locs2 : List Loc) (c2 s2 : Nat), c2 ≤ 38 + i9 → s2 ≤ 1339 + 6 * i9 → va_P (dC, dI) vwCl (wC cI cZ ad sm fe ex dy gp gc op gr st dl wo n yc ya ys yd q zc zp zr zs zf z zm zt) H2 → va_P (dC, dI) vwCl (wM cI cZ am sm fe ex gp gc dy n pe gr st dl wo q yc ya yd ys tp fu sh ro (nI 0)) H2 → va_P (dC, dI) vwCl [(o9, .inl (cJ, 1, .inr (.inl fo2)))] H2 → va_S (fun q : Nat => s.heap.size ≤ q) s.heap H2 locs2 → ∀ ls, lv_has ls 7 [(4, .int (nI (5 * i9))), (0, .ref b), (1, .ref (ad 0)), (2, .ref (am 0)), (3, .ref o9)] → W p l e room_1 s m #[Value.ref b] below meth c H2 locs2 c2 s2 (lw_Z below #[Value.ref b] s) (F0 m 1529 ls [])) : W p l e room_1 s m #[Value.ref b] below meth c H locs cells slots (lw_Z below #[Value.ref b] s) (F0 m 1199 ls []) := by
  obtain ⟨hx, hb, hr, hml, hown, hts0, hX, hbl, hlocks, hgv⟩ := id C0
  obtain ⟨⟨hI, hIm⟩, ⟨hoC, hoM, hCM⟩, ⟨hAC, hAM, hAo⟩, hK, hKJ, hN⟩ := id CC
  have hts : ∀ w ∈ wsL_law, w.before #[Value.ref b] s = true := fun w hw => hts0 w (wsL_law_in w hw)
  have hown : s.vm.findClass RL = some m.cls := hown
  have hbA : ¬ (fun q : Nat => s.heap.size ≤ q) b := Nat.not_le.mpr hbl
  have hT : tX (fun q => s.heap.size ≤ q) s H := zz_kT hT0 hS
  refine lv_aload_n hx hb dL_law_1199 rfl (lv_at hl 2 rfl) ?_
  refine k_X3_fee l  hx hb hml hown hts hK hPC gL_law_X3_fee ⟨Nat.le_of_ble_eq_true rfl, Nat.le_of_ble_eq_true rfl⟩ ⟨show cells + 0 ≤ 1083 by omega, show slots + 0 ≤ 9657 by omega⟩ hl.1 (Nat.le_of_ble_eq_true rfl) dL_law_1200 ?_
  refine lv_aload_n hx hb dL_law_1203 rfl (lv_at hl 3 rfl) ?_
  refine k_X4_fee l  hx hb hml hown hts hK hPM gL_law_X4_fee ⟨Nat.le_of_ble_eq_true rfl, Nat.le_of_ble_eq_true rfl⟩ ⟨show cells + 0 ≤ 1083 by omega, show slots + 0 ≤ 9657 by omega⟩ hl.1 (Nat.le_of_ble_eq_true rfl) dL_law_1204 hIm hAM hS (fun H2 locs hPM hS hf => ?_)
  have hPC := zz_kC hI hPC (fun x h1 h2 => hf x h1 (fun h3 => hCM x h2 h3))
  have hPo := zz_ko hPo (hf _ (zz_lt hPo) hoM)
  refine lv_icmp_eq (tgt := 1529) hx hb dL_law_1207 (by decide) (fun _ => ?_) (fun h9 => absurd rfl h9)
  exact kk _ _ _ _ _ (by omega) (by omega) hPC hPM hPo hS ls hl
set_option maxHeartbeats 4000000 in
set_option maxRecDepth 100000 in
theorem lo_payments {p : Program} {e : Env} {s : State} {m : MethodId} {below : List Frame} {meth : Method} {c : Code} (l : Launch) (hfl : l.stackTraces = false) {b L : Nat} {xs : Nat → Int32} (C0 : lw_At p s m meth c b L xs) {dC : Nat → ClassId} {dI : Nat → Nat → Nat} {cI cZ cJ : ClassId} {ad am : Nat → Nat} {o9 : Nat} (CC : lwC dC dI cI cZ cJ ad am o9 s) (hT0 : tX (fun q => s.heap.size ≤ q) s s.heap) {sm fe ex dy : Int32} {gp gc op gr st dl wo : Nat → Int32} {n : Nat} {yc ya ys yd : Nat → Int32} {q : Nat} {zc zp zr zs zf : Nat → Int32} {z : Nat} {zm zt : Int64} {pe tp fu sh ro : Nat → Int32} {th : Int32} {fo : Nat → Int64} {i9 : Nat} (hi9 : 5 * i9 + 5 ≤ L) (hL9 : L ≤ 2560) {H : Heap} {locs : List Loc} {cells slots : Nat} (hc1 : cells ≤ 37 + i9) (hs1 : slots ≤ 1333 + 6 * i9) (hPC : va_P (dC, dI) vwCl (wC cI cZ ad sm fe ex dy gp gc op gr st dl wo n yc ya ys yd q zc zp zr zs zf z zm zt) H) (hPM : va_P (dC, dI) vwCl (wM cI cZ am sm fe ex gp gc dy n pe gr st dl wo q yc ya yd ys tp fu sh ro th) H) (hPo : va_P (dC, dI) vwCl [(o9, .inl (cJ, 1, .inr (.inl fo)))] H) (hS : va_S (fun q : Nat => s.heap.size ≤ q) s.heap H locs)  {ls : Array Slot} (hl : lv_has ls 7 [(4, .int (nI (5 * i9))), (0, .ref b), (1, .ref (ad 0)), (2, .ref (am 0)), (3, .ref o9)]) (kk : ∀ (fo2 : Nat → Int64) (H2 : Heap) (locs2 : List Loc) (c2 s2 : Nat), c2 ≤ 38 + i9 → s2 ≤ 1339 + 6 * i9 → va_P (dC, dI) vwCl (wC cI cZ ad sm fe ex dy gp gc op gr st dl wo n yc ya ys yd q zc zp zr zs zf z zm zt) H2 → va_P (dC, dI) vwCl (wM cI cZ am sm fe ex gp gc dy n pe gr st dl wo q yc ya yd ys tp fu sh ro (nI 0)) H2 → va_P (dC, dI) vwCl [(o9, .inl (cJ, 1, .inr (.inl fo2)))] H2 → va_S (fun q : Nat => s.heap.size ≤ q) s.heap H2 locs2 → ∀ ls, lv_has ls 7 [(4, .int (nI (5 * i9))), (0, .ref b), (1, .ref (ad 0)), (2, .ref (am 0)), (3, .ref o9)] → W p l e room_1 s m #[Value.ref b] below meth c H2 locs2 c2 s2 (lw_Z below #[Value.ref b] s) (F0 m 1529 ls [])) : W p l e room_1 s m #[Value.ref b] below meth c H locs cells slots (lw_Z below #[Value.ref b] s) (F0 m 1212 ls []) := by
  obtain ⟨hx, hb, hr, hml, hown, hts0, hX, hbl, hlocks, hgv⟩ := id C0
  obtain ⟨⟨hI, hIm⟩, ⟨hoC, hoM, hCM⟩, ⟨hAC, hAM, hAo⟩, hK, hKJ, hN⟩ := id CC
  have hts : ∀ w ∈ wsL_law, w.before #[Value.ref b] s = true := fun w hw => hts0 w (wsL_law_in w hw)
  have hown : s.vm.findClass RL = some m.cls := hown
  have hbA : ¬ (fun q : Nat => s.heap.size ≤ q) b := Nat.not_le.mpr hbl
  have hT : tX (fun q => s.heap.size ≤ q) s H := zz_kT hT0 hS
  refine lv_aload_n hx hb dL_law_1212 rfl (lv_at hl 2 rfl) ?_
  refine k_X3_payments l  hx hb hml hown hts hK hPC gL_law_X3_payments ⟨Nat.le_of_ble_eq_true rfl, Nat.le_of_ble_eq_true rfl⟩ ⟨show cells + 0 ≤ 1083 by omega, show slots + 0 ≤ 9657 by omega⟩ hl.1 (Nat.le_of_ble_eq_true rfl) dL_law_1213 ?_
  refine lv_aload_n hx hb dL_law_1216 rfl (lv_at hl 3 rfl) ?_
  refine k_X4_payments l  hx hb hml hown hts hK hPM gL_law_X4_payments ⟨Nat.le_of_ble_eq_true rfl, Nat.le_of_ble_eq_true rfl⟩ ⟨show cells + 0 ≤ 1083 by omega, show slots + 0 ≤ 9657 by omega⟩ hl.1 (Nat.le_of_ble_eq_true rfl) dL_law_1217 hIm hAM hS (fun H2 locs hPM hS hf => ?_)
  have hPC := zz_kC hI hPC (fun x h1 h2 => hf x h1 (fun h3 => hCM x h2 h3))
  have hPo := zz_ko hPo (hf _ (zz_lt hPo) hoM)
  refine lv_icmp_eq (tgt := 1529) hx hb dL_law_1220 (by decide) (fun _ => ?_) (fun h9 => absurd rfl h9)
  exact kk _ _ _ _ _ (by omega) (by omega) hPC hPM hPo hS ls hl
set_option maxHeartbeats 4000000 in
set_option maxRecDepth 100000 in
theorem lo_setFund_ok {p : Program} {e : Env} {s : State} {m : MethodId} {below : List Frame} {meth : Method} {c : Code} (l : Launch) (hfl : l.stackTraces = false) {b L : Nat} {xs : Nat → Int32} (C0 : lw_At p s m meth c b L xs) {dC : Nat → ClassId} {dI : Nat → Nat → Nat} {cI cZ cJ : ClassId} {ad am : Nat → Nat} {o9 : Nat} (CC : lwC dC dI cI cZ cJ ad am o9 s) (hT0 : tX (fun q => s.heap.size ≤ q) s s.heap) {sm fe ex dy : Int32} {gp gc op gr st dl wo : Nat → Int32} {n : Nat} {yc ya ys yd : Nat → Int32} {q : Nat} {zc zp zr zs zf : Nat → Int32} {z : Nat} {zm zt : Int64} {pe tp fu sh ro : Nat → Int32} {th : Int32} {fo : Nat → Int64} {x1 : Int32} {x2 : Int32} {x3 : Int32} {i9 : Nat} (hi9 : 5 * i9 + 5 ≤ L) (hL9 : L ≤ 2560) {H : Heap} {locs : List Loc} {cells slots : Nat} (hc1 : cells ≤ 37 + i9) (hs1 : slots ≤ 1333 + 6 * i9) (hPC : va_P (dC, dI) vwCl (wC cI cZ ad sm fe ex dy gp gc op gr st dl wo n yc ya ys yd q zc zp zr zs zf z zm zt) H) (hPM : va_P (dC, dI) vwCl (wM cI cZ am sm fe ex gp gc dy n pe gr st dl wo q yc ya yd ys tp fu sh ro th) H) (hPo : va_P (dC, dI) vwCl [(o9, .inl (cJ, 1, .inr (.inl fo)))] H) (hS : va_S (fun q : Nat => s.heap.size ≤ q) s.heap H locs) (e1 : xs (5 * i9 + 1) = x1) (e2 : xs (5 * i9 + 2) = x2) (e3 : xs (5 * i9 + 3) = x3) (ah1 : outN x1 (nI 0) (nI 10000000) = 0) (ah2 : outN x2 (nI 0) (nI 500) = 0) (ah3 : outN x3 (nI 0) (nI 1000000) = 0) (ah0 : q = 0) {ls : Array Slot} (hl : lv_has ls 7 [(4, .int (nI (5 * i9))), (0, .ref b), (1, .ref (ad 0)), (2, .ref (am 0)), (3, .ref o9)]) (kk : ∀ (fo2 : Nat → Int64) (H2 : Heap) (locs2 : List Loc) (c2 s2 : Nat), c2 ≤ 38 + i9 → s2 ≤ 1339 + 6 * i9 → va_P (dC, dI) vwCl (wC cI cZ ad x1 x2 x3 dy gp gc op gr st dl wo n yc ya ys yd q zc zp zr zs zf z zm zt) H2 → va_P (dC, dI) vwCl (wM cI cZ am x1 x2 x3 gp gc dy n pe gr st dl wo q yc ya yd ys tp fu sh ro (nI 0)) H2 → va_P (dC, dI) vwCl [(o9, .inl (cJ, 1, .inr (.inl fo2)))] H2 → va_S (fun q : Nat => s.heap.size ≤ q) s.heap H2 locs2 → ∀ ls, lv_has ls 7 [(4, .int (nI (5 * i9))), (0, .ref b), (1, .ref (ad 0)), (2, .ref (am 0)), (3, .ref o9)] → W p l e room_1 s m #[Value.ref b] below meth c H2 locs2 c2 s2 (lw_Z below #[Value.ref b] s) (F0 m 1529 ls [])) : W p l e room_1 s m #[Value.ref b] below meth c H locs cells slots (lw_Z below #[Value.ref b] s) (F0 m 156 ls []) := by
  obtain ⟨hx, hb, hr, hml, hown, hts0, hX, hbl, hlocks, hgv⟩ := id C0
  obtain ⟨⟨hI, hIm⟩, ⟨hoC, hoM, hCM⟩, ⟨hAC, hAM, hAo⟩, hK, hKJ, hN⟩ := id CC
  have hts : ∀ w ∈ wsL_law, w.before #[Value.ref b] s = true := fun w hw => hts0 w (wsL_law_in w hw)
  have hown : s.vm.findClass RL = some m.cls := hown
  have hbA : ¬ (fun q : Nat => s.heap.size ≤ q) b := Nat.not_le.mpr hbl
  have hT : tX (fun q => s.heap.size ≤ q) s H := zz_kT hT0 hS
  refine lv_aload_n hx hb dL_law_156 rfl (lv_at hl 2 rfl) ?_
  refine lv_aload_n hx hb dL_law_157 rfl (lv_at hl 1 rfl) ?_
  refine lv_iload hx hb dL_law_158 (lv_at hl 0 rfl) ?_
  refine lv_iconst (v := nI 1) hx hb dL_law_160 (by decide) ?_
  refine lv_iadd hx hb dL_law_161 ?_
  refine zt_i (y := nI (5 * i9 + 1)) (nI_add _ _) ?_
  refine va_sld hx hb hX hbl hbA hS (vp_in_nI (n := 5 * i9 + 1) (by omega) (by omega)) dL_law_162 ?_
  rw [nI_clamp (show 5 * i9 + 1 < 2 ^ 31 by omega)]
  rw [e1]
  refine lv_aload_n hx hb dL_law_163 rfl (lv_at hl 1 rfl) ?_
  refine lv_iload hx hb dL_law_164 (lv_at hl 0 rfl) ?_
  refine lv_iconst (v := nI 2) hx hb dL_law_166 (by decide) ?_
  refine lv_iadd hx hb dL_law_167 ?_
  refine zt_i (y := nI (5 * i9 + 2)) (nI_add _ _) ?_
  refine va_sld hx hb hX hbl hbA hS (vp_in_nI (n := 5 * i9 + 2) (by omega) (by omega)) dL_law_168 ?_
  rw [nI_clamp (show 5 * i9 + 2 < 2 ^ 31 by omega)]
  rw [e2]
  refine lv_aload_n hx hb dL_law_169 rfl (lv_at hl 1 rfl) ?_
  refine lv_iload hx hb dL_law_170 (lv_at hl 0 rfl) ?_
  refine lv_iconst (v := nI 3) hx hb dL_law_172 (by decide) ?_
  refine lv_iadd hx hb dL_law_173 ?_
  refine zt_i (y := nI (5 * i9 + 3)) (nI_add _ _) ?_
  refine va_sld hx hb hX hbl hbA hS (vp_in_nI (n := 5 * i9 + 3) (by omega) (by omega)) dL_law_174 ?_
  rw [nI_clamp (show 5 * i9 + 3 < 2 ^ 31 by omega)]
  rw [e3]
  refine lv_aload_n hx hb dL_law_175 rfl (lv_at hl 4 rfl) ?_
  refine kh_setFund_ok l (cJ := cJ) (o9 := o9) (fo := fo) (x1 := x1) (x2 := x2) (x3 := x3) (h1 := ah1) (h2 := ah2) (h3 := ah3) (h0 := ah0) hx hb hml hown hts hK hPC gL_law_L_setFund ⟨Nat.le_of_ble_eq_true rfl, Nat.le_of_ble_eq_true rfl⟩ ⟨show cells + 0 ≤ 1083 by omega, show slots + 0 ≤ 9657 by omega⟩ hl.1 (Nat.le_of_ble_eq_true rfl) dL_law_176 hI hoC hPo hKJ (fun x h => h.elim (hAC x) (fun h => by rw [h]; exact hAo)) hS (fun u9 H2 locs hPC fo hf9 hPo hS hz9 hf => ?_)
  have hPM := zz_kM hIm hPM (fun x h1 h2 => hf x h1 (fun h3 => h3.elim (fun h3 => hCM x h3 h2) (fun h3 => hoM (by rw [← h3]; exact h2))))
  refine lv_istore (lv' := [(5, .int (nI 0)), (4, .int (nI (5 * i9))), (0, .ref b), (1, .ref (ad 0)), (2, .ref (am 0)), (3, .ref o9)]) hx hb dL_law_179 hl (by decide) rfl (fun ls hl => ?_)
  refine lv_aload_n hx hb dL_law_181 rfl (lv_at hl 4 rfl) ?_
  refine lv_aload_n hx hb dL_law_182 rfl (lv_at hl 2 rfl) ?_
  refine lv_iload hx hb dL_law_183 (lv_at hl 1 rfl) ?_
  refine lv_iconst (v := nI 1) hx hb dL_law_185 (by decide) ?_
  refine lv_iadd hx hb dL_law_186 ?_
  refine zt_i (y := nI (5 * i9 + 1)) (nI_add _ _) ?_
  refine va_sld hx hb hX hbl hbA hS (vp_in_nI (n := 5 * i9 + 1) (by omega) (by omega)) dL_law_187 ?_
  rw [nI_clamp (show 5 * i9 + 1 < 2 ^ 31 by omega)]
  rw [e1]
  refine lv_aload_n hx hb dL_law_188 rfl (lv_at hl 2 rfl) ?_
  refine lv_iload hx hb dL_law_189 (lv_at hl 1 rfl) ?_
  refine lv_iconst (v := nI 2) hx hb dL_law_191 (by decide) ?_
  refine lv_iadd hx hb dL_law_192 ?_
  refine zt_i (y := nI (5 * i9 + 2)) (nI_add _ _) ?_
  refine va_sld hx hb hX hbl hbA hS (vp_in_nI (n := 5 * i9 + 2) (by omega) (by omega)) dL_law_193 ?_
  rw [nI_clamp (show 5 * i9 + 2 < 2 ^ 31 by omega)]
  rw [e2]
  refine lv_aload_n hx hb dL_law_194 rfl (lv_at hl 2 rfl) ?_
  refine lv_iload hx hb dL_law_195 (lv_at hl 1 rfl) ?_
  refine lv_iconst (v := nI 3) hx hb dL_law_197 (by decide) ?_
  refine lv_iadd hx hb dL_law_198 ?_
  refine zt_i (y := nI (5 * i9 + 3)) (nI_add _ _) ?_
  refine va_sld hx hb hX hbl hbA hS (vp_in_nI (n := 5 * i9 + 3) (by omega) (by omega)) dL_law_199 ?_
  rw [nI_clamp (show 5 * i9 + 3 < 2 ^ 31 by omega)]
  rw [e3]
  refine k_X4_setFund_ok l (x1 := x1) (x2 := x2) (x3 := x3) (h1 := ah1) (h2 := ah2) (h3 := ah3) (h0 := ah0) hx hb hml hown hts hK hPM gL_law_X4_setFund ⟨Nat.le_of_ble_eq_true rfl, Nat.le_of_ble_eq_true rfl⟩ ⟨show cells + 0 ≤ 1083 by omega, show slots + 0 ≤ 9657 by omega⟩ hl.1 (Nat.le_of_ble_eq_true rfl) dL_law_200 hIm hAM hS (fun H2 locs hPM hS hf => ?_)
  have hPC := zz_kC hI hPC (fun x h1 h2 => hf x h1 (fun h3 => hCM x h2 h3))
  have hPo := zz_ko hPo (hf _ (zz_lt hPo) hoM)
  refine lv_istore (lv' := [(6, .int (leftF x1 x2 x3 ya ys q)), (5, .int (nI 0)), (4, .int (nI (5 * i9))), (0, .ref b), (1, .ref (ad 0)), (2, .ref (am 0)), (3, .ref o9)]) hx hb dL_law_203 hl (by decide) rfl (fun ls hl => ?_)
  refine lv_aload_n hx hb dL_law_205 rfl (lv_at hl 5 rfl) ?_
  refine k_X4_thrown l hx hb hml hown hts hK hPM gL_law_X4_thrown ⟨Nat.le_of_ble_eq_true rfl, Nat.le_of_ble_eq_true rfl⟩ ⟨show cells + 0 ≤ 1083 by omega, show slots + 0 ≤ 9657 by omega⟩ hl.1 (Nat.le_of_ble_eq_true rfl) dL_law_206 ?_
  refine lv_iload hx hb dL_law_209 (lv_at hl 1 rfl) ?_
  refine lv_icmp_eq (tgt := 216) hx hb dL_law_211 (by decide) (fun _ => ?_) (fun h9 => absurd rfl h9)
  refine lv_iload hx hb dL_law_216 (lv_at hl 1 rfl) ?_
  refine lv_if_ne (tgt := 233) hx hb dL_law_218 (by decide) (fun h9 => absurd (by decide) h9) (fun _ => ?_)
  refine lv_aload_n hx hb dL_law_221 rfl (lv_at hl 6 rfl) ?_
  refine lv_iconst (v := nI 0) hx hb dL_law_222 (by decide) ?_
  refine va_lald hx hb hKJ hPo 0 0 rfl rfl (vp_in_nI (n := 0) (by decide) (by decide)) dL_law_223 ?_
  refine zt_l (y := (leftF x1 x2 x3 ya ys q).toInt64) (by rw [show (nI 0).toNatClampNeg = 0 by decide]; exact hf9) ?_
  refine lv_iload hx hb dL_law_224 (lv_at hl 0 rfl) ?_
  refine lv_i2l (v := (leftF x1 x2 x3 ya ys q).toInt64) hx hb dL_law_226 rfl ?_
  refine W.lcmp hx hb dL_law_227 ?_
  refine zg_eq (tgt := 233) hx hb dL_law_228 (by decide) (fun _ => ?_) (fun h9 => absurd (rfl) h9)
  refine lv_goto (tgt := 1529) hx hb dL_law_233 (by decide) ?_
  exact kk _ _ _ _ _ (by omega) (by omega) hPC hPM hPo hS ls (lv_sub hl [2, 3, 4, 5, 6] rfl)
set_option maxHeartbeats 4000000 in
set_option maxRecDepth 100000 in
theorem lo_setFund_iae {p : Program} {e : Env} {s : State} {m : MethodId} {below : List Frame} {meth : Method} {c : Code} (l : Launch) (hfl : l.stackTraces = false) {b L : Nat} {xs : Nat → Int32} (C0 : lw_At p s m meth c b L xs) {dC : Nat → ClassId} {dI : Nat → Nat → Nat} {cI cZ cJ : ClassId} {ad am : Nat → Nat} {o9 : Nat} (CC : lwC dC dI cI cZ cJ ad am o9 s) (hT0 : tX (fun q => s.heap.size ≤ q) s s.heap) {sm fe ex dy : Int32} {gp gc op gr st dl wo : Nat → Int32} {n : Nat} {yc ya ys yd : Nat → Int32} {q : Nat} {zc zp zr zs zf : Nat → Int32} {z : Nat} {zm zt : Int64} {pe tp fu sh ro : Nat → Int32} {th : Int32} {fo : Nat → Int64} {x1 : Int32} {x2 : Int32} {x3 : Int32} {i9 : Nat} (hi9 : 5 * i9 + 5 ≤ L) (hL9 : L ≤ 2560) {H : Heap} {locs : List Loc} {cells slots : Nat} (hc1 : cells ≤ 37 + i9) (hs1 : slots ≤ 1333 + 6 * i9) (hPC : va_P (dC, dI) vwCl (wC cI cZ ad sm fe ex dy gp gc op gr st dl wo n yc ya ys yd q zc zp zr zs zf z zm zt) H) (hPM : va_P (dC, dI) vwCl (wM cI cZ am sm fe ex gp gc dy n pe gr st dl wo q yc ya yd ys tp fu sh ro th) H) (hPo : va_P (dC, dI) vwCl [(o9, .inl (cJ, 1, .inr (.inl fo)))] H) (hS : va_S (fun q : Nat => s.heap.size ≤ q) s.heap H locs) (e1 : xs (5 * i9 + 1) = x1) (e2 : xs (5 * i9 + 2) = x2) (e3 : xs (5 * i9 + 3) = x3) (ah1 : ¬ (outN x1 (nI 0) (nI 10000000) = 0 ∧ outN x2 (nI 0) (nI 500) = 0 ∧ outN x3 (nI 0) (nI 1000000) = 0)) {ls : Array Slot} (hl : lv_has ls 7 [(4, .int (nI (5 * i9))), (0, .ref b), (1, .ref (ad 0)), (2, .ref (am 0)), (3, .ref o9)]) (kk : ∀ (fo2 : Nat → Int64) (H2 : Heap) (locs2 : List Loc) (c2 s2 : Nat), c2 ≤ 38 + i9 → s2 ≤ 1339 + 6 * i9 → va_P (dC, dI) vwCl (wC cI cZ ad sm fe ex dy gp gc op gr st dl wo n yc ya ys yd q zc zp zr zs zf z zm zt) H2 → va_P (dC, dI) vwCl (wM cI cZ am sm fe ex gp gc dy n pe gr st dl wo q yc ya yd ys tp fu sh ro (nI 1)) H2 → va_P (dC, dI) vwCl [(o9, .inl (cJ, 1, .inr (.inl fo2)))] H2 → va_S (fun q : Nat => s.heap.size ≤ q) s.heap H2 locs2 → ∀ ls, lv_has ls 7 [(4, .int (nI (5 * i9))), (0, .ref b), (1, .ref (ad 0)), (2, .ref (am 0)), (3, .ref o9)] → W p l e room_1 s m #[Value.ref b] below meth c H2 locs2 c2 s2 (lw_Z below #[Value.ref b] s) (F0 m 1529 ls [])) : W p l e room_1 s m #[Value.ref b] below meth c H locs cells slots (lw_Z below #[Value.ref b] s) (F0 m 156 ls []) := by
  obtain ⟨hx, hb, hr, hml, hown, hts0, hX, hbl, hlocks, hgv⟩ := id C0
  obtain ⟨⟨hI, hIm⟩, ⟨hoC, hoM, hCM⟩, ⟨hAC, hAM, hAo⟩, hK, hKJ, hN⟩ := id CC
  have hts : ∀ w ∈ wsL_law, w.before #[Value.ref b] s = true := fun w hw => hts0 w (wsL_law_in w hw)
  have hown : s.vm.findClass RL = some m.cls := hown
  have hbA : ¬ (fun q : Nat => s.heap.size ≤ q) b := Nat.not_le.mpr hbl
  have hT : tX (fun q => s.heap.size ≤ q) s H := zz_kT hT0 hS
  refine lv_aload_n hx hb dL_law_156 rfl (lv_at hl 2 rfl) ?_
  refine lv_aload_n hx hb dL_law_157 rfl (lv_at hl 1 rfl) ?_
  refine lv_iload hx hb dL_law_158 (lv_at hl 0 rfl) ?_
  refine lv_iconst (v := nI 1) hx hb dL_law_160 (by decide) ?_
  refine lv_iadd hx hb dL_law_161 ?_
  refine zt_i (y := nI (5 * i9 + 1)) (nI_add _ _) ?_
  refine va_sld hx hb hX hbl hbA hS (vp_in_nI (n := 5 * i9 + 1) (by omega) (by omega)) dL_law_162 ?_
  rw [nI_clamp (show 5 * i9 + 1 < 2 ^ 31 by omega)]
  rw [e1]
  refine lv_aload_n hx hb dL_law_163 rfl (lv_at hl 1 rfl) ?_
  refine lv_iload hx hb dL_law_164 (lv_at hl 0 rfl) ?_
  refine lv_iconst (v := nI 2) hx hb dL_law_166 (by decide) ?_
  refine lv_iadd hx hb dL_law_167 ?_
  refine zt_i (y := nI (5 * i9 + 2)) (nI_add _ _) ?_
  refine va_sld hx hb hX hbl hbA hS (vp_in_nI (n := 5 * i9 + 2) (by omega) (by omega)) dL_law_168 ?_
  rw [nI_clamp (show 5 * i9 + 2 < 2 ^ 31 by omega)]
  rw [e2]
  refine lv_aload_n hx hb dL_law_169 rfl (lv_at hl 1 rfl) ?_
  refine lv_iload hx hb dL_law_170 (lv_at hl 0 rfl) ?_
  refine lv_iconst (v := nI 3) hx hb dL_law_172 (by decide) ?_
  refine lv_iadd hx hb dL_law_173 ?_
  refine zt_i (y := nI (5 * i9 + 3)) (nI_add _ _) ?_
  refine va_sld hx hb hX hbl hbA hS (vp_in_nI (n := 5 * i9 + 3) (by omega) (by omega)) dL_law_174 ?_
  rw [nI_clamp (show 5 * i9 + 3 < 2 ^ 31 by omega)]
  rw [e3]
  refine lv_aload_n hx hb dL_law_175 rfl (lv_at hl 4 rfl) ?_
  refine kh_setFund_iae l hfl (cJ := cJ) (o9 := o9) (fo := fo) (x1 := x1) (x2 := x2) (x3 := x3) (h1 := ah1) hx hb hml hown hts hK hPC gL_law_L_setFund ⟨Nat.le_of_ble_eq_true rfl, Nat.le_of_ble_eq_true rfl⟩ ⟨show cells + 1 ≤ 1083 by omega, show slots + 6 ≤ 9657 by omega⟩ hl.1 (Nat.le_of_ble_eq_true rfl) dL_law_176 (hT.narrow (fun _ h => h.elim)) hN hS (fun H2 locs hS hz9 hf => ?_)
  have hPC := zz_kC hI hPC (fun x h1 _ => hf x h1)
  have hPM := zz_kM hIm hPM (fun x h1 _ => hf x h1)
  have hPo := zz_ko hPo (hf _ (zz_lt hPo))
  refine lv_istore (lv' := [(5, .int (nI 1)), (4, .int (nI (5 * i9))), (0, .ref b), (1, .ref (ad 0)), (2, .ref (am 0)), (3, .ref o9)]) hx hb dL_law_179 hl (by decide) rfl (fun ls hl => ?_)
  refine lv_aload_n hx hb dL_law_181 rfl (lv_at hl 4 rfl) ?_
  refine lv_aload_n hx hb dL_law_182 rfl (lv_at hl 2 rfl) ?_
  refine lv_iload hx hb dL_law_183 (lv_at hl 1 rfl) ?_
  refine lv_iconst (v := nI 1) hx hb dL_law_185 (by decide) ?_
  refine lv_iadd hx hb dL_law_186 ?_
  refine zt_i (y := nI (5 * i9 + 1)) (nI_add _ _) ?_
  refine va_sld hx hb hX hbl hbA hS (vp_in_nI (n := 5 * i9 + 1) (by omega) (by omega)) dL_law_187 ?_
  rw [nI_clamp (show 5 * i9 + 1 < 2 ^ 31 by omega)]
  rw [e1]
  refine lv_aload_n hx hb dL_law_188 rfl (lv_at hl 2 rfl) ?_
  refine lv_iload hx hb dL_law_189 (lv_at hl 1 rfl) ?_
  refine lv_iconst (v := nI 2) hx hb dL_law_191 (by decide) ?_
  refine lv_iadd hx hb dL_law_192 ?_
  refine zt_i (y := nI (5 * i9 + 2)) (nI_add _ _) ?_
  refine va_sld hx hb hX hbl hbA hS (vp_in_nI (n := 5 * i9 + 2) (by omega) (by omega)) dL_law_193 ?_
  rw [nI_clamp (show 5 * i9 + 2 < 2 ^ 31 by omega)]
  rw [e2]
  refine lv_aload_n hx hb dL_law_194 rfl (lv_at hl 2 rfl) ?_
  refine lv_iload hx hb dL_law_195 (lv_at hl 1 rfl) ?_
  refine lv_iconst (v := nI 3) hx hb dL_law_197 (by decide) ?_
  refine lv_iadd hx hb dL_law_198 ?_
  refine zt_i (y := nI (5 * i9 + 3)) (nI_add _ _) ?_
  refine va_sld hx hb hX hbl hbA hS (vp_in_nI (n := 5 * i9 + 3) (by omega) (by omega)) dL_law_199 ?_
  rw [nI_clamp (show 5 * i9 + 3 < 2 ^ 31 by omega)]
  rw [e3]
  refine k_X4_setFund_1 l (x1 := x1) (x2 := x2) (x3 := x3) (h1 := ah1) hx hb hml hown hts hK hPM gL_law_X4_setFund ⟨Nat.le_of_ble_eq_true rfl, Nat.le_of_ble_eq_true rfl⟩ ⟨show cells + 1 ≤ 1083 by omega, show slots + 6 ≤ 9657 by omega⟩ hl.1 (Nat.le_of_ble_eq_true rfl) dL_law_200 hIm hAM hS (fun H2 locs hPM hS hf => ?_)
  have hPC := zz_kC hI hPC (fun x h1 h2 => hf x h1 (fun h3 => hCM x h2 h3))
  have hPo := zz_ko hPo (hf _ (zz_lt hPo) hoM)
  refine lv_istore (lv' := [(6, .int (nI 0)), (5, .int (nI 1)), (4, .int (nI (5 * i9))), (0, .ref b), (1, .ref (ad 0)), (2, .ref (am 0)), (3, .ref o9)]) hx hb dL_law_203 hl (by decide) rfl (fun ls hl => ?_)
  refine lv_aload_n hx hb dL_law_205 rfl (lv_at hl 5 rfl) ?_
  refine k_X4_thrown l hx hb hml hown hts hK hPM gL_law_X4_thrown ⟨Nat.le_of_ble_eq_true rfl, Nat.le_of_ble_eq_true rfl⟩ ⟨show cells + 1 ≤ 1083 by omega, show slots + 6 ≤ 9657 by omega⟩ hl.1 (Nat.le_of_ble_eq_true rfl) dL_law_206 ?_
  refine lv_iload hx hb dL_law_209 (lv_at hl 1 rfl) ?_
  refine lv_icmp_eq (tgt := 216) hx hb dL_law_211 (by decide) (fun _ => ?_) (fun h9 => absurd rfl h9)
  refine lv_iload hx hb dL_law_216 (lv_at hl 1 rfl) ?_
  refine lv_if_ne (tgt := 233) hx hb dL_law_218 (by decide) (fun _ => ?_) (fun h9 => absurd h9 (by decide))
  refine lv_goto (tgt := 1529) hx hb dL_law_233 (by decide) ?_
  exact kk _ _ _ _ _ (by omega) (by omega) hPC hPM hPo hS ls (lv_sub hl [2, 3, 4, 5, 6] rfl)
set_option maxHeartbeats 4000000 in
set_option maxRecDepth 100000 in
theorem lo_setFund_ise {p : Program} {e : Env} {s : State} {m : MethodId} {below : List Frame} {meth : Method} {c : Code} (l : Launch) (hfl : l.stackTraces = false) {b L : Nat} {xs : Nat → Int32} (C0 : lw_At p s m meth c b L xs) {dC : Nat → ClassId} {dI : Nat → Nat → Nat} {cI cZ cJ : ClassId} {ad am : Nat → Nat} {o9 : Nat} (CC : lwC dC dI cI cZ cJ ad am o9 s) (hT0 : tX (fun q => s.heap.size ≤ q) s s.heap) {sm fe ex dy : Int32} {gp gc op gr st dl wo : Nat → Int32} {n : Nat} {yc ya ys yd : Nat → Int32} {q : Nat} {zc zp zr zs zf : Nat → Int32} {z : Nat} {zm zt : Int64} {pe tp fu sh ro : Nat → Int32} {th : Int32} {fo : Nat → Int64} {x1 : Int32} {x2 : Int32} {x3 : Int32} {i9 : Nat} (hi9 : 5 * i9 + 5 ≤ L) (hL9 : L ≤ 2560) {H : Heap} {locs : List Loc} {cells slots : Nat} (hc1 : cells ≤ 37 + i9) (hs1 : slots ≤ 1333 + 6 * i9) (hPC : va_P (dC, dI) vwCl (wC cI cZ ad sm fe ex dy gp gc op gr st dl wo n yc ya ys yd q zc zp zr zs zf z zm zt) H) (hPM : va_P (dC, dI) vwCl (wM cI cZ am sm fe ex gp gc dy n pe gr st dl wo q yc ya yd ys tp fu sh ro th) H) (hPo : va_P (dC, dI) vwCl [(o9, .inl (cJ, 1, .inr (.inl fo)))] H) (hS : va_S (fun q : Nat => s.heap.size ≤ q) s.heap H locs) (e1 : xs (5 * i9 + 1) = x1) (e2 : xs (5 * i9 + 2) = x2) (e3 : xs (5 * i9 + 3) = x3) (ah1 : outN x1 (nI 0) (nI 10000000) = 0) (ah2 : outN x2 (nI 0) (nI 500) = 0) (ah3 : outN x3 (nI 0) (nI 1000000) = 0) (ahq : q ≤ 100) (ah0 : ¬ q = 0) {ls : Array Slot} (hl : lv_has ls 7 [(4, .int (nI (5 * i9))), (0, .ref b), (1, .ref (ad 0)), (2, .ref (am 0)), (3, .ref o9)]) (kk : ∀ (fo2 : Nat → Int64) (H2 : Heap) (locs2 : List Loc) (c2 s2 : Nat), c2 ≤ 38 + i9 → s2 ≤ 1339 + 6 * i9 → va_P (dC, dI) vwCl (wC cI cZ ad sm fe ex dy gp gc op gr st dl wo n yc ya ys yd q zc zp zr zs zf z zm zt) H2 → va_P (dC, dI) vwCl (wM cI cZ am sm fe ex gp gc dy n pe gr st dl wo q yc ya yd ys tp fu sh ro (nI 2)) H2 → va_P (dC, dI) vwCl [(o9, .inl (cJ, 1, .inr (.inl fo2)))] H2 → va_S (fun q : Nat => s.heap.size ≤ q) s.heap H2 locs2 → ∀ ls, lv_has ls 7 [(4, .int (nI (5 * i9))), (0, .ref b), (1, .ref (ad 0)), (2, .ref (am 0)), (3, .ref o9)] → W p l e room_1 s m #[Value.ref b] below meth c H2 locs2 c2 s2 (lw_Z below #[Value.ref b] s) (F0 m 1529 ls [])) : W p l e room_1 s m #[Value.ref b] below meth c H locs cells slots (lw_Z below #[Value.ref b] s) (F0 m 156 ls []) := by
  obtain ⟨hx, hb, hr, hml, hown, hts0, hX, hbl, hlocks, hgv⟩ := id C0
  obtain ⟨⟨hI, hIm⟩, ⟨hoC, hoM, hCM⟩, ⟨hAC, hAM, hAo⟩, hK, hKJ, hN⟩ := id CC
  have hts : ∀ w ∈ wsL_law, w.before #[Value.ref b] s = true := fun w hw => hts0 w (wsL_law_in w hw)
  have hown : s.vm.findClass RL = some m.cls := hown
  have hbA : ¬ (fun q : Nat => s.heap.size ≤ q) b := Nat.not_le.mpr hbl
  have hT : tX (fun q => s.heap.size ≤ q) s H := zz_kT hT0 hS
  refine lv_aload_n hx hb dL_law_156 rfl (lv_at hl 2 rfl) ?_
  refine lv_aload_n hx hb dL_law_157 rfl (lv_at hl 1 rfl) ?_
  refine lv_iload hx hb dL_law_158 (lv_at hl 0 rfl) ?_
  refine lv_iconst (v := nI 1) hx hb dL_law_160 (by decide) ?_
  refine lv_iadd hx hb dL_law_161 ?_
  refine zt_i (y := nI (5 * i9 + 1)) (nI_add _ _) ?_
  refine va_sld hx hb hX hbl hbA hS (vp_in_nI (n := 5 * i9 + 1) (by omega) (by omega)) dL_law_162 ?_
  rw [nI_clamp (show 5 * i9 + 1 < 2 ^ 31 by omega)]
  rw [e1]
  refine lv_aload_n hx hb dL_law_163 rfl (lv_at hl 1 rfl) ?_
  refine lv_iload hx hb dL_law_164 (lv_at hl 0 rfl) ?_
  refine lv_iconst (v := nI 2) hx hb dL_law_166 (by decide) ?_
  refine lv_iadd hx hb dL_law_167 ?_
  refine zt_i (y := nI (5 * i9 + 2)) (nI_add _ _) ?_
  refine va_sld hx hb hX hbl hbA hS (vp_in_nI (n := 5 * i9 + 2) (by omega) (by omega)) dL_law_168 ?_
  rw [nI_clamp (show 5 * i9 + 2 < 2 ^ 31 by omega)]
  rw [e2]
  refine lv_aload_n hx hb dL_law_169 rfl (lv_at hl 1 rfl) ?_
  refine lv_iload hx hb dL_law_170 (lv_at hl 0 rfl) ?_
  refine lv_iconst (v := nI 3) hx hb dL_law_172 (by decide) ?_
  refine lv_iadd hx hb dL_law_173 ?_
  refine zt_i (y := nI (5 * i9 + 3)) (nI_add _ _) ?_
  refine va_sld hx hb hX hbl hbA hS (vp_in_nI (n := 5 * i9 + 3) (by omega) (by omega)) dL_law_174 ?_
  rw [nI_clamp (show 5 * i9 + 3 < 2 ^ 31 by omega)]
  rw [e3]
  refine lv_aload_n hx hb dL_law_175 rfl (lv_at hl 4 rfl) ?_
  refine kh_setFund_ise l hfl (cJ := cJ) (o9 := o9) (fo := fo) (x1 := x1) (x2 := x2) (x3 := x3) (h1 := ah1) (h2 := ah2) (h3 := ah3) (hq := ahq) (h0 := ah0) hx hb hml hown hts hK hPC gL_law_L_setFund ⟨Nat.le_of_ble_eq_true rfl, Nat.le_of_ble_eq_true rfl⟩ ⟨show cells + 1 ≤ 1083 by omega, show slots + 6 ≤ 9657 by omega⟩ hl.1 (Nat.le_of_ble_eq_true rfl) dL_law_176 (hT.narrow (fun _ h => h.elim)) hN hS (fun H2 locs hS hz9 hf => ?_)
  have hPC := zz_kC hI hPC (fun x h1 _ => hf x h1)
  have hPM := zz_kM hIm hPM (fun x h1 _ => hf x h1)
  have hPo := zz_ko hPo (hf _ (zz_lt hPo))
  refine lv_istore (lv' := [(5, .int (nI 2)), (4, .int (nI (5 * i9))), (0, .ref b), (1, .ref (ad 0)), (2, .ref (am 0)), (3, .ref o9)]) hx hb dL_law_179 hl (by decide) rfl (fun ls hl => ?_)
  refine lv_aload_n hx hb dL_law_181 rfl (lv_at hl 4 rfl) ?_
  refine lv_aload_n hx hb dL_law_182 rfl (lv_at hl 2 rfl) ?_
  refine lv_iload hx hb dL_law_183 (lv_at hl 1 rfl) ?_
  refine lv_iconst (v := nI 1) hx hb dL_law_185 (by decide) ?_
  refine lv_iadd hx hb dL_law_186 ?_
  refine zt_i (y := nI (5 * i9 + 1)) (nI_add _ _) ?_
  refine va_sld hx hb hX hbl hbA hS (vp_in_nI (n := 5 * i9 + 1) (by omega) (by omega)) dL_law_187 ?_
  rw [nI_clamp (show 5 * i9 + 1 < 2 ^ 31 by omega)]
  rw [e1]
  refine lv_aload_n hx hb dL_law_188 rfl (lv_at hl 2 rfl) ?_
  refine lv_iload hx hb dL_law_189 (lv_at hl 1 rfl) ?_
  refine lv_iconst (v := nI 2) hx hb dL_law_191 (by decide) ?_
  refine lv_iadd hx hb dL_law_192 ?_
  refine zt_i (y := nI (5 * i9 + 2)) (nI_add _ _) ?_
  refine va_sld hx hb hX hbl hbA hS (vp_in_nI (n := 5 * i9 + 2) (by omega) (by omega)) dL_law_193 ?_
  rw [nI_clamp (show 5 * i9 + 2 < 2 ^ 31 by omega)]
  rw [e2]
  refine lv_aload_n hx hb dL_law_194 rfl (lv_at hl 2 rfl) ?_
  refine lv_iload hx hb dL_law_195 (lv_at hl 1 rfl) ?_
  refine lv_iconst (v := nI 3) hx hb dL_law_197 (by decide) ?_
  refine lv_iadd hx hb dL_law_198 ?_
  refine zt_i (y := nI (5 * i9 + 3)) (nI_add _ _) ?_
  refine va_sld hx hb hX hbl hbA hS (vp_in_nI (n := 5 * i9 + 3) (by omega) (by omega)) dL_law_199 ?_
  rw [nI_clamp (show 5 * i9 + 3 < 2 ^ 31 by omega)]
  rw [e3]
  refine k_X4_setFund_2 l (x1 := x1) (x2 := x2) (x3 := x3) (h1 := ah1) (h2 := ah2) (h3 := ah3) (hq := ahq) (h0 := ah0) hx hb hml hown hts hK hPM gL_law_X4_setFund ⟨Nat.le_of_ble_eq_true rfl, Nat.le_of_ble_eq_true rfl⟩ ⟨show cells + 1 ≤ 1083 by omega, show slots + 6 ≤ 9657 by omega⟩ hl.1 (Nat.le_of_ble_eq_true rfl) dL_law_200 hIm hAM hS (fun H2 locs hPM hS hf => ?_)
  have hPC := zz_kC hI hPC (fun x h1 h2 => hf x h1 (fun h3 => hCM x h2 h3))
  have hPo := zz_ko hPo (hf _ (zz_lt hPo) hoM)
  refine lv_istore (lv' := [(6, .int (nI 0)), (5, .int (nI 2)), (4, .int (nI (5 * i9))), (0, .ref b), (1, .ref (ad 0)), (2, .ref (am 0)), (3, .ref o9)]) hx hb dL_law_203 hl (by decide) rfl (fun ls hl => ?_)
  refine lv_aload_n hx hb dL_law_205 rfl (lv_at hl 5 rfl) ?_
  refine k_X4_thrown l hx hb hml hown hts hK hPM gL_law_X4_thrown ⟨Nat.le_of_ble_eq_true rfl, Nat.le_of_ble_eq_true rfl⟩ ⟨show cells + 1 ≤ 1083 by omega, show slots + 6 ≤ 9657 by omega⟩ hl.1 (Nat.le_of_ble_eq_true rfl) dL_law_206 ?_
  refine lv_iload hx hb dL_law_209 (lv_at hl 1 rfl) ?_
  refine lv_icmp_eq (tgt := 216) hx hb dL_law_211 (by decide) (fun _ => ?_) (fun h9 => absurd rfl h9)
  refine lv_iload hx hb dL_law_216 (lv_at hl 1 rfl) ?_
  refine lv_if_ne (tgt := 233) hx hb dL_law_218 (by decide) (fun _ => ?_) (fun h9 => absurd h9 (by decide))
  refine lv_goto (tgt := 1529) hx hb dL_law_233 (by decide) ?_
  exact kk _ _ _ _ _ (by omega) (by omega) hPC hPM hPo hS ls (lv_sub hl [2, 3, 4, 5, 6] rfl)
set_option maxHeartbeats 4000000 in
set_option maxRecDepth 100000 in
theorem lo_setGrade_ok {p : Program} {e : Env} {s : State} {m : MethodId} {below : List Frame} {meth : Method} {c : Code} (l : Launch) (hfl : l.stackTraces = false) {b L : Nat} {xs : Nat → Int32} (C0 : lw_At p s m meth c b L xs) {dC : Nat → ClassId} {dI : Nat → Nat → Nat} {cI cZ cJ : ClassId} {ad am : Nat → Nat} {o9 : Nat} (CC : lwC dC dI cI cZ cJ ad am o9 s) (hT0 : tX (fun q => s.heap.size ≤ q) s s.heap) {sm fe ex dy : Int32} {gp gc op gr st dl wo : Nat → Int32} {n : Nat} {yc ya ys yd : Nat → Int32} {q : Nat} {zc zp zr zs zf : Nat → Int32} {z : Nat} {zm zt : Int64} {pe tp fu sh ro : Nat → Int32} {th : Int32} {fo : Nat → Int64} {k : Nat} {x2 : Int32} {x3 : Int32} {i9 : Nat} (hi9 : 5 * i9 + 5 ≤ L) (hL9 : L ≤ 2560) {H : Heap} {locs : List Loc} {cells slots : Nat} (hc1 : cells ≤ 37 + i9) (hs1 : slots ≤ 1333 + 6 * i9) (hPC : va_P (dC, dI) vwCl (wC cI cZ ad sm fe ex dy gp gc op gr st dl wo n yc ya ys yd q zc zp zr zs zf z zm zt) H) (hPM : va_P (dC, dI) vwCl (wM cI cZ am sm fe ex gp gc dy n pe gr st dl wo q yc ya yd ys tp fu sh ro th) H) (hPo : va_P (dC, dI) vwCl [(o9, .inl (cJ, 1, .inr (.inl fo)))] H) (hS : va_S (fun q : Nat => s.heap.size ≤ q) s.heap H locs) (e1 : xs (5 * i9 + 1) = nI k) (e2 : xs (5 * i9 + 2) = x2) (e3 : xs (5 * i9 + 3) = x3) (ahk : k < 5) (ah1 : outN (nI k) (nI 0) (nI 4) = 0) (ah2 : outN x2 (nI 1) (nI 100) = 0) (ah3 : outN x3 (nI 1) (nI 1000000) = 0) (ah0 : q = 0) {ls : Array Slot} (hl : lv_has ls 7 [(4, .int (nI (5 * i9))), (0, .ref b), (1, .ref (ad 0)), (2, .ref (am 0)), (3, .ref o9)]) (kk : ∀ (fo2 : Nat → Int64) (H2 : Heap) (locs2 : List Loc) (c2 s2 : Nat), c2 ≤ 38 + i9 → s2 ≤ 1339 + 6 * i9 → va_P (dC, dI) vwCl (wC cI cZ ad sm fe ex dy (upd gp k x2) (upd gc k x3) op gr st dl wo n yc ya ys yd q zc zp zr zs zf z zm zt) H2 → va_P (dC, dI) vwCl (wM cI cZ am sm fe ex (upd gp k x2) (upd gc k x3) dy n pe gr st dl wo q yc ya yd ys tp fu sh ro (nI 0)) H2 → va_P (dC, dI) vwCl [(o9, .inl (cJ, 1, .inr (.inl fo2)))] H2 → va_S (fun q : Nat => s.heap.size ≤ q) s.heap H2 locs2 → ∀ ls, lv_has ls 7 [(4, .int (nI (5 * i9))), (0, .ref b), (1, .ref (ad 0)), (2, .ref (am 0)), (3, .ref o9)] → W p l e room_1 s m #[Value.ref b] below meth c H2 locs2 c2 s2 (lw_Z below #[Value.ref b] s) (F0 m 1529 ls [])) : W p l e room_1 s m #[Value.ref b] below meth c H locs cells slots (lw_Z below #[Value.ref b] s) (F0 m 236 ls []) := by
  obtain ⟨hx, hb, hr, hml, hown, hts0, hX, hbl, hlocks, hgv⟩ := id C0
  obtain ⟨⟨hI, hIm⟩, ⟨hoC, hoM, hCM⟩, ⟨hAC, hAM, hAo⟩, hK, hKJ, hN⟩ := id CC
  have hts : ∀ w ∈ wsL_law, w.before #[Value.ref b] s = true := fun w hw => hts0 w (wsL_law_in w hw)
  have hown : s.vm.findClass RL = some m.cls := hown
  have hbA : ¬ (fun q : Nat => s.heap.size ≤ q) b := Nat.not_le.mpr hbl
  have hT : tX (fun q => s.heap.size ≤ q) s H := zz_kT hT0 hS
  refine lv_aload_n hx hb dL_law_236 rfl (lv_at hl 2 rfl) ?_
  refine lv_aload_n hx hb dL_law_237 rfl (lv_at hl 1 rfl) ?_
  refine lv_iload hx hb dL_law_238 (lv_at hl 0 rfl) ?_
  refine lv_iconst (v := nI 1) hx hb dL_law_240 (by decide) ?_
  refine lv_iadd hx hb dL_law_241 ?_
  refine zt_i (y := nI (5 * i9 + 1)) (nI_add _ _) ?_
  refine va_sld hx hb hX hbl hbA hS (vp_in_nI (n := 5 * i9 + 1) (by omega) (by omega)) dL_law_242 ?_
  rw [nI_clamp (show 5 * i9 + 1 < 2 ^ 31 by omega)]
  rw [e1]
  refine lv_aload_n hx hb dL_law_243 rfl (lv_at hl 1 rfl) ?_
  refine lv_iload hx hb dL_law_244 (lv_at hl 0 rfl) ?_
  refine lv_iconst (v := nI 2) hx hb dL_law_246 (by decide) ?_
  refine lv_iadd hx hb dL_law_247 ?_
  refine zt_i (y := nI (5 * i9 + 2)) (nI_add _ _) ?_
  refine va_sld hx hb hX hbl hbA hS (vp_in_nI (n := 5 * i9 + 2) (by omega) (by omega)) dL_law_248 ?_
  rw [nI_clamp (show 5 * i9 + 2 < 2 ^ 31 by omega)]
  rw [e2]
  refine lv_aload_n hx hb dL_law_249 rfl (lv_at hl 1 rfl) ?_
  refine lv_iload hx hb dL_law_250 (lv_at hl 0 rfl) ?_
  refine lv_iconst (v := nI 3) hx hb dL_law_252 (by decide) ?_
  refine lv_iadd hx hb dL_law_253 ?_
  refine zt_i (y := nI (5 * i9 + 3)) (nI_add _ _) ?_
  refine va_sld hx hb hX hbl hbA hS (vp_in_nI (n := 5 * i9 + 3) (by omega) (by omega)) dL_law_254 ?_
  rw [nI_clamp (show 5 * i9 + 3 < 2 ^ 31 by omega)]
  rw [e3]
  refine kh_setGrade_ok l (cJ := cJ) (o9 := o9) (fo := fo) (k := k) (x2 := x2) (x3 := x3) (hk := ahk) (h1 := ah1) (h2 := ah2) (h3 := ah3) (h0 := ah0) hx hb hml hown hts hK hPC gL_law_L_setGrade ⟨Nat.le_of_ble_eq_true rfl, Nat.le_of_ble_eq_true rfl⟩ ⟨show cells + 0 ≤ 1083 by omega, show slots + 0 ≤ 9657 by omega⟩ hl.1 (Nat.le_of_ble_eq_true rfl) dL_law_255 hI hAC hS (fun u9 H2 locs hPC hS hz9 hf => ?_)
  have hPM := zz_kM hIm hPM (fun x h1 h2 => hf x h1 (fun h3 => hCM x h3 h2))
  have hPo := zz_ko hPo (hf _ (zz_lt hPo) hoC)
  refine lv_istore (lv' := [(5, .int (nI 0)), (4, .int (nI (5 * i9))), (0, .ref b), (1, .ref (ad 0)), (2, .ref (am 0)), (3, .ref o9)]) hx hb dL_law_258 hl (by decide) rfl (fun ls hl => ?_)
  refine lv_aload_n hx hb dL_law_260 rfl (lv_at hl 4 rfl) ?_
  refine lv_aload_n hx hb dL_law_261 rfl (lv_at hl 2 rfl) ?_
  refine lv_iload hx hb dL_law_262 (lv_at hl 1 rfl) ?_
  refine lv_iconst (v := nI 1) hx hb dL_law_264 (by decide) ?_
  refine lv_iadd hx hb dL_law_265 ?_
  refine zt_i (y := nI (5 * i9 + 1)) (nI_add _ _) ?_
  refine va_sld hx hb hX hbl hbA hS (vp_in_nI (n := 5 * i9 + 1) (by omega) (by omega)) dL_law_266 ?_
  rw [nI_clamp (show 5 * i9 + 1 < 2 ^ 31 by omega)]
  rw [e1]
  refine lv_aload_n hx hb dL_law_267 rfl (lv_at hl 2 rfl) ?_
  refine lv_iload hx hb dL_law_268 (lv_at hl 1 rfl) ?_
  refine lv_iconst (v := nI 2) hx hb dL_law_270 (by decide) ?_
  refine lv_iadd hx hb dL_law_271 ?_
  refine zt_i (y := nI (5 * i9 + 2)) (nI_add _ _) ?_
  refine va_sld hx hb hX hbl hbA hS (vp_in_nI (n := 5 * i9 + 2) (by omega) (by omega)) dL_law_272 ?_
  rw [nI_clamp (show 5 * i9 + 2 < 2 ^ 31 by omega)]
  rw [e2]
  refine lv_aload_n hx hb dL_law_273 rfl (lv_at hl 2 rfl) ?_
  refine lv_iload hx hb dL_law_274 (lv_at hl 1 rfl) ?_
  refine lv_iconst (v := nI 3) hx hb dL_law_276 (by decide) ?_
  refine lv_iadd hx hb dL_law_277 ?_
  refine zt_i (y := nI (5 * i9 + 3)) (nI_add _ _) ?_
  refine va_sld hx hb hX hbl hbA hS (vp_in_nI (n := 5 * i9 + 3) (by omega) (by omega)) dL_law_278 ?_
  rw [nI_clamp (show 5 * i9 + 3 < 2 ^ 31 by omega)]
  rw [e3]
  refine k_X4_setGrade_ok l (k := k) (x2 := x2) (x3 := x3) (hk := ahk) (h1 := ah1) (h2 := ah2) (h3 := ah3) (h0 := ah0) hx hb hml hown hts hK hPM gL_law_X4_setGrade ⟨Nat.le_of_ble_eq_true rfl, Nat.le_of_ble_eq_true rfl⟩ ⟨show cells + 0 ≤ 1083 by omega, show slots + 0 ≤ 9657 by omega⟩ hl.1 (Nat.le_of_ble_eq_true rfl) dL_law_279 hIm hAM hS (fun H2 locs hPM hS hf => ?_)
  have hPC := zz_kC hI hPC (fun x h1 h2 => hf x h1 (fun h3 => hCM x h2 h3))
  have hPo := zz_ko hPo (hf _ (zz_lt hPo) hoM)
  refine lv_aload_n hx hb dL_law_282 rfl (lv_at hl 4 rfl) ?_
  refine k_X4_thrown l hx hb hml hown hts hK hPM gL_law_X4_thrown ⟨Nat.le_of_ble_eq_true rfl, Nat.le_of_ble_eq_true rfl⟩ ⟨show cells + 0 ≤ 1083 by omega, show slots + 0 ≤ 9657 by omega⟩ hl.1 (Nat.le_of_ble_eq_true rfl) dL_law_283 ?_
  refine lv_iload hx hb dL_law_286 (lv_at hl 0 rfl) ?_
  refine lv_icmp_eq (tgt := 293) hx hb dL_law_288 (by decide) (fun _ => ?_) (fun h9 => absurd rfl h9)
  refine lv_goto (tgt := 1529) hx hb dL_law_293 (by decide) ?_
  exact kk _ _ _ _ _ (by omega) (by omega) hPC hPM hPo hS ls (lv_sub hl [1, 2, 3, 4, 5] rfl)
set_option maxHeartbeats 4000000 in
set_option maxRecDepth 100000 in
theorem lo_setGrade_ioobe {p : Program} {e : Env} {s : State} {m : MethodId} {below : List Frame} {meth : Method} {c : Code} (l : Launch) (hfl : l.stackTraces = false) {b L : Nat} {xs : Nat → Int32} (C0 : lw_At p s m meth c b L xs) {dC : Nat → ClassId} {dI : Nat → Nat → Nat} {cI cZ cJ : ClassId} {ad am : Nat → Nat} {o9 : Nat} (CC : lwC dC dI cI cZ cJ ad am o9 s) (hT0 : tX (fun q => s.heap.size ≤ q) s s.heap) {sm fe ex dy : Int32} {gp gc op gr st dl wo : Nat → Int32} {n : Nat} {yc ya ys yd : Nat → Int32} {q : Nat} {zc zp zr zs zf : Nat → Int32} {z : Nat} {zm zt : Int64} {pe tp fu sh ro : Nat → Int32} {th : Int32} {fo : Nat → Int64} {x1 : Int32} {x2 : Int32} {x3 : Int32} {i9 : Nat} (hi9 : 5 * i9 + 5 ≤ L) (hL9 : L ≤ 2560) {H : Heap} {locs : List Loc} {cells slots : Nat} (hc1 : cells ≤ 37 + i9) (hs1 : slots ≤ 1333 + 6 * i9) (hPC : va_P (dC, dI) vwCl (wC cI cZ ad sm fe ex dy gp gc op gr st dl wo n yc ya ys yd q zc zp zr zs zf z zm zt) H) (hPM : va_P (dC, dI) vwCl (wM cI cZ am sm fe ex gp gc dy n pe gr st dl wo q yc ya yd ys tp fu sh ro th) H) (hPo : va_P (dC, dI) vwCl [(o9, .inl (cJ, 1, .inr (.inl fo)))] H) (hS : va_S (fun q : Nat => s.heap.size ≤ q) s.heap H locs) (e1 : xs (5 * i9 + 1) = x1) (e2 : xs (5 * i9 + 2) = x2) (e3 : xs (5 * i9 + 3) = x3) (ah1 : ¬ outN x1 (nI 0) (nI 4) = 0) {ls : Array Slot} (hl : lv_has ls 7 [(4, .int (nI (5 * i9))), (0, .ref b), (1, .ref (ad 0)), (2, .ref (am 0)), (3, .ref o9)]) (kk : ∀ (fo2 : Nat → Int64) (H2 : Heap) (locs2 : List Loc) (c2 s2 : Nat), c2 ≤ 38 + i9 → s2 ≤ 1339 + 6 * i9 → va_P (dC, dI) vwCl (wC cI cZ ad sm fe ex dy gp gc op gr st dl wo n yc ya ys yd q zc zp zr zs zf z zm zt) H2 → va_P (dC, dI) vwCl (wM cI cZ am sm fe ex gp gc dy n pe gr st dl wo q yc ya yd ys tp fu sh ro (nI 1)) H2 → va_P (dC, dI) vwCl [(o9, .inl (cJ, 1, .inr (.inl fo2)))] H2 → va_S (fun q : Nat => s.heap.size ≤ q) s.heap H2 locs2 → ∀ ls, lv_has ls 7 [(4, .int (nI (5 * i9))), (0, .ref b), (1, .ref (ad 0)), (2, .ref (am 0)), (3, .ref o9)] → W p l e room_1 s m #[Value.ref b] below meth c H2 locs2 c2 s2 (lw_Z below #[Value.ref b] s) (F0 m 1529 ls [])) : W p l e room_1 s m #[Value.ref b] below meth c H locs cells slots (lw_Z below #[Value.ref b] s) (F0 m 236 ls []) := by
  obtain ⟨hx, hb, hr, hml, hown, hts0, hX, hbl, hlocks, hgv⟩ := id C0
  obtain ⟨⟨hI, hIm⟩, ⟨hoC, hoM, hCM⟩, ⟨hAC, hAM, hAo⟩, hK, hKJ, hN⟩ := id CC
  have hts : ∀ w ∈ wsL_law, w.before #[Value.ref b] s = true := fun w hw => hts0 w (wsL_law_in w hw)
  have hown : s.vm.findClass RL = some m.cls := hown
  have hbA : ¬ (fun q : Nat => s.heap.size ≤ q) b := Nat.not_le.mpr hbl
  have hT : tX (fun q => s.heap.size ≤ q) s H := zz_kT hT0 hS
  refine lv_aload_n hx hb dL_law_236 rfl (lv_at hl 2 rfl) ?_
  refine lv_aload_n hx hb dL_law_237 rfl (lv_at hl 1 rfl) ?_
  refine lv_iload hx hb dL_law_238 (lv_at hl 0 rfl) ?_
  refine lv_iconst (v := nI 1) hx hb dL_law_240 (by decide) ?_
  refine lv_iadd hx hb dL_law_241 ?_
  refine zt_i (y := nI (5 * i9 + 1)) (nI_add _ _) ?_
  refine va_sld hx hb hX hbl hbA hS (vp_in_nI (n := 5 * i9 + 1) (by omega) (by omega)) dL_law_242 ?_
  rw [nI_clamp (show 5 * i9 + 1 < 2 ^ 31 by omega)]
  rw [e1]
  refine lv_aload_n hx hb dL_law_243 rfl (lv_at hl 1 rfl) ?_
  refine lv_iload hx hb dL_law_244 (lv_at hl 0 rfl) ?_
  refine lv_iconst (v := nI 2) hx hb dL_law_246 (by decide) ?_
  refine lv_iadd hx hb dL_law_247 ?_
  refine zt_i (y := nI (5 * i9 + 2)) (nI_add _ _) ?_
  refine va_sld hx hb hX hbl hbA hS (vp_in_nI (n := 5 * i9 + 2) (by omega) (by omega)) dL_law_248 ?_
  rw [nI_clamp (show 5 * i9 + 2 < 2 ^ 31 by omega)]
  rw [e2]
  refine lv_aload_n hx hb dL_law_249 rfl (lv_at hl 1 rfl) ?_
  refine lv_iload hx hb dL_law_250 (lv_at hl 0 rfl) ?_
  refine lv_iconst (v := nI 3) hx hb dL_law_252 (by decide) ?_
  refine lv_iadd hx hb dL_law_253 ?_
  refine zt_i (y := nI (5 * i9 + 3)) (nI_add _ _) ?_
  refine va_sld hx hb hX hbl hbA hS (vp_in_nI (n := 5 * i9 + 3) (by omega) (by omega)) dL_law_254 ?_
  rw [nI_clamp (show 5 * i9 + 3 < 2 ^ 31 by omega)]
  rw [e3]
  refine kh_setGrade_ioobe l hfl (cJ := cJ) (o9 := o9) (fo := fo) (x1 := x1) (x2 := x2) (x3 := x3) (h1 := ah1) hx hb hml hown hts hK hPC gL_law_L_setGrade ⟨Nat.le_of_ble_eq_true rfl, Nat.le_of_ble_eq_true rfl⟩ ⟨show cells + 1 ≤ 1083 by omega, show slots + 6 ≤ 9657 by omega⟩ hl.1 (Nat.le_of_ble_eq_true rfl) dL_law_255 (hT.narrow (fun _ h => h.elim)) hN hS (fun H2 locs hS hz9 hf => ?_)
  have hPC := zz_kC hI hPC (fun x h1 _ => hf x h1)
  have hPM := zz_kM hIm hPM (fun x h1 _ => hf x h1)
  have hPo := zz_ko hPo (hf _ (zz_lt hPo))
  refine lv_istore (lv' := [(5, .int (nI 1)), (4, .int (nI (5 * i9))), (0, .ref b), (1, .ref (ad 0)), (2, .ref (am 0)), (3, .ref o9)]) hx hb dL_law_258 hl (by decide) rfl (fun ls hl => ?_)
  refine lv_aload_n hx hb dL_law_260 rfl (lv_at hl 4 rfl) ?_
  refine lv_aload_n hx hb dL_law_261 rfl (lv_at hl 2 rfl) ?_
  refine lv_iload hx hb dL_law_262 (lv_at hl 1 rfl) ?_
  refine lv_iconst (v := nI 1) hx hb dL_law_264 (by decide) ?_
  refine lv_iadd hx hb dL_law_265 ?_
  refine zt_i (y := nI (5 * i9 + 1)) (nI_add _ _) ?_
  refine va_sld hx hb hX hbl hbA hS (vp_in_nI (n := 5 * i9 + 1) (by omega) (by omega)) dL_law_266 ?_
  rw [nI_clamp (show 5 * i9 + 1 < 2 ^ 31 by omega)]
  rw [e1]
  refine lv_aload_n hx hb dL_law_267 rfl (lv_at hl 2 rfl) ?_
  refine lv_iload hx hb dL_law_268 (lv_at hl 1 rfl) ?_
  refine lv_iconst (v := nI 2) hx hb dL_law_270 (by decide) ?_
  refine lv_iadd hx hb dL_law_271 ?_
  refine zt_i (y := nI (5 * i9 + 2)) (nI_add _ _) ?_
  refine va_sld hx hb hX hbl hbA hS (vp_in_nI (n := 5 * i9 + 2) (by omega) (by omega)) dL_law_272 ?_
  rw [nI_clamp (show 5 * i9 + 2 < 2 ^ 31 by omega)]
  rw [e2]
  refine lv_aload_n hx hb dL_law_273 rfl (lv_at hl 2 rfl) ?_
  refine lv_iload hx hb dL_law_274 (lv_at hl 1 rfl) ?_
  refine lv_iconst (v := nI 3) hx hb dL_law_276 (by decide) ?_
  refine lv_iadd hx hb dL_law_277 ?_
  refine zt_i (y := nI (5 * i9 + 3)) (nI_add _ _) ?_
  refine va_sld hx hb hX hbl hbA hS (vp_in_nI (n := 5 * i9 + 3) (by omega) (by omega)) dL_law_278 ?_
  rw [nI_clamp (show 5 * i9 + 3 < 2 ^ 31 by omega)]
  rw [e3]
  refine k_X4_setGrade_1 l (x1 := x1) (x2 := x2) (x3 := x3) (h1 := ah1) hx hb hml hown hts hK hPM gL_law_X4_setGrade ⟨Nat.le_of_ble_eq_true rfl, Nat.le_of_ble_eq_true rfl⟩ ⟨show cells + 1 ≤ 1083 by omega, show slots + 6 ≤ 9657 by omega⟩ hl.1 (Nat.le_of_ble_eq_true rfl) dL_law_279 hIm hAM hS (fun H2 locs hPM hS hf => ?_)
  have hPC := zz_kC hI hPC (fun x h1 h2 => hf x h1 (fun h3 => hCM x h2 h3))
  have hPo := zz_ko hPo (hf _ (zz_lt hPo) hoM)
  refine lv_aload_n hx hb dL_law_282 rfl (lv_at hl 4 rfl) ?_
  refine k_X4_thrown l hx hb hml hown hts hK hPM gL_law_X4_thrown ⟨Nat.le_of_ble_eq_true rfl, Nat.le_of_ble_eq_true rfl⟩ ⟨show cells + 1 ≤ 1083 by omega, show slots + 6 ≤ 9657 by omega⟩ hl.1 (Nat.le_of_ble_eq_true rfl) dL_law_283 ?_
  refine lv_iload hx hb dL_law_286 (lv_at hl 0 rfl) ?_
  refine lv_icmp_eq (tgt := 293) hx hb dL_law_288 (by decide) (fun _ => ?_) (fun h9 => absurd rfl h9)
  refine lv_goto (tgt := 1529) hx hb dL_law_293 (by decide) ?_
  exact kk _ _ _ _ _ (by omega) (by omega) hPC hPM hPo hS ls (lv_sub hl [1, 2, 3, 4, 5] rfl)
set_option maxHeartbeats 4000000 in
set_option maxRecDepth 100000 in
theorem lo_setGrade_iae {p : Program} {e : Env} {s : State} {m : MethodId} {below : List Frame} {meth : Method} {c : Code} (l : Launch) (hfl : l.stackTraces = false) {b L : Nat} {xs : Nat → Int32} (C0 : lw_At p s m meth c b L xs) {dC : Nat → ClassId} {dI : Nat → Nat → Nat} {cI cZ cJ : ClassId} {ad am : Nat → Nat} {o9 : Nat} (CC : lwC dC dI cI cZ cJ ad am o9 s) (hT0 : tX (fun q => s.heap.size ≤ q) s s.heap) {sm fe ex dy : Int32} {gp gc op gr st dl wo : Nat → Int32} {n : Nat} {yc ya ys yd : Nat → Int32} {q : Nat} {zc zp zr zs zf : Nat → Int32} {z : Nat} {zm zt : Int64} {pe tp fu sh ro : Nat → Int32} {th : Int32} {fo : Nat → Int64} {k : Nat} {x2 : Int32} {x3 : Int32} {i9 : Nat} (hi9 : 5 * i9 + 5 ≤ L) (hL9 : L ≤ 2560) {H : Heap} {locs : List Loc} {cells slots : Nat} (hc1 : cells ≤ 37 + i9) (hs1 : slots ≤ 1333 + 6 * i9) (hPC : va_P (dC, dI) vwCl (wC cI cZ ad sm fe ex dy gp gc op gr st dl wo n yc ya ys yd q zc zp zr zs zf z zm zt) H) (hPM : va_P (dC, dI) vwCl (wM cI cZ am sm fe ex gp gc dy n pe gr st dl wo q yc ya yd ys tp fu sh ro th) H) (hPo : va_P (dC, dI) vwCl [(o9, .inl (cJ, 1, .inr (.inl fo)))] H) (hS : va_S (fun q : Nat => s.heap.size ≤ q) s.heap H locs) (e1 : xs (5 * i9 + 1) = nI k) (e2 : xs (5 * i9 + 2) = x2) (e3 : xs (5 * i9 + 3) = x3) (ah1 : outN (nI k) (nI 0) (nI 4) = 0) (ah2 : ¬ (outN x2 (nI 1) (nI 100) = 0 ∧ outN x3 (nI 1) (nI 1000000) = 0)) {ls : Array Slot} (hl : lv_has ls 7 [(4, .int (nI (5 * i9))), (0, .ref b), (1, .ref (ad 0)), (2, .ref (am 0)), (3, .ref o9)]) (kk : ∀ (fo2 : Nat → Int64) (H2 : Heap) (locs2 : List Loc) (c2 s2 : Nat), c2 ≤ 38 + i9 → s2 ≤ 1339 + 6 * i9 → va_P (dC, dI) vwCl (wC cI cZ ad sm fe ex dy gp gc op gr st dl wo n yc ya ys yd q zc zp zr zs zf z zm zt) H2 → va_P (dC, dI) vwCl (wM cI cZ am sm fe ex gp gc dy n pe gr st dl wo q yc ya yd ys tp fu sh ro (nI 2)) H2 → va_P (dC, dI) vwCl [(o9, .inl (cJ, 1, .inr (.inl fo2)))] H2 → va_S (fun q : Nat => s.heap.size ≤ q) s.heap H2 locs2 → ∀ ls, lv_has ls 7 [(4, .int (nI (5 * i9))), (0, .ref b), (1, .ref (ad 0)), (2, .ref (am 0)), (3, .ref o9)] → W p l e room_1 s m #[Value.ref b] below meth c H2 locs2 c2 s2 (lw_Z below #[Value.ref b] s) (F0 m 1529 ls [])) : W p l e room_1 s m #[Value.ref b] below meth c H locs cells slots (lw_Z below #[Value.ref b] s) (F0 m 236 ls []) := by
  obtain ⟨hx, hb, hr, hml, hown, hts0, hX, hbl, hlocks, hgv⟩ := id C0
  obtain ⟨⟨hI, hIm⟩, ⟨hoC, hoM, hCM⟩, ⟨hAC, hAM, hAo⟩, hK, hKJ, hN⟩ := id CC
  have hts : ∀ w ∈ wsL_law, w.before #[Value.ref b] s = true := fun w hw => hts0 w (wsL_law_in w hw)
  have hown : s.vm.findClass RL = some m.cls := hown
  have hbA : ¬ (fun q : Nat => s.heap.size ≤ q) b := Nat.not_le.mpr hbl
  have hT : tX (fun q => s.heap.size ≤ q) s H := zz_kT hT0 hS
  refine lv_aload_n hx hb dL_law_236 rfl (lv_at hl 2 rfl) ?_
  refine lv_aload_n hx hb dL_law_237 rfl (lv_at hl 1 rfl) ?_
  refine lv_iload hx hb dL_law_238 (lv_at hl 0 rfl) ?_
  refine lv_iconst (v := nI 1) hx hb dL_law_240 (by decide) ?_
  refine lv_iadd hx hb dL_law_241 ?_
  refine zt_i (y := nI (5 * i9 + 1)) (nI_add _ _) ?_
  refine va_sld hx hb hX hbl hbA hS (vp_in_nI (n := 5 * i9 + 1) (by omega) (by omega)) dL_law_242 ?_
  rw [nI_clamp (show 5 * i9 + 1 < 2 ^ 31 by omega)]
  rw [e1]
  refine lv_aload_n hx hb dL_law_243 rfl (lv_at hl 1 rfl) ?_
  refine lv_iload hx hb dL_law_244 (lv_at hl 0 rfl) ?_
  refine lv_iconst (v := nI 2) hx hb dL_law_246 (by decide) ?_
  refine lv_iadd hx hb dL_law_247 ?_
  refine zt_i (y := nI (5 * i9 + 2)) (nI_add _ _) ?_
  refine va_sld hx hb hX hbl hbA hS (vp_in_nI (n := 5 * i9 + 2) (by omega) (by omega)) dL_law_248 ?_
  rw [nI_clamp (show 5 * i9 + 2 < 2 ^ 31 by omega)]
  rw [e2]
  refine lv_aload_n hx hb dL_law_249 rfl (lv_at hl 1 rfl) ?_
  refine lv_iload hx hb dL_law_250 (lv_at hl 0 rfl) ?_
  refine lv_iconst (v := nI 3) hx hb dL_law_252 (by decide) ?_
  refine lv_iadd hx hb dL_law_253 ?_
  refine zt_i (y := nI (5 * i9 + 3)) (nI_add _ _) ?_
  refine va_sld hx hb hX hbl hbA hS (vp_in_nI (n := 5 * i9 + 3) (by omega) (by omega)) dL_law_254 ?_
  rw [nI_clamp (show 5 * i9 + 3 < 2 ^ 31 by omega)]
  rw [e3]
  refine kh_setGrade_iae l hfl (cJ := cJ) (o9 := o9) (fo := fo) (k := k) (x2 := x2) (x3 := x3) (h1 := ah1) (h2 := ah2) hx hb hml hown hts hK hPC gL_law_L_setGrade ⟨Nat.le_of_ble_eq_true rfl, Nat.le_of_ble_eq_true rfl⟩ ⟨show cells + 1 ≤ 1083 by omega, show slots + 6 ≤ 9657 by omega⟩ hl.1 (Nat.le_of_ble_eq_true rfl) dL_law_255 (hT.narrow (fun _ h => h.elim)) hN hS (fun H2 locs hS hz9 hf => ?_)
  have hPC := zz_kC hI hPC (fun x h1 _ => hf x h1)
  have hPM := zz_kM hIm hPM (fun x h1 _ => hf x h1)
  have hPo := zz_ko hPo (hf _ (zz_lt hPo))
  refine lv_istore (lv' := [(5, .int (nI 2)), (4, .int (nI (5 * i9))), (0, .ref b), (1, .ref (ad 0)), (2, .ref (am 0)), (3, .ref o9)]) hx hb dL_law_258 hl (by decide) rfl (fun ls hl => ?_)
  refine lv_aload_n hx hb dL_law_260 rfl (lv_at hl 4 rfl) ?_
  refine lv_aload_n hx hb dL_law_261 rfl (lv_at hl 2 rfl) ?_
  refine lv_iload hx hb dL_law_262 (lv_at hl 1 rfl) ?_
  refine lv_iconst (v := nI 1) hx hb dL_law_264 (by decide) ?_
  refine lv_iadd hx hb dL_law_265 ?_
  refine zt_i (y := nI (5 * i9 + 1)) (nI_add _ _) ?_
  refine va_sld hx hb hX hbl hbA hS (vp_in_nI (n := 5 * i9 + 1) (by omega) (by omega)) dL_law_266 ?_
  rw [nI_clamp (show 5 * i9 + 1 < 2 ^ 31 by omega)]
  rw [e1]
  refine lv_aload_n hx hb dL_law_267 rfl (lv_at hl 2 rfl) ?_
  refine lv_iload hx hb dL_law_268 (lv_at hl 1 rfl) ?_
  refine lv_iconst (v := nI 2) hx hb dL_law_270 (by decide) ?_
  refine lv_iadd hx hb dL_law_271 ?_
  refine zt_i (y := nI (5 * i9 + 2)) (nI_add _ _) ?_
  refine va_sld hx hb hX hbl hbA hS (vp_in_nI (n := 5 * i9 + 2) (by omega) (by omega)) dL_law_272 ?_
  rw [nI_clamp (show 5 * i9 + 2 < 2 ^ 31 by omega)]
  rw [e2]
  refine lv_aload_n hx hb dL_law_273 rfl (lv_at hl 2 rfl) ?_
  refine lv_iload hx hb dL_law_274 (lv_at hl 1 rfl) ?_
  refine lv_iconst (v := nI 3) hx hb dL_law_276 (by decide) ?_
  refine lv_iadd hx hb dL_law_277 ?_
  refine zt_i (y := nI (5 * i9 + 3)) (nI_add _ _) ?_
  refine va_sld hx hb hX hbl hbA hS (vp_in_nI (n := 5 * i9 + 3) (by omega) (by omega)) dL_law_278 ?_
  rw [nI_clamp (show 5 * i9 + 3 < 2 ^ 31 by omega)]
  rw [e3]
  refine k_X4_setGrade_2 l (k := k) (x2 := x2) (x3 := x3) (h1 := ah1) (h2 := ah2) hx hb hml hown hts hK hPM gL_law_X4_setGrade ⟨Nat.le_of_ble_eq_true rfl, Nat.le_of_ble_eq_true rfl⟩ ⟨show cells + 1 ≤ 1083 by omega, show slots + 6 ≤ 9657 by omega⟩ hl.1 (Nat.le_of_ble_eq_true rfl) dL_law_279 hIm hAM hS (fun H2 locs hPM hS hf => ?_)
  have hPC := zz_kC hI hPC (fun x h1 h2 => hf x h1 (fun h3 => hCM x h2 h3))
  have hPo := zz_ko hPo (hf _ (zz_lt hPo) hoM)
  refine lv_aload_n hx hb dL_law_282 rfl (lv_at hl 4 rfl) ?_
  refine k_X4_thrown l hx hb hml hown hts hK hPM gL_law_X4_thrown ⟨Nat.le_of_ble_eq_true rfl, Nat.le_of_ble_eq_true rfl⟩ ⟨show cells + 1 ≤ 1083 by omega, show slots + 6 ≤ 9657 by omega⟩ hl.1 (Nat.le_of_ble_eq_true rfl) dL_law_283 ?_
  refine lv_iload hx hb dL_law_286 (lv_at hl 0 rfl) ?_
  refine lv_icmp_eq (tgt := 293) hx hb dL_law_288 (by decide) (fun _ => ?_) (fun h9 => absurd rfl h9)
  refine lv_goto (tgt := 1529) hx hb dL_law_293 (by decide) ?_
  exact kk _ _ _ _ _ (by omega) (by omega) hPC hPM hPo hS ls (lv_sub hl [1, 2, 3, 4, 5] rfl)
set_option maxHeartbeats 4000000 in
set_option maxRecDepth 100000 in
theorem lo_setGrade_ise {p : Program} {e : Env} {s : State} {m : MethodId} {below : List Frame} {meth : Method} {c : Code} (l : Launch) (hfl : l.stackTraces = false) {b L : Nat} {xs : Nat → Int32} (C0 : lw_At p s m meth c b L xs) {dC : Nat → ClassId} {dI : Nat → Nat → Nat} {cI cZ cJ : ClassId} {ad am : Nat → Nat} {o9 : Nat} (CC : lwC dC dI cI cZ cJ ad am o9 s) (hT0 : tX (fun q => s.heap.size ≤ q) s s.heap) {sm fe ex dy : Int32} {gp gc op gr st dl wo : Nat → Int32} {n : Nat} {yc ya ys yd : Nat → Int32} {q : Nat} {zc zp zr zs zf : Nat → Int32} {z : Nat} {zm zt : Int64} {pe tp fu sh ro : Nat → Int32} {th : Int32} {fo : Nat → Int64} {k : Nat} {x2 : Int32} {x3 : Int32} {i9 : Nat} (hi9 : 5 * i9 + 5 ≤ L) (hL9 : L ≤ 2560) {H : Heap} {locs : List Loc} {cells slots : Nat} (hc1 : cells ≤ 37 + i9) (hs1 : slots ≤ 1333 + 6 * i9) (hPC : va_P (dC, dI) vwCl (wC cI cZ ad sm fe ex dy gp gc op gr st dl wo n yc ya ys yd q zc zp zr zs zf z zm zt) H) (hPM : va_P (dC, dI) vwCl (wM cI cZ am sm fe ex gp gc dy n pe gr st dl wo q yc ya yd ys tp fu sh ro th) H) (hPo : va_P (dC, dI) vwCl [(o9, .inl (cJ, 1, .inr (.inl fo)))] H) (hS : va_S (fun q : Nat => s.heap.size ≤ q) s.heap H locs) (e1 : xs (5 * i9 + 1) = nI k) (e2 : xs (5 * i9 + 2) = x2) (e3 : xs (5 * i9 + 3) = x3) (ah1 : outN (nI k) (nI 0) (nI 4) = 0) (ah2 : outN x2 (nI 1) (nI 100) = 0) (ah3 : outN x3 (nI 1) (nI 1000000) = 0) (ahq : q ≤ 100) (ah0 : ¬ q = 0) {ls : Array Slot} (hl : lv_has ls 7 [(4, .int (nI (5 * i9))), (0, .ref b), (1, .ref (ad 0)), (2, .ref (am 0)), (3, .ref o9)]) (kk : ∀ (fo2 : Nat → Int64) (H2 : Heap) (locs2 : List Loc) (c2 s2 : Nat), c2 ≤ 38 + i9 → s2 ≤ 1339 + 6 * i9 → va_P (dC, dI) vwCl (wC cI cZ ad sm fe ex dy gp gc op gr st dl wo n yc ya ys yd q zc zp zr zs zf z zm zt) H2 → va_P (dC, dI) vwCl (wM cI cZ am sm fe ex gp gc dy n pe gr st dl wo q yc ya yd ys tp fu sh ro (nI 3)) H2 → va_P (dC, dI) vwCl [(o9, .inl (cJ, 1, .inr (.inl fo2)))] H2 → va_S (fun q : Nat => s.heap.size ≤ q) s.heap H2 locs2 → ∀ ls, lv_has ls 7 [(4, .int (nI (5 * i9))), (0, .ref b), (1, .ref (ad 0)), (2, .ref (am 0)), (3, .ref o9)] → W p l e room_1 s m #[Value.ref b] below meth c H2 locs2 c2 s2 (lw_Z below #[Value.ref b] s) (F0 m 1529 ls [])) : W p l e room_1 s m #[Value.ref b] below meth c H locs cells slots (lw_Z below #[Value.ref b] s) (F0 m 236 ls []) := by
  obtain ⟨hx, hb, hr, hml, hown, hts0, hX, hbl, hlocks, hgv⟩ := id C0
  obtain ⟨⟨hI, hIm⟩, ⟨hoC, hoM, hCM⟩, ⟨hAC, hAM, hAo⟩, hK, hKJ, hN⟩ := id CC
  have hts : ∀ w ∈ wsL_law, w.before #[Value.ref b] s = true := fun w hw => hts0 w (wsL_law_in w hw)
  have hown : s.vm.findClass RL = some m.cls := hown
  have hbA : ¬ (fun q : Nat => s.heap.size ≤ q) b := Nat.not_le.mpr hbl
  have hT : tX (fun q => s.heap.size ≤ q) s H := zz_kT hT0 hS
  refine lv_aload_n hx hb dL_law_236 rfl (lv_at hl 2 rfl) ?_
  refine lv_aload_n hx hb dL_law_237 rfl (lv_at hl 1 rfl) ?_
  refine lv_iload hx hb dL_law_238 (lv_at hl 0 rfl) ?_
  refine lv_iconst (v := nI 1) hx hb dL_law_240 (by decide) ?_
  refine lv_iadd hx hb dL_law_241 ?_
  refine zt_i (y := nI (5 * i9 + 1)) (nI_add _ _) ?_
  refine va_sld hx hb hX hbl hbA hS (vp_in_nI (n := 5 * i9 + 1) (by omega) (by omega)) dL_law_242 ?_
  rw [nI_clamp (show 5 * i9 + 1 < 2 ^ 31 by omega)]
  rw [e1]
  refine lv_aload_n hx hb dL_law_243 rfl (lv_at hl 1 rfl) ?_
  refine lv_iload hx hb dL_law_244 (lv_at hl 0 rfl) ?_
  refine lv_iconst (v := nI 2) hx hb dL_law_246 (by decide) ?_
  refine lv_iadd hx hb dL_law_247 ?_
  refine zt_i (y := nI (5 * i9 + 2)) (nI_add _ _) ?_
  refine va_sld hx hb hX hbl hbA hS (vp_in_nI (n := 5 * i9 + 2) (by omega) (by omega)) dL_law_248 ?_
  rw [nI_clamp (show 5 * i9 + 2 < 2 ^ 31 by omega)]
  rw [e2]
  refine lv_aload_n hx hb dL_law_249 rfl (lv_at hl 1 rfl) ?_
  refine lv_iload hx hb dL_law_250 (lv_at hl 0 rfl) ?_
  refine lv_iconst (v := nI 3) hx hb dL_law_252 (by decide) ?_
  refine lv_iadd hx hb dL_law_253 ?_
  refine zt_i (y := nI (5 * i9 + 3)) (nI_add _ _) ?_
  refine va_sld hx hb hX hbl hbA hS (vp_in_nI (n := 5 * i9 + 3) (by omega) (by omega)) dL_law_254 ?_
  rw [nI_clamp (show 5 * i9 + 3 < 2 ^ 31 by omega)]
  rw [e3]
  refine kh_setGrade_ise l hfl (cJ := cJ) (o9 := o9) (fo := fo) (k := k) (x2 := x2) (x3 := x3) (h1 := ah1) (h2 := ah2) (h3 := ah3) (hq := ahq) (h0 := ah0) hx hb hml hown hts hK hPC gL_law_L_setGrade ⟨Nat.le_of_ble_eq_true rfl, Nat.le_of_ble_eq_true rfl⟩ ⟨show cells + 1 ≤ 1083 by omega, show slots + 6 ≤ 9657 by omega⟩ hl.1 (Nat.le_of_ble_eq_true rfl) dL_law_255 (hT.narrow (fun _ h => h.elim)) hN hS (fun H2 locs hS hz9 hf => ?_)
  have hPC := zz_kC hI hPC (fun x h1 _ => hf x h1)
  have hPM := zz_kM hIm hPM (fun x h1 _ => hf x h1)
  have hPo := zz_ko hPo (hf _ (zz_lt hPo))
  refine lv_istore (lv' := [(5, .int (nI 3)), (4, .int (nI (5 * i9))), (0, .ref b), (1, .ref (ad 0)), (2, .ref (am 0)), (3, .ref o9)]) hx hb dL_law_258 hl (by decide) rfl (fun ls hl => ?_)
  refine lv_aload_n hx hb dL_law_260 rfl (lv_at hl 4 rfl) ?_
  refine lv_aload_n hx hb dL_law_261 rfl (lv_at hl 2 rfl) ?_
  refine lv_iload hx hb dL_law_262 (lv_at hl 1 rfl) ?_
  refine lv_iconst (v := nI 1) hx hb dL_law_264 (by decide) ?_
  refine lv_iadd hx hb dL_law_265 ?_
  refine zt_i (y := nI (5 * i9 + 1)) (nI_add _ _) ?_
  refine va_sld hx hb hX hbl hbA hS (vp_in_nI (n := 5 * i9 + 1) (by omega) (by omega)) dL_law_266 ?_
  rw [nI_clamp (show 5 * i9 + 1 < 2 ^ 31 by omega)]
  rw [e1]
  refine lv_aload_n hx hb dL_law_267 rfl (lv_at hl 2 rfl) ?_
  refine lv_iload hx hb dL_law_268 (lv_at hl 1 rfl) ?_
  refine lv_iconst (v := nI 2) hx hb dL_law_270 (by decide) ?_
  refine lv_iadd hx hb dL_law_271 ?_
  refine zt_i (y := nI (5 * i9 + 2)) (nI_add _ _) ?_
  refine va_sld hx hb hX hbl hbA hS (vp_in_nI (n := 5 * i9 + 2) (by omega) (by omega)) dL_law_272 ?_
  rw [nI_clamp (show 5 * i9 + 2 < 2 ^ 31 by omega)]
  rw [e2]
  refine lv_aload_n hx hb dL_law_273 rfl (lv_at hl 2 rfl) ?_
  refine lv_iload hx hb dL_law_274 (lv_at hl 1 rfl) ?_
  refine lv_iconst (v := nI 3) hx hb dL_law_276 (by decide) ?_
  refine lv_iadd hx hb dL_law_277 ?_
  refine zt_i (y := nI (5 * i9 + 3)) (nI_add _ _) ?_
  refine va_sld hx hb hX hbl hbA hS (vp_in_nI (n := 5 * i9 + 3) (by omega) (by omega)) dL_law_278 ?_
  rw [nI_clamp (show 5 * i9 + 3 < 2 ^ 31 by omega)]
  rw [e3]
  refine k_X4_setGrade_3 l (k := k) (x2 := x2) (x3 := x3) (h1 := ah1) (h2 := ah2) (h3 := ah3) (hq := ahq) (h0 := ah0) hx hb hml hown hts hK hPM gL_law_X4_setGrade ⟨Nat.le_of_ble_eq_true rfl, Nat.le_of_ble_eq_true rfl⟩ ⟨show cells + 1 ≤ 1083 by omega, show slots + 6 ≤ 9657 by omega⟩ hl.1 (Nat.le_of_ble_eq_true rfl) dL_law_279 hIm hAM hS (fun H2 locs hPM hS hf => ?_)
  have hPC := zz_kC hI hPC (fun x h1 h2 => hf x h1 (fun h3 => hCM x h2 h3))
  have hPo := zz_ko hPo (hf _ (zz_lt hPo) hoM)
  refine lv_aload_n hx hb dL_law_282 rfl (lv_at hl 4 rfl) ?_
  refine k_X4_thrown l hx hb hml hown hts hK hPM gL_law_X4_thrown ⟨Nat.le_of_ble_eq_true rfl, Nat.le_of_ble_eq_true rfl⟩ ⟨show cells + 1 ≤ 1083 by omega, show slots + 6 ≤ 9657 by omega⟩ hl.1 (Nat.le_of_ble_eq_true rfl) dL_law_283 ?_
  refine lv_iload hx hb dL_law_286 (lv_at hl 0 rfl) ?_
  refine lv_icmp_eq (tgt := 293) hx hb dL_law_288 (by decide) (fun _ => ?_) (fun h9 => absurd rfl h9)
  refine lv_goto (tgt := 1529) hx hb dL_law_293 (by decide) ?_
  exact kk _ _ _ _ _ (by omega) (by omega) hPC hPM hPo hS ls (lv_sub hl [1, 2, 3, 4, 5] rfl)
set_option maxHeartbeats 4000000 in
set_option maxRecDepth 100000 in
theorem lo_pass_ok {p : Program} {e : Env} {s : State} {m : MethodId} {below : List Frame} {meth : Method} {c : Code} (l : Launch) (hfl : l.stackTraces = false) {b L : Nat} {xs : Nat → Int32} (C0 : lw_At p s m meth c b L xs) {dC : Nat → ClassId} {dI : Nat → Nat → Nat} {cI cZ cJ : ClassId} {ad am : Nat → Nat} {o9 : Nat} (CC : lwC dC dI cI cZ cJ ad am o9 s) (hT0 : tX (fun q => s.heap.size ≤ q) s s.heap) {sm fe ex dy : Int32} {gp gc op gr st dl wo : Nat → Int32} {n : Nat} {yc ya ys yd : Nat → Int32} {q : Nat} {zc zp zr zs zf : Nat → Int32} {z : Nat} {zm zt : Int64} {pe tp fu sh ro : Nat → Int32} {th : Int32} {fo : Nat → Int64} {x : Nat} {D : Nat} {i9 : Nat} (hi9 : 5 * i9 + 5 ≤ L) (hL9 : L ≤ 2560) {H : Heap} {locs : List Loc} {cells slots : Nat} (hc1 : cells ≤ 37 + i9) (hs1 : slots ≤ 1333 + 6 * i9) (hPC : va_P (dC, dI) vwCl (wC cI cZ ad sm fe ex (nI D) gp gc op gr st dl wo n yc ya ys yd q zc zp zr zs zf z zm zt) H) (hPM : va_P (dC, dI) vwCl (wM cI cZ am sm fe ex gp gc (nI D) n pe gr st dl wo q yc ya yd ys tp fu sh ro th) H) (hPo : va_P (dC, dI) vwCl [(o9, .inl (cJ, 1, .inr (.inl fo)))] H) (hS : va_S (fun q : Nat => s.heap.size ≤ q) s.heap H locs) (e1 : xs (5 * i9 + 1) = nI x) (ahn : n ≤ 24) (ahq : q ≤ 100) (ah1 : outN (nI x) (nI 1) (nI 200) = 0) (bhx1 : 0 < x) (bhx2 : x ≤ 200) (bhD : D < 2 ^ 30) (bhdy : (nI D) = nI D) (bhyd : ∀ k, k < q → ∃ y, y ≤ D ∧ yd k = nI y) {ls : Array Slot} (hl : lv_has ls 7 [(4, .int (nI (5 * i9))), (0, .ref b), (1, .ref (ad 0)), (2, .ref (am 0)), (3, .ref o9)]) (kk : ∀ (fo2 : Nat → Int64) (H2 : Heap) (locs2 : List Loc) (c2 s2 : Nat), c2 ≤ 38 + i9 → s2 ≤ 1339 + 6 * i9 → va_P (dC, dI) vwCl (wC cI cZ ad sm fe ex ((nI D) + (nI x)) gp gc op gr (denyF st dl ((nI D) + (nI x)) n) dl wo n yc ya (voidF ys yd ((nI D) + (nI x)) q) yd q zc zp zr zs zf z zm zt) H2 → va_P (dC, dI) vwCl (wM cI cZ am sm fe ex gp gc (nI (D + x)) n pe gr (denyF st dl (nI (D + x)) n) dl wo q yc ya yd (voidF ys yd (nI (D + x)) q) tp fu sh ro (nI 0)) H2 → va_P (dC, dI) vwCl [(o9, .inl (cJ, 1, .inr (.inl fo2)))] H2 → va_S (fun q : Nat => s.heap.size ≤ q) s.heap H2 locs2 → ∀ ls, lv_has ls 7 [(4, .int (nI (5 * i9))), (0, .ref b), (1, .ref (ad 0)), (2, .ref (am 0)), (3, .ref o9)] → W p l e room_1 s m #[Value.ref b] below meth c H2 locs2 c2 s2 (lw_Z below #[Value.ref b] s) (F0 m 1529 ls [])) : W p l e room_1 s m #[Value.ref b] below meth c H locs cells slots (lw_Z below #[Value.ref b] s) (F0 m 296 ls []) := by
  obtain ⟨hx, hb, hr, hml, hown, hts0, hX, hbl, hlocks, hgv⟩ := id C0
  obtain ⟨⟨hI, hIm⟩, ⟨hoC, hoM, hCM⟩, ⟨hAC, hAM, hAo⟩, hK, hKJ, hN⟩ := id CC
  have hts : ∀ w ∈ wsL_law, w.before #[Value.ref b] s = true := fun w hw => hts0 w (wsL_law_in w hw)
  have hown : s.vm.findClass RL = some m.cls := hown
  have hbA : ¬ (fun q : Nat => s.heap.size ≤ q) b := Nat.not_le.mpr hbl
  have hT : tX (fun q => s.heap.size ≤ q) s H := zz_kT hT0 hS
  refine lv_aload_n hx hb dL_law_296 rfl (lv_at hl 2 rfl) ?_
  refine lv_aload_n hx hb dL_law_297 rfl (lv_at hl 1 rfl) ?_
  refine lv_iload hx hb dL_law_298 (lv_at hl 0 rfl) ?_
  refine lv_iconst (v := nI 1) hx hb dL_law_300 (by decide) ?_
  refine lv_iadd hx hb dL_law_301 ?_
  refine zt_i (y := nI (5 * i9 + 1)) (nI_add _ _) ?_
  refine va_sld hx hb hX hbl hbA hS (vp_in_nI (n := 5 * i9 + 1) (by omega) (by omega)) dL_law_302 ?_
  rw [nI_clamp (show 5 * i9 + 1 < 2 ^ 31 by omega)]
  rw [e1]
  refine lv_aload_n hx hb dL_law_303 rfl (lv_at hl 4 rfl) ?_
  refine kh_pass_ok l (cJ := cJ) (o9 := o9) (fo := fo) (x := (nI x)) (hn := ahn) (hq := ahq) (h1 := ah1) hx hb hml hown hts hK hPC gL_law_L_pass ⟨Nat.le_of_ble_eq_true rfl, Nat.le_of_ble_eq_true rfl⟩ ⟨show cells + 0 ≤ 1083 by omega, show slots + 0 ≤ 9657 by omega⟩ hl.1 (Nat.le_of_ble_eq_true rfl) dL_law_304 hI hoC hPo hKJ (fun x h => h.elim (hAC x) (fun h => by rw [h]; exact hAo)) hS (fun u9 H2 locs hPC fo hf9 hPo hS hz9 hf => ?_)
  have hPM := zz_kM hIm hPM (fun x h1 h2 => hf x h1 (fun h3 => h3.elim (fun h3 => hCM x h3 h2) (fun h3 => hoM (by rw [← h3]; exact h2))))
  refine lv_istore (lv' := [(5, .int (nI 0)), (4, .int (nI (5 * i9))), (0, .ref b), (1, .ref (ad 0)), (2, .ref (am 0)), (3, .ref o9)]) hx hb dL_law_307 hl (by decide) rfl (fun ls hl => ?_)
  refine lv_aload_n hx hb dL_law_309 rfl (lv_at hl 4 rfl) ?_
  refine lv_aload_n hx hb dL_law_310 rfl (lv_at hl 2 rfl) ?_
  refine lv_iload hx hb dL_law_311 (lv_at hl 1 rfl) ?_
  refine lv_iconst (v := nI 1) hx hb dL_law_313 (by decide) ?_
  refine lv_iadd hx hb dL_law_314 ?_
  refine zt_i (y := nI (5 * i9 + 1)) (nI_add _ _) ?_
  refine va_sld hx hb hX hbl hbA hS (vp_in_nI (n := 5 * i9 + 1) (by omega) (by omega)) dL_law_315 ?_
  rw [nI_clamp (show 5 * i9 + 1 < 2 ^ 31 by omega)]
  rw [e1]
  refine k_X4_pass_ok l (x := x) (D := D) (hn := ahn) (hq := ahq) (h1 := ah1) (hx1 := bhx1) (hx2 := bhx2) (hD := bhD) (hdy := bhdy) (hyd := bhyd) hx hb hml hown hts hK hPM gL_law_X4_pass ⟨Nat.le_of_ble_eq_true rfl, Nat.le_of_ble_eq_true rfl⟩ ⟨show cells + 0 ≤ 1083 by omega, show slots + 0 ≤ 9657 by omega⟩ hl.1 (Nat.le_of_ble_eq_true rfl) dL_law_316 hIm hAM hS (fun H2 locs hPM hS hf => ?_)
  have hPC := zz_kC hI hPC (fun x h1 h2 => hf x h1 (fun h3 => hCM x h2 h3))
  have hPo := zz_ko hPo (hf _ (zz_lt hPo) hoM)
  refine lv_istore (lv' := [(6, .int (nI (D + x))), (5, .int (nI 0)), (4, .int (nI (5 * i9))), (0, .ref b), (1, .ref (ad 0)), (2, .ref (am 0)), (3, .ref o9)]) hx hb dL_law_319 hl (by decide) rfl (fun ls hl => ?_)
  refine lv_aload_n hx hb dL_law_321 rfl (lv_at hl 5 rfl) ?_
  refine k_X4_thrown l hx hb hml hown hts hK hPM gL_law_X4_thrown ⟨Nat.le_of_ble_eq_true rfl, Nat.le_of_ble_eq_true rfl⟩ ⟨show cells + 0 ≤ 1083 by omega, show slots + 0 ≤ 9657 by omega⟩ hl.1 (Nat.le_of_ble_eq_true rfl) dL_law_322 ?_
  refine lv_iload hx hb dL_law_325 (lv_at hl 1 rfl) ?_
  refine lv_icmp_eq (tgt := 332) hx hb dL_law_327 (by decide) (fun _ => ?_) (fun h9 => absurd rfl h9)
  refine lv_iload hx hb dL_law_332 (lv_at hl 1 rfl) ?_
  refine lv_if_ne (tgt := 349) hx hb dL_law_334 (by decide) (fun h9 => absurd (by decide) h9) (fun _ => ?_)
  refine lv_aload_n hx hb dL_law_337 rfl (lv_at hl 6 rfl) ?_
  refine lv_iconst (v := nI 0) hx hb dL_law_338 (by decide) ?_
  refine va_lald hx hb hKJ hPo 0 0 rfl rfl (vp_in_nI (n := 0) (by decide) (by decide)) dL_law_339 ?_
  refine zt_l (y := ((nI D) + (nI x)).toInt64) (by rw [show (nI 0).toNatClampNeg = 0 by decide]; exact hf9) ?_
  refine lv_iload hx hb dL_law_340 (lv_at hl 0 rfl) ?_
  refine lv_i2l (v := (nI (D + x)).toInt64) hx hb dL_law_342 rfl ?_
  refine W.lcmp hx hb dL_law_343 ?_
  refine zg_eq (tgt := 349) hx hb dL_law_344 (by decide) (fun _ => ?_) (fun h9 => absurd (congrArg Int32.toInt64 (nI_add D x)) h9)
  refine lv_goto (tgt := 1529) hx hb dL_law_349 (by decide) ?_
  exact kk _ _ _ _ _ (by omega) (by omega) hPC hPM hPo hS ls (lv_sub hl [2, 3, 4, 5, 6] rfl)
set_option maxHeartbeats 4000000 in
set_option maxRecDepth 100000 in
theorem lo_pass_no {p : Program} {e : Env} {s : State} {m : MethodId} {below : List Frame} {meth : Method} {c : Code} (l : Launch) (hfl : l.stackTraces = false) {b L : Nat} {xs : Nat → Int32} (C0 : lw_At p s m meth c b L xs) {dC : Nat → ClassId} {dI : Nat → Nat → Nat} {cI cZ cJ : ClassId} {ad am : Nat → Nat} {o9 : Nat} (CC : lwC dC dI cI cZ cJ ad am o9 s) (hT0 : tX (fun q => s.heap.size ≤ q) s s.heap) {sm fe ex dy : Int32} {gp gc op gr st dl wo : Nat → Int32} {n : Nat} {yc ya ys yd : Nat → Int32} {q : Nat} {zc zp zr zs zf : Nat → Int32} {z : Nat} {zm zt : Int64} {pe tp fu sh ro : Nat → Int32} {th : Int32} {fo : Nat → Int64} {x : Int32} {i9 : Nat} (hi9 : 5 * i9 + 5 ≤ L) (hL9 : L ≤ 2560) {H : Heap} {locs : List Loc} {cells slots : Nat} (hc1 : cells ≤ 37 + i9) (hs1 : slots ≤ 1333 + 6 * i9) (hPC : va_P (dC, dI) vwCl (wC cI cZ ad sm fe ex dy gp gc op gr st dl wo n yc ya ys yd q zc zp zr zs zf z zm zt) H) (hPM : va_P (dC, dI) vwCl (wM cI cZ am sm fe ex gp gc dy n pe gr st dl wo q yc ya yd ys tp fu sh ro th) H) (hPo : va_P (dC, dI) vwCl [(o9, .inl (cJ, 1, .inr (.inl fo)))] H) (hS : va_S (fun q : Nat => s.heap.size ≤ q) s.heap H locs) (e1 : xs (5 * i9 + 1) = x) (ah1 : ¬ outN x (nI 1) (nI 200) = 0) {ls : Array Slot} (hl : lv_has ls 7 [(4, .int (nI (5 * i9))), (0, .ref b), (1, .ref (ad 0)), (2, .ref (am 0)), (3, .ref o9)]) (kk : ∀ (fo2 : Nat → Int64) (H2 : Heap) (locs2 : List Loc) (c2 s2 : Nat), c2 ≤ 38 + i9 → s2 ≤ 1339 + 6 * i9 → va_P (dC, dI) vwCl (wC cI cZ ad sm fe ex dy gp gc op gr st dl wo n yc ya ys yd q zc zp zr zs zf z zm zt) H2 → va_P (dC, dI) vwCl (wM cI cZ am sm fe ex gp gc dy n pe gr st dl wo q yc ya yd ys tp fu sh ro (nI 1)) H2 → va_P (dC, dI) vwCl [(o9, .inl (cJ, 1, .inr (.inl fo2)))] H2 → va_S (fun q : Nat => s.heap.size ≤ q) s.heap H2 locs2 → ∀ ls, lv_has ls 7 [(4, .int (nI (5 * i9))), (0, .ref b), (1, .ref (ad 0)), (2, .ref (am 0)), (3, .ref o9)] → W p l e room_1 s m #[Value.ref b] below meth c H2 locs2 c2 s2 (lw_Z below #[Value.ref b] s) (F0 m 1529 ls [])) : W p l e room_1 s m #[Value.ref b] below meth c H locs cells slots (lw_Z below #[Value.ref b] s) (F0 m 296 ls []) := by
  obtain ⟨hx, hb, hr, hml, hown, hts0, hX, hbl, hlocks, hgv⟩ := id C0
  obtain ⟨⟨hI, hIm⟩, ⟨hoC, hoM, hCM⟩, ⟨hAC, hAM, hAo⟩, hK, hKJ, hN⟩ := id CC
  have hts : ∀ w ∈ wsL_law, w.before #[Value.ref b] s = true := fun w hw => hts0 w (wsL_law_in w hw)
  have hown : s.vm.findClass RL = some m.cls := hown
  have hbA : ¬ (fun q : Nat => s.heap.size ≤ q) b := Nat.not_le.mpr hbl
  have hT : tX (fun q => s.heap.size ≤ q) s H := zz_kT hT0 hS
  refine lv_aload_n hx hb dL_law_296 rfl (lv_at hl 2 rfl) ?_
  refine lv_aload_n hx hb dL_law_297 rfl (lv_at hl 1 rfl) ?_
  refine lv_iload hx hb dL_law_298 (lv_at hl 0 rfl) ?_
  refine lv_iconst (v := nI 1) hx hb dL_law_300 (by decide) ?_
  refine lv_iadd hx hb dL_law_301 ?_
  refine zt_i (y := nI (5 * i9 + 1)) (nI_add _ _) ?_
  refine va_sld hx hb hX hbl hbA hS (vp_in_nI (n := 5 * i9 + 1) (by omega) (by omega)) dL_law_302 ?_
  rw [nI_clamp (show 5 * i9 + 1 < 2 ^ 31 by omega)]
  rw [e1]
  refine lv_aload_n hx hb dL_law_303 rfl (lv_at hl 4 rfl) ?_
  refine kh_pass_no l hfl (cJ := cJ) (o9 := o9) (fo := fo) (x := x) (h1 := ah1) hx hb hml hown hts hK hPC gL_law_L_pass ⟨Nat.le_of_ble_eq_true rfl, Nat.le_of_ble_eq_true rfl⟩ ⟨show cells + 1 ≤ 1083 by omega, show slots + 6 ≤ 9657 by omega⟩ hl.1 (Nat.le_of_ble_eq_true rfl) dL_law_304 (hT.narrow (fun _ h => h.elim)) hN hS (fun H2 locs hS hz9 hf => ?_)
  have hPC := zz_kC hI hPC (fun x h1 _ => hf x h1)
  have hPM := zz_kM hIm hPM (fun x h1 _ => hf x h1)
  have hPo := zz_ko hPo (hf _ (zz_lt hPo))
  refine lv_istore (lv' := [(5, .int (nI 1)), (4, .int (nI (5 * i9))), (0, .ref b), (1, .ref (ad 0)), (2, .ref (am 0)), (3, .ref o9)]) hx hb dL_law_307 hl (by decide) rfl (fun ls hl => ?_)
  refine lv_aload_n hx hb dL_law_309 rfl (lv_at hl 4 rfl) ?_
  refine lv_aload_n hx hb dL_law_310 rfl (lv_at hl 2 rfl) ?_
  refine lv_iload hx hb dL_law_311 (lv_at hl 1 rfl) ?_
  refine lv_iconst (v := nI 1) hx hb dL_law_313 (by decide) ?_
  refine lv_iadd hx hb dL_law_314 ?_
  refine zt_i (y := nI (5 * i9 + 1)) (nI_add _ _) ?_
  refine va_sld hx hb hX hbl hbA hS (vp_in_nI (n := 5 * i9 + 1) (by omega) (by omega)) dL_law_315 ?_
  rw [nI_clamp (show 5 * i9 + 1 < 2 ^ 31 by omega)]
  rw [e1]
  refine k_X4_pass_no l (x := x) (h1 := ah1) hx hb hml hown hts hK hPM gL_law_X4_pass ⟨Nat.le_of_ble_eq_true rfl, Nat.le_of_ble_eq_true rfl⟩ ⟨show cells + 1 ≤ 1083 by omega, show slots + 6 ≤ 9657 by omega⟩ hl.1 (Nat.le_of_ble_eq_true rfl) dL_law_316 hIm hAM hS (fun H2 locs hPM hS hf => ?_)
  have hPC := zz_kC hI hPC (fun x h1 h2 => hf x h1 (fun h3 => hCM x h2 h3))
  have hPo := zz_ko hPo (hf _ (zz_lt hPo) hoM)
  refine lv_istore (lv' := [(6, .int (nI 0)), (5, .int (nI 1)), (4, .int (nI (5 * i9))), (0, .ref b), (1, .ref (ad 0)), (2, .ref (am 0)), (3, .ref o9)]) hx hb dL_law_319 hl (by decide) rfl (fun ls hl => ?_)
  refine lv_aload_n hx hb dL_law_321 rfl (lv_at hl 5 rfl) ?_
  refine k_X4_thrown l hx hb hml hown hts hK hPM gL_law_X4_thrown ⟨Nat.le_of_ble_eq_true rfl, Nat.le_of_ble_eq_true rfl⟩ ⟨show cells + 1 ≤ 1083 by omega, show slots + 6 ≤ 9657 by omega⟩ hl.1 (Nat.le_of_ble_eq_true rfl) dL_law_322 ?_
  refine lv_iload hx hb dL_law_325 (lv_at hl 1 rfl) ?_
  refine lv_icmp_eq (tgt := 332) hx hb dL_law_327 (by decide) (fun _ => ?_) (fun h9 => absurd rfl h9)
  refine lv_iload hx hb dL_law_332 (lv_at hl 1 rfl) ?_
  refine lv_if_ne (tgt := 349) hx hb dL_law_334 (by decide) (fun _ => ?_) (fun h9 => absurd h9 (by decide))
  refine lv_goto (tgt := 1529) hx hb dL_law_349 (by decide) ?_
  exact kk _ _ _ _ _ (by omega) (by omega) hPC hPM hPo hS ls (lv_sub hl [2, 3, 4, 5, 6] rfl)
set_option maxHeartbeats 4000000 in
set_option maxRecDepth 100000 in
theorem lo_claim_join_0 {p : Program} {e : Env} {s : State} {m : MethodId} {below : List Frame} {meth : Method} {c : Code} (l : Launch) (hfl : l.stackTraces = false) {b L : Nat} {xs : Nat → Int32} (C0 : lw_At p s m meth c b L xs) {dC : Nat → ClassId} {dI : Nat → Nat → Nat} {cI cZ cJ : ClassId} {ad am : Nat → Nat} {o9 : Nat} (CC : lwC dC dI cI cZ cJ ad am o9 s) (hT0 : tX (fun q => s.heap.size ≤ q) s s.heap) {sm fe ex dy : Int32} {gp gc op gr st dl wo : Nat → Int32} {n : Nat} {yc ya ys yd : Nat → Int32} {q : Nat} {zc zp zr zs zf : Nat → Int32} {z : Nat} {zm zt : Int64} {pe tp fu sh ro : Nat → Int32} {th : Int32} {fo : Nat → Int64} {k : Nat} {g : Int32} {d : Int32} {j : Nat} {i9 : Nat} (hi9 : 5 * i9 + 5 ≤ L) (hL9 : L ≤ 2560) {H : Heap} {locs : List Loc} {cells slots : Nat} (hc1 : cells ≤ 37 + i9) (hs1 : slots ≤ 1333 + 6 * i9) (hPC : va_P (dC, dI) vwCl (wC cI cZ ad sm fe ex dy gp gc op gr st dl wo n yc ya ys yd q zc zp zr zs zf z zm zt) H) (hPM : va_P (dC, dI) vwCl (wM cI cZ am sm fe ex gp gc dy n pe gr st dl wo q yc ya yd ys tp fu sh ro th) H) (hPo : va_P (dC, dI) vwCl [(o9, .inl (cJ, 1, .inr (.inl fo)))] H) (hS : va_S (fun q : Nat => s.heap.size ≤ q) s.heap H locs) (e1 : xs (5 * i9 + 1) = nI k) (e2 : xs (5 * i9 + 2) = g) (e3 : xs (5 * i9 + 3) = 0) (e4 : xs (5 * i9 + 4) = d) (ahn : n ≤ 24) (ah1 : outN (nI k) (nI 0) (nI 29) = 0) (ah2 : outN g (nI 0) (nI 4) = 0) (ah3 : outN d (nI 0) (nI 100) = 0) (ahk : k < 30) (ahj : j < n) (ahop : op k = nI j) (bhop : ofP pe (nI k) n = nI j) {ls : Array Slot} (hl : lv_has ls 7 [(4, .int (nI (5 * i9))), (0, .ref b), (1, .ref (ad 0)), (2, .ref (am 0)), (3, .ref o9)]) (kk : ∀ (fo2 : Nat → Int64) (H2 : Heap) (locs2 : List Loc) (c2 s2 : Nat), c2 ≤ 38 + i9 → s2 ≤ 1339 + 6 * i9 → va_P (dC, dI) vwCl (wC cI cZ ad sm fe ex dy gp gc op (upd gr j (maxI (gr j) g)) (joinS st j (nI 0)) dl wo n yc ya ys yd q zc zp zr zs zf z zm zt) H2 → va_P (dC, dI) vwCl (wM cI cZ am sm fe ex gp gc dy n pe (upd gr j (maxI (gr j) g)) (joinS st j (nI 0)) dl wo q yc ya yd ys tp fu sh ro (nI 0)) H2 → va_P (dC, dI) vwCl [(o9, .inl (cJ, 1, .inr (.inl fo2)))] H2 → va_S (fun q : Nat => s.heap.size ≤ q) s.heap H2 locs2 → ∀ ls, lv_has ls 7 [(4, .int (nI (5 * i9))), (0, .ref b), (1, .ref (ad 0)), (2, .ref (am 0)), (3, .ref o9)] → W p l e room_1 s m #[Value.ref b] below meth c H2 locs2 c2 s2 (lw_Z below #[Value.ref b] s) (F0 m 1529 ls [])) : W p l e room_1 s m #[Value.ref b] below meth c H locs cells slots (lw_Z below #[Value.ref b] s) (F0 m 352 ls []) := by
  obtain ⟨hx, hb, hr, hml, hown, hts0, hX, hbl, hlocks, hgv⟩ := id C0
  obtain ⟨⟨hI, hIm⟩, ⟨hoC, hoM, hCM⟩, ⟨hAC, hAM, hAo⟩, hK, hKJ, hN⟩ := id CC
  have hts : ∀ w ∈ wsL_law, w.before #[Value.ref b] s = true := fun w hw => hts0 w (wsL_law_in w hw)
  have hown : s.vm.findClass RL = some m.cls := hown
  have hbA : ¬ (fun q : Nat => s.heap.size ≤ q) b := Nat.not_le.mpr hbl
  have hT : tX (fun q => s.heap.size ≤ q) s H := zz_kT hT0 hS
  refine lv_aload_n hx hb dL_law_352 rfl (lv_at hl 2 rfl) ?_
  refine lv_aload_n hx hb dL_law_353 rfl (lv_at hl 1 rfl) ?_
  refine lv_iload hx hb dL_law_354 (lv_at hl 0 rfl) ?_
  refine lv_iconst (v := nI 1) hx hb dL_law_356 (by decide) ?_
  refine lv_iadd hx hb dL_law_357 ?_
  refine zt_i (y := nI (5 * i9 + 1)) (nI_add _ _) ?_
  refine va_sld hx hb hX hbl hbA hS (vp_in_nI (n := 5 * i9 + 1) (by omega) (by omega)) dL_law_358 ?_
  rw [nI_clamp (show 5 * i9 + 1 < 2 ^ 31 by omega)]
  rw [e1]
  refine lv_aload_n hx hb dL_law_359 rfl (lv_at hl 1 rfl) ?_
  refine lv_iload hx hb dL_law_360 (lv_at hl 0 rfl) ?_
  refine lv_iconst (v := nI 2) hx hb dL_law_362 (by decide) ?_
  refine lv_iadd hx hb dL_law_363 ?_
  refine zt_i (y := nI (5 * i9 + 2)) (nI_add _ _) ?_
  refine va_sld hx hb hX hbl hbA hS (vp_in_nI (n := 5 * i9 + 2) (by omega) (by omega)) dL_law_364 ?_
  rw [nI_clamp (show 5 * i9 + 2 < 2 ^ 31 by omega)]
  rw [e2]
  refine lv_aload_n hx hb dL_law_365 rfl (lv_at hl 1 rfl) ?_
  refine lv_iload hx hb dL_law_366 (lv_at hl 0 rfl) ?_
  refine lv_iconst (v := nI 3) hx hb dL_law_368 (by decide) ?_
  refine lv_iadd hx hb dL_law_369 ?_
  refine zt_i (y := nI (5 * i9 + 3)) (nI_add _ _) ?_
  refine va_sld hx hb hX hbl hbA hS (vp_in_nI (n := 5 * i9 + 3) (by omega) (by omega)) dL_law_370 ?_
  rw [nI_clamp (show 5 * i9 + 3 < 2 ^ 31 by omega)]
  refine lv_if_eq (tgt := 378) hx hb dL_law_371 (by decide) (fun _ => ?_) (fun h9 => absurd e3 h9)
  refine lv_iconst (v := nI 0) hx hb dL_law_378 (by decide) ?_
  refine lv_aload_n hx hb dL_law_379 rfl (lv_at hl 1 rfl) ?_
  refine lv_iload hx hb dL_law_380 (lv_at hl 0 rfl) ?_
  refine lv_iconst (v := nI 4) hx hb dL_law_382 (by decide) ?_
  refine lv_iadd hx hb dL_law_383 ?_
  refine zt_i (y := nI (5 * i9 + 4)) (nI_add _ _) ?_
  refine va_sld hx hb hX hbl hbA hS (vp_in_nI (n := 5 * i9 + 4) (by omega) (by omega)) dL_law_384 ?_
  rw [nI_clamp (show 5 * i9 + 4 < 2 ^ 31 by omega)]
  rw [e4]
  refine lv_aload_n hx hb dL_law_385 rfl (lv_at hl 4 rfl) ?_
  refine kh_claim_join l (cJ := cJ) (o9 := o9) (fo := fo) (k := k) (g := g) (b := (nI 0)) (d := d) (j := j) (hn := ahn) (h1 := ah1) (h2 := ah2) (h3 := ah3) (hk := ahk) (hj := ahj) (hop := ahop) hx hb hml hown hts hK hPC gL_law_L_claim ⟨Nat.le_of_ble_eq_true rfl, Nat.le_of_ble_eq_true rfl⟩ ⟨show cells + 0 ≤ 1083 by omega, show slots + 0 ≤ 9657 by omega⟩ hl.1 (Nat.le_of_ble_eq_true rfl) dL_law_386 hI hoC hPo hKJ (fun x h => h.elim (hAC x) (fun h => by rw [h]; exact hAo)) hS (fun u9 H2 locs hPC fo hf9 hPo hS hz9 hf => ?_)
  have hPM := zz_kM hIm hPM (fun x h1 h2 => hf x h1 (fun h3 => h3.elim (fun h3 => hCM x h3 h2) (fun h3 => hoM (by rw [← h3]; exact h2))))
  refine lv_istore (lv' := [(5, .int (nI 0)), (4, .int (nI (5 * i9))), (0, .ref b), (1, .ref (ad 0)), (2, .ref (am 0)), (3, .ref o9)]) hx hb dL_law_389 hl (by decide) rfl (fun ls hl => ?_)
  refine lv_aload_n hx hb dL_law_391 rfl (lv_at hl 4 rfl) ?_
  refine lv_aload_n hx hb dL_law_392 rfl (lv_at hl 2 rfl) ?_
  refine lv_iload hx hb dL_law_393 (lv_at hl 1 rfl) ?_
  refine lv_iconst (v := nI 1) hx hb dL_law_395 (by decide) ?_
  refine lv_iadd hx hb dL_law_396 ?_
  refine zt_i (y := nI (5 * i9 + 1)) (nI_add _ _) ?_
  refine va_sld hx hb hX hbl hbA hS (vp_in_nI (n := 5 * i9 + 1) (by omega) (by omega)) dL_law_397 ?_
  rw [nI_clamp (show 5 * i9 + 1 < 2 ^ 31 by omega)]
  rw [e1]
  refine lv_aload_n hx hb dL_law_398 rfl (lv_at hl 2 rfl) ?_
  refine lv_iload hx hb dL_law_399 (lv_at hl 1 rfl) ?_
  refine lv_iconst (v := nI 2) hx hb dL_law_401 (by decide) ?_
  refine lv_iadd hx hb dL_law_402 ?_
  refine zt_i (y := nI (5 * i9 + 2)) (nI_add _ _) ?_
  refine va_sld hx hb hX hbl hbA hS (vp_in_nI (n := 5 * i9 + 2) (by omega) (by omega)) dL_law_403 ?_
  rw [nI_clamp (show 5 * i9 + 2 < 2 ^ 31 by omega)]
  rw [e2]
  refine lv_aload_n hx hb dL_law_404 rfl (lv_at hl 2 rfl) ?_
  refine lv_iload hx hb dL_law_405 (lv_at hl 1 rfl) ?_
  refine lv_iconst (v := nI 3) hx hb dL_law_407 (by decide) ?_
  refine lv_iadd hx hb dL_law_408 ?_
  refine zt_i (y := nI (5 * i9 + 3)) (nI_add _ _) ?_
  refine va_sld hx hb hX hbl hbA hS (vp_in_nI (n := 5 * i9 + 3) (by omega) (by omega)) dL_law_409 ?_
  rw [nI_clamp (show 5 * i9 + 3 < 2 ^ 31 by omega)]
  refine lv_if_eq (tgt := 417) hx hb dL_law_410 (by decide) (fun _ => ?_) (fun h9 => absurd e3 h9)
  refine lv_iconst (v := nI 0) hx hb dL_law_417 (by decide) ?_
  refine lv_aload_n hx hb dL_law_418 rfl (lv_at hl 2 rfl) ?_
  refine lv_iload hx hb dL_law_419 (lv_at hl 1 rfl) ?_
  refine lv_iconst (v := nI 4) hx hb dL_law_421 (by decide) ?_
  refine lv_iadd hx hb dL_law_422 ?_
  refine zt_i (y := nI (5 * i9 + 4)) (nI_add _ _) ?_
  refine va_sld hx hb hX hbl hbA hS (vp_in_nI (n := 5 * i9 + 4) (by omega) (by omega)) dL_law_423 ?_
  rw [nI_clamp (show 5 * i9 + 4 < 2 ^ 31 by omega)]
  rw [e4]
  refine k_X4_claim_join l (k := k) (g := g) (b := (nI 0)) (d := d) (j := j) (hn := ahn) (h1 := ah1) (h2 := ah2) (h3 := ah3) (hk := ahk) (hj := ahj) (hop := bhop) hx hb hml hown hts hK hPM gL_law_X4_claim ⟨Nat.le_of_ble_eq_true rfl, Nat.le_of_ble_eq_true rfl⟩ ⟨show cells + 0 ≤ 1083 by omega, show slots + 0 ≤ 9657 by omega⟩ hl.1 (Nat.le_of_ble_eq_true rfl) dL_law_424 hIm hAM hS (fun H2 locs hPM hS hf => ?_)
  have hPC := zz_kC hI hPC (fun x h1 h2 => hf x h1 (fun h3 => hCM x h2 h3))
  have hPo := zz_ko hPo (hf _ (zz_lt hPo) hoM)
  refine lv_istore (lv' := [(6, .int (nI j)), (5, .int (nI 0)), (4, .int (nI (5 * i9))), (0, .ref b), (1, .ref (ad 0)), (2, .ref (am 0)), (3, .ref o9)]) hx hb dL_law_427 hl (by decide) rfl (fun ls hl => ?_)
  refine lv_aload_n hx hb dL_law_429 rfl (lv_at hl 5 rfl) ?_
  refine k_X4_thrown l hx hb hml hown hts hK hPM gL_law_X4_thrown ⟨Nat.le_of_ble_eq_true rfl, Nat.le_of_ble_eq_true rfl⟩ ⟨show cells + 0 ≤ 1083 by omega, show slots + 0 ≤ 9657 by omega⟩ hl.1 (Nat.le_of_ble_eq_true rfl) dL_law_430 ?_
  refine lv_iload hx hb dL_law_433 (lv_at hl 1 rfl) ?_
  refine lv_icmp_eq (tgt := 440) hx hb dL_law_435 (by decide) (fun _ => ?_) (fun h9 => absurd rfl h9)
  refine lv_iload hx hb dL_law_440 (lv_at hl 1 rfl) ?_
  refine lv_if_ne (tgt := 457) hx hb dL_law_442 (by decide) (fun h9 => absurd (by decide) h9) (fun _ => ?_)
  refine lv_aload_n hx hb dL_law_445 rfl (lv_at hl 6 rfl) ?_
  refine lv_iconst (v := nI 0) hx hb dL_law_446 (by decide) ?_
  refine va_lald hx hb hKJ hPo 0 0 rfl rfl (vp_in_nI (n := 0) (by decide) (by decide)) dL_law_447 ?_
  refine zt_l (y := (nI j).toInt64) (by rw [show (nI 0).toNatClampNeg = 0 by decide]; exact hf9) ?_
  refine lv_iload hx hb dL_law_448 (lv_at hl 0 rfl) ?_
  refine lv_i2l (v := (nI j).toInt64) hx hb dL_law_450 rfl ?_
  refine W.lcmp hx hb dL_law_451 ?_
  refine zg_eq (tgt := 457) hx hb dL_law_452 (by decide) (fun _ => ?_) (fun h9 => absurd (rfl) h9)
  refine lv_goto (tgt := 1529) hx hb dL_law_457 (by decide) ?_
  exact kk _ _ _ _ _ (by omega) (by omega) hPC hPM hPo hS ls (lv_sub hl [2, 3, 4, 5, 6] rfl)
set_option maxHeartbeats 4000000 in
set_option maxRecDepth 100000 in
theorem lo_claim_join_1 {p : Program} {e : Env} {s : State} {m : MethodId} {below : List Frame} {meth : Method} {c : Code} (l : Launch) (hfl : l.stackTraces = false) {b L : Nat} {xs : Nat → Int32} (C0 : lw_At p s m meth c b L xs) {dC : Nat → ClassId} {dI : Nat → Nat → Nat} {cI cZ cJ : ClassId} {ad am : Nat → Nat} {o9 : Nat} (CC : lwC dC dI cI cZ cJ ad am o9 s) (hT0 : tX (fun q => s.heap.size ≤ q) s s.heap) {sm fe ex dy : Int32} {gp gc op gr st dl wo : Nat → Int32} {n : Nat} {yc ya ys yd : Nat → Int32} {q : Nat} {zc zp zr zs zf : Nat → Int32} {z : Nat} {zm zt : Int64} {pe tp fu sh ro : Nat → Int32} {th : Int32} {fo : Nat → Int64} {k : Nat} {g : Int32} {d : Int32} {j : Nat} {i9 : Nat} (hi9 : 5 * i9 + 5 ≤ L) (hL9 : L ≤ 2560) {H : Heap} {locs : List Loc} {cells slots : Nat} (hc1 : cells ≤ 37 + i9) (hs1 : slots ≤ 1333 + 6 * i9) (hPC : va_P (dC, dI) vwCl (wC cI cZ ad sm fe ex dy gp gc op gr st dl wo n yc ya ys yd q zc zp zr zs zf z zm zt) H) (hPM : va_P (dC, dI) vwCl (wM cI cZ am sm fe ex gp gc dy n pe gr st dl wo q yc ya yd ys tp fu sh ro th) H) (hPo : va_P (dC, dI) vwCl [(o9, .inl (cJ, 1, .inr (.inl fo)))] H) (hS : va_S (fun q : Nat => s.heap.size ≤ q) s.heap H locs) (e1 : xs (5 * i9 + 1) = nI k) (e2 : xs (5 * i9 + 2) = g) (e3 : ¬ xs (5 * i9 + 3) = 0) (e4 : xs (5 * i9 + 4) = d) (ahn : n ≤ 24) (ah1 : outN (nI k) (nI 0) (nI 29) = 0) (ah2 : outN g (nI 0) (nI 4) = 0) (ah3 : outN d (nI 0) (nI 100) = 0) (ahk : k < 30) (ahj : j < n) (ahop : op k = nI j) (bhop : ofP pe (nI k) n = nI j) {ls : Array Slot} (hl : lv_has ls 7 [(4, .int (nI (5 * i9))), (0, .ref b), (1, .ref (ad 0)), (2, .ref (am 0)), (3, .ref o9)]) (kk : ∀ (fo2 : Nat → Int64) (H2 : Heap) (locs2 : List Loc) (c2 s2 : Nat), c2 ≤ 38 + i9 → s2 ≤ 1339 + 6 * i9 → va_P (dC, dI) vwCl (wC cI cZ ad sm fe ex dy gp gc op (upd gr j (maxI (gr j) g)) (joinS st j (nI 1)) dl wo n yc ya ys yd q zc zp zr zs zf z zm zt) H2 → va_P (dC, dI) vwCl (wM cI cZ am sm fe ex gp gc dy n pe (upd gr j (maxI (gr j) g)) (joinS st j (nI 1)) dl wo q yc ya yd ys tp fu sh ro (nI 0)) H2 → va_P (dC, dI) vwCl [(o9, .inl (cJ, 1, .inr (.inl fo2)))] H2 → va_S (fun q : Nat => s.heap.size ≤ q) s.heap H2 locs2 → ∀ ls, lv_has ls 7 [(4, .int (nI (5 * i9))), (0, .ref b), (1, .ref (ad 0)), (2, .ref (am 0)), (3, .ref o9)] → W p l e room_1 s m #[Value.ref b] below meth c H2 locs2 c2 s2 (lw_Z below #[Value.ref b] s) (F0 m 1529 ls [])) : W p l e room_1 s m #[Value.ref b] below meth c H locs cells slots (lw_Z below #[Value.ref b] s) (F0 m 352 ls []) := by
  obtain ⟨hx, hb, hr, hml, hown, hts0, hX, hbl, hlocks, hgv⟩ := id C0
  obtain ⟨⟨hI, hIm⟩, ⟨hoC, hoM, hCM⟩, ⟨hAC, hAM, hAo⟩, hK, hKJ, hN⟩ := id CC
  have hts : ∀ w ∈ wsL_law, w.before #[Value.ref b] s = true := fun w hw => hts0 w (wsL_law_in w hw)
  have hown : s.vm.findClass RL = some m.cls := hown
  have hbA : ¬ (fun q : Nat => s.heap.size ≤ q) b := Nat.not_le.mpr hbl
  have hT : tX (fun q => s.heap.size ≤ q) s H := zz_kT hT0 hS
  refine lv_aload_n hx hb dL_law_352 rfl (lv_at hl 2 rfl) ?_
  refine lv_aload_n hx hb dL_law_353 rfl (lv_at hl 1 rfl) ?_
  refine lv_iload hx hb dL_law_354 (lv_at hl 0 rfl) ?_
  refine lv_iconst (v := nI 1) hx hb dL_law_356 (by decide) ?_
  refine lv_iadd hx hb dL_law_357 ?_
  refine zt_i (y := nI (5 * i9 + 1)) (nI_add _ _) ?_
  refine va_sld hx hb hX hbl hbA hS (vp_in_nI (n := 5 * i9 + 1) (by omega) (by omega)) dL_law_358 ?_
  rw [nI_clamp (show 5 * i9 + 1 < 2 ^ 31 by omega)]
  rw [e1]
  refine lv_aload_n hx hb dL_law_359 rfl (lv_at hl 1 rfl) ?_
  refine lv_iload hx hb dL_law_360 (lv_at hl 0 rfl) ?_
  refine lv_iconst (v := nI 2) hx hb dL_law_362 (by decide) ?_
  refine lv_iadd hx hb dL_law_363 ?_
  refine zt_i (y := nI (5 * i9 + 2)) (nI_add _ _) ?_
  refine va_sld hx hb hX hbl hbA hS (vp_in_nI (n := 5 * i9 + 2) (by omega) (by omega)) dL_law_364 ?_
  rw [nI_clamp (show 5 * i9 + 2 < 2 ^ 31 by omega)]
  rw [e2]
  refine lv_aload_n hx hb dL_law_365 rfl (lv_at hl 1 rfl) ?_
  refine lv_iload hx hb dL_law_366 (lv_at hl 0 rfl) ?_
  refine lv_iconst (v := nI 3) hx hb dL_law_368 (by decide) ?_
  refine lv_iadd hx hb dL_law_369 ?_
  refine zt_i (y := nI (5 * i9 + 3)) (nI_add _ _) ?_
  refine va_sld hx hb hX hbl hbA hS (vp_in_nI (n := 5 * i9 + 3) (by omega) (by omega)) dL_law_370 ?_
  rw [nI_clamp (show 5 * i9 + 3 < 2 ^ 31 by omega)]
  refine lv_if_eq (tgt := 378) hx hb dL_law_371 (by decide) (fun h9 => absurd h9 e3) (fun _ => ?_)
  refine lv_iconst (v := nI 1) hx hb dL_law_374 (by decide) ?_
  refine lv_goto (tgt := 379) hx hb dL_law_375 (by decide) ?_
  refine lv_aload_n hx hb dL_law_379 rfl (lv_at hl 1 rfl) ?_
  refine lv_iload hx hb dL_law_380 (lv_at hl 0 rfl) ?_
  refine lv_iconst (v := nI 4) hx hb dL_law_382 (by decide) ?_
  refine lv_iadd hx hb dL_law_383 ?_
  refine zt_i (y := nI (5 * i9 + 4)) (nI_add _ _) ?_
  refine va_sld hx hb hX hbl hbA hS (vp_in_nI (n := 5 * i9 + 4) (by omega) (by omega)) dL_law_384 ?_
  rw [nI_clamp (show 5 * i9 + 4 < 2 ^ 31 by omega)]
  rw [e4]
  refine lv_aload_n hx hb dL_law_385 rfl (lv_at hl 4 rfl) ?_
  refine kh_claim_join l (cJ := cJ) (o9 := o9) (fo := fo) (k := k) (g := g) (b := (nI 1)) (d := d) (j := j) (hn := ahn) (h1 := ah1) (h2 := ah2) (h3 := ah3) (hk := ahk) (hj := ahj) (hop := ahop) hx hb hml hown hts hK hPC gL_law_L_claim ⟨Nat.le_of_ble_eq_true rfl, Nat.le_of_ble_eq_true rfl⟩ ⟨show cells + 0 ≤ 1083 by omega, show slots + 0 ≤ 9657 by omega⟩ hl.1 (Nat.le_of_ble_eq_true rfl) dL_law_386 hI hoC hPo hKJ (fun x h => h.elim (hAC x) (fun h => by rw [h]; exact hAo)) hS (fun u9 H2 locs hPC fo hf9 hPo hS hz9 hf => ?_)
  have hPM := zz_kM hIm hPM (fun x h1 h2 => hf x h1 (fun h3 => h3.elim (fun h3 => hCM x h3 h2) (fun h3 => hoM (by rw [← h3]; exact h2))))
  refine lv_istore (lv' := [(5, .int (nI 0)), (4, .int (nI (5 * i9))), (0, .ref b), (1, .ref (ad 0)), (2, .ref (am 0)), (3, .ref o9)]) hx hb dL_law_389 hl (by decide) rfl (fun ls hl => ?_)
  refine lv_aload_n hx hb dL_law_391 rfl (lv_at hl 4 rfl) ?_
  refine lv_aload_n hx hb dL_law_392 rfl (lv_at hl 2 rfl) ?_
  refine lv_iload hx hb dL_law_393 (lv_at hl 1 rfl) ?_
  refine lv_iconst (v := nI 1) hx hb dL_law_395 (by decide) ?_
  refine lv_iadd hx hb dL_law_396 ?_
  refine zt_i (y := nI (5 * i9 + 1)) (nI_add _ _) ?_
  refine va_sld hx hb hX hbl hbA hS (vp_in_nI (n := 5 * i9 + 1) (by omega) (by omega)) dL_law_397 ?_
  rw [nI_clamp (show 5 * i9 + 1 < 2 ^ 31 by omega)]
  rw [e1]
  refine lv_aload_n hx hb dL_law_398 rfl (lv_at hl 2 rfl) ?_
  refine lv_iload hx hb dL_law_399 (lv_at hl 1 rfl) ?_
  refine lv_iconst (v := nI 2) hx hb dL_law_401 (by decide) ?_
  refine lv_iadd hx hb dL_law_402 ?_
  refine zt_i (y := nI (5 * i9 + 2)) (nI_add _ _) ?_
  refine va_sld hx hb hX hbl hbA hS (vp_in_nI (n := 5 * i9 + 2) (by omega) (by omega)) dL_law_403 ?_
  rw [nI_clamp (show 5 * i9 + 2 < 2 ^ 31 by omega)]
  rw [e2]
  refine lv_aload_n hx hb dL_law_404 rfl (lv_at hl 2 rfl) ?_
  refine lv_iload hx hb dL_law_405 (lv_at hl 1 rfl) ?_
  refine lv_iconst (v := nI 3) hx hb dL_law_407 (by decide) ?_
  refine lv_iadd hx hb dL_law_408 ?_
  refine zt_i (y := nI (5 * i9 + 3)) (nI_add _ _) ?_
  refine va_sld hx hb hX hbl hbA hS (vp_in_nI (n := 5 * i9 + 3) (by omega) (by omega)) dL_law_409 ?_
  rw [nI_clamp (show 5 * i9 + 3 < 2 ^ 31 by omega)]
  refine lv_if_eq (tgt := 417) hx hb dL_law_410 (by decide) (fun h9 => absurd h9 e3) (fun _ => ?_)
  refine lv_iconst (v := nI 1) hx hb dL_law_413 (by decide) ?_
  refine lv_goto (tgt := 418) hx hb dL_law_414 (by decide) ?_
  refine lv_aload_n hx hb dL_law_418 rfl (lv_at hl 2 rfl) ?_
  refine lv_iload hx hb dL_law_419 (lv_at hl 1 rfl) ?_
  refine lv_iconst (v := nI 4) hx hb dL_law_421 (by decide) ?_
  refine lv_iadd hx hb dL_law_422 ?_
  refine zt_i (y := nI (5 * i9 + 4)) (nI_add _ _) ?_
  refine va_sld hx hb hX hbl hbA hS (vp_in_nI (n := 5 * i9 + 4) (by omega) (by omega)) dL_law_423 ?_
  rw [nI_clamp (show 5 * i9 + 4 < 2 ^ 31 by omega)]
  rw [e4]
  refine k_X4_claim_join l (k := k) (g := g) (b := (nI 1)) (d := d) (j := j) (hn := ahn) (h1 := ah1) (h2 := ah2) (h3 := ah3) (hk := ahk) (hj := ahj) (hop := bhop) hx hb hml hown hts hK hPM gL_law_X4_claim ⟨Nat.le_of_ble_eq_true rfl, Nat.le_of_ble_eq_true rfl⟩ ⟨show cells + 0 ≤ 1083 by omega, show slots + 0 ≤ 9657 by omega⟩ hl.1 (Nat.le_of_ble_eq_true rfl) dL_law_424 hIm hAM hS (fun H2 locs hPM hS hf => ?_)
  have hPC := zz_kC hI hPC (fun x h1 h2 => hf x h1 (fun h3 => hCM x h2 h3))
  have hPo := zz_ko hPo (hf _ (zz_lt hPo) hoM)
  refine lv_istore (lv' := [(6, .int (nI j)), (5, .int (nI 0)), (4, .int (nI (5 * i9))), (0, .ref b), (1, .ref (ad 0)), (2, .ref (am 0)), (3, .ref o9)]) hx hb dL_law_427 hl (by decide) rfl (fun ls hl => ?_)
  refine lv_aload_n hx hb dL_law_429 rfl (lv_at hl 5 rfl) ?_
  refine k_X4_thrown l hx hb hml hown hts hK hPM gL_law_X4_thrown ⟨Nat.le_of_ble_eq_true rfl, Nat.le_of_ble_eq_true rfl⟩ ⟨show cells + 0 ≤ 1083 by omega, show slots + 0 ≤ 9657 by omega⟩ hl.1 (Nat.le_of_ble_eq_true rfl) dL_law_430 ?_
  refine lv_iload hx hb dL_law_433 (lv_at hl 1 rfl) ?_
  refine lv_icmp_eq (tgt := 440) hx hb dL_law_435 (by decide) (fun _ => ?_) (fun h9 => absurd rfl h9)
  refine lv_iload hx hb dL_law_440 (lv_at hl 1 rfl) ?_
  refine lv_if_ne (tgt := 457) hx hb dL_law_442 (by decide) (fun h9 => absurd (by decide) h9) (fun _ => ?_)
  refine lv_aload_n hx hb dL_law_445 rfl (lv_at hl 6 rfl) ?_
  refine lv_iconst (v := nI 0) hx hb dL_law_446 (by decide) ?_
  refine va_lald hx hb hKJ hPo 0 0 rfl rfl (vp_in_nI (n := 0) (by decide) (by decide)) dL_law_447 ?_
  refine zt_l (y := (nI j).toInt64) (by rw [show (nI 0).toNatClampNeg = 0 by decide]; exact hf9) ?_
  refine lv_iload hx hb dL_law_448 (lv_at hl 0 rfl) ?_
  refine lv_i2l (v := (nI j).toInt64) hx hb dL_law_450 rfl ?_
  refine W.lcmp hx hb dL_law_451 ?_
  refine zg_eq (tgt := 457) hx hb dL_law_452 (by decide) (fun _ => ?_) (fun h9 => absurd (rfl) h9)
  refine lv_goto (tgt := 1529) hx hb dL_law_457 (by decide) ?_
  exact kk _ _ _ _ _ (by omega) (by omega) hPC hPM hPo hS ls (lv_sub hl [2, 3, 4, 5, 6] rfl)
set_option maxHeartbeats 4000000 in
set_option maxRecDepth 100000 in
theorem lo_claim_enter_0 {p : Program} {e : Env} {s : State} {m : MethodId} {below : List Frame} {meth : Method} {c : Code} (l : Launch) (hfl : l.stackTraces = false) {b L : Nat} {xs : Nat → Int32} (C0 : lw_At p s m meth c b L xs) {dC : Nat → ClassId} {dI : Nat → Nat → Nat} {cI cZ cJ : ClassId} {ad am : Nat → Nat} {o9 : Nat} (CC : lwC dC dI cI cZ cJ ad am o9 s) (hT0 : tX (fun q => s.heap.size ≤ q) s s.heap) {sm fe ex dy : Int32} {gp gc op gr st dl wo : Nat → Int32} {n : Nat} {yc ya ys yd : Nat → Int32} {q : Nat} {zc zp zr zs zf : Nat → Int32} {z : Nat} {zm zt : Int64} {pe tp fu sh ro : Nat → Int32} {th : Int32} {fo : Nat → Int64} {k : Nat} {g : Int32} {d : Int32} {i9 : Nat} (hi9 : 5 * i9 + 5 ≤ L) (hL9 : L ≤ 2560) {H : Heap} {locs : List Loc} {cells slots : Nat} (hc1 : cells ≤ 37 + i9) (hs1 : slots ≤ 1333 + 6 * i9) (hPC : va_P (dC, dI) vwCl (wC cI cZ ad sm fe ex dy gp gc op gr st dl wo n yc ya ys yd q zc zp zr zs zf z zm zt) H) (hPM : va_P (dC, dI) vwCl (wM cI cZ am sm fe ex gp gc dy n pe gr st dl wo q yc ya yd ys tp fu sh ro th) H) (hPo : va_P (dC, dI) vwCl [(o9, .inl (cJ, 1, .inr (.inl fo)))] H) (hS : va_S (fun q : Nat => s.heap.size ≤ q) s.heap H locs) (e1 : xs (5 * i9 + 1) = nI k) (e2 : xs (5 * i9 + 2) = g) (e3 : xs (5 * i9 + 3) = 0) (e4 : xs (5 * i9 + 4) = d) (ahn : n < 24) (ah1 : outN (nI k) (nI 0) (nI 29) = 0) (ah2 : outN g (nI 0) (nI 4) = 0) (ah3 : outN d (nI 0) (nI 100) = 0) (ahk : k < 30) (ahop : op k = (-1)) (bhop : ofP pe (nI k) n = (-1)) (bhwo : wo n = nI 0) {ls : Array Slot} (hl : lv_has ls 7 [(4, .int (nI (5 * i9))), (0, .ref b), (1, .ref (ad 0)), (2, .ref (am 0)), (3, .ref o9)]) (kk : ∀ (fo2 : Nat → Int64) (H2 : Heap) (locs2 : List Loc) (c2 s2 : Nat), c2 ≤ 38 + i9 → s2 ≤ 1339 + 6 * i9 → va_P (dC, dI) vwCl (wC cI cZ ad sm fe ex dy gp gc (upd op k (nI n)) (upd gr n g) (upd st n (faultS (nI 0))) (upd dl n (dy + d)) wo (n + 1) yc ya ys yd q zc zp zr zs zf z zm zt) H2 → va_P (dC, dI) vwCl (wM cI cZ am sm fe ex gp gc dy (n + 1) (upd pe n (nI k)) (upd gr n g) (upd st n (faultS (nI 0))) (upd dl n (dy + d)) wo q yc ya yd ys tp fu sh ro (nI 0)) H2 → va_P (dC, dI) vwCl [(o9, .inl (cJ, 1, .inr (.inl fo2)))] H2 → va_S (fun q : Nat => s.heap.size ≤ q) s.heap H2 locs2 → ∀ ls, lv_has ls 7 [(4, .int (nI (5 * i9))), (0, .ref b), (1, .ref (ad 0)), (2, .ref (am 0)), (3, .ref o9)] → W p l e room_1 s m #[Value.ref b] below meth c H2 locs2 c2 s2 (lw_Z below #[Value.ref b] s) (F0 m 1529 ls [])) : W p l e room_1 s m #[Value.ref b] below meth c H locs cells slots (lw_Z below #[Value.ref b] s) (F0 m 352 ls []) := by
  obtain ⟨hx, hb, hr, hml, hown, hts0, hX, hbl, hlocks, hgv⟩ := id C0
  obtain ⟨⟨hI, hIm⟩, ⟨hoC, hoM, hCM⟩, ⟨hAC, hAM, hAo⟩, hK, hKJ, hN⟩ := id CC
  have hts : ∀ w ∈ wsL_law, w.before #[Value.ref b] s = true := fun w hw => hts0 w (wsL_law_in w hw)
  have hown : s.vm.findClass RL = some m.cls := hown
  have hbA : ¬ (fun q : Nat => s.heap.size ≤ q) b := Nat.not_le.mpr hbl
  have hT : tX (fun q => s.heap.size ≤ q) s H := zz_kT hT0 hS
  refine lv_aload_n hx hb dL_law_352 rfl (lv_at hl 2 rfl) ?_
  refine lv_aload_n hx hb dL_law_353 rfl (lv_at hl 1 rfl) ?_
  refine lv_iload hx hb dL_law_354 (lv_at hl 0 rfl) ?_
  refine lv_iconst (v := nI 1) hx hb dL_law_356 (by decide) ?_
  refine lv_iadd hx hb dL_law_357 ?_
  refine zt_i (y := nI (5 * i9 + 1)) (nI_add _ _) ?_
  refine va_sld hx hb hX hbl hbA hS (vp_in_nI (n := 5 * i9 + 1) (by omega) (by omega)) dL_law_358 ?_
  rw [nI_clamp (show 5 * i9 + 1 < 2 ^ 31 by omega)]
  rw [e1]
  refine lv_aload_n hx hb dL_law_359 rfl (lv_at hl 1 rfl) ?_
  refine lv_iload hx hb dL_law_360 (lv_at hl 0 rfl) ?_
  refine lv_iconst (v := nI 2) hx hb dL_law_362 (by decide) ?_
  refine lv_iadd hx hb dL_law_363 ?_
  refine zt_i (y := nI (5 * i9 + 2)) (nI_add _ _) ?_
  refine va_sld hx hb hX hbl hbA hS (vp_in_nI (n := 5 * i9 + 2) (by omega) (by omega)) dL_law_364 ?_
  rw [nI_clamp (show 5 * i9 + 2 < 2 ^ 31 by omega)]
  rw [e2]
  refine lv_aload_n hx hb dL_law_365 rfl (lv_at hl 1 rfl) ?_
  refine lv_iload hx hb dL_law_366 (lv_at hl 0 rfl) ?_
  refine lv_iconst (v := nI 3) hx hb dL_law_368 (by decide) ?_
  refine lv_iadd hx hb dL_law_369 ?_
  refine zt_i (y := nI (5 * i9 + 3)) (nI_add _ _) ?_
  refine va_sld hx hb hX hbl hbA hS (vp_in_nI (n := 5 * i9 + 3) (by omega) (by omega)) dL_law_370 ?_
  rw [nI_clamp (show 5 * i9 + 3 < 2 ^ 31 by omega)]
  refine lv_if_eq (tgt := 378) hx hb dL_law_371 (by decide) (fun _ => ?_) (fun h9 => absurd e3 h9)
  refine lv_iconst (v := nI 0) hx hb dL_law_378 (by decide) ?_
  refine lv_aload_n hx hb dL_law_379 rfl (lv_at hl 1 rfl) ?_
  refine lv_iload hx hb dL_law_380 (lv_at hl 0 rfl) ?_
  refine lv_iconst (v := nI 4) hx hb dL_law_382 (by decide) ?_
  refine lv_iadd hx hb dL_law_383 ?_
  refine zt_i (y := nI (5 * i9 + 4)) (nI_add _ _) ?_
  refine va_sld hx hb hX hbl hbA hS (vp_in_nI (n := 5 * i9 + 4) (by omega) (by omega)) dL_law_384 ?_
  rw [nI_clamp (show 5 * i9 + 4 < 2 ^ 31 by omega)]
  rw [e4]
  refine lv_aload_n hx hb dL_law_385 rfl (lv_at hl 4 rfl) ?_
  refine kh_claim_enter l (cJ := cJ) (o9 := o9) (fo := fo) (k := k) (g := g) (b := (nI 0)) (d := d) (hn := ahn) (h1 := ah1) (h2 := ah2) (h3 := ah3) (hk := ahk) (hop := ahop) hx hb hml hown hts hK hPC gL_law_L_claim ⟨Nat.le_of_ble_eq_true rfl, Nat.le_of_ble_eq_true rfl⟩ ⟨show cells + 0 ≤ 1083 by omega, show slots + 0 ≤ 9657 by omega⟩ hl.1 (Nat.le_of_ble_eq_true rfl) dL_law_386 hI hoC hPo hKJ (fun x h => h.elim (hAC x) (fun h => by rw [h]; exact hAo)) hS (fun u9 H2 locs hPC fo hf9 hPo hS hz9 hf => ?_)
  have hPM := zz_kM hIm hPM (fun x h1 h2 => hf x h1 (fun h3 => h3.elim (fun h3 => hCM x h3 h2) (fun h3 => hoM (by rw [← h3]; exact h2))))
  refine lv_istore (lv' := [(5, .int (nI 0)), (4, .int (nI (5 * i9))), (0, .ref b), (1, .ref (ad 0)), (2, .ref (am 0)), (3, .ref o9)]) hx hb dL_law_389 hl (by decide) rfl (fun ls hl => ?_)
  refine lv_aload_n hx hb dL_law_391 rfl (lv_at hl 4 rfl) ?_
  refine lv_aload_n hx hb dL_law_392 rfl (lv_at hl 2 rfl) ?_
  refine lv_iload hx hb dL_law_393 (lv_at hl 1 rfl) ?_
  refine lv_iconst (v := nI 1) hx hb dL_law_395 (by decide) ?_
  refine lv_iadd hx hb dL_law_396 ?_
  refine zt_i (y := nI (5 * i9 + 1)) (nI_add _ _) ?_
  refine va_sld hx hb hX hbl hbA hS (vp_in_nI (n := 5 * i9 + 1) (by omega) (by omega)) dL_law_397 ?_
  rw [nI_clamp (show 5 * i9 + 1 < 2 ^ 31 by omega)]
  rw [e1]
  refine lv_aload_n hx hb dL_law_398 rfl (lv_at hl 2 rfl) ?_
  refine lv_iload hx hb dL_law_399 (lv_at hl 1 rfl) ?_
  refine lv_iconst (v := nI 2) hx hb dL_law_401 (by decide) ?_
  refine lv_iadd hx hb dL_law_402 ?_
  refine zt_i (y := nI (5 * i9 + 2)) (nI_add _ _) ?_
  refine va_sld hx hb hX hbl hbA hS (vp_in_nI (n := 5 * i9 + 2) (by omega) (by omega)) dL_law_403 ?_
  rw [nI_clamp (show 5 * i9 + 2 < 2 ^ 31 by omega)]
  rw [e2]
  refine lv_aload_n hx hb dL_law_404 rfl (lv_at hl 2 rfl) ?_
  refine lv_iload hx hb dL_law_405 (lv_at hl 1 rfl) ?_
  refine lv_iconst (v := nI 3) hx hb dL_law_407 (by decide) ?_
  refine lv_iadd hx hb dL_law_408 ?_
  refine zt_i (y := nI (5 * i9 + 3)) (nI_add _ _) ?_
  refine va_sld hx hb hX hbl hbA hS (vp_in_nI (n := 5 * i9 + 3) (by omega) (by omega)) dL_law_409 ?_
  rw [nI_clamp (show 5 * i9 + 3 < 2 ^ 31 by omega)]
  refine lv_if_eq (tgt := 417) hx hb dL_law_410 (by decide) (fun _ => ?_) (fun h9 => absurd e3 h9)
  refine lv_iconst (v := nI 0) hx hb dL_law_417 (by decide) ?_
  refine lv_aload_n hx hb dL_law_418 rfl (lv_at hl 2 rfl) ?_
  refine lv_iload hx hb dL_law_419 (lv_at hl 1 rfl) ?_
  refine lv_iconst (v := nI 4) hx hb dL_law_421 (by decide) ?_
  refine lv_iadd hx hb dL_law_422 ?_
  refine zt_i (y := nI (5 * i9 + 4)) (nI_add _ _) ?_
  refine va_sld hx hb hX hbl hbA hS (vp_in_nI (n := 5 * i9 + 4) (by omega) (by omega)) dL_law_423 ?_
  rw [nI_clamp (show 5 * i9 + 4 < 2 ^ 31 by omega)]
  rw [e4]
  refine k_X4_claim_enter l (k := k) (g := g) (b := (nI 0)) (d := d) (hn := ahn) (h1 := ah1) (h2 := ah2) (h3 := ah3) (hk := ahk) (hop := bhop) (hwo := bhwo) hx hb hml hown hts hK hPM gL_law_X4_claim ⟨Nat.le_of_ble_eq_true rfl, Nat.le_of_ble_eq_true rfl⟩ ⟨show cells + 0 ≤ 1083 by omega, show slots + 0 ≤ 9657 by omega⟩ hl.1 (Nat.le_of_ble_eq_true rfl) dL_law_424 hIm hAM hS (fun H2 locs hPM hS hf => ?_)
  have hPC := zz_kC hI hPC (fun x h1 h2 => hf x h1 (fun h3 => hCM x h2 h3))
  have hPo := zz_ko hPo (hf _ (zz_lt hPo) hoM)
  refine lv_istore (lv' := [(6, .int (nI n)), (5, .int (nI 0)), (4, .int (nI (5 * i9))), (0, .ref b), (1, .ref (ad 0)), (2, .ref (am 0)), (3, .ref o9)]) hx hb dL_law_427 hl (by decide) rfl (fun ls hl => ?_)
  refine lv_aload_n hx hb dL_law_429 rfl (lv_at hl 5 rfl) ?_
  refine k_X4_thrown l hx hb hml hown hts hK hPM gL_law_X4_thrown ⟨Nat.le_of_ble_eq_true rfl, Nat.le_of_ble_eq_true rfl⟩ ⟨show cells + 0 ≤ 1083 by omega, show slots + 0 ≤ 9657 by omega⟩ hl.1 (Nat.le_of_ble_eq_true rfl) dL_law_430 ?_
  refine lv_iload hx hb dL_law_433 (lv_at hl 1 rfl) ?_
  refine lv_icmp_eq (tgt := 440) hx hb dL_law_435 (by decide) (fun _ => ?_) (fun h9 => absurd rfl h9)
  refine lv_iload hx hb dL_law_440 (lv_at hl 1 rfl) ?_
  refine lv_if_ne (tgt := 457) hx hb dL_law_442 (by decide) (fun h9 => absurd (by decide) h9) (fun _ => ?_)
  refine lv_aload_n hx hb dL_law_445 rfl (lv_at hl 6 rfl) ?_
  refine lv_iconst (v := nI 0) hx hb dL_law_446 (by decide) ?_
  refine va_lald hx hb hKJ hPo 0 0 rfl rfl (vp_in_nI (n := 0) (by decide) (by decide)) dL_law_447 ?_
  refine zt_l (y := (nI n).toInt64) (by rw [show (nI 0).toNatClampNeg = 0 by decide]; exact hf9) ?_
  refine lv_iload hx hb dL_law_448 (lv_at hl 0 rfl) ?_
  refine lv_i2l (v := (nI n).toInt64) hx hb dL_law_450 rfl ?_
  refine W.lcmp hx hb dL_law_451 ?_
  refine zg_eq (tgt := 457) hx hb dL_law_452 (by decide) (fun _ => ?_) (fun h9 => absurd (rfl) h9)
  refine lv_goto (tgt := 1529) hx hb dL_law_457 (by decide) ?_
  exact kk _ _ _ _ _ (by omega) (by omega) hPC hPM hPo hS ls (lv_sub hl [2, 3, 4, 5, 6] rfl)
set_option maxHeartbeats 4000000 in
set_option maxRecDepth 100000 in
theorem lo_claim_enter_1 {p : Program} {e : Env} {s : State} {m : MethodId} {below : List Frame} {meth : Method} {c : Code} (l : Launch) (hfl : l.stackTraces = false) {b L : Nat} {xs : Nat → Int32} (C0 : lw_At p s m meth c b L xs) {dC : Nat → ClassId} {dI : Nat → Nat → Nat} {cI cZ cJ : ClassId} {ad am : Nat → Nat} {o9 : Nat} (CC : lwC dC dI cI cZ cJ ad am o9 s) (hT0 : tX (fun q => s.heap.size ≤ q) s s.heap) {sm fe ex dy : Int32} {gp gc op gr st dl wo : Nat → Int32} {n : Nat} {yc ya ys yd : Nat → Int32} {q : Nat} {zc zp zr zs zf : Nat → Int32} {z : Nat} {zm zt : Int64} {pe tp fu sh ro : Nat → Int32} {th : Int32} {fo : Nat → Int64} {k : Nat} {g : Int32} {d : Int32} {i9 : Nat} (hi9 : 5 * i9 + 5 ≤ L) (hL9 : L ≤ 2560) {H : Heap} {locs : List Loc} {cells slots : Nat} (hc1 : cells ≤ 37 + i9) (hs1 : slots ≤ 1333 + 6 * i9) (hPC : va_P (dC, dI) vwCl (wC cI cZ ad sm fe ex dy gp gc op gr st dl wo n yc ya ys yd q zc zp zr zs zf z zm zt) H) (hPM : va_P (dC, dI) vwCl (wM cI cZ am sm fe ex gp gc dy n pe gr st dl wo q yc ya yd ys tp fu sh ro th) H) (hPo : va_P (dC, dI) vwCl [(o9, .inl (cJ, 1, .inr (.inl fo)))] H) (hS : va_S (fun q : Nat => s.heap.size ≤ q) s.heap H locs) (e1 : xs (5 * i9 + 1) = nI k) (e2 : xs (5 * i9 + 2) = g) (e3 : ¬ xs (5 * i9 + 3) = 0) (e4 : xs (5 * i9 + 4) = d) (ahn : n < 24) (ah1 : outN (nI k) (nI 0) (nI 29) = 0) (ah2 : outN g (nI 0) (nI 4) = 0) (ah3 : outN d (nI 0) (nI 100) = 0) (ahk : k < 30) (ahop : op k = (-1)) (bhop : ofP pe (nI k) n = (-1)) (bhwo : wo n = nI 0) {ls : Array Slot} (hl : lv_has ls 7 [(4, .int (nI (5 * i9))), (0, .ref b), (1, .ref (ad 0)), (2, .ref (am 0)), (3, .ref o9)]) (kk : ∀ (fo2 : Nat → Int64) (H2 : Heap) (locs2 : List Loc) (c2 s2 : Nat), c2 ≤ 38 + i9 → s2 ≤ 1339 + 6 * i9 → va_P (dC, dI) vwCl (wC cI cZ ad sm fe ex dy gp gc (upd op k (nI n)) (upd gr n g) (upd st n (faultS (nI 1))) (upd dl n (dy + d)) wo (n + 1) yc ya ys yd q zc zp zr zs zf z zm zt) H2 → va_P (dC, dI) vwCl (wM cI cZ am sm fe ex gp gc dy (n + 1) (upd pe n (nI k)) (upd gr n g) (upd st n (faultS (nI 1))) (upd dl n (dy + d)) wo q yc ya yd ys tp fu sh ro (nI 0)) H2 → va_P (dC, dI) vwCl [(o9, .inl (cJ, 1, .inr (.inl fo2)))] H2 → va_S (fun q : Nat => s.heap.size ≤ q) s.heap H2 locs2 → ∀ ls, lv_has ls 7 [(4, .int (nI (5 * i9))), (0, .ref b), (1, .ref (ad 0)), (2, .ref (am 0)), (3, .ref o9)] → W p l e room_1 s m #[Value.ref b] below meth c H2 locs2 c2 s2 (lw_Z below #[Value.ref b] s) (F0 m 1529 ls [])) : W p l e room_1 s m #[Value.ref b] below meth c H locs cells slots (lw_Z below #[Value.ref b] s) (F0 m 352 ls []) := by
  obtain ⟨hx, hb, hr, hml, hown, hts0, hX, hbl, hlocks, hgv⟩ := id C0
  obtain ⟨⟨hI, hIm⟩, ⟨hoC, hoM, hCM⟩, ⟨hAC, hAM, hAo⟩, hK, hKJ, hN⟩ := id CC
  have hts : ∀ w ∈ wsL_law, w.before #[Value.ref b] s = true := fun w hw => hts0 w (wsL_law_in w hw)
  have hown : s.vm.findClass RL = some m.cls := hown
  have hbA : ¬ (fun q : Nat => s.heap.size ≤ q) b := Nat.not_le.mpr hbl
  have hT : tX (fun q => s.heap.size ≤ q) s H := zz_kT hT0 hS
  refine lv_aload_n hx hb dL_law_352 rfl (lv_at hl 2 rfl) ?_
  refine lv_aload_n hx hb dL_law_353 rfl (lv_at hl 1 rfl) ?_
  refine lv_iload hx hb dL_law_354 (lv_at hl 0 rfl) ?_
  refine lv_iconst (v := nI 1) hx hb dL_law_356 (by decide) ?_
  refine lv_iadd hx hb dL_law_357 ?_
  refine zt_i (y := nI (5 * i9 + 1)) (nI_add _ _) ?_
  refine va_sld hx hb hX hbl hbA hS (vp_in_nI (n := 5 * i9 + 1) (by omega) (by omega)) dL_law_358 ?_
  rw [nI_clamp (show 5 * i9 + 1 < 2 ^ 31 by omega)]
  rw [e1]
  refine lv_aload_n hx hb dL_law_359 rfl (lv_at hl 1 rfl) ?_
  refine lv_iload hx hb dL_law_360 (lv_at hl 0 rfl) ?_
  refine lv_iconst (v := nI 2) hx hb dL_law_362 (by decide) ?_
  refine lv_iadd hx hb dL_law_363 ?_
  refine zt_i (y := nI (5 * i9 + 2)) (nI_add _ _) ?_
  refine va_sld hx hb hX hbl hbA hS (vp_in_nI (n := 5 * i9 + 2) (by omega) (by omega)) dL_law_364 ?_
  rw [nI_clamp (show 5 * i9 + 2 < 2 ^ 31 by omega)]
  rw [e2]
  refine lv_aload_n hx hb dL_law_365 rfl (lv_at hl 1 rfl) ?_
  refine lv_iload hx hb dL_law_366 (lv_at hl 0 rfl) ?_
  refine lv_iconst (v := nI 3) hx hb dL_law_368 (by decide) ?_
  refine lv_iadd hx hb dL_law_369 ?_
  refine zt_i (y := nI (5 * i9 + 3)) (nI_add _ _) ?_
  refine va_sld hx hb hX hbl hbA hS (vp_in_nI (n := 5 * i9 + 3) (by omega) (by omega)) dL_law_370 ?_
  rw [nI_clamp (show 5 * i9 + 3 < 2 ^ 31 by omega)]
  refine lv_if_eq (tgt := 378) hx hb dL_law_371 (by decide) (fun h9 => absurd h9 e3) (fun _ => ?_)
  refine lv_iconst (v := nI 1) hx hb dL_law_374 (by decide) ?_
  refine lv_goto (tgt := 379) hx hb dL_law_375 (by decide) ?_
  refine lv_aload_n hx hb dL_law_379 rfl (lv_at hl 1 rfl) ?_
  refine lv_iload hx hb dL_law_380 (lv_at hl 0 rfl) ?_
  refine lv_iconst (v := nI 4) hx hb dL_law_382 (by decide) ?_
  refine lv_iadd hx hb dL_law_383 ?_
  refine zt_i (y := nI (5 * i9 + 4)) (nI_add _ _) ?_
  refine va_sld hx hb hX hbl hbA hS (vp_in_nI (n := 5 * i9 + 4) (by omega) (by omega)) dL_law_384 ?_
  rw [nI_clamp (show 5 * i9 + 4 < 2 ^ 31 by omega)]
  rw [e4]
  refine lv_aload_n hx hb dL_law_385 rfl (lv_at hl 4 rfl) ?_
  refine kh_claim_enter l (cJ := cJ) (o9 := o9) (fo := fo) (k := k) (g := g) (b := (nI 1)) (d := d) (hn := ahn) (h1 := ah1) (h2 := ah2) (h3 := ah3) (hk := ahk) (hop := ahop) hx hb hml hown hts hK hPC gL_law_L_claim ⟨Nat.le_of_ble_eq_true rfl, Nat.le_of_ble_eq_true rfl⟩ ⟨show cells + 0 ≤ 1083 by omega, show slots + 0 ≤ 9657 by omega⟩ hl.1 (Nat.le_of_ble_eq_true rfl) dL_law_386 hI hoC hPo hKJ (fun x h => h.elim (hAC x) (fun h => by rw [h]; exact hAo)) hS (fun u9 H2 locs hPC fo hf9 hPo hS hz9 hf => ?_)
  have hPM := zz_kM hIm hPM (fun x h1 h2 => hf x h1 (fun h3 => h3.elim (fun h3 => hCM x h3 h2) (fun h3 => hoM (by rw [← h3]; exact h2))))
  refine lv_istore (lv' := [(5, .int (nI 0)), (4, .int (nI (5 * i9))), (0, .ref b), (1, .ref (ad 0)), (2, .ref (am 0)), (3, .ref o9)]) hx hb dL_law_389 hl (by decide) rfl (fun ls hl => ?_)
  refine lv_aload_n hx hb dL_law_391 rfl (lv_at hl 4 rfl) ?_
  refine lv_aload_n hx hb dL_law_392 rfl (lv_at hl 2 rfl) ?_
  refine lv_iload hx hb dL_law_393 (lv_at hl 1 rfl) ?_
  refine lv_iconst (v := nI 1) hx hb dL_law_395 (by decide) ?_
  refine lv_iadd hx hb dL_law_396 ?_
  refine zt_i (y := nI (5 * i9 + 1)) (nI_add _ _) ?_
  refine va_sld hx hb hX hbl hbA hS (vp_in_nI (n := 5 * i9 + 1) (by omega) (by omega)) dL_law_397 ?_
  rw [nI_clamp (show 5 * i9 + 1 < 2 ^ 31 by omega)]
  rw [e1]
  refine lv_aload_n hx hb dL_law_398 rfl (lv_at hl 2 rfl) ?_
  refine lv_iload hx hb dL_law_399 (lv_at hl 1 rfl) ?_
  refine lv_iconst (v := nI 2) hx hb dL_law_401 (by decide) ?_
  refine lv_iadd hx hb dL_law_402 ?_
  refine zt_i (y := nI (5 * i9 + 2)) (nI_add _ _) ?_
  refine va_sld hx hb hX hbl hbA hS (vp_in_nI (n := 5 * i9 + 2) (by omega) (by omega)) dL_law_403 ?_
  rw [nI_clamp (show 5 * i9 + 2 < 2 ^ 31 by omega)]
  rw [e2]
  refine lv_aload_n hx hb dL_law_404 rfl (lv_at hl 2 rfl) ?_
  refine lv_iload hx hb dL_law_405 (lv_at hl 1 rfl) ?_
  refine lv_iconst (v := nI 3) hx hb dL_law_407 (by decide) ?_
  refine lv_iadd hx hb dL_law_408 ?_
  refine zt_i (y := nI (5 * i9 + 3)) (nI_add _ _) ?_
  refine va_sld hx hb hX hbl hbA hS (vp_in_nI (n := 5 * i9 + 3) (by omega) (by omega)) dL_law_409 ?_
  rw [nI_clamp (show 5 * i9 + 3 < 2 ^ 31 by omega)]
  refine lv_if_eq (tgt := 417) hx hb dL_law_410 (by decide) (fun h9 => absurd h9 e3) (fun _ => ?_)
  refine lv_iconst (v := nI 1) hx hb dL_law_413 (by decide) ?_
  refine lv_goto (tgt := 418) hx hb dL_law_414 (by decide) ?_
  refine lv_aload_n hx hb dL_law_418 rfl (lv_at hl 2 rfl) ?_
  refine lv_iload hx hb dL_law_419 (lv_at hl 1 rfl) ?_
  refine lv_iconst (v := nI 4) hx hb dL_law_421 (by decide) ?_
  refine lv_iadd hx hb dL_law_422 ?_
  refine zt_i (y := nI (5 * i9 + 4)) (nI_add _ _) ?_
  refine va_sld hx hb hX hbl hbA hS (vp_in_nI (n := 5 * i9 + 4) (by omega) (by omega)) dL_law_423 ?_
  rw [nI_clamp (show 5 * i9 + 4 < 2 ^ 31 by omega)]
  rw [e4]
  refine k_X4_claim_enter l (k := k) (g := g) (b := (nI 1)) (d := d) (hn := ahn) (h1 := ah1) (h2 := ah2) (h3 := ah3) (hk := ahk) (hop := bhop) (hwo := bhwo) hx hb hml hown hts hK hPM gL_law_X4_claim ⟨Nat.le_of_ble_eq_true rfl, Nat.le_of_ble_eq_true rfl⟩ ⟨show cells + 0 ≤ 1083 by omega, show slots + 0 ≤ 9657 by omega⟩ hl.1 (Nat.le_of_ble_eq_true rfl) dL_law_424 hIm hAM hS (fun H2 locs hPM hS hf => ?_)
  have hPC := zz_kC hI hPC (fun x h1 h2 => hf x h1 (fun h3 => hCM x h2 h3))
  have hPo := zz_ko hPo (hf _ (zz_lt hPo) hoM)
  refine lv_istore (lv' := [(6, .int (nI n)), (5, .int (nI 0)), (4, .int (nI (5 * i9))), (0, .ref b), (1, .ref (ad 0)), (2, .ref (am 0)), (3, .ref o9)]) hx hb dL_law_427 hl (by decide) rfl (fun ls hl => ?_)
  refine lv_aload_n hx hb dL_law_429 rfl (lv_at hl 5 rfl) ?_
  refine k_X4_thrown l hx hb hml hown hts hK hPM gL_law_X4_thrown ⟨Nat.le_of_ble_eq_true rfl, Nat.le_of_ble_eq_true rfl⟩ ⟨show cells + 0 ≤ 1083 by omega, show slots + 0 ≤ 9657 by omega⟩ hl.1 (Nat.le_of_ble_eq_true rfl) dL_law_430 ?_
  refine lv_iload hx hb dL_law_433 (lv_at hl 1 rfl) ?_
  refine lv_icmp_eq (tgt := 440) hx hb dL_law_435 (by decide) (fun _ => ?_) (fun h9 => absurd rfl h9)
  refine lv_iload hx hb dL_law_440 (lv_at hl 1 rfl) ?_
  refine lv_if_ne (tgt := 457) hx hb dL_law_442 (by decide) (fun h9 => absurd (by decide) h9) (fun _ => ?_)
  refine lv_aload_n hx hb dL_law_445 rfl (lv_at hl 6 rfl) ?_
  refine lv_iconst (v := nI 0) hx hb dL_law_446 (by decide) ?_
  refine va_lald hx hb hKJ hPo 0 0 rfl rfl (vp_in_nI (n := 0) (by decide) (by decide)) dL_law_447 ?_
  refine zt_l (y := (nI n).toInt64) (by rw [show (nI 0).toNatClampNeg = 0 by decide]; exact hf9) ?_
  refine lv_iload hx hb dL_law_448 (lv_at hl 0 rfl) ?_
  refine lv_i2l (v := (nI n).toInt64) hx hb dL_law_450 rfl ?_
  refine W.lcmp hx hb dL_law_451 ?_
  refine zg_eq (tgt := 457) hx hb dL_law_452 (by decide) (fun _ => ?_) (fun h9 => absurd (rfl) h9)
  refine lv_goto (tgt := 1529) hx hb dL_law_457 (by decide) ?_
  exact kk _ _ _ _ _ (by omega) (by omega) hPC hPM hPo hS ls (lv_sub hl [2, 3, 4, 5, 6] rfl)
set_option maxHeartbeats 4000000 in
set_option maxRecDepth 100000 in
theorem lo_claim_ise_0 {p : Program} {e : Env} {s : State} {m : MethodId} {below : List Frame} {meth : Method} {c : Code} (l : Launch) (hfl : l.stackTraces = false) {b L : Nat} {xs : Nat → Int32} (C0 : lw_At p s m meth c b L xs) {dC : Nat → ClassId} {dI : Nat → Nat → Nat} {cI cZ cJ : ClassId} {ad am : Nat → Nat} {o9 : Nat} (CC : lwC dC dI cI cZ cJ ad am o9 s) (hT0 : tX (fun q => s.heap.size ≤ q) s s.heap) {sm fe ex dy : Int32} {gp gc op gr st dl wo : Nat → Int32} {n : Nat} {yc ya ys yd : Nat → Int32} {q : Nat} {zc zp zr zs zf : Nat → Int32} {z : Nat} {zm zt : Int64} {pe tp fu sh ro : Nat → Int32} {th : Int32} {fo : Nat → Int64} {k : Nat} {g : Int32} {d : Int32} {i9 : Nat} (hi9 : 5 * i9 + 5 ≤ L) (hL9 : L ≤ 2560) {H : Heap} {locs : List Loc} {cells slots : Nat} (hc1 : cells ≤ 37 + i9) (hs1 : slots ≤ 1333 + 6 * i9) (hPC : va_P (dC, dI) vwCl (wC cI cZ ad sm fe ex dy gp gc op gr st dl wo n yc ya ys yd q zc zp zr zs zf z zm zt) H) (hPM : va_P (dC, dI) vwCl (wM cI cZ am sm fe ex gp gc dy n pe gr st dl wo q yc ya yd ys tp fu sh ro th) H) (hPo : va_P (dC, dI) vwCl [(o9, .inl (cJ, 1, .inr (.inl fo)))] H) (hS : va_S (fun q : Nat => s.heap.size ≤ q) s.heap H locs) (e1 : xs (5 * i9 + 1) = nI k) (e2 : xs (5 * i9 + 2) = g) (e3 : xs (5 * i9 + 3) = 0) (e4 : xs (5 * i9 + 4) = d) (ahn : n = 24) (ah1 : outN (nI k) (nI 0) (nI 29) = 0) (ah2 : outN g (nI 0) (nI 4) = 0) (ah3 : outN d (nI 0) (nI 100) = 0) (ahk : k < 30) (ahop : op k = (-1)) (bhop : ofP pe (nI k) n = (-1)) {ls : Array Slot} (hl : lv_has ls 7 [(4, .int (nI (5 * i9))), (0, .ref b), (1, .ref (ad 0)), (2, .ref (am 0)), (3, .ref o9)]) (kk : ∀ (fo2 : Nat → Int64) (H2 : Heap) (locs2 : List Loc) (c2 s2 : Nat), c2 ≤ 38 + i9 → s2 ≤ 1339 + 6 * i9 → va_P (dC, dI) vwCl (wC cI cZ ad sm fe ex dy gp gc op gr st dl wo n yc ya ys yd q zc zp zr zs zf z zm zt) H2 → va_P (dC, dI) vwCl (wM cI cZ am sm fe ex gp gc dy n pe gr st dl wo q yc ya yd ys tp fu sh ro (nI 3)) H2 → va_P (dC, dI) vwCl [(o9, .inl (cJ, 1, .inr (.inl fo2)))] H2 → va_S (fun q : Nat => s.heap.size ≤ q) s.heap H2 locs2 → ∀ ls, lv_has ls 7 [(4, .int (nI (5 * i9))), (0, .ref b), (1, .ref (ad 0)), (2, .ref (am 0)), (3, .ref o9)] → W p l e room_1 s m #[Value.ref b] below meth c H2 locs2 c2 s2 (lw_Z below #[Value.ref b] s) (F0 m 1529 ls [])) : W p l e room_1 s m #[Value.ref b] below meth c H locs cells slots (lw_Z below #[Value.ref b] s) (F0 m 352 ls []) := by
  obtain ⟨hx, hb, hr, hml, hown, hts0, hX, hbl, hlocks, hgv⟩ := id C0
  obtain ⟨⟨hI, hIm⟩, ⟨hoC, hoM, hCM⟩, ⟨hAC, hAM, hAo⟩, hK, hKJ, hN⟩ := id CC
  have hts : ∀ w ∈ wsL_law, w.before #[Value.ref b] s = true := fun w hw => hts0 w (wsL_law_in w hw)
  have hown : s.vm.findClass RL = some m.cls := hown
  have hbA : ¬ (fun q : Nat => s.heap.size ≤ q) b := Nat.not_le.mpr hbl
  have hT : tX (fun q => s.heap.size ≤ q) s H := zz_kT hT0 hS
  refine lv_aload_n hx hb dL_law_352 rfl (lv_at hl 2 rfl) ?_
  refine lv_aload_n hx hb dL_law_353 rfl (lv_at hl 1 rfl) ?_
  refine lv_iload hx hb dL_law_354 (lv_at hl 0 rfl) ?_
  refine lv_iconst (v := nI 1) hx hb dL_law_356 (by decide) ?_
  refine lv_iadd hx hb dL_law_357 ?_
  refine zt_i (y := nI (5 * i9 + 1)) (nI_add _ _) ?_
  refine va_sld hx hb hX hbl hbA hS (vp_in_nI (n := 5 * i9 + 1) (by omega) (by omega)) dL_law_358 ?_
  rw [nI_clamp (show 5 * i9 + 1 < 2 ^ 31 by omega)]
  rw [e1]
  refine lv_aload_n hx hb dL_law_359 rfl (lv_at hl 1 rfl) ?_
  refine lv_iload hx hb dL_law_360 (lv_at hl 0 rfl) ?_
  refine lv_iconst (v := nI 2) hx hb dL_law_362 (by decide) ?_
  refine lv_iadd hx hb dL_law_363 ?_
  refine zt_i (y := nI (5 * i9 + 2)) (nI_add _ _) ?_
  refine va_sld hx hb hX hbl hbA hS (vp_in_nI (n := 5 * i9 + 2) (by omega) (by omega)) dL_law_364 ?_
  rw [nI_clamp (show 5 * i9 + 2 < 2 ^ 31 by omega)]
  rw [e2]
  refine lv_aload_n hx hb dL_law_365 rfl (lv_at hl 1 rfl) ?_
  refine lv_iload hx hb dL_law_366 (lv_at hl 0 rfl) ?_
  refine lv_iconst (v := nI 3) hx hb dL_law_368 (by decide) ?_
  refine lv_iadd hx hb dL_law_369 ?_
  refine zt_i (y := nI (5 * i9 + 3)) (nI_add _ _) ?_
  refine va_sld hx hb hX hbl hbA hS (vp_in_nI (n := 5 * i9 + 3) (by omega) (by omega)) dL_law_370 ?_
  rw [nI_clamp (show 5 * i9 + 3 < 2 ^ 31 by omega)]
  refine lv_if_eq (tgt := 378) hx hb dL_law_371 (by decide) (fun _ => ?_) (fun h9 => absurd e3 h9)
  refine lv_iconst (v := nI 0) hx hb dL_law_378 (by decide) ?_
  refine lv_aload_n hx hb dL_law_379 rfl (lv_at hl 1 rfl) ?_
  refine lv_iload hx hb dL_law_380 (lv_at hl 0 rfl) ?_
  refine lv_iconst (v := nI 4) hx hb dL_law_382 (by decide) ?_
  refine lv_iadd hx hb dL_law_383 ?_
  refine zt_i (y := nI (5 * i9 + 4)) (nI_add _ _) ?_
  refine va_sld hx hb hX hbl hbA hS (vp_in_nI (n := 5 * i9 + 4) (by omega) (by omega)) dL_law_384 ?_
  rw [nI_clamp (show 5 * i9 + 4 < 2 ^ 31 by omega)]
  rw [e4]
  refine lv_aload_n hx hb dL_law_385 rfl (lv_at hl 4 rfl) ?_
  refine kh_claim_ise l hfl (cJ := cJ) (o9 := o9) (fo := fo) (k := k) (g := g) (b := (nI 0)) (d := d) (hn := ahn) (h1 := ah1) (h2 := ah2) (h3 := ah3) (hk := ahk) (hop := ahop) hx hb hml hown hts hK hPC gL_law_L_claim ⟨Nat.le_of_ble_eq_true rfl, Nat.le_of_ble_eq_true rfl⟩ ⟨show cells + 1 ≤ 1083 by omega, show slots + 6 ≤ 9657 by omega⟩ hl.1 (Nat.le_of_ble_eq_true rfl) dL_law_386 (hT.narrow (fun _ h => h.elim)) hN hS (fun H2 locs hS hz9 hf => ?_)
  have hPC := zz_kC hI hPC (fun x h1 _ => hf x h1)
  have hPM := zz_kM hIm hPM (fun x h1 _ => hf x h1)
  have hPo := zz_ko hPo (hf _ (zz_lt hPo))
  refine lv_istore (lv' := [(5, .int (nI 3)), (4, .int (nI (5 * i9))), (0, .ref b), (1, .ref (ad 0)), (2, .ref (am 0)), (3, .ref o9)]) hx hb dL_law_389 hl (by decide) rfl (fun ls hl => ?_)
  refine lv_aload_n hx hb dL_law_391 rfl (lv_at hl 4 rfl) ?_
  refine lv_aload_n hx hb dL_law_392 rfl (lv_at hl 2 rfl) ?_
  refine lv_iload hx hb dL_law_393 (lv_at hl 1 rfl) ?_
  refine lv_iconst (v := nI 1) hx hb dL_law_395 (by decide) ?_
  refine lv_iadd hx hb dL_law_396 ?_
  refine zt_i (y := nI (5 * i9 + 1)) (nI_add _ _) ?_
  refine va_sld hx hb hX hbl hbA hS (vp_in_nI (n := 5 * i9 + 1) (by omega) (by omega)) dL_law_397 ?_
  rw [nI_clamp (show 5 * i9 + 1 < 2 ^ 31 by omega)]
  rw [e1]
  refine lv_aload_n hx hb dL_law_398 rfl (lv_at hl 2 rfl) ?_
  refine lv_iload hx hb dL_law_399 (lv_at hl 1 rfl) ?_
  refine lv_iconst (v := nI 2) hx hb dL_law_401 (by decide) ?_
  refine lv_iadd hx hb dL_law_402 ?_
  refine zt_i (y := nI (5 * i9 + 2)) (nI_add _ _) ?_
  refine va_sld hx hb hX hbl hbA hS (vp_in_nI (n := 5 * i9 + 2) (by omega) (by omega)) dL_law_403 ?_
  rw [nI_clamp (show 5 * i9 + 2 < 2 ^ 31 by omega)]
  rw [e2]
  refine lv_aload_n hx hb dL_law_404 rfl (lv_at hl 2 rfl) ?_
  refine lv_iload hx hb dL_law_405 (lv_at hl 1 rfl) ?_
  refine lv_iconst (v := nI 3) hx hb dL_law_407 (by decide) ?_
  refine lv_iadd hx hb dL_law_408 ?_
  refine zt_i (y := nI (5 * i9 + 3)) (nI_add _ _) ?_
  refine va_sld hx hb hX hbl hbA hS (vp_in_nI (n := 5 * i9 + 3) (by omega) (by omega)) dL_law_409 ?_
  rw [nI_clamp (show 5 * i9 + 3 < 2 ^ 31 by omega)]
  refine lv_if_eq (tgt := 417) hx hb dL_law_410 (by decide) (fun _ => ?_) (fun h9 => absurd e3 h9)
  refine lv_iconst (v := nI 0) hx hb dL_law_417 (by decide) ?_
  refine lv_aload_n hx hb dL_law_418 rfl (lv_at hl 2 rfl) ?_
  refine lv_iload hx hb dL_law_419 (lv_at hl 1 rfl) ?_
  refine lv_iconst (v := nI 4) hx hb dL_law_421 (by decide) ?_
  refine lv_iadd hx hb dL_law_422 ?_
  refine zt_i (y := nI (5 * i9 + 4)) (nI_add _ _) ?_
  refine va_sld hx hb hX hbl hbA hS (vp_in_nI (n := 5 * i9 + 4) (by omega) (by omega)) dL_law_423 ?_
  rw [nI_clamp (show 5 * i9 + 4 < 2 ^ 31 by omega)]
  rw [e4]
  refine k_X4_claim_3 l (k := k) (g := g) (b := (nI 0)) (d := d) (hn := ahn) (h1 := ah1) (h2 := ah2) (h3 := ah3) (hk := ahk) (hop := bhop) hx hb hml hown hts hK hPM gL_law_X4_claim ⟨Nat.le_of_ble_eq_true rfl, Nat.le_of_ble_eq_true rfl⟩ ⟨show cells + 1 ≤ 1083 by omega, show slots + 6 ≤ 9657 by omega⟩ hl.1 (Nat.le_of_ble_eq_true rfl) dL_law_424 hIm hAM hS (fun H2 locs hPM hS hf => ?_)
  have hPC := zz_kC hI hPC (fun x h1 h2 => hf x h1 (fun h3 => hCM x h2 h3))
  have hPo := zz_ko hPo (hf _ (zz_lt hPo) hoM)
  refine lv_istore (lv' := [(6, .int (nI 0)), (5, .int (nI 3)), (4, .int (nI (5 * i9))), (0, .ref b), (1, .ref (ad 0)), (2, .ref (am 0)), (3, .ref o9)]) hx hb dL_law_427 hl (by decide) rfl (fun ls hl => ?_)
  refine lv_aload_n hx hb dL_law_429 rfl (lv_at hl 5 rfl) ?_
  refine k_X4_thrown l hx hb hml hown hts hK hPM gL_law_X4_thrown ⟨Nat.le_of_ble_eq_true rfl, Nat.le_of_ble_eq_true rfl⟩ ⟨show cells + 1 ≤ 1083 by omega, show slots + 6 ≤ 9657 by omega⟩ hl.1 (Nat.le_of_ble_eq_true rfl) dL_law_430 ?_
  refine lv_iload hx hb dL_law_433 (lv_at hl 1 rfl) ?_
  refine lv_icmp_eq (tgt := 440) hx hb dL_law_435 (by decide) (fun _ => ?_) (fun h9 => absurd rfl h9)
  refine lv_iload hx hb dL_law_440 (lv_at hl 1 rfl) ?_
  refine lv_if_ne (tgt := 457) hx hb dL_law_442 (by decide) (fun _ => ?_) (fun h9 => absurd h9 (by decide))
  refine lv_goto (tgt := 1529) hx hb dL_law_457 (by decide) ?_
  exact kk _ _ _ _ _ (by omega) (by omega) hPC hPM hPo hS ls (lv_sub hl [2, 3, 4, 5, 6] rfl)
set_option maxHeartbeats 4000000 in
set_option maxRecDepth 100000 in
theorem lo_claim_ise_1 {p : Program} {e : Env} {s : State} {m : MethodId} {below : List Frame} {meth : Method} {c : Code} (l : Launch) (hfl : l.stackTraces = false) {b L : Nat} {xs : Nat → Int32} (C0 : lw_At p s m meth c b L xs) {dC : Nat → ClassId} {dI : Nat → Nat → Nat} {cI cZ cJ : ClassId} {ad am : Nat → Nat} {o9 : Nat} (CC : lwC dC dI cI cZ cJ ad am o9 s) (hT0 : tX (fun q => s.heap.size ≤ q) s s.heap) {sm fe ex dy : Int32} {gp gc op gr st dl wo : Nat → Int32} {n : Nat} {yc ya ys yd : Nat → Int32} {q : Nat} {zc zp zr zs zf : Nat → Int32} {z : Nat} {zm zt : Int64} {pe tp fu sh ro : Nat → Int32} {th : Int32} {fo : Nat → Int64} {k : Nat} {g : Int32} {d : Int32} {i9 : Nat} (hi9 : 5 * i9 + 5 ≤ L) (hL9 : L ≤ 2560) {H : Heap} {locs : List Loc} {cells slots : Nat} (hc1 : cells ≤ 37 + i9) (hs1 : slots ≤ 1333 + 6 * i9) (hPC : va_P (dC, dI) vwCl (wC cI cZ ad sm fe ex dy gp gc op gr st dl wo n yc ya ys yd q zc zp zr zs zf z zm zt) H) (hPM : va_P (dC, dI) vwCl (wM cI cZ am sm fe ex gp gc dy n pe gr st dl wo q yc ya yd ys tp fu sh ro th) H) (hPo : va_P (dC, dI) vwCl [(o9, .inl (cJ, 1, .inr (.inl fo)))] H) (hS : va_S (fun q : Nat => s.heap.size ≤ q) s.heap H locs) (e1 : xs (5 * i9 + 1) = nI k) (e2 : xs (5 * i9 + 2) = g) (e3 : ¬ xs (5 * i9 + 3) = 0) (e4 : xs (5 * i9 + 4) = d) (ahn : n = 24) (ah1 : outN (nI k) (nI 0) (nI 29) = 0) (ah2 : outN g (nI 0) (nI 4) = 0) (ah3 : outN d (nI 0) (nI 100) = 0) (ahk : k < 30) (ahop : op k = (-1)) (bhop : ofP pe (nI k) n = (-1)) {ls : Array Slot} (hl : lv_has ls 7 [(4, .int (nI (5 * i9))), (0, .ref b), (1, .ref (ad 0)), (2, .ref (am 0)), (3, .ref o9)]) (kk : ∀ (fo2 : Nat → Int64) (H2 : Heap) (locs2 : List Loc) (c2 s2 : Nat), c2 ≤ 38 + i9 → s2 ≤ 1339 + 6 * i9 → va_P (dC, dI) vwCl (wC cI cZ ad sm fe ex dy gp gc op gr st dl wo n yc ya ys yd q zc zp zr zs zf z zm zt) H2 → va_P (dC, dI) vwCl (wM cI cZ am sm fe ex gp gc dy n pe gr st dl wo q yc ya yd ys tp fu sh ro (nI 3)) H2 → va_P (dC, dI) vwCl [(o9, .inl (cJ, 1, .inr (.inl fo2)))] H2 → va_S (fun q : Nat => s.heap.size ≤ q) s.heap H2 locs2 → ∀ ls, lv_has ls 7 [(4, .int (nI (5 * i9))), (0, .ref b), (1, .ref (ad 0)), (2, .ref (am 0)), (3, .ref o9)] → W p l e room_1 s m #[Value.ref b] below meth c H2 locs2 c2 s2 (lw_Z below #[Value.ref b] s) (F0 m 1529 ls [])) : W p l e room_1 s m #[Value.ref b] below meth c H locs cells slots (lw_Z below #[Value.ref b] s) (F0 m 352 ls []) := by
  obtain ⟨hx, hb, hr, hml, hown, hts0, hX, hbl, hlocks, hgv⟩ := id C0
  obtain ⟨⟨hI, hIm⟩, ⟨hoC, hoM, hCM⟩, ⟨hAC, hAM, hAo⟩, hK, hKJ, hN⟩ := id CC
  have hts : ∀ w ∈ wsL_law, w.before #[Value.ref b] s = true := fun w hw => hts0 w (wsL_law_in w hw)
  have hown : s.vm.findClass RL = some m.cls := hown
  have hbA : ¬ (fun q : Nat => s.heap.size ≤ q) b := Nat.not_le.mpr hbl
  have hT : tX (fun q => s.heap.size ≤ q) s H := zz_kT hT0 hS
  refine lv_aload_n hx hb dL_law_352 rfl (lv_at hl 2 rfl) ?_
  refine lv_aload_n hx hb dL_law_353 rfl (lv_at hl 1 rfl) ?_
  refine lv_iload hx hb dL_law_354 (lv_at hl 0 rfl) ?_
  refine lv_iconst (v := nI 1) hx hb dL_law_356 (by decide) ?_
  refine lv_iadd hx hb dL_law_357 ?_
  refine zt_i (y := nI (5 * i9 + 1)) (nI_add _ _) ?_
  refine va_sld hx hb hX hbl hbA hS (vp_in_nI (n := 5 * i9 + 1) (by omega) (by omega)) dL_law_358 ?_
  rw [nI_clamp (show 5 * i9 + 1 < 2 ^ 31 by omega)]
  rw [e1]
  refine lv_aload_n hx hb dL_law_359 rfl (lv_at hl 1 rfl) ?_
  refine lv_iload hx hb dL_law_360 (lv_at hl 0 rfl) ?_
  refine lv_iconst (v := nI 2) hx hb dL_law_362 (by decide) ?_
  refine lv_iadd hx hb dL_law_363 ?_
  refine zt_i (y := nI (5 * i9 + 2)) (nI_add _ _) ?_
  refine va_sld hx hb hX hbl hbA hS (vp_in_nI (n := 5 * i9 + 2) (by omega) (by omega)) dL_law_364 ?_
  rw [nI_clamp (show 5 * i9 + 2 < 2 ^ 31 by omega)]
  rw [e2]
  refine lv_aload_n hx hb dL_law_365 rfl (lv_at hl 1 rfl) ?_
  refine lv_iload hx hb dL_law_366 (lv_at hl 0 rfl) ?_
  refine lv_iconst (v := nI 3) hx hb dL_law_368 (by decide) ?_
  refine lv_iadd hx hb dL_law_369 ?_
  refine zt_i (y := nI (5 * i9 + 3)) (nI_add _ _) ?_
  refine va_sld hx hb hX hbl hbA hS (vp_in_nI (n := 5 * i9 + 3) (by omega) (by omega)) dL_law_370 ?_
  rw [nI_clamp (show 5 * i9 + 3 < 2 ^ 31 by omega)]
  refine lv_if_eq (tgt := 378) hx hb dL_law_371 (by decide) (fun h9 => absurd h9 e3) (fun _ => ?_)
  refine lv_iconst (v := nI 1) hx hb dL_law_374 (by decide) ?_
  refine lv_goto (tgt := 379) hx hb dL_law_375 (by decide) ?_
  refine lv_aload_n hx hb dL_law_379 rfl (lv_at hl 1 rfl) ?_
  refine lv_iload hx hb dL_law_380 (lv_at hl 0 rfl) ?_
  refine lv_iconst (v := nI 4) hx hb dL_law_382 (by decide) ?_
  refine lv_iadd hx hb dL_law_383 ?_
  refine zt_i (y := nI (5 * i9 + 4)) (nI_add _ _) ?_
  refine va_sld hx hb hX hbl hbA hS (vp_in_nI (n := 5 * i9 + 4) (by omega) (by omega)) dL_law_384 ?_
  rw [nI_clamp (show 5 * i9 + 4 < 2 ^ 31 by omega)]
  rw [e4]
  refine lv_aload_n hx hb dL_law_385 rfl (lv_at hl 4 rfl) ?_
  refine kh_claim_ise l hfl (cJ := cJ) (o9 := o9) (fo := fo) (k := k) (g := g) (b := (nI 1)) (d := d) (hn := ahn) (h1 := ah1) (h2 := ah2) (h3 := ah3) (hk := ahk) (hop := ahop) hx hb hml hown hts hK hPC gL_law_L_claim ⟨Nat.le_of_ble_eq_true rfl, Nat.le_of_ble_eq_true rfl⟩ ⟨show cells + 1 ≤ 1083 by omega, show slots + 6 ≤ 9657 by omega⟩ hl.1 (Nat.le_of_ble_eq_true rfl) dL_law_386 (hT.narrow (fun _ h => h.elim)) hN hS (fun H2 locs hS hz9 hf => ?_)
  have hPC := zz_kC hI hPC (fun x h1 _ => hf x h1)
  have hPM := zz_kM hIm hPM (fun x h1 _ => hf x h1)
  have hPo := zz_ko hPo (hf _ (zz_lt hPo))
  refine lv_istore (lv' := [(5, .int (nI 3)), (4, .int (nI (5 * i9))), (0, .ref b), (1, .ref (ad 0)), (2, .ref (am 0)), (3, .ref o9)]) hx hb dL_law_389 hl (by decide) rfl (fun ls hl => ?_)
  refine lv_aload_n hx hb dL_law_391 rfl (lv_at hl 4 rfl) ?_
  refine lv_aload_n hx hb dL_law_392 rfl (lv_at hl 2 rfl) ?_
  refine lv_iload hx hb dL_law_393 (lv_at hl 1 rfl) ?_
  refine lv_iconst (v := nI 1) hx hb dL_law_395 (by decide) ?_
  refine lv_iadd hx hb dL_law_396 ?_
  refine zt_i (y := nI (5 * i9 + 1)) (nI_add _ _) ?_
  refine va_sld hx hb hX hbl hbA hS (vp_in_nI (n := 5 * i9 + 1) (by omega) (by omega)) dL_law_397 ?_
  rw [nI_clamp (show 5 * i9 + 1 < 2 ^ 31 by omega)]
  rw [e1]
  refine lv_aload_n hx hb dL_law_398 rfl (lv_at hl 2 rfl) ?_
  refine lv_iload hx hb dL_law_399 (lv_at hl 1 rfl) ?_
  refine lv_iconst (v := nI 2) hx hb dL_law_401 (by decide) ?_
  refine lv_iadd hx hb dL_law_402 ?_
  refine zt_i (y := nI (5 * i9 + 2)) (nI_add _ _) ?_
  refine va_sld hx hb hX hbl hbA hS (vp_in_nI (n := 5 * i9 + 2) (by omega) (by omega)) dL_law_403 ?_
  rw [nI_clamp (show 5 * i9 + 2 < 2 ^ 31 by omega)]
  rw [e2]
  refine lv_aload_n hx hb dL_law_404 rfl (lv_at hl 2 rfl) ?_
  refine lv_iload hx hb dL_law_405 (lv_at hl 1 rfl) ?_
  refine lv_iconst (v := nI 3) hx hb dL_law_407 (by decide) ?_
  refine lv_iadd hx hb dL_law_408 ?_
  refine zt_i (y := nI (5 * i9 + 3)) (nI_add _ _) ?_
  refine va_sld hx hb hX hbl hbA hS (vp_in_nI (n := 5 * i9 + 3) (by omega) (by omega)) dL_law_409 ?_
  rw [nI_clamp (show 5 * i9 + 3 < 2 ^ 31 by omega)]
  refine lv_if_eq (tgt := 417) hx hb dL_law_410 (by decide) (fun h9 => absurd h9 e3) (fun _ => ?_)
  refine lv_iconst (v := nI 1) hx hb dL_law_413 (by decide) ?_
  refine lv_goto (tgt := 418) hx hb dL_law_414 (by decide) ?_
  refine lv_aload_n hx hb dL_law_418 rfl (lv_at hl 2 rfl) ?_
  refine lv_iload hx hb dL_law_419 (lv_at hl 1 rfl) ?_
  refine lv_iconst (v := nI 4) hx hb dL_law_421 (by decide) ?_
  refine lv_iadd hx hb dL_law_422 ?_
  refine zt_i (y := nI (5 * i9 + 4)) (nI_add _ _) ?_
  refine va_sld hx hb hX hbl hbA hS (vp_in_nI (n := 5 * i9 + 4) (by omega) (by omega)) dL_law_423 ?_
  rw [nI_clamp (show 5 * i9 + 4 < 2 ^ 31 by omega)]
  rw [e4]
  refine k_X4_claim_3 l (k := k) (g := g) (b := (nI 1)) (d := d) (hn := ahn) (h1 := ah1) (h2 := ah2) (h3 := ah3) (hk := ahk) (hop := bhop) hx hb hml hown hts hK hPM gL_law_X4_claim ⟨Nat.le_of_ble_eq_true rfl, Nat.le_of_ble_eq_true rfl⟩ ⟨show cells + 1 ≤ 1083 by omega, show slots + 6 ≤ 9657 by omega⟩ hl.1 (Nat.le_of_ble_eq_true rfl) dL_law_424 hIm hAM hS (fun H2 locs hPM hS hf => ?_)
  have hPC := zz_kC hI hPC (fun x h1 h2 => hf x h1 (fun h3 => hCM x h2 h3))
  have hPo := zz_ko hPo (hf _ (zz_lt hPo) hoM)
  refine lv_istore (lv' := [(6, .int (nI 0)), (5, .int (nI 3)), (4, .int (nI (5 * i9))), (0, .ref b), (1, .ref (ad 0)), (2, .ref (am 0)), (3, .ref o9)]) hx hb dL_law_427 hl (by decide) rfl (fun ls hl => ?_)
  refine lv_aload_n hx hb dL_law_429 rfl (lv_at hl 5 rfl) ?_
  refine k_X4_thrown l hx hb hml hown hts hK hPM gL_law_X4_thrown ⟨Nat.le_of_ble_eq_true rfl, Nat.le_of_ble_eq_true rfl⟩ ⟨show cells + 1 ≤ 1083 by omega, show slots + 6 ≤ 9657 by omega⟩ hl.1 (Nat.le_of_ble_eq_true rfl) dL_law_430 ?_
  refine lv_iload hx hb dL_law_433 (lv_at hl 1 rfl) ?_
  refine lv_icmp_eq (tgt := 440) hx hb dL_law_435 (by decide) (fun _ => ?_) (fun h9 => absurd rfl h9)
  refine lv_iload hx hb dL_law_440 (lv_at hl 1 rfl) ?_
  refine lv_if_ne (tgt := 457) hx hb dL_law_442 (by decide) (fun _ => ?_) (fun h9 => absurd h9 (by decide))
  refine lv_goto (tgt := 1529) hx hb dL_law_457 (by decide) ?_
  exact kk _ _ _ _ _ (by omega) (by omega) hPC hPM hPo hS ls (lv_sub hl [2, 3, 4, 5, 6] rfl)
set_option maxHeartbeats 4000000 in
set_option maxRecDepth 100000 in
theorem lo_claim_ioobe_0 {p : Program} {e : Env} {s : State} {m : MethodId} {below : List Frame} {meth : Method} {c : Code} (l : Launch) (hfl : l.stackTraces = false) {b L : Nat} {xs : Nat → Int32} (C0 : lw_At p s m meth c b L xs) {dC : Nat → ClassId} {dI : Nat → Nat → Nat} {cI cZ cJ : ClassId} {ad am : Nat → Nat} {o9 : Nat} (CC : lwC dC dI cI cZ cJ ad am o9 s) (hT0 : tX (fun q => s.heap.size ≤ q) s s.heap) {sm fe ex dy : Int32} {gp gc op gr st dl wo : Nat → Int32} {n : Nat} {yc ya ys yd : Nat → Int32} {q : Nat} {zc zp zr zs zf : Nat → Int32} {z : Nat} {zm zt : Int64} {pe tp fu sh ro : Nat → Int32} {th : Int32} {fo : Nat → Int64} {x1 : Int32} {g : Int32} {d : Int32} {i9 : Nat} (hi9 : 5 * i9 + 5 ≤ L) (hL9 : L ≤ 2560) {H : Heap} {locs : List Loc} {cells slots : Nat} (hc1 : cells ≤ 37 + i9) (hs1 : slots ≤ 1333 + 6 * i9) (hPC : va_P (dC, dI) vwCl (wC cI cZ ad sm fe ex dy gp gc op gr st dl wo n yc ya ys yd q zc zp zr zs zf z zm zt) H) (hPM : va_P (dC, dI) vwCl (wM cI cZ am sm fe ex gp gc dy n pe gr st dl wo q yc ya yd ys tp fu sh ro th) H) (hPo : va_P (dC, dI) vwCl [(o9, .inl (cJ, 1, .inr (.inl fo)))] H) (hS : va_S (fun q : Nat => s.heap.size ≤ q) s.heap H locs) (e1 : xs (5 * i9 + 1) = x1) (e2 : xs (5 * i9 + 2) = g) (e3 : xs (5 * i9 + 3) = 0) (e4 : xs (5 * i9 + 4) = d) (ah1 : ¬ (outN x1 (nI 0) (nI 29) = 0 ∧ outN g (nI 0) (nI 4) = 0)) (bhn : n ≤ 24) {ls : Array Slot} (hl : lv_has ls 7 [(4, .int (nI (5 * i9))), (0, .ref b), (1, .ref (ad 0)), (2, .ref (am 0)), (3, .ref o9)]) (kk : ∀ (fo2 : Nat → Int64) (H2 : Heap) (locs2 : List Loc) (c2 s2 : Nat), c2 ≤ 38 + i9 → s2 ≤ 1339 + 6 * i9 → va_P (dC, dI) vwCl (wC cI cZ ad sm fe ex dy gp gc op gr st dl wo n yc ya ys yd q zc zp zr zs zf z zm zt) H2 → va_P (dC, dI) vwCl (wM cI cZ am sm fe ex gp gc dy n pe gr st dl wo q yc ya yd ys tp fu sh ro (nI 1)) H2 → va_P (dC, dI) vwCl [(o9, .inl (cJ, 1, .inr (.inl fo2)))] H2 → va_S (fun q : Nat => s.heap.size ≤ q) s.heap H2 locs2 → ∀ ls, lv_has ls 7 [(4, .int (nI (5 * i9))), (0, .ref b), (1, .ref (ad 0)), (2, .ref (am 0)), (3, .ref o9)] → W p l e room_1 s m #[Value.ref b] below meth c H2 locs2 c2 s2 (lw_Z below #[Value.ref b] s) (F0 m 1529 ls [])) : W p l e room_1 s m #[Value.ref b] below meth c H locs cells slots (lw_Z below #[Value.ref b] s) (F0 m 352 ls []) := by
  obtain ⟨hx, hb, hr, hml, hown, hts0, hX, hbl, hlocks, hgv⟩ := id C0
  obtain ⟨⟨hI, hIm⟩, ⟨hoC, hoM, hCM⟩, ⟨hAC, hAM, hAo⟩, hK, hKJ, hN⟩ := id CC
  have hts : ∀ w ∈ wsL_law, w.before #[Value.ref b] s = true := fun w hw => hts0 w (wsL_law_in w hw)
  have hown : s.vm.findClass RL = some m.cls := hown
  have hbA : ¬ (fun q : Nat => s.heap.size ≤ q) b := Nat.not_le.mpr hbl
  have hT : tX (fun q => s.heap.size ≤ q) s H := zz_kT hT0 hS
  refine lv_aload_n hx hb dL_law_352 rfl (lv_at hl 2 rfl) ?_
  refine lv_aload_n hx hb dL_law_353 rfl (lv_at hl 1 rfl) ?_
  refine lv_iload hx hb dL_law_354 (lv_at hl 0 rfl) ?_
  refine lv_iconst (v := nI 1) hx hb dL_law_356 (by decide) ?_
  refine lv_iadd hx hb dL_law_357 ?_
  refine zt_i (y := nI (5 * i9 + 1)) (nI_add _ _) ?_
  refine va_sld hx hb hX hbl hbA hS (vp_in_nI (n := 5 * i9 + 1) (by omega) (by omega)) dL_law_358 ?_
  rw [nI_clamp (show 5 * i9 + 1 < 2 ^ 31 by omega)]
  rw [e1]
  refine lv_aload_n hx hb dL_law_359 rfl (lv_at hl 1 rfl) ?_
  refine lv_iload hx hb dL_law_360 (lv_at hl 0 rfl) ?_
  refine lv_iconst (v := nI 2) hx hb dL_law_362 (by decide) ?_
  refine lv_iadd hx hb dL_law_363 ?_
  refine zt_i (y := nI (5 * i9 + 2)) (nI_add _ _) ?_
  refine va_sld hx hb hX hbl hbA hS (vp_in_nI (n := 5 * i9 + 2) (by omega) (by omega)) dL_law_364 ?_
  rw [nI_clamp (show 5 * i9 + 2 < 2 ^ 31 by omega)]
  rw [e2]
  refine lv_aload_n hx hb dL_law_365 rfl (lv_at hl 1 rfl) ?_
  refine lv_iload hx hb dL_law_366 (lv_at hl 0 rfl) ?_
  refine lv_iconst (v := nI 3) hx hb dL_law_368 (by decide) ?_
  refine lv_iadd hx hb dL_law_369 ?_
  refine zt_i (y := nI (5 * i9 + 3)) (nI_add _ _) ?_
  refine va_sld hx hb hX hbl hbA hS (vp_in_nI (n := 5 * i9 + 3) (by omega) (by omega)) dL_law_370 ?_
  rw [nI_clamp (show 5 * i9 + 3 < 2 ^ 31 by omega)]
  refine lv_if_eq (tgt := 378) hx hb dL_law_371 (by decide) (fun _ => ?_) (fun h9 => absurd e3 h9)
  refine lv_iconst (v := nI 0) hx hb dL_law_378 (by decide) ?_
  refine lv_aload_n hx hb dL_law_379 rfl (lv_at hl 1 rfl) ?_
  refine lv_iload hx hb dL_law_380 (lv_at hl 0 rfl) ?_
  refine lv_iconst (v := nI 4) hx hb dL_law_382 (by decide) ?_
  refine lv_iadd hx hb dL_law_383 ?_
  refine zt_i (y := nI (5 * i9 + 4)) (nI_add _ _) ?_
  refine va_sld hx hb hX hbl hbA hS (vp_in_nI (n := 5 * i9 + 4) (by omega) (by omega)) dL_law_384 ?_
  rw [nI_clamp (show 5 * i9 + 4 < 2 ^ 31 by omega)]
  rw [e4]
  refine lv_aload_n hx hb dL_law_385 rfl (lv_at hl 4 rfl) ?_
  refine kh_claim_ioobe l hfl (cJ := cJ) (o9 := o9) (fo := fo) (x1 := x1) (g := g) (b := (nI 0)) (d := d) (h1 := ah1) hx hb hml hown hts hK hPC gL_law_L_claim ⟨Nat.le_of_ble_eq_true rfl, Nat.le_of_ble_eq_true rfl⟩ ⟨show cells + 1 ≤ 1083 by omega, show slots + 6 ≤ 9657 by omega⟩ hl.1 (Nat.le_of_ble_eq_true rfl) dL_law_386 (hT.narrow (fun _ h => h.elim)) hN hS (fun H2 locs hS hz9 hf => ?_)
  have hPC := zz_kC hI hPC (fun x h1 _ => hf x h1)
  have hPM := zz_kM hIm hPM (fun x h1 _ => hf x h1)
  have hPo := zz_ko hPo (hf _ (zz_lt hPo))
  refine lv_istore (lv' := [(5, .int (nI 1)), (4, .int (nI (5 * i9))), (0, .ref b), (1, .ref (ad 0)), (2, .ref (am 0)), (3, .ref o9)]) hx hb dL_law_389 hl (by decide) rfl (fun ls hl => ?_)
  refine lv_aload_n hx hb dL_law_391 rfl (lv_at hl 4 rfl) ?_
  refine lv_aload_n hx hb dL_law_392 rfl (lv_at hl 2 rfl) ?_
  refine lv_iload hx hb dL_law_393 (lv_at hl 1 rfl) ?_
  refine lv_iconst (v := nI 1) hx hb dL_law_395 (by decide) ?_
  refine lv_iadd hx hb dL_law_396 ?_
  refine zt_i (y := nI (5 * i9 + 1)) (nI_add _ _) ?_
  refine va_sld hx hb hX hbl hbA hS (vp_in_nI (n := 5 * i9 + 1) (by omega) (by omega)) dL_law_397 ?_
  rw [nI_clamp (show 5 * i9 + 1 < 2 ^ 31 by omega)]
  rw [e1]
  refine lv_aload_n hx hb dL_law_398 rfl (lv_at hl 2 rfl) ?_
  refine lv_iload hx hb dL_law_399 (lv_at hl 1 rfl) ?_
  refine lv_iconst (v := nI 2) hx hb dL_law_401 (by decide) ?_
  refine lv_iadd hx hb dL_law_402 ?_
  refine zt_i (y := nI (5 * i9 + 2)) (nI_add _ _) ?_
  refine va_sld hx hb hX hbl hbA hS (vp_in_nI (n := 5 * i9 + 2) (by omega) (by omega)) dL_law_403 ?_
  rw [nI_clamp (show 5 * i9 + 2 < 2 ^ 31 by omega)]
  rw [e2]
  refine lv_aload_n hx hb dL_law_404 rfl (lv_at hl 2 rfl) ?_
  refine lv_iload hx hb dL_law_405 (lv_at hl 1 rfl) ?_
  refine lv_iconst (v := nI 3) hx hb dL_law_407 (by decide) ?_
  refine lv_iadd hx hb dL_law_408 ?_
  refine zt_i (y := nI (5 * i9 + 3)) (nI_add _ _) ?_
  refine va_sld hx hb hX hbl hbA hS (vp_in_nI (n := 5 * i9 + 3) (by omega) (by omega)) dL_law_409 ?_
  rw [nI_clamp (show 5 * i9 + 3 < 2 ^ 31 by omega)]
  refine lv_if_eq (tgt := 417) hx hb dL_law_410 (by decide) (fun _ => ?_) (fun h9 => absurd e3 h9)
  refine lv_iconst (v := nI 0) hx hb dL_law_417 (by decide) ?_
  refine lv_aload_n hx hb dL_law_418 rfl (lv_at hl 2 rfl) ?_
  refine lv_iload hx hb dL_law_419 (lv_at hl 1 rfl) ?_
  refine lv_iconst (v := nI 4) hx hb dL_law_421 (by decide) ?_
  refine lv_iadd hx hb dL_law_422 ?_
  refine zt_i (y := nI (5 * i9 + 4)) (nI_add _ _) ?_
  refine va_sld hx hb hX hbl hbA hS (vp_in_nI (n := 5 * i9 + 4) (by omega) (by omega)) dL_law_423 ?_
  rw [nI_clamp (show 5 * i9 + 4 < 2 ^ 31 by omega)]
  rw [e4]
  refine k_X4_claim_1 l (x1 := x1) (g := g) (b := (nI 0)) (d := d) (hn := bhn) (h1 := ah1) hx hb hml hown hts hK hPM gL_law_X4_claim ⟨Nat.le_of_ble_eq_true rfl, Nat.le_of_ble_eq_true rfl⟩ ⟨show cells + 1 ≤ 1083 by omega, show slots + 6 ≤ 9657 by omega⟩ hl.1 (Nat.le_of_ble_eq_true rfl) dL_law_424 hIm hAM hS (fun H2 locs hPM hS hf => ?_)
  have hPC := zz_kC hI hPC (fun x h1 h2 => hf x h1 (fun h3 => hCM x h2 h3))
  have hPo := zz_ko hPo (hf _ (zz_lt hPo) hoM)
  refine lv_istore (lv' := [(6, .int (nI 0)), (5, .int (nI 1)), (4, .int (nI (5 * i9))), (0, .ref b), (1, .ref (ad 0)), (2, .ref (am 0)), (3, .ref o9)]) hx hb dL_law_427 hl (by decide) rfl (fun ls hl => ?_)
  refine lv_aload_n hx hb dL_law_429 rfl (lv_at hl 5 rfl) ?_
  refine k_X4_thrown l hx hb hml hown hts hK hPM gL_law_X4_thrown ⟨Nat.le_of_ble_eq_true rfl, Nat.le_of_ble_eq_true rfl⟩ ⟨show cells + 1 ≤ 1083 by omega, show slots + 6 ≤ 9657 by omega⟩ hl.1 (Nat.le_of_ble_eq_true rfl) dL_law_430 ?_
  refine lv_iload hx hb dL_law_433 (lv_at hl 1 rfl) ?_
  refine lv_icmp_eq (tgt := 440) hx hb dL_law_435 (by decide) (fun _ => ?_) (fun h9 => absurd rfl h9)
  refine lv_iload hx hb dL_law_440 (lv_at hl 1 rfl) ?_
  refine lv_if_ne (tgt := 457) hx hb dL_law_442 (by decide) (fun _ => ?_) (fun h9 => absurd h9 (by decide))
  refine lv_goto (tgt := 1529) hx hb dL_law_457 (by decide) ?_
  exact kk _ _ _ _ _ (by omega) (by omega) hPC hPM hPo hS ls (lv_sub hl [2, 3, 4, 5, 6] rfl)
set_option maxHeartbeats 4000000 in
set_option maxRecDepth 100000 in
theorem lo_claim_ioobe_1 {p : Program} {e : Env} {s : State} {m : MethodId} {below : List Frame} {meth : Method} {c : Code} (l : Launch) (hfl : l.stackTraces = false) {b L : Nat} {xs : Nat → Int32} (C0 : lw_At p s m meth c b L xs) {dC : Nat → ClassId} {dI : Nat → Nat → Nat} {cI cZ cJ : ClassId} {ad am : Nat → Nat} {o9 : Nat} (CC : lwC dC dI cI cZ cJ ad am o9 s) (hT0 : tX (fun q => s.heap.size ≤ q) s s.heap) {sm fe ex dy : Int32} {gp gc op gr st dl wo : Nat → Int32} {n : Nat} {yc ya ys yd : Nat → Int32} {q : Nat} {zc zp zr zs zf : Nat → Int32} {z : Nat} {zm zt : Int64} {pe tp fu sh ro : Nat → Int32} {th : Int32} {fo : Nat → Int64} {x1 : Int32} {g : Int32} {d : Int32} {i9 : Nat} (hi9 : 5 * i9 + 5 ≤ L) (hL9 : L ≤ 2560) {H : Heap} {locs : List Loc} {cells slots : Nat} (hc1 : cells ≤ 37 + i9) (hs1 : slots ≤ 1333 + 6 * i9) (hPC : va_P (dC, dI) vwCl (wC cI cZ ad sm fe ex dy gp gc op gr st dl wo n yc ya ys yd q zc zp zr zs zf z zm zt) H) (hPM : va_P (dC, dI) vwCl (wM cI cZ am sm fe ex gp gc dy n pe gr st dl wo q yc ya yd ys tp fu sh ro th) H) (hPo : va_P (dC, dI) vwCl [(o9, .inl (cJ, 1, .inr (.inl fo)))] H) (hS : va_S (fun q : Nat => s.heap.size ≤ q) s.heap H locs) (e1 : xs (5 * i9 + 1) = x1) (e2 : xs (5 * i9 + 2) = g) (e3 : ¬ xs (5 * i9 + 3) = 0) (e4 : xs (5 * i9 + 4) = d) (ah1 : ¬ (outN x1 (nI 0) (nI 29) = 0 ∧ outN g (nI 0) (nI 4) = 0)) (bhn : n ≤ 24) {ls : Array Slot} (hl : lv_has ls 7 [(4, .int (nI (5 * i9))), (0, .ref b), (1, .ref (ad 0)), (2, .ref (am 0)), (3, .ref o9)]) (kk : ∀ (fo2 : Nat → Int64) (H2 : Heap) (locs2 : List Loc) (c2 s2 : Nat), c2 ≤ 38 + i9 → s2 ≤ 1339 + 6 * i9 → va_P (dC, dI) vwCl (wC cI cZ ad sm fe ex dy gp gc op gr st dl wo n yc ya ys yd q zc zp zr zs zf z zm zt) H2 → va_P (dC, dI) vwCl (wM cI cZ am sm fe ex gp gc dy n pe gr st dl wo q yc ya yd ys tp fu sh ro (nI 1)) H2 → va_P (dC, dI) vwCl [(o9, .inl (cJ, 1, .inr (.inl fo2)))] H2 → va_S (fun q : Nat => s.heap.size ≤ q) s.heap H2 locs2 → ∀ ls, lv_has ls 7 [(4, .int (nI (5 * i9))), (0, .ref b), (1, .ref (ad 0)), (2, .ref (am 0)), (3, .ref o9)] → W p l e room_1 s m #[Value.ref b] below meth c H2 locs2 c2 s2 (lw_Z below #[Value.ref b] s) (F0 m 1529 ls [])) : W p l e room_1 s m #[Value.ref b] below meth c H locs cells slots (lw_Z below #[Value.ref b] s) (F0 m 352 ls []) := by
  obtain ⟨hx, hb, hr, hml, hown, hts0, hX, hbl, hlocks, hgv⟩ := id C0
  obtain ⟨⟨hI, hIm⟩, ⟨hoC, hoM, hCM⟩, ⟨hAC, hAM, hAo⟩, hK, hKJ, hN⟩ := id CC
  have hts : ∀ w ∈ wsL_law, w.before #[Value.ref b] s = true := fun w hw => hts0 w (wsL_law_in w hw)
  have hown : s.vm.findClass RL = some m.cls := hown
  have hbA : ¬ (fun q : Nat => s.heap.size ≤ q) b := Nat.not_le.mpr hbl
  have hT : tX (fun q => s.heap.size ≤ q) s H := zz_kT hT0 hS
  refine lv_aload_n hx hb dL_law_352 rfl (lv_at hl 2 rfl) ?_
  refine lv_aload_n hx hb dL_law_353 rfl (lv_at hl 1 rfl) ?_
  refine lv_iload hx hb dL_law_354 (lv_at hl 0 rfl) ?_
  refine lv_iconst (v := nI 1) hx hb dL_law_356 (by decide) ?_
  refine lv_iadd hx hb dL_law_357 ?_
  refine zt_i (y := nI (5 * i9 + 1)) (nI_add _ _) ?_
  refine va_sld hx hb hX hbl hbA hS (vp_in_nI (n := 5 * i9 + 1) (by omega) (by omega)) dL_law_358 ?_
  rw [nI_clamp (show 5 * i9 + 1 < 2 ^ 31 by omega)]
  rw [e1]
  refine lv_aload_n hx hb dL_law_359 rfl (lv_at hl 1 rfl) ?_
  refine lv_iload hx hb dL_law_360 (lv_at hl 0 rfl) ?_
  refine lv_iconst (v := nI 2) hx hb dL_law_362 (by decide) ?_
  refine lv_iadd hx hb dL_law_363 ?_
  refine zt_i (y := nI (5 * i9 + 2)) (nI_add _ _) ?_
  refine va_sld hx hb hX hbl hbA hS (vp_in_nI (n := 5 * i9 + 2) (by omega) (by omega)) dL_law_364 ?_
  rw [nI_clamp (show 5 * i9 + 2 < 2 ^ 31 by omega)]
  rw [e2]
  refine lv_aload_n hx hb dL_law_365 rfl (lv_at hl 1 rfl) ?_
  refine lv_iload hx hb dL_law_366 (lv_at hl 0 rfl) ?_
  refine lv_iconst (v := nI 3) hx hb dL_law_368 (by decide) ?_
  refine lv_iadd hx hb dL_law_369 ?_
  refine zt_i (y := nI (5 * i9 + 3)) (nI_add _ _) ?_
  refine va_sld hx hb hX hbl hbA hS (vp_in_nI (n := 5 * i9 + 3) (by omega) (by omega)) dL_law_370 ?_
  rw [nI_clamp (show 5 * i9 + 3 < 2 ^ 31 by omega)]
  refine lv_if_eq (tgt := 378) hx hb dL_law_371 (by decide) (fun h9 => absurd h9 e3) (fun _ => ?_)
  refine lv_iconst (v := nI 1) hx hb dL_law_374 (by decide) ?_
  refine lv_goto (tgt := 379) hx hb dL_law_375 (by decide) ?_
  refine lv_aload_n hx hb dL_law_379 rfl (lv_at hl 1 rfl) ?_
  refine lv_iload hx hb dL_law_380 (lv_at hl 0 rfl) ?_
  refine lv_iconst (v := nI 4) hx hb dL_law_382 (by decide) ?_
  refine lv_iadd hx hb dL_law_383 ?_
  refine zt_i (y := nI (5 * i9 + 4)) (nI_add _ _) ?_
  refine va_sld hx hb hX hbl hbA hS (vp_in_nI (n := 5 * i9 + 4) (by omega) (by omega)) dL_law_384 ?_
  rw [nI_clamp (show 5 * i9 + 4 < 2 ^ 31 by omega)]
  rw [e4]
  refine lv_aload_n hx hb dL_law_385 rfl (lv_at hl 4 rfl) ?_
  refine kh_claim_ioobe l hfl (cJ := cJ) (o9 := o9) (fo := fo) (x1 := x1) (g := g) (b := (nI 1)) (d := d) (h1 := ah1) hx hb hml hown hts hK hPC gL_law_L_claim ⟨Nat.le_of_ble_eq_true rfl, Nat.le_of_ble_eq_true rfl⟩ ⟨show cells + 1 ≤ 1083 by omega, show slots + 6 ≤ 9657 by omega⟩ hl.1 (Nat.le_of_ble_eq_true rfl) dL_law_386 (hT.narrow (fun _ h => h.elim)) hN hS (fun H2 locs hS hz9 hf => ?_)
  have hPC := zz_kC hI hPC (fun x h1 _ => hf x h1)
  have hPM := zz_kM hIm hPM (fun x h1 _ => hf x h1)
  have hPo := zz_ko hPo (hf _ (zz_lt hPo))
  refine lv_istore (lv' := [(5, .int (nI 1)), (4, .int (nI (5 * i9))), (0, .ref b), (1, .ref (ad 0)), (2, .ref (am 0)), (3, .ref o9)]) hx hb dL_law_389 hl (by decide) rfl (fun ls hl => ?_)
  refine lv_aload_n hx hb dL_law_391 rfl (lv_at hl 4 rfl) ?_
  refine lv_aload_n hx hb dL_law_392 rfl (lv_at hl 2 rfl) ?_
  refine lv_iload hx hb dL_law_393 (lv_at hl 1 rfl) ?_
  refine lv_iconst (v := nI 1) hx hb dL_law_395 (by decide) ?_
  refine lv_iadd hx hb dL_law_396 ?_
  refine zt_i (y := nI (5 * i9 + 1)) (nI_add _ _) ?_
  refine va_sld hx hb hX hbl hbA hS (vp_in_nI (n := 5 * i9 + 1) (by omega) (by omega)) dL_law_397 ?_
  rw [nI_clamp (show 5 * i9 + 1 < 2 ^ 31 by omega)]
  rw [e1]
  refine lv_aload_n hx hb dL_law_398 rfl (lv_at hl 2 rfl) ?_
  refine lv_iload hx hb dL_law_399 (lv_at hl 1 rfl) ?_
  refine lv_iconst (v := nI 2) hx hb dL_law_401 (by decide) ?_
  refine lv_iadd hx hb dL_law_402 ?_
  refine zt_i (y := nI (5 * i9 + 2)) (nI_add _ _) ?_
  refine va_sld hx hb hX hbl hbA hS (vp_in_nI (n := 5 * i9 + 2) (by omega) (by omega)) dL_law_403 ?_
  rw [nI_clamp (show 5 * i9 + 2 < 2 ^ 31 by omega)]
  rw [e2]
  refine lv_aload_n hx hb dL_law_404 rfl (lv_at hl 2 rfl) ?_
  refine lv_iload hx hb dL_law_405 (lv_at hl 1 rfl) ?_
  refine lv_iconst (v := nI 3) hx hb dL_law_407 (by decide) ?_
  refine lv_iadd hx hb dL_law_408 ?_
  refine zt_i (y := nI (5 * i9 + 3)) (nI_add _ _) ?_
  refine va_sld hx hb hX hbl hbA hS (vp_in_nI (n := 5 * i9 + 3) (by omega) (by omega)) dL_law_409 ?_
  rw [nI_clamp (show 5 * i9 + 3 < 2 ^ 31 by omega)]
  refine lv_if_eq (tgt := 417) hx hb dL_law_410 (by decide) (fun h9 => absurd h9 e3) (fun _ => ?_)
  refine lv_iconst (v := nI 1) hx hb dL_law_413 (by decide) ?_
  refine lv_goto (tgt := 418) hx hb dL_law_414 (by decide) ?_
  refine lv_aload_n hx hb dL_law_418 rfl (lv_at hl 2 rfl) ?_
  refine lv_iload hx hb dL_law_419 (lv_at hl 1 rfl) ?_
  refine lv_iconst (v := nI 4) hx hb dL_law_421 (by decide) ?_
  refine lv_iadd hx hb dL_law_422 ?_
  refine zt_i (y := nI (5 * i9 + 4)) (nI_add _ _) ?_
  refine va_sld hx hb hX hbl hbA hS (vp_in_nI (n := 5 * i9 + 4) (by omega) (by omega)) dL_law_423 ?_
  rw [nI_clamp (show 5 * i9 + 4 < 2 ^ 31 by omega)]
  rw [e4]
  refine k_X4_claim_1 l (x1 := x1) (g := g) (b := (nI 1)) (d := d) (hn := bhn) (h1 := ah1) hx hb hml hown hts hK hPM gL_law_X4_claim ⟨Nat.le_of_ble_eq_true rfl, Nat.le_of_ble_eq_true rfl⟩ ⟨show cells + 1 ≤ 1083 by omega, show slots + 6 ≤ 9657 by omega⟩ hl.1 (Nat.le_of_ble_eq_true rfl) dL_law_424 hIm hAM hS (fun H2 locs hPM hS hf => ?_)
  have hPC := zz_kC hI hPC (fun x h1 h2 => hf x h1 (fun h3 => hCM x h2 h3))
  have hPo := zz_ko hPo (hf _ (zz_lt hPo) hoM)
  refine lv_istore (lv' := [(6, .int (nI 0)), (5, .int (nI 1)), (4, .int (nI (5 * i9))), (0, .ref b), (1, .ref (ad 0)), (2, .ref (am 0)), (3, .ref o9)]) hx hb dL_law_427 hl (by decide) rfl (fun ls hl => ?_)
  refine lv_aload_n hx hb dL_law_429 rfl (lv_at hl 5 rfl) ?_
  refine k_X4_thrown l hx hb hml hown hts hK hPM gL_law_X4_thrown ⟨Nat.le_of_ble_eq_true rfl, Nat.le_of_ble_eq_true rfl⟩ ⟨show cells + 1 ≤ 1083 by omega, show slots + 6 ≤ 9657 by omega⟩ hl.1 (Nat.le_of_ble_eq_true rfl) dL_law_430 ?_
  refine lv_iload hx hb dL_law_433 (lv_at hl 1 rfl) ?_
  refine lv_icmp_eq (tgt := 440) hx hb dL_law_435 (by decide) (fun _ => ?_) (fun h9 => absurd rfl h9)
  refine lv_iload hx hb dL_law_440 (lv_at hl 1 rfl) ?_
  refine lv_if_ne (tgt := 457) hx hb dL_law_442 (by decide) (fun _ => ?_) (fun h9 => absurd h9 (by decide))
  refine lv_goto (tgt := 1529) hx hb dL_law_457 (by decide) ?_
  exact kk _ _ _ _ _ (by omega) (by omega) hPC hPM hPo hS ls (lv_sub hl [2, 3, 4, 5, 6] rfl)
set_option maxHeartbeats 4000000 in
set_option maxRecDepth 100000 in
theorem lo_claim_iae_0 {p : Program} {e : Env} {s : State} {m : MethodId} {below : List Frame} {meth : Method} {c : Code} (l : Launch) (hfl : l.stackTraces = false) {b L : Nat} {xs : Nat → Int32} (C0 : lw_At p s m meth c b L xs) {dC : Nat → ClassId} {dI : Nat → Nat → Nat} {cI cZ cJ : ClassId} {ad am : Nat → Nat} {o9 : Nat} (CC : lwC dC dI cI cZ cJ ad am o9 s) (hT0 : tX (fun q => s.heap.size ≤ q) s s.heap) {sm fe ex dy : Int32} {gp gc op gr st dl wo : Nat → Int32} {n : Nat} {yc ya ys yd : Nat → Int32} {q : Nat} {zc zp zr zs zf : Nat → Int32} {z : Nat} {zm zt : Int64} {pe tp fu sh ro : Nat → Int32} {th : Int32} {fo : Nat → Int64} {x1 : Int32} {g : Int32} {d : Int32} {i9 : Nat} (hi9 : 5 * i9 + 5 ≤ L) (hL9 : L ≤ 2560) {H : Heap} {locs : List Loc} {cells slots : Nat} (hc1 : cells ≤ 37 + i9) (hs1 : slots ≤ 1333 + 6 * i9) (hPC : va_P (dC, dI) vwCl (wC cI cZ ad sm fe ex dy gp gc op gr st dl wo n yc ya ys yd q zc zp zr zs zf z zm zt) H) (hPM : va_P (dC, dI) vwCl (wM cI cZ am sm fe ex gp gc dy n pe gr st dl wo q yc ya yd ys tp fu sh ro th) H) (hPo : va_P (dC, dI) vwCl [(o9, .inl (cJ, 1, .inr (.inl fo)))] H) (hS : va_S (fun q : Nat => s.heap.size ≤ q) s.heap H locs) (e1 : xs (5 * i9 + 1) = x1) (e2 : xs (5 * i9 + 2) = g) (e3 : xs (5 * i9 + 3) = 0) (e4 : xs (5 * i9 + 4) = d) (ah1 : outN x1 (nI 0) (nI 29) = 0) (ah2 : outN g (nI 0) (nI 4) = 0) (ah3 : ¬ outN d (nI 0) (nI 100) = 0) (bhn : n ≤ 24) {ls : Array Slot} (hl : lv_has ls 7 [(4, .int (nI (5 * i9))), (0, .ref b), (1, .ref (ad 0)), (2, .ref (am 0)), (3, .ref o9)]) (kk : ∀ (fo2 : Nat → Int64) (H2 : Heap) (locs2 : List Loc) (c2 s2 : Nat), c2 ≤ 38 + i9 → s2 ≤ 1339 + 6 * i9 → va_P (dC, dI) vwCl (wC cI cZ ad sm fe ex dy gp gc op gr st dl wo n yc ya ys yd q zc zp zr zs zf z zm zt) H2 → va_P (dC, dI) vwCl (wM cI cZ am sm fe ex gp gc dy n pe gr st dl wo q yc ya yd ys tp fu sh ro (nI 2)) H2 → va_P (dC, dI) vwCl [(o9, .inl (cJ, 1, .inr (.inl fo2)))] H2 → va_S (fun q : Nat => s.heap.size ≤ q) s.heap H2 locs2 → ∀ ls, lv_has ls 7 [(4, .int (nI (5 * i9))), (0, .ref b), (1, .ref (ad 0)), (2, .ref (am 0)), (3, .ref o9)] → W p l e room_1 s m #[Value.ref b] below meth c H2 locs2 c2 s2 (lw_Z below #[Value.ref b] s) (F0 m 1529 ls [])) : W p l e room_1 s m #[Value.ref b] below meth c H locs cells slots (lw_Z below #[Value.ref b] s) (F0 m 352 ls []) := by
  obtain ⟨hx, hb, hr, hml, hown, hts0, hX, hbl, hlocks, hgv⟩ := id C0
  obtain ⟨⟨hI, hIm⟩, ⟨hoC, hoM, hCM⟩, ⟨hAC, hAM, hAo⟩, hK, hKJ, hN⟩ := id CC
  have hts : ∀ w ∈ wsL_law, w.before #[Value.ref b] s = true := fun w hw => hts0 w (wsL_law_in w hw)
  have hown : s.vm.findClass RL = some m.cls := hown
  have hbA : ¬ (fun q : Nat => s.heap.size ≤ q) b := Nat.not_le.mpr hbl
  have hT : tX (fun q => s.heap.size ≤ q) s H := zz_kT hT0 hS
  refine lv_aload_n hx hb dL_law_352 rfl (lv_at hl 2 rfl) ?_
  refine lv_aload_n hx hb dL_law_353 rfl (lv_at hl 1 rfl) ?_
  refine lv_iload hx hb dL_law_354 (lv_at hl 0 rfl) ?_
  refine lv_iconst (v := nI 1) hx hb dL_law_356 (by decide) ?_
  refine lv_iadd hx hb dL_law_357 ?_
  refine zt_i (y := nI (5 * i9 + 1)) (nI_add _ _) ?_
  refine va_sld hx hb hX hbl hbA hS (vp_in_nI (n := 5 * i9 + 1) (by omega) (by omega)) dL_law_358 ?_
  rw [nI_clamp (show 5 * i9 + 1 < 2 ^ 31 by omega)]
  rw [e1]
  refine lv_aload_n hx hb dL_law_359 rfl (lv_at hl 1 rfl) ?_
  refine lv_iload hx hb dL_law_360 (lv_at hl 0 rfl) ?_
  refine lv_iconst (v := nI 2) hx hb dL_law_362 (by decide) ?_
  refine lv_iadd hx hb dL_law_363 ?_
  refine zt_i (y := nI (5 * i9 + 2)) (nI_add _ _) ?_
  refine va_sld hx hb hX hbl hbA hS (vp_in_nI (n := 5 * i9 + 2) (by omega) (by omega)) dL_law_364 ?_
  rw [nI_clamp (show 5 * i9 + 2 < 2 ^ 31 by omega)]
  rw [e2]
  refine lv_aload_n hx hb dL_law_365 rfl (lv_at hl 1 rfl) ?_
  refine lv_iload hx hb dL_law_366 (lv_at hl 0 rfl) ?_
  refine lv_iconst (v := nI 3) hx hb dL_law_368 (by decide) ?_
  refine lv_iadd hx hb dL_law_369 ?_
  refine zt_i (y := nI (5 * i9 + 3)) (nI_add _ _) ?_
  refine va_sld hx hb hX hbl hbA hS (vp_in_nI (n := 5 * i9 + 3) (by omega) (by omega)) dL_law_370 ?_
  rw [nI_clamp (show 5 * i9 + 3 < 2 ^ 31 by omega)]
  refine lv_if_eq (tgt := 378) hx hb dL_law_371 (by decide) (fun _ => ?_) (fun h9 => absurd e3 h9)
  refine lv_iconst (v := nI 0) hx hb dL_law_378 (by decide) ?_
  refine lv_aload_n hx hb dL_law_379 rfl (lv_at hl 1 rfl) ?_
  refine lv_iload hx hb dL_law_380 (lv_at hl 0 rfl) ?_
  refine lv_iconst (v := nI 4) hx hb dL_law_382 (by decide) ?_
  refine lv_iadd hx hb dL_law_383 ?_
  refine zt_i (y := nI (5 * i9 + 4)) (nI_add _ _) ?_
  refine va_sld hx hb hX hbl hbA hS (vp_in_nI (n := 5 * i9 + 4) (by omega) (by omega)) dL_law_384 ?_
  rw [nI_clamp (show 5 * i9 + 4 < 2 ^ 31 by omega)]
  rw [e4]
  refine lv_aload_n hx hb dL_law_385 rfl (lv_at hl 4 rfl) ?_
  refine kh_claim_iae l hfl (cJ := cJ) (o9 := o9) (fo := fo) (x1 := x1) (g := g) (b := (nI 0)) (d := d) (h1 := ah1) (h2 := ah2) (h3 := ah3) hx hb hml hown hts hK hPC gL_law_L_claim ⟨Nat.le_of_ble_eq_true rfl, Nat.le_of_ble_eq_true rfl⟩ ⟨show cells + 1 ≤ 1083 by omega, show slots + 6 ≤ 9657 by omega⟩ hl.1 (Nat.le_of_ble_eq_true rfl) dL_law_386 (hT.narrow (fun _ h => h.elim)) hN hS (fun H2 locs hS hz9 hf => ?_)
  have hPC := zz_kC hI hPC (fun x h1 _ => hf x h1)
  have hPM := zz_kM hIm hPM (fun x h1 _ => hf x h1)
  have hPo := zz_ko hPo (hf _ (zz_lt hPo))
  refine lv_istore (lv' := [(5, .int (nI 2)), (4, .int (nI (5 * i9))), (0, .ref b), (1, .ref (ad 0)), (2, .ref (am 0)), (3, .ref o9)]) hx hb dL_law_389 hl (by decide) rfl (fun ls hl => ?_)
  refine lv_aload_n hx hb dL_law_391 rfl (lv_at hl 4 rfl) ?_
  refine lv_aload_n hx hb dL_law_392 rfl (lv_at hl 2 rfl) ?_
  refine lv_iload hx hb dL_law_393 (lv_at hl 1 rfl) ?_
  refine lv_iconst (v := nI 1) hx hb dL_law_395 (by decide) ?_
  refine lv_iadd hx hb dL_law_396 ?_
  refine zt_i (y := nI (5 * i9 + 1)) (nI_add _ _) ?_
  refine va_sld hx hb hX hbl hbA hS (vp_in_nI (n := 5 * i9 + 1) (by omega) (by omega)) dL_law_397 ?_
  rw [nI_clamp (show 5 * i9 + 1 < 2 ^ 31 by omega)]
  rw [e1]
  refine lv_aload_n hx hb dL_law_398 rfl (lv_at hl 2 rfl) ?_
  refine lv_iload hx hb dL_law_399 (lv_at hl 1 rfl) ?_
  refine lv_iconst (v := nI 2) hx hb dL_law_401 (by decide) ?_
  refine lv_iadd hx hb dL_law_402 ?_
  refine zt_i (y := nI (5 * i9 + 2)) (nI_add _ _) ?_
  refine va_sld hx hb hX hbl hbA hS (vp_in_nI (n := 5 * i9 + 2) (by omega) (by omega)) dL_law_403 ?_
  rw [nI_clamp (show 5 * i9 + 2 < 2 ^ 31 by omega)]
  rw [e2]
  refine lv_aload_n hx hb dL_law_404 rfl (lv_at hl 2 rfl) ?_
  refine lv_iload hx hb dL_law_405 (lv_at hl 1 rfl) ?_
  refine lv_iconst (v := nI 3) hx hb dL_law_407 (by decide) ?_
  refine lv_iadd hx hb dL_law_408 ?_
  refine zt_i (y := nI (5 * i9 + 3)) (nI_add _ _) ?_
  refine va_sld hx hb hX hbl hbA hS (vp_in_nI (n := 5 * i9 + 3) (by omega) (by omega)) dL_law_409 ?_
  rw [nI_clamp (show 5 * i9 + 3 < 2 ^ 31 by omega)]
  refine lv_if_eq (tgt := 417) hx hb dL_law_410 (by decide) (fun _ => ?_) (fun h9 => absurd e3 h9)
  refine lv_iconst (v := nI 0) hx hb dL_law_417 (by decide) ?_
  refine lv_aload_n hx hb dL_law_418 rfl (lv_at hl 2 rfl) ?_
  refine lv_iload hx hb dL_law_419 (lv_at hl 1 rfl) ?_
  refine lv_iconst (v := nI 4) hx hb dL_law_421 (by decide) ?_
  refine lv_iadd hx hb dL_law_422 ?_
  refine zt_i (y := nI (5 * i9 + 4)) (nI_add _ _) ?_
  refine va_sld hx hb hX hbl hbA hS (vp_in_nI (n := 5 * i9 + 4) (by omega) (by omega)) dL_law_423 ?_
  rw [nI_clamp (show 5 * i9 + 4 < 2 ^ 31 by omega)]
  rw [e4]
  refine k_X4_claim_2 l (x1 := x1) (g := g) (b := (nI 0)) (d := d) (hn := bhn) (h1 := ah1) (h2 := ah2) (h3 := ah3) hx hb hml hown hts hK hPM gL_law_X4_claim ⟨Nat.le_of_ble_eq_true rfl, Nat.le_of_ble_eq_true rfl⟩ ⟨show cells + 1 ≤ 1083 by omega, show slots + 6 ≤ 9657 by omega⟩ hl.1 (Nat.le_of_ble_eq_true rfl) dL_law_424 hIm hAM hS (fun H2 locs hPM hS hf => ?_)
  have hPC := zz_kC hI hPC (fun x h1 h2 => hf x h1 (fun h3 => hCM x h2 h3))
  have hPo := zz_ko hPo (hf _ (zz_lt hPo) hoM)
  refine lv_istore (lv' := [(6, .int (nI 0)), (5, .int (nI 2)), (4, .int (nI (5 * i9))), (0, .ref b), (1, .ref (ad 0)), (2, .ref (am 0)), (3, .ref o9)]) hx hb dL_law_427 hl (by decide) rfl (fun ls hl => ?_)
  refine lv_aload_n hx hb dL_law_429 rfl (lv_at hl 5 rfl) ?_
  refine k_X4_thrown l hx hb hml hown hts hK hPM gL_law_X4_thrown ⟨Nat.le_of_ble_eq_true rfl, Nat.le_of_ble_eq_true rfl⟩ ⟨show cells + 1 ≤ 1083 by omega, show slots + 6 ≤ 9657 by omega⟩ hl.1 (Nat.le_of_ble_eq_true rfl) dL_law_430 ?_
  refine lv_iload hx hb dL_law_433 (lv_at hl 1 rfl) ?_
  refine lv_icmp_eq (tgt := 440) hx hb dL_law_435 (by decide) (fun _ => ?_) (fun h9 => absurd rfl h9)
  refine lv_iload hx hb dL_law_440 (lv_at hl 1 rfl) ?_
  refine lv_if_ne (tgt := 457) hx hb dL_law_442 (by decide) (fun _ => ?_) (fun h9 => absurd h9 (by decide))
  refine lv_goto (tgt := 1529) hx hb dL_law_457 (by decide) ?_
  exact kk _ _ _ _ _ (by omega) (by omega) hPC hPM hPo hS ls (lv_sub hl [2, 3, 4, 5, 6] rfl)
