theorem lp_cond {L i : Nat} (hL : L ≤ 2560) (hi : 5 * i ≤ 2565) (h : ¬ (nI L - nI 5 < nI (5 * i))) : 5 * i + 5 ≤ L := by
  rw [Int32.lt_iff_toInt_lt, pk_sub_toInt (by omega) (by omega), nI_toInt (by omega)] at h
  omega
set_option maxHeartbeats 4000000 in
set_option maxRecDepth 100000 in
theorem law_loop {p : Program} {e : Env} {s : State} {m : MethodId} {below : List Frame} {meth : Method} {c : Code} (l : Launch) (hfl : l.stackTraces = false) {b L : Nat} {xs : Nat → Int32} (C0 : lw_At p s m meth c b L xs) {dC : Nat → ClassId} {dI : Nat → Nat → Nat} {cI cZ cJ : ClassId} {ad am : Nat → Nat} {o9 : Nat} (CC : lwC dC dI cI cZ cJ ad am o9 s) (hT0 : tX (fun q => s.heap.size ≤ q) s s.heap) (hL9 : L ≤ 2560) :
    ∀ (N i9 : Nat) (_ : L ≤ 5 * i9 + N) (_ : i9 ≤ 512) (D : Nat) (sm fe ex dy : Int32) (gp gc op gr st dl wo : Nat → Int32) (n : Nat) (yc ya ys yd : Nat → Int32) (q : Nat) (zc zp zr zs zf : Nat → Int32) (z : Nat) (zm zt : Int64) (pe tp fu sh ro : Nat → Int32) (th : Int32) (fo : Nat → Int64) (H : Heap) (locs : List Loc) (cells slots : Nat) (hG : GI D sm fe ex dy gp gc op gr wo n ya yd q pe) (hD9 : D ≤ 200 * i9) (hc1 : cells ≤ 37 + i9) (hs1 : slots ≤ 1333 + 6 * i9) (hPC : va_P (dC, dI) vwCl (wC cI cZ ad sm fe ex dy gp gc op gr st dl wo n yc ya ys yd q zc zp zr zs zf z zm zt) H) (hPM : va_P (dC, dI) vwCl (wM cI cZ am sm fe ex gp gc dy n pe gr st dl wo q yc ya yd ys tp fu sh ro th) H) (hPo : va_P (dC, dI) vwCl [(o9, .inl (cJ, 1, .inr (.inl fo)))] H) (hS : va_S (fun q : Nat => s.heap.size ≤ q) s.heap H locs) (ls : Array Slot) (hl : lv_has ls 7 [(4, .int (nI (5 * i9))), (0, .ref b), (1, .ref (ad 0)), (2, .ref (am 0)), (3, .ref o9)]), W p l e room_1 s m #[Value.ref b] below meth c H locs cells slots (lw_Z below #[Value.ref b] s) (F0 m 23 ls []) := by
  obtain ⟨hx, hb, hr, hml, hown, hts0, hX, hbl, hlocks, hgv⟩ := id C0
  have hbA : ¬ (fun q : Nat => s.heap.size ≤ q) b := Nat.not_le.mpr hbl
  intro N
  induction N with
  | zero =>
    intro i9 hN hi D sm fe ex dy gp gc op gr st dl wo n yc ya ys yd q zc zp zr zs zf z zm zt pe tp fu sh ro th fo H locs cells slots hG hD9 hc1 hs1 hPC hPM hPo hS ls hl
    refine lv_iload hx hb dL_law_23 (lv_at hl 0 rfl) ?_
    refine lv_aload_n hx hb dL_law_25 rfl (lv_at hl 1 rfl) ?_
    refine va_slen hx hb hX hbl hbA hS dL_law_26 ?_
    refine lv_iconst (v := nI 5) hx hb dL_law_27 (by decide) ?_
    refine lv_isub hx hb dL_law_28 ?_
    refine lv_icmp_gt (tgt := 1535) hx hb dL_law_29 (by decide) (fun _ => ?_) (fun h9 => absurd (lp_cond hL9 (by omega) h9) (by omega))
    refine lv_iconst (v := 1) hx hb dL_law_1535 (by decide) ?_
    refine va_forget (fun q h => hS.2.2 q h) ?_
    refine W.widen (k := 1083) (n := 9657) (by omega) (by omega) ?_
    exact lw_ret hx hb hr hlocks dL_law_1536
  | succ N ih =>
    intro i9 hN hi D sm fe ex dy gp gc op gr st dl wo n yc ya ys yd q zc zp zr zs zf z zm zt pe tp fu sh ro th fo H locs cells slots hG hD9 hc1 hs1 hPC hPM hPo hS ls hl
    refine lv_iload hx hb dL_law_23 (lv_at hl 0 rfl) ?_
    refine lv_aload_n hx hb dL_law_25 rfl (lv_at hl 1 rfl) ?_
    refine va_slen hx hb hX hbl hbA hS dL_law_26 ?_
    refine lv_iconst (v := nI 5) hx hb dL_law_27 (by decide) ?_
    refine lv_isub hx hb dL_law_28 ?_
    refine lv_icmp_gt (tgt := 1535) hx hb dL_law_29 (by decide) (fun _ => ?_) (fun h9 => ?_)
    · refine lv_iconst (v := 1) hx hb dL_law_1535 (by decide) ?_
      refine va_forget (fun q h => hS.2.2 q h) ?_
      refine W.widen (k := 1083) (n := 9657) (by omega) (by omega) ?_
      exact lw_ret hx hb hr hlocks dL_law_1536
    have hi9 : 5 * i9 + 5 ≤ L := lp_cond hL9 (by omega) h9
    have K : lwK p l e s m b below meth c dC dI cI cZ cJ ad am o9 i9 := by
      intro D sm fe ex dy gp gc op gr st dl wo n yc ya ys yd q zc zp zr zs zf z zm zt pe tp fu sh ro th fo H locs c2 s2 hG hD h1 h2 h3 h4 h5 h6 ls hl
      refine lv_iinc (v := nI (5 * (i9 + 1))) (lv' := [(4, .int (nI (5 * (i9 + 1)))), (0, .ref b), (1, .ref (ad 0)), (2, .ref (am 0)), (3, .ref o9)]) hx hb dL_law_1529 hl (k := 0) rfl (zz_incn _ 5 (by decide)) (by decide) rfl (fun ls hl => ?_)
      refine lv_goto (tgt := 23) hx hb dL_law_1532 (by decide) ?_
      exact ih (i9 + 1) (by omega) (by omega) D sm fe ex dy gp gc op gr st dl wo n yc ya ys yd q zc zp zr zs zf z zm zt pe tp fu sh ro th fo H locs c2 s2 hG (by omega) (by omega) (by omega) h3 h4 h5 h6 ls hl
    refine lv_aload_n hx hb dL_law_32 rfl (lv_at hl 1 rfl) ?_
    refine lv_iload hx hb dL_law_33 (lv_at hl 0 rfl) ?_
    refine va_sld hx hb hX hbl hbA hS (vp_in_nI (n := 5 * i9) (by omega) (by omega)) dL_law_35 ?_
    refine lv_bipush (v := nI 31) hx hb dL_law_36 (by decide) ?_
    refine lv_iand hx hb dL_law_38 ?_
    obtain ⟨j, hj, ej⟩ := pk_andE (xs (nI (5 * i9)).toNatClampNeg) (m := nI 31) 5 (by decide)
    refine zt_i (y := nI j) ej ?_
    rcases (show j = 0 ∨ j = 1 ∨ j = 2 ∨ j = 3 ∨ j = 4 ∨ j = 5 ∨ j = 6 ∨ j = 7 ∨ j = 8 ∨ j = 9 ∨ j = 10 ∨ j = 11 ∨ j = 12 ∨ j = 13 ∨ j = 14 ∨ j = 15 ∨ j = 16 ∨ j = 17 ∨ j = 18 ∨ j = 19 ∨ j = 20 ∨ j = 21 ∨ j = 22 ∨ j = 23 ∨ j = 24 ∨ j = 25 ∨ 26 ≤ j by omega) with rfl | rfl | rfl | rfl | rfl | rfl | rfl | rfl | rfl | rfl | rfl | rfl | rfl | rfl | rfl | rfl | rfl | rfl | rfl | rfl | rfl | rfl | rfl | rfl | rfl | rfl | h26
    · refine lv_tableIn (off := 117) (tgt := 156) hx hb dL_law_39 (by decide +kernel) (by decide +kernel) (by decide +kernel) (by decide) ?_
      exact ca_setFund l hfl C0 CC hT0 hi9 hL9 hc1 hs1 hPC hPM hPo hS hl hG hD9 K
    · refine lv_tableIn (off := 197) (tgt := 236) hx hb dL_law_39 (by decide +kernel) (by decide +kernel) (by decide +kernel) (by decide) ?_
      exact ca_setGrade l hfl C0 CC hT0 hi9 hL9 hc1 hs1 hPC hPM hPo hS hl hG hD9 K
    · refine lv_tableIn (off := 257) (tgt := 296) hx hb dL_law_39 (by decide +kernel) (by decide +kernel) (by decide +kernel) (by decide) ?_
      exact ca_pass l hfl C0 CC hT0 hi9 hL9 hc1 hs1 hPC hPM hPo hS hl hG hD9 K
    · refine lv_tableIn (off := 313) (tgt := 352) hx hb dL_law_39 (by decide +kernel) (by decide +kernel) (by decide +kernel) (by decide) ?_
      exact ca_claim l hfl C0 CC hT0 hi9 hL9 hc1 hs1 hPC hPM hPo hS hl hG hD9 K
    · refine lv_tableIn (off := 421) (tgt := 460) hx hb dL_law_39 (by decide +kernel) (by decide +kernel) (by decide +kernel) (by decide) ?_
      exact ca_cure l hfl C0 CC hT0 hi9 hL9 hc1 hs1 hPC hPM hPo hS hl hG hD9 K
    · refine lv_tableIn (off := 477) (tgt := 516) hx hb dL_law_39 (by decide +kernel) (by decide +kernel) (by decide +kernel) (by decide) ?_
      exact ca_deny l hfl C0 CC hT0 hi9 hL9 hc1 hs1 hPC hPM hPo hS hl hG hD9 K
    · refine lv_tableIn (off := 533) (tgt := 572) hx hb dL_law_39 (by decide +kernel) (by decide +kernel) (by decide +kernel) (by decide) ?_
      exact ca_object l hfl C0 CC hT0 hi9 hL9 hc1 hs1 hPC hPM hPo hS hl hG hD9 K
    · refine lv_tableIn (off := 589) (tgt := 628) hx hb dL_law_39 (by decide +kernel) (by decide +kernel) (by decide +kernel) (by decide) ?_
      exact ca_decide l hfl C0 CC hT0 hi9 hL9 hc1 hs1 hPC hPM hPo hS hl hG hD9 K
    · refine lv_tableIn (off := 673) (tgt := 712) hx hb dL_law_39 (by decide +kernel) (by decide +kernel) (by decide +kernel) (by decide) ?_
      exact ca_round l hfl C0 CC hT0 hi9 hL9 hc1 hs1 hPC hPM hPo hS hl hG hD9 K
    · refine lv_tableIn (off := 729) (tgt := 768) hx hb dL_law_39 (by decide +kernel) (by decide +kernel) (by decide +kernel) (by decide) ?_
      exact ca_cash l hfl C0 CC hT0 hi9 hL9 hc1 hs1 hPC hPM hPo hS hl hG hD9 K
    · refine lv_tableIn (off := 785) (tgt := 824) hx hb dL_law_39 (by decide +kernel) (by decide +kernel) (by decide +kernel) (by decide) ?_
      exact ca_today l hfl C0 CC hT0 hi9 hL9 hc1 hs1 hPC hPM hPo hS hl hG hD9 K
    · refine lv_tableIn (off := 798) (tgt := 837) hx hb dL_law_39 (by decide +kernel) (by decide +kernel) (by decide +kernel) (by decide) ?_
      exact ca_claims l hfl C0 CC hT0 hi9 hL9 hc1 hs1 hPC hPM hPo hS hl hG hD9 K
    · refine lv_tableIn (off := 811) (tgt := 850) hx hb dL_law_39 (by decide +kernel) (by decide +kernel) (by decide +kernel) (by decide) ?_
      exact ca_claimOf l hfl C0 CC hT0 hi9 hL9 hc1 hs1 hPC hPM hPo hS hl hG hD9 K
    · refine lv_tableIn (off := 867) (tgt := 906) hx hb dL_law_39 (by decide +kernel) (by decide +kernel) (by decide +kernel) (by decide) ?_
      exact ca_stateOf l hfl C0 CC hT0 hi9 hL9 hc1 hs1 hPC hPM hPo hS hl hG hD9 K
    · refine lv_tableIn (off := 923) (tgt := 962) hx hb dL_law_39 (by decide +kernel) (by decide +kernel) (by decide +kernel) (by decide) ?_
      exact ca_gradeOf l hfl C0 CC hT0 hi9 hL9 hc1 hs1 hPC hPM hPo hS hl hG hD9 K
    · refine lv_tableIn (off := 979) (tgt := 1018) hx hb dL_law_39 (by decide +kernel) (by decide +kernel) (by decide +kernel) (by decide) ?_
      exact ca_room l hfl C0 CC hT0 hi9 hL9 hc1 hs1 hPC hPM hPo hS hl hG hD9 K
    · refine lv_tableIn (off := 1035) (tgt := 1074) hx hb dL_law_39 (by decide +kernel) (by decide +kernel) (by decide +kernel) (by decide) ?_
      exact ca_paidTo l hfl C0 CC hT0 hi9 hL9 hc1 hs1 hPC hPM hPo hS hl hG hD9 K
    · refine lv_tableIn (off := 1091) (tgt := 1130) hx hb dL_law_39 (by decide +kernel) (by decide +kernel) (by decide +kernel) (by decide) ?_
      exact ca_count l hfl C0 CC hT0 hi9 hL9 hc1 hs1 hPC hPM hPo hS hl hG hD9 K
    · refine lv_tableIn (off := 1147) (tgt := 1186) hx hb dL_law_39 (by decide +kernel) (by decide +kernel) (by decide +kernel) (by decide) ?_
      exact ca_moneyLeft l hfl C0 CC hT0 hi9 hL9 hc1 hs1 hPC hPM hPo hS hl hG hD9 K
    · refine lv_tableIn (off := 1160) (tgt := 1199) hx hb dL_law_39 (by decide +kernel) (by decide +kernel) (by decide +kernel) (by decide) ?_
      exact ca_fee l hfl C0 CC hT0 hi9 hL9 hc1 hs1 hPC hPM hPo hS hl hG hD9 K
    · refine lv_tableIn (off := 1173) (tgt := 1212) hx hb dL_law_39 (by decide +kernel) (by decide +kernel) (by decide +kernel) (by decide) ?_
      exact ca_payments l hfl C0 CC hT0 hi9 hL9 hc1 hs1 hPC hPM hPo hS hl hG hD9 K
    · refine lv_tableIn (off := 1186) (tgt := 1225) hx hb dL_law_39 (by decide +kernel) (by decide +kernel) (by decide +kernel) (by decide) ?_
      exact ca_paymentTo l hfl C0 CC hT0 hi9 hL9 hc1 hs1 hPC hPM hPo hS hl hG hD9 K
    · refine lv_tableIn (off := 1242) (tgt := 1281) hx hb dL_law_39 (by decide +kernel) (by decide +kernel) (by decide +kernel) (by decide) ?_
      exact ca_amountOf l hfl C0 CC hT0 hi9 hL9 hc1 hs1 hPC hPM hPo hS hl hG hD9 K
    · refine lv_tableIn (off := 1298) (tgt := 1337) hx hb dL_law_39 (by decide +kernel) (by decide +kernel) (by decide +kernel) (by decide) ?_
      exact ca_paymentState l hfl C0 CC hT0 hi9 hL9 hc1 hs1 hPC hPM hPo hS hl hG hD9 K
    · refine lv_tableIn (off := 1354) (tgt := 1393) hx hb dL_law_39 (by decide +kernel) (by decide +kernel) (by decide +kernel) (by decide) ?_
      exact ca_shareOf l hfl C0 CC hT0 hi9 hL9 hc1 hs1 hPC hPM hPo hS hl hG hD9 K
    · refine lv_tableIn (off := 1422) (tgt := 1461) hx hb dL_law_39 (by decide +kernel) (by decide +kernel) (by decide +kernel) (by decide) ?_
      exact ca_shareBySorting l hfl C0 CC hT0 hi9 hL9 hc1 hs1 hPC hPM hPo hS hl hG hD9 K
    · refine lv_tableOut (tgt := 1529) hx hb dL_law_39 (Or.inr (by rw [nI_toInt (by omega)]; omega)) (by decide) ?_
      exact K fo H locs cells slots hG (by omega) (by omega) (by omega) hPC hPM hPo hS ls hl
