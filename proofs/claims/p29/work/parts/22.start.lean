set_option maxHeartbeats 4000000 in
set_option maxRecDepth 100000 in
theorem rz_mid {p : Program} {e : Env} {s : State} {m : MethodId} {below : List Frame} {meth : Method} {c : Code} (l : Launch) (hfl : l.stackTraces = false) {b : Nat} (C0 : rz_At p s m meth c b 100 (fun _ => nI 0)) {dC : Nat → ClassId} {dI : Nat → Nat → Nat} {cI cZ : ClassId} {ad : Nat → Nat} {m9 w1 w2 w3 w4 : Nat} (hI : iwC ad) (hm9 : ¬ awC ad m9) (hAw : ∀ x, awC ad x → s.heap.size ≤ x) (hAm : s.heap.size ≤ m9) (hK : va_K (dC, dI) vwCl [(cI, .int), (cZ, .boolean)] s) (hT0 : tX (fun q => s.heap.size ≤ q) s s.heap) (hN : tN s) (sm fe ex dy : Int32) (gp gc op gr st dl wo yc ya ys yd zc zp zr zs zf : Nat → Int32) (z : Nat) (zm zt : Int64) (mf : Nat → Int32) (H : Heap) (locs : List Loc) (hz9 : s.heap.size + 0 ≤ H.size) (hP : va_P (dC, dI) vwCl (wC cI cZ ad sm fe ex dy gp gc op gr st dl wo 0 yc ya ys yd 0 zc zp zr zs zf z zm zt) H) (hPm : va_P (dC, dI) vwCl [(m9, .inl (cI, 11, .inl mf))] H) (hS : va_S (fun q : Nat => s.heap.size ≤ q) s.heap H locs) (ls : Array Slot) (hl : lv_has ls 19 [(0, .ref b), (1, .ref (ad 0)), (2, .ref m9), (3, .ref w1), (4, .ref w2), (5, .ref w3), (6, .ref w4)]) : W p l e room_B s m #[Value.ref b] below meth c H locs 25 828 (rz_Z below #[Value.ref b] s) (F0 m 36 ls []) := by
  obtain ⟨hx, hb, hr, hml, hown, hts0, hX, hbl, hlocks, hgv⟩ := id C0
  have hts : ∀ w ∈ wsL_law, w.before #[Value.ref b] s = true := fun w hw => hts0 w (wsL_law_in w hw)
  have hown : s.vm.findClass RL = some m.cls := hown
  have hk141 := hts (.constant RL 141 (1000000)) (by decide +kernel)
  refine lv_iconst (v := nI 0) hx hb dL_law_36 (by decide) ?_
  refine lv_istore (lv' := [(7, .int (nI 0)), (0, .ref b), (1, .ref (ad 0)), (2, .ref m9), (3, .ref w1), (4, .ref w2), (5, .ref w3), (6, .ref w4)]) hx hb dL_law_37 hl (by decide) rfl (fun ls hl => ?_)
  refine lv_iload hx hb dL_law_39 (lv_at hl 0 rfl) ?_
  refine lv_iconst (v := nI 5) hx hb dL_law_41 (by decide) ?_
  refine zb_ge (tgt := 67) hx hb (by decide) (by decide) dL_law_42 (by decide) (fun c_42 => (show False by omega).elim) (fun c_42 => ?_)
  refine lv_aload_n hx hb dL_law_45 rfl (lv_at hl 3 rfl) ?_
  refine lv_iconst (v := nI 1) hx hb dL_law_46 (by decide) ?_
  refine lv_iload hx hb dL_law_47 (lv_at hl 0 rfl) ?_
  refine lv_iadd hx hb dL_law_49 ?_
  refine zt_i (y := nI 1) (by decide) ?_
  refine lv_iconst (v := nI 1) hx hb dL_law_50 (by decide) ?_
  have hPL := hP.app hPm
  refine va_iast hx hb hK hPL (dwM hI hm9 hAw hAm ..) (zz_Sr hS) 20 0 rfl rfl (vp_in_nI (n := 1) (by decide) (by decide)) dL_law_51 (fun H locs hPL _ hS1 => ?_)
  have hP : va_P (dC, dI) vwCl (wC cI cZ ad sm fe ex dy gp gc op gr st dl wo 0 yc ya ys yd 0 zc zp zr zs zf z zm zt) H := hPL.sub [0, 1, 2, 3, 4, 5, 6, 7, 8, 9, 10, 11, 12, 13, 14, 15, 16, 17, 18, 19] rfl
  have hPm : va_P (dC, dI) vwCl [(m9, .inl (cI, 11, .inl (upd mf (nI 1).toNatClampNeg (nI 1))))] H := hPL.sub [20] rfl
  have hS := zz_St hS hS1
  have hz := hS1.1
  clear hS1 hPL
  have hz9 : s.heap.size + 0 ≤ H.size := by omega
  clear hz
  generalize upd mf (nI 1).toNatClampNeg (nI 1) = mf at hPm
  refine lv_aload_n hx hb dL_law_52 rfl (lv_at hl 3 rfl) ?_
  refine lv_bipush (v := nI 6) hx hb dL_law_53 (by decide) ?_
  refine lv_iload hx hb dL_law_55 (lv_at hl 0 rfl) ?_
  refine lv_iadd hx hb dL_law_57 ?_
  refine zt_i (y := nI 6) (by decide) ?_
  refine lv_ldc hx hb hown hk141 dL_law_58 ?_
  refine zt_i (y := nI 1000000) rfl ?_
  have hPL := hP.app hPm
  refine va_iast hx hb hK hPL (dwM hI hm9 hAw hAm ..) (zz_Sr hS) 20 0 rfl rfl (vp_in_nI (n := 6) (by decide) (by decide)) dL_law_60 (fun H locs hPL _ hS1 => ?_)
  have hP : va_P (dC, dI) vwCl (wC cI cZ ad sm fe ex dy gp gc op gr st dl wo 0 yc ya ys yd 0 zc zp zr zs zf z zm zt) H := hPL.sub [0, 1, 2, 3, 4, 5, 6, 7, 8, 9, 10, 11, 12, 13, 14, 15, 16, 17, 18, 19] rfl
  have hPm : va_P (dC, dI) vwCl [(m9, .inl (cI, 11, .inl (upd mf (nI 6).toNatClampNeg (nI 1000000))))] H := hPL.sub [20] rfl
  have hS := zz_St hS hS1
  have hz := hS1.1
  clear hS1 hPL
  have hz9 : s.heap.size + 0 ≤ H.size := by omega
  clear hz
  generalize upd mf (nI 6).toNatClampNeg (nI 1000000) = mf at hPm
  refine lv_iinc (v := nI 1) (lv' := [(7, .int (nI 1)), (0, .ref b), (1, .ref (ad 0)), (2, .ref m9), (3, .ref w1), (4, .ref w2), (5, .ref w3), (6, .ref w4)]) hx hb dL_law_61 hl (k := 0) rfl (zz_inc _) (by decide) rfl (fun ls hl => ?_)
  refine lv_goto (tgt := 39) hx hb dL_law_64 (by decide) ?_
  refine lv_iload hx hb dL_law_39 (lv_at hl 0 rfl) ?_
  refine lv_iconst (v := nI 5) hx hb dL_law_41 (by decide) ?_
  refine zb_ge (tgt := 67) hx hb (by decide) (by decide) dL_law_42 (by decide) (fun c_42_1 => (show False by omega).elim) (fun c_42_1 => ?_)
  refine lv_aload_n hx hb dL_law_45 rfl (lv_at hl 3 rfl) ?_
  refine lv_iconst (v := nI 1) hx hb dL_law_46 (by decide) ?_
  refine lv_iload hx hb dL_law_47 (lv_at hl 0 rfl) ?_
  refine lv_iadd hx hb dL_law_49 ?_
  refine zt_i (y := nI 2) (by decide) ?_
  refine lv_iconst (v := nI 1) hx hb dL_law_50 (by decide) ?_
  have hPL := hP.app hPm
  refine va_iast hx hb hK hPL (dwM hI hm9 hAw hAm ..) (zz_Sr hS) 20 0 rfl rfl (vp_in_nI (n := 2) (by decide) (by decide)) dL_law_51 (fun H locs hPL _ hS1 => ?_)
  have hP : va_P (dC, dI) vwCl (wC cI cZ ad sm fe ex dy gp gc op gr st dl wo 0 yc ya ys yd 0 zc zp zr zs zf z zm zt) H := hPL.sub [0, 1, 2, 3, 4, 5, 6, 7, 8, 9, 10, 11, 12, 13, 14, 15, 16, 17, 18, 19] rfl
  have hPm : va_P (dC, dI) vwCl [(m9, .inl (cI, 11, .inl (upd mf (nI 2).toNatClampNeg (nI 1))))] H := hPL.sub [20] rfl
  have hS := zz_St hS hS1
  have hz := hS1.1
  clear hS1 hPL
  have hz9 : s.heap.size + 0 ≤ H.size := by omega
  clear hz
  generalize upd mf (nI 2).toNatClampNeg (nI 1) = mf at hPm
  refine lv_aload_n hx hb dL_law_52 rfl (lv_at hl 3 rfl) ?_
  refine lv_bipush (v := nI 6) hx hb dL_law_53 (by decide) ?_
  refine lv_iload hx hb dL_law_55 (lv_at hl 0 rfl) ?_
  refine lv_iadd hx hb dL_law_57 ?_
  refine zt_i (y := nI 7) (by decide) ?_
  refine lv_ldc hx hb hown hk141 dL_law_58 ?_
  refine zt_i (y := nI 1000000) rfl ?_
  have hPL := hP.app hPm
  refine va_iast hx hb hK hPL (dwM hI hm9 hAw hAm ..) (zz_Sr hS) 20 0 rfl rfl (vp_in_nI (n := 7) (by decide) (by decide)) dL_law_60 (fun H locs hPL _ hS1 => ?_)
  have hP : va_P (dC, dI) vwCl (wC cI cZ ad sm fe ex dy gp gc op gr st dl wo 0 yc ya ys yd 0 zc zp zr zs zf z zm zt) H := hPL.sub [0, 1, 2, 3, 4, 5, 6, 7, 8, 9, 10, 11, 12, 13, 14, 15, 16, 17, 18, 19] rfl
  have hPm : va_P (dC, dI) vwCl [(m9, .inl (cI, 11, .inl (upd mf (nI 7).toNatClampNeg (nI 1000000))))] H := hPL.sub [20] rfl
  have hS := zz_St hS hS1
  have hz := hS1.1
  clear hS1 hPL
  have hz9 : s.heap.size + 0 ≤ H.size := by omega
  clear hz
  generalize upd mf (nI 7).toNatClampNeg (nI 1000000) = mf at hPm
  refine lv_iinc (v := nI 2) (lv' := [(7, .int (nI 2)), (0, .ref b), (1, .ref (ad 0)), (2, .ref m9), (3, .ref w1), (4, .ref w2), (5, .ref w3), (6, .ref w4)]) hx hb dL_law_61 hl (k := 0) rfl (zz_inc _) (by decide) rfl (fun ls hl => ?_)
  refine lv_goto (tgt := 39) hx hb dL_law_64 (by decide) ?_
  refine lv_iload hx hb dL_law_39 (lv_at hl 0 rfl) ?_
  refine lv_iconst (v := nI 5) hx hb dL_law_41 (by decide) ?_
  refine zb_ge (tgt := 67) hx hb (by decide) (by decide) dL_law_42 (by decide) (fun c_42_2 => (show False by omega).elim) (fun c_42_2 => ?_)
  refine lv_aload_n hx hb dL_law_45 rfl (lv_at hl 3 rfl) ?_
  refine lv_iconst (v := nI 1) hx hb dL_law_46 (by decide) ?_
  refine lv_iload hx hb dL_law_47 (lv_at hl 0 rfl) ?_
  refine lv_iadd hx hb dL_law_49 ?_
  refine zt_i (y := nI 3) (by decide) ?_
  refine lv_iconst (v := nI 1) hx hb dL_law_50 (by decide) ?_
  have hPL := hP.app hPm
  refine va_iast hx hb hK hPL (dwM hI hm9 hAw hAm ..) (zz_Sr hS) 20 0 rfl rfl (vp_in_nI (n := 3) (by decide) (by decide)) dL_law_51 (fun H locs hPL _ hS1 => ?_)
  have hP : va_P (dC, dI) vwCl (wC cI cZ ad sm fe ex dy gp gc op gr st dl wo 0 yc ya ys yd 0 zc zp zr zs zf z zm zt) H := hPL.sub [0, 1, 2, 3, 4, 5, 6, 7, 8, 9, 10, 11, 12, 13, 14, 15, 16, 17, 18, 19] rfl
  have hPm : va_P (dC, dI) vwCl [(m9, .inl (cI, 11, .inl (upd mf (nI 3).toNatClampNeg (nI 1))))] H := hPL.sub [20] rfl
  have hS := zz_St hS hS1
  have hz := hS1.1
  clear hS1 hPL
  have hz9 : s.heap.size + 0 ≤ H.size := by omega
  clear hz
  generalize upd mf (nI 3).toNatClampNeg (nI 1) = mf at hPm
  refine lv_aload_n hx hb dL_law_52 rfl (lv_at hl 3 rfl) ?_
  refine lv_bipush (v := nI 6) hx hb dL_law_53 (by decide) ?_
  refine lv_iload hx hb dL_law_55 (lv_at hl 0 rfl) ?_
  refine lv_iadd hx hb dL_law_57 ?_
  refine zt_i (y := nI 8) (by decide) ?_
  refine lv_ldc hx hb hown hk141 dL_law_58 ?_
  refine zt_i (y := nI 1000000) rfl ?_
  have hPL := hP.app hPm
  refine va_iast hx hb hK hPL (dwM hI hm9 hAw hAm ..) (zz_Sr hS) 20 0 rfl rfl (vp_in_nI (n := 8) (by decide) (by decide)) dL_law_60 (fun H locs hPL _ hS1 => ?_)
  have hP : va_P (dC, dI) vwCl (wC cI cZ ad sm fe ex dy gp gc op gr st dl wo 0 yc ya ys yd 0 zc zp zr zs zf z zm zt) H := hPL.sub [0, 1, 2, 3, 4, 5, 6, 7, 8, 9, 10, 11, 12, 13, 14, 15, 16, 17, 18, 19] rfl
  have hPm : va_P (dC, dI) vwCl [(m9, .inl (cI, 11, .inl (upd mf (nI 8).toNatClampNeg (nI 1000000))))] H := hPL.sub [20] rfl
  have hS := zz_St hS hS1
  have hz := hS1.1
  clear hS1 hPL
  have hz9 : s.heap.size + 0 ≤ H.size := by omega
  clear hz
  generalize upd mf (nI 8).toNatClampNeg (nI 1000000) = mf at hPm
  refine lv_iinc (v := nI 3) (lv' := [(7, .int (nI 3)), (0, .ref b), (1, .ref (ad 0)), (2, .ref m9), (3, .ref w1), (4, .ref w2), (5, .ref w3), (6, .ref w4)]) hx hb dL_law_61 hl (k := 0) rfl (zz_inc _) (by decide) rfl (fun ls hl => ?_)
  refine lv_goto (tgt := 39) hx hb dL_law_64 (by decide) ?_
  refine lv_iload hx hb dL_law_39 (lv_at hl 0 rfl) ?_
  refine lv_iconst (v := nI 5) hx hb dL_law_41 (by decide) ?_
  refine zb_ge (tgt := 67) hx hb (by decide) (by decide) dL_law_42 (by decide) (fun c_42_3 => (show False by omega).elim) (fun c_42_3 => ?_)
  refine lv_aload_n hx hb dL_law_45 rfl (lv_at hl 3 rfl) ?_
  refine lv_iconst (v := nI 1) hx hb dL_law_46 (by decide) ?_
  refine lv_iload hx hb dL_law_47 (lv_at hl 0 rfl) ?_
  refine lv_iadd hx hb dL_law_49 ?_
  refine zt_i (y := nI 4) (by decide) ?_
  refine lv_iconst (v := nI 1) hx hb dL_law_50 (by decide) ?_
  have hPL := hP.app hPm
  refine va_iast hx hb hK hPL (dwM hI hm9 hAw hAm ..) (zz_Sr hS) 20 0 rfl rfl (vp_in_nI (n := 4) (by decide) (by decide)) dL_law_51 (fun H locs hPL _ hS1 => ?_)
  have hP : va_P (dC, dI) vwCl (wC cI cZ ad sm fe ex dy gp gc op gr st dl wo 0 yc ya ys yd 0 zc zp zr zs zf z zm zt) H := hPL.sub [0, 1, 2, 3, 4, 5, 6, 7, 8, 9, 10, 11, 12, 13, 14, 15, 16, 17, 18, 19] rfl
  have hPm : va_P (dC, dI) vwCl [(m9, .inl (cI, 11, .inl (upd mf (nI 4).toNatClampNeg (nI 1))))] H := hPL.sub [20] rfl
  have hS := zz_St hS hS1
  have hz := hS1.1
  clear hS1 hPL
  have hz9 : s.heap.size + 0 ≤ H.size := by omega
  clear hz
  generalize upd mf (nI 4).toNatClampNeg (nI 1) = mf at hPm
  refine lv_aload_n hx hb dL_law_52 rfl (lv_at hl 3 rfl) ?_
  refine lv_bipush (v := nI 6) hx hb dL_law_53 (by decide) ?_
  refine lv_iload hx hb dL_law_55 (lv_at hl 0 rfl) ?_
  refine lv_iadd hx hb dL_law_57 ?_
  refine zt_i (y := nI 9) (by decide) ?_
  refine lv_ldc hx hb hown hk141 dL_law_58 ?_
  refine zt_i (y := nI 1000000) rfl ?_
  have hPL := hP.app hPm
  refine va_iast hx hb hK hPL (dwM hI hm9 hAw hAm ..) (zz_Sr hS) 20 0 rfl rfl (vp_in_nI (n := 9) (by decide) (by decide)) dL_law_60 (fun H locs hPL _ hS1 => ?_)
  have hP : va_P (dC, dI) vwCl (wC cI cZ ad sm fe ex dy gp gc op gr st dl wo 0 yc ya ys yd 0 zc zp zr zs zf z zm zt) H := hPL.sub [0, 1, 2, 3, 4, 5, 6, 7, 8, 9, 10, 11, 12, 13, 14, 15, 16, 17, 18, 19] rfl
  have hPm : va_P (dC, dI) vwCl [(m9, .inl (cI, 11, .inl (upd mf (nI 9).toNatClampNeg (nI 1000000))))] H := hPL.sub [20] rfl
  have hS := zz_St hS hS1
  have hz := hS1.1
  clear hS1 hPL
  have hz9 : s.heap.size + 0 ≤ H.size := by omega
  clear hz
  generalize upd mf (nI 9).toNatClampNeg (nI 1000000) = mf at hPm
  refine lv_iinc (v := nI 4) (lv' := [(7, .int (nI 4)), (0, .ref b), (1, .ref (ad 0)), (2, .ref m9), (3, .ref w1), (4, .ref w2), (5, .ref w3), (6, .ref w4)]) hx hb dL_law_61 hl (k := 0) rfl (zz_inc _) (by decide) rfl (fun ls hl => ?_)
  refine lv_goto (tgt := 39) hx hb dL_law_64 (by decide) ?_
  refine lv_iload hx hb dL_law_39 (lv_at hl 0 rfl) ?_
  refine lv_iconst (v := nI 5) hx hb dL_law_41 (by decide) ?_
  refine zb_ge (tgt := 67) hx hb (by decide) (by decide) dL_law_42 (by decide) (fun c_42_4 => (show False by omega).elim) (fun c_42_4 => ?_)
  refine lv_aload_n hx hb dL_law_45 rfl (lv_at hl 3 rfl) ?_
  refine lv_iconst (v := nI 1) hx hb dL_law_46 (by decide) ?_
  refine lv_iload hx hb dL_law_47 (lv_at hl 0 rfl) ?_
  refine lv_iadd hx hb dL_law_49 ?_
  refine zt_i (y := nI 5) (by decide) ?_
  refine lv_iconst (v := nI 1) hx hb dL_law_50 (by decide) ?_
  have hPL := hP.app hPm
  refine va_iast hx hb hK hPL (dwM hI hm9 hAw hAm ..) (zz_Sr hS) 20 0 rfl rfl (vp_in_nI (n := 5) (by decide) (by decide)) dL_law_51 (fun H locs hPL _ hS1 => ?_)
  have hP : va_P (dC, dI) vwCl (wC cI cZ ad sm fe ex dy gp gc op gr st dl wo 0 yc ya ys yd 0 zc zp zr zs zf z zm zt) H := hPL.sub [0, 1, 2, 3, 4, 5, 6, 7, 8, 9, 10, 11, 12, 13, 14, 15, 16, 17, 18, 19] rfl
  have hPm : va_P (dC, dI) vwCl [(m9, .inl (cI, 11, .inl (upd mf (nI 5).toNatClampNeg (nI 1))))] H := hPL.sub [20] rfl
  have hS := zz_St hS hS1
  have hz := hS1.1
  clear hS1 hPL
  have hz9 : s.heap.size + 0 ≤ H.size := by omega
  clear hz
  generalize upd mf (nI 5).toNatClampNeg (nI 1) = mf at hPm
  refine lv_aload_n hx hb dL_law_52 rfl (lv_at hl 3 rfl) ?_
  refine lv_bipush (v := nI 6) hx hb dL_law_53 (by decide) ?_
  refine lv_iload hx hb dL_law_55 (lv_at hl 0 rfl) ?_
  refine lv_iadd hx hb dL_law_57 ?_
  refine zt_i (y := nI 10) (by decide) ?_
  refine lv_ldc hx hb hown hk141 dL_law_58 ?_
  refine zt_i (y := nI 1000000) rfl ?_
  have hPL := hP.app hPm
  refine va_iast hx hb hK hPL (dwM hI hm9 hAw hAm ..) (zz_Sr hS) 20 0 rfl rfl (vp_in_nI (n := 10) (by decide) (by decide)) dL_law_60 (fun H locs hPL _ hS1 => ?_)
  have hP : va_P (dC, dI) vwCl (wC cI cZ ad sm fe ex dy gp gc op gr st dl wo 0 yc ya ys yd 0 zc zp zr zs zf z zm zt) H := hPL.sub [0, 1, 2, 3, 4, 5, 6, 7, 8, 9, 10, 11, 12, 13, 14, 15, 16, 17, 18, 19] rfl
  have hPm : va_P (dC, dI) vwCl [(m9, .inl (cI, 11, .inl (upd mf (nI 10).toNatClampNeg (nI 1000000))))] H := hPL.sub [20] rfl
  have hS := zz_St hS hS1
  have hz := hS1.1
  clear hS1 hPL
  have hz9 : s.heap.size + 0 ≤ H.size := by omega
  clear hz
  generalize upd mf (nI 10).toNatClampNeg (nI 1000000) = mf at hPm
  refine lv_iinc (v := nI 5) (lv' := [(7, .int (nI 5)), (0, .ref b), (1, .ref (ad 0)), (2, .ref m9), (3, .ref w1), (4, .ref w2), (5, .ref w3), (6, .ref w4)]) hx hb dL_law_61 hl (k := 0) rfl (zz_inc _) (by decide) rfl (fun ls hl => ?_)
  refine lv_goto (tgt := 39) hx hb dL_law_64 (by decide) ?_
  refine lv_iload hx hb dL_law_39 (lv_at hl 0 rfl) ?_
  refine lv_iconst (v := nI 5) hx hb dL_law_41 (by decide) ?_
  refine zb_ge (tgt := 67) hx hb (by decide) (by decide) dL_law_42 (by decide) (fun c_42_5 => ?_) (fun c_42_5 => (show False by omega).elim)
  refine lv_aload_n hx hb dL_law_67 rfl (lv_at hl 2 rfl) ?_
  refine lv_aload_n hx hb dL_law_68 rfl (lv_at hl 4 rfl) ?_
  refine lv_iconst (v := nI 0) hx hb dL_law_69 (by decide) ?_
  refine k_isRefused_0 l hfl w1 hx hb hml hown hts hK hP gL_law_L_isRefused ⟨Nat.le_of_ble_eq_true rfl, Nat.le_of_ble_eq_true rfl⟩ ⟨Nat.le_of_ble_eq_true rfl, Nat.le_of_ble_eq_true rfl⟩ hl.1 (Nat.le_of_ble_eq_true rfl) dL_law_70 ((hT0.kept hS.2.1).narrow (fun _ h => h.elim)) hN hS (fun H locs hS hz hk => ?_)
  have hP := hP.kept (fun k q h => hk q.1 (hP k q h).lt)
  have hPm := zz_ko hPm (hk _ (zz_lt hPm))
  have hz9 : s.heap.size + 28 ≤ H.size := by omega
  clear hz
  refine W.widen (k := 53) (n := 996) (Nat.le_refl _) (Nat.le_refl _) ?_
  refine zi_eq (tgt := 89) hx hb (by decide) dL_law_73 (by decide) (fun c_73 => (show False by omega).elim) (fun c_73 => ?_)
  refine lv_aload_n hx hb dL_law_76 rfl (lv_at hl 2 rfl) ?_
  refine lv_aload_n hx hb dL_law_77 rfl (lv_at hl 4 rfl) ?_
  refine lv_iconst (v := nI 1) hx hb dL_law_78 (by decide) ?_
  refine k_isRefused_1 l hfl w1 hx hb hml hown hts hK hP gL_law_L_isRefused ⟨Nat.le_of_ble_eq_true rfl, Nat.le_of_ble_eq_true rfl⟩ ⟨Nat.le_of_ble_eq_true rfl, Nat.le_of_ble_eq_true rfl⟩ hl.1 (Nat.le_of_ble_eq_true rfl) dL_law_79 ((hT0.kept hS.2.1).narrow (fun _ h => h.elim)) hN hS (fun H locs hS hz hk => ?_)
  have hP := hP.kept (fun k q h => hk q.1 (hP k q h).lt)
  have hPm := zz_ko hPm (hk _ (zz_lt hPm))
  have hz9 : s.heap.size + 56 ≤ H.size := by omega
  clear hz
  refine W.widen (k := 81) (n := 1164) (Nat.le_refl _) (Nat.le_refl _) ?_
  refine zi_eq (tgt := 89) hx hb (by decide) dL_law_82 (by decide) (fun c_82 => (show False by omega).elim) (fun c_82 => ?_)
  refine lv_iconst (v := nI 1) hx hb dL_law_85 (by decide) ?_
  refine lv_goto (tgt := 90) hx hb dL_law_86 (by decide) ?_
  refine lv_istore (lv' := [(7, .int (nI 1)), (0, .ref b), (1, .ref (ad 0)), (2, .ref m9), (3, .ref w1), (4, .ref w2), (5, .ref w3), (6, .ref w4)]) hx hb dL_law_90 hl (by decide) rfl (fun ls hl => ?_)
  refine lv_iconst (v := nI 0) hx hb dL_law_92 (by decide) ?_
  refine lv_istore (lv' := [(8, .int (nI 0)), (7, .int (nI 1)), (0, .ref b), (1, .ref (ad 0)), (2, .ref m9), (3, .ref w1), (4, .ref w2), (5, .ref w3), (6, .ref w4)]) hx hb dL_law_93 hl (by decide) rfl (fun ls hl => ?_)
  exact rz_loop l hfl C0 hI hm9 hAw hAm hK hT0 hN 100 0 (by omega) _ _ _ _ _ _ _ _ _ _ _ _ _ _ _ _ _ _ _ _ _ _ _ mf H _ _ _ ⟨by decide, by decide⟩ hz9 hP hPm hS ls (lv_sub hl [0, 1, 2, 3, 4, 5, 6, 7, 8] rfl)
set_option maxHeartbeats 4000000 in
set_option maxRecDepth 100000 in
theorem rz_start {p : Program} {e : Env} {s : State} {m : MethodId} {below : List Frame} {meth : Method} {c : Code} (l : Launch) (hflags : l.flags = flags0) {b : Nat} (C0 : rz_At p s m meth c b 100 (fun _ => nI 0)) : W p l e room_B s m #[Value.ref b] below meth c s.heap [] 0 0 (rz_Z below #[Value.ref b] s) (entryFrame m ([Value.ref b] : List Value).toArray 19) := by
  have hfl : l.stackTraces = false := by unfold Launch.stackTraces; rw [hflags]; decide +kernel
  obtain ⟨hx, hb, hr, hml, hown, hts0, hX, hbl, hlocks, hgv⟩ := id C0
  have hts : ∀ w ∈ wsL_law, w.before #[Value.ref b] s = true := fun w hw => hts0 w (wsL_law_in w hw)
  have hown : s.vm.findClass RL = some m.cls := hown
  have hns := flat_of_before _ hgv
  have hA : ∀ q : Nat, s.heap.size ≤ q → (fun q : Nat => s.heap.size ≤ q) q := fun _ h => h
  have hbA : ∀ a : Nat, a < s.heap.size → ¬ (fun q : Nat => s.heap.size ≤ q) a := fun _ h => Nat.not_le.mpr h
  obtain ⟨k0, iS0, hKn0⟩ := u_known (C := RX0) (T := TX0) (N := 6) (n := 6) hts (by decide +kernel) (hts (.instantiable RX0 6) (by decide +kernel))
  obtain ⟨k1, iS1, hKn1⟩ := u_known (C := RX1) (T := TX1) (N := 5) (n := 5) hts (by decide +kernel) (hts (.instantiable RX1 5) (by decide +kernel))
  obtain ⟨k2, iS2, hKn2⟩ := u_known (C := RX2) (T := TX2) (N := 8) (n := 8) hts (by decide +kernel) (hts (.instantiable RX2 8) (by decide +kernel))
  obtain ⟨k3, iS3, hKn3⟩ := u_known (C := RX3) (T := TX3) (N := 9) (n := 9) hts (by decide +kernel) (hts (.instantiable RX3 9) (by decide +kernel))
  obtain ⟨dC, dI, hKc⟩ : ∃ (dC : Nat → ClassId) (dI : Nat → Nat → Nat), ∀ (k : Nat) (q : vw_C), vwCl[k]? = some q → u_Kn s q.1 q.2.1 q.2.2 (dC k) (dI k) := by
    refine ⟨fun k => [k0, k1, k2, k3].getD k k0, fun k => [iS0, iS1, iS2, iS3].getD k iS0, ?_⟩
    intro k q hq
    match k, hq with
    | 0, hq => cases hq; exact hKn0
    | 1, hq => cases hq; exact hKn1
    | 2, hq => cases hq; exact hKn2
    | 3, hq => cases hq; exact hKn3
    | k + 4, hq => cases hq
  have hT0 : tX (fun q => s.heap.size ≤ q) s s.heap := by
    refine ⟨⟨vx_Zqof (hts0 _ (show Cond.laysStatic Bundle.tN "UNASSIGNED_STACK" Bundle.steD ∈ lw_tbl by decide +kernel)) (hts0 _ (show Cond.initialized Bundle.tN ∈ lw_tbl by decide +kernel)) (hns _ (show Cond.isRef (.static Bundle.tN "UNASSIGNED_STACK" Bundle.steD) ∈ _ by decide +kernel)) hbA, vx_Zqof (hts0 _ (show Cond.laysStatic Bundle.tN "SUPPRESSED_SENTINEL" Bundle.listD ∈ lw_tbl by decide +kernel)) (hts0 _ (show Cond.initialized Bundle.tN ∈ lw_tbl by decide +kernel)) (hns _ (show Cond.isRef (.static Bundle.tN "SUPPRESSED_SENTINEL" Bundle.listD) ∈ _ by decide +kernel)) hbA⟩, ⟨va_Nw.of rfl (hts0 _ (show Cond.castable "java/lang/IllegalArgumentException" "java/lang/IllegalArgumentException" ∈ lw_tbl by decide +kernel)), va_Nw.of rfl (hts0 _ (show Cond.castable "java/lang/IllegalStateException" "java/lang/IllegalStateException" ∈ lw_tbl by decide +kernel)), va_Nw.of rfl (hts0 _ (show Cond.castable "java/lang/IndexOutOfBoundsException" "java/lang/IndexOutOfBoundsException" ∈ lw_tbl by decide +kernel))⟩, ⟨va_Nw.of rfl (hts0 _ (show Cond.declares (Bundle.initS "java/lang/RuntimeException") ∈ lw_tbl by decide +kernel)), va_Nw.of rfl (hts0 _ (show Cond.declares (Bundle.initS "java/lang/Exception") ∈ lw_tbl by decide +kernel)), va_Nw.of rfl (hts0 _ (show Cond.declares (Bundle.initS Bundle.tN) ∈ lw_tbl by decide +kernel))⟩, ?_⟩
    intro x hx9
    have h1 : ∀ x ∈ xStr, Cond.stringRef RX3 x.1 x.2 ∈ lw_tbl := by decide +kernel
    have h2 : ∀ x ∈ xStr, Cond.exactly (.string RX3 x.1) "java/lang/String" ∈ flatC (Jvm.Cond.and given_1 narrow_1) := by decide +kernel
    obtain ⟨a, c, cell, k, q1, -⟩ := Cond.exactly_spec (args := #[Value.ref b]) (first := s) (o := none) (s := s) (idx := []) (t := .string RX3 x.1) (cls := "java/lang/String") (hns _ (h2 x hx9))
    exact ⟨a, vk_R.of (hts0 _ (h1 x hx9)) q1⟩
  have hN : tN s := ⟨⟨va_Nc.of (hns _ (show Cond.not (.castable "java/lang/IllegalArgumentException" "java/lang/IllegalStateException") ∈ _ by decide +kernel)), va_Nc.of (hns _ (show Cond.not (.castable "java/lang/IllegalArgumentException" "java/lang/IndexOutOfBoundsException") ∈ _ by decide +kernel))⟩, ⟨va_Nc.of (hns _ (show Cond.not (.castable "java/lang/IllegalStateException" "java/lang/IllegalArgumentException") ∈ _ by decide +kernel)), va_Nc.of (hns _ (show Cond.not (.castable "java/lang/IllegalStateException" "java/lang/IndexOutOfBoundsException") ∈ _ by decide +kernel))⟩, ⟨va_Nc.of (hns _ (show Cond.not (.castable "java/lang/IndexOutOfBoundsException" "java/lang/IllegalArgumentException") ∈ _ by decide +kernel)), va_Nc.of (hns _ (show Cond.not (.castable "java/lang/IndexOutOfBoundsException" "java/lang/IllegalStateException") ∈ _ by decide +kernel))⟩⟩
  have hn25 : va_Nw (.methodLinkNest RX3 25 yX1_init RX3) s := va_Nw.of rfl (hts0 _ (show Cond.methodLinkNest RX3 25 yX1_init RX3 ∈ lw_tbl by decide +kernel))
  have hn32 : va_Nw (.methodLinkNest RX3 32 yX2_init RX3) s := va_Nw.of rfl (hts0 _ (show Cond.methodLinkNest RX3 32 yX2_init RX3 ∈ lw_tbl by decide +kernel))
  have hS : va_S (fun q : Nat => s.heap.size ≤ q) s.heap s.heap [] := va_S.rf
  have hK : va_K (dC, dI) vwCl [] s := ⟨hKc, fun k q h => by cases h⟩
  have hP : va_P (dC, dI) vwCl [] s.heap := fun k q h => by cases h
  have hD : va_D (fun q : Nat => s.heap.size ≤ q) [] := ⟨fun i j p q h => (by cases h), fun k q h => (by cases h)⟩
  have hl := lv_entry ([.ref b]) (n := 19) (Nat.le_of_ble_eq_true rfl)
  rw [lg_entry_eq]
  generalize (lg_sl ([.ref b]) ++ List.replicate (19 - (lg_sl ([.ref b])).length) Slot.unset).toArray = ls at hl ⊢
  have hl : lv_has ls 19 [(0, .ref b)] := hl
  refine va_new (ci := 3) (fs := [.int 0, .int 0, .int 0, .int 0, .null, .null, .null, .null, .null]) (C := RX3) (T := TX3) (N := 9) hx hb hts (by decide +kernel) tyX3 tyX3_ok hown (hts (.classLink RL 10 RX3) (by decide +kernel)) (hts (.instantiable RX3 9) (by decide +kernel)) (hts (.initialized RX3) (by decide +kernel)) hK hP hD hS hA rfl (by decide) (Nat.le_of_ble_eq_true rfl) (Nat.le_of_ble_eq_true rfl) dL_law_0 (fun qc H hP hD hS => ?_)
  have hP : va_P (dC, dI) vwCl [(qc, .inr (3, [.int 0, .int 0, .int 0, .int 0, .null, .null, .null, .null, .null]))] H := hP
  have hD : va_D (fun q : Nat => s.heap.size ≤ q) [(qc, .inr (3, [.int 0, .int 0, .int 0, .int 0, .null, .null, .null, .null, .null]))] := hD
  refine W.widen (k := 1) (n := 9) (Nat.le_refl _) (Nat.le_refl _) ?_
  refine lv_dup hx hb dL_law_3 rfl ?_
  have hPc := hP.sub (ws' := [(qc, .inr (3, [.int 0, .int 0, .int 0, .int 0, .null, .null, .null, .null, .null]))]) [0] rfl
  have hDc := hD.sub (ws' := [(qc, .inr (3, [.int 0, .int 0, .int 0, .int 0, .null, .null, .null, .null, .null]))]) [0] (by decide) rfl
  have hKc := hK.sub (tys' := []) [] rfl
  have hFc := va_free (wc := [(qc, .inr (3, [.int 0, .int 0, .int 0, .int 0, .null, .null, .null, .null, .null]))]) hD hS hA [0] rfl
  refine va_callv (va_runI (As := []) (rest := [.ref qc]) ⟨hx, hb, hml, hown, hts⟩ (c_X3_init l dC dI qc H.size) (cwI 0 hts gL_law_X3_init rfl rfl rfl (hts (.initialized RX3) (by decide +kernel)) (hts (.methodLink RL 140 yX3_init) (by decide +kernel)) (hts (.instanceMethod yX3_init) (by decide +kernel)) rfl (by decide +kernel) ⟨Nat.le_of_ble_eq_true rfl, Nat.le_of_ble_eq_true rfl⟩) ⟨fun a U g mk q => by obtain ⟨q0, q1, qP, qK, qD, qa, qb⟩ := q; exact ⟨q0, q1, qP, va_K.moved (u := U) (U := U.calling g mk a) (Vm.Alike.refl U.vm) qK, qD, va_Nw.same (u := U) (U := U.calling g mk a) rfl rfl qa, va_Nw.same (u := U) (U := U.calling g mk a) rfl rfl qb⟩, fun U hU hW => ⟨rfl, by rw [hU], by rw [hU]; exact hPc, va_K.moved hW.alike hKc, hDc.weaken (fun _ _ _ _ => trivial), va_Nw.warmM hW hn25, va_Nw.warmM hW hn32⟩⟩ rfl rfl hl.1 rfl (lv_room (Nat.le_of_ble_eq_true rfl)) dL_law_4 ⟨Nat.le_of_ble_eq_true rfl, Nat.le_of_ble_eq_true rfl⟩) hS (fun q _ h => hFc q h) hFc (fun u t H1 locs ht hvm _ hB hz1 hk1 hS => ?_)
  obtain ⟨fc, cI, cZ⟩ := u
  obtain ⟨hP1, hK1, hD1⟩ := hB
  rw [ht] at hP1
  have hK1 := va_K.moved hvm.symm hK1
  try dsimp only at hP1 hK1 hD1
  obtain ⟨hP, hD⟩ := va_join (wr := []) (w1 := [(qc, .inr (3, [.int 0, .int 0, .int 0, .int 0, .ref (fc 1), .ref (fc 2), .ref (fc 3), .ref (fc 9), .ref (fc 14)])), ((fc 1), .inl (cI, 5, .inl (mixF (fun _ => nI 1) (fun _ => 0) 5))), ((fc 2), .inl (cI, 5, .inl (mixF (fun _ => nI 1000000) (fun _ => 0) 5))), ((fc 3), .inr (0, [.ref (fc 4), .ref (fc 5), .ref (fc 6), .ref (fc 7), .ref (fc 8), .int 0])), ((fc 4), .inl (cI, 30, .inl (mixF (fun _ => (-1)) (fun _ => 0) 30))), ((fc 5), .inl (cI, 24, .inl (fun _ => 0))), ((fc 6), .inl (cI, 24, .inl (fun _ => 0))), ((fc 7), .inl (cI, 24, .inl (fun _ => 0))), ((fc 8), .inl (cZ, 24, .inl (fun _ => 0))), ((fc 9), .inr (1, [.ref (fc 10), .ref (fc 11), .ref (fc 12), .ref (fc 13), .int 0])), ((fc 10), .inl (cI, 100, .inl (fun _ => 0))), ((fc 11), .inl (cI, 100, .inl (fun _ => 0))), ((fc 12), .inl (cI, 100, .inl (fun _ => 0))), ((fc 13), .inl (cI, 100, .inl (fun _ => 0))), ((fc 14), .inr (2, [.ref (fc 15), .ref (fc 16), .ref (fc 17), .ref (fc 18), .ref (fc 19), .int 0, .long 0, .long 0])), ((fc 15), .inl (cI, 24, .inl (fun _ => 0))), ((fc 16), .inl (cI, 24, .inl (fun _ => 0))), ((fc 17), .inl (cI, 24, .inl (fun _ => 0))), ((fc 18), .inl (cI, 24, .inl (fun _ => 0))), ((fc 19), .inl (cZ, 24, .inl (fun _ => 0)))]) hP hD [0] [] rfl rfl (by decide) (by decide) hk1 hFc hP1 hD1
  have hK : va_K (dC, dI) vwCl [(cI, .int), (cZ, .boolean)] s := hK1
  generalize H1 = H at hP hS ⊢
  have hP : va_P (dC, dI) vwCl [(qc, .inr (3, [.int 0, .int 0, .int 0, .int 0, .ref (fc 1), .ref (fc 2), .ref (fc 3), .ref (fc 9), .ref (fc 14)])), ((fc 1), .inl (cI, 5, .inl (mixF (fun _ => nI 1) (fun _ => 0) 5))), ((fc 2), .inl (cI, 5, .inl (mixF (fun _ => nI 1000000) (fun _ => 0) 5))), ((fc 3), .inr (0, [.ref (fc 4), .ref (fc 5), .ref (fc 6), .ref (fc 7), .ref (fc 8), .int 0])), ((fc 4), .inl (cI, 30, .inl (mixF (fun _ => (-1)) (fun _ => 0) 30))), ((fc 5), .inl (cI, 24, .inl (fun _ => 0))), ((fc 6), .inl (cI, 24, .inl (fun _ => 0))), ((fc 7), .inl (cI, 24, .inl (fun _ => 0))), ((fc 8), .inl (cZ, 24, .inl (fun _ => 0))), ((fc 9), .inr (1, [.ref (fc 10), .ref (fc 11), .ref (fc 12), .ref (fc 13), .int 0])), ((fc 10), .inl (cI, 100, .inl (fun _ => 0))), ((fc 11), .inl (cI, 100, .inl (fun _ => 0))), ((fc 12), .inl (cI, 100, .inl (fun _ => 0))), ((fc 13), .inl (cI, 100, .inl (fun _ => 0))), ((fc 14), .inr (2, [.ref (fc 15), .ref (fc 16), .ref (fc 17), .ref (fc 18), .ref (fc 19), .int 0, .long 0, .long 0])), ((fc 15), .inl (cI, 24, .inl (fun _ => 0))), ((fc 16), .inl (cI, 24, .inl (fun _ => 0))), ((fc 17), .inl (cI, 24, .inl (fun _ => 0))), ((fc 18), .inl (cI, 24, .inl (fun _ => 0))), ((fc 19), .inl (cZ, 24, .inl (fun _ => 0)))] H := hP
  have hD : va_D (fun q : Nat => s.heap.size ≤ q) [(qc, .inr (3, [.int 0, .int 0, .int 0, .int 0, .ref (fc 1), .ref (fc 2), .ref (fc 3), .ref (fc 9), .ref (fc 14)])), ((fc 1), .inl (cI, 5, .inl (mixF (fun _ => nI 1) (fun _ => 0) 5))), ((fc 2), .inl (cI, 5, .inl (mixF (fun _ => nI 1000000) (fun _ => 0) 5))), ((fc 3), .inr (0, [.ref (fc 4), .ref (fc 5), .ref (fc 6), .ref (fc 7), .ref (fc 8), .int 0])), ((fc 4), .inl (cI, 30, .inl (mixF (fun _ => (-1)) (fun _ => 0) 30))), ((fc 5), .inl (cI, 24, .inl (fun _ => 0))), ((fc 6), .inl (cI, 24, .inl (fun _ => 0))), ((fc 7), .inl (cI, 24, .inl (fun _ => 0))), ((fc 8), .inl (cZ, 24, .inl (fun _ => 0))), ((fc 9), .inr (1, [.ref (fc 10), .ref (fc 11), .ref (fc 12), .ref (fc 13), .int 0])), ((fc 10), .inl (cI, 100, .inl (fun _ => 0))), ((fc 11), .inl (cI, 100, .inl (fun _ => 0))), ((fc 12), .inl (cI, 100, .inl (fun _ => 0))), ((fc 13), .inl (cI, 100, .inl (fun _ => 0))), ((fc 14), .inr (2, [.ref (fc 15), .ref (fc 16), .ref (fc 17), .ref (fc 18), .ref (fc 19), .int 0, .long 0, .long 0])), ((fc 15), .inl (cI, 24, .inl (fun _ => 0))), ((fc 16), .inl (cI, 24, .inl (fun _ => 0))), ((fc 17), .inl (cI, 24, .inl (fun _ => 0))), ((fc 18), .inl (cI, 24, .inl (fun _ => 0))), ((fc 19), .inl (cZ, 24, .inl (fun _ => 0)))] := hD
  refine W.widen (k := 20) (n := 684) (Nat.le_refl _) (Nat.le_refl _) ?_
  refine lv_astore_n (lv' := [(1, .ref qc), (0, .ref b)]) hx hb dL_law_7 rfl hl (by decide) rfl (fun ls hl => ?_)
  refine lv_bipush (v := nI 11) hx hb dL_law_8 (by decide) ?_
  refine va_newa (atype := .int) (ty := .int) (N' := 11) (a0 := (11, .inl (fun _ => 0))) hx hb (hts (.arrayClass .int) (by decide +kernel)) rfl hK hP hD hS hA (fun _ => rfl) (by decide) (by decide) (Nat.le_of_ble_eq_true rfl) (Nat.le_of_ble_eq_true rfl) (Nat.le_of_ble_eq_true rfl) dL_law_10 (fun m9 cA9 H hK hP hD hS => ?_)
  have e9 : cI = cA9 := Option.some.inj ((show s.vm.findClass _ = some cI from (hK.2 0 _ rfl).2).symm.trans (show s.vm.findClass _ = some cA9 from (hK.2 2 _ rfl).2))
  subst e9
  have hK := hK.sub (tys' := [(cI, .int), (cZ, .boolean)]) [0, 1] rfl
  have hP : va_P (dC, dI) vwCl [(qc, .inr (3, [.int 0, .int 0, .int 0, .int 0, .ref (fc 1), .ref (fc 2), .ref (fc 3), .ref (fc 9), .ref (fc 14)])), ((fc 1), .inl (cI, 5, .inl (mixF (fun _ => nI 1) (fun _ => 0) 5))), ((fc 2), .inl (cI, 5, .inl (mixF (fun _ => nI 1000000) (fun _ => 0) 5))), ((fc 3), .inr (0, [.ref (fc 4), .ref (fc 5), .ref (fc 6), .ref (fc 7), .ref (fc 8), .int 0])), ((fc 4), .inl (cI, 30, .inl (mixF (fun _ => (-1)) (fun _ => 0) 30))), ((fc 5), .inl (cI, 24, .inl (fun _ => 0))), ((fc 6), .inl (cI, 24, .inl (fun _ => 0))), ((fc 7), .inl (cI, 24, .inl (fun _ => 0))), ((fc 8), .inl (cZ, 24, .inl (fun _ => 0))), ((fc 9), .inr (1, [.ref (fc 10), .ref (fc 11), .ref (fc 12), .ref (fc 13), .int 0])), ((fc 10), .inl (cI, 100, .inl (fun _ => 0))), ((fc 11), .inl (cI, 100, .inl (fun _ => 0))), ((fc 12), .inl (cI, 100, .inl (fun _ => 0))), ((fc 13), .inl (cI, 100, .inl (fun _ => 0))), ((fc 14), .inr (2, [.ref (fc 15), .ref (fc 16), .ref (fc 17), .ref (fc 18), .ref (fc 19), .int 0, .long 0, .long 0])), ((fc 15), .inl (cI, 24, .inl (fun _ => 0))), ((fc 16), .inl (cI, 24, .inl (fun _ => 0))), ((fc 17), .inl (cI, 24, .inl (fun _ => 0))), ((fc 18), .inl (cI, 24, .inl (fun _ => 0))), ((fc 19), .inl (cZ, 24, .inl (fun _ => 0))), (m9, .inl (cI, 11, .inl (fun _ => 0)))] H := hP
  have hD : va_D (fun q : Nat => s.heap.size ≤ q) [(qc, .inr (3, [.int 0, .int 0, .int 0, .int 0, .ref (fc 1), .ref (fc 2), .ref (fc 3), .ref (fc 9), .ref (fc 14)])), ((fc 1), .inl (cI, 5, .inl (mixF (fun _ => nI 1) (fun _ => 0) 5))), ((fc 2), .inl (cI, 5, .inl (mixF (fun _ => nI 1000000) (fun _ => 0) 5))), ((fc 3), .inr (0, [.ref (fc 4), .ref (fc 5), .ref (fc 6), .ref (fc 7), .ref (fc 8), .int 0])), ((fc 4), .inl (cI, 30, .inl (mixF (fun _ => (-1)) (fun _ => 0) 30))), ((fc 5), .inl (cI, 24, .inl (fun _ => 0))), ((fc 6), .inl (cI, 24, .inl (fun _ => 0))), ((fc 7), .inl (cI, 24, .inl (fun _ => 0))), ((fc 8), .inl (cZ, 24, .inl (fun _ => 0))), ((fc 9), .inr (1, [.ref (fc 10), .ref (fc 11), .ref (fc 12), .ref (fc 13), .int 0])), ((fc 10), .inl (cI, 100, .inl (fun _ => 0))), ((fc 11), .inl (cI, 100, .inl (fun _ => 0))), ((fc 12), .inl (cI, 100, .inl (fun _ => 0))), ((fc 13), .inl (cI, 100, .inl (fun _ => 0))), ((fc 14), .inr (2, [.ref (fc 15), .ref (fc 16), .ref (fc 17), .ref (fc 18), .ref (fc 19), .int 0, .long 0, .long 0])), ((fc 15), .inl (cI, 24, .inl (fun _ => 0))), ((fc 16), .inl (cI, 24, .inl (fun _ => 0))), ((fc 17), .inl (cI, 24, .inl (fun _ => 0))), ((fc 18), .inl (cI, 24, .inl (fun _ => 0))), ((fc 19), .inl (cZ, 24, .inl (fun _ => 0))), (m9, .inl (cI, 11, .inl (fun _ => 0)))] := hD
  refine W.widen (k := 21) (n := 695) (Nat.le_refl _) (Nat.le_refl _) ?_
  refine lv_astore_n (lv' := [(2, .ref m9), (1, .ref qc), (0, .ref b)]) hx hb dL_law_12 rfl hl (by decide) rfl (fun ls hl => ?_)
  refine lv_bipush (v := nI 25) hx hb dL_law_13 (by decide) ?_
  refine va_newa (atype := .int) (ty := .int) (N' := 25) (a0 := (25, .inl (fun _ => 0))) hx hb (hts (.arrayClass .int) (by decide +kernel)) rfl hK hP hD hS hA (fun _ => rfl) (by decide) (by decide) (Nat.le_of_ble_eq_true rfl) (Nat.le_of_ble_eq_true rfl) (Nat.le_of_ble_eq_true rfl) dL_law_15 (fun w1 cA9 H hK hP hD hS => ?_)
  have e9 : cI = cA9 := Option.some.inj ((show s.vm.findClass _ = some cI from (hK.2 0 _ rfl).2).symm.trans (show s.vm.findClass _ = some cA9 from (hK.2 2 _ rfl).2))
  subst e9
  have hK := hK.sub (tys' := [(cI, .int), (cZ, .boolean)]) [0, 1] rfl
  have hP : va_P (dC, dI) vwCl [(qc, .inr (3, [.int 0, .int 0, .int 0, .int 0, .ref (fc 1), .ref (fc 2), .ref (fc 3), .ref (fc 9), .ref (fc 14)])), ((fc 1), .inl (cI, 5, .inl (mixF (fun _ => nI 1) (fun _ => 0) 5))), ((fc 2), .inl (cI, 5, .inl (mixF (fun _ => nI 1000000) (fun _ => 0) 5))), ((fc 3), .inr (0, [.ref (fc 4), .ref (fc 5), .ref (fc 6), .ref (fc 7), .ref (fc 8), .int 0])), ((fc 4), .inl (cI, 30, .inl (mixF (fun _ => (-1)) (fun _ => 0) 30))), ((fc 5), .inl (cI, 24, .inl (fun _ => 0))), ((fc 6), .inl (cI, 24, .inl (fun _ => 0))), ((fc 7), .inl (cI, 24, .inl (fun _ => 0))), ((fc 8), .inl (cZ, 24, .inl (fun _ => 0))), ((fc 9), .inr (1, [.ref (fc 10), .ref (fc 11), .ref (fc 12), .ref (fc 13), .int 0])), ((fc 10), .inl (cI, 100, .inl (fun _ => 0))), ((fc 11), .inl (cI, 100, .inl (fun _ => 0))), ((fc 12), .inl (cI, 100, .inl (fun _ => 0))), ((fc 13), .inl (cI, 100, .inl (fun _ => 0))), ((fc 14), .inr (2, [.ref (fc 15), .ref (fc 16), .ref (fc 17), .ref (fc 18), .ref (fc 19), .int 0, .long 0, .long 0])), ((fc 15), .inl (cI, 24, .inl (fun _ => 0))), ((fc 16), .inl (cI, 24, .inl (fun _ => 0))), ((fc 17), .inl (cI, 24, .inl (fun _ => 0))), ((fc 18), .inl (cI, 24, .inl (fun _ => 0))), ((fc 19), .inl (cZ, 24, .inl (fun _ => 0))), (m9, .inl (cI, 11, .inl (fun _ => 0))), (w1, .inl (cI, 25, .inl (fun _ => 0)))] H := hP
  have hD : va_D (fun q : Nat => s.heap.size ≤ q) [(qc, .inr (3, [.int 0, .int 0, .int 0, .int 0, .ref (fc 1), .ref (fc 2), .ref (fc 3), .ref (fc 9), .ref (fc 14)])), ((fc 1), .inl (cI, 5, .inl (mixF (fun _ => nI 1) (fun _ => 0) 5))), ((fc 2), .inl (cI, 5, .inl (mixF (fun _ => nI 1000000) (fun _ => 0) 5))), ((fc 3), .inr (0, [.ref (fc 4), .ref (fc 5), .ref (fc 6), .ref (fc 7), .ref (fc 8), .int 0])), ((fc 4), .inl (cI, 30, .inl (mixF (fun _ => (-1)) (fun _ => 0) 30))), ((fc 5), .inl (cI, 24, .inl (fun _ => 0))), ((fc 6), .inl (cI, 24, .inl (fun _ => 0))), ((fc 7), .inl (cI, 24, .inl (fun _ => 0))), ((fc 8), .inl (cZ, 24, .inl (fun _ => 0))), ((fc 9), .inr (1, [.ref (fc 10), .ref (fc 11), .ref (fc 12), .ref (fc 13), .int 0])), ((fc 10), .inl (cI, 100, .inl (fun _ => 0))), ((fc 11), .inl (cI, 100, .inl (fun _ => 0))), ((fc 12), .inl (cI, 100, .inl (fun _ => 0))), ((fc 13), .inl (cI, 100, .inl (fun _ => 0))), ((fc 14), .inr (2, [.ref (fc 15), .ref (fc 16), .ref (fc 17), .ref (fc 18), .ref (fc 19), .int 0, .long 0, .long 0])), ((fc 15), .inl (cI, 24, .inl (fun _ => 0))), ((fc 16), .inl (cI, 24, .inl (fun _ => 0))), ((fc 17), .inl (cI, 24, .inl (fun _ => 0))), ((fc 18), .inl (cI, 24, .inl (fun _ => 0))), ((fc 19), .inl (cZ, 24, .inl (fun _ => 0))), (m9, .inl (cI, 11, .inl (fun _ => 0))), (w1, .inl (cI, 25, .inl (fun _ => 0)))] := hD
  refine W.widen (k := 22) (n := 720) (Nat.le_refl _) (Nat.le_refl _) ?_
  refine lv_astore_n (lv' := [(3, .ref w1), (2, .ref m9), (1, .ref qc), (0, .ref b)]) hx hb dL_law_17 rfl hl (by decide) rfl (fun ls hl => ?_)
  refine lv_bipush (v := nI 60) hx hb dL_law_18 (by decide) ?_
  refine va_newa (atype := .int) (ty := .int) (N' := 60) (a0 := (60, .inl (fun _ => 0))) hx hb (hts (.arrayClass .int) (by decide +kernel)) rfl hK hP hD hS hA (fun _ => rfl) (by decide) (by decide) (Nat.le_of_ble_eq_true rfl) (Nat.le_of_ble_eq_true rfl) (Nat.le_of_ble_eq_true rfl) dL_law_20 (fun w2 cA9 H hK hP hD hS => ?_)
  have e9 : cI = cA9 := Option.some.inj ((show s.vm.findClass _ = some cI from (hK.2 0 _ rfl).2).symm.trans (show s.vm.findClass _ = some cA9 from (hK.2 2 _ rfl).2))
  subst e9
  have hK := hK.sub (tys' := [(cI, .int), (cZ, .boolean)]) [0, 1] rfl
  have hP : va_P (dC, dI) vwCl [(qc, .inr (3, [.int 0, .int 0, .int 0, .int 0, .ref (fc 1), .ref (fc 2), .ref (fc 3), .ref (fc 9), .ref (fc 14)])), ((fc 1), .inl (cI, 5, .inl (mixF (fun _ => nI 1) (fun _ => 0) 5))), ((fc 2), .inl (cI, 5, .inl (mixF (fun _ => nI 1000000) (fun _ => 0) 5))), ((fc 3), .inr (0, [.ref (fc 4), .ref (fc 5), .ref (fc 6), .ref (fc 7), .ref (fc 8), .int 0])), ((fc 4), .inl (cI, 30, .inl (mixF (fun _ => (-1)) (fun _ => 0) 30))), ((fc 5), .inl (cI, 24, .inl (fun _ => 0))), ((fc 6), .inl (cI, 24, .inl (fun _ => 0))), ((fc 7), .inl (cI, 24, .inl (fun _ => 0))), ((fc 8), .inl (cZ, 24, .inl (fun _ => 0))), ((fc 9), .inr (1, [.ref (fc 10), .ref (fc 11), .ref (fc 12), .ref (fc 13), .int 0])), ((fc 10), .inl (cI, 100, .inl (fun _ => 0))), ((fc 11), .inl (cI, 100, .inl (fun _ => 0))), ((fc 12), .inl (cI, 100, .inl (fun _ => 0))), ((fc 13), .inl (cI, 100, .inl (fun _ => 0))), ((fc 14), .inr (2, [.ref (fc 15), .ref (fc 16), .ref (fc 17), .ref (fc 18), .ref (fc 19), .int 0, .long 0, .long 0])), ((fc 15), .inl (cI, 24, .inl (fun _ => 0))), ((fc 16), .inl (cI, 24, .inl (fun _ => 0))), ((fc 17), .inl (cI, 24, .inl (fun _ => 0))), ((fc 18), .inl (cI, 24, .inl (fun _ => 0))), ((fc 19), .inl (cZ, 24, .inl (fun _ => 0))), (m9, .inl (cI, 11, .inl (fun _ => 0))), (w1, .inl (cI, 25, .inl (fun _ => 0))), (w2, .inl (cI, 60, .inl (fun _ => 0)))] H := hP
  have hD : va_D (fun q : Nat => s.heap.size ≤ q) [(qc, .inr (3, [.int 0, .int 0, .int 0, .int 0, .ref (fc 1), .ref (fc 2), .ref (fc 3), .ref (fc 9), .ref (fc 14)])), ((fc 1), .inl (cI, 5, .inl (mixF (fun _ => nI 1) (fun _ => 0) 5))), ((fc 2), .inl (cI, 5, .inl (mixF (fun _ => nI 1000000) (fun _ => 0) 5))), ((fc 3), .inr (0, [.ref (fc 4), .ref (fc 5), .ref (fc 6), .ref (fc 7), .ref (fc 8), .int 0])), ((fc 4), .inl (cI, 30, .inl (mixF (fun _ => (-1)) (fun _ => 0) 30))), ((fc 5), .inl (cI, 24, .inl (fun _ => 0))), ((fc 6), .inl (cI, 24, .inl (fun _ => 0))), ((fc 7), .inl (cI, 24, .inl (fun _ => 0))), ((fc 8), .inl (cZ, 24, .inl (fun _ => 0))), ((fc 9), .inr (1, [.ref (fc 10), .ref (fc 11), .ref (fc 12), .ref (fc 13), .int 0])), ((fc 10), .inl (cI, 100, .inl (fun _ => 0))), ((fc 11), .inl (cI, 100, .inl (fun _ => 0))), ((fc 12), .inl (cI, 100, .inl (fun _ => 0))), ((fc 13), .inl (cI, 100, .inl (fun _ => 0))), ((fc 14), .inr (2, [.ref (fc 15), .ref (fc 16), .ref (fc 17), .ref (fc 18), .ref (fc 19), .int 0, .long 0, .long 0])), ((fc 15), .inl (cI, 24, .inl (fun _ => 0))), ((fc 16), .inl (cI, 24, .inl (fun _ => 0))), ((fc 17), .inl (cI, 24, .inl (fun _ => 0))), ((fc 18), .inl (cI, 24, .inl (fun _ => 0))), ((fc 19), .inl (cZ, 24, .inl (fun _ => 0))), (m9, .inl (cI, 11, .inl (fun _ => 0))), (w1, .inl (cI, 25, .inl (fun _ => 0))), (w2, .inl (cI, 60, .inl (fun _ => 0)))] := hD
  refine W.widen (k := 23) (n := 780) (Nat.le_refl _) (Nat.le_refl _) ?_
  refine lv_astore (lv' := [(4, .ref w2), (3, .ref w1), (2, .ref m9), (1, .ref qc), (0, .ref b)]) hx hb dL_law_22 hl (by decide) rfl (fun ls hl => ?_)
  refine lv_bipush (v := nI 24) hx hb dL_law_24 (by decide) ?_
  refine va_newa (atype := .int) (ty := .int) (N' := 24) (a0 := (24, .inl (fun _ => 0))) hx hb (hts (.arrayClass .int) (by decide +kernel)) rfl hK hP hD hS hA (fun _ => rfl) (by decide) (by decide) (Nat.le_of_ble_eq_true rfl) (Nat.le_of_ble_eq_true rfl) (Nat.le_of_ble_eq_true rfl) dL_law_26 (fun w3 cA9 H hK hP hD hS => ?_)
  have e9 : cI = cA9 := Option.some.inj ((show s.vm.findClass _ = some cI from (hK.2 0 _ rfl).2).symm.trans (show s.vm.findClass _ = some cA9 from (hK.2 2 _ rfl).2))
  subst e9
  have hK := hK.sub (tys' := [(cI, .int), (cZ, .boolean)]) [0, 1] rfl
  have hP : va_P (dC, dI) vwCl [(qc, .inr (3, [.int 0, .int 0, .int 0, .int 0, .ref (fc 1), .ref (fc 2), .ref (fc 3), .ref (fc 9), .ref (fc 14)])), ((fc 1), .inl (cI, 5, .inl (mixF (fun _ => nI 1) (fun _ => 0) 5))), ((fc 2), .inl (cI, 5, .inl (mixF (fun _ => nI 1000000) (fun _ => 0) 5))), ((fc 3), .inr (0, [.ref (fc 4), .ref (fc 5), .ref (fc 6), .ref (fc 7), .ref (fc 8), .int 0])), ((fc 4), .inl (cI, 30, .inl (mixF (fun _ => (-1)) (fun _ => 0) 30))), ((fc 5), .inl (cI, 24, .inl (fun _ => 0))), ((fc 6), .inl (cI, 24, .inl (fun _ => 0))), ((fc 7), .inl (cI, 24, .inl (fun _ => 0))), ((fc 8), .inl (cZ, 24, .inl (fun _ => 0))), ((fc 9), .inr (1, [.ref (fc 10), .ref (fc 11), .ref (fc 12), .ref (fc 13), .int 0])), ((fc 10), .inl (cI, 100, .inl (fun _ => 0))), ((fc 11), .inl (cI, 100, .inl (fun _ => 0))), ((fc 12), .inl (cI, 100, .inl (fun _ => 0))), ((fc 13), .inl (cI, 100, .inl (fun _ => 0))), ((fc 14), .inr (2, [.ref (fc 15), .ref (fc 16), .ref (fc 17), .ref (fc 18), .ref (fc 19), .int 0, .long 0, .long 0])), ((fc 15), .inl (cI, 24, .inl (fun _ => 0))), ((fc 16), .inl (cI, 24, .inl (fun _ => 0))), ((fc 17), .inl (cI, 24, .inl (fun _ => 0))), ((fc 18), .inl (cI, 24, .inl (fun _ => 0))), ((fc 19), .inl (cZ, 24, .inl (fun _ => 0))), (m9, .inl (cI, 11, .inl (fun _ => 0))), (w1, .inl (cI, 25, .inl (fun _ => 0))), (w2, .inl (cI, 60, .inl (fun _ => 0))), (w3, .inl (cI, 24, .inl (fun _ => 0)))] H := hP
  have hD : va_D (fun q : Nat => s.heap.size ≤ q) [(qc, .inr (3, [.int 0, .int 0, .int 0, .int 0, .ref (fc 1), .ref (fc 2), .ref (fc 3), .ref (fc 9), .ref (fc 14)])), ((fc 1), .inl (cI, 5, .inl (mixF (fun _ => nI 1) (fun _ => 0) 5))), ((fc 2), .inl (cI, 5, .inl (mixF (fun _ => nI 1000000) (fun _ => 0) 5))), ((fc 3), .inr (0, [.ref (fc 4), .ref (fc 5), .ref (fc 6), .ref (fc 7), .ref (fc 8), .int 0])), ((fc 4), .inl (cI, 30, .inl (mixF (fun _ => (-1)) (fun _ => 0) 30))), ((fc 5), .inl (cI, 24, .inl (fun _ => 0))), ((fc 6), .inl (cI, 24, .inl (fun _ => 0))), ((fc 7), .inl (cI, 24, .inl (fun _ => 0))), ((fc 8), .inl (cZ, 24, .inl (fun _ => 0))), ((fc 9), .inr (1, [.ref (fc 10), .ref (fc 11), .ref (fc 12), .ref (fc 13), .int 0])), ((fc 10), .inl (cI, 100, .inl (fun _ => 0))), ((fc 11), .inl (cI, 100, .inl (fun _ => 0))), ((fc 12), .inl (cI, 100, .inl (fun _ => 0))), ((fc 13), .inl (cI, 100, .inl (fun _ => 0))), ((fc 14), .inr (2, [.ref (fc 15), .ref (fc 16), .ref (fc 17), .ref (fc 18), .ref (fc 19), .int 0, .long 0, .long 0])), ((fc 15), .inl (cI, 24, .inl (fun _ => 0))), ((fc 16), .inl (cI, 24, .inl (fun _ => 0))), ((fc 17), .inl (cI, 24, .inl (fun _ => 0))), ((fc 18), .inl (cI, 24, .inl (fun _ => 0))), ((fc 19), .inl (cZ, 24, .inl (fun _ => 0))), (m9, .inl (cI, 11, .inl (fun _ => 0))), (w1, .inl (cI, 25, .inl (fun _ => 0))), (w2, .inl (cI, 60, .inl (fun _ => 0))), (w3, .inl (cI, 24, .inl (fun _ => 0)))] := hD
  refine W.widen (k := 24) (n := 804) (Nat.le_refl _) (Nat.le_refl _) ?_
  refine lv_astore (lv' := [(5, .ref w3), (4, .ref w2), (3, .ref w1), (2, .ref m9), (1, .ref qc), (0, .ref b)]) hx hb dL_law_28 hl (by decide) rfl (fun ls hl => ?_)
  refine lv_bipush (v := nI 24) hx hb dL_law_30 (by decide) ?_
  refine va_newa (atype := .int) (ty := .int) (N' := 24) (a0 := (24, .inl (fun _ => 0))) hx hb (hts (.arrayClass .int) (by decide +kernel)) rfl hK hP hD hS hA (fun _ => rfl) (by decide) (by decide) (Nat.le_of_ble_eq_true rfl) (Nat.le_of_ble_eq_true rfl) (Nat.le_of_ble_eq_true rfl) dL_law_32 (fun w4 cA9 H hK hP hD hS => ?_)
  have e9 : cI = cA9 := Option.some.inj ((show s.vm.findClass _ = some cI from (hK.2 0 _ rfl).2).symm.trans (show s.vm.findClass _ = some cA9 from (hK.2 2 _ rfl).2))
  subst e9
  have hK := hK.sub (tys' := [(cI, .int), (cZ, .boolean)]) [0, 1] rfl
  have hP : va_P (dC, dI) vwCl [(qc, .inr (3, [.int 0, .int 0, .int 0, .int 0, .ref (fc 1), .ref (fc 2), .ref (fc 3), .ref (fc 9), .ref (fc 14)])), ((fc 1), .inl (cI, 5, .inl (mixF (fun _ => nI 1) (fun _ => 0) 5))), ((fc 2), .inl (cI, 5, .inl (mixF (fun _ => nI 1000000) (fun _ => 0) 5))), ((fc 3), .inr (0, [.ref (fc 4), .ref (fc 5), .ref (fc 6), .ref (fc 7), .ref (fc 8), .int 0])), ((fc 4), .inl (cI, 30, .inl (mixF (fun _ => (-1)) (fun _ => 0) 30))), ((fc 5), .inl (cI, 24, .inl (fun _ => 0))), ((fc 6), .inl (cI, 24, .inl (fun _ => 0))), ((fc 7), .inl (cI, 24, .inl (fun _ => 0))), ((fc 8), .inl (cZ, 24, .inl (fun _ => 0))), ((fc 9), .inr (1, [.ref (fc 10), .ref (fc 11), .ref (fc 12), .ref (fc 13), .int 0])), ((fc 10), .inl (cI, 100, .inl (fun _ => 0))), ((fc 11), .inl (cI, 100, .inl (fun _ => 0))), ((fc 12), .inl (cI, 100, .inl (fun _ => 0))), ((fc 13), .inl (cI, 100, .inl (fun _ => 0))), ((fc 14), .inr (2, [.ref (fc 15), .ref (fc 16), .ref (fc 17), .ref (fc 18), .ref (fc 19), .int 0, .long 0, .long 0])), ((fc 15), .inl (cI, 24, .inl (fun _ => 0))), ((fc 16), .inl (cI, 24, .inl (fun _ => 0))), ((fc 17), .inl (cI, 24, .inl (fun _ => 0))), ((fc 18), .inl (cI, 24, .inl (fun _ => 0))), ((fc 19), .inl (cZ, 24, .inl (fun _ => 0))), (m9, .inl (cI, 11, .inl (fun _ => 0))), (w1, .inl (cI, 25, .inl (fun _ => 0))), (w2, .inl (cI, 60, .inl (fun _ => 0))), (w3, .inl (cI, 24, .inl (fun _ => 0))), (w4, .inl (cI, 24, .inl (fun _ => 0)))] H := hP
  have hD : va_D (fun q : Nat => s.heap.size ≤ q) [(qc, .inr (3, [.int 0, .int 0, .int 0, .int 0, .ref (fc 1), .ref (fc 2), .ref (fc 3), .ref (fc 9), .ref (fc 14)])), ((fc 1), .inl (cI, 5, .inl (mixF (fun _ => nI 1) (fun _ => 0) 5))), ((fc 2), .inl (cI, 5, .inl (mixF (fun _ => nI 1000000) (fun _ => 0) 5))), ((fc 3), .inr (0, [.ref (fc 4), .ref (fc 5), .ref (fc 6), .ref (fc 7), .ref (fc 8), .int 0])), ((fc 4), .inl (cI, 30, .inl (mixF (fun _ => (-1)) (fun _ => 0) 30))), ((fc 5), .inl (cI, 24, .inl (fun _ => 0))), ((fc 6), .inl (cI, 24, .inl (fun _ => 0))), ((fc 7), .inl (cI, 24, .inl (fun _ => 0))), ((fc 8), .inl (cZ, 24, .inl (fun _ => 0))), ((fc 9), .inr (1, [.ref (fc 10), .ref (fc 11), .ref (fc 12), .ref (fc 13), .int 0])), ((fc 10), .inl (cI, 100, .inl (fun _ => 0))), ((fc 11), .inl (cI, 100, .inl (fun _ => 0))), ((fc 12), .inl (cI, 100, .inl (fun _ => 0))), ((fc 13), .inl (cI, 100, .inl (fun _ => 0))), ((fc 14), .inr (2, [.ref (fc 15), .ref (fc 16), .ref (fc 17), .ref (fc 18), .ref (fc 19), .int 0, .long 0, .long 0])), ((fc 15), .inl (cI, 24, .inl (fun _ => 0))), ((fc 16), .inl (cI, 24, .inl (fun _ => 0))), ((fc 17), .inl (cI, 24, .inl (fun _ => 0))), ((fc 18), .inl (cI, 24, .inl (fun _ => 0))), ((fc 19), .inl (cZ, 24, .inl (fun _ => 0))), (m9, .inl (cI, 11, .inl (fun _ => 0))), (w1, .inl (cI, 25, .inl (fun _ => 0))), (w2, .inl (cI, 60, .inl (fun _ => 0))), (w3, .inl (cI, 24, .inl (fun _ => 0))), (w4, .inl (cI, 24, .inl (fun _ => 0)))] := hD
  refine W.widen (k := 25) (n := 828) (Nat.le_refl _) (Nat.le_refl _) ?_
  refine lv_astore (lv' := [(6, .ref w4), (5, .ref w3), (4, .ref w2), (3, .ref w1), (2, .ref m9), (1, .ref qc), (0, .ref b)]) hx hb dL_law_34 hl (by decide) rfl (fun ls hl => ?_)
  obtain ⟨ad, hade⟩ : ∃ ad : Nat → Nat, ad = fun j => if j = 0 then qc else fc j := ⟨_, rfl⟩
  have hD21 := hD.sub (ws' := [(qc, .inr (3, [.int 0, .int 0, .int 0, .int 0, .ref (fc 1), .ref (fc 2), .ref (fc 3), .ref (fc 9), .ref (fc 14)])), ((fc 1), .inl (cI, 5, .inl (mixF (fun _ => nI 1) (fun _ => 0) 5))), ((fc 2), .inl (cI, 5, .inl (mixF (fun _ => nI 1000000) (fun _ => 0) 5))), ((fc 3), .inr (0, [.ref (fc 4), .ref (fc 5), .ref (fc 6), .ref (fc 7), .ref (fc 8), .int 0])), ((fc 4), .inl (cI, 30, .inl (mixF (fun _ => (-1)) (fun _ => 0) 30))), ((fc 5), .inl (cI, 24, .inl (fun _ => 0))), ((fc 6), .inl (cI, 24, .inl (fun _ => 0))), ((fc 7), .inl (cI, 24, .inl (fun _ => 0))), ((fc 8), .inl (cZ, 24, .inl (fun _ => 0))), ((fc 9), .inr (1, [.ref (fc 10), .ref (fc 11), .ref (fc 12), .ref (fc 13), .int 0])), ((fc 10), .inl (cI, 100, .inl (fun _ => 0))), ((fc 11), .inl (cI, 100, .inl (fun _ => 0))), ((fc 12), .inl (cI, 100, .inl (fun _ => 0))), ((fc 13), .inl (cI, 100, .inl (fun _ => 0))), ((fc 14), .inr (2, [.ref (fc 15), .ref (fc 16), .ref (fc 17), .ref (fc 18), .ref (fc 19), .int 0, .long 0, .long 0])), ((fc 15), .inl (cI, 24, .inl (fun _ => 0))), ((fc 16), .inl (cI, 24, .inl (fun _ => 0))), ((fc 17), .inl (cI, 24, .inl (fun _ => 0))), ((fc 18), .inl (cI, 24, .inl (fun _ => 0))), ((fc 19), .inl (cZ, 24, .inl (fun _ => 0))), (m9, .inl (cI, 11, .inl (fun _ => 0)))]) [0, 1, 2, 3, 4, 5, 6, 7, 8, 9, 10, 11, 12, 13, 14, 15, 16, 17, 18, 19, 20] (by decide) rfl
  obtain ⟨hinj, hall⟩ := zz_I (N := 21) (f := fun j => if j < 20 then ad j else m9) hD21 (by subst hade; rfl)
  have hP9 : va_P (dC, dI) vwCl (wC cI cZ ad 0 0 0 0 ((mixF (fun _ => nI 1) (fun _ => 0) 5)) ((mixF (fun _ => nI 1000000) (fun _ => 0) 5)) ((mixF (fun _ => (-1)) (fun _ => 0) 30)) ((fun _ => 0)) ((fun _ => 0)) ((fun _ => 0)) ((fun _ => 0)) 0 ((fun _ => 0)) ((fun _ => 0)) ((fun _ => 0)) ((fun _ => 0)) 0 ((fun _ => 0)) ((fun _ => 0)) ((fun _ => 0)) ((fun _ => 0)) ((fun _ => 0)) 0 0 0) H := hP.sub [0, 1, 2, 3, 4, 5, 6, 7, 8, 9, 10, 11, 12, 13, 14, 15, 16, 17, 18, 19] (by subst hade; rfl)
  have hPm : va_P (dC, dI) vwCl [(m9, .inl (cI, 11, .inl (fun _ => 0)))] H := hP.sub [20] rfl
  clear hP
  have hP := hP9
  clear hP9
  have fC : ∀ j, j < 20 → (if j < 20 then ad j else m9) = ad j := fun j h => if_pos h
  have hI : iwC ad := fun i j hi hj e => hinj i j (by omega) (by omega) (by show (if i < 20 then _ else _) = (if j < 20 then _ else _); rw [if_pos hi, if_pos hj]; exact e)
  have hm9 : ¬ awC ad m9 := fun h => by
    obtain ⟨j, hj, e⟩ := h
    have := hinj j 20 (by omega) (by omega) ((fC j hj).trans e.symm); omega
  have hAw : ∀ x, awC ad x → s.heap.size ≤ x := fun x h => by
    obtain ⟨j, hj, e⟩ := h
    have h9 : s.heap.size ≤ (if j < 20 then ad j else m9) := hall j (by omega)
    rw [fC j hj] at h9; rw [e]; exact h9
  have hAm : s.heap.size ≤ m9 := hall 20 (by omega)
  have hl : lv_has ls 19 [(0, .ref b), (1, .ref (ad 0)), (2, .ref m9), (3, .ref w1), (4, .ref w2), (5, .ref w3), (6, .ref w4)] := by subst hade; exact lv_sub hl [6, 5, 4, 3, 2, 1, 0] rfl
  have hz9 : s.heap.size + 0 ≤ H.size := hS.1
  exact rz_mid l hfl C0 hI hm9 hAw hAm hK hT0 hN _ _ _ _ _ _ _ _ _ _ _ _ _ _ _ _ _ _ _ _ _ _ _ _ H locs hz9 hP hPm hS ls hl
