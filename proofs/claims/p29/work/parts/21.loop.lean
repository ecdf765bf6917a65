set_option maxHeartbeats 4000000 in
set_option maxRecDepth 100000 in
theorem rz_loop {p : Program} {e : Env} {s : State} {m : MethodId} {below : List Frame} {meth : Method} {c : Code} (l : Launch) (hfl : l.stackTraces = false) {b : Nat} (C0 : rz_At p s m meth c b 100 (fun _ => nI 0)) {dC : Nat → ClassId} {dI : Nat → Nat → Nat} {cI cZ : ClassId} {ad : Nat → Nat} {m9 w1 w2 w3 w4 : Nat} (hI : iwC ad) (hm9 : ¬ awC ad m9) (hAw : ∀ x, awC ad x → s.heap.size ≤ x) (hAm : s.heap.size ≤ m9) (hK : va_K (dC, dI) vwCl [(cI, .int), (cZ, .boolean)] s) (hT0 : tX (fun q => s.heap.size ≤ q) s s.heap) (hN : tN s) : ∀ (N9 i9 : Nat) (_ : i9 + N9 = 100) (sm fe ex dy : Int32) (gp gc op gr st dl wo yc ya ys yd zc zp zr zs zf : Nat → Int32) (z : Nat) (zm zt : Int64) (mf : Nat → Int32) (H : Heap) (locs : List Loc) (cells slots : Nat) (hcw : cells ≤ 81 + 28 * ((i9 + 19) / 20) ∧ slots ≤ 1164 + 168 * ((i9 + 19) / 20)) (hz9 : s.heap.size + 56 + 28 * ((i9 + 19) / 20) ≤ H.size) (hP : va_P (dC, dI) vwCl (wC cI cZ ad sm fe ex dy gp gc op gr st dl wo 0 yc ya ys yd 0 zc zp zr zs zf z zm zt) H) (hPm : va_P (dC, dI) vwCl [(m9, .inl (cI, 11, .inl mf))] H) (hS : va_S (fun q : Nat => s.heap.size ≤ q) s.heap H locs) (ls : Array Slot) (hl : lv_has ls 19 [(8, .int (nI i9)), (7, .int (nI 1)), (0, .ref b), (1, .ref (ad 0)), (2, .ref m9), (3, .ref w1), (4, .ref w2), (5, .ref w3), (6, .ref w4)]), W p l e room_B s m #[Value.ref b] below meth c H locs cells slots (rz_Z below #[Value.ref b] s) (F0 m 95 ls []) := by
  obtain ⟨hx, hb, hr, hml, hown, hts0, hX, hbl, hlocks, hgv⟩ := id C0
  have hts : ∀ w ∈ wsL_law, w.before #[Value.ref b] s = true := fun w hw => hts0 w (wsL_law_in w hw)
  have hown : s.vm.findClass RL = some m.cls := hown
  have hbA : ¬ (fun q : Nat => s.heap.size ≤ q) b := Nat.not_le.mpr hbl
  have hk127 := hts (.constant RL 127 (10000001)) (by decide +kernel)
  have hk132 := hts (.constant RL 132 (1000001)) (by decide +kernel)
  have hk150 := hts (.constantLong RL 150 1000) (by decide +kernel)
  intro N9
  induction N9 with
  | zero =>
    intro i9 hN9 sm fe ex dy gp gc op gr st dl wo yc ya ys yd zc zp zr zs zf z zm zt mf H locs cells slots hcw hz9 hP hPm hS ls hl
    have e9 : i9 = 100 := by omega
    subst e9
    refine lv_iload hx hb dL_law_95 (lv_at hl 0 rfl) ?_
    refine lv_bipush (v := nI 100) hx hb dL_law_97 (by decide) ?_
    refine zb_ge (tgt := 801) hx hb (by decide) (by decide) dL_law_99 (by decide) (fun _ => ?_) (fun h9 => (show False by omega).elim)
    refine lv_iload hx hb dL_law_801 (lv_at hl 1 rfl) ?_
    refine zt_i (y := 1) (by decide) ?_
    refine va_forget (fun q h => hS.2.2 q h) ?_
    refine W.widen (k := 3000) (n := 20000) (by omega) (by omega) ?_
    exact rz_ret hx hb hr hlocks (by omega) dL_law_803
  | succ N9 ih =>
    intro i9 hN9 sm fe ex dy gp gc op gr st dl wo yc ya ys yd zc zp zr zs zf z zm zt mf H locs cells slots hcw hz9 hP hPm hS ls hl
    have hi9 : i9 < 100 := by omega
    have hcc : cells ≤ room_B.cells ∧ slots ≤ room_B.slots := ⟨by show cells ≤ 3000; omega, by show slots ≤ 20000; omega⟩
    refine lv_iload hx hb dL_law_95 (lv_at hl 0 rfl) ?_
    refine lv_bipush (v := nI 100) hx hb dL_law_97 (by decide) ?_
    refine zb_ge (tgt := 801) hx hb (by omega) (by decide) dL_law_99 (by decide) (fun c_99 => (show False by omega).elim) (fun c_99 => ?_)
    refine lv_iload hx hb dL_law_102 (lv_at hl 1 rfl) ?_
    refine zi_eq (tgt := 801) hx hb (by decide) dL_law_104 (by decide) (fun c_104 => (show False by omega).elim) (fun c_104 => ?_)
    refine lv_aload_n hx hb dL_law_107 rfl (lv_at hl 2 rfl) ?_
    refine lv_iload hx hb dL_law_108 (lv_at hl 0 rfl) ?_
    refine k_L_dice l (b9 := b) (L9 := 100) (i := i9) (by decide) (by omega) hx hb hml hown hts (va_X.kept hX (hS.2.1 b hbl hbA)) (Nat.lt_of_lt_of_le hbl hS.1) gL_law_L_dice ⟨Nat.le_of_ble_eq_true rfl, Nat.le_of_ble_eq_true rfl⟩ hcc hl.1 (Nat.le_of_ble_eq_true rfl) dL_law_110 ?_
    refine lv_istore (lv' := [(9, .int (nI 0)), (8, .int (nI i9)), (7, .int (nI 1)), (0, .ref b), (1, .ref (ad 0)), (2, .ref m9), (3, .ref w1), (4, .ref w2), (5, .ref w3), (6, .ref w4)]) hx hb dL_law_113 hl (by decide) rfl (fun ls hl => ?_)
    refine lv_iload hx hb dL_law_115 (lv_at hl 0 rfl) ?_
    refine lv_bipush (v := nI 32) hx hb dL_law_117 (by decide) ?_
    refine lv_idiv hx hb dL_law_119 (by decide) ?_
    refine zt_i (y := nI 0) (by decide) ?_
    refine lv_istore (lv' := [(10, .int (nI 0)), (9, .int (nI 0)), (8, .int (nI i9)), (7, .int (nI 1)), (0, .ref b), (1, .ref (ad 0)), (2, .ref m9), (3, .ref w1), (4, .ref w2), (5, .ref w3), (6, .ref w4)]) hx hb dL_law_120 hl (by decide) rfl (fun ls hl => ?_)
    refine lv_iload hx hb dL_law_122 (lv_at hl 1 rfl) ?_
    refine lv_bipush (v := nI 32) hx hb dL_law_124 (by decide) ?_
    refine lv_irem hx hb dL_law_126 (by decide) ?_
    refine zt_i (y := nI 0) (by decide) ?_
    refine lv_istore (lv' := [(11, .int (nI 0)), (10, .int (nI 0)), (9, .int (nI 0)), (8, .int (nI i9)), (7, .int (nI 1)), (0, .ref b), (1, .ref (ad 0)), (2, .ref m9), (3, .ref w1), (4, .ref w2), (5, .ref w3), (6, .ref w4)]) hx hb dL_law_127 hl (by decide) rfl (fun ls hl => ?_)
    refine lv_aload_n hx hb dL_law_129 rfl (lv_at hl 6 rfl) ?_
    refine k_X3_claims l hx hb hml hown hts hK hP gL_law_X3_claims ⟨Nat.le_of_ble_eq_true rfl, Nat.le_of_ble_eq_true rfl⟩ hcc hl.1 (Nat.le_of_ble_eq_true rfl) dL_law_130 ?_
    refine lv_istore (lv' := [(12, .int (nI 0)), (11, .int (nI 0)), (10, .int (nI 0)), (9, .int (nI 0)), (8, .int (nI i9)), (7, .int (nI 1)), (0, .ref b), (1, .ref (ad 0)), (2, .ref m9), (3, .ref w1), (4, .ref w2), (5, .ref w3), (6, .ref w4)]) hx hb dL_law_133 hl (by decide) rfl (fun ls hl => ?_)
    refine lv_aload_n hx hb dL_law_135 rfl (lv_at hl 7 rfl) ?_
    refine k_X3_payments l hx hb hml hown hts hK hP gL_law_X3_payments ⟨Nat.le_of_ble_eq_true rfl, Nat.le_of_ble_eq_true rfl⟩ hcc hl.1 (Nat.le_of_ble_eq_true rfl) dL_law_136 ?_
    refine lv_istore (lv' := [(13, .int (nI 0)), (12, .int (nI 0)), (11, .int (nI 0)), (10, .int (nI 0)), (9, .int (nI 0)), (8, .int (nI i9)), (7, .int (nI 1)), (0, .ref b), (1, .ref (ad 0)), (2, .ref m9), (3, .ref w1), (4, .ref w2), (5, .ref w3), (6, .ref w4)]) hx hb dL_law_139 hl (by decide) rfl (fun ls hl => ?_)
    refine lv_iload hx hb dL_law_141 (lv_at hl 1 rfl) ?_
    refine zi_ne (tgt := 150) hx hb (by decide) dL_law_143 (by decide) (fun c_143 => (show False by omega).elim) (fun c_143 => ?_)
    refine lv_iconst (v := nI 0) hx hb dL_law_146 (by decide) ?_
    refine lv_goto (tgt := 155) hx hb dL_law_147 (by decide) ?_
    refine lv_istore (lv' := [(14, .int (nI 0)), (13, .int (nI 0)), (12, .int (nI 0)), (11, .int (nI 0)), (10, .int (nI 0)), (9, .int (nI 0)), (8, .int (nI i9)), (7, .int (nI 1)), (0, .ref b), (1, .ref (ad 0)), (2, .ref m9), (3, .ref w1), (4, .ref w2), (5, .ref w3), (6, .ref w4)]) hx hb dL_law_155 hl (by decide) rfl (fun ls hl => ?_)
    refine lv_iload hx hb dL_law_157 (lv_at hl 1 rfl) ?_
    refine zi_ne (tgt := 314) hx hb (by decide) dL_law_159 (by decide) (fun c_159 => (show False by omega).elim) (fun c_159 => ?_)
    refine lv_iload hx hb dL_law_162 (lv_at hl 3 rfl) ?_
    refine lv_iconst (v := nI 3) hx hb dL_law_164 (by decide) ?_
    refine zb_lt (tgt := 174) hx hb (by decide) (by decide) dL_law_165 (by decide) (fun c_165 => ?_) (fun c_165 => (show False by omega).elim)
    refine lv_iload hx hb dL_law_174 (lv_at hl 4 rfl) ?_
    refine lv_iload hx hb dL_law_176 (lv_at hl 4 rfl) ?_
    refine lv_iconst (v := nI 3) hx hb dL_law_178 (by decide) ?_
    refine lv_irem hx hb dL_law_179 (by decide) ?_
    refine zt_i (y := nI 0) (by decide) ?_
    refine zi_ne (tgt := 188) hx hb (by decide) dL_law_180 (by decide) (fun c_180 => (show False by omega).elim) (fun c_180 => ?_)
    refine lv_ldc hx hb hown hk127 dL_law_183 ?_
    refine zt_i (y := nI 10000001) rfl ?_
    refine lv_goto (tgt := 191) hx hb dL_law_185 (by decide) ?_
    refine lv_irem hx hb dL_law_191 (by decide) ?_
    refine zt_i (y := nI 0) (by decide) ?_
    refine lv_istore (lv' := [(15, .int (nI 0)), (14, .int (nI 0)), (13, .int (nI 0)), (12, .int (nI 0)), (11, .int (nI 0)), (10, .int (nI 0)), (9, .int (nI 0)), (8, .int (nI i9)), (7, .int (nI 1)), (0, .ref b), (1, .ref (ad 0)), (2, .ref m9), (3, .ref w1), (4, .ref w2), (5, .ref w3), (6, .ref w4)]) hx hb dL_law_192 hl (by decide) rfl (fun ls hl => ?_)
    refine lv_iload hx hb dL_law_194 (lv_at hl 5 rfl) ?_
    refine lv_bipush (v := nI 7) hx hb dL_law_196 (by decide) ?_
    refine lv_idiv hx hb dL_law_198 (by decide) ?_
    refine zt_i (y := nI 0) (by decide) ?_
    refine lv_sipush (v := nI 501) hx hb dL_law_199 (by decide) ?_
    refine lv_irem hx hb dL_law_202 (by decide) ?_
    refine zt_i (y := nI 0) (by decide) ?_
    refine lv_istore (lv' := [(16, .int (nI 0)), (15, .int (nI 0)), (14, .int (nI 0)), (13, .int (nI 0)), (12, .int (nI 0)), (11, .int (nI 0)), (10, .int (nI 0)), (9, .int (nI 0)), (8, .int (nI i9)), (7, .int (nI 1)), (0, .ref b), (1, .ref (ad 0)), (2, .ref m9), (3, .ref w1), (4, .ref w2), (5, .ref w3), (6, .ref w4)]) hx hb dL_law_203 hl (by decide) rfl (fun ls hl => ?_)
    refine lv_iload hx hb dL_law_205 (lv_at hl 6 rfl) ?_
    refine lv_bipush (v := nI 11) hx hb dL_law_207 (by decide) ?_
    refine lv_idiv hx hb dL_law_209 (by decide) ?_
    refine zt_i (y := nI 0) (by decide) ?_
    refine lv_iload hx hb dL_law_210 (lv_at hl 6 rfl) ?_
    refine lv_iconst (v := nI 5) hx hb dL_law_212 (by decide) ?_
    refine lv_irem hx hb dL_law_213 (by decide) ?_
    refine zt_i (y := nI 0) (by decide) ?_
    refine zi_ne (tgt := 222) hx hb (by decide) dL_law_214 (by decide) (fun c_214 => (show False by omega).elim) (fun c_214 => ?_)
    refine lv_ldc hx hb hown hk132 dL_law_217 ?_
    refine zt_i (y := nI 1000001) rfl ?_
    refine lv_goto (tgt := 224) hx hb dL_law_219 (by decide) ?_
    refine lv_irem hx hb dL_law_224 (by decide) ?_
    refine zt_i (y := nI 0) (by decide) ?_
    refine lv_istore (lv' := [(17, .int (nI 0)), (16, .int (nI 0)), (15, .int (nI 0)), (14, .int (nI 0)), (13, .int (nI 0)), (12, .int (nI 0)), (11, .int (nI 0)), (10, .int (nI 0)), (9, .int (nI 0)), (8, .int (nI i9)), (7, .int (nI 1)), (0, .ref b), (1, .ref (ad 0)), (2, .ref m9), (3, .ref w1), (4, .ref w2), (5, .ref w3), (6, .ref w4)]) hx hb dL_law_225 hl (by decide) rfl (fun ls hl => ?_)
    refine lv_aload_n hx hb dL_law_227 rfl (lv_at hl 12 rfl) ?_
    refine lv_iconst (v := nI 0) hx hb dL_law_228 (by decide) ?_
    refine lv_iload hx hb dL_law_229 (lv_at hl 2 rfl) ?_
    refine lv_iload hx hb dL_law_231 (lv_at hl 1 rfl) ?_
    refine lv_iload hx hb dL_law_233 (lv_at hl 0 rfl) ?_
    refine k_act_set0 l hI hx hb hml hown hts hK hP gL_law_L_act ⟨Nat.le_of_ble_eq_true rfl, Nat.le_of_ble_eq_true rfl⟩ ⟨hcc.1, hcc.2⟩ hl.1 (Nat.le_of_ble_eq_true rfl) dL_law_235 hAw hS (fun H locs hP hS hz hk => ?_)
    have hPm := zz_ko hPm (hk _ (zz_lt hPm) hm9)
    have hz9 : s.heap.size + 56 + 28 * ((i9 + 19) / 20) ≤ H.size := by omega
    clear hz
    refine lv_istore (lv' := [(18, .int (nI 0)), (17, .int (nI 0)), (16, .int (nI 0)), (15, .int (nI 0)), (14, .int (nI 0)), (13, .int (nI 0)), (12, .int (nI 0)), (11, .int (nI 0)), (10, .int (nI 0)), (9, .int (nI 0)), (8, .int (nI i9)), (7, .int (nI 1)), (0, .ref b), (1, .ref (ad 0)), (2, .ref m9), (3, .ref w1), (4, .ref w2), (5, .ref w3), (6, .ref w4)]) hx hb dL_law_238 hl (by decide) rfl (fun ls hl => ?_)
    refine lv_aload_n hx hb dL_law_240 rfl (lv_at hl 14 rfl) ?_
    refine lv_iconst (v := nI 0) hx hb dL_law_241 (by decide) ?_
    refine lv_iload hx hb dL_law_242 (lv_at hl 0 rfl) ?_
    have hPL := hP.app hPm
    refine va_iast hx hb hK hPL (dwM hI hm9 hAw hAm ..) (zz_Sr hS) 20 0 rfl rfl (vp_in_nI (n := 0) (by decide) (by decide)) dL_law_244 (fun H locs hPL _ hS1 => ?_)
    have hP : va_P (dC, dI) vwCl (wC cI cZ ad (nI 0) (nI 0) (nI 0) dy gp gc op gr st dl wo 0 yc ya ys yd 0 zc zp zr zs zf z zm zt) H := hPL.sub [0, 1, 2, 3, 4, 5, 6, 7, 8, 9, 10, 11, 12, 13, 14, 15, 16, 17, 18, 19] rfl
    have hPm : va_P (dC, dI) vwCl [(m9, .inl (cI, 11, .inl (upd mf (nI 0).toNatClampNeg (nI 0))))] H := hPL.sub [20] rfl
    have hS := zz_St hS hS1
    have hz := hS1.1
    clear hS1 hPL
    have hz9 : s.heap.size + 56 + 28 * ((i9 + 19) / 20) ≤ H.size := by omega
    clear hz
    have hm0 : upd mf (nI 0).toNatClampNeg (nI 0) 0 = nI 0 := if_pos (by decide)
    generalize upd mf (nI 0).toNatClampNeg (nI 0) = mf at hPm hm0
    refine lv_iload hx hb dL_law_245 (lv_at hl 0 rfl) ?_
    refine lv_iload hx hb dL_law_247 (lv_at hl 3 rfl) ?_
    refine lv_aload_n hx hb dL_law_249 rfl (lv_at hl 13 rfl) ?_
    refine k_X3_fee l hx hb hml hown hts hK hP gL_law_X3_fee ⟨Nat.le_of_ble_eq_true rfl, Nat.le_of_ble_eq_true rfl⟩ hcc hl.1 (Nat.le_of_ble_eq_true rfl) dL_law_250 ?_
    refine zt_i (y := nI 0) fee0 ?_
    refine lv_isub hx hb dL_law_253 ?_
    refine zt_i (y := nI 0) (by decide) ?_
    refine lv_iload hx hb dL_law_254 (lv_at hl 1 rfl) ?_
    refine lv_isub hx hb dL_law_256 ?_
    refine zt_i (y := nI 0) (by decide) ?_
    refine zb_ne (tgt := 308) hx hb (by decide) (by decide) dL_law_257 (by decide) (fun c_257 => (show False by omega).elim) (fun c_257 => ?_)
    refine lv_ldc2 hx hb hown hk150 dL_law_260 ?_
    refine zt_l (y := lN 1000) rfl ?_
    refine lv_aload_n hx hb dL_law_263 rfl (lv_at hl 13 rfl) ?_
    refine k_X3_fee l hx hb hml hown hts hK hP gL_law_X3_fee ⟨Nat.le_of_ble_eq_true rfl, Nat.le_of_ble_eq_true rfl⟩ hcc hl.1 (Nat.le_of_ble_eq_true rfl) dL_law_264 ?_
    refine zt_i (y := nI 0) fee0 ?_
    refine lv_i2l (v := lN 0) hx hb dL_law_267 (nI_l (by decide)) ?_
    refine lv_lmul hx hb dL_law_268 ?_
    refine zt_l (y := lN 0) (lN_mul _ _) ?_
    refine lv_iload hx hb dL_law_269 (lv_at hl 3 rfl) ?_
    refine lv_i2l (v := lN 0) hx hb dL_law_271 (nI_l (by decide)) ?_
    refine lv_iload hx hb dL_law_272 (lv_at hl 2 rfl) ?_
    refine lv_i2l (v := lN 0) hx hb dL_law_274 (nI_l (by decide)) ?_
    refine lv_lmul hx hb dL_law_275 ?_
    refine zt_l (y := lN 0) (lN_mul _ _) ?_
    refine W.lcmp hx hb dL_law_276 ?_
    refine zg_gt (tgt := 308) hx hb dL_law_277 (by decide) (fun c_277 => (show False by exact absurd c_277 (by decide)).elim) (fun c_277 => ?_)
    refine lv_ldc2 hx hb hown hk150 dL_law_280 ?_
    refine zt_l (y := lN 1000) rfl ?_
    refine lv_aload_n hx hb dL_law_283 rfl (lv_at hl 13 rfl) ?_
    refine k_X3_fee l hx hb hml hown hts hK hP gL_law_X3_fee ⟨Nat.le_of_ble_eq_true rfl, Nat.le_of_ble_eq_true rfl⟩ hcc hl.1 (Nat.le_of_ble_eq_true rfl) dL_law_284 ?_
    refine zt_i (y := nI 0) fee0 ?_
    refine lv_i2l (v := lN 0) hx hb dL_law_287 (nI_l (by decide)) ?_
    refine lv_lmul hx hb dL_law_288 ?_
    refine zt_l (y := lN 0) (lN_mul _ _) ?_
    refine lv_ldc2 hx hb hown hk150 dL_law_289 ?_
    refine zt_l (y := lN 1000) rfl ?_
    refine lv_ladd hx hb dL_law_292 ?_
    refine zt_l (y := lN 1000) (lN_add _ _) ?_
    refine lv_iload hx hb dL_law_293 (lv_at hl 3 rfl) ?_
    refine lv_i2l (v := lN 0) hx hb dL_law_295 (nI_l (by decide)) ?_
    refine lv_iload hx hb dL_law_296 (lv_at hl 2 rfl) ?_
    refine lv_i2l (v := lN 0) hx hb dL_law_298 (nI_l (by decide)) ?_
    refine lv_lmul hx hb dL_law_299 ?_
    refine zt_l (y := lN 0) (lN_mul _ _) ?_
    refine W.lcmp hx hb dL_law_300 ?_
    refine zg_le (tgt := 308) hx hb dL_law_301 (by decide) (fun c_301 => (show False by exact absurd c_301 (by decide)).elim) (fun c_301 => ?_)
    refine lv_iconst (v := nI 1) hx hb dL_law_304 (by decide) ?_
    refine lv_goto (tgt := 309) hx hb dL_law_305 (by decide) ?_
    refine lv_istore (lv' := [(7, .int (nI 1)), (18, .int (nI 0)), (17, .int (nI 0)), (16, .int (nI 0)), (15, .int (nI 0)), (14, .int (nI 0)), (13, .int (nI 0)), (12, .int (nI 0)), (11, .int (nI 0)), (10, .int (nI 0)), (9, .int (nI 0)), (8, .int (nI i9)), (0, .ref b), (1, .ref (ad 0)), (2, .ref m9), (3, .ref w1), (4, .ref w2), (5, .ref w3), (6, .ref w4)]) hx hb dL_law_309 hl (by decide) rfl (fun ls hl => ?_)
    refine lv_goto (tgt := 729) hx hb dL_law_311 (by decide) ?_
    refine lv_iload hx hb dL_law_729 (lv_at hl 0 rfl) ?_
    refine zi_eq (tgt := 792) hx hb (by decide) dL_law_731 (by decide) (fun c_731 => (show False by omega).elim) (fun c_731 => ?_)
    refine lv_aload_n hx hb dL_law_734 rfl (lv_at hl 13 rfl) ?_
    refine lv_aload_n hx hb dL_law_735 rfl (lv_at hl 14 rfl) ?_
    refine k_L_areMoney l (m9 := m9) (mf := mf) (hL := (left0 _ _)) (hm0 := hm0) hx hb hml hown hts hK hP hPm gL_law_L_areMoney ⟨Nat.le_of_ble_eq_true rfl, Nat.le_of_ble_eq_true rfl⟩ hcc hl.1 (Nat.le_of_ble_eq_true rfl) dL_law_736 ?_
    refine zi_eq (tgt := 792) hx hb (by decide) dL_law_739 (by decide) (fun c_739 => (show False by omega).elim) (fun c_739 => ?_)
    refine lv_iload hx hb dL_law_742 (lv_at hl 11 rfl) ?_
    refine lv_bipush (v := nI 6) hx hb dL_law_744 (by decide) ?_
    refine lv_irem hx hb dL_law_746 (by decide) ?_
    refine zt_i (y := nI (i9 % 6)) (pk_rem (by omega) (by omega) (by omega)) ?_
    refine zi_gt (tgt := 768) hx hb (by omega) dL_law_747 (by decide) (fun c_747 => ?_) (fun c_747 => ?_)
    · refine lv_iload hx hb dL_law_768 (lv_at hl 11 rfl) ?_
      refine lv_bipush (v := nI 20) hx hb dL_law_770 (by decide) ?_
      refine lv_irem hx hb dL_law_772 (by decide) ?_
      refine zt_i (y := nI (i9 % 20)) (pk_rem (by omega) (by omega) (by omega)) ?_
      refine zi_gt (tgt := 788) hx hb (by omega) dL_law_773 (by decide) (fun c_773 => ?_) (fun c_773 => ?_)
      · refine lv_iconst (v := nI 1) hx hb dL_law_788 (by decide) ?_
        refine lv_goto (tgt := 793) hx hb dL_law_789 (by decide) ?_
        refine lv_istore (lv' := [(7, .int (nI 1)), (18, .int (nI 0)), (17, .int (nI 0)), (16, .int (nI 0)), (15, .int (nI 0)), (14, .int (nI 0)), (13, .int (nI 0)), (12, .int (nI 0)), (11, .int (nI 0)), (10, .int (nI 0)), (9, .int (nI 0)), (8, .int (nI i9)), (0, .ref b), (1, .ref (ad 0)), (2, .ref m9), (3, .ref w1), (4, .ref w2), (5, .ref w3), (6, .ref w4)]) hx hb dL_law_793 hl (by decide) rfl (fun ls hl => ?_)
        refine lv_iinc (v := nI (i9 + 1)) (lv' := [(8, .int (nI (i9 + 1))), (7, .int (nI 1)), (18, .int (nI 0)), (17, .int (nI 0)), (16, .int (nI 0)), (15, .int (nI 0)), (14, .int (nI 0)), (13, .int (nI 0)), (12, .int (nI 0)), (11, .int (nI 0)), (10, .int (nI 0)), (9, .int (nI 0)), (0, .ref b), (1, .ref (ad 0)), (2, .ref m9), (3, .ref w1), (4, .ref w2), (5, .ref w3), (6, .ref w4)]) hx hb dL_law_795 hl (k := 11) rfl (zz_inc _) (by decide) rfl (fun ls hl => ?_)
        refine lv_goto (tgt := 95) hx hb dL_law_798 (by decide) ?_
        clear c_747
        exact ih (i9 + 1) (by omega) _ _ _ _ _ _ _ _ _ _ _ _ _ _ _ _ _ _ _ _ _ _ _ mf H _ _ _ (by omega) (by omega) hP hPm hS ls (lv_sub hl [0, 1, 12, 13, 14, 15, 16, 17, 18] rfl)
      · refine lv_aload_n hx hb dL_law_776 rfl (lv_at hl 13 rfl) ?_
        refine lv_aload_n hx hb dL_law_777 rfl (lv_at hl 15 rfl) ?_
        refine lv_iload hx hb dL_law_778 (lv_at hl 10 rfl) ?_
        refine lv_iconst (v := nI 3) hx hb dL_law_780 (by decide) ?_
        refine lv_idiv hx hb dL_law_781 (by decide) ?_
        refine zt_i (y := nI 0) (by decide) ?_
        refine k_isRefused_0 l hfl w1 hx hb hml hown hts hK hP gL_law_L_isRefused ⟨Nat.le_of_ble_eq_true rfl, Nat.le_of_ble_eq_true rfl⟩ ⟨by show cells + 28 ≤ 3000; omega, by show slots + 168 ≤ 20000; omega⟩ hl.1 (Nat.le_of_ble_eq_true rfl) dL_law_782 ((hT0.kept hS.2.1).narrow (fun _ h => h.elim)) hN hS (fun H locs hS hz hk => ?_)
        have hP := hP.kept (fun k q h => hk q.1 (hP k q h).lt)
        have hPm := zz_ko hPm (hk _ (zz_lt hPm))
        have hz9 : s.heap.size + 56 + 28 * ((i9 + 19) / 20) + 28 ≤ H.size := by omega
        clear hz
        refine zi_eq (tgt := 792) hx hb (by decide) dL_law_785 (by decide) (fun c_785 => (show False by omega).elim) (fun c_785 => ?_)
        refine lv_iconst (v := nI 1) hx hb dL_law_788 (by decide) ?_
        refine lv_goto (tgt := 793) hx hb dL_law_789 (by decide) ?_
        refine lv_istore (lv' := [(7, .int (nI 1)), (18, .int (nI 0)), (17, .int (nI 0)), (16, .int (nI 0)), (15, .int (nI 0)), (14, .int (nI 0)), (13, .int (nI 0)), (12, .int (nI 0)), (11, .int (nI 0)), (10, .int (nI 0)), (9, .int (nI 0)), (8, .int (nI i9)), (0, .ref b), (1, .ref (ad 0)), (2, .ref m9), (3, .ref w1), (4, .ref w2), (5, .ref w3), (6, .ref w4)]) hx hb dL_law_793 hl (by decide) rfl (fun ls hl => ?_)
        refine lv_iinc (v := nI (i9 + 1)) (lv' := [(8, .int (nI (i9 + 1))), (7, .int (nI 1)), (18, .int (nI 0)), (17, .int (nI 0)), (16, .int (nI 0)), (15, .int (nI 0)), (14, .int (nI 0)), (13, .int (nI 0)), (12, .int (nI 0)), (11, .int (nI 0)), (10, .int (nI 0)), (9, .int (nI 0)), (0, .ref b), (1, .ref (ad 0)), (2, .ref m9), (3, .ref w1), (4, .ref w2), (5, .ref w3), (6, .ref w4)]) hx hb dL_law_795 hl (k := 11) rfl (zz_inc _) (by decide) rfl (fun ls hl => ?_)
        refine lv_goto (tgt := 95) hx hb dL_law_798 (by decide) ?_
        clear c_747
        exact ih (i9 + 1) (by omega) _ _ _ _ _ _ _ _ _ _ _ _ _ _ _ _ _ _ _ _ _ _ _ mf H _ _ _ (by omega) (by omega) hP hPm hS ls (lv_sub hl [0, 1, 12, 13, 14, 15, 16, 17, 18] rfl)
    · refine lv_aload_n hx hb dL_law_750 rfl (lv_at hl 13 rfl) ?_
      refine lv_aload_n hx hb dL_law_751 rfl (lv_at hl 14 rfl) ?_
      refine lv_aload hx hb dL_law_752 (lv_at hl 18 rfl) ?_
      refine lv_aload hx hb dL_law_754 (lv_at hl 17 rfl) ?_
      refine lv_iload hx hb dL_law_756 (lv_at hl 9 rfl) ?_
      refine lv_sipush (v := nI 400) hx hb dL_law_758 (by decide) ?_
      refine lv_irem hx hb dL_law_761 (by decide) ?_
      refine zt_i (y := nI 0) (by decide) ?_
      refine k_L_areShares l (m9 := m9) (w8 := w4) (w9 := w3) (hL := (left0 _ _)) hx hb hml hown hts hK hP gL_law_L_areShares ⟨Nat.le_of_ble_eq_true rfl, Nat.le_of_ble_eq_true rfl⟩ hcc hl.1 (Nat.le_of_ble_eq_true rfl) dL_law_762 ?_
      refine zi_eq (tgt := 792) hx hb (by decide) dL_law_765 (by decide) (fun c_765 => (show False by omega).elim) (fun c_765 => ?_)
      refine lv_iload hx hb dL_law_768 (lv_at hl 11 rfl) ?_
      refine lv_bipush (v := nI 20) hx hb dL_law_770 (by decide) ?_
      refine lv_irem hx hb dL_law_772 (by decide) ?_
      refine zt_i (y := nI (i9 % 20)) (pk_rem (by omega) (by omega) (by omega)) ?_
      refine zi_gt (tgt := 788) hx hb (by omega) dL_law_773 (by decide) (fun c_773 => ?_) (fun c_773 => ?_)
      · refine lv_iconst (v := nI 1) hx hb dL_law_788 (by decide) ?_
        refine lv_goto (tgt := 793) hx hb dL_law_789 (by decide) ?_
        refine lv_istore (lv' := [(7, .int (nI 1)), (18, .int (nI 0)), (17, .int (nI 0)), (16, .int (nI 0)), (15, .int (nI 0)), (14, .int (nI 0)), (13, .int (nI 0)), (12, .int (nI 0)), (11, .int (nI 0)), (10, .int (nI 0)), (9, .int (nI 0)), (8, .int (nI i9)), (0, .ref b), (1, .ref (ad 0)), (2, .ref m9), (3, .ref w1), (4, .ref w2), (5, .ref w3), (6, .ref w4)]) hx hb dL_law_793 hl (by decide) rfl (fun ls hl => ?_)
        refine lv_iinc (v := nI (i9 + 1)) (lv' := [(8, .int (nI (i9 + 1))), (7, .int (nI 1)), (18, .int (nI 0)), (17, .int (nI 0)), (16, .int (nI 0)), (15, .int (nI 0)), (14, .int (nI 0)), (13, .int (nI 0)), (12, .int (nI 0)), (11, .int (nI 0)), (10, .int (nI 0)), (9, .int (nI 0)), (0, .ref b), (1, .ref (ad 0)), (2, .ref m9), (3, .ref w1), (4, .ref w2), (5, .ref w3), (6, .ref w4)]) hx hb dL_law_795 hl (k := 11) rfl (zz_inc _) (by decide) rfl (fun ls hl => ?_)
        refine lv_goto (tgt := 95) hx hb dL_law_798 (by decide) ?_
        clear c_747
        exact ih (i9 + 1) (by omega) _ _ _ _ _ _ _ _ _ _ _ _ _ _ _ _ _ _ _ _ _ _ _ mf H _ _ _ (by omega) (by omega) hP hPm hS ls (lv_sub hl [0, 1, 12, 13, 14, 15, 16, 17, 18] rfl)
      · refine lv_aload_n hx hb dL_law_776 rfl (lv_at hl 13 rfl) ?_
        refine lv_aload_n hx hb dL_law_777 rfl (lv_at hl 15 rfl) ?_
        refine lv_iload hx hb dL_law_778 (lv_at hl 10 rfl) ?_
        refine lv_iconst (v := nI 3) hx hb dL_law_780 (by decide) ?_
        refine lv_idiv hx hb dL_law_781 (by decide) ?_
        refine zt_i (y := nI 0) (by decide) ?_
        refine k_isRefused_0 l hfl w1 hx hb hml hown hts hK hP gL_law_L_isRefused ⟨Nat.le_of_ble_eq_true rfl, Nat.le_of_ble_eq_true rfl⟩ ⟨by show cells + 28 ≤ 3000; omega, by show slots + 168 ≤ 20000; omega⟩ hl.1 (Nat.le_of_ble_eq_true rfl) dL_law_782 ((hT0.kept hS.2.1).narrow (fun _ h => h.elim)) hN hS (fun H locs hS hz hk => ?_)
        have hP := hP.kept (fun k q h => hk q.1 (hP k q h).lt)
        have hPm := zz_ko hPm (hk _ (zz_lt hPm))
        have hz9 : s.heap.size + 56 + 28 * ((i9 + 19) / 20) + 28 ≤ H.size := by omega
        clear hz
        refine zi_eq (tgt := 792) hx hb (by decide) dL_law_785 (by decide) (fun c_785 => (show False by omega).elim) (fun c_785 => ?_)
        refine lv_iconst (v := nI 1) hx hb dL_law_788 (by decide) ?_
        refine lv_goto (tgt := 793) hx hb dL_law_789 (by decide) ?_
        refine lv_istore (lv' := [(7, .int (nI 1)), (18, .int (nI 0)), (17, .int (nI 0)), (16, .int (nI 0)), (15, .int (nI 0)), (14, .int (nI 0)), (13, .int (nI 0)), (12, .int (nI 0)), (11, .int (nI 0)), (10, .int (nI 0)), (9, .int (nI 0)), (8, .int (nI i9)), (0, .ref b), (1, .ref (ad 0)), (2, .ref m9), (3, .ref w1), (4, .ref w2), (5, .ref w3), (6, .ref w4)]) hx hb dL_law_793 hl (by decide) rfl (fun ls hl => ?_)
        refine lv_iinc (v := nI (i9 + 1)) (lv' := [(8, .int (nI (i9 + 1))), (7, .int (nI 1)), (18, .int (nI 0)), (17, .int (nI 0)), (16, .int (nI 0)), (15, .int (nI 0)), (14, .int (nI 0)), (13, .int (nI 0)), (12, .int (nI 0)), (11, .int (nI 0)), (10, .int (nI 0)), (9, .int (nI 0)), (0, .ref b), (1, .ref (ad 0)), (2, .ref m9), (3, .ref w1), (4, .ref w2), (5, .ref w3), (6, .ref w4)]) hx hb dL_law_795 hl (k := 11) rfl (zz_inc _) (by decide) rfl (fun ls hl => ?_)
        refine lv_goto (tgt := 95) hx hb dL_law_798 (by decide) ?_
        clear c_747
        exact ih (i9 + 1) (by omega) _ _ _ _ _ _ _ _ _ _ _ _ _ _ _ _ _ _ _ _ _ _ _ mf H _ _ _ (by omega) (by omega) hP hPm hS ls (lv_sub hl [0, 1, 12, 13, 14, 15, 16, 17, 18] rfl)
