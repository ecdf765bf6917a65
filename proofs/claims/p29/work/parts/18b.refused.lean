set_option maxHeartbeats 4000000 in
set_option maxRecDepth 100000 in
theorem c_isRefused_1 (l : Launch) {dC : Nat → ClassId} {dI : Nat → Nat → Nat} {cI cZ : ClassId} {ad : Nat → Nat} {sm fe ex dy : Int32} {gp gc op gr st dl wo yc ya ys yd zc zp zr zs zf : Nat → Int32} {z : Nat} {zm zt : Int64} (hfl : l.stackTraces = false) (w9 sz : Nat) : Met l yL_isRefused wsL_isRefused { frames := 10, cells := 28, slots := 168, locals := 180 } (va_Pc [.ref (ad 0), .ref w9, .int (nI 1)] (fun U => va_P (dC, dI) vwCl (wC cI cZ ad sm fe ex dy gp gc op gr st dl wo 0 yc ya ys yd 0 zc zp zr zs zf z zm zt) U.heap ∧ va_K (dC, dI) vwCl [(cI, .int), (cZ, .boolean)] U ∧ tX (fun _ => False) U U.heap ∧ tN U ∧ U.heap.size = sz)) (va_Qi (fun r (_ : Unit) => r = nI 1) (fun _ t => sz + 28 ≤ t.heap.size) (fun _ => False)) 28 168 (fun _ => False) := by
  refine Met.ofW (cc := cL_isRefused) (maxL := 11) (ret := (some .boolean)) (by decide) rfl ?_
  intro p e s m args below meth c s₁ B hml hv
  obtain ⟨rfl, hP, hK, hT, hN, hz9⟩ := hv
  have hx := B.exec
  have hb := B.bytes
  have hr := B.returns
  have hts := atoms_spec (ws := wsL_isRefused) B.pre
  have hown : s.vm.findClass RL = some m.cls := findClass_of_methodNamed B.named
  have hlocks := B.notSynchronized
  have hS : va_S (fun _ => False) s.heap s.heap [] := va_S.rf
  have hz9 : sz ≤ s.heap.size := by omega
  have hl := lv_entry ([.ref (ad 0), .ref w9, .int (nI 1)]) (n := 11) (Nat.le_of_ble_eq_true rfl)
  rw [lg_entry_eq]
  generalize (lg_sl ([.ref (ad 0), .ref w9, .int (nI 1)]) ++ List.replicate (11 - (lg_sl ([.ref (ad 0), .ref w9, .int (nI 1)])).length) Slot.unset).toArray = ls at hl ⊢
  have hl : lv_has ls 11 [(0, .ref (ad 0)), (1, .ref w9), (2, .int (nI 1))] := hl
  have hk127 := hts (.constant RL 127 (10000001)) (by decide +kernel)
  have hk47 := hts (.constant RL 47 (-200000002)) (by decide +kernel)
  have hk132 := hts (.constant RL 132 (1000001)) (by decide +kernel)
  have hk44 := hts (.constant RL 44 (-200000001)) (by decide +kernel)
  have hk136 := hts (.constant RL 136 (100001)) (by decide +kernel)
  refine lv_iload_n hx hb dL_isRefused_0 rfl (lv_at hl 2 rfl) ?_
  refine lv_iconst (v := nI 2) hx hb dL_isRefused_1 (by decide) ?_
  refine lv_irem hx hb dL_isRefused_2 (by decide) ?_
  refine zt_i (y := nI 1) (by decide) ?_
  refine zi_ne (tgt := 10) hx hb (by decide) dL_isRefused_3 (by decide) (fun c_3 => ?_) (fun c_3 => (show False by omega).elim)
  refine lv_iconst (v := nI 0) hx hb dL_isRefused_10 (by decide) ?_
  refine lv_istore_n (lv' := [(3, .int (nI 0)), (0, .ref (ad 0)), (1, .ref w9), (2, .int (nI 1))]) hx hb dL_isRefused_11 rfl hl (by decide) rfl (fun ls hl => ?_)
  refine lv_iload_n hx hb dL_isRefused_12 rfl (lv_at hl 0 rfl) ?_
  refine zi_eq (tgt := 25) hx hb (by decide) dL_isRefused_13 (by decide) (fun c_13 => ?_) (fun c_13 => (show False by omega).elim)
  refine lv_aload_n hx hb dL_isRefused_25 rfl (lv_at hl 1 rfl) ?_
  refine k_X3_claims l  hx hb hml hown hts hK hP gL_isRefused_X3_claims ⟨Nat.le_of_ble_eq_true rfl, Nat.le_of_ble_eq_true rfl⟩ ⟨Nat.le_of_ble_eq_true rfl, Nat.le_of_ble_eq_true rfl⟩ hl.1 (Nat.le_of_ble_eq_true rfl) dL_isRefused_26 ?_
  refine lv_iload_n hx hb dL_isRefused_29 rfl (lv_at hl 3 rfl) ?_
  refine lv_bipush (v := nI 30) hx hb dL_isRefused_30 (by decide) ?_
  refine lv_irem hx hb dL_isRefused_32 (by decide) ?_
  refine zt_i (y := nI 1) (by decide) ?_
  refine lv_iadd hx hb dL_isRefused_33 ?_
  refine zt_i (y := nI 1) (by decide) ?_
  refine lv_istore (lv' := [(4, .int (nI 1)), (3, .int (nI 0)), (0, .ref (ad 0)), (1, .ref w9), (2, .int (nI 1))]) hx hb dL_isRefused_34 hl (by decide) rfl (fun ls hl => ?_)
  refine lv_iload_n hx hb dL_isRefused_36 rfl (lv_at hl 1 rfl) ?_
  refine zi_eq (tgt := 49) hx hb (by decide) dL_isRefused_37 (by decide) (fun c_37 => ?_) (fun c_37 => (show False by omega).elim)
  refine lv_aload_n hx hb dL_isRefused_49 rfl (lv_at hl 2 rfl) ?_
  refine k_X3_payments l  hx hb hml hown hts hK hP gL_isRefused_X3_payments ⟨Nat.le_of_ble_eq_true rfl, Nat.le_of_ble_eq_true rfl⟩ ⟨Nat.le_of_ble_eq_true rfl, Nat.le_of_ble_eq_true rfl⟩ hl.1 (Nat.le_of_ble_eq_true rfl) dL_isRefused_50 ?_
  refine lv_iload_n hx hb dL_isRefused_53 rfl (lv_at hl 4 rfl) ?_
  refine lv_bipush (v := nI 30) hx hb dL_isRefused_54 (by decide) ?_
  refine lv_irem hx hb dL_isRefused_56 (by decide) ?_
  refine zt_i (y := nI 1) (by decide) ?_
  refine lv_iadd hx hb dL_isRefused_57 ?_
  refine zt_i (y := nI 1) (by decide) ?_
  refine lv_istore (lv' := [(5, .int (nI 1)), (4, .int (nI 1)), (3, .int (nI 0)), (0, .ref (ad 0)), (1, .ref w9), (2, .int (nI 1))]) hx hb dL_isRefused_58 hl (by decide) rfl (fun ls hl => ?_)
  refine lv_aload_n hx hb dL_isRefused_60 rfl (lv_at hl 3 rfl) ?_
  refine k_L_all l  hx hb hml hown hts hK hP gL_isRefused_L_all ⟨Nat.le_of_ble_eq_true rfl, Nat.le_of_ble_eq_true rfl⟩ ⟨Nat.le_of_ble_eq_true rfl, Nat.le_of_ble_eq_true rfl⟩ hl.1 (Nat.le_of_ble_eq_true rfl) dL_isRefused_61 ?_
  refine lv_lstore (lv' := [(6, .long (allZ sm fe ex dy ya ys)), (5, .int (nI 1)), (4, .int (nI 1)), (3, .int (nI 0)), (0, .ref (ad 0)), (1, .ref w9), (2, .int (nI 1))]) hx hb dL_isRefused_64 hl (by decide) rfl (fun ls hl => ?_)
  refine lv_aload_n hx hb dL_isRefused_66 rfl (lv_at hl 4 rfl) ?_
  refine lv_iconst (v := nI 0) hx hb dL_isRefused_67 (by decide) ?_
  refine lv_iload_n hx hb dL_isRefused_68 rfl (lv_at hl 3 rfl) ?_
  refine zi_eq (tgt := 76) hx hb (by decide) dL_isRefused_69 (by decide) (fun c_69 => ?_) (fun c_69 => (show False by omega).elim)
  refine lv_ldc hx hb hown hk127 dL_isRefused_76 ?_
  refine zt_i (y := nI 10000001) rfl ?_
  refine lv_iconst (v := nI 0) hx hb dL_isRefused_78 (by decide) ?_
  refine lv_iconst (v := nI 0) hx hb dL_isRefused_79 (by decide) ?_
  refine k_act_0_10000001_0_0 l hfl hx hb hml hown hts hK hP gL_isRefused_L_act ⟨Nat.le_of_ble_eq_true rfl, Nat.le_of_ble_eq_true rfl⟩ ⟨Nat.le_of_ble_eq_true rfl, Nat.le_of_ble_eq_true rfl⟩ hl.1 (Nat.le_of_ble_eq_true rfl) dL_isRefused_80 hT hN hS (fun H locs hS hz hk => ?_)
  have hP := hP.kept (fun k q h => hk q.1 (hP k q h).lt)
  have hT := hT.kept (fun a h _ => hk a h)
  have hz9 : sz + 1 ≤ H.size := by omega
  clear hz hk
  refine lv_ldc hx hb hown hk47 dL_isRefused_83 ?_
  refine lv_icmp_ne (tgt := 389) hx hb dL_isRefused_85 (by decide) (fun c_85 => (show False by exact absurd c_85 (by decide)).elim) (fun c_85 => ?_)
  refine lv_aload_n hx hb dL_isRefused_88 rfl (lv_at hl 4 rfl) ?_
  refine lv_iconst (v := nI 0) hx hb dL_isRefused_89 (by decide) ?_
  refine lv_iconst (v := nI 0) hx hb dL_isRefused_90 (by decide) ?_
  refine lv_iload_n hx hb dL_isRefused_91 rfl (lv_at hl 3 rfl) ?_
  refine zi_eq (tgt := 99) hx hb (by decide) dL_isRefused_92 (by decide) (fun c_92 => ?_) (fun c_92 => (show False by omega).elim)
  refine lv_sipush (v := nI 501) hx hb dL_isRefused_99 (by decide) ?_
  refine lv_iconst (v := nI 0) hx hb dL_isRefused_102 (by decide) ?_
  refine k_act_0_0_501_0 l hfl hx hb hml hown hts hK hP gL_isRefused_L_act ⟨Nat.le_of_ble_eq_true rfl, Nat.le_of_ble_eq_true rfl⟩ ⟨Nat.le_of_ble_eq_true rfl, Nat.le_of_ble_eq_true rfl⟩ hl.1 (Nat.le_of_ble_eq_true rfl) dL_isRefused_103 hT hN hS (fun H locs hS hz hk => ?_)
  have hP := hP.kept (fun k q h => hk q.1 (hP k q h).lt)
  have hT := hT.kept (fun a h _ => hk a h)
  have hz9 : sz + 2 ≤ H.size := by omega
  clear hz hk
  refine lv_ldc hx hb hown hk47 dL_isRefused_106 ?_
  refine lv_icmp_ne (tgt := 389) hx hb dL_isRefused_108 (by decide) (fun c_108 => (show False by exact absurd c_108 (by decide)).elim) (fun c_108 => ?_)
  refine lv_aload_n hx hb dL_isRefused_111 rfl (lv_at hl 4 rfl) ?_
  refine lv_iconst (v := nI 0) hx hb dL_isRefused_112 (by decide) ?_
  refine lv_iconst (v := nI 0) hx hb dL_isRefused_113 (by decide) ?_
  refine lv_iconst (v := nI 0) hx hb dL_isRefused_114 (by decide) ?_
  refine lv_iload_n hx hb dL_isRefused_115 rfl (lv_at hl 3 rfl) ?_
  refine zi_eq (tgt := 123) hx hb (by decide) dL_isRefused_116 (by decide) (fun c_116 => ?_) (fun c_116 => (show False by omega).elim)
  refine lv_ldc hx hb hown hk132 dL_isRefused_123 ?_
  refine zt_i (y := nI 1000001) rfl ?_
  refine k_act_0_0_0_1000001 l hfl hx hb hml hown hts hK hP gL_isRefused_L_act ⟨Nat.le_of_ble_eq_true rfl, Nat.le_of_ble_eq_true rfl⟩ ⟨Nat.le_of_ble_eq_true rfl, Nat.le_of_ble_eq_true rfl⟩ hl.1 (Nat.le_of_ble_eq_true rfl) dL_isRefused_125 hT hN hS (fun H locs hS hz hk => ?_)
  have hP := hP.kept (fun k q h => hk q.1 (hP k q h).lt)
  have hT := hT.kept (fun a h _ => hk a h)
  have hz9 : sz + 3 ≤ H.size := by omega
  clear hz hk
  refine lv_ldc hx hb hown hk47 dL_isRefused_128 ?_
  refine lv_icmp_ne (tgt := 389) hx hb dL_isRefused_130 (by decide) (fun c_130 => (show False by exact absurd c_130 (by decide)).elim) (fun c_130 => ?_)
  refine lv_aload_n hx hb dL_isRefused_133 rfl (lv_at hl 4 rfl) ?_
  refine k_X3_payments l  hx hb hml hown hts hK hP gL_isRefused_X3_payments ⟨Nat.le_of_ble_eq_true rfl, Nat.le_of_ble_eq_true rfl⟩ ⟨Nat.le_of_ble_eq_true rfl, Nat.le_of_ble_eq_true rfl⟩ hl.1 (Nat.le_of_ble_eq_true rfl) dL_isRefused_134 ?_
  refine zi_eq (tgt := 165) hx hb (by decide) dL_isRefused_137 (by decide) (fun c_137 => ?_) (fun c_137 => (show False by omega).elim)
  refine lv_aload_n hx hb dL_isRefused_165 rfl (lv_at hl 4 rfl) ?_
  refine lv_iload_n hx hb dL_isRefused_166 rfl (lv_at hl 3 rfl) ?_
  refine zi_eq (tgt := 174) hx hb (by decide) dL_isRefused_167 (by decide) (fun c_167 => ?_) (fun c_167 => (show False by omega).elim)
  refine lv_iconst (v := nI 5) hx hb dL_isRefused_174 (by decide) ?_
  refine lv_iload_n hx hb dL_isRefused_175 rfl (lv_at hl 6 rfl) ?_
  refine lv_bipush (v := nI 30) hx hb dL_isRefused_176 (by decide) ?_
  refine lv_irem hx hb dL_isRefused_178 (by decide) ?_
  refine zt_i (y := nI 1) (by decide) ?_
  refine lv_iadd hx hb dL_isRefused_179 ?_
  refine zt_i (y := nI 6) (by decide) ?_
  refine lv_iconst (v := nI 0) hx hb dL_isRefused_180 (by decide) ?_
  refine lv_iconst (v := nI 0) hx hb dL_isRefused_181 (by decide) ?_
  refine k_setGrade_6_0_0 l hfl hx hb hml hown hts hK hP gL_isRefused_L_setGrade ⟨Nat.le_of_ble_eq_true rfl, Nat.le_of_ble_eq_true rfl⟩ ⟨Nat.le_of_ble_eq_true rfl, Nat.le_of_ble_eq_true rfl⟩ hl.1 (Nat.le_of_ble_eq_true rfl) dL_isRefused_182 hT hN hS (fun H locs hS hz hk => ?_)
  have hP := hP.kept (fun k q h => hk q.1 (hP k q h).lt)
  have hT := hT.kept (fun a h _ => hk a h)
  have hz9 : sz + 4 ≤ H.size := by omega
  clear hz hk
  refine lv_ldc hx hb hown hk44 dL_isRefused_185 ?_
  refine lv_icmp_ne (tgt := 389) hx hb dL_isRefused_187 (by decide) (fun c_187 => (show False by exact absurd c_187 (by decide)).elim) (fun c_187 => ?_)
  refine lv_aload_n hx hb dL_isRefused_190 rfl (lv_at hl 4 rfl) ?_
  refine lv_iconst (v := nI 1) hx hb dL_isRefused_191 (by decide) ?_
  refine lv_iload_n hx hb dL_isRefused_192 rfl (lv_at hl 3 rfl) ?_
  refine zi_eq (tgt := 200) hx hb (by decide) dL_isRefused_193 (by decide) (fun c_193 => ?_) (fun c_193 => (show False by omega).elim)
  refine lv_bipush (v := nI 101) hx hb dL_isRefused_200 (by decide) ?_
  refine lv_iconst (v := nI 1) hx hb dL_isRefused_202 (by decide) ?_
  refine k_setGrade_1_101_1 l hfl hx hb hml hown hts hK hP gL_isRefused_L_setGrade ⟨Nat.le_of_ble_eq_true rfl, Nat.le_of_ble_eq_true rfl⟩ ⟨Nat.le_of_ble_eq_true rfl, Nat.le_of_ble_eq_true rfl⟩ hl.1 (Nat.le_of_ble_eq_true rfl) dL_isRefused_203 hT hN hS (fun H locs hS hz hk => ?_)
  have hP := hP.kept (fun k q h => hk q.1 (hP k q h).lt)
  have hT := hT.kept (fun a h _ => hk a h)
  have hz9 : sz + 5 ≤ H.size := by omega
  clear hz hk
  refine lv_ldc hx hb hown hk47 dL_isRefused_206 ?_
  refine lv_icmp_ne (tgt := 389) hx hb dL_isRefused_208 (by decide) (fun c_208 => (show False by exact absurd c_208 (by decide)).elim) (fun c_208 => ?_)
  refine lv_aload_n hx hb dL_isRefused_211 rfl (lv_at hl 4 rfl) ?_
  refine lv_iconst (v := nI 1) hx hb dL_isRefused_212 (by decide) ?_
  refine lv_iconst (v := nI 1) hx hb dL_isRefused_213 (by decide) ?_
  refine lv_iload_n hx hb dL_isRefused_214 rfl (lv_at hl 3 rfl) ?_
  refine zi_eq (tgt := 222) hx hb (by decide) dL_isRefused_215 (by decide) (fun c_215 => ?_) (fun c_215 => (show False by omega).elim)
  refine lv_ldc hx hb hown hk132 dL_isRefused_222 ?_
  refine zt_i (y := nI 1000001) rfl ?_
  refine k_setGrade_1_1_1000001 l hfl hx hb hml hown hts hK hP gL_isRefused_L_setGrade ⟨Nat.le_of_ble_eq_true rfl, Nat.le_of_ble_eq_true rfl⟩ ⟨Nat.le_of_ble_eq_true rfl, Nat.le_of_ble_eq_true rfl⟩ hl.1 (Nat.le_of_ble_eq_true rfl) dL_isRefused_224 hT hN hS (fun H locs hS hz hk => ?_)
  have hP := hP.kept (fun k q h => hk q.1 (hP k q h).lt)
  have hT := hT.kept (fun a h _ => hk a h)
  have hz9 : sz + 6 ≤ H.size := by omega
  clear hz hk
  refine lv_ldc hx hb hown hk47 dL_isRefused_227 ?_
  refine lv_icmp_ne (tgt := 389) hx hb dL_isRefused_229 (by decide) (fun c_229 => (show False by exact absurd c_229 (by decide)).elim) (fun c_229 => ?_)
  refine lv_aload_n hx hb dL_isRefused_232 rfl (lv_at hl 4 rfl) ?_
  refine lv_iconst (v := nI 1) hx hb dL_isRefused_233 (by decide) ?_
  refine lv_iload_n hx hb dL_isRefused_234 rfl (lv_at hl 3 rfl) ?_
  refine zi_eq (tgt := 242) hx hb (by decide) dL_isRefused_235 (by decide) (fun c_235 => ?_) (fun c_235 => (show False by omega).elim)
  refine lv_sipush (v := nI 201) hx hb dL_isRefused_242 (by decide) ?_
  refine lv_iload_n hx hb dL_isRefused_245 rfl (lv_at hl 6 rfl) ?_
  refine lv_bipush (v := nI 30) hx hb dL_isRefused_246 (by decide) ?_
  refine lv_irem hx hb dL_isRefused_248 (by decide) ?_
  refine zt_i (y := nI 1) (by decide) ?_
  refine lv_iadd hx hb dL_isRefused_249 ?_
  refine zt_i (y := nI 202) (by decide) ?_
  refine lv_iconst (v := nI 0) hx hb dL_isRefused_250 (by decide) ?_
  refine lv_iconst (v := nI 0) hx hb dL_isRefused_251 (by decide) ?_
  refine k_act_1_202_0_0 l hfl hx hb hml hown hts hK hP gL_isRefused_L_act ⟨Nat.le_of_ble_eq_true rfl, Nat.le_of_ble_eq_true rfl⟩ ⟨Nat.le_of_ble_eq_true rfl, Nat.le_of_ble_eq_true rfl⟩ hl.1 (Nat.le_of_ble_eq_true rfl) dL_isRefused_252 hT hN hS (fun H locs hS hz hk => ?_)
  have hP := hP.kept (fun k q h => hk q.1 (hP k q h).lt)
  have hT := hT.kept (fun a h _ => hk a h)
  have hz9 : sz + 7 ≤ H.size := by omega
  clear hz hk
  refine lv_ldc hx hb hown hk47 dL_isRefused_255 ?_
  refine lv_icmp_ne (tgt := 389) hx hb dL_isRefused_257 (by decide) (fun c_257 => (show False by exact absurd c_257 (by decide)).elim) (fun c_257 => ?_)
  refine lv_aload_n hx hb dL_isRefused_260 rfl (lv_at hl 4 rfl) ?_
  refine lv_iconst (v := nI 2) hx hb dL_isRefused_261 (by decide) ?_
  refine lv_iload_n hx hb dL_isRefused_262 rfl (lv_at hl 3 rfl) ?_
  refine zi_eq (tgt := 270) hx hb (by decide) dL_isRefused_263 (by decide) (fun c_263 => ?_) (fun c_263 => (show False by omega).elim)
  refine lv_ldc hx hb hown hk136 dL_isRefused_270 ?_
  refine zt_i (y := nI 100001) rfl ?_
  refine lv_iconst (v := nI 0) hx hb dL_isRefused_272 (by decide) ?_
  refine lv_iconst (v := nI 0) hx hb dL_isRefused_273 (by decide) ?_
  refine k_act_2_100001_0_0 l hfl hx hb hml hown hts hK hP gL_isRefused_L_act ⟨Nat.le_of_ble_eq_true rfl, Nat.le_of_ble_eq_true rfl⟩ ⟨Nat.le_of_ble_eq_true rfl, Nat.le_of_ble_eq_true rfl⟩ hl.1 (Nat.le_of_ble_eq_true rfl) dL_isRefused_274 hT hN hS (fun H locs hS hz hk => ?_)
  have hP := hP.kept (fun k q h => hk q.1 (hP k q h).lt)
  have hT := hT.kept (fun a h _ => hk a h)
  have hz9 : sz + 8 ≤ H.size := by omega
  clear hz hk
  refine lv_ldc hx hb hown hk47 dL_isRefused_277 ?_
  refine lv_icmp_ne (tgt := 389) hx hb dL_isRefused_279 (by decide) (fun c_279 => (show False by exact absurd c_279 (by decide)).elim) (fun c_279 => ?_)
  refine lv_aload_n hx hb dL_isRefused_282 rfl (lv_at hl 4 rfl) ?_
  refine lv_iconst (v := nI 3) hx hb dL_isRefused_283 (by decide) ?_
  refine lv_iload hx hb dL_isRefused_284 (lv_at hl 1 rfl) ?_
  refine lv_iconst (v := nI 0) hx hb dL_isRefused_286 (by decide) ?_
  refine lv_iconst (v := nI 0) hx hb dL_isRefused_287 (by decide) ?_
  refine k_act_3_1_0_0 l hfl hx hb hml hown hts hK hP gL_isRefused_L_act ⟨Nat.le_of_ble_eq_true rfl, Nat.le_of_ble_eq_true rfl⟩ ⟨Nat.le_of_ble_eq_true rfl, Nat.le_of_ble_eq_true rfl⟩ hl.1 (Nat.le_of_ble_eq_true rfl) dL_isRefused_288 hT hN hS (fun H locs hS hz hk => ?_)
  have hP := hP.kept (fun k q h => hk q.1 (hP k q h).lt)
  have hT := hT.kept (fun a h _ => hk a h)
  have hz9 : sz + 9 ≤ H.size := by omega
  clear hz hk
  refine lv_ldc hx hb hown hk44 dL_isRefused_291 ?_
  refine lv_icmp_ne (tgt := 389) hx hb dL_isRefused_293 (by decide) (fun c_293 => (show False by exact absurd c_293 (by decide)).elim) (fun c_293 => ?_)
  refine lv_aload_n hx hb dL_isRefused_296 rfl (lv_at hl 4 rfl) ?_
  refine lv_bipush (v := nI 8) hx hb dL_isRefused_297 (by decide) ?_
  refine lv_iload_n hx hb dL_isRefused_299 rfl (lv_at hl 3 rfl) ?_
  refine zi_eq (tgt := 307) hx hb (by decide) dL_isRefused_300 (by decide) (fun c_300 => ?_) (fun c_300 => (show False by omega).elim)
  refine lv_bipush (v := nI 30) hx hb dL_isRefused_307 (by decide) ?_
  refine lv_iconst (v := nI 0) hx hb dL_isRefused_309 (by decide) ?_
  refine lv_sipush (v := nI 300) hx hb dL_isRefused_310 (by decide) ?_
  refine k_act_8_30_0_300 l hfl hx hb hml hown hts hK hP gL_isRefused_L_act ⟨Nat.le_of_ble_eq_true rfl, Nat.le_of_ble_eq_true rfl⟩ ⟨Nat.le_of_ble_eq_true rfl, Nat.le_of_ble_eq_true rfl⟩ hl.1 (Nat.le_of_ble_eq_true rfl) dL_isRefused_313 hT hN hS (fun H locs hS hz hk => ?_)
  have hP := hP.kept (fun k q h => hk q.1 (hP k q h).lt)
  have hT := hT.kept (fun a h _ => hk a h)
  have hz9 : sz + 10 ≤ H.size := by omega
  clear hz hk
  refine lv_ldc hx hb hown hk44 dL_isRefused_316 ?_
  refine lv_icmp_ne (tgt := 389) hx hb dL_isRefused_318 (by decide) (fun c_318 => (show False by exact absurd c_318 (by decide)).elim) (fun c_318 => ?_)
  refine lv_aload_n hx hb dL_isRefused_321 rfl (lv_at hl 4 rfl) ?_
  refine lv_bipush (v := nI 8) hx hb dL_isRefused_322 (by decide) ?_
  refine lv_iconst (v := nI 0) hx hb dL_isRefused_324 (by decide) ?_
  refine lv_iload_n hx hb dL_isRefused_325 rfl (lv_at hl 3 rfl) ?_
  refine zi_eq (tgt := 333) hx hb (by decide) dL_isRefused_326 (by decide) (fun c_326 => ?_) (fun c_326 => (show False by omega).elim)
  refine lv_iconst (v := nI 5) hx hb dL_isRefused_333 (by decide) ?_
  refine lv_sipush (v := nI 300) hx hb dL_isRefused_334 (by decide) ?_
  refine k_act_8_0_5_300 l hfl hx hb hml hown hts hK hP gL_isRefused_L_act ⟨Nat.le_of_ble_eq_true rfl, Nat.le_of_ble_eq_true rfl⟩ ⟨Nat.le_of_ble_eq_true rfl, Nat.le_of_ble_eq_true rfl⟩ hl.1 (Nat.le_of_ble_eq_true rfl) dL_isRefused_337 hT hN hS (fun H locs hS hz hk => ?_)
  have hP := hP.kept (fun k q h => hk q.1 (hP k q h).lt)
  have hT := hT.kept (fun a h _ => hk a h)
  have hz9 : sz + 11 ≤ H.size := by omega
  clear hz hk
  refine lv_ldc hx hb hown hk44 dL_isRefused_340 ?_
  refine lv_icmp_ne (tgt := 389) hx hb dL_isRefused_342 (by decide) (fun c_342 => (show False by exact absurd c_342 (by decide)).elim) (fun c_342 => ?_)
  refine lv_aload_n hx hb dL_isRefused_345 rfl (lv_at hl 4 rfl) ?_
  refine lv_bipush (v := nI 8) hx hb dL_isRefused_346 (by decide) ?_
  refine lv_iconst (v := nI 0) hx hb dL_isRefused_348 (by decide) ?_
  refine lv_iconst (v := nI 0) hx hb dL_isRefused_349 (by decide) ?_
  refine lv_bipush (v := nI 101) hx hb dL_isRefused_350 (by decide) ?_
  refine lv_iload_n hx hb dL_isRefused_352 rfl (lv_at hl 6 rfl) ?_
  refine lv_bipush (v := nI 30) hx hb dL_isRefused_353 (by decide) ?_
  refine lv_irem hx hb dL_isRefused_355 (by decide) ?_
  refine zt_i (y := nI 1) (by decide) ?_
  refine lv_iadd hx hb dL_isRefused_356 ?_
  refine zt_i (y := nI 102) (by decide) ?_
  refine k_act_8_0_0_102 l hfl hx hb hml hown hts hK hP gL_isRefused_L_act ⟨Nat.le_of_ble_eq_true rfl, Nat.le_of_ble_eq_true rfl⟩ ⟨Nat.le_of_ble_eq_true rfl, Nat.le_of_ble_eq_true rfl⟩ hl.1 (Nat.le_of_ble_eq_true rfl) dL_isRefused_357 hT hN hS (fun H locs hS hz hk => ?_)
  have hP := hP.kept (fun k q h => hk q.1 (hP k q h).lt)
  have hT := hT.kept (fun a h _ => hk a h)
  have hz9 : sz + 12 ≤ H.size := by omega
  clear hz hk
  refine lv_ldc hx hb hown hk47 dL_isRefused_360 ?_
  refine lv_icmp_ne (tgt := 389) hx hb dL_isRefused_362 (by decide) (fun c_362 => (show False by exact absurd c_362 (by decide)).elim) (fun c_362 => ?_)
  refine lv_aload_n hx hb dL_isRefused_365 rfl (lv_at hl 4 rfl) ?_
  refine lv_bipush (v := nI 8) hx hb dL_isRefused_366 (by decide) ?_
  refine lv_iconst (v := nI 0) hx hb dL_isRefused_368 (by decide) ?_
  refine lv_iconst (v := nI 0) hx hb dL_isRefused_369 (by decide) ?_
  refine lv_bipush (v := (-102)) hx hb dL_isRefused_370 (by decide) ?_
  refine lv_iload_n hx hb dL_isRefused_372 rfl (lv_at hl 6 rfl) ?_
  refine lv_bipush (v := nI 30) hx hb dL_isRefused_373 (by decide) ?_
  refine lv_irem hx hb dL_isRefused_375 (by decide) ?_
  refine zt_i (y := nI 1) (by decide) ?_
  refine lv_isub hx hb dL_isRefused_376 ?_
  refine zt_i (y := (-103)) (by decide) ?_
  refine k_act_8_0_0_m103 l hfl hx hb hml hown hts hK hP gL_isRefused_L_act ⟨Nat.le_of_ble_eq_true rfl, Nat.le_of_ble_eq_true rfl⟩ ⟨Nat.le_of_ble_eq_true rfl, Nat.le_of_ble_eq_true rfl⟩ hl.1 (Nat.le_of_ble_eq_true rfl) dL_isRefused_377 hT hN hS (fun H locs hS hz hk => ?_)
  have hP := hP.kept (fun k q h => hk q.1 (hP k q h).lt)
  have hT := hT.kept (fun a h _ => hk a h)
  have hz9 : sz + 13 ≤ H.size := by omega
  clear hz hk
  refine lv_ldc hx hb hown hk47 dL_isRefused_380 ?_
  refine lv_icmp_ne (tgt := 389) hx hb dL_isRefused_382 (by decide) (fun c_382 => (show False by exact absurd c_382 (by decide)).elim) (fun c_382 => ?_)
  refine lv_iconst (v := nI 1) hx hb dL_isRefused_385 (by decide) ?_
  refine lv_goto (tgt := 390) hx hb dL_isRefused_386 (by decide) ?_
  refine lv_istore (lv' := [(8, .int (nI 1)), (6, .long (allZ sm fe ex dy ya ys)), (5, .int (nI 1)), (4, .int (nI 1)), (3, .int (nI 0)), (0, .ref (ad 0)), (1, .ref w9), (2, .int (nI 1))]) hx hb dL_isRefused_390 hl (by decide) rfl (fun ls hl => ?_)
  refine lv_iconst (v := nI 4) hx hb dL_isRefused_392 (by decide) ?_
  refine lv_istore (lv' := [(9, .int (nI 4)), (8, .int (nI 1)), (6, .long (allZ sm fe ex dy ya ys)), (5, .int (nI 1)), (4, .int (nI 1)), (3, .int (nI 0)), (0, .ref (ad 0)), (1, .ref w9), (2, .int (nI 1))]) hx hb dL_isRefused_393 hl (by decide) rfl (fun ls hl => ?_)
  refine lv_iload hx hb dL_isRefused_395 (lv_at hl 0 rfl) ?_
  refine lv_bipush (v := nI 8) hx hb dL_isRefused_397 (by decide) ?_
  refine zb_ge (tgt := 435) hx hb (by decide) (by decide) dL_isRefused_399 (by decide) (fun c_399 => (show False by omega).elim) (fun c_399 => ?_)
  refine lv_iload hx hb dL_isRefused_402 (lv_at hl 1 rfl) ?_
  refine zi_eq (tgt := 435) hx hb (by decide) dL_isRefused_404 (by decide) (fun c_404 => (show False by omega).elim) (fun c_404 => ?_)
  refine lv_aload_n hx hb dL_isRefused_407 rfl (lv_at hl 6 rfl) ?_
  refine lv_iload hx hb dL_isRefused_408 (lv_at hl 0 rfl) ?_
  refine lv_iload hx hb dL_isRefused_410 (lv_at hl 4 rfl) ?_
  refine lv_iconst (v := nI 1) hx hb dL_isRefused_412 (by decide) ?_
  refine lv_iconst (v := nI 0) hx hb dL_isRefused_413 (by decide) ?_
  refine k_act_4_1_1_0 l hfl hx hb hml hown hts hK hP gL_isRefused_L_act ⟨Nat.le_of_ble_eq_true rfl, Nat.le_of_ble_eq_true rfl⟩ ⟨Nat.le_of_ble_eq_true rfl, Nat.le_of_ble_eq_true rfl⟩ hl.1 (Nat.le_of_ble_eq_true rfl) dL_isRefused_414 hT hN hS (fun H locs hS hz hk => ?_)
  have hP := hP.kept (fun k q h => hk q.1 (hP k q h).lt)
  have hT := hT.kept (fun a h _ => hk a h)
  have hz9 : sz + 14 ≤ H.size := by omega
  clear hz hk
  refine lv_ldc hx hb hown hk44 dL_isRefused_417 ?_
  refine lv_icmp_ne (tgt := 426) hx hb dL_isRefused_419 (by decide) (fun c_419 => (show False by exact absurd c_419 (by decide)).elim) (fun c_419 => ?_)
  refine lv_iconst (v := nI 1) hx hb dL_isRefused_422 (by decide) ?_
  refine lv_goto (tgt := 427) hx hb dL_isRefused_423 (by decide) ?_
  refine lv_istore (lv' := [(8, .int (nI 1)), (9, .int (nI 4)), (6, .long (allZ sm fe ex dy ya ys)), (5, .int (nI 1)), (4, .int (nI 1)), (3, .int (nI 0)), (0, .ref (ad 0)), (1, .ref w9), (2, .int (nI 1))]) hx hb dL_isRefused_427 hl (by decide) rfl (fun ls hl => ?_)
  refine lv_iinc (v := nI 5) (lv' := [(9, .int (nI 5)), (8, .int (nI 1)), (6, .long (allZ sm fe ex dy ya ys)), (5, .int (nI 1)), (4, .int (nI 1)), (3, .int (nI 0)), (0, .ref (ad 0)), (1, .ref w9), (2, .int (nI 1))]) hx hb dL_isRefused_429 hl (k := 1) rfl (zz_inc _) (by decide) rfl (fun ls hl => ?_)
  refine lv_goto (tgt := 395) hx hb dL_isRefused_432 (by decide) ?_
  refine lv_iload hx hb dL_isRefused_395 (lv_at hl 0 rfl) ?_
  refine lv_bipush (v := nI 8) hx hb dL_isRefused_397 (by decide) ?_
  refine zb_ge (tgt := 435) hx hb (by decide) (by decide) dL_isRefused_399 (by decide) (fun c_399_1 => (show False by omega).elim) (fun c_399_1 => ?_)
  refine lv_iload hx hb dL_isRefused_402 (lv_at hl 1 rfl) ?_
  refine zi_eq (tgt := 435) hx hb (by decide) dL_isRefused_404 (by decide) (fun c_404_2 => (show False by omega).elim) (fun c_404_2 => ?_)
  refine lv_aload_n hx hb dL_isRefused_407 rfl (lv_at hl 6 rfl) ?_
  refine lv_iload hx hb dL_isRefused_408 (lv_at hl 0 rfl) ?_
  refine lv_iload hx hb dL_isRefused_410 (lv_at hl 4 rfl) ?_
  refine lv_iconst (v := nI 1) hx hb dL_isRefused_412 (by decide) ?_
  refine lv_iconst (v := nI 0) hx hb dL_isRefused_413 (by decide) ?_
  refine k_act_5_1_1_0 l hfl hx hb hml hown hts hK hP gL_isRefused_L_act ⟨Nat.le_of_ble_eq_true rfl, Nat.le_of_ble_eq_true rfl⟩ ⟨Nat.le_of_ble_eq_true rfl, Nat.le_of_ble_eq_true rfl⟩ hl.1 (Nat.le_of_ble_eq_true rfl) dL_isRefused_414 hT hN hS (fun H locs hS hz hk => ?_)
  have hP := hP.kept (fun k q h => hk q.1 (hP k q h).lt)
  have hT := hT.kept (fun a h _ => hk a h)
  have hz9 : sz + 15 ≤ H.size := by omega
  clear hz hk
  refine lv_ldc hx hb hown hk44 dL_isRefused_417 ?_
  refine lv_icmp_ne (tgt := 426) hx hb dL_isRefused_419 (by decide) (fun c_419_3 => (show False by exact absurd c_419_3 (by decide)).elim) (fun c_419_3 => ?_)
  refine lv_iconst (v := nI 1) hx hb dL_isRefused_422 (by decide) ?_
  refine lv_goto (tgt := 427) hx hb dL_isRefused_423 (by decide) ?_
  refine lv_istore (lv' := [(8, .int (nI 1)), (9, .int (nI 5)), (6, .long (allZ sm fe ex dy ya ys)), (5, .int (nI 1)), (4, .int (nI 1)), (3, .int (nI 0)), (0, .ref (ad 0)), (1, .ref w9), (2, .int (nI 1))]) hx hb dL_isRefused_427 hl (by decide) rfl (fun ls hl => ?_)
  refine lv_iinc (v := nI 6) (lv' := [(9, .int (nI 6)), (8, .int (nI 1)), (6, .long (allZ sm fe ex dy ya ys)), (5, .int (nI 1)), (4, .int (nI 1)), (3, .int (nI 0)), (0, .ref (ad 0)), (1, .ref w9), (2, .int (nI 1))]) hx hb dL_isRefused_429 hl (k := 1) rfl (zz_inc _) (by decide) rfl (fun ls hl => ?_)
  refine lv_goto (tgt := 395) hx hb dL_isRefused_432 (by decide) ?_
  refine lv_iload hx hb dL_isRefused_395 (lv_at hl 0 rfl) ?_
  refine lv_bipush (v := nI 8) hx hb dL_isRefused_397 (by decide) ?_
  refine zb_ge (tgt := 435) hx hb (by decide) (by decide) dL_isRefused_399 (by decide) (fun c_399_4 => (show False by omega).elim) (fun c_399_4 => ?_)
  refine lv_iload hx hb dL_isRefused_402 (lv_at hl 1 rfl) ?_
  refine zi_eq (tgt := 435) hx hb (by decide) dL_isRefused_404 (by decide) (fun c_404_5 => (show False by omega).elim) (fun c_404_5 => ?_)
  refine lv_aload_n hx hb dL_isRefused_407 rfl (lv_at hl 6 rfl) ?_
  refine lv_iload hx hb dL_isRefused_408 (lv_at hl 0 rfl) ?_
  refine lv_iload hx hb dL_isRefused_410 (lv_at hl 4 rfl) ?_
  refine lv_iconst (v := nI 1) hx hb dL_isRefused_412 (by decide) ?_
  refine lv_iconst (v := nI 0) hx hb dL_isRefused_413 (by decide) ?_
  refine k_act_6_1_1_0 l hfl hx hb hml hown hts hK hP gL_isRefused_L_act ⟨Nat.le_of_ble_eq_true rfl, Nat.le_of_ble_eq_true rfl⟩ ⟨Nat.le_of_ble_eq_true rfl, Nat.le_of_ble_eq_true rfl⟩ hl.1 (Nat.le_of_ble_eq_true rfl) dL_isRefused_414 hT hN hS (fun H locs hS hz hk => ?_)
  have hP := hP.kept (fun k q h => hk q.1 (hP k q h).lt)
  have hT := hT.kept (fun a h _ => hk a h)
  have hz9 : sz + 16 ≤ H.size := by omega
  clear hz hk
  refine lv_ldc hx hb hown hk44 dL_isRefused_417 ?_
  refine lv_icmp_ne (tgt := 426) hx hb dL_isRefused_419 (by decide) (fun c_419_6 => (show False by exact absurd c_419_6 (by decide)).elim) (fun c_419_6 => ?_)
  refine lv_iconst (v := nI 1) hx hb dL_isRefused_422 (by decide) ?_
  refine lv_goto (tgt := 427) hx hb dL_isRefused_423 (by decide) ?_
  refine lv_istore (lv' := [(8, .int (nI 1)), (9, .int (nI 6)), (6, .long (allZ sm fe ex dy ya ys)), (5, .int (nI 1)), (4, .int (nI 1)), (3, .int (nI 0)), (0, .ref (ad 0)), (1, .ref w9), (2, .int (nI 1))]) hx hb dL_isRefused_427 hl (by decide) rfl (fun ls hl => ?_)
  refine lv_iinc (v := nI 7) (lv' := [(9, .int (nI 7)), (8, .int (nI 1)), (6, .long (allZ sm fe ex dy ya ys)), (5, .int (nI 1)), (4, .int (nI 1)), (3, .int (nI 0)), (0, .ref (ad 0)), (1, .ref w9), (2, .int (nI 1))]) hx hb dL_isRefused_429 hl (k := 1) rfl (zz_inc _) (by decide) rfl (fun ls hl => ?_)
  refine lv_goto (tgt := 395) hx hb dL_isRefused_432 (by decide) ?_
  refine lv_iload hx hb dL_isRefused_395 (lv_at hl 0 rfl) ?_
  refine lv_bipush (v := nI 8) hx hb dL_isRefused_397 (by decide) ?_
  refine zb_ge (tgt := 435) hx hb (by decide) (by decide) dL_isRefused_399 (by decide) (fun c_399_7 => (show False by omega).elim) (fun c_399_7 => ?_)
  refine lv_iload hx hb dL_isRefused_402 (lv_at hl 1 rfl) ?_
  refine zi_eq (tgt := 435) hx hb (by decide) dL_isRefused_404 (by decide) (fun c_404_8 => (show False by omega).elim) (fun c_404_8 => ?_)
  refine lv_aload_n hx hb dL_isRefused_407 rfl (lv_at hl 6 rfl) ?_
  refine lv_iload hx hb dL_isRefused_408 (lv_at hl 0 rfl) ?_
  refine lv_iload hx hb dL_isRefused_410 (lv_at hl 4 rfl) ?_
  refine lv_iconst (v := nI 1) hx hb dL_isRefused_412 (by decide) ?_
  refine lv_iconst (v := nI 0) hx hb dL_isRefused_413 (by decide) ?_
  refine k_act_7_1_1_0 l hfl hx hb hml hown hts hK hP gL_isRefused_L_act ⟨Nat.le_of_ble_eq_true rfl, Nat.le_of_ble_eq_true rfl⟩ ⟨Nat.le_of_ble_eq_true rfl, Nat.le_of_ble_eq_true rfl⟩ hl.1 (Nat.le_of_ble_eq_true rfl) dL_isRefused_414 hT hN hS (fun H locs hS hz hk => ?_)
  have hP := hP.kept (fun k q h => hk q.1 (hP k q h).lt)
  have hT := hT.kept (fun a h _ => hk a h)
  have hz9 : sz + 17 ≤ H.size := by omega
  clear hz hk
  refine lv_ldc hx hb hown hk44 dL_isRefused_417 ?_
  refine lv_icmp_ne (tgt := 426) hx hb dL_isRefused_419 (by decide) (fun c_419_9 => (show False by exact absurd c_419_9 (by decide)).elim) (fun c_419_9 => ?_)
  refine lv_iconst (v := nI 1) hx hb dL_isRefused_422 (by decide) ?_
  refine lv_goto (tgt := 427) hx hb dL_isRefused_423 (by decide) ?_
  refine lv_istore (lv' := [(8, .int (nI 1)), (9, .int (nI 7)), (6, .long (allZ sm fe ex dy ya ys)), (5, .int (nI 1)), (4, .int (nI 1)), (3, .int (nI 0)), (0, .ref (ad 0)), (1, .ref w9), (2, .int (nI 1))]) hx hb dL_isRefused_427 hl (by decide) rfl (fun ls hl => ?_)
  refine lv_iinc (v := nI 8) (lv' := [(9, .int (nI 8)), (8, .int (nI 1)), (6, .long (allZ sm fe ex dy ya ys)), (5, .int (nI 1)), (4, .int (nI 1)), (3, .int (nI 0)), (0, .ref (ad 0)), (1, .ref w9), (2, .int (nI 1))]) hx hb dL_isRefused_429 hl (k := 1) rfl (zz_inc _) (by decide) rfl (fun ls hl => ?_)
  refine lv_goto (tgt := 395) hx hb dL_isRefused_432 (by decide) ?_
  refine lv_iload hx hb dL_isRefused_395 (lv_at hl 0 rfl) ?_
  refine lv_bipush (v := nI 8) hx hb dL_isRefused_397 (by decide) ?_
  refine zb_ge (tgt := 435) hx hb (by decide) (by decide) dL_isRefused_399 (by decide) (fun c_399_10 => ?_) (fun c_399_10 => (show False by omega).elim)
  refine lv_iconst (v := nI 0) hx hb dL_isRefused_435 (by decide) ?_
  refine lv_istore (lv' := [(9, .int (nI 0)), (8, .int (nI 1)), (6, .long (allZ sm fe ex dy ya ys)), (5, .int (nI 1)), (4, .int (nI 1)), (3, .int (nI 0)), (0, .ref (ad 0)), (1, .ref w9), (2, .int (nI 1))]) hx hb dL_isRefused_436 hl (by decide) rfl (fun ls hl => ?_)
  refine lv_iload hx hb dL_isRefused_438 (lv_at hl 0 rfl) ?_
  refine lv_bipush (v := nI 11) hx hb dL_isRefused_440 (by decide) ?_
  refine zb_ge (tgt := 553) hx hb (by decide) (by decide) dL_isRefused_442 (by decide) (fun c_442 => (show False by omega).elim) (fun c_442 => ?_)
  refine lv_iload hx hb dL_isRefused_445 (lv_at hl 1 rfl) ?_
  refine zi_eq (tgt := 553) hx hb (by decide) dL_isRefused_447 (by decide) (fun c_447 => (show False by omega).elim) (fun c_447 => ?_)
  refine lv_iload hx hb dL_isRefused_450 (lv_at hl 0 rfl) ?_
  refine zi_ne (tgt := 473) hx hb (by decide) dL_isRefused_452 (by decide) (fun c_452 => (show False by omega).elim) (fun c_452 => ?_)
  refine lv_iload_n hx hb dL_isRefused_455 rfl (lv_at hl 5 rfl) ?_
  refine zi_eq (tgt := 463) hx hb (by decide) dL_isRefused_456 (by decide) (fun c_456 => ?_) (fun c_456 => (show False by omega).elim)
  refine lv_bipush (v := nI 30) hx hb dL_isRefused_463 (by decide) ?_
  refine lv_iload_n hx hb dL_isRefused_465 rfl (lv_at hl 8 rfl) ?_
  refine lv_bipush (v := nI 30) hx hb dL_isRefused_466 (by decide) ?_
  refine lv_irem hx hb dL_isRefused_468 (by decide) ?_
  refine zt_i (y := nI 1) (by decide) ?_
  refine lv_iadd hx hb dL_isRefused_469 ?_
  refine zt_i (y := nI 31) (by decide) ?_
  refine lv_goto (tgt := 512) hx hb dL_isRefused_470 (by decide) ?_
  refine lv_istore (lv' := [(10, .int (nI 31)), (9, .int (nI 0)), (8, .int (nI 1)), (6, .long (allZ sm fe ex dy ya ys)), (5, .int (nI 1)), (4, .int (nI 1)), (3, .int (nI 0)), (0, .ref (ad 0)), (1, .ref w9), (2, .int (nI 1))]) hx hb dL_isRefused_512 hl (by decide) rfl (fun ls hl => ?_)
  refine lv_aload_n hx hb dL_isRefused_514 rfl (lv_at hl 7 rfl) ?_
  refine lv_iload hx hb dL_isRefused_515 (lv_at hl 1 rfl) ?_
  refine lv_iload hx hb dL_isRefused_517 (lv_at hl 0 rfl) ?_
  refine lv_iconst (v := (-1)) hx hb dL_isRefused_519 (by decide) ?_
  refine k_of_0_31_m1 l hfl hx hb hml hown hts hK hP gL_isRefused_L_of ⟨Nat.le_of_ble_eq_true rfl, Nat.le_of_ble_eq_true rfl⟩ ⟨Nat.le_of_ble_eq_true rfl, Nat.le_of_ble_eq_true rfl⟩ hl.1 (Nat.le_of_ble_eq_true rfl) dL_isRefused_520 hT hN hS (fun H locs hS hz hk => ?_)
  have hP := hP.kept (fun k q h => hk q.1 (hP k q h).lt)
  have hT := hT.kept (fun a h _ => hk a h)
  have hz9 : sz + 18 ≤ H.size := by omega
  clear hz hk
  refine lv_iload hx hb dL_isRefused_523 (lv_at hl 1 rfl) ?_
  refine lv_bipush (v := nI 10) hx hb dL_isRefused_525 (by decide) ?_
  refine zb_ne (tgt := 535) hx hb (by decide) (by decide) dL_isRefused_527 (by decide) (fun c_527 => ?_) (fun c_527 => (show False by omega).elim)
  refine lv_ldc hx hb hown hk44 dL_isRefused_535 ?_
  refine lv_icmp_ne (tgt := 544) hx hb dL_isRefused_537 (by decide) (fun c_537 => (show False by exact absurd c_537 (by decide)).elim) (fun c_537 => ?_)
  refine lv_iconst (v := nI 1) hx hb dL_isRefused_540 (by decide) ?_
  refine lv_goto (tgt := 545) hx hb dL_isRefused_541 (by decide) ?_
  refine lv_istore (lv' := [(8, .int (nI 1)), (10, .int (nI 31)), (9, .int (nI 0)), (6, .long (allZ sm fe ex dy ya ys)), (5, .int (nI 1)), (4, .int (nI 1)), (3, .int (nI 0)), (0, .ref (ad 0)), (1, .ref w9), (2, .int (nI 1))]) hx hb dL_isRefused_545 hl (by decide) rfl (fun ls hl => ?_)
  refine lv_iinc (v := nI 1) (lv' := [(9, .int (nI 1)), (8, .int (nI 1)), (10, .int (nI 31)), (6, .long (allZ sm fe ex dy ya ys)), (5, .int (nI 1)), (4, .int (nI 1)), (3, .int (nI 0)), (0, .ref (ad 0)), (1, .ref w9), (2, .int (nI 1))]) hx hb dL_isRefused_547 hl (k := 2) rfl (zz_inc _) (by decide) rfl (fun ls hl => ?_)
  refine lv_goto (tgt := 438) hx hb dL_isRefused_550 (by decide) ?_
  refine lv_iload hx hb dL_isRefused_438 (lv_at hl 0 rfl) ?_
  refine lv_bipush (v := nI 11) hx hb dL_isRefused_440 (by decide) ?_
  refine zb_ge (tgt := 553) hx hb (by decide) (by decide) dL_isRefused_442 (by decide) (fun c_442_11 => (show False by omega).elim) (fun c_442_11 => ?_)
  refine lv_iload hx hb dL_isRefused_445 (lv_at hl 1 rfl) ?_
  refine zi_eq (tgt := 553) hx hb (by decide) dL_isRefused_447 (by decide) (fun c_447_12 => (show False by omega).elim) (fun c_447_12 => ?_)
  refine lv_iload hx hb dL_isRefused_450 (lv_at hl 0 rfl) ?_
  refine zi_ne (tgt := 473) hx hb (by decide) dL_isRefused_452 (by decide) (fun c_452_13 => ?_) (fun c_452_13 => (show False by omega).elim)
  refine lv_iload hx hb dL_isRefused_473 (lv_at hl 0 rfl) ?_
  refine lv_iconst (v := nI 4) hx hb dL_isRefused_475 (by decide) ?_
  refine zb_le (tgt := 491) hx hb (by decide) (by decide) dL_isRefused_476 (by decide) (fun c_476 => ?_) (fun c_476 => (show False by omega).elim)
  refine lv_iload hx hb dL_isRefused_491 (lv_at hl 0 rfl) ?_
  refine lv_bipush (v := nI 10) hx hb dL_isRefused_493 (by decide) ?_
  refine zb_ne (tgt := 510) hx hb (by decide) (by decide) dL_isRefused_495 (by decide) (fun c_495 => ?_) (fun c_495 => (show False by omega).elim)
  refine lv_iload hx hb dL_isRefused_510 (lv_at hl 5 rfl) ?_
  refine lv_istore (lv' := [(10, .int (nI 1)), (9, .int (nI 1)), (8, .int (nI 1)), (6, .long (allZ sm fe ex dy ya ys)), (5, .int (nI 1)), (4, .int (nI 1)), (3, .int (nI 0)), (0, .ref (ad 0)), (1, .ref w9), (2, .int (nI 1))]) hx hb dL_isRefused_512 hl (by decide) rfl (fun ls hl => ?_)
  refine lv_aload_n hx hb dL_isRefused_514 rfl (lv_at hl 7 rfl) ?_
  refine lv_iload hx hb dL_isRefused_515 (lv_at hl 1 rfl) ?_
  refine lv_iload hx hb dL_isRefused_517 (lv_at hl 0 rfl) ?_
  refine lv_iconst (v := (-1)) hx hb dL_isRefused_519 (by decide) ?_
  refine k_of_1_1_m1 l hfl hx hb hml hown hts hK hP gL_isRefused_L_of ⟨Nat.le_of_ble_eq_true rfl, Nat.le_of_ble_eq_true rfl⟩ ⟨Nat.le_of_ble_eq_true rfl, Nat.le_of_ble_eq_true rfl⟩ hl.1 (Nat.le_of_ble_eq_true rfl) dL_isRefused_520 hT hN hS (fun H locs hS hz hk => ?_)
  have hP := hP.kept (fun k q h => hk q.1 (hP k q h).lt)
  have hT := hT.kept (fun a h _ => hk a h)
  have hz9 : sz + 19 ≤ H.size := by omega
  clear hz hk
  refine lv_iload hx hb dL_isRefused_523 (lv_at hl 1 rfl) ?_
  refine lv_bipush (v := nI 10) hx hb dL_isRefused_525 (by decide) ?_
  refine zb_ne (tgt := 535) hx hb (by decide) (by decide) dL_isRefused_527 (by decide) (fun c_527_14 => ?_) (fun c_527_14 => (show False by omega).elim)
  refine lv_ldc hx hb hown hk44 dL_isRefused_535 ?_
  refine lv_icmp_ne (tgt := 544) hx hb dL_isRefused_537 (by decide) (fun c_537_15 => (show False by exact absurd c_537_15 (by decide)).elim) (fun c_537_15 => ?_)
  refine lv_iconst (v := nI 1) hx hb dL_isRefused_540 (by decide) ?_
  refine lv_goto (tgt := 545) hx hb dL_isRefused_541 (by decide) ?_
  refine lv_istore (lv' := [(8, .int (nI 1)), (10, .int (nI 1)), (9, .int (nI 1)), (6, .long (allZ sm fe ex dy ya ys)), (5, .int (nI 1)), (4, .int (nI 1)), (3, .int (nI 0)), (0, .ref (ad 0)), (1, .ref w9), (2, .int (nI 1))]) hx hb dL_isRefused_545 hl (by decide) rfl (fun ls hl => ?_)
  refine lv_iinc (v := nI 2) (lv' := [(9, .int (nI 2)), (8, .int (nI 1)), (10, .int (nI 1)), (6, .long (allZ sm fe ex dy ya ys)), (5, .int (nI 1)), (4, .int (nI 1)), (3, .int (nI 0)), (0, .ref (ad 0)), (1, .ref w9), (2, .int (nI 1))]) hx hb dL_isRefused_547 hl (k := 2) rfl (zz_inc _) (by decide) rfl (fun ls hl => ?_)
  refine lv_goto (tgt := 438) hx hb dL_isRefused_550 (by decide) ?_
  refine lv_iload hx hb dL_isRefused_438 (lv_at hl 0 rfl) ?_
  refine lv_bipush (v := nI 11) hx hb dL_isRefused_440 (by decide) ?_
  refine zb_ge (tgt := 553) hx hb (by decide) (by decide) dL_isRefused_442 (by decide) (fun c_442_16 => (show False by omega).elim) (fun c_442_16 => ?_)
  refine lv_iload hx hb dL_isRefused_445 (lv_at hl 1 rfl) ?_
  refine zi_eq (tgt := 553) hx hb (by decide) dL_isRefused_447 (by decide) (fun c_447_17 => (show False by omega).elim) (fun c_447_17 => ?_)
  refine lv_iload hx hb dL_isRefused_450 (lv_at hl 0 rfl) ?_
  refine zi_ne (tgt := 473) hx hb (by decide) dL_isRefused_452 (by decide) (fun c_452_18 => ?_) (fun c_452_18 => (show False by omega).elim)
  refine lv_iload hx hb dL_isRefused_473 (lv_at hl 0 rfl) ?_
  refine lv_iconst (v := nI 4) hx hb dL_isRefused_475 (by decide) ?_
  refine zb_le (tgt := 491) hx hb (by decide) (by decide) dL_isRefused_476 (by decide) (fun c_476_19 => ?_) (fun c_476_19 => (show False by omega).elim)
  refine lv_iload hx hb dL_isRefused_491 (lv_at hl 0 rfl) ?_
  refine lv_bipush (v := nI 10) hx hb dL_isRefused_493 (by decide) ?_
  refine zb_ne (tgt := 510) hx hb (by decide) (by decide) dL_isRefused_495 (by decide) (fun c_495_20 => ?_) (fun c_495_20 => (show False by omega).elim)
  refine lv_iload hx hb dL_isRefused_510 (lv_at hl 5 rfl) ?_
  refine lv_istore (lv' := [(10, .int (nI 1)), (9, .int (nI 2)), (8, .int (nI 1)), (6, .long (allZ sm fe ex dy ya ys)), (5, .int (nI 1)), (4, .int (nI 1)), (3, .int (nI 0)), (0, .ref (ad 0)), (1, .ref w9), (2, .int (nI 1))]) hx hb dL_isRefused_512 hl (by decide) rfl (fun ls hl => ?_)
  refine lv_aload_n hx hb dL_isRefused_514 rfl (lv_at hl 7 rfl) ?_
  refine lv_iload hx hb dL_isRefused_515 (lv_at hl 1 rfl) ?_
  refine lv_iload hx hb dL_isRefused_517 (lv_at hl 0 rfl) ?_
  refine lv_iconst (v := (-1)) hx hb dL_isRefused_519 (by decide) ?_
  refine k_of_2_1_m1 l hfl hx hb hml hown hts hK hP gL_isRefused_L_of ⟨Nat.le_of_ble_eq_true rfl, Nat.le_of_ble_eq_true rfl⟩ ⟨Nat.le_of_ble_eq_true rfl, Nat.le_of_ble_eq_true rfl⟩ hl.1 (Nat.le_of_ble_eq_true rfl) dL_isRefused_520 hT hN hS (fun H locs hS hz hk => ?_)
  have hP := hP.kept (fun k q h => hk q.1 (hP k q h).lt)
  have hT := hT.kept (fun a h _ => hk a h)
  have hz9 : sz + 20 ≤ H.size := by omega
  clear hz hk
  refine lv_iload hx hb dL_isRefused_523 (lv_at hl 1 rfl) ?_
  refine lv_bipush (v := nI 10) hx hb dL_isRefused_525 (by decide) ?_
  refine zb_ne (tgt := 535) hx hb (by decide) (by decide) dL_isRefused_527 (by decide) (fun c_527_21 => ?_) (fun c_527_21 => (show False by omega).elim)
  refine lv_ldc hx hb hown hk44 dL_isRefused_535 ?_
  refine lv_icmp_ne (tgt := 544) hx hb dL_isRefused_537 (by decide) (fun c_537_22 => (show False by exact absurd c_537_22 (by decide)).elim) (fun c_537_22 => ?_)
  refine lv_iconst (v := nI 1) hx hb dL_isRefused_540 (by decide) ?_
  refine lv_goto (tgt := 545) hx hb dL_isRefused_541 (by decide) ?_
  refine lv_istore (lv' := [(8, .int (nI 1)), (10, .int (nI 1)), (9, .int (nI 2)), (6, .long (allZ sm fe ex dy ya ys)), (5, .int (nI 1)), (4, .int (nI 1)), (3, .int (nI 0)), (0, .ref (ad 0)), (1, .ref w9), (2, .int (nI 1))]) hx hb dL_isRefused_545 hl (by decide) rfl (fun ls hl => ?_)
  refine lv_iinc (v := nI 3) (lv' := [(9, .int (nI 3)), (8, .int (nI 1)), (10, .int (nI 1)), (6, .long (allZ sm fe ex dy ya ys)), (5, .int (nI 1)), (4, .int (nI 1)), (3, .int (nI 0)), (0, .ref (ad 0)), (1, .ref w9), (2, .int (nI 1))]) hx hb dL_isRefused_547 hl (k := 2) rfl (zz_inc _) (by decide) rfl (fun ls hl => ?_)
  refine lv_goto (tgt := 438) hx hb dL_isRefused_550 (by decide) ?_
  refine lv_iload hx hb dL_isRefused_438 (lv_at hl 0 rfl) ?_
  refine lv_bipush (v := nI 11) hx hb dL_isRefused_440 (by decide) ?_
  refine zb_ge (tgt := 553) hx hb (by decide) (by decide) dL_isRefused_442 (by decide) (fun c_442_23 => (show False by omega).elim) (fun c_442_23 => ?_)
  refine lv_iload hx hb dL_isRefused_445 (lv_at hl 1 rfl) ?_
  refine zi_eq (tgt := 553) hx hb (by decide) dL_isRefused_447 (by decide) (fun c_447_24 => (show False by omega).elim) (fun c_447_24 => ?_)
  refine lv_iload hx hb dL_isRefused_450 (lv_at hl 0 rfl) ?_
  refine zi_ne (tgt := 473) hx hb (by decide) dL_isRefused_452 (by decide) (fun c_452_25 => ?_) (fun c_452_25 => (show False by omega).elim)
  refine lv_iload hx hb dL_isRefused_473 (lv_at hl 0 rfl) ?_
  refine lv_iconst (v := nI 4) hx hb dL_isRefused_475 (by decide) ?_
  refine zb_le (tgt := 491) hx hb (by decide) (by decide) dL_isRefused_476 (by decide) (fun c_476_26 => ?_) (fun c_476_26 => (show False by omega).elim)
  refine lv_iload hx hb dL_isRefused_491 (lv_at hl 0 rfl) ?_
  refine lv_bipush (v := nI 10) hx hb dL_isRefused_493 (by decide) ?_
  refine zb_ne (tgt := 510) hx hb (by decide) (by decide) dL_isRefused_495 (by decide) (fun c_495_27 => ?_) (fun c_495_27 => (show False by omega).elim)
  refine lv_iload hx hb dL_isRefused_510 (lv_at hl 5 rfl) ?_
  refine lv_istore (lv' := [(10, .int (nI 1)), (9, .int (nI 3)), (8, .int (nI 1)), (6, .long (allZ sm fe ex dy ya ys)), (5, .int (nI 1)), (4, .int (nI 1)), (3, .int (nI 0)), (0, .ref (ad 0)), (1, .ref w9), (2, .int (nI 1))]) hx hb dL_isRefused_512 hl (by decide) rfl (fun ls hl => ?_)
  refine lv_aload_n hx hb dL_isRefused_514 rfl (lv_at hl 7 rfl) ?_
  refine lv_iload hx hb dL_isRefused_515 (lv_at hl 1 rfl) ?_
  refine lv_iload hx hb dL_isRefused_517 (lv_at hl 0 rfl) ?_
  refine lv_iconst (v := (-1)) hx hb dL_isRefused_519 (by decide) ?_
  refine k_of_3_1_m1 l hfl hx hb hml hown hts hK hP gL_isRefused_L_of ⟨Nat.le_of_ble_eq_true rfl, Nat.le_of_ble_eq_true rfl⟩ ⟨Nat.le_of_ble_eq_true rfl, Nat.le_of_ble_eq_true rfl⟩ hl.1 (Nat.le_of_ble_eq_true rfl) dL_isRefused_520 hT hN hS (fun H locs hS hz hk => ?_)
  have hP := hP.kept (fun k q h => hk q.1 (hP k q h).lt)
  have hT := hT.kept (fun a h _ => hk a h)
  have hz9 : sz + 21 ≤ H.size := by omega
  clear hz hk
  refine lv_iload hx hb dL_isRefused_523 (lv_at hl 1 rfl) ?_
  refine lv_bipush (v := nI 10) hx hb dL_isRefused_525 (by decide) ?_
  refine zb_ne (tgt := 535) hx hb (by decide) (by decide) dL_isRefused_527 (by decide) (fun c_527_28 => ?_) (fun c_527_28 => (show False by omega).elim)
  refine lv_ldc hx hb hown hk44 dL_isRefused_535 ?_
  refine lv_icmp_ne (tgt := 544) hx hb dL_isRefused_537 (by decide) (fun c_537_29 => (show False by exact absurd c_537_29 (by decide)).elim) (fun c_537_29 => ?_)
  refine lv_iconst (v := nI 1) hx hb dL_isRefused_540 (by decide) ?_
  refine lv_goto (tgt := 545) hx hb dL_isRefused_541 (by decide) ?_
  refine lv_istore (lv' := [(8, .int (nI 1)), (10, .int (nI 1)), (9, .int (nI 3)), (6, .long (allZ sm fe ex dy ya ys)), (5, .int (nI 1)), (4, .int (nI 1)), (3, .int (nI 0)), (0, .ref (ad 0)), (1, .ref w9), (2, .int (nI 1))]) hx hb dL_isRefused_545 hl (by decide) rfl (fun ls hl => ?_)
  refine lv_iinc (v := nI 4) (lv' := [(9, .int (nI 4)), (8, .int (nI 1)), (10, .int (nI 1)), (6, .long (allZ sm fe ex dy ya ys)), (5, .int (nI 1)), (4, .int (nI 1)), (3, .int (nI 0)), (0, .ref (ad 0)), (1, .ref w9), (2, .int (nI 1))]) hx hb dL_isRefused_547 hl (k := 2) rfl (zz_inc _) (by decide) rfl (fun ls hl => ?_)
  refine lv_goto (tgt := 438) hx hb dL_isRefused_550 (by decide) ?_
  refine lv_iload hx hb dL_isRefused_438 (lv_at hl 0 rfl) ?_
  refine lv_bipush (v := nI 11) hx hb dL_isRefused_440 (by decide) ?_
  refine zb_ge (tgt := 553) hx hb (by decide) (by decide) dL_isRefused_442 (by decide) (fun c_442_30 => (show False by omega).elim) (fun c_442_30 => ?_)
  refine lv_iload hx hb dL_isRefused_445 (lv_at hl 1 rfl) ?_
  refine zi_eq (tgt := 553) hx hb (by decide) dL_isRefused_447 (by decide) (fun c_447_31 => (show False by omega).elim) (fun c_447_31 => ?_)
  refine lv_iload hx hb dL_isRefused_450 (lv_at hl 0 rfl) ?_
  refine zi_ne (tgt := 473) hx hb (by decide) dL_isRefused_452 (by decide) (fun c_452_32 => ?_) (fun c_452_32 => (show False by omega).elim)
  refine lv_iload hx hb dL_isRefused_473 (lv_at hl 0 rfl) ?_
  refine lv_iconst (v := nI 4) hx hb dL_isRefused_475 (by decide) ?_
  refine zb_le (tgt := 491) hx hb (by decide) (by decide) dL_isRefused_476 (by decide) (fun c_476_33 => ?_) (fun c_476_33 => (show False by omega).elim)
  refine lv_iload hx hb dL_isRefused_491 (lv_at hl 0 rfl) ?_
  refine lv_bipush (v := nI 10) hx hb dL_isRefused_493 (by decide) ?_
  refine zb_ne (tgt := 510) hx hb (by decide) (by decide) dL_isRefused_495 (by decide) (fun c_495_34 => ?_) (fun c_495_34 => (show False by omega).elim)
  refine lv_iload hx hb dL_isRefused_510 (lv_at hl 5 rfl) ?_
  refine lv_istore (lv' := [(10, .int (nI 1)), (9, .int (nI 4)), (8, .int (nI 1)), (6, .long (allZ sm fe ex dy ya ys)), (5, .int (nI 1)), (4, .int (nI 1)), (3, .int (nI 0)), (0, .ref (ad 0)), (1, .ref w9), (2, .int (nI 1))]) hx hb dL_isRefused_512 hl (by decide) rfl (fun ls hl => ?_)
  refine lv_aload_n hx hb dL_isRefused_514 rfl (lv_at hl 7 rfl) ?_
  refine lv_iload hx hb dL_isRefused_515 (lv_at hl 1 rfl) ?_
  refine lv_iload hx hb dL_isRefused_517 (lv_at hl 0 rfl) ?_
  refine lv_iconst (v := (-1)) hx hb dL_isRefused_519 (by decide) ?_
  refine k_of_4_1_m1 l hfl hx hb hml hown hts hK hP gL_isRefused_L_of ⟨Nat.le_of_ble_eq_true rfl, Nat.le_of_ble_eq_true rfl⟩ ⟨Nat.le_of_ble_eq_true rfl, Nat.le_of_ble_eq_true rfl⟩ hl.1 (Nat.le_of_ble_eq_true rfl) dL_isRefused_520 hT hN hS (fun H locs hS hz hk => ?_)
  have hP := hP.kept (fun k q h => hk q.1 (hP k q h).lt)
  have hT := hT.kept (fun a h _ => hk a h)
  have hz9 : sz + 22 ≤ H.size := by omega
  clear hz hk
  refine lv_iload hx hb dL_isRefused_523 (lv_at hl 1 rfl) ?_
  refine lv_bipush (v := nI 10) hx hb dL_isRefused_525 (by decide) ?_
  refine zb_ne (tgt := 535) hx hb (by decide) (by decide) dL_isRefused_527 (by decide) (fun c_527_35 => ?_) (fun c_527_35 => (show False by omega).elim)
  refine lv_ldc hx hb hown hk44 dL_isRefused_535 ?_
  refine lv_icmp_ne (tgt := 544) hx hb dL_isRefused_537 (by decide) (fun c_537_36 => (show False by exact absurd c_537_36 (by decide)).elim) (fun c_537_36 => ?_)
  refine lv_iconst (v := nI 1) hx hb dL_isRefused_540 (by decide) ?_
  refine lv_goto (tgt := 545) hx hb dL_isRefused_541 (by decide) ?_
  refine lv_istore (lv' := [(8, .int (nI 1)), (10, .int (nI 1)), (9, .int (nI 4)), (6, .long (allZ sm fe ex dy ya ys)), (5, .int (nI 1)), (4, .int (nI 1)), (3, .int (nI 0)), (0, .ref (ad 0)), (1, .ref w9), (2, .int (nI 1))]) hx hb dL_isRefused_545 hl (by decide) rfl (fun ls hl => ?_)
  refine lv_iinc (v := nI 5) (lv' := [(9, .int (nI 5)), (8, .int (nI 1)), (10, .int (nI 1)), (6, .long (allZ sm fe ex dy ya ys)), (5, .int (nI 1)), (4, .int (nI 1)), (3, .int (nI 0)), (0, .ref (ad 0)), (1, .ref w9), (2, .int (nI 1))]) hx hb dL_isRefused_547 hl (k := 2) rfl (zz_inc _) (by decide) rfl (fun ls hl => ?_)
  refine lv_goto (tgt := 438) hx hb dL_isRefused_550 (by decide) ?_
  refine lv_iload hx hb dL_isRefused_438 (lv_at hl 0 rfl) ?_
  refine lv_bipush (v := nI 11) hx hb dL_isRefused_440 (by decide) ?_
  refine zb_ge (tgt := 553) hx hb (by decide) (by decide) dL_isRefused_442 (by decide) (fun c_442_37 => (show False by omega).elim) (fun c_442_37 => ?_)
  refine lv_iload hx hb dL_isRefused_445 (lv_at hl 1 rfl) ?_
  refine zi_eq (tgt := 553) hx hb (by decide) dL_isRefused_447 (by decide) (fun c_447_38 => (show False by omega).elim) (fun c_447_38 => ?_)
  refine lv_iload hx hb dL_isRefused_450 (lv_at hl 0 rfl) ?_
  refine zi_ne (tgt := 473) hx hb (by decide) dL_isRefused_452 (by decide) (fun c_452_39 => ?_) (fun c_452_39 => (show False by omega).elim)
  refine lv_iload hx hb dL_isRefused_473 (lv_at hl 0 rfl) ?_
  refine lv_iconst (v := nI 4) hx hb dL_isRefused_475 (by decide) ?_
  refine zb_le (tgt := 491) hx hb (by decide) (by decide) dL_isRefused_476 (by decide) (fun c_476_40 => (show False by omega).elim) (fun c_476_40 => ?_)
  refine lv_iload hx hb dL_isRefused_479 (lv_at hl 0 rfl) ?_
  refine lv_bipush (v := nI 8) hx hb dL_isRefused_481 (by decide) ?_
  refine zb_ge (tgt := 491) hx hb (by decide) (by decide) dL_isRefused_483 (by decide) (fun c_483 => (show False by omega).elim) (fun c_483 => ?_)
  refine lv_iload hx hb dL_isRefused_486 (lv_at hl 4 rfl) ?_
  refine lv_goto (tgt := 512) hx hb dL_isRefused_488 (by decide) ?_
  refine lv_istore (lv' := [(10, .int (nI 1)), (9, .int (nI 5)), (8, .int (nI 1)), (6, .long (allZ sm fe ex dy ya ys)), (5, .int (nI 1)), (4, .int (nI 1)), (3, .int (nI 0)), (0, .ref (ad 0)), (1, .ref w9), (2, .int (nI 1))]) hx hb dL_isRefused_512 hl (by decide) rfl (fun ls hl => ?_)
  refine lv_aload_n hx hb dL_isRefused_514 rfl (lv_at hl 7 rfl) ?_
  refine lv_iload hx hb dL_isRefused_515 (lv_at hl 1 rfl) ?_
  refine lv_iload hx hb dL_isRefused_517 (lv_at hl 0 rfl) ?_
  refine lv_iconst (v := (-1)) hx hb dL_isRefused_519 (by decide) ?_
  refine k_of_5_1_m1 l hfl hx hb hml hown hts hK hP gL_isRefused_L_of ⟨Nat.le_of_ble_eq_true rfl, Nat.le_of_ble_eq_true rfl⟩ ⟨Nat.le_of_ble_eq_true rfl, Nat.le_of_ble_eq_true rfl⟩ hl.1 (Nat.le_of_ble_eq_true rfl) dL_isRefused_520 hT hN hS (fun H locs hS hz hk => ?_)
  have hP := hP.kept (fun k q h => hk q.1 (hP k q h).lt)
  have hT := hT.kept (fun a h _ => hk a h)
  have hz9 : sz + 23 ≤ H.size := by omega
  clear hz hk
  refine lv_iload hx hb dL_isRefused_523 (lv_at hl 1 rfl) ?_
  refine lv_bipush (v := nI 10) hx hb dL_isRefused_525 (by decide) ?_
  refine zb_ne (tgt := 535) hx hb (by decide) (by decide) dL_isRefused_527 (by decide) (fun c_527_41 => ?_) (fun c_527_41 => (show False by omega).elim)
  refine lv_ldc hx hb hown hk44 dL_isRefused_535 ?_
  refine lv_icmp_ne (tgt := 544) hx hb dL_isRefused_537 (by decide) (fun c_537_42 => (show False by exact absurd c_537_42 (by decide)).elim) (fun c_537_42 => ?_)
  refine lv_iconst (v := nI 1) hx hb dL_isRefused_540 (by decide) ?_
  refine lv_goto (tgt := 545) hx hb dL_isRefused_541 (by decide) ?_
  refine lv_istore (lv' := [(8, .int (nI 1)), (10, .int (nI 1)), (9, .int (nI 5)), (6, .long (allZ sm fe ex dy ya ys)), (5, .int (nI 1)), (4, .int (nI 1)), (3, .int (nI 0)), (0, .ref (ad 0)), (1, .ref w9), (2, .int (nI 1))]) hx hb dL_isRefused_545 hl (by decide) rfl (fun ls hl => ?_)
  refine lv_iinc (v := nI 6) (lv' := [(9, .int (nI 6)), (8, .int (nI 1)), (10, .int (nI 1)), (6, .long (allZ sm fe ex dy ya ys)), (5, .int (nI 1)), (4, .int (nI 1)), (3, .int (nI 0)), (0, .ref (ad 0)), (1, .ref w9), (2, .int (nI 1))]) hx hb dL_isRefused_547 hl (k := 2) rfl (zz_inc _) (by decide) rfl (fun ls hl => ?_)
  refine lv_goto (tgt := 438) hx hb dL_isRefused_550 (by decide) ?_
  refine lv_iload hx hb dL_isRefused_438 (lv_at hl 0 rfl) ?_
  refine lv_bipush (v := nI 11) hx hb dL_isRefused_440 (by decide) ?_
  refine zb_ge (tgt := 553) hx hb (by decide) (by decide) dL_isRefused_442 (by decide) (fun c_442_43 => (show False by omega).elim) (fun c_442_43 => ?_)
  refine lv_iload hx hb dL_isRefused_445 (lv_at hl 1 rfl) ?_
  refine zi_eq (tgt := 553) hx hb (by decide) dL_isRefused_447 (by decide) (fun c_447_44 => (show False by omega).elim) (fun c_447_44 => ?_)
  refine lv_iload hx hb dL_isRefused_450 (lv_at hl 0 rfl) ?_
  refine zi_ne (tgt := 473) hx hb (by decide) dL_isRefused_452 (by decide) (fun c_452_45 => ?_) (fun c_452_45 => (show False by omega).elim)
  refine lv_iload hx hb dL_isRefused_473 (lv_at hl 0 rfl) ?_
  refine lv_iconst (v := nI 4) hx hb dL_isRefused_475 (by decide) ?_
  refine zb_le (tgt := 491) hx hb (by decide) (by decide) dL_isRefused_476 (by decide) (fun c_476_46 => (show False by omega).elim) (fun c_476_46 => ?_)
  refine lv_iload hx hb dL_isRefused_479 (lv_at hl 0 rfl) ?_
  refine lv_bipush (v := nI 8) hx hb dL_isRefused_481 (by decide) ?_
  refine zb_ge (tgt := 491) hx hb (by decide) (by decide) dL_isRefused_483 (by decide) (fun c_483_47 => (show False by omega).elim) (fun c_483_47 => ?_)
  refine lv_iload hx hb dL_isRefused_486 (lv_at hl 4 rfl) ?_
  refine lv_goto (tgt := 512) hx hb dL_isRefused_488 (by decide) ?_
  refine lv_istore (lv' := [(10, .int (nI 1)), (9, .int (nI 6)), (8, .int (nI 1)), (6, .long (allZ sm fe ex dy ya ys)), (5, .int (nI 1)), (4, .int (nI 1)), (3, .int (nI 0)), (0, .ref (ad 0)), (1, .ref w9), (2, .int (nI 1))]) hx hb dL_isRefused_512 hl (by decide) rfl (fun ls hl => ?_)
  refine lv_aload_n hx hb dL_isRefused_514 rfl (lv_at hl 7 rfl) ?_
  refine lv_iload hx hb dL_isRefused_515 (lv_at hl 1 rfl) ?_
  refine lv_iload hx hb dL_isRefused_517 (lv_at hl 0 rfl) ?_
  refine lv_iconst (v := (-1)) hx hb dL_isRefused_519 (by decide) ?_
  refine k_of_6_1_m1 l hfl hx hb hml hown hts hK hP gL_isRefused_L_of ⟨Nat.le_of_ble_eq_true rfl, Nat.le_of_ble_eq_true rfl⟩ ⟨Nat.le_of_ble_eq_true rfl, Nat.le_of_ble_eq_true rfl⟩ hl.1 (Nat.le_of_ble_eq_true rfl) dL_isRefused_520 hT hN hS (fun H locs hS hz hk => ?_)
  have hP := hP.kept (fun k q h => hk q.1 (hP k q h).lt)
  have hT := hT.kept (fun a h _ => hk a h)
  have hz9 : sz + 24 ≤ H.size := by omega
  clear hz hk
  refine lv_iload hx hb dL_isRefused_523 (lv_at hl 1 rfl) ?_
  refine lv_bipush (v := nI 10) hx hb dL_isRefused_525 (by decide) ?_
  refine zb_ne (tgt := 535) hx hb (by decide) (by decide) dL_isRefused_527 (by decide) (fun c_527_48 => ?_) (fun c_527_48 => (show False by omega).elim)
  refine lv_ldc hx hb hown hk44 dL_isRefused_535 ?_
  refine lv_icmp_ne (tgt := 544) hx hb dL_isRefused_537 (by decide) (fun c_537_49 => (show False by exact absurd c_537_49 (by decide)).elim) (fun c_537_49 => ?_)
  refine lv_iconst (v := nI 1) hx hb dL_isRefused_540 (by decide) ?_
  refine lv_goto (tgt := 545) hx hb dL_isRefused_541 (by decide) ?_
  refine lv_istore (lv' := [(8, .int (nI 1)), (10, .int (nI 1)), (9, .int (nI 6)), (6, .long (allZ sm fe ex dy ya ys)), (5, .int (nI 1)), (4, .int (nI 1)), (3, .int (nI 0)), (0, .ref (ad 0)), (1, .ref w9), (2, .int (nI 1))]) hx hb dL_isRefused_545 hl (by decide) rfl (fun ls hl => ?_)
  refine lv_iinc (v := nI 7) (lv' := [(9, .int (nI 7)), (8, .int (nI 1)), (10, .int (nI 1)), (6, .long (allZ sm fe ex dy ya ys)), (5, .int (nI 1)), (4, .int (nI 1)), (3, .int (nI 0)), (0, .ref (ad 0)), (1, .ref w9), (2, .int (nI 1))]) hx hb dL_isRefused_547 hl (k := 2) rfl (zz_inc _) (by decide) rfl (fun ls hl => ?_)
  refine lv_goto (tgt := 438) hx hb dL_isRefused_550 (by decide) ?_
  refine lv_iload hx hb dL_isRefused_438 (lv_at hl 0 rfl) ?_
  refine lv_bipush (v := nI 11) hx hb dL_isRefused_440 (by decide) ?_
  refine zb_ge (tgt := 553) hx hb (by decide) (by decide) dL_isRefused_442 (by decide) (fun c_442_50 => (show False by omega).elim) (fun c_442_50 => ?_)
  refine lv_iload hx hb dL_isRefused_445 (lv_at hl 1 rfl) ?_
  refine zi_eq (tgt := 553) hx hb (by decide) dL_isRefused_447 (by decide) (fun c_447_51 => (show False by omega).elim) (fun c_447_51 => ?_)
  refine lv_iload hx hb dL_isRefused_450 (lv_at hl 0 rfl) ?_
  refine zi_ne (tgt := 473) hx hb (by decide) dL_isRefused_452 (by decide) (fun c_452_52 => ?_) (fun c_452_52 => (show False by omega).elim)
  refine lv_iload hx hb dL_isRefused_473 (lv_at hl 0 rfl) ?_
  refine lv_iconst (v := nI 4) hx hb dL_isRefused_475 (by decide) ?_
  refine zb_le (tgt := 491) hx hb (by decide) (by decide) dL_isRefused_476 (by decide) (fun c_476_53 => (show False by omega).elim) (fun c_476_53 => ?_)
  refine lv_iload hx hb dL_isRefused_479 (lv_at hl 0 rfl) ?_
  refine lv_bipush (v := nI 8) hx hb dL_isRefused_481 (by decide) ?_
  refine zb_ge (tgt := 491) hx hb (by decide) (by decide) dL_isRefused_483 (by decide) (fun c_483_54 => (show False by omega).elim) (fun c_483_54 => ?_)
  refine lv_iload hx hb dL_isRefused_486 (lv_at hl 4 rfl) ?_
  refine lv_goto (tgt := 512) hx hb dL_isRefused_488 (by decide) ?_
  refine lv_istore (lv' := [(10, .int (nI 1)), (9, .int (nI 7)), (8, .int (nI 1)), (6, .long (allZ sm fe ex dy ya ys)), (5, .int (nI 1)), (4, .int (nI 1)), (3, .int (nI 0)), (0, .ref (ad 0)), (1, .ref w9), (2, .int (nI 1))]) hx hb dL_isRefused_512 hl (by decide) rfl (fun ls hl => ?_)
  refine lv_aload_n hx hb dL_isRefused_514 rfl (lv_at hl 7 rfl) ?_
  refine lv_iload hx hb dL_isRefused_515 (lv_at hl 1 rfl) ?_
  refine lv_iload hx hb dL_isRefused_517 (lv_at hl 0 rfl) ?_
  refine lv_iconst (v := (-1)) hx hb dL_isRefused_519 (by decide) ?_
  refine k_of_7_1_m1 l hfl hx hb hml hown hts hK hP gL_isRefused_L_of ⟨Nat.le_of_ble_eq_true rfl, Nat.le_of_ble_eq_true rfl⟩ ⟨Nat.le_of_ble_eq_true rfl, Nat.le_of_ble_eq_true rfl⟩ hl.1 (Nat.le_of_ble_eq_true rfl) dL_isRefused_520 hT hN hS (fun H locs hS hz hk => ?_)
  have hP := hP.kept (fun k q h => hk q.1 (hP k q h).lt)
  have hT := hT.kept (fun a h _ => hk a h)
  have hz9 : sz + 25 ≤ H.size := by omega
  clear hz hk
  refine lv_iload hx hb dL_isRefused_523 (lv_at hl 1 rfl) ?_
  refine lv_bipush (v := nI 10) hx hb dL_isRefused_525 (by decide) ?_
  refine zb_ne (tgt := 535) hx hb (by decide) (by decide) dL_isRefused_527 (by decide) (fun c_527_55 => ?_) (fun c_527_55 => (show False by omega).elim)
  refine lv_ldc hx hb hown hk44 dL_isRefused_535 ?_
  refine lv_icmp_ne (tgt := 544) hx hb dL_isRefused_537 (by decide) (fun c_537_56 => (show False by exact absurd c_537_56 (by decide)).elim) (fun c_537_56 => ?_)
  refine lv_iconst (v := nI 1) hx hb dL_isRefused_540 (by decide) ?_
  refine lv_goto (tgt := 545) hx hb dL_isRefused_541 (by decide) ?_
  refine lv_istore (lv' := [(8, .int (nI 1)), (10, .int (nI 1)), (9, .int (nI 7)), (6, .long (allZ sm fe ex dy ya ys)), (5, .int (nI 1)), (4, .int (nI 1)), (3, .int (nI 0)), (0, .ref (ad 0)), (1, .ref w9), (2, .int (nI 1))]) hx hb dL_isRefused_545 hl (by decide) rfl (fun ls hl => ?_)
  refine lv_iinc (v := nI 8) (lv' := [(9, .int (nI 8)), (8, .int (nI 1)), (10, .int (nI 1)), (6, .long (allZ sm fe ex dy ya ys)), (5, .int (nI 1)), (4, .int (nI 1)), (3, .int (nI 0)), (0, .ref (ad 0)), (1, .ref w9), (2, .int (nI 1))]) hx hb dL_isRefused_547 hl (k := 2) rfl (zz_inc _) (by decide) rfl (fun ls hl => ?_)
  refine lv_goto (tgt := 438) hx hb dL_isRefused_550 (by decide) ?_
  refine lv_iload hx hb dL_isRefused_438 (lv_at hl 0 rfl) ?_
  refine lv_bipush (v := nI 11) hx hb dL_isRefused_440 (by decide) ?_
  refine zb_ge (tgt := 553) hx hb (by decide) (by decide) dL_isRefused_442 (by decide) (fun c_442_57 => (show False by omega).elim) (fun c_442_57 => ?_)
  refine lv_iload hx hb dL_isRefused_445 (lv_at hl 1 rfl) ?_
  refine zi_eq (tgt := 553) hx hb (by decide) dL_isRefused_447 (by decide) (fun c_447_58 => (show False by omega).elim) (fun c_447_58 => ?_)
  refine lv_iload hx hb dL_isRefused_450 (lv_at hl 0 rfl) ?_
  refine zi_ne (tgt := 473) hx hb (by decide) dL_isRefused_452 (by decide) (fun c_452_59 => ?_) (fun c_452_59 => (show False by omega).elim)
  refine lv_iload hx hb dL_isRefused_473 (lv_at hl 0 rfl) ?_
  refine lv_iconst (v := nI 4) hx hb dL_isRefused_475 (by decide) ?_
  refine zb_le (tgt := 491) hx hb (by decide) (by decide) dL_isRefused_476 (by decide) (fun c_476_60 => (show False by omega).elim) (fun c_476_60 => ?_)
  refine lv_iload hx hb dL_isRefused_479 (lv_at hl 0 rfl) ?_
  refine lv_bipush (v := nI 8) hx hb dL_isRefused_481 (by decide) ?_
  refine zb_ge (tgt := 491) hx hb (by decide) (by decide) dL_isRefused_483 (by decide) (fun c_483_61 => ?_) (fun c_483_61 => (show False by omega).elim)
  refine lv_iload hx hb dL_isRefused_491 (lv_at hl 0 rfl) ?_
  refine lv_bipush (v := nI 10) hx hb dL_isRefused_493 (by decide) ?_
  refine zb_ne (tgt := 510) hx hb (by decide) (by decide) dL_isRefused_495 (by decide) (fun c_495_62 => ?_) (fun c_495_62 => (show False by omega).elim)
  refine lv_iload hx hb dL_isRefused_510 (lv_at hl 5 rfl) ?_
  refine lv_istore (lv' := [(10, .int (nI 1)), (9, .int (nI 8)), (8, .int (nI 1)), (6, .long (allZ sm fe ex dy ya ys)), (5, .int (nI 1)), (4, .int (nI 1)), (3, .int (nI 0)), (0, .ref (ad 0)), (1, .ref w9), (2, .int (nI 1))]) hx hb dL_isRefused_512 hl (by decide) rfl (fun ls hl => ?_)
  refine lv_aload_n hx hb dL_isRefused_514 rfl (lv_at hl 7 rfl) ?_
  refine lv_iload hx hb dL_isRefused_515 (lv_at hl 1 rfl) ?_
  refine lv_iload hx hb dL_isRefused_517 (lv_at hl 0 rfl) ?_
  refine lv_iconst (v := (-1)) hx hb dL_isRefused_519 (by decide) ?_
  refine k_of_8_1_m1 l hfl hx hb hml hown hts hK hP gL_isRefused_L_of ⟨Nat.le_of_ble_eq_true rfl, Nat.le_of_ble_eq_true rfl⟩ ⟨Nat.le_of_ble_eq_true rfl, Nat.le_of_ble_eq_true rfl⟩ hl.1 (Nat.le_of_ble_eq_true rfl) dL_isRefused_520 hT hN hS (fun H locs hS hz hk => ?_)
  have hP := hP.kept (fun k q h => hk q.1 (hP k q h).lt)
  have hT := hT.kept (fun a h _ => hk a h)
  have hz9 : sz + 26 ≤ H.size := by omega
  clear hz hk
  refine lv_iload hx hb dL_isRefused_523 (lv_at hl 1 rfl) ?_
  refine lv_bipush (v := nI 10) hx hb dL_isRefused_525 (by decide) ?_
  refine zb_ne (tgt := 535) hx hb (by decide) (by decide) dL_isRefused_527 (by decide) (fun c_527_63 => ?_) (fun c_527_63 => (show False by omega).elim)
  refine lv_ldc hx hb hown hk44 dL_isRefused_535 ?_
  refine lv_icmp_ne (tgt := 544) hx hb dL_isRefused_537 (by decide) (fun c_537_64 => (show False by exact absurd c_537_64 (by decide)).elim) (fun c_537_64 => ?_)
  refine lv_iconst (v := nI 1) hx hb dL_isRefused_540 (by decide) ?_
  refine lv_goto (tgt := 545) hx hb dL_isRefused_541 (by decide) ?_
  refine lv_istore (lv' := [(8, .int (nI 1)), (10, .int (nI 1)), (9, .int (nI 8)), (6, .long (allZ sm fe ex dy ya ys)), (5, .int (nI 1)), (4, .int (nI 1)), (3, .int (nI 0)), (0, .ref (ad 0)), (1, .ref w9), (2, .int (nI 1))]) hx hb dL_isRefused_545 hl (by decide) rfl (fun ls hl => ?_)
  refine lv_iinc (v := nI 9) (lv' := [(9, .int (nI 9)), (8, .int (nI 1)), (10, .int (nI 1)), (6, .long (allZ sm fe ex dy ya ys)), (5, .int (nI 1)), (4, .int (nI 1)), (3, .int (nI 0)), (0, .ref (ad 0)), (1, .ref w9), (2, .int (nI 1))]) hx hb dL_isRefused_547 hl (k := 2) rfl (zz_inc _) (by decide) rfl (fun ls hl => ?_)
  refine lv_goto (tgt := 438) hx hb dL_isRefused_550 (by decide) ?_
  refine lv_iload hx hb dL_isRefused_438 (lv_at hl 0 rfl) ?_
  refine lv_bipush (v := nI 11) hx hb dL_isRefused_440 (by decide) ?_
  refine zb_ge (tgt := 553) hx hb (by decide) (by decide) dL_isRefused_442 (by decide) (fun c_442_65 => (show False by omega).elim) (fun c_442_65 => ?_)
  refine lv_iload hx hb dL_isRefused_445 (lv_at hl 1 rfl) ?_
  refine zi_eq (tgt := 553) hx hb (by decide) dL_isRefused_447 (by decide) (fun c_447_66 => (show False by omega).elim) (fun c_447_66 => ?_)
  refine lv_iload hx hb dL_isRefused_450 (lv_at hl 0 rfl) ?_
  refine zi_ne (tgt := 473) hx hb (by decide) dL_isRefused_452 (by decide) (fun c_452_67 => ?_) (fun c_452_67 => (show False by omega).elim)
  refine lv_iload hx hb dL_isRefused_473 (lv_at hl 0 rfl) ?_
  refine lv_iconst (v := nI 4) hx hb dL_isRefused_475 (by decide) ?_
  refine zb_le (tgt := 491) hx hb (by decide) (by decide) dL_isRefused_476 (by decide) (fun c_476_68 => (show False by omega).elim) (fun c_476_68 => ?_)
  refine lv_iload hx hb dL_isRefused_479 (lv_at hl 0 rfl) ?_
  refine lv_bipush (v := nI 8) hx hb dL_isRefused_481 (by decide) ?_
  refine zb_ge (tgt := 491) hx hb (by decide) (by decide) dL_isRefused_483 (by decide) (fun c_483_69 => ?_) (fun c_483_69 => (show False by omega).elim)
  refine lv_iload hx hb dL_isRefused_491 (lv_at hl 0 rfl) ?_
  refine lv_bipush (v := nI 10) hx hb dL_isRefused_493 (by decide) ?_
  refine zb_ne (tgt := 510) hx hb (by decide) (by decide) dL_isRefused_495 (by decide) (fun c_495_70 => ?_) (fun c_495_70 => (show False by omega).elim)
  refine lv_iload hx hb dL_isRefused_510 (lv_at hl 5 rfl) ?_
  refine lv_istore (lv' := [(10, .int (nI 1)), (9, .int (nI 9)), (8, .int (nI 1)), (6, .long (allZ sm fe ex dy ya ys)), (5, .int (nI 1)), (4, .int (nI 1)), (3, .int (nI 0)), (0, .ref (ad 0)), (1, .ref w9), (2, .int (nI 1))]) hx hb dL_isRefused_512 hl (by decide) rfl (fun ls hl => ?_)
  refine lv_aload_n hx hb dL_isRefused_514 rfl (lv_at hl 7 rfl) ?_
  refine lv_iload hx hb dL_isRefused_515 (lv_at hl 1 rfl) ?_
  refine lv_iload hx hb dL_isRefused_517 (lv_at hl 0 rfl) ?_
  refine lv_iconst (v := (-1)) hx hb dL_isRefused_519 (by decide) ?_
  refine k_of_9_1_m1 l hfl hx hb hml hown hts hK hP gL_isRefused_L_of ⟨Nat.le_of_ble_eq_true rfl, Nat.le_of_ble_eq_true rfl⟩ ⟨Nat.le_of_ble_eq_true rfl, Nat.le_of_ble_eq_true rfl⟩ hl.1 (Nat.le_of_ble_eq_true rfl) dL_isRefused_520 hT hN hS (fun H locs hS hz hk => ?_)
  have hP := hP.kept (fun k q h => hk q.1 (hP k q h).lt)
  have hT := hT.kept (fun a h _ => hk a h)
  have hz9 : sz + 27 ≤ H.size := by omega
  clear hz hk
  refine lv_iload hx hb dL_isRefused_523 (lv_at hl 1 rfl) ?_
  refine lv_bipush (v := nI 10) hx hb dL_isRefused_525 (by decide) ?_
  refine zb_ne (tgt := 535) hx hb (by decide) (by decide) dL_isRefused_527 (by decide) (fun c_527_71 => ?_) (fun c_527_71 => (show False by omega).elim)
  refine lv_ldc hx hb hown hk44 dL_isRefused_535 ?_
  refine lv_icmp_ne (tgt := 544) hx hb dL_isRefused_537 (by decide) (fun c_537_72 => (show False by exact absurd c_537_72 (by decide)).elim) (fun c_537_72 => ?_)
  refine lv_iconst (v := nI 1) hx hb dL_isRefused_540 (by decide) ?_
  refine lv_goto (tgt := 545) hx hb dL_isRefused_541 (by decide) ?_
  refine lv_istore (lv' := [(8, .int (nI 1)), (10, .int (nI 1)), (9, .int (nI 9)), (6, .long (allZ sm fe ex dy ya ys)), (5, .int (nI 1)), (4, .int (nI 1)), (3, .int (nI 0)), (0, .ref (ad 0)), (1, .ref w9), (2, .int (nI 1))]) hx hb dL_isRefused_545 hl (by decide) rfl (fun ls hl => ?_)
  refine lv_iinc (v := nI 10) (lv' := [(9, .int (nI 10)), (8, .int (nI 1)), (10, .int (nI 1)), (6, .long (allZ sm fe ex dy ya ys)), (5, .int (nI 1)), (4, .int (nI 1)), (3, .int (nI 0)), (0, .ref (ad 0)), (1, .ref w9), (2, .int (nI 1))]) hx hb dL_isRefused_547 hl (k := 2) rfl (zz_inc _) (by decide) rfl (fun ls hl => ?_)
  refine lv_goto (tgt := 438) hx hb dL_isRefused_550 (by decide) ?_
  refine lv_iload hx hb dL_isRefused_438 (lv_at hl 0 rfl) ?_
  refine lv_bipush (v := nI 11) hx hb dL_isRefused_440 (by decide) ?_
  refine zb_ge (tgt := 553) hx hb (by decide) (by decide) dL_isRefused_442 (by decide) (fun c_442_73 => (show False by omega).elim) (fun c_442_73 => ?_)
  refine lv_iload hx hb dL_isRefused_445 (lv_at hl 1 rfl) ?_
  refine zi_eq (tgt := 553) hx hb (by decide) dL_isRefused_447 (by decide) (fun c_447_74 => (show False by omega).elim) (fun c_447_74 => ?_)
  refine lv_iload hx hb dL_isRefused_450 (lv_at hl 0 rfl) ?_
  refine zi_ne (tgt := 473) hx hb (by decide) dL_isRefused_452 (by decide) (fun c_452_75 => ?_) (fun c_452_75 => (show False by omega).elim)
  refine lv_iload hx hb dL_isRefused_473 (lv_at hl 0 rfl) ?_
  refine lv_iconst (v := nI 4) hx hb dL_isRefused_475 (by decide) ?_
  refine zb_le (tgt := 491) hx hb (by decide) (by decide) dL_isRefused_476 (by decide) (fun c_476_76 => (show False by omega).elim) (fun c_476_76 => ?_)
  refine lv_iload hx hb dL_isRefused_479 (lv_at hl 0 rfl) ?_
  refine lv_bipush (v := nI 8) hx hb dL_isRefused_481 (by decide) ?_
  refine zb_ge (tgt := 491) hx hb (by decide) (by decide) dL_isRefused_483 (by decide) (fun c_483_77 => ?_) (fun c_483_77 => (show False by omega).elim)
  refine lv_iload hx hb dL_isRefused_491 (lv_at hl 0 rfl) ?_
  refine lv_bipush (v := nI 10) hx hb dL_isRefused_493 (by decide) ?_
  refine zb_ne (tgt := 510) hx hb (by decide) (by decide) dL_isRefused_495 (by decide) (fun c_495_78 => (show False by omega).elim) (fun c_495_78 => ?_)
  refine lv_iload_n hx hb dL_isRefused_498 rfl (lv_at hl 6 rfl) ?_
  refine zi_eq (tgt := 506) hx hb (by decide) dL_isRefused_499 (by decide) (fun c_499 => ?_) (fun c_499 => (show False by omega).elim)
  refine lv_iconst (v := nI 4) hx hb dL_isRefused_506 (by decide) ?_
  refine lv_goto (tgt := 512) hx hb dL_isRefused_507 (by decide) ?_
  refine lv_istore (lv' := [(10, .int (nI 4)), (9, .int (nI 10)), (8, .int (nI 1)), (6, .long (allZ sm fe ex dy ya ys)), (5, .int (nI 1)), (4, .int (nI 1)), (3, .int (nI 0)), (0, .ref (ad 0)), (1, .ref w9), (2, .int (nI 1))]) hx hb dL_isRefused_512 hl (by decide) rfl (fun ls hl => ?_)
  refine lv_aload_n hx hb dL_isRefused_514 rfl (lv_at hl 7 rfl) ?_
  refine lv_iload hx hb dL_isRefused_515 (lv_at hl 1 rfl) ?_
  refine lv_iload hx hb dL_isRefused_517 (lv_at hl 0 rfl) ?_
  refine lv_iconst (v := (-1)) hx hb dL_isRefused_519 (by decide) ?_
  refine k_of_10_4_m1 l hfl hx hb hml hown hts hK hP gL_isRefused_L_of ⟨Nat.le_of_ble_eq_true rfl, Nat.le_of_ble_eq_true rfl⟩ ⟨Nat.le_of_ble_eq_true rfl, Nat.le_of_ble_eq_true rfl⟩ hl.1 (Nat.le_of_ble_eq_true rfl) dL_isRefused_520 hT hN hS (fun H locs hS hz hk => ?_)
  have hP := hP.kept (fun k q h => hk q.1 (hP k q h).lt)
  have hT := hT.kept (fun a h _ => hk a h)
  have hz9 : sz + 28 ≤ H.size := by omega
  clear hz hk
  refine lv_iload hx hb dL_isRefused_523 (lv_at hl 1 rfl) ?_
  refine lv_bipush (v := nI 10) hx hb dL_isRefused_525 (by decide) ?_
  refine zb_ne (tgt := 535) hx hb (by decide) (by decide) dL_isRefused_527 (by decide) (fun c_527_79 => (show False by omega).elim) (fun c_527_79 => ?_)
  refine lv_ldc hx hb hown hk47 dL_isRefused_530 ?_
  refine lv_goto (tgt := 537) hx hb dL_isRefused_532 (by decide) ?_
  refine lv_icmp_ne (tgt := 544) hx hb dL_isRefused_537 (by decide) (fun c_537_80 => (show False by exact absurd c_537_80 (by decide)).elim) (fun c_537_80 => ?_)
  refine lv_iconst (v := nI 1) hx hb dL_isRefused_540 (by decide) ?_
  refine lv_goto (tgt := 545) hx hb dL_isRefused_541 (by decide) ?_
  refine lv_istore (lv' := [(8, .int (nI 1)), (10, .int (nI 4)), (9, .int (nI 10)), (6, .long (allZ sm fe ex dy ya ys)), (5, .int (nI 1)), (4, .int (nI 1)), (3, .int (nI 0)), (0, .ref (ad 0)), (1, .ref w9), (2, .int (nI 1))]) hx hb dL_isRefused_545 hl (by decide) rfl (fun ls hl => ?_)
  refine lv_iinc (v := nI 11) (lv' := [(9, .int (nI 11)), (8, .int (nI 1)), (10, .int (nI 4)), (6, .long (allZ sm fe ex dy ya ys)), (5, .int (nI 1)), (4, .int (nI 1)), (3, .int (nI 0)), (0, .ref (ad 0)), (1, .ref w9), (2, .int (nI 1))]) hx hb dL_isRefused_547 hl (k := 2) rfl (zz_inc _) (by decide) rfl (fun ls hl => ?_)
  refine lv_goto (tgt := 438) hx hb dL_isRefused_550 (by decide) ?_
  refine lv_iload hx hb dL_isRefused_438 (lv_at hl 0 rfl) ?_
  refine lv_bipush (v := nI 11) hx hb dL_isRefused_440 (by decide) ?_
  refine zb_ge (tgt := 553) hx hb (by decide) (by decide) dL_isRefused_442 (by decide) (fun c_442_81 => ?_) (fun c_442_81 => (show False by omega).elim)
  refine lv_iconst (v := nI 0) hx hb dL_isRefused_553 (by decide) ?_
  refine lv_istore (lv' := [(9, .int (nI 0)), (8, .int (nI 1)), (10, .int (nI 4)), (6, .long (allZ sm fe ex dy ya ys)), (5, .int (nI 1)), (4, .int (nI 1)), (3, .int (nI 0)), (0, .ref (ad 0)), (1, .ref w9), (2, .int (nI 1))]) hx hb dL_isRefused_554 hl (by decide) rfl (fun ls hl => ?_)
  refine lv_iload hx hb dL_isRefused_556 (lv_at hl 0 rfl) ?_
  refine lv_aload_n hx hb dL_isRefused_558 rfl (lv_at hl 7 rfl) ?_
  refine k_X3_claims l  hx hb hml hown hts hK hP gL_isRefused_X3_claims ⟨Nat.le_of_ble_eq_true rfl, Nat.le_of_ble_eq_true rfl⟩ ⟨Nat.le_of_ble_eq_true rfl, Nat.le_of_ble_eq_true rfl⟩ hl.1 (Nat.le_of_ble_eq_true rfl) dL_isRefused_559 ?_
  refine zb_ge (tgt := 731) hx hb (by decide) (by decide) dL_isRefused_562 (by decide) (fun c_562 => ?_) (fun c_562 => (show False by omega).elim)
  refine lv_iconst (v := nI 0) hx hb dL_isRefused_731 (by decide) ?_
  refine lv_istore (lv' := [(9, .int (nI 0)), (8, .int (nI 1)), (10, .int (nI 4)), (6, .long (allZ sm fe ex dy ya ys)), (5, .int (nI 1)), (4, .int (nI 1)), (3, .int (nI 0)), (0, .ref (ad 0)), (1, .ref w9), (2, .int (nI 1))]) hx hb dL_isRefused_732 hl (by decide) rfl (fun ls hl => ?_)
  refine lv_iload hx hb dL_isRefused_734 (lv_at hl 0 rfl) ?_
  refine lv_aload_n hx hb dL_isRefused_736 rfl (lv_at hl 7 rfl) ?_
  refine k_X3_payments l  hx hb hml hown hts hK hP gL_isRefused_X3_payments ⟨Nat.le_of_ble_eq_true rfl, Nat.le_of_ble_eq_true rfl⟩ ⟨Nat.le_of_ble_eq_true rfl, Nat.le_of_ble_eq_true rfl⟩ hl.1 (Nat.le_of_ble_eq_true rfl) dL_isRefused_737 ?_
  refine zb_ge (tgt := 784) hx hb (by decide) (by decide) dL_isRefused_740 (by decide) (fun c_740 => ?_) (fun c_740 => (show False by omega).elim)
  refine lv_iload hx hb dL_isRefused_784 (lv_at hl 1 rfl) ?_
  refine zi_eq (tgt := 803) hx hb (by decide) dL_isRefused_786 (by decide) (fun c_786 => (show False by omega).elim) (fun c_786 => ?_)
  refine lv_aload_n hx hb dL_isRefused_789 rfl (lv_at hl 7 rfl) ?_
  refine k_L_all l  hx hb hml hown hts hK hP gL_isRefused_L_all ⟨Nat.le_of_ble_eq_true rfl, Nat.le_of_ble_eq_true rfl⟩ ⟨Nat.le_of_ble_eq_true rfl, Nat.le_of_ble_eq_true rfl⟩ hl.1 (Nat.le_of_ble_eq_true rfl) dL_isRefused_790 ?_
  refine lv_lload hx hb dL_isRefused_793 (lv_at hl 3 rfl) ?_
  refine W.lcmp hx hb dL_isRefused_795 ?_
  refine zg_ne (tgt := 803) hx hb dL_isRefused_796 (by decide) (fun c_796 => (show False by exact c_796 rfl).elim) (fun c_796 => ?_)
  refine lv_iconst (v := nI 1) hx hb dL_isRefused_799 (by decide) ?_
  refine lv_goto (tgt := 804) hx hb dL_isRefused_800 (by decide) ?_
  exact W.zret (v := nI 1) hx hb hr rfl (fun t ht hW => ⟨⟨nI 1, (), rfl, rfl, by show sz + 28 ≤ t.heap.size; rw [ht]; exact hz9⟩, hS.F ht⟩) hS.2.2 dL_isRefused_804
section
variable {p : Program} {e : Env} {R : Room} {s : State} {m : MethodId} {args : Array Value} {below : List Frame} {meth : Method} {c : Code} {H : Heap} {locs : List Loc} {cells slots : Nat} {Q : State → Prop} {cc : ByteArray} {pc : Nat} {ls : Array Slot} {rest : List Value} {own : String} {index nL : Nat} {Ts : List Cond} {H0 : Heap} {A0 : Nat → Prop}
theorem k_isRefused_1 (l : Launch) {dC : Nat → ClassId} {dI : Nat → Nat → Nat} {cI cZ : ClassId} {ad : Nat → Nat} {sm fe ex dy : Int32} {gp gc op gr st dl wo yc ya ys yd zc zp zr zs zf : Nat → Int32} {z : Nat} {zm zt : Int64} (hfl : l.stackTraces = false) (w9 : Nat) (hx : p.tables.exec = Jvm.exec) (hb : c.code = cc) (hml : c.maxLocals = nL) (hown : s.vm.findClass own = some m.cls) (hts : ∀ w ∈ Ts, w.before args s = true) (hK : va_K (dC, dI) vwCl [(cI, .int), (cZ, .boolean)] s) (hP : va_P (dC, dI) vwCl (wC cI cZ ad sm fe ex dy gp gc op gr st dl wo 0 yc ya ys yd 0 zc zp zr zs zf z zm zt) H) (hg9 : GoodIn Ts (va_wsS own index yL_isRefused wsL_isRefused)) (hR9 : 10 + 1 ≤ R.frames ∧ 8 + (11 + 11) + 180 ≤ R.locals) (hc9 : cells + 28 ≤ R.cells ∧ slots + 168 ≤ R.slots) (hl9 : ls.size = nL) (hw9 : (rest.map fun v => v.category).sum ≤ 8) (hdg : decode cc pc = .ok (.invokestatic index, 3)) (hT : tX (fun _ => False) s H) (hN : tN s) (hS : va_S A0 H0 H locs) (kk : ∀ (H1 : Heap) (locs1 : List Loc), va_S A0 H0 H1 locs1 → H.size + 28 ≤ H1.size → (∀ q : Nat, q < H.size → H1[q]? = H[q]?) → W p l e R s m args below meth c H1 locs1 (cells + 28) (slots + 168) Q (F0 m (pc + 3) ls (.int (nI 1) :: rest))) : W p l e R s m args below meth c H locs cells slots Q (F0 m pc ls (.int (nI 1) :: .ref w9 :: .ref (ad 0) :: rest)) := va_calli (va_runS (As := [.ref (ad 0), .ref w9, .int (nI 1)]) (rest := rest) ⟨hx, hb, hml, hown, hts⟩ (c_isRefused_1 (dC := dC) (dI := dI) (cI := cI) (cZ := cZ) (ad := ad) (sm := sm) (fe := fe) (ex := ex) (dy := dy) (gp := gp) (gc := gc) (op := op) (gr := gr) (st := st) (dl := dl) (wo := wo) (yc := yc) (ya := ya) (ys := ys) (yd := yd) (zc := zc) (zp := zp) (zr := zr) (zs := zs) (zf := zf) (z := z) (zm := zm) (zt := zt) l hfl w9 H.size) (va_cwS 3 hts hg9 rfl rfl rfl (by decide +kernel) hR9) ⟨fun a U g mk q => ⟨q.1, q.2.1, va_K.moved (u := U) (U := U.calling g mk a) (Vm.Alike.refl U.vm) q.2.2.1, tX.same (u := U) (U := U.calling g mk a) rfl q.2.2.2.1, tN.moved (u := U) (U := U.calling g mk a) (Vm.Alike.refl U.vm) q.2.2.2.2.1, q.2.2.2.2.2⟩, fun U hU hW => ⟨rfl, by rw [hU]; exact hP, va_K.moved hW.alike hK, by rw [hU]; exact tX.warm hW hT, tN.moved hW.alike hN, by rw [hU]⟩⟩ rfl rfl hl9 rfl (lv_room hw9) hdg hc9) hS (fun _ _ h => h.elim) (fun _ h => h.elim) (fun r u t H1 locs1 ht _ hu hB hz hk hS1 => by subst hu; rw [ht] at hB; exact kk H1 locs1 hS1 hB (fun q hq => hk q hq (fun h => h)))
end
